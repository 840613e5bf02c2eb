/-! the constructors -/
theorem dX0_init_0 : decode cX0_init 0 = .ok (.aload_n 0, 1) := by decide +kernel
theorem dX0_init_1 : decode cX0_init 1 = .ok (.invokespecial 1, 3) := by decide +kernel
theorem dX0_init_4 : decode cX0_init 4 = .ok (.aload_n 0, 1) := by decide +kernel
theorem dX0_init_5 : decode cX0_init 5 = .ok (.iconst 0, 1) := by decide +kernel
theorem dX0_init_6 : decode cX0_init 6 = .ok (.putfield 7, 3) := by decide +kernel
theorem dX0_init_9 : decode cX0_init 9 = .ok (.aload_n 0, 1) := by decide +kernel
theorem dX0_init_10 : decode cX0_init 10 = .ok (.iconst 0, 1) := by decide +kernel
theorem dX0_init_11 : decode cX0_init 11 = .ok (.putfield 13, 3) := by decide +kernel
theorem dX0_init_14 : decode cX0_init 14 = .ok (.aload_n 0, 1) := by decide +kernel
theorem dX0_init_15 : decode cX0_init 15 = .ok (.iconst 0, 1) := by decide +kernel
theorem dX0_init_16 : decode cX0_init 16 = .ok (.putfield 16, 3) := by decide +kernel
theorem dX0_init_19 : decode cX0_init 19 = .ok (.return_, 1) := by decide +kernel
theorem dX1_init_0 : decode cX1_init 0 = .ok (.aload_n 0, 1) := by decide +kernel
theorem dX1_init_1 : decode cX1_init 1 = .ok (.invokespecial 3, 3) := by decide +kernel
theorem dX1_init_4 : decode cX1_init 4 = .ok (.aload_n 0, 1) := by decide +kernel
theorem dX1_init_5 : decode cX1_init 5 = .ok (.bipush 16, 2) := by decide +kernel
theorem dX1_init_7 : decode cX1_init 7 = .ok (.newarray .int, 2) := by decide +kernel
theorem dX1_init_9 : decode cX1_init 9 = .ok (.putfield 9, 3) := by decide +kernel
theorem dX1_init_12 : decode cX1_init 12 = .ok (.aload_n 0, 1) := by decide +kernel
theorem dX1_init_13 : decode cX1_init 13 = .ok (.bipush 16, 2) := by decide +kernel
theorem dX1_init_15 : decode cX1_init 15 = .ok (.newarray .int, 2) := by decide +kernel
theorem dX1_init_17 : decode cX1_init 17 = .ok (.putfield 15, 3) := by decide +kernel
theorem dX1_init_20 : decode cX1_init 20 = .ok (.aload_n 0, 1) := by decide +kernel
theorem dX1_init_21 : decode cX1_init 21 = .ok (.bipush 8, 2) := by decide +kernel
theorem dX1_init_23 : decode cX1_init 23 = .ok (.newarray .int, 2) := by decide +kernel
theorem dX1_init_25 : decode cX1_init 25 = .ok (.putfield 18, 3) := by decide +kernel
theorem dX1_init_28 : decode cX1_init 28 = .ok (.aload_n 0, 1) := by decide +kernel
theorem dX1_init_29 : decode cX1_init 29 = .ok (.bipush 8, 2) := by decide +kernel
theorem dX1_init_31 : decode cX1_init 31 = .ok (.newarray .int, 2) := by decide +kernel
theorem dX1_init_33 : decode cX1_init 33 = .ok (.putfield 21, 3) := by decide +kernel
theorem dX1_init_36 : decode cX1_init 36 = .ok (.aload_n 0, 1) := by decide +kernel
theorem dX1_init_37 : decode cX1_init 37 = .ok (.iconst 0, 1) := by decide +kernel
theorem dX1_init_38 : decode cX1_init 38 = .ok (.putfield 24, 3) := by decide +kernel
theorem dX1_init_41 : decode cX1_init 41 = .ok (.aload_n 0, 1) := by decide +kernel
theorem dX1_init_42 : decode cX1_init 42 = .ok (.iconst 0, 1) := by decide +kernel
theorem dX1_init_43 : decode cX1_init 43 = .ok (.putfield 28, 3) := by decide +kernel
theorem dX1_init_46 : decode cX1_init 46 = .ok (.aload_n 0, 1) := by decide +kernel
theorem dX1_init_47 : decode cX1_init 47 = .ok (.bipush 10, 2) := by decide +kernel
theorem dX1_init_49 : decode cX1_init 49 = .ok (.putfield 31, 3) := by decide +kernel
theorem dX1_init_52 : decode cX1_init 52 = .ok (.aload_n 0, 1) := by decide +kernel
theorem dX1_init_53 : decode cX1_init 53 = .ok (.iconst 0, 1) := by decide +kernel
theorem dX1_init_54 : decode cX1_init 54 = .ok (.putfield 34, 3) := by decide +kernel
theorem dX1_init_57 : decode cX1_init 57 = .ok (.return_, 1) := by decide +kernel
theorem dX2_init_0 : decode cX2_init 0 = .ok (.aload_n 0, 1) := by decide +kernel
theorem dX2_init_1 : decode cX2_init 1 = .ok (.invokespecial 3, 3) := by decide +kernel
theorem dX2_init_4 : decode cX2_init 4 = .ok (.aload_n 0, 1) := by decide +kernel
theorem dX2_init_5 : decode cX2_init 5 = .ok (.sipush 300, 3) := by decide +kernel
theorem dX2_init_8 : decode cX2_init 8 = .ok (.newarray .int, 2) := by decide +kernel
theorem dX2_init_10 : decode cX2_init 10 = .ok (.putfield 9, 3) := by decide +kernel
theorem dX2_init_13 : decode cX2_init 13 = .ok (.aload_n 0, 1) := by decide +kernel
theorem dX2_init_14 : decode cX2_init 14 = .ok (.sipush 300, 3) := by decide +kernel
theorem dX2_init_17 : decode cX2_init 17 = .ok (.newarray .int, 2) := by decide +kernel
theorem dX2_init_19 : decode cX2_init 19 = .ok (.putfield 15, 3) := by decide +kernel
theorem dX2_init_22 : decode cX2_init 22 = .ok (.aload_n 0, 1) := by decide +kernel
theorem dX2_init_23 : decode cX2_init 23 = .ok (.sipush 300, 3) := by decide +kernel
theorem dX2_init_26 : decode cX2_init 26 = .ok (.newarray .int, 2) := by decide +kernel
theorem dX2_init_28 : decode cX2_init 28 = .ok (.putfield 18, 3) := by decide +kernel
theorem dX2_init_31 : decode cX2_init 31 = .ok (.aload_n 0, 1) := by decide +kernel
theorem dX2_init_32 : decode cX2_init 32 = .ok (.iconst 0, 1) := by decide +kernel
theorem dX2_init_33 : decode cX2_init 33 = .ok (.putfield 21, 3) := by decide +kernel
theorem dX2_init_36 : decode cX2_init 36 = .ok (.return_, 1) := by decide +kernel
theorem dX3_init_0 : decode cX3_init 0 = .ok (.aload_n 0, 1) := by decide +kernel
theorem dX3_init_1 : decode cX3_init 1 = .ok (.invokespecial 3, 3) := by decide +kernel
theorem dX3_init_4 : decode cX3_init 4 = .ok (.aload_n 0, 1) := by decide +kernel
theorem dX3_init_5 : decode cX3_init 5 = .ok (.bipush 10, 2) := by decide +kernel
theorem dX3_init_7 : decode cX3_init 7 = .ok (.newarray .int, 2) := by decide +kernel
theorem dX3_init_9 : decode cX3_init 9 = .ok (.putfield 9, 3) := by decide +kernel
theorem dX3_init_12 : decode cX3_init 12 = .ok (.aload_n 0, 1) := by decide +kernel
theorem dX3_init_13 : decode cX3_init 13 = .ok (.bipush 10, 2) := by decide +kernel
theorem dX3_init_15 : decode cX3_init 15 = .ok (.newarray .int, 2) := by decide +kernel
theorem dX3_init_17 : decode cX3_init 17 = .ok (.putfield 15, 3) := by decide +kernel
theorem dX3_init_20 : decode cX3_init 20 = .ok (.aload_n 0, 1) := by decide +kernel
theorem dX3_init_21 : decode cX3_init 21 = .ok (.bipush 10, 2) := by decide +kernel
theorem dX3_init_23 : decode cX3_init 23 = .ok (.newarray .int, 2) := by decide +kernel
theorem dX3_init_25 : decode cX3_init 25 = .ok (.putfield 18, 3) := by decide +kernel
theorem dX3_init_28 : decode cX3_init 28 = .ok (.aload_n 0, 1) := by decide +kernel
theorem dX3_init_29 : decode cX3_init 29 = .ok (.iconst 0, 1) := by decide +kernel
theorem dX3_init_30 : decode cX3_init 30 = .ok (.putfield 21, 3) := by decide +kernel
theorem dX3_init_33 : decode cX3_init 33 = .ok (.return_, 1) := by decide +kernel
theorem dX4_init_0 : decode cX4_init 0 = .ok (.aload_n 0, 1) := by decide +kernel
theorem dX4_init_1 : decode cX4_init 1 = .ok (.invokespecial 3, 3) := by decide +kernel
theorem dX4_init_4 : decode cX4_init 4 = .ok (.aload_n 0, 1) := by decide +kernel
theorem dX4_init_5 : decode cX4_init 5 = .ok (.sipush 400, 3) := by decide +kernel
theorem dX4_init_8 : decode cX4_init 8 = .ok (.newarray .int, 2) := by decide +kernel
theorem dX4_init_10 : decode cX4_init 10 = .ok (.putfield 9, 3) := by decide +kernel
theorem dX4_init_13 : decode cX4_init 13 = .ok (.aload_n 0, 1) := by decide +kernel
theorem dX4_init_14 : decode cX4_init 14 = .ok (.iconst 0, 1) := by decide +kernel
theorem dX4_init_15 : decode cX4_init 15 = .ok (.putfield 15, 3) := by decide +kernel
theorem dX4_init_18 : decode cX4_init 18 = .ok (.aload_n 0, 1) := by decide +kernel
theorem dX4_init_19 : decode cX4_init 19 = .ok (.iconst 0, 1) := by decide +kernel
theorem dX4_init_20 : decode cX4_init 20 = .ok (.putfield 19, 3) := by decide +kernel
theorem dX4_init_23 : decode cX4_init 23 = .ok (.aload_n 0, 1) := by decide +kernel
theorem dX4_init_24 : decode cX4_init 24 = .ok (.iconst (-1), 1) := by decide +kernel
theorem dX4_init_25 : decode cX4_init 25 = .ok (.putfield 22, 3) := by decide +kernel
theorem dX4_init_28 : decode cX4_init 28 = .ok (.aload_n 0, 1) := by decide +kernel
theorem dX4_init_29 : decode cX4_init 29 = .ok (.iconst 0, 1) := by decide +kernel
theorem dX4_init_30 : decode cX4_init 30 = .ok (.putfield 25, 3) := by decide +kernel
theorem dX4_init_33 : decode cX4_init 33 = .ok (.return_, 1) := by decide +kernel
theorem dX5_init_0 : decode cX5_init 0 = .ok (.aload_n 0, 1) := by decide +kernel
theorem dX5_init_1 : decode cX5_init 1 = .ok (.invokespecial 3, 3) := by decide +kernel
theorem dX5_init_4 : decode cX5_init 4 = .ok (.aload_n 0, 1) := by decide +kernel
theorem dX5_init_5 : decode cX5_init 5 = .ok (.new 9, 3) := by decide +kernel
theorem dX5_init_8 : decode cX5_init 8 = .ok (.dup, 1) := by decide +kernel
theorem dX5_init_9 : decode cX5_init 9 = .ok (.invokespecial 11, 3) := by decide +kernel
theorem dX5_init_12 : decode cX5_init 12 = .ok (.putfield 12, 3) := by decide +kernel
theorem dX5_init_15 : decode cX5_init 15 = .ok (.aload_n 0, 1) := by decide +kernel
theorem dX5_init_16 : decode cX5_init 16 = .ok (.bipush 40, 2) := by decide +kernel
theorem dX5_init_18 : decode cX5_init 18 = .ok (.newarray .int, 2) := by decide +kernel
theorem dX5_init_20 : decode cX5_init 20 = .ok (.putfield 18, 3) := by decide +kernel
theorem dX5_init_23 : decode cX5_init 23 = .ok (.aload_n 0, 1) := by decide +kernel
theorem dX5_init_24 : decode cX5_init 24 = .ok (.bipush 40, 2) := by decide +kernel
theorem dX5_init_26 : decode cX5_init 26 = .ok (.newarray .int, 2) := by decide +kernel
theorem dX5_init_28 : decode cX5_init 28 = .ok (.putfield 22, 3) := by decide +kernel
theorem dX5_init_31 : decode cX5_init 31 = .ok (.aload_n 0, 1) := by decide +kernel
theorem dX5_init_32 : decode cX5_init 32 = .ok (.bipush 40, 2) := by decide +kernel
theorem dX5_init_34 : decode cX5_init 34 = .ok (.newarray .int, 2) := by decide +kernel
theorem dX5_init_36 : decode cX5_init 36 = .ok (.putfield 25, 3) := by decide +kernel
theorem dX5_init_39 : decode cX5_init 39 = .ok (.aload_n 0, 1) := by decide +kernel
theorem dX5_init_40 : decode cX5_init 40 = .ok (.bipush 40, 2) := by decide +kernel
theorem dX5_init_42 : decode cX5_init 42 = .ok (.newarray .int, 2) := by decide +kernel
theorem dX5_init_44 : decode cX5_init 44 = .ok (.putfield 28, 3) := by decide +kernel
theorem dX5_init_47 : decode cX5_init 47 = .ok (.aload_n 0, 1) := by decide +kernel
theorem dX5_init_48 : decode cX5_init 48 = .ok (.sipush 128, 3) := by decide +kernel
theorem dX5_init_51 : decode cX5_init 51 = .ok (.newarray .int, 2) := by decide +kernel
theorem dX5_init_53 : decode cX5_init 53 = .ok (.putfield 31, 3) := by decide +kernel
theorem dX5_init_56 : decode cX5_init 56 = .ok (.aload_n 0, 1) := by decide +kernel
theorem dX5_init_57 : decode cX5_init 57 = .ok (.sipush 128, 3) := by decide +kernel
theorem dX5_init_60 : decode cX5_init 60 = .ok (.newarray .int, 2) := by decide +kernel
theorem dX5_init_62 : decode cX5_init 62 = .ok (.putfield 34, 3) := by decide +kernel
theorem dX5_init_65 : decode cX5_init 65 = .ok (.aload_n 0, 1) := by decide +kernel
theorem dX5_init_66 : decode cX5_init 66 = .ok (.bipush 16, 2) := by decide +kernel
theorem dX5_init_68 : decode cX5_init 68 = .ok (.newarray .int, 2) := by decide +kernel
theorem dX5_init_70 : decode cX5_init 70 = .ok (.putfield 37, 3) := by decide +kernel
theorem dX5_init_73 : decode cX5_init 73 = .ok (.aload_n 0, 1) := by decide +kernel
theorem dX5_init_74 : decode cX5_init 74 = .ok (.iconst 0, 1) := by decide +kernel
theorem dX5_init_75 : decode cX5_init 75 = .ok (.putfield 40, 3) := by decide +kernel
theorem dX5_init_78 : decode cX5_init 78 = .ok (.aload_n 0, 1) := by decide +kernel
theorem dX5_init_79 : decode cX5_init 79 = .ok (.iconst 0, 1) := by decide +kernel
theorem dX5_init_80 : decode cX5_init 80 = .ok (.putfield 44, 3) := by decide +kernel
theorem dX5_init_83 : decode cX5_init 83 = .ok (.aload_n 0, 1) := by decide +kernel
theorem dX5_init_84 : decode cX5_init 84 = .ok (.iconst 0, 1) := by decide +kernel
theorem dX5_init_85 : decode cX5_init 85 = .ok (.putfield 47, 3) := by decide +kernel
theorem dX5_init_88 : decode cX5_init 88 = .ok (.aload_n 0, 1) := by decide +kernel
theorem dX5_init_89 : decode cX5_init 89 = .ok (.aload_n 1, 1) := by decide +kernel
theorem dX5_init_90 : decode cX5_init 90 = .ok (.putfield 50, 3) := by decide +kernel
theorem dX5_init_93 : decode cX5_init 93 = .ok (.aload_n 0, 1) := by decide +kernel
theorem dX5_init_94 : decode cX5_init 94 = .ok (.getfield 31, 3) := by decide +kernel
theorem dX5_init_97 : decode cX5_init 97 = .ok (.iconst (-1), 1) := by decide +kernel
theorem dX5_init_98 : decode cX5_init 98 = .ok (.invokestatic 54, 3) := by decide +kernel
theorem dX5_init_101 : decode cX5_init 101 = .ok (.return_, 1) := by decide +kernel
theorem dX6_init_0 : decode cX6_init 0 = .ok (.aload_n 0, 1) := by decide +kernel
theorem dX6_init_1 : decode cX6_init 1 = .ok (.invokespecial 1, 3) := by decide +kernel
theorem dX6_init_4 : decode cX6_init 4 = .ok (.aload_n 0, 1) := by decide +kernel
theorem dX6_init_5 : decode cX6_init 5 = .ok (.new 7, 3) := by decide +kernel
theorem dX6_init_8 : decode cX6_init 8 = .ok (.dup, 1) := by decide +kernel
theorem dX6_init_9 : decode cX6_init 9 = .ok (.invokespecial 9, 3) := by decide +kernel
theorem dX6_init_12 : decode cX6_init 12 = .ok (.putfield 10, 3) := by decide +kernel
theorem dX6_init_15 : decode cX6_init 15 = .ok (.aload_n 0, 1) := by decide +kernel
theorem dX6_init_16 : decode cX6_init 16 = .ok (.new 16, 3) := by decide +kernel
theorem dX6_init_19 : decode cX6_init 19 = .ok (.dup, 1) := by decide +kernel
theorem dX6_init_20 : decode cX6_init 20 = .ok (.invokespecial 18, 3) := by decide +kernel
theorem dX6_init_23 : decode cX6_init 23 = .ok (.putfield 19, 3) := by decide +kernel
theorem dX6_init_26 : decode cX6_init 26 = .ok (.aload_n 0, 1) := by decide +kernel
theorem dX6_init_27 : decode cX6_init 27 = .ok (.new 16, 3) := by decide +kernel
theorem dX6_init_30 : decode cX6_init 30 = .ok (.dup, 1) := by decide +kernel
theorem dX6_init_31 : decode cX6_init 31 = .ok (.invokespecial 18, 3) := by decide +kernel
theorem dX6_init_34 : decode cX6_init 34 = .ok (.putfield 23, 3) := by decide +kernel
theorem dX6_init_37 : decode cX6_init 37 = .ok (.aload_n 0, 1) := by decide +kernel
theorem dX6_init_38 : decode cX6_init 38 = .ok (.new 26, 3) := by decide +kernel
theorem dX6_init_41 : decode cX6_init 41 = .ok (.dup, 1) := by decide +kernel
theorem dX6_init_42 : decode cX6_init 42 = .ok (.aload_n 0, 1) := by decide +kernel
theorem dX6_init_43 : decode cX6_init 43 = .ok (.getfield 23, 3) := by decide +kernel
theorem dX6_init_46 : decode cX6_init 46 = .ok (.invokespecial 28, 3) := by decide +kernel
theorem dX6_init_49 : decode cX6_init 49 = .ok (.putfield 31, 3) := by decide +kernel
theorem dX6_init_52 : decode cX6_init 52 = .ok (.aload_n 0, 1) := by decide +kernel
theorem dX6_init_53 : decode cX6_init 53 = .ok (.new 26, 3) := by decide +kernel
theorem dX6_init_56 : decode cX6_init 56 = .ok (.dup, 1) := by decide +kernel
theorem dX6_init_57 : decode cX6_init 57 = .ok (.aload_n 0, 1) := by decide +kernel
theorem dX6_init_58 : decode cX6_init 58 = .ok (.getfield 23, 3) := by decide +kernel
theorem dX6_init_61 : decode cX6_init 61 = .ok (.invokespecial 28, 3) := by decide +kernel
theorem dX6_init_64 : decode cX6_init 64 = .ok (.putfield 35, 3) := by decide +kernel
theorem dX6_init_67 : decode cX6_init 67 = .ok (.aload_n 0, 1) := by decide +kernel
theorem dX6_init_68 : decode cX6_init 68 = .ok (.iconst 2, 1) := by decide +kernel
theorem dX6_init_69 : decode cX6_init 69 = .ok (.anewarray 26, 3) := by decide +kernel
theorem dX6_init_72 : decode cX6_init 72 = .ok (.putfield 38, 3) := by decide +kernel
theorem dX6_init_75 : decode cX6_init 75 = .ok (.iconst 0, 1) := by decide +kernel
theorem dX6_init_76 : decode cX6_init 76 = .ok (.istore_n 1, 1) := by decide +kernel
theorem dX6_init_77 : decode cX6_init 77 = .ok (.iload_n 1, 1) := by decide +kernel
theorem dX6_init_78 : decode cX6_init 78 = .ok (.iconst 2, 1) := by decide +kernel
theorem dX6_init_79 : decode cX6_init 79 = .ok (.if_icmp .ge 26, 3) := by decide +kernel
theorem dX6_init_82 : decode cX6_init 82 = .ok (.aload_n 0, 1) := by decide +kernel
theorem dX6_init_83 : decode cX6_init 83 = .ok (.getfield 38, 3) := by decide +kernel
theorem dX6_init_86 : decode cX6_init 86 = .ok (.iload_n 1, 1) := by decide +kernel
theorem dX6_init_87 : decode cX6_init 87 = .ok (.new 26, 3) := by decide +kernel
theorem dX6_init_90 : decode cX6_init 90 = .ok (.dup, 1) := by decide +kernel
theorem dX6_init_91 : decode cX6_init 91 = .ok (.aload_n 0, 1) := by decide +kernel
theorem dX6_init_92 : decode cX6_init 92 = .ok (.getfield 23, 3) := by decide +kernel
theorem dX6_init_95 : decode cX6_init 95 = .ok (.invokespecial 28, 3) := by decide +kernel
theorem dX6_init_98 : decode cX6_init 98 = .ok (.aastore, 1) := by decide +kernel
theorem dX6_init_99 : decode cX6_init 99 = .ok (.iinc 1 1, 3) := by decide +kernel
theorem dX6_init_102 : decode cX6_init 102 = .ok (.goto (-25), 3) := by decide +kernel
theorem dX6_init_105 : decode cX6_init 105 = .ok (.aload_n 0, 1) := by decide +kernel
theorem dX6_init_106 : decode cX6_init 106 = .ok (.iconst 0, 1) := by decide +kernel
theorem dX6_init_107 : decode cX6_init 107 = .ok (.putfield 42, 3) := by decide +kernel
theorem dX6_init_110 : decode cX6_init 110 = .ok (.aload_n 0, 1) := by decide +kernel
theorem dX6_init_111 : decode cX6_init 111 = .ok (.new 46, 3) := by decide +kernel
theorem dX6_init_114 : decode cX6_init 114 = .ok (.dup, 1) := by decide +kernel
theorem dX6_init_115 : decode cX6_init 115 = .ok (.invokespecial 48, 3) := by decide +kernel
theorem dX6_init_118 : decode cX6_init 118 = .ok (.putfield 49, 3) := by decide +kernel
theorem dX6_init_121 : decode cX6_init 121 = .ok (.aload_n 0, 1) := by decide +kernel
theorem dX6_init_122 : decode cX6_init 122 = .ok (.new 53, 3) := by decide +kernel
theorem dX6_init_125 : decode cX6_init 125 = .ok (.dup, 1) := by decide +kernel
theorem dX6_init_126 : decode cX6_init 126 = .ok (.invokespecial 55, 3) := by decide +kernel
theorem dX6_init_129 : decode cX6_init 129 = .ok (.putfield 56, 3) := by decide +kernel
theorem dX6_init_132 : decode cX6_init 132 = .ok (.aload_n 0, 1) := by decide +kernel
theorem dX6_init_133 : decode cX6_init 133 = .ok (.bipush 60, 2) := by decide +kernel
theorem dX6_init_135 : decode cX6_init 135 = .ok (.newarray .int, 2) := by decide +kernel
theorem dX6_init_137 : decode cX6_init 137 = .ok (.putfield 60, 3) := by decide +kernel
theorem dX6_init_140 : decode cX6_init 140 = .ok (.aload_n 0, 1) := by decide +kernel
theorem dX6_init_141 : decode cX6_init 141 = .ok (.iconst 0, 1) := by decide +kernel
theorem dX6_init_142 : decode cX6_init 142 = .ok (.putfield 64, 3) := by decide +kernel
theorem dX6_init_145 : decode cX6_init 145 = .ok (.aload_n 0, 1) := by decide +kernel
theorem dX6_init_146 : decode cX6_init 146 = .ok (.bipush 41, 2) := by decide +kernel
theorem dX6_init_148 : decode cX6_init 148 = .ok (.newarray .int, 2) := by decide +kernel
theorem dX6_init_150 : decode cX6_init 150 = .ok (.putfield 67, 3) := by decide +kernel
theorem dX6_init_153 : decode cX6_init 153 = .ok (.return_, 1) := by decide +kernel
theorem dX7_init_0 : decode cX7_init 0 = .ok (.aload_n 0, 1) := by decide +kernel
theorem dX7_init_1 : decode cX7_init 1 = .ok (.invokespecial 1, 3) := by decide +kernel
theorem dX7_init_4 : decode cX7_init 4 = .ok (.aload_n 0, 1) := by decide +kernel
theorem dX7_init_5 : decode cX7_init 5 = .ok (.sipush 6000, 3) := by decide +kernel
theorem dX7_init_8 : decode cX7_init 8 = .ok (.newarray .int, 2) := by decide +kernel
theorem dX7_init_10 : decode cX7_init 10 = .ok (.putfield 7, 3) := by decide +kernel
theorem dX7_init_13 : decode cX7_init 13 = .ok (.aload_n 0, 1) := by decide +kernel
theorem dX7_init_14 : decode cX7_init 14 = .ok (.iconst 2, 1) := by decide +kernel
theorem dX7_init_15 : decode cX7_init 15 = .ok (.newarray .boolean, 2) := by decide +kernel
theorem dX7_init_17 : decode cX7_init 17 = .ok (.putfield 13, 3) := by decide +kernel
theorem dX7_init_20 : decode cX7_init 20 = .ok (.aload_n 0, 1) := by decide +kernel
theorem dX7_init_21 : decode cX7_init 21 = .ok (.bipush 32, 2) := by decide +kernel
theorem dX7_init_23 : decode cX7_init 23 = .ok (.newarray .int, 2) := by decide +kernel
theorem dX7_init_25 : decode cX7_init 25 = .ok (.putfield 17, 3) := by decide +kernel
theorem dX7_init_28 : decode cX7_init 28 = .ok (.aload_n 0, 1) := by decide +kernel
theorem dX7_init_29 : decode cX7_init 29 = .ok (.bipush 32, 2) := by decide +kernel
theorem dX7_init_31 : decode cX7_init 31 = .ok (.newarray .int, 2) := by decide +kernel
theorem dX7_init_33 : decode cX7_init 33 = .ok (.putfield 20, 3) := by decide +kernel
theorem dX7_init_36 : decode cX7_init 36 = .ok (.aload_n 0, 1) := by decide +kernel
theorem dX7_init_37 : decode cX7_init 37 = .ok (.bipush 16, 2) := by decide +kernel
theorem dX7_init_39 : decode cX7_init 39 = .ok (.newarray .int, 2) := by decide +kernel
theorem dX7_init_41 : decode cX7_init 41 = .ok (.putfield 23, 3) := by decide +kernel
theorem dX7_init_44 : decode cX7_init 44 = .ok (.aload_n 0, 1) := by decide +kernel
theorem dX7_init_45 : decode cX7_init 45 = .ok (.bipush 16, 2) := by decide +kernel
theorem dX7_init_47 : decode cX7_init 47 = .ok (.newarray .int, 2) := by decide +kernel
theorem dX7_init_49 : decode cX7_init 49 = .ok (.putfield 26, 3) := by decide +kernel
theorem dX7_init_52 : decode cX7_init 52 = .ok (.aload_n 0, 1) := by decide +kernel
theorem dX7_init_53 : decode cX7_init 53 = .ok (.iconst 4, 1) := by decide +kernel
theorem dX7_init_54 : decode cX7_init 54 = .ok (.newarray .int, 2) := by decide +kernel
theorem dX7_init_56 : decode cX7_init 56 = .ok (.putfield 29, 3) := by decide +kernel
theorem dX7_init_59 : decode cX7_init 59 = .ok (.aload_n 0, 1) := by decide +kernel
theorem dX7_init_60 : decode cX7_init 60 = .ok (.bipush 10, 2) := by decide +kernel
theorem dX7_init_62 : decode cX7_init 62 = .ok (.putfield 32, 3) := by decide +kernel
theorem dX7_init_65 : decode cX7_init 65 = .ok (.aload_n 0, 1) := by decide +kernel
theorem dX7_init_66 : decode cX7_init 66 = .ok (.sipush 400, 3) := by decide +kernel
theorem dX7_init_69 : decode cX7_init 69 = .ok (.newarray .int, 2) := by decide +kernel
theorem dX7_init_71 : decode cX7_init 71 = .ok (.putfield 36, 3) := by decide +kernel
theorem dX7_init_74 : decode cX7_init 74 = .ok (.aload_n 0, 1) := by decide +kernel
theorem dX7_init_75 : decode cX7_init 75 = .ok (.iconst (-1), 1) := by decide +kernel
theorem dX7_init_76 : decode cX7_init 76 = .ok (.putfield 39, 3) := by decide +kernel
theorem dX7_init_79 : decode cX7_init 79 = .ok (.aload_n 0, 1) := by decide +kernel
theorem dX7_init_80 : decode cX7_init 80 = .ok (.bipush 10, 2) := by decide +kernel
theorem dX7_init_82 : decode cX7_init 82 = .ok (.newarray .int, 2) := by decide +kernel
theorem dX7_init_84 : decode cX7_init 84 = .ok (.putfield 42, 3) := by decide +kernel
theorem dX7_init_87 : decode cX7_init 87 = .ok (.aload_n 0, 1) := by decide +kernel
theorem dX7_init_88 : decode cX7_init 88 = .ok (.bipush 10, 2) := by decide +kernel
theorem dX7_init_90 : decode cX7_init 90 = .ok (.newarray .int, 2) := by decide +kernel
theorem dX7_init_92 : decode cX7_init 92 = .ok (.putfield 45, 3) := by decide +kernel
theorem dX7_init_95 : decode cX7_init 95 = .ok (.aload_n 0, 1) := by decide +kernel
theorem dX7_init_96 : decode cX7_init 96 = .ok (.bipush 10, 2) := by decide +kernel
theorem dX7_init_98 : decode cX7_init 98 = .ok (.newarray .int, 2) := by decide +kernel
theorem dX7_init_100 : decode cX7_init 100 = .ok (.putfield 48, 3) := by decide +kernel
theorem dX7_init_103 : decode cX7_init 103 = .ok (.aload_n 0, 1) := by decide +kernel
theorem dX7_init_104 : decode cX7_init 104 = .ok (.bipush 42, 2) := by decide +kernel
theorem dX7_init_106 : decode cX7_init 106 = .ok (.newarray .int, 2) := by decide +kernel
theorem dX7_init_108 : decode cX7_init 108 = .ok (.putfield 51, 3) := by decide +kernel
theorem dX7_init_111 : decode cX7_init 111 = .ok (.aload_n 0, 1) := by decide +kernel
theorem dX7_init_112 : decode cX7_init 112 = .ok (.bipush 60, 2) := by decide +kernel
theorem dX7_init_114 : decode cX7_init 114 = .ok (.newarray .int, 2) := by decide +kernel
theorem dX7_init_116 : decode cX7_init 116 = .ok (.putfield 54, 3) := by decide +kernel
theorem dX7_init_119 : decode cX7_init 119 = .ok (.return_, 1) := by decide +kernel
theorem qX0_7 : rn_pf RX0 7 0 0 false (tyX0 0) := ⟨RX0, TX0, 3, tyX0, rfl, by decide, iw_5 _ (List.mem_of_getElem? (i := 4) rfl), inlX0, tyX0_ok, nmX0, rfl, rfl, rfl⟩
theorem qX0_13 : rn_pf RX0 13 0 1 false (tyX0 1) := ⟨RX0, TX0, 3, tyX0, rfl, by decide, iw_5 _ (List.mem_of_getElem? (i := 5) rfl), inlX0, tyX0_ok, nmX0, rfl, rfl, rfl⟩
theorem qX0_16 : rn_pf RX0 16 0 2 false (tyX0 2) := ⟨RX0, TX0, 3, tyX0, rfl, by decide, iw_5 _ (List.mem_of_getElem? (i := 6) rfl), inlX0, tyX0_ok, nmX0, rfl, rfl, rfl⟩
abbrev mX0_init : rf_Me := (yX0_init, cX0_init, 1, none, { frames := 1, cells := 0, slots := 0, locals := 12 })
theorem ceX0_init : rn_ce mX0_init 0 := ⟨by decide +kernel, iw_5 _ (List.mem_of_getElem? (i := 2) rfl), iw_2 _ (List.mem_of_getElem? (i := 11) rfl), ⟨by decide +kernel, by decide +kernel, by decide +kernel⟩, rfl, iw_5 _ (List.mem_of_getElem? (i := 1) rfl), rfl⟩
set_option maxRecDepth 20000 in
set_option maxHeartbeats 2000000 in
theorem nX0_init {g : rf_G} (h0 : Nat) : EvN g mX0_init 0 (rf_ent 1 [.ref h0]) [] [(h0, .inr (0, [.int 0, .int 0, .int 0]))] 0 0 (fun w => w = [(h0, .inr (0, [.int 0, .int 0, .int 0]))]) := by
  refine en_aload dX0_init_0 rfl ?_
  refine en_obj dX0_init_1 (iw_5 _ (List.mem_of_getElem? (i := 3) rfl)) (Nat.le_of_ble_eq_true rfl) (Nat.le_of_ble_eq_true rfl) ?_
  refine en_aload dX0_init_4 rfl ?_
  refine en_iconst (v := 0) dX0_init_5 (by decide) ?_
  refine en_putI (i0 := 0) (ws' := [(h0, .inr (0, [.int 0, .int 0, .int 0]))]) dX0_init_6 qX0_7 rfl (Nat.le_of_ble_eq_true rfl) rfl rfl rfl ?_
  refine en_aload dX0_init_9 rfl ?_
  refine en_iconst (v := 0) dX0_init_10 (by decide) ?_
  refine en_putI (i0 := 0) (ws' := [(h0, .inr (0, [.int 0, .int 0, .int 0]))]) dX0_init_11 qX0_13 rfl (Nat.le_of_ble_eq_true rfl) rfl rfl rfl ?_
  refine en_aload dX0_init_14 rfl ?_
  refine en_iconst (v := 0) dX0_init_15 (by decide) ?_
  refine en_putI (i0 := 0) (ws' := [(h0, .inr (0, [.int 0, .int 0, .int 0]))]) dX0_init_16 qX0_16 rfl (Nat.le_of_ble_eq_true rfl) rfl rfl rfl ?_
  exact en_vret (st := []) dX0_init_19 (Nat.le_of_ble_eq_true rfl) (Nat.le_of_ble_eq_true rfl) rfl
theorem qX1_9 : rn_pf RX1 9 1 0 true (tyX1 0) := ⟨RX1, TX1, 8, tyX1, rfl, by decide, iw_3 _ (List.mem_of_getElem? (i := 4) rfl), inlX1, tyX1_ok, nmX1, rfl, rfl, rfl⟩
theorem qX1_15 : rn_pf RX1 15 1 1 true (tyX1 1) := ⟨RX1, TX1, 8, tyX1, rfl, by decide, iw_3 _ (List.mem_of_getElem? (i := 5) rfl), inlX1, tyX1_ok, nmX1, rfl, rfl, rfl⟩
theorem qX1_18 : rn_pf RX1 18 1 2 true (tyX1 2) := ⟨RX1, TX1, 8, tyX1, rfl, by decide, iw_3 _ (List.mem_of_getElem? (i := 6) rfl), inlX1, tyX1_ok, nmX1, rfl, rfl, rfl⟩
theorem qX1_21 : rn_pf RX1 21 1 3 true (tyX1 3) := ⟨RX1, TX1, 8, tyX1, rfl, by decide, iw_3 _ (List.mem_of_getElem? (i := 7) rfl), inlX1, tyX1_ok, nmX1, rfl, rfl, rfl⟩
theorem qX1_24 : rn_pf RX1 24 1 4 false (tyX1 4) := ⟨RX1, TX1, 8, tyX1, rfl, by decide, iw_3 _ (List.mem_of_getElem? (i := 8) rfl), inlX1, tyX1_ok, nmX1, rfl, rfl, rfl⟩
theorem qX1_28 : rn_pf RX1 28 1 5 false (tyX1 5) := ⟨RX1, TX1, 8, tyX1, rfl, by decide, iw_3 _ (List.mem_of_getElem? (i := 9) rfl), inlX1, tyX1_ok, nmX1, rfl, rfl, rfl⟩
theorem qX1_31 : rn_pf RX1 31 1 6 false (tyX1 6) := ⟨RX1, TX1, 8, tyX1, rfl, by decide, iw_3 _ (List.mem_of_getElem? (i := 10) rfl), inlX1, tyX1_ok, nmX1, rfl, rfl, rfl⟩
theorem qX1_34 : rn_pf RX1 34 1 7 false (tyX1 7) := ⟨RX1, TX1, 8, tyX1, rfl, by decide, iw_3 _ (List.mem_of_getElem? (i := 11) rfl), inlX1, tyX1_ok, nmX1, rfl, rfl, rfl⟩
abbrev mX1_init : rf_Me := (yX1_init, cX1_init, 1, none, { frames := 1, cells := 4, slots := 48, locals := 12 })
theorem ceX1_init : rn_ce mX1_init 0 := ⟨by decide +kernel, iw_3 _ (List.mem_of_getElem? (i := 2) rfl), iw_1 _ (List.mem_of_getElem? (i := 19) rfl), ⟨by decide +kernel, by decide +kernel, by decide +kernel⟩, rfl, iw_3 _ (List.mem_of_getElem? (i := 1) rfl), rfl⟩
set_option maxRecDepth 20000 in
set_option maxHeartbeats 2000000 in
theorem nX1_init {g : rf_G} (h0 : Nat) : EvN g mX1_init 0 (rf_ent 1 [.ref h0]) [] [(h0, .inr (1, [.null, .null, .null, .null, .int 0, .int 0, .int 0, .int 0]))] 0 0 (fun w => ∃ q1 q2 q3 q4, w = [(h0, .inr (1, [.ref q1, .ref q2, .ref q3, .ref q4, .int 0, .int 0, .int (nI 10), .int 0])), (q1, .inl (g.1, 16, .inl (fun _ => 0))), (q2, .inl (g.1, 16, .inl (fun _ => 0))), (q3, .inl (g.1, 8, .inl (fun _ => 0))), (q4, .inl (g.1, 8, .inl (fun _ => 0)))]) := by
  refine en_aload dX1_init_0 rfl ?_
  refine en_obj dX1_init_1 (iw_3 _ (List.mem_of_getElem? (i := 3) rfl)) (Nat.le_of_ble_eq_true rfl) (Nat.le_of_ble_eq_true rfl) ?_
  refine en_aload dX1_init_4 rfl ?_
  refine en_bipush (v := (nI 16)) dX1_init_5 (by decide) ?_
  refine en_newI (N := 16) dX1_init_7 (by decide) (Nat.le_of_ble_eq_true rfl) (Nat.le_of_ble_eq_true rfl) (fun q1 => ?_)
  refine en_putF (i0 := 0) (ws' := [(h0, .inr (1, [.ref q1, .null, .null, .null, .int 0, .int 0, .int 0, .int 0])), (q1, .inl (g.1, 16, .inl (fun _ => 0)))]) dX1_init_9 qX1_9 rfl (Nat.le_of_ble_eq_true rfl) rfl rfl rfl ?_
  refine en_aload dX1_init_12 rfl ?_
  refine en_bipush (v := (nI 16)) dX1_init_13 (by decide) ?_
  refine en_newI (N := 16) dX1_init_15 (by decide) (Nat.le_of_ble_eq_true rfl) (Nat.le_of_ble_eq_true rfl) (fun q2 => ?_)
  refine en_putF (i0 := 0) (ws' := [(h0, .inr (1, [.ref q1, .ref q2, .null, .null, .int 0, .int 0, .int 0, .int 0])), (q1, .inl (g.1, 16, .inl (fun _ => 0))), (q2, .inl (g.1, 16, .inl (fun _ => 0)))]) dX1_init_17 qX1_15 rfl (Nat.le_of_ble_eq_true rfl) rfl rfl rfl ?_
  refine en_aload dX1_init_20 rfl ?_
  refine en_bipush (v := (nI 8)) dX1_init_21 (by decide) ?_
  refine en_newI (N := 8) dX1_init_23 (by decide) (Nat.le_of_ble_eq_true rfl) (Nat.le_of_ble_eq_true rfl) (fun q3 => ?_)
  refine en_putF (i0 := 0) (ws' := [(h0, .inr (1, [.ref q1, .ref q2, .ref q3, .null, .int 0, .int 0, .int 0, .int 0])), (q1, .inl (g.1, 16, .inl (fun _ => 0))), (q2, .inl (g.1, 16, .inl (fun _ => 0))), (q3, .inl (g.1, 8, .inl (fun _ => 0)))]) dX1_init_25 qX1_18 rfl (Nat.le_of_ble_eq_true rfl) rfl rfl rfl ?_
  refine en_aload dX1_init_28 rfl ?_
  refine en_bipush (v := (nI 8)) dX1_init_29 (by decide) ?_
  refine en_newI (N := 8) dX1_init_31 (by decide) (Nat.le_of_ble_eq_true rfl) (Nat.le_of_ble_eq_true rfl) (fun q4 => ?_)
  refine en_putF (i0 := 0) (ws' := [(h0, .inr (1, [.ref q1, .ref q2, .ref q3, .ref q4, .int 0, .int 0, .int 0, .int 0])), (q1, .inl (g.1, 16, .inl (fun _ => 0))), (q2, .inl (g.1, 16, .inl (fun _ => 0))), (q3, .inl (g.1, 8, .inl (fun _ => 0))), (q4, .inl (g.1, 8, .inl (fun _ => 0)))]) dX1_init_33 qX1_21 rfl (Nat.le_of_ble_eq_true rfl) rfl rfl rfl ?_
  refine en_aload dX1_init_36 rfl ?_
  refine en_iconst (v := 0) dX1_init_37 (by decide) ?_
  refine en_putI (i0 := 0) (ws' := [(h0, .inr (1, [.ref q1, .ref q2, .ref q3, .ref q4, .int 0, .int 0, .int 0, .int 0])), (q1, .inl (g.1, 16, .inl (fun _ => 0))), (q2, .inl (g.1, 16, .inl (fun _ => 0))), (q3, .inl (g.1, 8, .inl (fun _ => 0))), (q4, .inl (g.1, 8, .inl (fun _ => 0)))]) dX1_init_38 qX1_24 rfl (Nat.le_of_ble_eq_true rfl) rfl rfl rfl ?_
  refine en_aload dX1_init_41 rfl ?_
  refine en_iconst (v := 0) dX1_init_42 (by decide) ?_
  refine en_putI (i0 := 0) (ws' := [(h0, .inr (1, [.ref q1, .ref q2, .ref q3, .ref q4, .int 0, .int 0, .int 0, .int 0])), (q1, .inl (g.1, 16, .inl (fun _ => 0))), (q2, .inl (g.1, 16, .inl (fun _ => 0))), (q3, .inl (g.1, 8, .inl (fun _ => 0))), (q4, .inl (g.1, 8, .inl (fun _ => 0)))]) dX1_init_43 qX1_28 rfl (Nat.le_of_ble_eq_true rfl) rfl rfl rfl ?_
  refine en_aload dX1_init_46 rfl ?_
  refine en_bipush (v := (nI 10)) dX1_init_47 (by decide) ?_
  refine en_putI (i0 := 0) (ws' := [(h0, .inr (1, [.ref q1, .ref q2, .ref q3, .ref q4, .int 0, .int 0, .int (nI 10), .int 0])), (q1, .inl (g.1, 16, .inl (fun _ => 0))), (q2, .inl (g.1, 16, .inl (fun _ => 0))), (q3, .inl (g.1, 8, .inl (fun _ => 0))), (q4, .inl (g.1, 8, .inl (fun _ => 0)))]) dX1_init_49 qX1_31 rfl (Nat.le_of_ble_eq_true rfl) rfl rfl rfl ?_
  refine en_aload dX1_init_52 rfl ?_
  refine en_iconst (v := 0) dX1_init_53 (by decide) ?_
  refine en_putI (i0 := 0) (ws' := [(h0, .inr (1, [.ref q1, .ref q2, .ref q3, .ref q4, .int 0, .int 0, .int (nI 10), .int 0])), (q1, .inl (g.1, 16, .inl (fun _ => 0))), (q2, .inl (g.1, 16, .inl (fun _ => 0))), (q3, .inl (g.1, 8, .inl (fun _ => 0))), (q4, .inl (g.1, 8, .inl (fun _ => 0)))]) dX1_init_54 qX1_34 rfl (Nat.le_of_ble_eq_true rfl) rfl rfl rfl ?_
  exact en_vret (st := []) dX1_init_57 (Nat.le_of_ble_eq_true rfl) (Nat.le_of_ble_eq_true rfl) ⟨q1, q2, q3, q4, rfl⟩
theorem qX2_9 : rn_pf RX2 9 2 0 true (tyX2 0) := ⟨RX2, TX2, 4, tyX2, rfl, by decide, iw_4 _ (List.mem_of_getElem? (i := 10) rfl), inlX2, tyX2_ok, nmX2, rfl, rfl, rfl⟩
theorem qX2_15 : rn_pf RX2 15 2 1 true (tyX2 1) := ⟨RX2, TX2, 4, tyX2, rfl, by decide, iw_4 _ (List.mem_of_getElem? (i := 11) rfl), inlX2, tyX2_ok, nmX2, rfl, rfl, rfl⟩
theorem qX2_18 : rn_pf RX2 18 2 2 true (tyX2 2) := ⟨RX2, TX2, 4, tyX2, rfl, by decide, iw_4 _ (List.mem_of_getElem? (i := 12) rfl), inlX2, tyX2_ok, nmX2, rfl, rfl, rfl⟩
theorem qX2_21 : rn_pf RX2 21 2 3 false (tyX2 3) := ⟨RX2, TX2, 4, tyX2, rfl, by decide, iw_4 _ (List.mem_of_getElem? (i := 13) rfl), inlX2, tyX2_ok, nmX2, rfl, rfl, rfl⟩
abbrev mX2_init : rf_Me := (yX2_init, cX2_init, 1, none, { frames := 1, cells := 3, slots := 900, locals := 12 })
theorem ceX2_init : rn_ce mX2_init 0 := ⟨by decide +kernel, iw_4 _ (List.mem_of_getElem? (i := 8) rfl), iw_3 _ (List.mem_of_getElem? (i := 18) rfl), ⟨by decide +kernel, by decide +kernel, by decide +kernel⟩, rfl, iw_4 _ (List.mem_of_getElem? (i := 7) rfl), rfl⟩
set_option maxRecDepth 20000 in
set_option maxHeartbeats 2000000 in
theorem nX2_init {g : rf_G} (h0 : Nat) : EvN g mX2_init 0 (rf_ent 1 [.ref h0]) [] [(h0, .inr (2, [.null, .null, .null, .int 0]))] 0 0 (fun w => ∃ q1 q2 q3, w = [(h0, .inr (2, [.ref q1, .ref q2, .ref q3, .int 0])), (q1, .inl (g.1, 300, .inl (fun _ => 0))), (q2, .inl (g.1, 300, .inl (fun _ => 0))), (q3, .inl (g.1, 300, .inl (fun _ => 0)))]) := by
  refine en_aload dX2_init_0 rfl ?_
  refine en_obj dX2_init_1 (iw_4 _ (List.mem_of_getElem? (i := 9) rfl)) (Nat.le_of_ble_eq_true rfl) (Nat.le_of_ble_eq_true rfl) ?_
  refine en_aload dX2_init_4 rfl ?_
  refine en_sipush (v := (nI 300)) dX2_init_5 (by decide) ?_
  refine en_newI (N := 300) dX2_init_8 (by decide) (Nat.le_of_ble_eq_true rfl) (Nat.le_of_ble_eq_true rfl) (fun q1 => ?_)
  refine en_putF (i0 := 0) (ws' := [(h0, .inr (2, [.ref q1, .null, .null, .int 0])), (q1, .inl (g.1, 300, .inl (fun _ => 0)))]) dX2_init_10 qX2_9 rfl (Nat.le_of_ble_eq_true rfl) rfl rfl rfl ?_
  refine en_aload dX2_init_13 rfl ?_
  refine en_sipush (v := (nI 300)) dX2_init_14 (by decide) ?_
  refine en_newI (N := 300) dX2_init_17 (by decide) (Nat.le_of_ble_eq_true rfl) (Nat.le_of_ble_eq_true rfl) (fun q2 => ?_)
  refine en_putF (i0 := 0) (ws' := [(h0, .inr (2, [.ref q1, .ref q2, .null, .int 0])), (q1, .inl (g.1, 300, .inl (fun _ => 0))), (q2, .inl (g.1, 300, .inl (fun _ => 0)))]) dX2_init_19 qX2_15 rfl (Nat.le_of_ble_eq_true rfl) rfl rfl rfl ?_
  refine en_aload dX2_init_22 rfl ?_
  refine en_sipush (v := (nI 300)) dX2_init_23 (by decide) ?_
  refine en_newI (N := 300) dX2_init_26 (by decide) (Nat.le_of_ble_eq_true rfl) (Nat.le_of_ble_eq_true rfl) (fun q3 => ?_)
  refine en_putF (i0 := 0) (ws' := [(h0, .inr (2, [.ref q1, .ref q2, .ref q3, .int 0])), (q1, .inl (g.1, 300, .inl (fun _ => 0))), (q2, .inl (g.1, 300, .inl (fun _ => 0))), (q3, .inl (g.1, 300, .inl (fun _ => 0)))]) dX2_init_28 qX2_18 rfl (Nat.le_of_ble_eq_true rfl) rfl rfl rfl ?_
  refine en_aload dX2_init_31 rfl ?_
  refine en_iconst (v := 0) dX2_init_32 (by decide) ?_
  refine en_putI (i0 := 0) (ws' := [(h0, .inr (2, [.ref q1, .ref q2, .ref q3, .int 0])), (q1, .inl (g.1, 300, .inl (fun _ => 0))), (q2, .inl (g.1, 300, .inl (fun _ => 0))), (q3, .inl (g.1, 300, .inl (fun _ => 0)))]) dX2_init_33 qX2_21 rfl (Nat.le_of_ble_eq_true rfl) rfl rfl rfl ?_
  exact en_vret (st := []) dX2_init_36 (Nat.le_of_ble_eq_true rfl) (Nat.le_of_ble_eq_true rfl) ⟨q1, q2, q3, rfl⟩
theorem qX3_9 : rn_pf RX3 9 3 0 true (tyX3 0) := ⟨RX3, TX3, 4, tyX3, rfl, by decide, iw_4 _ (List.mem_of_getElem? (i := 21) rfl), inlX3, tyX3_ok, nmX3, rfl, rfl, rfl⟩
theorem qX3_15 : rn_pf RX3 15 3 1 true (tyX3 1) := ⟨RX3, TX3, 4, tyX3, rfl, by decide, iw_4 _ (List.mem_of_getElem? (i := 22) rfl), inlX3, tyX3_ok, nmX3, rfl, rfl, rfl⟩
theorem qX3_18 : rn_pf RX3 18 3 2 true (tyX3 2) := ⟨RX3, TX3, 4, tyX3, rfl, by decide, iw_4 _ (List.mem_of_getElem? (i := 23) rfl), inlX3, tyX3_ok, nmX3, rfl, rfl, rfl⟩
theorem qX3_21 : rn_pf RX3 21 3 3 false (tyX3 3) := ⟨RX3, TX3, 4, tyX3, rfl, by decide, iw_5 _ (List.mem_of_getElem? (i := 0) rfl), inlX3, tyX3_ok, nmX3, rfl, rfl, rfl⟩
abbrev mX3_init : rf_Me := (yX3_init, cX3_init, 1, none, { frames := 1, cells := 3, slots := 30, locals := 12 })
theorem ceX3_init : rn_ce mX3_init 0 := ⟨by decide +kernel, iw_4 _ (List.mem_of_getElem? (i := 19) rfl), iw_2 _ (List.mem_of_getElem? (i := 7) rfl), ⟨by decide +kernel, by decide +kernel, by decide +kernel⟩, rfl, iw_4 _ (List.mem_of_getElem? (i := 18) rfl), rfl⟩
set_option maxRecDepth 20000 in
set_option maxHeartbeats 2000000 in
theorem nX3_init {g : rf_G} (h0 : Nat) : EvN g mX3_init 0 (rf_ent 1 [.ref h0]) [] [(h0, .inr (3, [.null, .null, .null, .int 0]))] 0 0 (fun w => ∃ q1 q2 q3, w = [(h0, .inr (3, [.ref q1, .ref q2, .ref q3, .int 0])), (q1, .inl (g.1, 10, .inl (fun _ => 0))), (q2, .inl (g.1, 10, .inl (fun _ => 0))), (q3, .inl (g.1, 10, .inl (fun _ => 0)))]) := by
  refine en_aload dX3_init_0 rfl ?_
  refine en_obj dX3_init_1 (iw_4 _ (List.mem_of_getElem? (i := 20) rfl)) (Nat.le_of_ble_eq_true rfl) (Nat.le_of_ble_eq_true rfl) ?_
  refine en_aload dX3_init_4 rfl ?_
  refine en_bipush (v := (nI 10)) dX3_init_5 (by decide) ?_
  refine en_newI (N := 10) dX3_init_7 (by decide) (Nat.le_of_ble_eq_true rfl) (Nat.le_of_ble_eq_true rfl) (fun q1 => ?_)
  refine en_putF (i0 := 0) (ws' := [(h0, .inr (3, [.ref q1, .null, .null, .int 0])), (q1, .inl (g.1, 10, .inl (fun _ => 0)))]) dX3_init_9 qX3_9 rfl (Nat.le_of_ble_eq_true rfl) rfl rfl rfl ?_
  refine en_aload dX3_init_12 rfl ?_
  refine en_bipush (v := (nI 10)) dX3_init_13 (by decide) ?_
  refine en_newI (N := 10) dX3_init_15 (by decide) (Nat.le_of_ble_eq_true rfl) (Nat.le_of_ble_eq_true rfl) (fun q2 => ?_)
  refine en_putF (i0 := 0) (ws' := [(h0, .inr (3, [.ref q1, .ref q2, .null, .int 0])), (q1, .inl (g.1, 10, .inl (fun _ => 0))), (q2, .inl (g.1, 10, .inl (fun _ => 0)))]) dX3_init_17 qX3_15 rfl (Nat.le_of_ble_eq_true rfl) rfl rfl rfl ?_
  refine en_aload dX3_init_20 rfl ?_
  refine en_bipush (v := (nI 10)) dX3_init_21 (by decide) ?_
  refine en_newI (N := 10) dX3_init_23 (by decide) (Nat.le_of_ble_eq_true rfl) (Nat.le_of_ble_eq_true rfl) (fun q3 => ?_)
  refine en_putF (i0 := 0) (ws' := [(h0, .inr (3, [.ref q1, .ref q2, .ref q3, .int 0])), (q1, .inl (g.1, 10, .inl (fun _ => 0))), (q2, .inl (g.1, 10, .inl (fun _ => 0))), (q3, .inl (g.1, 10, .inl (fun _ => 0)))]) dX3_init_25 qX3_18 rfl (Nat.le_of_ble_eq_true rfl) rfl rfl rfl ?_
  refine en_aload dX3_init_28 rfl ?_
  refine en_iconst (v := 0) dX3_init_29 (by decide) ?_
  refine en_putI (i0 := 0) (ws' := [(h0, .inr (3, [.ref q1, .ref q2, .ref q3, .int 0])), (q1, .inl (g.1, 10, .inl (fun _ => 0))), (q2, .inl (g.1, 10, .inl (fun _ => 0))), (q3, .inl (g.1, 10, .inl (fun _ => 0)))]) dX3_init_30 qX3_21 rfl (Nat.le_of_ble_eq_true rfl) rfl rfl rfl ?_
  exact en_vret (st := []) dX3_init_33 (Nat.le_of_ble_eq_true rfl) (Nat.le_of_ble_eq_true rfl) ⟨q1, q2, q3, rfl⟩
theorem qX4_9 : rn_pf RX4 9 4 0 true (tyX4 0) := ⟨RX4, TX4, 5, tyX4, rfl, by decide, iw_2 _ (List.mem_of_getElem? (i := 20) rfl), inlX4, tyX4_ok, nmX4, rfl, rfl, rfl⟩
theorem qX4_15 : rn_pf RX4 15 4 1 false (tyX4 1) := ⟨RX4, TX4, 5, tyX4, rfl, by decide, iw_2 _ (List.mem_of_getElem? (i := 21) rfl), inlX4, tyX4_ok, nmX4, rfl, rfl, rfl⟩
theorem qX4_19 : rn_pf RX4 19 4 2 false (tyX4 2) := ⟨RX4, TX4, 5, tyX4, rfl, by decide, iw_2 _ (List.mem_of_getElem? (i := 22) rfl), inlX4, tyX4_ok, nmX4, rfl, rfl, rfl⟩
theorem qX4_22 : rn_pf RX4 22 4 3 false (tyX4 3) := ⟨RX4, TX4, 5, tyX4, rfl, by decide, iw_2 _ (List.mem_of_getElem? (i := 23) rfl), inlX4, tyX4_ok, nmX4, rfl, rfl, rfl⟩
theorem qX4_25 : rn_pf RX4 25 4 4 false (tyX4 4) := ⟨RX4, TX4, 5, tyX4, rfl, by decide, iw_3 _ (List.mem_of_getElem? (i := 0) rfl), inlX4, tyX4_ok, nmX4, rfl, rfl, rfl⟩
abbrev mX4_init : rf_Me := (yX4_init, cX4_init, 1, none, { frames := 1, cells := 1, slots := 400, locals := 12 })
theorem ceX4_init : rn_ce mX4_init 0 := ⟨by decide +kernel, iw_2 _ (List.mem_of_getElem? (i := 18) rfl), iw_1 _ (List.mem_of_getElem? (i := 15) rfl), ⟨by decide +kernel, by decide +kernel, by decide +kernel⟩, rfl, iw_2 _ (List.mem_of_getElem? (i := 17) rfl), rfl⟩
set_option maxRecDepth 20000 in
set_option maxHeartbeats 2000000 in
theorem nX4_init {g : rf_G} (h0 : Nat) : EvN g mX4_init 0 (rf_ent 1 [.ref h0]) [] [(h0, .inr (4, [.null, .int 0, .int 0, .int 0, .int 0]))] 0 0 (fun w => ∃ q1, w = [(h0, .inr (4, [.ref q1, .int 0, .int 0, .int (-1), .int 0])), (q1, .inl (g.1, 400, .inl (fun _ => 0)))]) := by
  refine en_aload dX4_init_0 rfl ?_
  refine en_obj dX4_init_1 (iw_2 _ (List.mem_of_getElem? (i := 19) rfl)) (Nat.le_of_ble_eq_true rfl) (Nat.le_of_ble_eq_true rfl) ?_
  refine en_aload dX4_init_4 rfl ?_
  refine en_sipush (v := (nI 400)) dX4_init_5 (by decide) ?_
  refine en_newI (N := 400) dX4_init_8 (by decide) (Nat.le_of_ble_eq_true rfl) (Nat.le_of_ble_eq_true rfl) (fun q1 => ?_)
  refine en_putF (i0 := 0) (ws' := [(h0, .inr (4, [.ref q1, .int 0, .int 0, .int 0, .int 0])), (q1, .inl (g.1, 400, .inl (fun _ => 0)))]) dX4_init_10 qX4_9 rfl (Nat.le_of_ble_eq_true rfl) rfl rfl rfl ?_
  refine en_aload dX4_init_13 rfl ?_
  refine en_iconst (v := 0) dX4_init_14 (by decide) ?_
  refine en_putI (i0 := 0) (ws' := [(h0, .inr (4, [.ref q1, .int 0, .int 0, .int 0, .int 0])), (q1, .inl (g.1, 400, .inl (fun _ => 0)))]) dX4_init_15 qX4_15 rfl (Nat.le_of_ble_eq_true rfl) rfl rfl rfl ?_
  refine en_aload dX4_init_18 rfl ?_
  refine en_iconst (v := 0) dX4_init_19 (by decide) ?_
  refine en_putI (i0 := 0) (ws' := [(h0, .inr (4, [.ref q1, .int 0, .int 0, .int 0, .int 0])), (q1, .inl (g.1, 400, .inl (fun _ => 0)))]) dX4_init_20 qX4_19 rfl (Nat.le_of_ble_eq_true rfl) rfl rfl rfl ?_
  refine en_aload dX4_init_23 rfl ?_
  refine en_iconst (v := (-1)) dX4_init_24 (by decide) ?_
  refine en_putI (i0 := 0) (ws' := [(h0, .inr (4, [.ref q1, .int 0, .int 0, .int (-1), .int 0])), (q1, .inl (g.1, 400, .inl (fun _ => 0)))]) dX4_init_25 qX4_22 rfl (Nat.le_of_ble_eq_true rfl) rfl rfl rfl ?_
  refine en_aload dX4_init_28 rfl ?_
  refine en_iconst (v := 0) dX4_init_29 (by decide) ?_
  refine en_putI (i0 := 0) (ws' := [(h0, .inr (4, [.ref q1, .int 0, .int 0, .int (-1), .int 0])), (q1, .inl (g.1, 400, .inl (fun _ => 0)))]) dX4_init_30 qX4_25 rfl (Nat.le_of_ble_eq_true rfl) rfl rfl rfl ?_
  exact en_vret (st := []) dX4_init_33 (Nat.le_of_ble_eq_true rfl) (Nat.le_of_ble_eq_true rfl) ⟨q1, rfl⟩
theorem cX5_9 : rn_cl RX5 9 2 4 [.null, .null, .null, .int 0] := ⟨RX2, TX2, tyX2, rfl, inlX2, tyX2_ok, iw_3 _ (List.mem_of_getElem? (i := 16) rfl), iw_3 _ (List.mem_of_getElem? (i := 17) rfl), iw_3 _ (List.mem_of_getElem? (i := 18) rfl), fun j hj => by rcases (show j = 0 ∨ j = 1 ∨ j = 2 ∨ j = 3 by omega) with rfl | rfl | rfl | rfl <;> rfl⟩
theorem qX5_12 : rn_pf RX5 12 5 1 true (tyX5 1) := ⟨RX5, TX5, 12, tyX5, rfl, by decide, iw_3 _ (List.mem_of_getElem? (i := 19) rfl), inlX5, tyX5_ok, nmX5, rfl, rfl, rfl⟩
theorem qX5_18 : rn_pf RX5 18 5 2 true (tyX5 2) := ⟨RX5, TX5, 12, tyX5, rfl, by decide, iw_3 _ (List.mem_of_getElem? (i := 20) rfl), inlX5, tyX5_ok, nmX5, rfl, rfl, rfl⟩
theorem qX5_22 : rn_pf RX5 22 5 3 true (tyX5 3) := ⟨RX5, TX5, 12, tyX5, rfl, by decide, iw_3 _ (List.mem_of_getElem? (i := 21) rfl), inlX5, tyX5_ok, nmX5, rfl, rfl, rfl⟩
theorem qX5_25 : rn_pf RX5 25 5 4 true (tyX5 4) := ⟨RX5, TX5, 12, tyX5, rfl, by decide, iw_3 _ (List.mem_of_getElem? (i := 22) rfl), inlX5, tyX5_ok, nmX5, rfl, rfl, rfl⟩
theorem qX5_28 : rn_pf RX5 28 5 5 true (tyX5 5) := ⟨RX5, TX5, 12, tyX5, rfl, by decide, iw_3 _ (List.mem_of_getElem? (i := 23) rfl), inlX5, tyX5_ok, nmX5, rfl, rfl, rfl⟩
theorem qX5_31 : rn_pf RX5 31 5 6 true (tyX5 6) := ⟨RX5, TX5, 12, tyX5, rfl, by decide, iw_4 _ (List.mem_of_getElem? (i := 0) rfl), inlX5, tyX5_ok, nmX5, rfl, rfl, rfl⟩
theorem qX5_34 : rn_pf RX5 34 5 7 true (tyX5 7) := ⟨RX5, TX5, 12, tyX5, rfl, by decide, iw_4 _ (List.mem_of_getElem? (i := 1) rfl), inlX5, tyX5_ok, nmX5, rfl, rfl, rfl⟩
theorem qX5_37 : rn_pf RX5 37 5 8 true (tyX5 8) := ⟨RX5, TX5, 12, tyX5, rfl, by decide, iw_4 _ (List.mem_of_getElem? (i := 2) rfl), inlX5, tyX5_ok, nmX5, rfl, rfl, rfl⟩
theorem qX5_40 : rn_pf RX5 40 5 9 false (tyX5 9) := ⟨RX5, TX5, 12, tyX5, rfl, by decide, iw_4 _ (List.mem_of_getElem? (i := 3) rfl), inlX5, tyX5_ok, nmX5, rfl, rfl, rfl⟩
theorem qX5_44 : rn_pf RX5 44 5 10 false (tyX5 10) := ⟨RX5, TX5, 12, tyX5, rfl, by decide, iw_4 _ (List.mem_of_getElem? (i := 4) rfl), inlX5, tyX5_ok, nmX5, rfl, rfl, rfl⟩
theorem qX5_47 : rn_pf RX5 47 5 11 false (tyX5 11) := ⟨RX5, TX5, 12, tyX5, rfl, by decide, iw_4 _ (List.mem_of_getElem? (i := 5) rfl), inlX5, tyX5_ok, nmX5, rfl, rfl, rfl⟩
theorem qX5_50 : rn_pf RX5 50 5 0 true (tyX5 0) := ⟨RX5, TX5, 12, tyX5, rfl, by decide, iw_4 _ (List.mem_of_getElem? (i := 6) rfl), inlX5, tyX5_ok, nmX5, rfl, rfl, rfl⟩
abbrev mX5_init : rf_Me := (yX5_init, cX5_init, 2, none, { frames := 2, cells := 11, slots := 1336, locals := 32 })
theorem ceX5_init : rn_ce mX5_init 1 := ⟨by decide +kernel, iw_3 _ (List.mem_of_getElem? (i := 14) rfl), iw_2 _ (List.mem_of_getElem? (i := 0) rfl), ⟨by decide +kernel, by decide +kernel, by decide +kernel⟩, rfl, iw_3 _ (List.mem_of_getElem? (i := 13) rfl), rfl⟩
set_option maxRecDepth 20000 in
set_option maxHeartbeats 2000000 in
theorem nX5_init {g : rf_G} (h0 : Nat) (lb : Nat) : EvN g mX5_init 0 (rf_ent 2 [.ref h0, .ref lb]) [] [(h0, .inr (5, [.null, .null, .null, .null, .null, .null, .null, .null, .null, .int 0, .int 0, .int 0]))] 0 0 (fun w => ∃ q1 q2 q3 q4 q5 q6 q7 q8 q9 q10 q11, w = [(h0, .inr (5, [.ref lb, .ref q1, .ref q5, .ref q6, .ref q7, .ref q8, .ref q9, .ref q10, .ref q11, .int 0, .int 0, .int 0])), (q1, .inr (2, [.ref q2, .ref q3, .ref q4, .int 0])), (q2, .inl (g.1, 300, .inl (fun _ => 0))), (q3, .inl (g.1, 300, .inl (fun _ => 0))), (q4, .inl (g.1, 300, .inl (fun _ => 0))), (q5, .inl (g.1, 40, .inl (fun _ => 0))), (q6, .inl (g.1, 40, .inl (fun _ => 0))), (q7, .inl (g.1, 40, .inl (fun _ => 0))), (q8, .inl (g.1, 40, .inl (fun _ => 0))), (q10, .inl (g.1, 128, .inl (fun _ => 0))), (q11, .inl (g.1, 16, .inl (fun _ => 0))), (q9, .inl (g.1, 128, .inl (fun j => if j < 128 then (-1) else 0)))]) := by
  refine en_aload dX5_init_0 rfl ?_
  refine en_obj dX5_init_1 (iw_3 _ (List.mem_of_getElem? (i := 15) rfl)) (Nat.le_of_ble_eq_true rfl) (Nat.le_of_ble_eq_true rfl) ?_
  refine en_aload dX5_init_4 rfl ?_
  refine en_new dX5_init_5 cX5_9 (Nat.le_of_ble_eq_true rfl) (Nat.le_of_ble_eq_true rfl) (fun q1 => ?_)
  refine en_dup dX5_init_8 rfl ?_
  refine en_call (wc := [(q1, .inr (2, [.null, .null, .null, .int 0]))]) (wr := [(h0, .inr (5, [.null, .null, .null, .null, .null, .null, .null, .null, .null, .int 0, .int 0, .int 0]))]) [] [1] [0] dX5_init_9 rfl ceX2_init (Or.inl ⟨RX6, by decide +kernel⟩) (rm_le rfl rfl) rfl (Nat.le_of_ble_eq_true rfl) (Nat.le_of_ble_eq_true rfl) rfl rfl rfl rfl (by decide) (Nat.le_of_ble_eq_true rfl) (Nat.le_of_ble_eq_true rfl) (nX2_init q1) (fun w1 h1 => ?_)
  obtain ⟨q2, q3, q4, rfl⟩ := h1
  refine en_putF (i0 := 0) (ws' := [(h0, .inr (5, [.null, .ref q1, .null, .null, .null, .null, .null, .null, .null, .int 0, .int 0, .int 0])), (q1, .inr (2, [.ref q2, .ref q3, .ref q4, .int 0])), (q2, .inl (g.1, 300, .inl (fun _ => 0))), (q3, .inl (g.1, 300, .inl (fun _ => 0))), (q4, .inl (g.1, 300, .inl (fun _ => 0)))]) dX5_init_12 qX5_12 rfl (Nat.le_of_ble_eq_true rfl) rfl rfl rfl ?_
  refine en_aload dX5_init_15 rfl ?_
  refine en_bipush (v := (nI 40)) dX5_init_16 (by decide) ?_
  refine en_newI (N := 40) dX5_init_18 (by decide) (Nat.le_of_ble_eq_true rfl) (Nat.le_of_ble_eq_true rfl) (fun q5 => ?_)
  refine en_putF (i0 := 0) (ws' := [(h0, .inr (5, [.null, .ref q1, .ref q5, .null, .null, .null, .null, .null, .null, .int 0, .int 0, .int 0])), (q1, .inr (2, [.ref q2, .ref q3, .ref q4, .int 0])), (q2, .inl (g.1, 300, .inl (fun _ => 0))), (q3, .inl (g.1, 300, .inl (fun _ => 0))), (q4, .inl (g.1, 300, .inl (fun _ => 0))), (q5, .inl (g.1, 40, .inl (fun _ => 0)))]) dX5_init_20 qX5_18 rfl (Nat.le_of_ble_eq_true rfl) rfl rfl rfl ?_
  refine en_aload dX5_init_23 rfl ?_
  refine en_bipush (v := (nI 40)) dX5_init_24 (by decide) ?_
  refine en_newI (N := 40) dX5_init_26 (by decide) (Nat.le_of_ble_eq_true rfl) (Nat.le_of_ble_eq_true rfl) (fun q6 => ?_)
  refine en_putF (i0 := 0) (ws' := [(h0, .inr (5, [.null, .ref q1, .ref q5, .ref q6, .null, .null, .null, .null, .null, .int 0, .int 0, .int 0])), (q1, .inr (2, [.ref q2, .ref q3, .ref q4, .int 0])), (q2, .inl (g.1, 300, .inl (fun _ => 0))), (q3, .inl (g.1, 300, .inl (fun _ => 0))), (q4, .inl (g.1, 300, .inl (fun _ => 0))), (q5, .inl (g.1, 40, .inl (fun _ => 0))), (q6, .inl (g.1, 40, .inl (fun _ => 0)))]) dX5_init_28 qX5_22 rfl (Nat.le_of_ble_eq_true rfl) rfl rfl rfl ?_
  refine en_aload dX5_init_31 rfl ?_
  refine en_bipush (v := (nI 40)) dX5_init_32 (by decide) ?_
  refine en_newI (N := 40) dX5_init_34 (by decide) (Nat.le_of_ble_eq_true rfl) (Nat.le_of_ble_eq_true rfl) (fun q7 => ?_)
  refine en_putF (i0 := 0) (ws' := [(h0, .inr (5, [.null, .ref q1, .ref q5, .ref q6, .ref q7, .null, .null, .null, .null, .int 0, .int 0, .int 0])), (q1, .inr (2, [.ref q2, .ref q3, .ref q4, .int 0])), (q2, .inl (g.1, 300, .inl (fun _ => 0))), (q3, .inl (g.1, 300, .inl (fun _ => 0))), (q4, .inl (g.1, 300, .inl (fun _ => 0))), (q5, .inl (g.1, 40, .inl (fun _ => 0))), (q6, .inl (g.1, 40, .inl (fun _ => 0))), (q7, .inl (g.1, 40, .inl (fun _ => 0)))]) dX5_init_36 qX5_25 rfl (Nat.le_of_ble_eq_true rfl) rfl rfl rfl ?_
  refine en_aload dX5_init_39 rfl ?_
  refine en_bipush (v := (nI 40)) dX5_init_40 (by decide) ?_
  refine en_newI (N := 40) dX5_init_42 (by decide) (Nat.le_of_ble_eq_true rfl) (Nat.le_of_ble_eq_true rfl) (fun q8 => ?_)
  refine en_putF (i0 := 0) (ws' := [(h0, .inr (5, [.null, .ref q1, .ref q5, .ref q6, .ref q7, .ref q8, .null, .null, .null, .int 0, .int 0, .int 0])), (q1, .inr (2, [.ref q2, .ref q3, .ref q4, .int 0])), (q2, .inl (g.1, 300, .inl (fun _ => 0))), (q3, .inl (g.1, 300, .inl (fun _ => 0))), (q4, .inl (g.1, 300, .inl (fun _ => 0))), (q5, .inl (g.1, 40, .inl (fun _ => 0))), (q6, .inl (g.1, 40, .inl (fun _ => 0))), (q7, .inl (g.1, 40, .inl (fun _ => 0))), (q8, .inl (g.1, 40, .inl (fun _ => 0)))]) dX5_init_44 qX5_28 rfl (Nat.le_of_ble_eq_true rfl) rfl rfl rfl ?_
  refine en_aload dX5_init_47 rfl ?_
  refine en_sipush (v := (nI 128)) dX5_init_48 (by decide) ?_
  refine en_newI (N := 128) dX5_init_51 (by decide) (Nat.le_of_ble_eq_true rfl) (Nat.le_of_ble_eq_true rfl) (fun q9 => ?_)
  refine en_putF (i0 := 0) (ws' := [(h0, .inr (5, [.null, .ref q1, .ref q5, .ref q6, .ref q7, .ref q8, .ref q9, .null, .null, .int 0, .int 0, .int 0])), (q1, .inr (2, [.ref q2, .ref q3, .ref q4, .int 0])), (q2, .inl (g.1, 300, .inl (fun _ => 0))), (q3, .inl (g.1, 300, .inl (fun _ => 0))), (q4, .inl (g.1, 300, .inl (fun _ => 0))), (q5, .inl (g.1, 40, .inl (fun _ => 0))), (q6, .inl (g.1, 40, .inl (fun _ => 0))), (q7, .inl (g.1, 40, .inl (fun _ => 0))), (q8, .inl (g.1, 40, .inl (fun _ => 0))), (q9, .inl (g.1, 128, .inl (fun _ => 0)))]) dX5_init_53 qX5_31 rfl (Nat.le_of_ble_eq_true rfl) rfl rfl rfl ?_
  refine en_aload dX5_init_56 rfl ?_
  refine en_sipush (v := (nI 128)) dX5_init_57 (by decide) ?_
  refine en_newI (N := 128) dX5_init_60 (by decide) (Nat.le_of_ble_eq_true rfl) (Nat.le_of_ble_eq_true rfl) (fun q10 => ?_)
  refine en_putF (i0 := 0) (ws' := [(h0, .inr (5, [.null, .ref q1, .ref q5, .ref q6, .ref q7, .ref q8, .ref q9, .ref q10, .null, .int 0, .int 0, .int 0])), (q1, .inr (2, [.ref q2, .ref q3, .ref q4, .int 0])), (q2, .inl (g.1, 300, .inl (fun _ => 0))), (q3, .inl (g.1, 300, .inl (fun _ => 0))), (q4, .inl (g.1, 300, .inl (fun _ => 0))), (q5, .inl (g.1, 40, .inl (fun _ => 0))), (q6, .inl (g.1, 40, .inl (fun _ => 0))), (q7, .inl (g.1, 40, .inl (fun _ => 0))), (q8, .inl (g.1, 40, .inl (fun _ => 0))), (q9, .inl (g.1, 128, .inl (fun _ => 0))), (q10, .inl (g.1, 128, .inl (fun _ => 0)))]) dX5_init_62 qX5_34 rfl (Nat.le_of_ble_eq_true rfl) rfl rfl rfl ?_
  refine en_aload dX5_init_65 rfl ?_
  refine en_bipush (v := (nI 16)) dX5_init_66 (by decide) ?_
  refine en_newI (N := 16) dX5_init_68 (by decide) (Nat.le_of_ble_eq_true rfl) (Nat.le_of_ble_eq_true rfl) (fun q11 => ?_)
  refine en_putF (i0 := 0) (ws' := [(h0, .inr (5, [.null, .ref q1, .ref q5, .ref q6, .ref q7, .ref q8, .ref q9, .ref q10, .ref q11, .int 0, .int 0, .int 0])), (q1, .inr (2, [.ref q2, .ref q3, .ref q4, .int 0])), (q2, .inl (g.1, 300, .inl (fun _ => 0))), (q3, .inl (g.1, 300, .inl (fun _ => 0))), (q4, .inl (g.1, 300, .inl (fun _ => 0))), (q5, .inl (g.1, 40, .inl (fun _ => 0))), (q6, .inl (g.1, 40, .inl (fun _ => 0))), (q7, .inl (g.1, 40, .inl (fun _ => 0))), (q8, .inl (g.1, 40, .inl (fun _ => 0))), (q9, .inl (g.1, 128, .inl (fun _ => 0))), (q10, .inl (g.1, 128, .inl (fun _ => 0))), (q11, .inl (g.1, 16, .inl (fun _ => 0)))]) dX5_init_70 qX5_37 rfl (Nat.le_of_ble_eq_true rfl) rfl rfl rfl ?_
  refine en_aload dX5_init_73 rfl ?_
  refine en_iconst (v := 0) dX5_init_74 (by decide) ?_
  refine en_putI (i0 := 0) (ws' := [(h0, .inr (5, [.null, .ref q1, .ref q5, .ref q6, .ref q7, .ref q8, .ref q9, .ref q10, .ref q11, .int 0, .int 0, .int 0])), (q1, .inr (2, [.ref q2, .ref q3, .ref q4, .int 0])), (q2, .inl (g.1, 300, .inl (fun _ => 0))), (q3, .inl (g.1, 300, .inl (fun _ => 0))), (q4, .inl (g.1, 300, .inl (fun _ => 0))), (q5, .inl (g.1, 40, .inl (fun _ => 0))), (q6, .inl (g.1, 40, .inl (fun _ => 0))), (q7, .inl (g.1, 40, .inl (fun _ => 0))), (q8, .inl (g.1, 40, .inl (fun _ => 0))), (q9, .inl (g.1, 128, .inl (fun _ => 0))), (q10, .inl (g.1, 128, .inl (fun _ => 0))), (q11, .inl (g.1, 16, .inl (fun _ => 0)))]) dX5_init_75 qX5_40 rfl (Nat.le_of_ble_eq_true rfl) rfl rfl rfl ?_
  refine en_aload dX5_init_78 rfl ?_
  refine en_iconst (v := 0) dX5_init_79 (by decide) ?_
  refine en_putI (i0 := 0) (ws' := [(h0, .inr (5, [.null, .ref q1, .ref q5, .ref q6, .ref q7, .ref q8, .ref q9, .ref q10, .ref q11, .int 0, .int 0, .int 0])), (q1, .inr (2, [.ref q2, .ref q3, .ref q4, .int 0])), (q2, .inl (g.1, 300, .inl (fun _ => 0))), (q3, .inl (g.1, 300, .inl (fun _ => 0))), (q4, .inl (g.1, 300, .inl (fun _ => 0))), (q5, .inl (g.1, 40, .inl (fun _ => 0))), (q6, .inl (g.1, 40, .inl (fun _ => 0))), (q7, .inl (g.1, 40, .inl (fun _ => 0))), (q8, .inl (g.1, 40, .inl (fun _ => 0))), (q9, .inl (g.1, 128, .inl (fun _ => 0))), (q10, .inl (g.1, 128, .inl (fun _ => 0))), (q11, .inl (g.1, 16, .inl (fun _ => 0)))]) dX5_init_80 qX5_44 rfl (Nat.le_of_ble_eq_true rfl) rfl rfl rfl ?_
  refine en_aload dX5_init_83 rfl ?_
  refine en_iconst (v := 0) dX5_init_84 (by decide) ?_
  refine en_putI (i0 := 0) (ws' := [(h0, .inr (5, [.null, .ref q1, .ref q5, .ref q6, .ref q7, .ref q8, .ref q9, .ref q10, .ref q11, .int 0, .int 0, .int 0])), (q1, .inr (2, [.ref q2, .ref q3, .ref q4, .int 0])), (q2, .inl (g.1, 300, .inl (fun _ => 0))), (q3, .inl (g.1, 300, .inl (fun _ => 0))), (q4, .inl (g.1, 300, .inl (fun _ => 0))), (q5, .inl (g.1, 40, .inl (fun _ => 0))), (q6, .inl (g.1, 40, .inl (fun _ => 0))), (q7, .inl (g.1, 40, .inl (fun _ => 0))), (q8, .inl (g.1, 40, .inl (fun _ => 0))), (q9, .inl (g.1, 128, .inl (fun _ => 0))), (q10, .inl (g.1, 128, .inl (fun _ => 0))), (q11, .inl (g.1, 16, .inl (fun _ => 0)))]) dX5_init_85 qX5_47 rfl (Nat.le_of_ble_eq_true rfl) rfl rfl rfl ?_
  refine en_aload dX5_init_88 rfl ?_
  refine en_aload dX5_init_89 rfl ?_
  refine en_putF (i0 := 0) (ws' := [(h0, .inr (5, [.ref lb, .ref q1, .ref q5, .ref q6, .ref q7, .ref q8, .ref q9, .ref q10, .ref q11, .int 0, .int 0, .int 0])), (q1, .inr (2, [.ref q2, .ref q3, .ref q4, .int 0])), (q2, .inl (g.1, 300, .inl (fun _ => 0))), (q3, .inl (g.1, 300, .inl (fun _ => 0))), (q4, .inl (g.1, 300, .inl (fun _ => 0))), (q5, .inl (g.1, 40, .inl (fun _ => 0))), (q6, .inl (g.1, 40, .inl (fun _ => 0))), (q7, .inl (g.1, 40, .inl (fun _ => 0))), (q8, .inl (g.1, 40, .inl (fun _ => 0))), (q9, .inl (g.1, 128, .inl (fun _ => 0))), (q10, .inl (g.1, 128, .inl (fun _ => 0))), (q11, .inl (g.1, 16, .inl (fun _ => 0)))]) dX5_init_90 qX5_50 rfl (Nat.le_of_ble_eq_true rfl) rfl rfl rfl ?_
  refine en_aload dX5_init_93 rfl ?_
  refine en_get (i0 := 0) dX5_init_94 fX5_31 rfl rfl ?_
  refine en_iconst (v := (-1)) dX5_init_97 (by decide) ?_
  refine en_fill (i0 := 9) (wr := [(h0, .inr (5, [.ref lb, .ref q1, .ref q5, .ref q6, .ref q7, .ref q8, .ref q9, .ref q10, .ref q11, .int 0, .int 0, .int 0])), (q1, .inr (2, [.ref q2, .ref q3, .ref q4, .int 0])), (q2, .inl (g.1, 300, .inl (fun _ => 0))), (q3, .inl (g.1, 300, .inl (fun _ => 0))), (q4, .inl (g.1, 300, .inl (fun _ => 0))), (q5, .inl (g.1, 40, .inl (fun _ => 0))), (q6, .inl (g.1, 40, .inl (fun _ => 0))), (q7, .inl (g.1, 40, .inl (fun _ => 0))), (q8, .inl (g.1, 40, .inl (fun _ => 0))), (q10, .inl (g.1, 128, .inl (fun _ => 0))), (q11, .inl (g.1, 16, .inl (fun _ => 0)))]) [0, 1, 2, 3, 4, 5, 6, 7, 8, 10, 11] dX5_init_98 kX5_54 (rm_le rfl rfl) (Nat.le_of_ble_eq_true rfl) (by decide) (Nat.le_of_ble_eq_true rfl) (Nat.le_of_ble_eq_true rfl) rfl rfl rfl (by decide) ?_
  exact en_vret (st := []) dX5_init_101 (Nat.le_of_ble_eq_true rfl) (Nat.le_of_ble_eq_true rfl) ⟨q1, q2, q3, q4, q5, q6, q7, q8, q9, q10, q11, rfl⟩
