theorem dX6_feed_0 : decode cX6_feed 0 = .ok (.iload_n 1, 1) := by decide +kernel
theorem dX6_feed_1 : decode cX6_feed 1 = .ok (.iconst 1, 1) := by decide +kernel
theorem dX6_feed_2 : decode cX6_feed 2 = .ok (.if_icmp .lt 9, 3) := by decide +kernel
theorem dX6_feed_5 : decode cX6_feed 5 = .ok (.iload_n 1, 1) := by decide +kernel
theorem dX6_feed_6 : decode cX6_feed 6 = .ok (.bipush 8, 2) := by decide +kernel
theorem dX6_feed_8 : decode cX6_feed 8 = .ok (.if_icmp .le 6, 3) := by decide +kernel
theorem dX6_feed_11 : decode cX6_feed 11 = .ok (.ldc 70, 2) := by decide +kernel
theorem dX6_feed_13 : decode cX6_feed 13 = .ok (.ireturn, 1) := by decide +kernel
theorem dX6_feed_14 : decode cX6_feed 14 = .ok (.aload_n 0, 1) := by decide +kernel
theorem dX6_feed_15 : decode cX6_feed 15 = .ok (.getfield 10, 3) := by decide +kernel
theorem dX6_feed_18 : decode cX6_feed 18 = .ok (.getfield 71, 3) := by decide +kernel
theorem dX6_feed_21 : decode cX6_feed 21 = .ok (.iload_n 1, 1) := by decide +kernel
theorem dX6_feed_22 : decode cX6_feed 22 = .ok (.iadd, 1) := by decide +kernel
theorem dX6_feed_23 : decode cX6_feed 23 = .ok (.sipush 400, 3) := by decide +kernel
theorem dX6_feed_26 : decode cX6_feed 26 = .ok (.if_icmp .le 6, 3) := by decide +kernel
theorem dX6_feed_29 : decode cX6_feed 29 = .ok (.ldc 74, 2) := by decide +kernel
theorem dX6_feed_31 : decode cX6_feed 31 = .ok (.ireturn, 1) := by decide +kernel
theorem dX6_feed_32 : decode cX6_feed 32 = .ok (.iload_n 1, 1) := by decide +kernel
theorem dX6_feed_33 : decode cX6_feed 33 = .ok (.iconst 1, 1) := by decide +kernel
theorem dX6_feed_34 : decode cX6_feed 34 = .ok (.isub, 1) := by decide +kernel
theorem dX6_feed_35 : decode cX6_feed 35 = .ok (.istore 4, 2) := by decide +kernel
theorem dX6_feed_37 : decode cX6_feed 37 = .ok (.iload 4, 2) := by decide +kernel
theorem dX6_feed_39 : decode cX6_feed 39 = .ok (.ifCond .lt 28, 3) := by decide +kernel
theorem dX6_feed_42 : decode cX6_feed 42 = .ok (.aload_n 0, 1) := by decide +kernel
theorem dX6_feed_43 : decode cX6_feed 43 = .ok (.getfield 10, 3) := by decide +kernel
theorem dX6_feed_46 : decode cX6_feed 46 = .ok (.lload_n 2, 1) := by decide +kernel
theorem dX6_feed_47 : decode cX6_feed 47 = .ok (.bipush 8, 2) := by decide +kernel
theorem dX6_feed_49 : decode cX6_feed 49 = .ok (.iload 4, 2) := by decide +kernel
theorem dX6_feed_51 : decode cX6_feed 51 = .ok (.imul, 1) := by decide +kernel
theorem dX6_feed_52 : decode cX6_feed 52 = .ok (.lushr, 1) := by decide +kernel
theorem dX6_feed_53 : decode cX6_feed 53 = .ok (.l2i, 1) := by decide +kernel
theorem dX6_feed_54 : decode cX6_feed 54 = .ok (.sipush 255, 3) := by decide +kernel
theorem dX6_feed_57 : decode cX6_feed 57 = .ok (.iand, 1) := by decide +kernel
theorem dX6_feed_58 : decode cX6_feed 58 = .ok (.invokevirtual 75, 3) := by decide +kernel
theorem dX6_feed_61 : decode cX6_feed 61 = .ok (.iinc 4 (-1), 3) := by decide +kernel
theorem dX6_feed_64 : decode cX6_feed 64 = .ok (.goto (-27), 3) := by decide +kernel
theorem dX6_feed_67 : decode cX6_feed 67 = .ok (.aload_n 0, 1) := by decide +kernel
theorem dX6_feed_68 : decode cX6_feed 68 = .ok (.getfield 10, 3) := by decide +kernel
theorem dX6_feed_71 : decode cX6_feed 71 = .ok (.getfield 71, 3) := by decide +kernel
theorem dX6_feed_74 : decode cX6_feed 74 = .ok (.ireturn, 1) := by decide +kernel
theorem dX6_library_0 : decode cX6_library 0 = .ok (.aload_n 0, 1) := by decide +kernel
theorem dX6_library_1 : decode cX6_library 1 = .ok (.getfield 10, 3) := by decide +kernel
theorem dX6_library_4 : decode cX6_library 4 = .ok (.aload_n 0, 1) := by decide +kernel
theorem dX6_library_5 : decode cX6_library 5 = .ok (.getfield 19, 3) := by decide +kernel
theorem dX6_library_8 : decode cX6_library 8 = .ok (.invokevirtual 79, 3) := by decide +kernel
theorem dX6_library_11 : decode cX6_library 11 = .ok (.aload_n 0, 1) := by decide +kernel
theorem dX6_library_12 : decode cX6_library 12 = .ok (.getfield 10, 3) := by decide +kernel
theorem dX6_library_15 : decode cX6_library 15 = .ok (.iconst 0, 1) := by decide +kernel
theorem dX6_library_16 : decode cX6_library 16 = .ok (.putfield 71, 3) := by decide +kernel
theorem dX6_library_19 : decode cX6_library 19 = .ok (.aload_n 0, 1) := by decide +kernel
theorem dX6_library_20 : decode cX6_library 20 = .ok (.getfield 10, 3) := by decide +kernel
theorem dX6_library_23 : decode cX6_library 23 = .ok (.getfield 82, 3) := by decide +kernel
theorem dX6_library_26 : decode cX6_library 26 = .ok (.ifCond .eq 14, 3) := by decide +kernel
theorem dX6_library_29 : decode cX6_library 29 = .ok (.bipush (-10), 2) := by decide +kernel
theorem dX6_library_31 : decode cX6_library 31 = .ok (.aload_n 0, 1) := by decide +kernel
theorem dX6_library_32 : decode cX6_library 32 = .ok (.getfield 10, 3) := by decide +kernel
theorem dX6_library_35 : decode cX6_library 35 = .ok (.getfield 82, 3) := by decide +kernel
theorem dX6_library_38 : decode cX6_library 38 = .ok (.isub, 1) := by decide +kernel
theorem dX6_library_39 : decode cX6_library 39 = .ok (.ireturn, 1) := by decide +kernel
theorem dX6_library_40 : decode cX6_library 40 = .ok (.aload_n 0, 1) := by decide +kernel
theorem dX6_library_41 : decode cX6_library 41 = .ok (.getfield 23, 3) := by decide +kernel
theorem dX6_library_44 : decode cX6_library 44 = .ok (.aload_n 0, 1) := by decide +kernel
theorem dX6_library_45 : decode cX6_library 45 = .ok (.getfield 19, 3) := by decide +kernel
theorem dX6_library_48 : decode cX6_library 48 = .ok (.invokevirtual 85, 3) := by decide +kernel
theorem dX6_library_51 : decode cX6_library 51 = .ok (.aload_n 0, 1) := by decide +kernel
theorem dX6_library_52 : decode cX6_library 52 = .ok (.getfield 31, 3) := by decide +kernel
theorem dX6_library_55 : decode cX6_library 55 = .ok (.invokevirtual 88, 3) := by decide +kernel
theorem dX6_library_58 : decode cX6_library 58 = .ok (.aload_n 0, 1) := by decide +kernel
theorem dX6_library_59 : decode cX6_library 59 = .ok (.getfield 49, 3) := by decide +kernel
theorem dX6_library_62 : decode cX6_library 62 = .ok (.iconst 0, 1) := by decide +kernel
theorem dX6_library_63 : decode cX6_library 63 = .ok (.putfield 91, 3) := by decide +kernel
theorem dX6_library_66 : decode cX6_library 66 = .ok (.aload_n 0, 1) := by decide +kernel
theorem dX6_library_67 : decode cX6_library 67 = .ok (.iconst 0, 1) := by decide +kernel
theorem dX6_library_68 : decode cX6_library 68 = .ok (.putfield 64, 3) := by decide +kernel
theorem dX6_library_71 : decode cX6_library 71 = .ok (.aload_n 0, 1) := by decide +kernel
theorem dX6_library_72 : decode cX6_library 72 = .ok (.iconst 0, 1) := by decide +kernel
theorem dX6_library_73 : decode cX6_library 73 = .ok (.putfield 42, 3) := by decide +kernel
theorem dX6_library_76 : decode cX6_library 76 = .ok (.aload_n 0, 1) := by decide +kernel
theorem dX6_library_77 : decode cX6_library 77 = .ok (.getfield 23, 3) := by decide +kernel
theorem dX6_library_80 : decode cX6_library 80 = .ok (.getfield 94, 3) := by decide +kernel
theorem dX6_library_83 : decode cX6_library 83 = .ok (.ireturn, 1) := by decide +kernel
theorem dX6_fault_0 : decode cX6_fault 0 = .ok (.aload_n 0, 1) := by decide +kernel
theorem dX6_fault_1 : decode cX6_fault 1 = .ok (.getfield 10, 3) := by decide +kernel
theorem dX6_fault_4 : decode cX6_fault 4 = .ok (.getfield 97, 3) := by decide +kernel
theorem dX6_fault_7 : decode cX6_fault 7 = .ok (.ireturn, 1) := by decide +kernel
theorem dX6_told_0 : decode cX6_told 0 = .ok (.iload_n 1, 1) := by decide +kernel
theorem dX6_told_1 : decode cX6_told 1 = .ok (.tableswitch 136 0 9 #[55, 63, 71, 79, 87, 98, 103, 111, 119, 127], 55) := by decide +kernel
theorem dX6_told_56 : decode cX6_told 56 = .ok (.aload_n 0, 1) := by decide +kernel
theorem dX6_told_57 : decode cX6_told 57 = .ok (.getfield 23, 3) := by decide +kernel
theorem dX6_told_60 : decode cX6_told 60 = .ok (.getfield 94, 3) := by decide +kernel
theorem dX6_told_63 : decode cX6_told 63 = .ok (.ireturn, 1) := by decide +kernel
theorem dX6_told_64 : decode cX6_told 64 = .ok (.aload_n 0, 1) := by decide +kernel
theorem dX6_told_65 : decode cX6_told 65 = .ok (.getfield 23, 3) := by decide +kernel
theorem dX6_told_68 : decode cX6_told 68 = .ok (.getfield 100, 3) := by decide +kernel
theorem dX6_told_71 : decode cX6_told 71 = .ok (.ireturn, 1) := by decide +kernel
theorem dX6_told_72 : decode cX6_told 72 = .ok (.aload_n 0, 1) := by decide +kernel
theorem dX6_told_73 : decode cX6_told 73 = .ok (.getfield 31, 3) := by decide +kernel
theorem dX6_told_76 : decode cX6_told 76 = .ok (.getfield 103, 3) := by decide +kernel
theorem dX6_told_79 : decode cX6_told 79 = .ok (.ireturn, 1) := by decide +kernel
theorem dX6_told_80 : decode cX6_told 80 = .ok (.aload_n 0, 1) := by decide +kernel
theorem dX6_told_81 : decode cX6_told 81 = .ok (.getfield 49, 3) := by decide +kernel
theorem dX6_told_84 : decode cX6_told 84 = .ok (.getfield 91, 3) := by decide +kernel
theorem dX6_told_87 : decode cX6_told 87 = .ok (.ireturn, 1) := by decide +kernel
theorem dX6_told_88 : decode cX6_told 88 = .ok (.aload_n 0, 1) := by decide +kernel
theorem dX6_told_89 : decode cX6_told 89 = .ok (.getfield 31, 3) := by decide +kernel
theorem dX6_told_92 : decode cX6_told 92 = .ok (.getfield 106, 3) := by decide +kernel
theorem dX6_told_95 : decode cX6_told 95 = .ok (.getfield 110, 3) := by decide +kernel
theorem dX6_told_98 : decode cX6_told 98 = .ok (.ireturn, 1) := by decide +kernel
theorem dX6_told_99 : decode cX6_told 99 = .ok (.aload_n 0, 1) := by decide +kernel
theorem dX6_told_100 : decode cX6_told 100 = .ok (.getfield 64, 3) := by decide +kernel
theorem dX6_told_103 : decode cX6_told 103 = .ok (.ireturn, 1) := by decide +kernel
theorem dX6_told_104 : decode cX6_told 104 = .ok (.aload_n 0, 1) := by decide +kernel
theorem dX6_told_105 : decode cX6_told 105 = .ok (.getfield 10, 3) := by decide +kernel
theorem dX6_told_108 : decode cX6_told 108 = .ok (.getfield 71, 3) := by decide +kernel
theorem dX6_told_111 : decode cX6_told 111 = .ok (.ireturn, 1) := by decide +kernel
theorem dX6_told_112 : decode cX6_told 112 = .ok (.aload_n 0, 1) := by decide +kernel
theorem dX6_told_113 : decode cX6_told 113 = .ok (.getfield 31, 3) := by decide +kernel
theorem dX6_told_116 : decode cX6_told 116 = .ok (.getfield 113, 3) := by decide +kernel
theorem dX6_told_119 : decode cX6_told 119 = .ok (.ireturn, 1) := by decide +kernel
theorem dX6_told_120 : decode cX6_told 120 = .ok (.aload_n 0, 1) := by decide +kernel
theorem dX6_told_121 : decode cX6_told 121 = .ok (.getfield 23, 3) := by decide +kernel
theorem dX6_told_124 : decode cX6_told 124 = .ok (.getfield 116, 3) := by decide +kernel
theorem dX6_told_127 : decode cX6_told 127 = .ok (.ireturn, 1) := by decide +kernel
theorem dX6_told_128 : decode cX6_told 128 = .ok (.aload_n 0, 1) := by decide +kernel
theorem dX6_told_129 : decode cX6_told 129 = .ok (.getfield 31, 3) := by decide +kernel
theorem dX6_told_132 : decode cX6_told 132 = .ok (.iconst 0, 1) := by decide +kernel
theorem dX6_told_133 : decode cX6_told 133 = .ok (.invokevirtual 119, 3) := by decide +kernel
theorem dX6_told_136 : decode cX6_told 136 = .ok (.ireturn, 1) := by decide +kernel
theorem dX6_told_137 : decode cX6_told 137 = .ok (.ldc 70, 2) := by decide +kernel
theorem dX6_told_139 : decode cX6_told 139 = .ok (.ireturn, 1) := by decide +kernel
theorem dX6_line_0 : decode cX6_line 0 = .ok (.aload_n 0, 1) := by decide +kernel
theorem dX6_line_1 : decode cX6_line 1 = .ok (.getfield 23, 3) := by decide +kernel
theorem dX6_line_4 : decode cX6_line 4 = .ok (.iload_n 1, 1) := by decide +kernel
theorem dX6_line_5 : decode cX6_line 5 = .ok (.invokevirtual 123, 3) := by decide +kernel
theorem dX6_line_8 : decode cX6_line 8 = .ok (.ifCond .ne 6, 3) := by decide +kernel
theorem dX6_line_11 : decode cX6_line 11 = .ok (.ldc 127, 2) := by decide +kernel
theorem dX6_line_13 : decode cX6_line 13 = .ok (.ireturn, 1) := by decide +kernel
theorem dX6_line_14 : decode cX6_line 14 = .ok (.iload_n 2, 1) := by decide +kernel
theorem dX6_line_15 : decode cX6_line 15 = .ok (.tableswitch 102 0 5 #[37, 47, 65, 74, 83, 92], 37) := by decide +kernel
theorem dX6_line_52 : decode cX6_line 52 = .ok (.aload_n 0, 1) := by decide +kernel
theorem dX6_line_53 : decode cX6_line 53 = .ok (.getfield 23, 3) := by decide +kernel
theorem dX6_line_56 : decode cX6_line 56 = .ok (.getfield 128, 3) := by decide +kernel
theorem dX6_line_59 : decode cX6_line 59 = .ok (.iload_n 1, 1) := by decide +kernel
theorem dX6_line_60 : decode cX6_line 60 = .ok (.iaload, 1) := by decide +kernel
theorem dX6_line_61 : decode cX6_line 61 = .ok (.ireturn, 1) := by decide +kernel
theorem dX6_line_62 : decode cX6_line 62 = .ok (.aload_n 0, 1) := by decide +kernel
theorem dX6_line_63 : decode cX6_line 63 = .ok (.getfield 31, 3) := by decide +kernel
theorem dX6_line_66 : decode cX6_line 66 = .ok (.iload_n 1, 1) := by decide +kernel
theorem dX6_line_67 : decode cX6_line 67 = .ok (.iconst 0, 1) := by decide +kernel
theorem dX6_line_68 : decode cX6_line 68 = .ok (.invokevirtual 131, 3) := by decide +kernel
theorem dX6_line_71 : decode cX6_line 71 = .ok (.ifCond .eq 7, 3) := by decide +kernel
theorem dX6_line_74 : decode cX6_line 74 = .ok (.iconst 1, 1) := by decide +kernel
theorem dX6_line_75 : decode cX6_line 75 = .ok (.goto 4, 3) := by decide +kernel
theorem dX6_line_78 : decode cX6_line 78 = .ok (.iconst 0, 1) := by decide +kernel
theorem dX6_line_79 : decode cX6_line 79 = .ok (.ireturn, 1) := by decide +kernel
theorem dX6_line_80 : decode cX6_line 80 = .ok (.aload_n 0, 1) := by decide +kernel
theorem dX6_line_81 : decode cX6_line 81 = .ok (.getfield 31, 3) := by decide +kernel
theorem dX6_line_84 : decode cX6_line 84 = .ok (.iload_n 1, 1) := by decide +kernel
theorem dX6_line_85 : decode cX6_line 85 = .ok (.invokevirtual 135, 3) := by decide +kernel
theorem dX6_line_88 : decode cX6_line 88 = .ok (.ireturn, 1) := by decide +kernel
theorem dX6_line_89 : decode cX6_line 89 = .ok (.aload_n 0, 1) := by decide +kernel
theorem dX6_line_90 : decode cX6_line 90 = .ok (.getfield 31, 3) := by decide +kernel
theorem dX6_line_93 : decode cX6_line 93 = .ok (.iload_n 1, 1) := by decide +kernel
theorem dX6_line_94 : decode cX6_line 94 = .ok (.invokevirtual 138, 3) := by decide +kernel
theorem dX6_line_97 : decode cX6_line 97 = .ok (.ireturn, 1) := by decide +kernel
theorem dX6_line_98 : decode cX6_line 98 = .ok (.aload_n 0, 1) := by decide +kernel
theorem dX6_line_99 : decode cX6_line 99 = .ok (.getfield 31, 3) := by decide +kernel
theorem dX6_line_102 : decode cX6_line 102 = .ok (.iload_n 1, 1) := by decide +kernel
theorem dX6_line_103 : decode cX6_line 103 = .ok (.invokevirtual 141, 3) := by decide +kernel
theorem dX6_line_106 : decode cX6_line 106 = .ok (.ireturn, 1) := by decide +kernel
theorem dX6_line_107 : decode cX6_line 107 = .ok (.aload_n 0, 1) := by decide +kernel
theorem dX6_line_108 : decode cX6_line 108 = .ok (.getfield 31, 3) := by decide +kernel
theorem dX6_line_111 : decode cX6_line 111 = .ok (.getfield 144, 3) := by decide +kernel
theorem dX6_line_114 : decode cX6_line 114 = .ok (.iload_n 1, 1) := by decide +kernel
theorem dX6_line_115 : decode cX6_line 115 = .ok (.iaload, 1) := by decide +kernel
theorem dX6_line_116 : decode cX6_line 116 = .ok (.ireturn, 1) := by decide +kernel
theorem dX6_line_117 : decode cX6_line 117 = .ok (.ldc 70, 2) := by decide +kernel
theorem dX6_line_119 : decode cX6_line 119 = .ok (.ireturn, 1) := by decide +kernel
theorem dX6_reader_0 : decode cX6_reader 0 = .ok (.aload_n 0, 1) := by decide +kernel
theorem dX6_reader_1 : decode cX6_reader 1 = .ok (.getfield 23, 3) := by decide +kernel
theorem dX6_reader_4 : decode cX6_reader 4 = .ok (.iload_n 1, 1) := by decide +kernel
theorem dX6_reader_5 : decode cX6_reader 5 = .ok (.invokevirtual 147, 3) := by decide +kernel
theorem dX6_reader_8 : decode cX6_reader 8 = .ok (.ifCond .ne 6, 3) := by decide +kernel
theorem dX6_reader_11 : decode cX6_reader 11 = .ok (.ldc 127, 2) := by decide +kernel
theorem dX6_reader_13 : decode cX6_reader 13 = .ok (.ireturn, 1) := by decide +kernel
theorem dX6_reader_14 : decode cX6_reader 14 = .ok (.iload_n 2, 1) := by decide +kernel
theorem dX6_reader_15 : decode cX6_reader 15 = .ok (.tableswitch 54 0 2 #[25, 35, 45], 25) := by decide +kernel
theorem dX6_reader_40 : decode cX6_reader 40 = .ok (.aload_n 0, 1) := by decide +kernel
theorem dX6_reader_41 : decode cX6_reader 41 = .ok (.getfield 23, 3) := by decide +kernel
theorem dX6_reader_44 : decode cX6_reader 44 = .ok (.getfield 150, 3) := by decide +kernel
theorem dX6_reader_47 : decode cX6_reader 47 = .ok (.iload_n 1, 1) := by decide +kernel
theorem dX6_reader_48 : decode cX6_reader 48 = .ok (.iaload, 1) := by decide +kernel
theorem dX6_reader_49 : decode cX6_reader 49 = .ok (.ireturn, 1) := by decide +kernel
theorem dX6_reader_50 : decode cX6_reader 50 = .ok (.aload_n 0, 1) := by decide +kernel
theorem dX6_reader_51 : decode cX6_reader 51 = .ok (.getfield 23, 3) := by decide +kernel
theorem dX6_reader_54 : decode cX6_reader 54 = .ok (.getfield 153, 3) := by decide +kernel
theorem dX6_reader_57 : decode cX6_reader 57 = .ok (.iload_n 1, 1) := by decide +kernel
theorem dX6_reader_58 : decode cX6_reader 58 = .ok (.iaload, 1) := by decide +kernel
theorem dX6_reader_59 : decode cX6_reader 59 = .ok (.ireturn, 1) := by decide +kernel
theorem dX6_reader_60 : decode cX6_reader 60 = .ok (.aload_n 0, 1) := by decide +kernel
theorem dX6_reader_61 : decode cX6_reader 61 = .ok (.getfield 31, 3) := by decide +kernel
theorem dX6_reader_64 : decode cX6_reader 64 = .ok (.iload_n 1, 1) := by decide +kernel
theorem dX6_reader_65 : decode cX6_reader 65 = .ok (.invokevirtual 156, 3) := by decide +kernel
theorem dX6_reader_68 : decode cX6_reader 68 = .ok (.ireturn, 1) := by decide +kernel
theorem dX6_reader_69 : decode cX6_reader 69 = .ok (.ldc 70, 2) := by decide +kernel
theorem dX6_reader_71 : decode cX6_reader 71 = .ok (.ireturn, 1) := by decide +kernel
theorem dX6_page_0 : decode cX6_page 0 = .ok (.aload_n 0, 1) := by decide +kernel
theorem dX6_page_1 : decode cX6_page 1 = .ok (.getfield 31, 3) := by decide +kernel
theorem dX6_page_4 : decode cX6_page 4 = .ok (.iload_n 1, 1) := by decide +kernel
theorem dX6_page_5 : decode cX6_page 5 = .ok (.invokevirtual 159, 3) := by decide +kernel
theorem dX6_page_8 : decode cX6_page 8 = .ok (.ifCond .ne 6, 3) := by decide +kernel
theorem dX6_page_11 : decode cX6_page 11 = .ok (.ldc 127, 2) := by decide +kernel
theorem dX6_page_13 : decode cX6_page 13 = .ok (.ireturn, 1) := by decide +kernel
theorem dX6_page_14 : decode cX6_page 14 = .ok (.iload_n 2, 1) := by decide +kernel
theorem dX6_page_15 : decode cX6_page 15 = .ok (.tableswitch 71 0 3 #[29, 39, 49, 59], 29) := by decide +kernel
theorem dX6_page_44 : decode cX6_page 44 = .ok (.aload_n 0, 1) := by decide +kernel
theorem dX6_page_45 : decode cX6_page 45 = .ok (.getfield 31, 3) := by decide +kernel
theorem dX6_page_48 : decode cX6_page 48 = .ok (.getfield 162, 3) := by decide +kernel
theorem dX6_page_51 : decode cX6_page 51 = .ok (.iload_n 1, 1) := by decide +kernel
theorem dX6_page_52 : decode cX6_page 52 = .ok (.iaload, 1) := by decide +kernel
theorem dX6_page_53 : decode cX6_page 53 = .ok (.ireturn, 1) := by decide +kernel
theorem dX6_page_54 : decode cX6_page 54 = .ok (.aload_n 0, 1) := by decide +kernel
theorem dX6_page_55 : decode cX6_page 55 = .ok (.getfield 31, 3) := by decide +kernel
theorem dX6_page_58 : decode cX6_page 58 = .ok (.getfield 165, 3) := by decide +kernel
theorem dX6_page_61 : decode cX6_page 61 = .ok (.iload_n 1, 1) := by decide +kernel
theorem dX6_page_62 : decode cX6_page 62 = .ok (.iaload, 1) := by decide +kernel
theorem dX6_page_63 : decode cX6_page 63 = .ok (.ireturn, 1) := by decide +kernel
theorem dX6_page_64 : decode cX6_page 64 = .ok (.aload_n 0, 1) := by decide +kernel
theorem dX6_page_65 : decode cX6_page 65 = .ok (.getfield 31, 3) := by decide +kernel
theorem dX6_page_68 : decode cX6_page 68 = .ok (.getfield 168, 3) := by decide +kernel
theorem dX6_page_71 : decode cX6_page 71 = .ok (.iload_n 1, 1) := by decide +kernel
theorem dX6_page_72 : decode cX6_page 72 = .ok (.iaload, 1) := by decide +kernel
theorem dX6_page_73 : decode cX6_page 73 = .ok (.ireturn, 1) := by decide +kernel
theorem dX6_page_74 : decode cX6_page 74 = .ok (.aload_n 0, 1) := by decide +kernel
theorem dX6_page_75 : decode cX6_page 75 = .ok (.getfield 31, 3) := by decide +kernel
theorem dX6_page_78 : decode cX6_page 78 = .ok (.getfield 106, 3) := by decide +kernel
theorem dX6_page_81 : decode cX6_page 81 = .ok (.iload_n 1, 1) := by decide +kernel
theorem dX6_page_82 : decode cX6_page 82 = .ok (.invokevirtual 171, 3) := by decide +kernel
theorem dX6_page_85 : decode cX6_page 85 = .ok (.ireturn, 1) := by decide +kernel
theorem dX6_page_86 : decode cX6_page 86 = .ok (.ldc 70, 2) := by decide +kernel
theorem dX6_page_88 : decode cX6_page 88 = .ok (.ireturn, 1) := by decide +kernel
theorem dX6_knows_0 : decode cX6_knows 0 = .ok (.aload_n 0, 1) := by decide +kernel
theorem dX6_knows_1 : decode cX6_knows 1 = .ok (.getfield 23, 3) := by decide +kernel
theorem dX6_knows_4 : decode cX6_knows 4 = .ok (.iload_n 1, 1) := by decide +kernel
theorem dX6_knows_5 : decode cX6_knows 5 = .ok (.invokevirtual 147, 3) := by decide +kernel
theorem dX6_knows_8 : decode cX6_knows 8 = .ok (.ifCond .eq 14, 3) := by decide +kernel
theorem dX6_knows_11 : decode cX6_knows 11 = .ok (.aload_n 0, 1) := by decide +kernel
theorem dX6_knows_12 : decode cX6_knows 12 = .ok (.getfield 23, 3) := by decide +kernel
theorem dX6_knows_15 : decode cX6_knows 15 = .ok (.iload_n 2, 1) := by decide +kernel
theorem dX6_knows_16 : decode cX6_knows 16 = .ok (.invokevirtual 123, 3) := by decide +kernel
theorem dX6_knows_19 : decode cX6_knows 19 = .ok (.ifCond .ne 6, 3) := by decide +kernel
theorem dX6_knows_22 : decode cX6_knows 22 = .ok (.ldc 127, 2) := by decide +kernel
theorem dX6_knows_24 : decode cX6_knows 24 = .ok (.ireturn, 1) := by decide +kernel
theorem dX6_knows_25 : decode cX6_knows 25 = .ok (.iload_n 3, 1) := by decide +kernel
theorem dX6_knows_26 : decode cX6_knows 26 = .ok (.ifCond .lt 8, 3) := by decide +kernel
theorem dX6_knows_29 : decode cX6_knows 29 = .ok (.iload_n 3, 1) := by decide +kernel
theorem dX6_knows_30 : decode cX6_knows 30 = .ok (.iconst 1, 1) := by decide +kernel
theorem dX6_knows_31 : decode cX6_knows 31 = .ok (.if_icmp .le 6, 3) := by decide +kernel
theorem dX6_knows_34 : decode cX6_knows 34 = .ok (.ldc 70, 2) := by decide +kernel
theorem dX6_knows_36 : decode cX6_knows 36 = .ok (.ireturn, 1) := by decide +kernel
theorem dX6_knows_37 : decode cX6_knows 37 = .ok (.aload_n 0, 1) := by decide +kernel
theorem dX6_knows_38 : decode cX6_knows 38 = .ok (.getfield 31, 3) := by decide +kernel
theorem dX6_knows_41 : decode cX6_knows 41 = .ok (.iload_n 1, 1) := by decide +kernel
theorem dX6_knows_42 : decode cX6_knows 42 = .ok (.iload_n 2, 1) := by decide +kernel
theorem dX6_knows_43 : decode cX6_knows 43 = .ok (.invokevirtual 174, 3) := by decide +kernel
theorem dX6_knows_46 : decode cX6_knows 46 = .ok (.ifCond .ne 5, 3) := by decide +kernel
theorem dX6_knows_49 : decode cX6_knows 49 = .ok (.iconst (-1), 1) := by decide +kernel
theorem dX6_knows_50 : decode cX6_knows 50 = .ok (.ireturn, 1) := by decide +kernel
theorem dX6_knows_51 : decode cX6_knows 51 = .ok (.iload_n 3, 1) := by decide +kernel
theorem dX6_knows_52 : decode cX6_knows 52 = .ok (.ifCond .ne 15, 3) := by decide +kernel
theorem dX6_knows_55 : decode cX6_knows 55 = .ok (.aload_n 0, 1) := by decide +kernel
theorem dX6_knows_56 : decode cX6_knows 56 = .ok (.getfield 31, 3) := by decide +kernel
theorem dX6_knows_59 : decode cX6_knows 59 = .ok (.iload_n 1, 1) := by decide +kernel
theorem dX6_knows_60 : decode cX6_knows 60 = .ok (.iload_n 2, 1) := by decide +kernel
theorem dX6_knows_61 : decode cX6_knows 61 = .ok (.invokevirtual 177, 3) := by decide +kernel
theorem dX6_knows_64 : decode cX6_knows 64 = .ok (.goto 12, 3) := by decide +kernel
theorem dX6_knows_67 : decode cX6_knows 67 = .ok (.aload_n 0, 1) := by decide +kernel
theorem dX6_knows_68 : decode cX6_knows 68 = .ok (.getfield 31, 3) := by decide +kernel
theorem dX6_knows_71 : decode cX6_knows 71 = .ok (.iload_n 1, 1) := by decide +kernel
theorem dX6_knows_72 : decode cX6_knows 72 = .ok (.iload_n 2, 1) := by decide +kernel
theorem dX6_knows_73 : decode cX6_knows 73 = .ok (.invokevirtual 181, 3) := by decide +kernel
theorem dX6_knows_76 : decode cX6_knows 76 = .ok (.ireturn, 1) := by decide +kernel
theorem dX6_reading_0 : decode cX6_reading 0 = .ok (.iload_n 2, 1) := by decide +kernel
theorem dX6_reading_1 : decode cX6_reading 1 = .ok (.ifCond .lt 8, 3) := by decide +kernel
theorem dX6_reading_4 : decode cX6_reading 4 = .ok (.iload_n 2, 1) := by decide +kernel
theorem dX6_reading_5 : decode cX6_reading 5 = .ok (.iconst 2, 1) := by decide +kernel
theorem dX6_reading_6 : decode cX6_reading 6 = .ok (.if_icmp .le 6, 3) := by decide +kernel
theorem dX6_reading_9 : decode cX6_reading 9 = .ok (.ldc 70, 2) := by decide +kernel
theorem dX6_reading_11 : decode cX6_reading 11 = .ok (.ireturn, 1) := by decide +kernel
theorem dX6_reading_12 : decode cX6_reading 12 = .ok (.iload_n 1, 1) := by decide +kernel
theorem dX6_reading_13 : decode cX6_reading 13 = .ok (.ifCond .lt 17, 3) := by decide +kernel
theorem dX6_reading_16 : decode cX6_reading 16 = .ok (.iload_n 1, 1) := by decide +kernel
theorem dX6_reading_17 : decode cX6_reading 17 = .ok (.aload_n 0, 1) := by decide +kernel
theorem dX6_reading_18 : decode cX6_reading 18 = .ok (.getfield 31, 3) := by decide +kernel
theorem dX6_reading_21 : decode cX6_reading 21 = .ok (.getfield 106, 3) := by decide +kernel
theorem dX6_reading_24 : decode cX6_reading 24 = .ok (.getfield 110, 3) := by decide +kernel
theorem dX6_reading_27 : decode cX6_reading 27 = .ok (.if_icmp .lt 5, 3) := by decide +kernel
theorem dX6_reading_30 : decode cX6_reading 30 = .ok (.iconst (-1), 1) := by decide +kernel
theorem dX6_reading_31 : decode cX6_reading 31 = .ok (.ireturn, 1) := by decide +kernel
theorem dX6_reading_32 : decode cX6_reading 32 = .ok (.iload_n 2, 1) := by decide +kernel
theorem dX6_reading_33 : decode cX6_reading 33 = .ok (.lookupswitch 53 #[(0, 27), (1, 40)], 27) := by decide +kernel
theorem dX6_reading_60 : decode cX6_reading 60 = .ok (.aload_n 0, 1) := by decide +kernel
theorem dX6_reading_61 : decode cX6_reading 61 = .ok (.getfield 31, 3) := by decide +kernel
theorem dX6_reading_64 : decode cX6_reading 64 = .ok (.getfield 106, 3) := by decide +kernel
theorem dX6_reading_67 : decode cX6_reading 67 = .ok (.getfield 184, 3) := by decide +kernel
theorem dX6_reading_70 : decode cX6_reading 70 = .ok (.iload_n 1, 1) := by decide +kernel
theorem dX6_reading_71 : decode cX6_reading 71 = .ok (.iaload, 1) := by decide +kernel
theorem dX6_reading_72 : decode cX6_reading 72 = .ok (.ireturn, 1) := by decide +kernel
theorem dX6_reading_73 : decode cX6_reading 73 = .ok (.aload_n 0, 1) := by decide +kernel
theorem dX6_reading_74 : decode cX6_reading 74 = .ok (.getfield 31, 3) := by decide +kernel
theorem dX6_reading_77 : decode cX6_reading 77 = .ok (.getfield 106, 3) := by decide +kernel
theorem dX6_reading_80 : decode cX6_reading 80 = .ok (.getfield 187, 3) := by decide +kernel
theorem dX6_reading_83 : decode cX6_reading 83 = .ok (.iload_n 1, 1) := by decide +kernel
theorem dX6_reading_84 : decode cX6_reading 84 = .ok (.iaload, 1) := by decide +kernel
theorem dX6_reading_85 : decode cX6_reading 85 = .ok (.ireturn, 1) := by decide +kernel
theorem dX6_reading_86 : decode cX6_reading 86 = .ok (.aload_n 0, 1) := by decide +kernel
theorem dX6_reading_87 : decode cX6_reading 87 = .ok (.getfield 31, 3) := by decide +kernel
theorem dX6_reading_90 : decode cX6_reading 90 = .ok (.getfield 106, 3) := by decide +kernel
theorem dX6_reading_93 : decode cX6_reading 93 = .ok (.getfield 189, 3) := by decide +kernel
theorem dX6_reading_96 : decode cX6_reading 96 = .ok (.iload_n 1, 1) := by decide +kernel
theorem dX6_reading_97 : decode cX6_reading 97 = .ok (.iaload, 1) := by decide +kernel
theorem dX6_reading_98 : decode cX6_reading 98 = .ok (.ireturn, 1) := by decide +kernel
theorem dX6_read_0 : decode cX6_read 0 = .ok (.aload_n 0, 1) := by decide +kernel
theorem dX6_read_1 : decode cX6_read 1 = .ok (.getfield 23, 3) := by decide +kernel
theorem dX6_read_4 : decode cX6_read 4 = .ok (.iload_n 1, 1) := by decide +kernel
theorem dX6_read_5 : decode cX6_read 5 = .ok (.invokevirtual 147, 3) := by decide +kernel
theorem dX6_read_8 : decode cX6_read 8 = .ok (.ifCond .eq 14, 3) := by decide +kernel
theorem dX6_read_11 : decode cX6_read 11 = .ok (.aload_n 0, 1) := by decide +kernel
theorem dX6_read_12 : decode cX6_read 12 = .ok (.getfield 31, 3) := by decide +kernel
theorem dX6_read_15 : decode cX6_read 15 = .ok (.iload_n 2, 1) := by decide +kernel
theorem dX6_read_16 : decode cX6_read 16 = .ok (.invokevirtual 159, 3) := by decide +kernel
theorem dX6_read_19 : decode cX6_read 19 = .ok (.ifCond .ne 6, 3) := by decide +kernel
theorem dX6_read_22 : decode cX6_read 22 = .ok (.ldc 127, 2) := by decide +kernel
theorem dX6_read_24 : decode cX6_read 24 = .ok (.ireturn, 1) := by decide +kernel
theorem dX6_read_25 : decode cX6_read 25 = .ok (.aload_n 0, 1) := by decide +kernel
theorem dX6_read_26 : decode cX6_read 26 = .ok (.getfield 31, 3) := by decide +kernel
theorem dX6_read_29 : decode cX6_read 29 = .ok (.iload_n 2, 1) := by decide +kernel
theorem dX6_read_30 : decode cX6_read 30 = .ok (.invokevirtual 191, 3) := by decide +kernel
theorem dX6_read_33 : decode cX6_read 33 = .ok (.ifCond .eq 6, 3) := by decide +kernel
theorem dX6_read_36 : decode cX6_read 36 = .ok (.ldc 194, 2) := by decide +kernel
theorem dX6_read_38 : decode cX6_read 38 = .ok (.ireturn, 1) := by decide +kernel
theorem dX6_read_39 : decode cX6_read 39 = .ok (.aload_n 0, 1) := by decide +kernel
theorem dX6_read_40 : decode cX6_read 40 = .ok (.getfield 31, 3) := by decide +kernel
theorem dX6_read_43 : decode cX6_read 43 = .ok (.iload_n 1, 1) := by decide +kernel
theorem dX6_read_44 : decode cX6_read 44 = .ok (.iload_n 2, 1) := by decide +kernel
theorem dX6_read_45 : decode cX6_read 45 = .ok (.invokevirtual 195, 3) := by decide +kernel
theorem dX6_read_48 : decode cX6_read 48 = .ok (.aload_n 0, 1) := by decide +kernel
theorem dX6_read_49 : decode cX6_read 49 = .ok (.getfield 31, 3) := by decide +kernel
theorem dX6_read_52 : decode cX6_read 52 = .ok (.getfield 168, 3) := by decide +kernel
theorem dX6_read_55 : decode cX6_read 55 = .ok (.iload_n 2, 1) := by decide +kernel
theorem dX6_read_56 : decode cX6_read 56 = .ok (.iaload, 1) := by decide +kernel
theorem dX6_read_57 : decode cX6_read 57 = .ok (.ireturn, 1) := by decide +kernel
theorem dX6_copy_0 : decode cX6_copy 0 = .ok (.aload_n 0, 1) := by decide +kernel
theorem dX6_copy_1 : decode cX6_copy 1 = .ok (.getfield 23, 3) := by decide +kernel
theorem dX6_copy_4 : decode cX6_copy 4 = .ok (.iload_n 1, 1) := by decide +kernel
theorem dX6_copy_5 : decode cX6_copy 5 = .ok (.invokevirtual 147, 3) := by decide +kernel
theorem dX6_copy_8 : decode cX6_copy 8 = .ok (.ifCond .eq 14, 3) := by decide +kernel
theorem dX6_copy_11 : decode cX6_copy 11 = .ok (.aload_n 0, 1) := by decide +kernel
theorem dX6_copy_12 : decode cX6_copy 12 = .ok (.getfield 31, 3) := by decide +kernel
theorem dX6_copy_15 : decode cX6_copy 15 = .ok (.iload_n 2, 1) := by decide +kernel
theorem dX6_copy_16 : decode cX6_copy 16 = .ok (.invokevirtual 159, 3) := by decide +kernel
theorem dX6_copy_19 : decode cX6_copy 19 = .ok (.ifCond .ne 6, 3) := by decide +kernel
theorem dX6_copy_22 : decode cX6_copy 22 = .ok (.ldc 127, 2) := by decide +kernel
theorem dX6_copy_24 : decode cX6_copy 24 = .ok (.ireturn, 1) := by decide +kernel
theorem dX6_copy_25 : decode cX6_copy 25 = .ok (.aload_n 0, 1) := by decide +kernel
theorem dX6_copy_26 : decode cX6_copy 26 = .ok (.getfield 23, 3) := by decide +kernel
theorem dX6_copy_29 : decode cX6_copy 29 = .ok (.getfield 150, 3) := by decide +kernel
theorem dX6_copy_32 : decode cX6_copy 32 = .ok (.iload_n 1, 1) := by decide +kernel
theorem dX6_copy_33 : decode cX6_copy 33 = .ok (.iaload, 1) := by decide +kernel
theorem dX6_copy_34 : decode cX6_copy 34 = .ok (.iconst 2, 1) := by decide +kernel
theorem dX6_copy_35 : decode cX6_copy 35 = .ok (.if_icmp .ne 14, 3) := by decide +kernel
theorem dX6_copy_38 : decode cX6_copy 38 = .ok (.aload_n 0, 1) := by decide +kernel
theorem dX6_copy_39 : decode cX6_copy 39 = .ok (.getfield 31, 3) := by decide +kernel
theorem dX6_copy_42 : decode cX6_copy 42 = .ok (.iload_n 2, 1) := by decide +kernel
theorem dX6_copy_43 : decode cX6_copy 43 = .ok (.invokevirtual 191, 3) := by decide +kernel
theorem dX6_copy_46 : decode cX6_copy 46 = .ok (.ifCond .eq 6, 3) := by decide +kernel
theorem dX6_copy_49 : decode cX6_copy 49 = .ok (.ldc 194, 2) := by decide +kernel
theorem dX6_copy_51 : decode cX6_copy 51 = .ok (.ireturn, 1) := by decide +kernel
theorem dX6_copy_52 : decode cX6_copy 52 = .ok (.aload_n 0, 1) := by decide +kernel
theorem dX6_copy_53 : decode cX6_copy 53 = .ok (.getfield 31, 3) := by decide +kernel
theorem dX6_copy_56 : decode cX6_copy 56 = .ok (.invokevirtual 199, 3) := by decide +kernel
theorem dX6_copy_59 : decode cX6_copy 59 = .ok (.ifCond .eq 6, 3) := by decide +kernel
theorem dX6_copy_62 : decode cX6_copy 62 = .ok (.ldc 74, 2) := by decide +kernel
theorem dX6_copy_64 : decode cX6_copy 64 = .ok (.ireturn, 1) := by decide +kernel
theorem dX6_copy_65 : decode cX6_copy 65 = .ok (.aload_n 0, 1) := by decide +kernel
theorem dX6_copy_66 : decode cX6_copy 66 = .ok (.getfield 31, 3) := by decide +kernel
theorem dX6_copy_69 : decode cX6_copy 69 = .ok (.iload_n 1, 1) := by decide +kernel
theorem dX6_copy_70 : decode cX6_copy 70 = .ok (.iload_n 2, 1) := by decide +kernel
theorem dX6_copy_71 : decode cX6_copy 71 = .ok (.invokevirtual 195, 3) := by decide +kernel
theorem dX6_copy_74 : decode cX6_copy 74 = .ok (.aload_n 0, 1) := by decide +kernel
theorem dX6_copy_75 : decode cX6_copy 75 = .ok (.getfield 31, 3) := by decide +kernel
theorem dX6_copy_78 : decode cX6_copy 78 = .ok (.aload_n 0, 1) := by decide +kernel
theorem dX6_copy_79 : decode cX6_copy 79 = .ok (.getfield 31, 3) := by decide +kernel
theorem dX6_copy_82 : decode cX6_copy 82 = .ok (.getfield 162, 3) := by decide +kernel
theorem dX6_copy_85 : decode cX6_copy 85 = .ok (.iload_n 2, 1) := by decide +kernel
theorem dX6_copy_86 : decode cX6_copy 86 = .ok (.iaload, 1) := by decide +kernel
theorem dX6_copy_87 : decode cX6_copy 87 = .ok (.aload_n 0, 1) := by decide +kernel
theorem dX6_copy_88 : decode cX6_copy 88 = .ok (.getfield 31, 3) := by decide +kernel
theorem dX6_copy_91 : decode cX6_copy 91 = .ok (.getfield 165, 3) := by decide +kernel
theorem dX6_copy_94 : decode cX6_copy 94 = .ok (.iload_n 2, 1) := by decide +kernel
theorem dX6_copy_95 : decode cX6_copy 95 = .ok (.iaload, 1) := by decide +kernel
theorem dX6_copy_96 : decode cX6_copy 96 = .ok (.iload_n 1, 1) := by decide +kernel
theorem dX6_copy_97 : decode cX6_copy 97 = .ok (.invokevirtual 203, 3) := by decide +kernel
theorem dX6_copy_100 : decode cX6_copy 100 = .ok (.ireturn, 1) := by decide +kernel
theorem dX6_write_0 : decode cX6_write 0 = .ok (.aload_n 0, 1) := by decide +kernel
theorem dX6_write_1 : decode cX6_write 1 = .ok (.getfield 23, 3) := by decide +kernel
theorem dX6_write_4 : decode cX6_write 4 = .ok (.iload_n 1, 1) := by decide +kernel
theorem dX6_write_5 : decode cX6_write 5 = .ok (.invokevirtual 147, 3) := by decide +kernel
theorem dX6_write_8 : decode cX6_write 8 = .ok (.ifCond .eq 14, 3) := by decide +kernel
theorem dX6_write_11 : decode cX6_write 11 = .ok (.aload_n 0, 1) := by decide +kernel
theorem dX6_write_12 : decode cX6_write 12 = .ok (.getfield 23, 3) := by decide +kernel
theorem dX6_write_15 : decode cX6_write 15 = .ok (.iload_n 2, 1) := by decide +kernel
theorem dX6_write_16 : decode cX6_write 16 = .ok (.invokevirtual 123, 3) := by decide +kernel
theorem dX6_write_19 : decode cX6_write 19 = .ok (.ifCond .ne 6, 3) := by decide +kernel
theorem dX6_write_22 : decode cX6_write 22 = .ok (.ldc 127, 2) := by decide +kernel
theorem dX6_write_24 : decode cX6_write 24 = .ok (.ireturn, 1) := by decide +kernel
theorem dX6_write_25 : decode cX6_write 25 = .ok (.aload_n 0, 1) := by decide +kernel
theorem dX6_write_26 : decode cX6_write 26 = .ok (.getfield 23, 3) := by decide +kernel
theorem dX6_write_29 : decode cX6_write 29 = .ok (.getfield 150, 3) := by decide +kernel
theorem dX6_write_32 : decode cX6_write 32 = .ok (.iload_n 1, 1) := by decide +kernel
theorem dX6_write_33 : decode cX6_write 33 = .ok (.iaload, 1) := by decide +kernel
theorem dX6_write_34 : decode cX6_write 34 = .ok (.iconst 2, 1) := by decide +kernel
theorem dX6_write_35 : decode cX6_write 35 = .ok (.if_icmp .ne 15, 3) := by decide +kernel
theorem dX6_write_38 : decode cX6_write 38 = .ok (.aload_n 0, 1) := by decide +kernel
theorem dX6_write_39 : decode cX6_write 39 = .ok (.getfield 31, 3) := by decide +kernel
theorem dX6_write_42 : decode cX6_write 42 = .ok (.iload_n 1, 1) := by decide +kernel
theorem dX6_write_43 : decode cX6_write 43 = .ok (.iload_n 2, 1) := by decide +kernel
theorem dX6_write_44 : decode cX6_write 44 = .ok (.invokevirtual 174, 3) := by decide +kernel
theorem dX6_write_47 : decode cX6_write 47 = .ok (.ifCond .ne 6, 3) := by decide +kernel
theorem dX6_write_50 : decode cX6_write 50 = .ok (.ldc 194, 2) := by decide +kernel
theorem dX6_write_52 : decode cX6_write 52 = .ok (.ireturn, 1) := by decide +kernel
theorem dX6_write_53 : decode cX6_write 53 = .ok (.aload_n 0, 1) := by decide +kernel
theorem dX6_write_54 : decode cX6_write 54 = .ok (.getfield 31, 3) := by decide +kernel
theorem dX6_write_57 : decode cX6_write 57 = .ok (.iload_n 2, 1) := by decide +kernel
theorem dX6_write_58 : decode cX6_write 58 = .ok (.aload_n 0, 1) := by decide +kernel
theorem dX6_write_59 : decode cX6_write 59 = .ok (.getfield 31, 3) := by decide +kernel
theorem dX6_write_62 : decode cX6_write 62 = .ok (.iload_n 1, 1) := by decide +kernel
theorem dX6_write_63 : decode cX6_write 63 = .ok (.iload_n 2, 1) := by decide +kernel
theorem dX6_write_64 : decode cX6_write 64 = .ok (.invokevirtual 177, 3) := by decide +kernel
theorem dX6_write_67 : decode cX6_write 67 = .ok (.iload_n 1, 1) := by decide +kernel
theorem dX6_write_68 : decode cX6_write 68 = .ok (.invokevirtual 203, 3) := by decide +kernel
theorem dX6_write_71 : decode cX6_write 71 = .ok (.ireturn, 1) := by decide +kernel
theorem dX6_teach_0 : decode cX6_teach 0 = .ok (.aload_n 0, 1) := by decide +kernel
theorem dX6_teach_1 : decode cX6_teach 1 = .ok (.getfield 23, 3) := by decide +kernel
theorem dX6_teach_4 : decode cX6_teach 4 = .ok (.iload_n 1, 1) := by decide +kernel
theorem dX6_teach_5 : decode cX6_teach 5 = .ok (.invokevirtual 147, 3) := by decide +kernel
theorem dX6_teach_8 : decode cX6_teach 8 = .ok (.ifCond .eq 30, 3) := by decide +kernel
theorem dX6_teach_11 : decode cX6_teach 11 = .ok (.aload_n 0, 1) := by decide +kernel
theorem dX6_teach_12 : decode cX6_teach 12 = .ok (.getfield 23, 3) := by decide +kernel
theorem dX6_teach_15 : decode cX6_teach 15 = .ok (.iload_n 2, 1) := by decide +kernel
theorem dX6_teach_16 : decode cX6_teach 16 = .ok (.invokevirtual 147, 3) := by decide +kernel
theorem dX6_teach_19 : decode cX6_teach 19 = .ok (.ifCond .eq 19, 3) := by decide +kernel
theorem dX6_teach_22 : decode cX6_teach 22 = .ok (.iload_n 1, 1) := by decide +kernel
theorem dX6_teach_23 : decode cX6_teach 23 = .ok (.iload_n 2, 1) := by decide +kernel
theorem dX6_teach_24 : decode cX6_teach 24 = .ok (.if_icmp .eq 14, 3) := by decide +kernel
theorem dX6_teach_27 : decode cX6_teach 27 = .ok (.aload_n 0, 1) := by decide +kernel
theorem dX6_teach_28 : decode cX6_teach 28 = .ok (.getfield 23, 3) := by decide +kernel
theorem dX6_teach_31 : decode cX6_teach 31 = .ok (.iload_n 3, 1) := by decide +kernel
theorem dX6_teach_32 : decode cX6_teach 32 = .ok (.invokevirtual 123, 3) := by decide +kernel
theorem dX6_teach_35 : decode cX6_teach 35 = .ok (.ifCond .ne 6, 3) := by decide +kernel
theorem dX6_teach_38 : decode cX6_teach 38 = .ok (.ldc 127, 2) := by decide +kernel
theorem dX6_teach_40 : decode cX6_teach 40 = .ok (.ireturn, 1) := by decide +kernel
theorem dX6_teach_41 : decode cX6_teach 41 = .ok (.aload_n 0, 1) := by decide +kernel
theorem dX6_teach_42 : decode cX6_teach 42 = .ok (.getfield 23, 3) := by decide +kernel
theorem dX6_teach_45 : decode cX6_teach 45 = .ok (.getfield 150, 3) := by decide +kernel
theorem dX6_teach_48 : decode cX6_teach 48 = .ok (.iload_n 1, 1) := by decide +kernel
theorem dX6_teach_49 : decode cX6_teach 49 = .ok (.iaload, 1) := by decide +kernel
theorem dX6_teach_50 : decode cX6_teach 50 = .ok (.iconst 4, 1) := by decide +kernel
theorem dX6_teach_51 : decode cX6_teach 51 = .ok (.if_icmp .ne 15, 3) := by decide +kernel
theorem dX6_teach_54 : decode cX6_teach 54 = .ok (.aload_n 0, 1) := by decide +kernel
theorem dX6_teach_55 : decode cX6_teach 55 = .ok (.getfield 31, 3) := by decide +kernel
theorem dX6_teach_58 : decode cX6_teach 58 = .ok (.iload_n 1, 1) := by decide +kernel
theorem dX6_teach_59 : decode cX6_teach 59 = .ok (.iload_n 3, 1) := by decide +kernel
theorem dX6_teach_60 : decode cX6_teach 60 = .ok (.invokevirtual 174, 3) := by decide +kernel
theorem dX6_teach_63 : decode cX6_teach 63 = .ok (.ifCond .ne 6, 3) := by decide +kernel
theorem dX6_teach_66 : decode cX6_teach 66 = .ok (.ldc 194, 2) := by decide +kernel
theorem dX6_teach_68 : decode cX6_teach 68 = .ok (.ireturn, 1) := by decide +kernel
theorem dX6_teach_69 : decode cX6_teach 69 = .ok (.aload_n 0, 1) := by decide +kernel
theorem dX6_teach_70 : decode cX6_teach 70 = .ok (.getfield 31, 3) := by decide +kernel
theorem dX6_teach_73 : decode cX6_teach 73 = .ok (.iload_n 1, 1) := by decide +kernel
theorem dX6_teach_74 : decode cX6_teach 74 = .ok (.iload_n 3, 1) := by decide +kernel
theorem dX6_teach_75 : decode cX6_teach 75 = .ok (.invokevirtual 177, 3) := by decide +kernel
theorem dX6_teach_78 : decode cX6_teach 78 = .ok (.istore 4, 2) := by decide +kernel
theorem dX6_teach_80 : decode cX6_teach 80 = .ok (.aload_n 0, 1) := by decide +kernel
theorem dX6_teach_81 : decode cX6_teach 81 = .ok (.getfield 31, 3) := by decide +kernel
theorem dX6_teach_84 : decode cX6_teach 84 = .ok (.iload_n 2, 1) := by decide +kernel
theorem dX6_teach_85 : decode cX6_teach 85 = .ok (.iload_n 3, 1) := by decide +kernel
theorem dX6_teach_86 : decode cX6_teach 86 = .ok (.iload 4, 2) := by decide +kernel
theorem dX6_teach_88 : decode cX6_teach 88 = .ok (.invokevirtual 207, 3) := by decide +kernel
theorem dX6_teach_91 : decode cX6_teach 91 = .ok (.aload_n 0, 1) := by decide +kernel
theorem dX6_teach_92 : decode cX6_teach 92 = .ok (.getfield 31, 3) := by decide +kernel
theorem dX6_teach_95 : decode cX6_teach 95 = .ok (.iload_n 1, 1) := by decide +kernel
theorem dX6_teach_96 : decode cX6_teach 96 = .ok (.iload_n 3, 1) := by decide +kernel
theorem dX6_teach_97 : decode cX6_teach 97 = .ok (.iload 4, 2) := by decide +kernel
theorem dX6_teach_99 : decode cX6_teach 99 = .ok (.invokevirtual 207, 3) := by decide +kernel
theorem dX6_teach_102 : decode cX6_teach 102 = .ok (.iload 4, 2) := by decide +kernel
theorem dX6_teach_104 : decode cX6_teach 104 = .ok (.ireturn, 1) := by decide +kernel
theorem dX6_dusk_0 : decode cX6_dusk 0 = .ok (.iload_n 1, 1) := by decide +kernel
theorem dX6_dusk_1 : decode cX6_dusk 1 = .ok (.iconst 1, 1) := by decide +kernel
theorem dX6_dusk_2 : decode cX6_dusk 2 = .ok (.if_icmp .lt 10, 3) := by decide +kernel
theorem dX6_dusk_5 : decode cX6_dusk 5 = .ok (.iload_n 1, 1) := by decide +kernel
theorem dX6_dusk_6 : decode cX6_dusk 6 = .ok (.sipush 200, 3) := by decide +kernel
theorem dX6_dusk_9 : decode cX6_dusk 9 = .ok (.if_icmp .le 6, 3) := by decide +kernel
theorem dX6_dusk_12 : decode cX6_dusk 12 = .ok (.ldc 70, 2) := by decide +kernel
theorem dX6_dusk_14 : decode cX6_dusk 14 = .ok (.ireturn, 1) := by decide +kernel
theorem dX6_dusk_15 : decode cX6_dusk 15 = .ok (.aload_n 0, 1) := by decide +kernel
theorem dX6_dusk_16 : decode cX6_dusk 16 = .ok (.getfield 31, 3) := by decide +kernel
theorem dX6_dusk_19 : decode cX6_dusk 19 = .ok (.iload_n 1, 1) := by decide +kernel
theorem dX6_dusk_20 : decode cX6_dusk 20 = .ok (.invokevirtual 211, 3) := by decide +kernel
theorem dX6_dusk_23 : decode cX6_dusk 23 = .ok (.aload_n 0, 1) := by decide +kernel
theorem dX6_dusk_24 : decode cX6_dusk 24 = .ok (.getfield 31, 3) := by decide +kernel
theorem dX6_dusk_27 : decode cX6_dusk 27 = .ok (.getfield 113, 3) := by decide +kernel
theorem dX6_dusk_30 : decode cX6_dusk 30 = .ok (.ireturn, 1) := by decide +kernel
theorem dX6_run_0 : decode cX6_run 0 = .ok (.iload_n 1, 1) := by decide +kernel
theorem dX6_run_1 : decode cX6_run 1 = .ok (.iconst 1, 1) := by decide +kernel
theorem dX6_run_2 : decode cX6_run 2 = .ok (.if_icmp .lt 9, 3) := by decide +kernel
theorem dX6_run_5 : decode cX6_run 5 = .ok (.iload_n 1, 1) := by decide +kernel
theorem dX6_run_6 : decode cX6_run 6 = .ok (.bipush 100, 2) := by decide +kernel
theorem dX6_run_8 : decode cX6_run 8 = .ok (.if_icmp .le 6, 3) := by decide +kernel
theorem dX6_run_11 : decode cX6_run 11 = .ok (.ldc 70, 2) := by decide +kernel
theorem dX6_run_13 : decode cX6_run 13 = .ok (.ireturn, 1) := by decide +kernel
theorem dX6_run_14 : decode cX6_run 14 = .ok (.aload_n 0, 1) := by decide +kernel
theorem dX6_run_15 : decode cX6_run 15 = .ok (.getfield 31, 3) := by decide +kernel
theorem dX6_run_18 : decode cX6_run 18 = .ok (.getfield 103, 3) := by decide +kernel
theorem dX6_run_21 : decode cX6_run 21 = .ok (.ifCond .ne 6, 3) := by decide +kernel
theorem dX6_run_24 : decode cX6_run 24 = .ok (.ldc 194, 2) := by decide +kernel
theorem dX6_run_26 : decode cX6_run 26 = .ok (.ireturn, 1) := by decide +kernel
theorem dX6_run_27 : decode cX6_run 27 = .ok (.aload_n 0, 1) := by decide +kernel
theorem dX6_run_28 : decode cX6_run 28 = .ok (.getfield 31, 3) := by decide +kernel
theorem dX6_run_31 : decode cX6_run 31 = .ok (.iload_n 1, 1) := by decide +kernel
theorem dX6_run_32 : decode cX6_run 32 = .ok (.invokevirtual 214, 3) := by decide +kernel
theorem dX6_run_35 : decode cX6_run 35 = .ok (.aload_n 0, 1) := by decide +kernel
theorem dX6_run_36 : decode cX6_run 36 = .ok (.getfield 31, 3) := by decide +kernel
theorem dX6_run_39 : decode cX6_run 39 = .ok (.invokevirtual 217, 3) := by decide +kernel
theorem dX6_run_42 : decode cX6_run 42 = .ok (.ireturn, 1) := by decide +kernel
theorem dX6_where_0 : decode cX6_where 0 = .ok (.aload_n 0, 1) := by decide +kernel
theorem dX6_where_1 : decode cX6_where 1 = .ok (.getfield 23, 3) := by decide +kernel
theorem dX6_where_4 : decode cX6_where 4 = .ok (.iload_n 1, 1) := by decide +kernel
theorem dX6_where_5 : decode cX6_where 5 = .ok (.invokevirtual 123, 3) := by decide +kernel
theorem dX6_where_8 : decode cX6_where 8 = .ok (.ifCond .ne 6, 3) := by decide +kernel
theorem dX6_where_11 : decode cX6_where 11 = .ok (.ldc 127, 2) := by decide +kernel
theorem dX6_where_13 : decode cX6_where 13 = .ok (.ireturn, 1) := by decide +kernel
theorem dX6_where_14 : decode cX6_where 14 = .ok (.aload_n 0, 1) := by decide +kernel
theorem dX6_where_15 : decode cX6_where 15 = .ok (.getfield 31, 3) := by decide +kernel
theorem dX6_where_18 : decode cX6_where 18 = .ok (.getfield 144, 3) := by decide +kernel
theorem dX6_where_21 : decode cX6_where 21 = .ok (.iload_n 1, 1) := by decide +kernel
theorem dX6_where_22 : decode cX6_where 22 = .ok (.iaload, 1) := by decide +kernel
theorem dX6_where_23 : decode cX6_where 23 = .ok (.bipush 9, 2) := by decide +kernel
theorem dX6_where_25 : decode cX6_where 25 = .ok (.if_icmp .lt 6, 3) := by decide +kernel
theorem dX6_where_28 : decode cX6_where 28 = .ok (.ldc 194, 2) := by decide +kernel
theorem dX6_where_30 : decode cX6_where 30 = .ok (.ireturn, 1) := by decide +kernel
theorem dX6_where_31 : decode cX6_where 31 = .ok (.aload_n 0, 1) := by decide +kernel
theorem dX6_where_32 : decode cX6_where 32 = .ok (.getfield 31, 3) := by decide +kernel
theorem dX6_where_35 : decode cX6_where 35 = .ok (.getfield 144, 3) := by decide +kernel
theorem dX6_where_38 : decode cX6_where 38 = .ok (.iload_n 1, 1) := by decide +kernel
theorem dX6_where_39 : decode cX6_where 39 = .ok (.dup2, 1) := by decide +kernel
theorem dX6_where_40 : decode cX6_where 40 = .ok (.iaload, 1) := by decide +kernel
theorem dX6_where_41 : decode cX6_where 41 = .ok (.iconst 1, 1) := by decide +kernel
theorem dX6_where_42 : decode cX6_where 42 = .ok (.iadd, 1) := by decide +kernel
theorem dX6_where_43 : decode cX6_where 43 = .ok (.iastore, 1) := by decide +kernel
theorem dX6_where_44 : decode cX6_where 44 = .ok (.aload_n 0, 1) := by decide +kernel
theorem dX6_where_45 : decode cX6_where 45 = .ok (.getfield 31, 3) := by decide +kernel
theorem dX6_where_48 : decode cX6_where 48 = .ok (.iload_n 1, 1) := by decide +kernel
theorem dX6_where_49 : decode cX6_where 49 = .ok (.invokevirtual 221, 3) := by decide +kernel
theorem dX6_where_52 : decode cX6_where 52 = .ok (.ireturn, 1) := by decide +kernel
theorem dX6_request_0 : decode cX6_request 0 = .ok (.aload_n 0, 1) := by decide +kernel
theorem dX6_request_1 : decode cX6_request 1 = .ok (.getfield 23, 3) := by decide +kernel
theorem dX6_request_4 : decode cX6_request 4 = .ok (.iload_n 1, 1) := by decide +kernel
theorem dX6_request_5 : decode cX6_request 5 = .ok (.invokevirtual 147, 3) := by decide +kernel
theorem dX6_request_8 : decode cX6_request 8 = .ok (.ifCond .eq 14, 3) := by decide +kernel
theorem dX6_request_11 : decode cX6_request 11 = .ok (.aload_n 0, 1) := by decide +kernel
theorem dX6_request_12 : decode cX6_request 12 = .ok (.getfield 23, 3) := by decide +kernel
theorem dX6_request_15 : decode cX6_request 15 = .ok (.iload_n 2, 1) := by decide +kernel
theorem dX6_request_16 : decode cX6_request 16 = .ok (.invokevirtual 123, 3) := by decide +kernel
theorem dX6_request_19 : decode cX6_request 19 = .ok (.ifCond .ne 6, 3) := by decide +kernel
theorem dX6_request_22 : decode cX6_request 22 = .ok (.ldc 127, 2) := by decide +kernel
theorem dX6_request_24 : decode cX6_request 24 = .ok (.ireturn, 1) := by decide +kernel
theorem dX6_request_25 : decode cX6_request 25 = .ok (.iload_n 3, 1) := by decide +kernel
theorem dX6_request_26 : decode cX6_request 26 = .ok (.ifCond .lt 9, 3) := by decide +kernel
theorem dX6_request_29 : decode cX6_request 29 = .ok (.iload_n 3, 1) := by decide +kernel
theorem dX6_request_30 : decode cX6_request 30 = .ok (.bipush 99, 2) := by decide +kernel
theorem dX6_request_32 : decode cX6_request 32 = .ok (.if_icmp .le 6, 3) := by decide +kernel
theorem dX6_request_35 : decode cX6_request 35 = .ok (.ldc 70, 2) := by decide +kernel
theorem dX6_request_37 : decode cX6_request 37 = .ok (.ireturn, 1) := by decide +kernel
theorem dX6_request_38 : decode cX6_request 38 = .ok (.aload_n 0, 1) := by decide +kernel
theorem dX6_request_39 : decode cX6_request 39 = .ok (.getfield 49, 3) := by decide +kernel
theorem dX6_request_42 : decode cX6_request 42 = .ok (.iload_n 1, 1) := by decide +kernel
theorem dX6_request_43 : decode cX6_request 43 = .ok (.iload_n 2, 1) := by decide +kernel
theorem dX6_request_44 : decode cX6_request 44 = .ok (.iload_n 3, 1) := by decide +kernel
theorem dX6_request_45 : decode cX6_request 45 = .ok (.invokevirtual 224, 3) := by decide +kernel
theorem dX6_request_48 : decode cX6_request 48 = .ok (.ireturn, 1) := by decide +kernel
theorem dX6_forget_0 : decode cX6_forget 0 = .ok (.aload_n 0, 1) := by decide +kernel
theorem dX6_forget_1 : decode cX6_forget 1 = .ok (.getfield 49, 3) := by decide +kernel
theorem dX6_forget_4 : decode cX6_forget 4 = .ok (.getfield 91, 3) := by decide +kernel
theorem dX6_forget_7 : decode cX6_forget 7 = .ok (.istore_n 1, 1) := by decide +kernel
theorem dX6_forget_8 : decode cX6_forget 8 = .ok (.aload_n 0, 1) := by decide +kernel
theorem dX6_forget_9 : decode cX6_forget 9 = .ok (.getfield 49, 3) := by decide +kernel
theorem dX6_forget_12 : decode cX6_forget 12 = .ok (.iconst 0, 1) := by decide +kernel
theorem dX6_forget_13 : decode cX6_forget 13 = .ok (.putfield 91, 3) := by decide +kernel
theorem dX6_forget_16 : decode cX6_forget 16 = .ok (.iload_n 1, 1) := by decide +kernel
theorem dX6_forget_17 : decode cX6_forget 17 = .ok (.ireturn, 1) := by decide +kernel
theorem dX6_grant_0 : decode cX6_grant 0 = .ok (.iload_n 1, 1) := by decide +kernel
theorem dX6_grant_1 : decode cX6_grant 1 = .ok (.aload_n 0, 1) := by decide +kernel
theorem dX6_grant_2 : decode cX6_grant 2 = .ok (.getfield 49, 3) := by decide +kernel
theorem dX6_grant_5 : decode cX6_grant 5 = .ok (.getfield 91, 3) := by decide +kernel
theorem dX6_grant_8 : decode cX6_grant 8 = .ok (.invokestatic 227, 3) := by decide +kernel
theorem dX6_grant_11 : decode cX6_grant 11 = .ok (.ifCond .ne 6, 3) := by decide +kernel
theorem dX6_grant_14 : decode cX6_grant 14 = .ok (.ldc 127, 2) := by decide +kernel
theorem dX6_grant_16 : decode cX6_grant 16 = .ok (.ireturn, 1) := by decide +kernel
theorem dX6_grant_17 : decode cX6_grant 17 = .ok (.aload_n 0, 1) := by decide +kernel
theorem dX6_grant_18 : decode cX6_grant 18 = .ok (.getfield 49, 3) := by decide +kernel
theorem dX6_grant_21 : decode cX6_grant 21 = .ok (.iload_n 1, 1) := by decide +kernel
theorem dX6_grant_22 : decode cX6_grant 22 = .ok (.aload_n 0, 1) := by decide +kernel
theorem dX6_grant_23 : decode cX6_grant 23 = .ok (.getfield 31, 3) := by decide +kernel
theorem dX6_grant_26 : decode cX6_grant 26 = .ok (.invokevirtual 230, 3) := by decide +kernel
theorem dX6_grant_29 : decode cX6_grant 29 = .ok (.ireturn, 1) := by decide +kernel
theorem dX6_best_0 : decode cX6_best 0 = .ok (.iload_n 1, 1) := by decide +kernel
theorem dX6_best_1 : decode cX6_best 1 = .ok (.ifCond .lt 19, 3) := by decide +kernel
theorem dX6_best_4 : decode cX6_best 4 = .ok (.iload_n 1, 1) := by decide +kernel
theorem dX6_best_5 : decode cX6_best 5 = .ok (.sipush 200, 3) := by decide +kernel
theorem dX6_best_8 : decode cX6_best 8 = .ok (.if_icmp .gt 12, 3) := by decide +kernel
theorem dX6_best_11 : decode cX6_best 11 = .ok (.iload_n 2, 1) := by decide +kernel
theorem dX6_best_12 : decode cX6_best 12 = .ok (.ifCond .lt 8, 3) := by decide +kernel
theorem dX6_best_15 : decode cX6_best 15 = .ok (.iload_n 2, 1) := by decide +kernel
theorem dX6_best_16 : decode cX6_best 16 = .ok (.iconst 2, 1) := by decide +kernel
theorem dX6_best_17 : decode cX6_best 17 = .ok (.if_icmp .le 6, 3) := by decide +kernel
theorem dX6_best_20 : decode cX6_best 20 = .ok (.ldc 70, 2) := by decide +kernel
theorem dX6_best_22 : decode cX6_best 22 = .ok (.ireturn, 1) := by decide +kernel
theorem dX6_best_23 : decode cX6_best 23 = .ok (.aload_n 0, 1) := by decide +kernel
theorem dX6_best_24 : decode cX6_best 24 = .ok (.getfield 56, 3) := by decide +kernel
theorem dX6_best_27 : decode cX6_best 27 = .ok (.invokevirtual 234, 3) := by decide +kernel
theorem dX6_best_30 : decode cX6_best 30 = .ok (.iconst 0, 1) := by decide +kernel
theorem dX6_best_31 : decode cX6_best 31 = .ok (.istore_n 3, 1) := by decide +kernel
theorem dX6_best_32 : decode cX6_best 32 = .ok (.iload_n 3, 1) := by decide +kernel
theorem dX6_best_33 : decode cX6_best 33 = .ok (.aload_n 0, 1) := by decide +kernel
theorem dX6_best_34 : decode cX6_best 34 = .ok (.getfield 23, 3) := by decide +kernel
theorem dX6_best_37 : decode cX6_best 37 = .ok (.getfield 94, 3) := by decide +kernel
theorem dX6_best_40 : decode cX6_best 40 = .ok (.if_icmp .ge 15, 3) := by decide +kernel
theorem dX6_best_43 : decode cX6_best 43 = .ok (.aload_n 0, 1) := by decide +kernel
theorem dX6_best_44 : decode cX6_best 44 = .ok (.iload_n 3, 1) := by decide +kernel
theorem dX6_best_45 : decode cX6_best 45 = .ok (.iload_n 1, 1) := by decide +kernel
theorem dX6_best_46 : decode cX6_best 46 = .ok (.invokevirtual 237, 3) := by decide +kernel
theorem dX6_best_49 : decode cX6_best 49 = .ok (.iinc 3 1, 3) := by decide +kernel
theorem dX6_best_52 : decode cX6_best 52 = .ok (.goto (-20), 3) := by decide +kernel
theorem dX6_best_55 : decode cX6_best 55 = .ok (.iload_n 2, 1) := by decide +kernel
theorem dX6_best_56 : decode cX6_best 56 = .ok (.lookupswitch 44 #[(0, 28), (1, 36)], 28) := by decide +kernel
theorem dX6_best_84 : decode cX6_best 84 = .ok (.aload_n 0, 1) := by decide +kernel
theorem dX6_best_85 : decode cX6_best 85 = .ok (.getfield 56, 3) := by decide +kernel
theorem dX6_best_88 : decode cX6_best 88 = .ok (.getfield 240, 3) := by decide +kernel
theorem dX6_best_91 : decode cX6_best 91 = .ok (.ireturn, 1) := by decide +kernel
theorem dX6_best_92 : decode cX6_best 92 = .ok (.aload_n 0, 1) := by decide +kernel
theorem dX6_best_93 : decode cX6_best 93 = .ok (.getfield 56, 3) := by decide +kernel
theorem dX6_best_96 : decode cX6_best 96 = .ok (.getfield 243, 3) := by decide +kernel
theorem dX6_best_99 : decode cX6_best 99 = .ok (.ireturn, 1) := by decide +kernel
theorem dX6_best_100 : decode cX6_best 100 = .ok (.aload_n 0, 1) := by decide +kernel
theorem dX6_best_101 : decode cX6_best 101 = .ok (.getfield 56, 3) := by decide +kernel
theorem dX6_best_104 : decode cX6_best 104 = .ok (.getfield 246, 3) := by decide +kernel
theorem dX6_best_107 : decode cX6_best 107 = .ok (.ireturn, 1) := by decide +kernel
theorem dX6_chooseFor_0 : decode cX6_chooseFor 0 = .ok (.aload_n 0, 1) := by decide +kernel
theorem dX6_chooseFor_1 : decode cX6_chooseFor 1 = .ok (.getfield 49, 3) := by decide +kernel
theorem dX6_chooseFor_4 : decode cX6_chooseFor 4 = .ok (.iload_n 1, 1) := by decide +kernel
theorem dX6_chooseFor_5 : decode cX6_chooseFor 5 = .ok (.invokevirtual 249, 3) := by decide +kernel
theorem dX6_chooseFor_8 : decode cX6_chooseFor 8 = .ok (.istore_n 3, 1) := by decide +kernel
theorem dX6_chooseFor_9 : decode cX6_chooseFor 9 = .ok (.iconst 0, 1) := by decide +kernel
theorem dX6_chooseFor_10 : decode cX6_chooseFor 10 = .ok (.istore 4, 2) := by decide +kernel
theorem dX6_chooseFor_12 : decode cX6_chooseFor 12 = .ok (.iconst (-1), 1) := by decide +kernel
theorem dX6_chooseFor_13 : decode cX6_chooseFor 13 = .ok (.istore 5, 2) := by decide +kernel
theorem dX6_chooseFor_15 : decode cX6_chooseFor 15 = .ok (.iconst 0, 1) := by decide +kernel
theorem dX6_chooseFor_16 : decode cX6_chooseFor 16 = .ok (.istore 6, 2) := by decide +kernel
theorem dX6_chooseFor_18 : decode cX6_chooseFor 18 = .ok (.iconst 0, 1) := by decide +kernel
theorem dX6_chooseFor_19 : decode cX6_chooseFor 19 = .ok (.istore 7, 2) := by decide +kernel
theorem dX6_chooseFor_21 : decode cX6_chooseFor 21 = .ok (.iload 7, 2) := by decide +kernel
theorem dX6_chooseFor_23 : decode cX6_chooseFor 23 = .ok (.iload_n 3, 1) := by decide +kernel
theorem dX6_chooseFor_24 : decode cX6_chooseFor 24 = .ok (.if_icmp .gt 120, 3) := by decide +kernel
theorem dX6_chooseFor_27 : decode cX6_chooseFor 27 = .ok (.iload 7, 2) := by decide +kernel
theorem dX6_chooseFor_29 : decode cX6_chooseFor 29 = .ok (.iload_n 3, 1) := by decide +kernel
theorem dX6_chooseFor_30 : decode cX6_chooseFor 30 = .ok (.iand, 1) := by decide +kernel
theorem dX6_chooseFor_31 : decode cX6_chooseFor 31 = .ok (.iload 7, 2) := by decide +kernel
theorem dX6_chooseFor_33 : decode cX6_chooseFor 33 = .ok (.if_icmp .eq 6, 3) := by decide +kernel
theorem dX6_chooseFor_36 : decode cX6_chooseFor 36 = .ok (.goto 102, 3) := by decide +kernel
theorem dX6_chooseFor_39 : decode cX6_chooseFor 39 = .ok (.aload_n 0, 1) := by decide +kernel
theorem dX6_chooseFor_40 : decode cX6_chooseFor 40 = .ok (.getfield 35, 3) := by decide +kernel
theorem dX6_chooseFor_43 : decode cX6_chooseFor 43 = .ok (.aload_n 0, 1) := by decide +kernel
theorem dX6_chooseFor_44 : decode cX6_chooseFor 44 = .ok (.getfield 31, 3) := by decide +kernel
theorem dX6_chooseFor_47 : decode cX6_chooseFor 47 = .ok (.invokevirtual 252, 3) := by decide +kernel
theorem dX6_chooseFor_50 : decode cX6_chooseFor 50 = .ok (.aload_n 0, 1) := by decide +kernel
theorem dX6_chooseFor_51 : decode cX6_chooseFor 51 = .ok (.getfield 49, 3) := by decide +kernel
theorem dX6_chooseFor_54 : decode cX6_chooseFor 54 = .ok (.iload 7, 2) := by decide +kernel
theorem dX6_chooseFor_56 : decode cX6_chooseFor 56 = .ok (.aload_n 0, 1) := by decide +kernel
theorem dX6_chooseFor_57 : decode cX6_chooseFor 57 = .ok (.getfield 35, 3) := by decide +kernel
theorem dX6_chooseFor_60 : decode cX6_chooseFor 60 = .ok (.invokevirtual 230, 3) := by decide +kernel
theorem dX6_chooseFor_63 : decode cX6_chooseFor 63 = .ok (.istore 8, 2) := by decide +kernel
theorem dX6_chooseFor_65 : decode cX6_chooseFor 65 = .ok (.aload_n 0, 1) := by decide +kernel
theorem dX6_chooseFor_66 : decode cX6_chooseFor 66 = .ok (.getfield 35, 3) := by decide +kernel
theorem dX6_chooseFor_69 : decode cX6_chooseFor 69 = .ok (.iload_n 1, 1) := by decide +kernel
theorem dX6_chooseFor_70 : decode cX6_chooseFor 70 = .ok (.iload_n 2, 1) := by decide +kernel
theorem dX6_chooseFor_71 : decode cX6_chooseFor 71 = .ok (.invokevirtual 131, 3) := by decide +kernel
theorem dX6_chooseFor_74 : decode cX6_chooseFor 74 = .ok (.istore 9, 2) := by decide +kernel
theorem dX6_chooseFor_76 : decode cX6_chooseFor 76 = .ok (.iload 8, 2) := by decide +kernel
theorem dX6_chooseFor_78 : decode cX6_chooseFor 78 = .ok (.iload 9, 2) := by decide +kernel
theorem dX6_chooseFor_80 : decode cX6_chooseFor 80 = .ok (.ifCond .eq 15, 3) := by decide +kernel
theorem dX6_chooseFor_83 : decode cX6_chooseFor 83 = .ok (.aload_n 0, 1) := by decide +kernel
theorem dX6_chooseFor_84 : decode cX6_chooseFor 84 = .ok (.getfield 23, 3) := by decide +kernel
theorem dX6_chooseFor_87 : decode cX6_chooseFor 87 = .ok (.getfield 128, 3) := by decide +kernel
theorem dX6_chooseFor_90 : decode cX6_chooseFor 90 = .ok (.iload_n 1, 1) := by decide +kernel
theorem dX6_chooseFor_91 : decode cX6_chooseFor 91 = .ok (.iaload, 1) := by decide +kernel
theorem dX6_chooseFor_92 : decode cX6_chooseFor 92 = .ok (.goto 4, 3) := by decide +kernel
theorem dX6_chooseFor_95 : decode cX6_chooseFor 95 = .ok (.iconst 0, 1) := by decide +kernel
theorem dX6_chooseFor_96 : decode cX6_chooseFor 96 = .ok (.iadd, 1) := by decide +kernel
theorem dX6_chooseFor_97 : decode cX6_chooseFor 97 = .ok (.istore 8, 2) := by decide +kernel
theorem dX6_chooseFor_99 : decode cX6_chooseFor 99 = .ok (.iload 8, 2) := by decide +kernel
theorem dX6_chooseFor_101 : decode cX6_chooseFor 101 = .ok (.iload 5, 2) := by decide +kernel
theorem dX6_chooseFor_103 : decode cX6_chooseFor 103 = .ok (.if_icmp .gt 23, 3) := by decide +kernel
theorem dX6_chooseFor_106 : decode cX6_chooseFor 106 = .ok (.iload 8, 2) := by decide +kernel
theorem dX6_chooseFor_108 : decode cX6_chooseFor 108 = .ok (.iload 5, 2) := by decide +kernel
theorem dX6_chooseFor_110 : decode cX6_chooseFor 110 = .ok (.if_icmp .ne 28, 3) := by decide +kernel
theorem dX6_chooseFor_113 : decode cX6_chooseFor 113 = .ok (.iload 7, 2) := by decide +kernel
theorem dX6_chooseFor_115 : decode cX6_chooseFor 115 = .ok (.invokestatic 256, 3) := by decide +kernel
theorem dX6_chooseFor_118 : decode cX6_chooseFor 118 = .ok (.iload 4, 2) := by decide +kernel
theorem dX6_chooseFor_120 : decode cX6_chooseFor 120 = .ok (.invokestatic 256, 3) := by decide +kernel
theorem dX6_chooseFor_123 : decode cX6_chooseFor 123 = .ok (.if_icmp .ge 15, 3) := by decide +kernel
theorem dX6_chooseFor_126 : decode cX6_chooseFor 126 = .ok (.iload 7, 2) := by decide +kernel
theorem dX6_chooseFor_128 : decode cX6_chooseFor 128 = .ok (.istore 4, 2) := by decide +kernel
theorem dX6_chooseFor_130 : decode cX6_chooseFor 130 = .ok (.iload 8, 2) := by decide +kernel
theorem dX6_chooseFor_132 : decode cX6_chooseFor 132 = .ok (.istore 5, 2) := by decide +kernel
theorem dX6_chooseFor_134 : decode cX6_chooseFor 134 = .ok (.iload 9, 2) := by decide +kernel
theorem dX6_chooseFor_136 : decode cX6_chooseFor 136 = .ok (.istore 6, 2) := by decide +kernel
theorem dX6_chooseFor_138 : decode cX6_chooseFor 138 = .ok (.iinc 7 1, 3) := by decide +kernel
theorem dX6_chooseFor_141 : decode cX6_chooseFor 141 = .ok (.goto (-120), 3) := by decide +kernel
theorem dX6_chooseFor_144 : decode cX6_chooseFor 144 = .ok (.aload_n 0, 1) := by decide +kernel
theorem dX6_chooseFor_145 : decode cX6_chooseFor 145 = .ok (.getfield 56, 3) := by decide +kernel
theorem dX6_chooseFor_148 : decode cX6_chooseFor 148 = .ok (.iload_n 1, 1) := by decide +kernel
theorem dX6_chooseFor_149 : decode cX6_chooseFor 149 = .ok (.iload 4, 2) := by decide +kernel
theorem dX6_chooseFor_151 : decode cX6_chooseFor 151 = .ok (.iload 5, 2) := by decide +kernel
theorem dX6_chooseFor_153 : decode cX6_chooseFor 153 = .ok (.iload 6, 2) := by decide +kernel
theorem dX6_chooseFor_155 : decode cX6_chooseFor 155 = .ok (.invokevirtual 261, 3) := by decide +kernel
theorem dX6_chooseFor_158 : decode cX6_chooseFor 158 = .ok (.return_, 1) := by decide +kernel
theorem dX6_toKnow_0 : decode cX6_toKnow 0 = .ok (.iload_n 1, 1) := by decide +kernel
theorem dX6_toKnow_1 : decode cX6_toKnow 1 = .ok (.aload_n 0, 1) := by decide +kernel
theorem dX6_toKnow_2 : decode cX6_toKnow 2 = .ok (.getfield 23, 3) := by decide +kernel
theorem dX6_toKnow_5 : decode cX6_toKnow 5 = .ok (.getfield 94, 3) := by decide +kernel
theorem dX6_toKnow_8 : decode cX6_toKnow 8 = .ok (.invokestatic 227, 3) := by decide +kernel
theorem dX6_toKnow_11 : decode cX6_toKnow 11 = .ok (.ifCond .eq 17, 3) := by decide +kernel
theorem dX6_toKnow_14 : decode cX6_toKnow 14 = .ok (.iload_n 2, 1) := by decide +kernel
theorem dX6_toKnow_15 : decode cX6_toKnow 15 = .ok (.aload_n 0, 1) := by decide +kernel
theorem dX6_toKnow_16 : decode cX6_toKnow 16 = .ok (.getfield 23, 3) := by decide +kernel
theorem dX6_toKnow_19 : decode cX6_toKnow 19 = .ok (.getfield 100, 3) := by decide +kernel
theorem dX6_toKnow_22 : decode cX6_toKnow 22 = .ok (.invokestatic 227, 3) := by decide +kernel
theorem dX6_toKnow_25 : decode cX6_toKnow 25 = .ok (.ifCond .ne 6, 3) := by decide +kernel
theorem dX6_toKnow_28 : decode cX6_toKnow 28 = .ok (.ldc 127, 2) := by decide +kernel
theorem dX6_toKnow_30 : decode cX6_toKnow 30 = .ok (.ireturn, 1) := by decide +kernel
theorem dX6_toKnow_31 : decode cX6_toKnow 31 = .ok (.iconst 0, 1) := by decide +kernel
theorem dX6_toKnow_32 : decode cX6_toKnow 32 = .ok (.istore_n 3, 1) := by decide +kernel
theorem dX6_toKnow_33 : decode cX6_toKnow 33 = .ok (.iconst 0, 1) := by decide +kernel
theorem dX6_toKnow_34 : decode cX6_toKnow 34 = .ok (.istore 4, 2) := by decide +kernel
theorem dX6_toKnow_36 : decode cX6_toKnow 36 = .ok (.iload 4, 2) := by decide +kernel
theorem dX6_toKnow_38 : decode cX6_toKnow 38 = .ok (.aload_n 0, 1) := by decide +kernel
theorem dX6_toKnow_39 : decode cX6_toKnow 39 = .ok (.getfield 23, 3) := by decide +kernel
theorem dX6_toKnow_42 : decode cX6_toKnow 42 = .ok (.getfield 94, 3) := by decide +kernel
theorem dX6_toKnow_45 : decode cX6_toKnow 45 = .ok (.if_icmp .ge 40, 3) := by decide +kernel
theorem dX6_toKnow_48 : decode cX6_toKnow 48 = .ok (.iload_n 1, 1) := by decide +kernel
theorem dX6_toKnow_49 : decode cX6_toKnow 49 = .ok (.iload 4, 2) := by decide +kernel
theorem dX6_toKnow_51 : decode cX6_toKnow 51 = .ok (.invokestatic 265, 3) := by decide +kernel
theorem dX6_toKnow_54 : decode cX6_toKnow 54 = .ok (.ifCond .eq 25, 3) := by decide +kernel
theorem dX6_toKnow_57 : decode cX6_toKnow 57 = .ok (.aload_n 0, 1) := by decide +kernel
theorem dX6_toKnow_58 : decode cX6_toKnow 58 = .ok (.iload 4, 2) := by decide +kernel
theorem dX6_toKnow_60 : decode cX6_toKnow 60 = .ok (.iload_n 2, 1) := by decide +kernel
theorem dX6_toKnow_61 : decode cX6_toKnow 61 = .ok (.invokevirtual 268, 3) := by decide +kernel
theorem dX6_toKnow_64 : decode cX6_toKnow 64 = .ok (.istore 5, 2) := by decide +kernel
theorem dX6_toKnow_66 : decode cX6_toKnow 66 = .ok (.iload 5, 2) := by decide +kernel
theorem dX6_toKnow_68 : decode cX6_toKnow 68 = .ok (.iconst (-1), 1) := by decide +kernel
theorem dX6_toKnow_69 : decode cX6_toKnow 69 = .ok (.if_icmp .ne 5, 3) := by decide +kernel
theorem dX6_toKnow_72 : decode cX6_toKnow 72 = .ok (.iconst (-1), 1) := by decide +kernel
theorem dX6_toKnow_73 : decode cX6_toKnow 73 = .ok (.ireturn, 1) := by decide +kernel
theorem dX6_toKnow_74 : decode cX6_toKnow 74 = .ok (.iload_n 3, 1) := by decide +kernel
theorem dX6_toKnow_75 : decode cX6_toKnow 75 = .ok (.iload 5, 2) := by decide +kernel
theorem dX6_toKnow_77 : decode cX6_toKnow 77 = .ok (.iadd, 1) := by decide +kernel
theorem dX6_toKnow_78 : decode cX6_toKnow 78 = .ok (.istore_n 3, 1) := by decide +kernel
theorem dX6_toKnow_79 : decode cX6_toKnow 79 = .ok (.iinc 4 1, 3) := by decide +kernel
theorem dX6_toKnow_82 : decode cX6_toKnow 82 = .ok (.goto (-46), 3) := by decide +kernel
theorem dX6_toKnow_85 : decode cX6_toKnow 85 = .ok (.iload_n 3, 1) := by decide +kernel
theorem dX6_toKnow_86 : decode cX6_toKnow 86 = .ok (.ireturn, 1) := by decide +kernel
theorem dX6_fewestToKnow_0 : decode cX6_fewestToKnow 0 = .ok (.iload_n 2, 1) := by decide +kernel
theorem dX6_fewestToKnow_1 : decode cX6_fewestToKnow 1 = .ok (.aload_n 0, 1) := by decide +kernel
theorem dX6_fewestToKnow_2 : decode cX6_fewestToKnow 2 = .ok (.getfield 31, 3) := by decide +kernel
theorem dX6_fewestToKnow_5 : decode cX6_fewestToKnow 5 = .ok (.iload_n 1, 1) := by decide +kernel
theorem dX6_fewestToKnow_6 : decode cX6_fewestToKnow 6 = .ok (.invokevirtual 271, 3) := by decide +kernel
theorem dX6_fewestToKnow_9 : decode cX6_fewestToKnow 9 = .ok (.iconst (-1), 1) := by decide +kernel
theorem dX6_fewestToKnow_10 : decode cX6_fewestToKnow 10 = .ok (.ixor, 1) := by decide +kernel
theorem dX6_fewestToKnow_11 : decode cX6_fewestToKnow 11 = .ok (.iand, 1) := by decide +kernel
theorem dX6_fewestToKnow_12 : decode cX6_fewestToKnow 12 = .ok (.istore_n 3, 1) := by decide +kernel
theorem dX6_fewestToKnow_13 : decode cX6_fewestToKnow 13 = .ok (.iload_n 3, 1) := by decide +kernel
theorem dX6_fewestToKnow_14 : decode cX6_fewestToKnow 14 = .ok (.invokestatic 256, 3) := by decide +kernel
theorem dX6_fewestToKnow_17 : decode cX6_fewestToKnow 17 = .ok (.istore 4, 2) := by decide +kernel
theorem dX6_fewestToKnow_19 : decode cX6_fewestToKnow 19 = .ok (.iload 4, 2) := by decide +kernel
theorem dX6_fewestToKnow_21 : decode cX6_fewestToKnow 21 = .ok (.ifCond .ne 5, 3) := by decide +kernel
theorem dX6_fewestToKnow_24 : decode cX6_fewestToKnow 24 = .ok (.iconst 0, 1) := by decide +kernel
theorem dX6_fewestToKnow_25 : decode cX6_fewestToKnow 25 = .ok (.ireturn, 1) := by decide +kernel
theorem dX6_fewestToKnow_26 : decode cX6_fewestToKnow 26 = .ok (.aload_n 0, 1) := by decide +kernel
theorem dX6_fewestToKnow_27 : decode cX6_fewestToKnow 27 = .ok (.getfield 31, 3) := by decide +kernel
theorem dX6_fewestToKnow_30 : decode cX6_fewestToKnow 30 = .ok (.iload_n 1, 1) := by decide +kernel
theorem dX6_fewestToKnow_31 : decode cX6_fewestToKnow 31 = .ok (.invokevirtual 274, 3) := by decide +kernel
theorem dX6_fewestToKnow_34 : decode cX6_fewestToKnow 34 = .ok (.ifCond .le 7, 3) := by decide +kernel
theorem dX6_fewestToKnow_37 : decode cX6_fewestToKnow 37 = .ok (.iconst 1, 1) := by decide +kernel
theorem dX6_fewestToKnow_38 : decode cX6_fewestToKnow 38 = .ok (.goto 4, 3) := by decide +kernel
theorem dX6_fewestToKnow_41 : decode cX6_fewestToKnow 41 = .ok (.iconst 0, 1) := by decide +kernel
theorem dX6_fewestToKnow_42 : decode cX6_fewestToKnow 42 = .ok (.istore 5, 2) := by decide +kernel
theorem dX6_fewestToKnow_44 : decode cX6_fewestToKnow 44 = .ok (.iload 5, 2) := by decide +kernel
theorem dX6_fewestToKnow_46 : decode cX6_fewestToKnow 46 = .ok (.ifCond .eq 16, 3) := by decide +kernel
theorem dX6_fewestToKnow_49 : decode cX6_fewestToKnow 49 = .ok (.aload_n 0, 1) := by decide +kernel
theorem dX6_fewestToKnow_50 : decode cX6_fewestToKnow 50 = .ok (.getfield 23, 3) := by decide +kernel
theorem dX6_fewestToKnow_53 : decode cX6_fewestToKnow 53 = .ok (.iconst 1, 1) := by decide +kernel
theorem dX6_fewestToKnow_54 : decode cX6_fewestToKnow 54 = .ok (.invokevirtual 277, 3) := by decide +kernel
theorem dX6_fewestToKnow_57 : decode cX6_fewestToKnow 57 = .ok (.ifCond .eq 5, 3) := by decide +kernel
theorem dX6_fewestToKnow_60 : decode cX6_fewestToKnow 60 = .ok (.iconst 1, 1) := by decide +kernel
theorem dX6_fewestToKnow_61 : decode cX6_fewestToKnow 61 = .ok (.ireturn, 1) := by decide +kernel
theorem dX6_fewestToKnow_62 : decode cX6_fewestToKnow 62 = .ok (.aload_n 0, 1) := by decide +kernel
theorem dX6_fewestToKnow_63 : decode cX6_fewestToKnow 63 = .ok (.iload_n 1, 1) := by decide +kernel
theorem dX6_fewestToKnow_64 : decode cX6_fewestToKnow 64 = .ok (.iload_n 3, 1) := by decide +kernel
theorem dX6_fewestToKnow_65 : decode cX6_fewestToKnow 65 = .ok (.invokevirtual 280, 3) := by decide +kernel
theorem dX6_fewestToKnow_68 : decode cX6_fewestToKnow 68 = .ok (.ifCond .eq 6, 3) := by decide +kernel
theorem dX6_fewestToKnow_71 : decode cX6_fewestToKnow 71 = .ok (.iload 4, 2) := by decide +kernel
theorem dX6_fewestToKnow_73 : decode cX6_fewestToKnow 73 = .ok (.ireturn, 1) := by decide +kernel
theorem dX6_fewestToKnow_74 : decode cX6_fewestToKnow 74 = .ok (.aload_n 0, 1) := by decide +kernel
theorem dX6_fewestToKnow_75 : decode cX6_fewestToKnow 75 = .ok (.getfield 23, 3) := by decide +kernel
theorem dX6_fewestToKnow_78 : decode cX6_fewestToKnow 78 = .ok (.iconst 4, 1) := by decide +kernel
theorem dX6_fewestToKnow_79 : decode cX6_fewestToKnow 79 = .ok (.invokevirtual 277, 3) := by decide +kernel
theorem dX6_fewestToKnow_82 : decode cX6_fewestToKnow 82 = .ok (.istore 6, 2) := by decide +kernel
theorem dX6_fewestToKnow_84 : decode cX6_fewestToKnow 84 = .ok (.iload 6, 2) := by decide +kernel
theorem dX6_fewestToKnow_86 : decode cX6_fewestToKnow 86 = .ok (.aload_n 0, 1) := by decide +kernel
theorem dX6_fewestToKnow_87 : decode cX6_fewestToKnow 87 = .ok (.getfield 31, 3) := by decide +kernel
theorem dX6_fewestToKnow_90 : decode cX6_fewestToKnow 90 = .ok (.iload_n 1, 1) := by decide +kernel
theorem dX6_fewestToKnow_91 : decode cX6_fewestToKnow 91 = .ok (.invokevirtual 271, 3) := by decide +kernel
theorem dX6_fewestToKnow_94 : decode cX6_fewestToKnow 94 = .ok (.iand, 1) := by decide +kernel
theorem dX6_fewestToKnow_95 : decode cX6_fewestToKnow 95 = .ok (.ifCond .eq 6, 3) := by decide +kernel
theorem dX6_fewestToKnow_98 : decode cX6_fewestToKnow 98 = .ok (.iload 4, 2) := by decide +kernel
theorem dX6_fewestToKnow_100 : decode cX6_fewestToKnow 100 = .ok (.ireturn, 1) := by decide +kernel
theorem dX6_fewestToKnow_101 : decode cX6_fewestToKnow 101 = .ok (.iload 5, 2) := by decide +kernel
theorem dX6_fewestToKnow_103 : decode cX6_fewestToKnow 103 = .ok (.ifCond .eq 8, 3) := by decide +kernel
theorem dX6_fewestToKnow_106 : decode cX6_fewestToKnow 106 = .ok (.iload 6, 2) := by decide +kernel
theorem dX6_fewestToKnow_108 : decode cX6_fewestToKnow 108 = .ok (.ifCond .ne 5, 3) := by decide +kernel
theorem dX6_fewestToKnow_111 : decode cX6_fewestToKnow 111 = .ok (.iconst (-1), 1) := by decide +kernel
theorem dX6_fewestToKnow_112 : decode cX6_fewestToKnow 112 = .ok (.ireturn, 1) := by decide +kernel
theorem dX6_fewestToKnow_113 : decode cX6_fewestToKnow 113 = .ok (.iload 6, 2) := by decide +kernel
theorem dX6_fewestToKnow_115 : decode cX6_fewestToKnow 115 = .ok (.iload_n 2, 1) := by decide +kernel
theorem dX6_fewestToKnow_116 : decode cX6_fewestToKnow 116 = .ok (.iand, 1) := by decide +kernel
theorem dX6_fewestToKnow_117 : decode cX6_fewestToKnow 117 = .ok (.ifCond .eq 8, 3) := by decide +kernel
theorem dX6_fewestToKnow_120 : decode cX6_fewestToKnow 120 = .ok (.iload 4, 2) := by decide +kernel
theorem dX6_fewestToKnow_122 : decode cX6_fewestToKnow 122 = .ok (.goto 7, 3) := by decide +kernel
theorem dX6_fewestToKnow_125 : decode cX6_fewestToKnow 125 = .ok (.iload 4, 2) := by decide +kernel
theorem dX6_fewestToKnow_127 : decode cX6_fewestToKnow 127 = .ok (.iconst 1, 1) := by decide +kernel
theorem dX6_fewestToKnow_128 : decode cX6_fewestToKnow 128 = .ok (.iadd, 1) := by decide +kernel
theorem dX6_fewestToKnow_129 : decode cX6_fewestToKnow 129 = .ok (.ireturn, 1) := by decide +kernel
theorem dX6_pagesAllow_0 : decode cX6_pagesAllow 0 = .ok (.iload_n 2, 1) := by decide +kernel
theorem dX6_pagesAllow_1 : decode cX6_pagesAllow 1 = .ok (.aload_n 0, 1) := by decide +kernel
theorem dX6_pagesAllow_2 : decode cX6_pagesAllow 2 = .ok (.getfield 23, 3) := by decide +kernel
theorem dX6_pagesAllow_5 : decode cX6_pagesAllow 5 = .ok (.iconst 3, 1) := by decide +kernel
theorem dX6_pagesAllow_6 : decode cX6_pagesAllow 6 = .ok (.invokevirtual 277, 3) := by decide +kernel
theorem dX6_pagesAllow_9 : decode cX6_pagesAllow 9 = .ok (.iand, 1) := by decide +kernel
theorem dX6_pagesAllow_10 : decode cX6_pagesAllow 10 = .ok (.invokestatic 256, 3) := by decide +kernel
theorem dX6_pagesAllow_13 : decode cX6_pagesAllow 13 = .ok (.istore_n 3, 1) := by decide +kernel
theorem dX6_pagesAllow_14 : decode cX6_pagesAllow 14 = .ok (.iload_n 3, 1) := by decide +kernel
theorem dX6_pagesAllow_15 : decode cX6_pagesAllow 15 = .ok (.aload_n 0, 1) := by decide +kernel
theorem dX6_pagesAllow_16 : decode cX6_pagesAllow 16 = .ok (.getfield 31, 3) := by decide +kernel
theorem dX6_pagesAllow_19 : decode cX6_pagesAllow 19 = .ok (.iload_n 1, 1) := by decide +kernel
theorem dX6_pagesAllow_20 : decode cX6_pagesAllow 20 = .ok (.invokevirtual 274, 3) := by decide +kernel
theorem dX6_pagesAllow_23 : decode cX6_pagesAllow 23 = .ok (.if_icmp .gt 22, 3) := by decide +kernel
theorem dX6_pagesAllow_26 : decode cX6_pagesAllow 26 = .ok (.iload_n 2, 1) := by decide +kernel
theorem dX6_pagesAllow_27 : decode cX6_pagesAllow 27 = .ok (.invokestatic 256, 3) := by decide +kernel
theorem dX6_pagesAllow_30 : decode cX6_pagesAllow 30 = .ok (.aload_n 0, 1) := by decide +kernel
theorem dX6_pagesAllow_31 : decode cX6_pagesAllow 31 = .ok (.getfield 31, 3) := by decide +kernel
theorem dX6_pagesAllow_34 : decode cX6_pagesAllow 34 = .ok (.iload_n 1, 1) := by decide +kernel
theorem dX6_pagesAllow_35 : decode cX6_pagesAllow 35 = .ok (.invokevirtual 283, 3) := by decide +kernel
theorem dX6_pagesAllow_38 : decode cX6_pagesAllow 38 = .ok (.if_icmp .gt 7, 3) := by decide +kernel
theorem dX6_pagesAllow_41 : decode cX6_pagesAllow 41 = .ok (.iconst 1, 1) := by decide +kernel
theorem dX6_pagesAllow_42 : decode cX6_pagesAllow 42 = .ok (.goto 4, 3) := by decide +kernel
theorem dX6_pagesAllow_45 : decode cX6_pagesAllow 45 = .ok (.iconst 0, 1) := by decide +kernel
theorem dX6_pagesAllow_46 : decode cX6_pagesAllow 46 = .ok (.ireturn, 1) := by decide +kernel
theorem dX6_life_0 : decode cX6_life 0 = .ok (.iload_n 1, 1) := by decide +kernel
theorem dX6_life_1 : decode cX6_life 1 = .ok (.ifCond .lt 31, 3) := by decide +kernel
theorem dX6_life_4 : decode cX6_life 4 = .ok (.iload_n 1, 1) := by decide +kernel
theorem dX6_life_5 : decode cX6_life 5 = .ok (.bipush 9, 2) := by decide +kernel
theorem dX6_life_7 : decode cX6_life 7 = .ok (.if_icmp .gt 25, 3) := by decide +kernel
theorem dX6_life_10 : decode cX6_life 10 = .ok (.iload_n 2, 1) := by decide +kernel
theorem dX6_life_11 : decode cX6_life 11 = .ok (.iconst 1, 1) := by decide +kernel
theorem dX6_life_12 : decode cX6_life 12 = .ok (.if_icmp .lt 20, 3) := by decide +kernel
theorem dX6_life_15 : decode cX6_life 15 = .ok (.iload_n 2, 1) := by decide +kernel
theorem dX6_life_16 : decode cX6_life 16 = .ok (.bipush 99, 2) := by decide +kernel
theorem dX6_life_18 : decode cX6_life 18 = .ok (.if_icmp .gt 14, 3) := by decide +kernel
theorem dX6_life_21 : decode cX6_life 21 = .ok (.iload_n 3, 1) := by decide +kernel
theorem dX6_life_22 : decode cX6_life 22 = .ok (.ifCond .lt 10, 3) := by decide +kernel
theorem dX6_life_25 : decode cX6_life 25 = .ok (.iload_n 3, 1) := by decide +kernel
theorem dX6_life_26 : decode cX6_life 26 = .ok (.sipush 200, 3) := by decide +kernel
theorem dX6_life_29 : decode cX6_life 29 = .ok (.if_icmp .le 6, 3) := by decide +kernel
theorem dX6_life_32 : decode cX6_life 32 = .ok (.ldc 70, 2) := by decide +kernel
theorem dX6_life_34 : decode cX6_life 34 = .ok (.ireturn, 1) := by decide +kernel
theorem dX6_life_35 : decode cX6_life 35 = .ok (.aload_n 0, 1) := by decide +kernel
theorem dX6_life_36 : decode cX6_life 36 = .ok (.getfield 67, 3) := by decide +kernel
theorem dX6_life_39 : decode cX6_life 39 = .ok (.iconst 0, 1) := by decide +kernel
theorem dX6_life_40 : decode cX6_life 40 = .ok (.invokestatic 286, 3) := by decide +kernel
theorem dX6_life_43 : decode cX6_life 43 = .ok (.aload_n 0, 1) := by decide +kernel
theorem dX6_life_44 : decode cX6_life 44 = .ok (.getfield 67, 3) := by decide +kernel
theorem dX6_life_47 : decode cX6_life 47 = .ok (.iload_n 1, 1) := by decide +kernel
theorem dX6_life_48 : decode cX6_life 48 = .ok (.ldc_w 292, 3) := by decide +kernel
theorem dX6_life_51 : decode cX6_life 51 = .ok (.iastore, 1) := by decide +kernel
theorem dX6_life_52 : decode cX6_life 52 = .ok (.iconst 0, 1) := by decide +kernel
theorem dX6_life_53 : decode cX6_life 53 = .ok (.istore 4, 2) := by decide +kernel
theorem dX6_life_55 : decode cX6_life 55 = .ok (.iload 4, 2) := by decide +kernel
theorem dX6_life_57 : decode cX6_life 57 = .ok (.iload_n 3, 1) := by decide +kernel
theorem dX6_life_58 : decode cX6_life 58 = .ok (.if_icmp .ge 61, 3) := by decide +kernel
theorem dX6_life_61 : decode cX6_life 61 = .ok (.bipush 8, 2) := by decide +kernel
theorem dX6_life_63 : decode cX6_life 63 = .ok (.istore 5, 2) := by decide +kernel
theorem dX6_life_65 : decode cX6_life 65 = .ok (.iload 5, 2) := by decide +kernel
theorem dX6_life_67 : decode cX6_life 67 = .ok (.ifCond .lt 46, 3) := by decide +kernel
theorem dX6_life_70 : decode cX6_life 70 = .ok (.aload_n 0, 1) := by decide +kernel
theorem dX6_life_71 : decode cX6_life 71 = .ok (.getfield 67, 3) := by decide +kernel
theorem dX6_life_74 : decode cX6_life 74 = .ok (.iload 5, 2) := by decide +kernel
theorem dX6_life_76 : decode cX6_life 76 = .ok (.iaload, 1) := by decide +kernel
theorem dX6_life_77 : decode cX6_life 77 = .ok (.iload_n 2, 1) := by decide +kernel
theorem dX6_life_78 : decode cX6_life 78 = .ok (.idiv, 1) := by decide +kernel
theorem dX6_life_79 : decode cX6_life 79 = .ok (.istore 6, 2) := by decide +kernel
theorem dX6_life_81 : decode cX6_life 81 = .ok (.aload_n 0, 1) := by decide +kernel
theorem dX6_life_82 : decode cX6_life 82 = .ok (.getfield 67, 3) := by decide +kernel
theorem dX6_life_85 : decode cX6_life 85 = .ok (.iload 5, 2) := by decide +kernel
theorem dX6_life_87 : decode cX6_life 87 = .ok (.iconst 1, 1) := by decide +kernel
theorem dX6_life_88 : decode cX6_life 88 = .ok (.iadd, 1) := by decide +kernel
theorem dX6_life_89 : decode cX6_life 89 = .ok (.dup2, 1) := by decide +kernel
theorem dX6_life_90 : decode cX6_life 90 = .ok (.iaload, 1) := by decide +kernel
theorem dX6_life_91 : decode cX6_life 91 = .ok (.iload 6, 2) := by decide +kernel
theorem dX6_life_93 : decode cX6_life 93 = .ok (.iadd, 1) := by decide +kernel
theorem dX6_life_94 : decode cX6_life 94 = .ok (.iastore, 1) := by decide +kernel
theorem dX6_life_95 : decode cX6_life 95 = .ok (.aload_n 0, 1) := by decide +kernel
theorem dX6_life_96 : decode cX6_life 96 = .ok (.getfield 67, 3) := by decide +kernel
theorem dX6_life_99 : decode cX6_life 99 = .ok (.iload 5, 2) := by decide +kernel
theorem dX6_life_101 : decode cX6_life 101 = .ok (.dup2, 1) := by decide +kernel
theorem dX6_life_102 : decode cX6_life 102 = .ok (.iaload, 1) := by decide +kernel
theorem dX6_life_103 : decode cX6_life 103 = .ok (.iload 6, 2) := by decide +kernel
theorem dX6_life_105 : decode cX6_life 105 = .ok (.isub, 1) := by decide +kernel
theorem dX6_life_106 : decode cX6_life 106 = .ok (.iastore, 1) := by decide +kernel
theorem dX6_life_107 : decode cX6_life 107 = .ok (.iinc 5 (-1), 3) := by decide +kernel
theorem dX6_life_110 : decode cX6_life 110 = .ok (.goto (-45), 3) := by decide +kernel
theorem dX6_life_113 : decode cX6_life 113 = .ok (.iinc 4 1, 3) := by decide +kernel
theorem dX6_life_116 : decode cX6_life 116 = .ok (.goto (-61), 3) := by decide +kernel
theorem dX6_life_119 : decode cX6_life 119 = .ok (.iconst 0, 1) := by decide +kernel
theorem dX6_life_120 : decode cX6_life 120 = .ok (.istore 4, 2) := by decide +kernel
theorem dX6_life_122 : decode cX6_life 122 = .ok (.iconst 0, 1) := by decide +kernel
theorem dX6_life_123 : decode cX6_life 123 = .ok (.istore 5, 2) := by decide +kernel
theorem dX6_life_125 : decode cX6_life 125 = .ok (.iload 5, 2) := by decide +kernel
theorem dX6_life_127 : decode cX6_life 127 = .ok (.bipush 9, 2) := by decide +kernel
theorem dX6_life_129 : decode cX6_life 129 = .ok (.if_icmp .ge 21, 3) := by decide +kernel
theorem dX6_life_132 : decode cX6_life 132 = .ok (.iload 4, 2) := by decide +kernel
theorem dX6_life_134 : decode cX6_life 134 = .ok (.aload_n 0, 1) := by decide +kernel
theorem dX6_life_135 : decode cX6_life 135 = .ok (.getfield 67, 3) := by decide +kernel
theorem dX6_life_138 : decode cX6_life 138 = .ok (.iload 5, 2) := by decide +kernel
theorem dX6_life_140 : decode cX6_life 140 = .ok (.iaload, 1) := by decide +kernel
theorem dX6_life_141 : decode cX6_life 141 = .ok (.iadd, 1) := by decide +kernel
theorem dX6_life_142 : decode cX6_life 142 = .ok (.istore 4, 2) := by decide +kernel
theorem dX6_life_144 : decode cX6_life 144 = .ok (.iinc 5 1, 3) := by decide +kernel
theorem dX6_life_147 : decode cX6_life 147 = .ok (.goto (-22), 3) := by decide +kernel
theorem dX6_life_150 : decode cX6_life 150 = .ok (.iload 4, 2) := by decide +kernel
theorem dX6_life_152 : decode cX6_life 152 = .ok (.ireturn, 1) := by decide +kernel
theorem dX6_right_0 : decode cX6_right 0 = .ok (.iload_n 1, 1) := by decide +kernel
theorem dX6_right_1 : decode cX6_right 1 = .ok (.iconst 1, 1) := by decide +kernel
theorem dX6_right_2 : decode cX6_right 2 = .ok (.if_icmp .lt 9, 3) := by decide +kernel
theorem dX6_right_5 : decode cX6_right 5 = .ok (.iload_n 1, 1) := by decide +kernel
theorem dX6_right_6 : decode cX6_right 6 = .ok (.bipush 40, 2) := by decide +kernel
theorem dX6_right_8 : decode cX6_right 8 = .ok (.if_icmp .le 6, 3) := by decide +kernel
theorem dX6_right_11 : decode cX6_right 11 = .ok (.ldc 70, 2) := by decide +kernel
theorem dX6_right_13 : decode cX6_right 13 = .ok (.ireturn, 1) := by decide +kernel
theorem dX6_right_14 : decode cX6_right 14 = .ok (.aload_n 0, 1) := by decide +kernel
theorem dX6_right_15 : decode cX6_right 15 = .ok (.getfield 67, 3) := by decide +kernel
theorem dX6_right_18 : decode cX6_right 18 = .ok (.iconst 0, 1) := by decide +kernel
theorem dX6_right_19 : decode cX6_right 19 = .ok (.invokestatic 286, 3) := by decide +kernel
theorem dX6_right_22 : decode cX6_right 22 = .ok (.aload_n 0, 1) := by decide +kernel
theorem dX6_right_23 : decode cX6_right 23 = .ok (.getfield 67, 3) := by decide +kernel
theorem dX6_right_26 : decode cX6_right 26 = .ok (.iconst 0, 1) := by decide +kernel
theorem dX6_right_27 : decode cX6_right 27 = .ok (.ldc_w 293, 3) := by decide +kernel
theorem dX6_right_30 : decode cX6_right 30 = .ok (.iastore, 1) := by decide +kernel
theorem dX6_right_31 : decode cX6_right 31 = .ok (.iconst 0, 1) := by decide +kernel
theorem dX6_right_32 : decode cX6_right 32 = .ok (.istore_n 2, 1) := by decide +kernel
theorem dX6_right_33 : decode cX6_right 33 = .ok (.iload_n 2, 1) := by decide +kernel
theorem dX6_right_34 : decode cX6_right 34 = .ok (.iload_n 1, 1) := by decide +kernel
theorem dX6_right_35 : decode cX6_right 35 = .ok (.if_icmp .ge 68, 3) := by decide +kernel
theorem dX6_right_38 : decode cX6_right 38 = .ok (.iload_n 2, 1) := by decide +kernel
theorem dX6_right_39 : decode cX6_right 39 = .ok (.istore_n 3, 1) := by decide +kernel
theorem dX6_right_40 : decode cX6_right 40 = .ok (.iload_n 3, 1) := by decide +kernel
theorem dX6_right_41 : decode cX6_right 41 = .ok (.ifCond .lt 56, 3) := by decide +kernel
theorem dX6_right_44 : decode cX6_right 44 = .ok (.aload_n 0, 1) := by decide +kernel
theorem dX6_right_45 : decode cX6_right 45 = .ok (.getfield 67, 3) := by decide +kernel
theorem dX6_right_48 : decode cX6_right 48 = .ok (.iload_n 3, 1) := by decide +kernel
theorem dX6_right_49 : decode cX6_right 49 = .ok (.iaload, 1) := by decide +kernel
theorem dX6_right_50 : decode cX6_right 50 = .ok (.aload_n 0, 1) := by decide +kernel
theorem dX6_right_51 : decode cX6_right 51 = .ok (.getfield 23, 3) := by decide +kernel
theorem dX6_right_54 : decode cX6_right 54 = .ok (.getfield 116, 3) := by decide +kernel
theorem dX6_right_57 : decode cX6_right 57 = .ok (.imul, 1) := by decide +kernel
theorem dX6_right_58 : decode cX6_right 58 = .ok (.bipush 100, 2) := by decide +kernel
theorem dX6_right_60 : decode cX6_right 60 = .ok (.idiv, 1) := by decide +kernel
theorem dX6_right_61 : decode cX6_right 61 = .ok (.istore 4, 2) := by decide +kernel
theorem dX6_right_63 : decode cX6_right 63 = .ok (.aload_n 0, 1) := by decide +kernel
theorem dX6_right_64 : decode cX6_right 64 = .ok (.getfield 67, 3) := by decide +kernel
theorem dX6_right_67 : decode cX6_right 67 = .ok (.iload_n 3, 1) := by decide +kernel
theorem dX6_right_68 : decode cX6_right 68 = .ok (.iconst 1, 1) := by decide +kernel
theorem dX6_right_69 : decode cX6_right 69 = .ok (.iadd, 1) := by decide +kernel
theorem dX6_right_70 : decode cX6_right 70 = .ok (.dup2, 1) := by decide +kernel
theorem dX6_right_71 : decode cX6_right 71 = .ok (.iaload, 1) := by decide +kernel
theorem dX6_right_72 : decode cX6_right 72 = .ok (.aload_n 0, 1) := by decide +kernel
theorem dX6_right_73 : decode cX6_right 73 = .ok (.getfield 67, 3) := by decide +kernel
theorem dX6_right_76 : decode cX6_right 76 = .ok (.iload_n 3, 1) := by decide +kernel
theorem dX6_right_77 : decode cX6_right 77 = .ok (.iaload, 1) := by decide +kernel
theorem dX6_right_78 : decode cX6_right 78 = .ok (.iload 4, 2) := by decide +kernel
theorem dX6_right_80 : decode cX6_right 80 = .ok (.isub, 1) := by decide +kernel
theorem dX6_right_81 : decode cX6_right 81 = .ok (.iadd, 1) := by decide +kernel
theorem dX6_right_82 : decode cX6_right 82 = .ok (.iastore, 1) := by decide +kernel
theorem dX6_right_83 : decode cX6_right 83 = .ok (.aload_n 0, 1) := by decide +kernel
theorem dX6_right_84 : decode cX6_right 84 = .ok (.getfield 67, 3) := by decide +kernel
theorem dX6_right_87 : decode cX6_right 87 = .ok (.iload_n 3, 1) := by decide +kernel
theorem dX6_right_88 : decode cX6_right 88 = .ok (.iload 4, 2) := by decide +kernel
theorem dX6_right_90 : decode cX6_right 90 = .ok (.iastore, 1) := by decide +kernel
theorem dX6_right_91 : decode cX6_right 91 = .ok (.iinc 3 (-1), 3) := by decide +kernel
theorem dX6_right_94 : decode cX6_right 94 = .ok (.goto (-54), 3) := by decide +kernel
theorem dX6_right_97 : decode cX6_right 97 = .ok (.iinc 2 1, 3) := by decide +kernel
theorem dX6_right_100 : decode cX6_right 100 = .ok (.goto (-67), 3) := by decide +kernel
theorem dX6_right_103 : decode cX6_right 103 = .ok (.iconst 0, 1) := by decide +kernel
theorem dX6_right_104 : decode cX6_right 104 = .ok (.istore_n 2, 1) := by decide +kernel
theorem dX6_right_105 : decode cX6_right 105 = .ok (.iload_n 1, 1) := by decide +kernel
theorem dX6_right_106 : decode cX6_right 106 = .ok (.iconst 2, 1) := by decide +kernel
theorem dX6_right_107 : decode cX6_right 107 = .ok (.idiv, 1) := by decide +kernel
theorem dX6_right_108 : decode cX6_right 108 = .ok (.iconst 1, 1) := by decide +kernel
theorem dX6_right_109 : decode cX6_right 109 = .ok (.iadd, 1) := by decide +kernel
theorem dX6_right_110 : decode cX6_right 110 = .ok (.istore_n 3, 1) := by decide +kernel
theorem dX6_right_111 : decode cX6_right 111 = .ok (.iload_n 3, 1) := by decide +kernel
theorem dX6_right_112 : decode cX6_right 112 = .ok (.iload_n 1, 1) := by decide +kernel
theorem dX6_right_113 : decode cX6_right 113 = .ok (.if_icmp .gt 18, 3) := by decide +kernel
theorem dX6_right_116 : decode cX6_right 116 = .ok (.iload_n 2, 1) := by decide +kernel
theorem dX6_right_117 : decode cX6_right 117 = .ok (.aload_n 0, 1) := by decide +kernel
theorem dX6_right_118 : decode cX6_right 118 = .ok (.getfield 67, 3) := by decide +kernel
theorem dX6_right_121 : decode cX6_right 121 = .ok (.iload_n 3, 1) := by decide +kernel
theorem dX6_right_122 : decode cX6_right 122 = .ok (.iaload, 1) := by decide +kernel
theorem dX6_right_123 : decode cX6_right 123 = .ok (.iadd, 1) := by decide +kernel
theorem dX6_right_124 : decode cX6_right 124 = .ok (.istore_n 2, 1) := by decide +kernel
theorem dX6_right_125 : decode cX6_right 125 = .ok (.iinc 3 1, 3) := by decide +kernel
theorem dX6_right_128 : decode cX6_right 128 = .ok (.goto (-17), 3) := by decide +kernel
theorem dX6_right_131 : decode cX6_right 131 = .ok (.iload_n 2, 1) := by decide +kernel
theorem dX6_right_132 : decode cX6_right 132 = .ok (.ireturn, 1) := by decide +kernel
theorem dX6_claim_0 : decode cX6_claim 0 = .ok (.aload_n 0, 1) := by decide +kernel
theorem dX6_claim_1 : decode cX6_claim 1 = .ok (.getfield 23, 3) := by decide +kernel
theorem dX6_claim_4 : decode cX6_claim 4 = .ok (.iload_n 1, 1) := by decide +kernel
theorem dX6_claim_5 : decode cX6_claim 5 = .ok (.invokevirtual 123, 3) := by decide +kernel
theorem dX6_claim_8 : decode cX6_claim 8 = .ok (.ifCond .ne 6, 3) := by decide +kernel
theorem dX6_claim_11 : decode cX6_claim 11 = .ok (.ldc 127, 2) := by decide +kernel
theorem dX6_claim_13 : decode cX6_claim 13 = .ok (.ireturn, 1) := by decide +kernel
theorem dX6_claim_14 : decode cX6_claim 14 = .ok (.iload_n 2, 1) := by decide +kernel
theorem dX6_claim_15 : decode cX6_claim 15 = .ok (.ifCond .lt 20, 3) := by decide +kernel
theorem dX6_claim_18 : decode cX6_claim 18 = .ok (.iload_n 2, 1) := by decide +kernel
theorem dX6_claim_19 : decode cX6_claim 19 = .ok (.bipush 99, 2) := by decide +kernel
theorem dX6_claim_21 : decode cX6_claim 21 = .ok (.if_icmp .gt 14, 3) := by decide +kernel
theorem dX6_claim_24 : decode cX6_claim 24 = .ok (.iload_n 3, 1) := by decide +kernel
theorem dX6_claim_25 : decode cX6_claim 25 = .ok (.ifCond .lt 10, 3) := by decide +kernel
theorem dX6_claim_28 : decode cX6_claim 28 = .ok (.iload_n 3, 1) := by decide +kernel
theorem dX6_claim_29 : decode cX6_claim 29 = .ok (.sipush 9999, 3) := by decide +kernel
theorem dX6_claim_32 : decode cX6_claim 32 = .ok (.if_icmp .le 6, 3) := by decide +kernel
theorem dX6_claim_35 : decode cX6_claim 35 = .ok (.ldc 70, 2) := by decide +kernel
theorem dX6_claim_37 : decode cX6_claim 37 = .ok (.ireturn, 1) := by decide +kernel
theorem dX6_claim_38 : decode cX6_claim 38 = .ok (.aload_n 0, 1) := by decide +kernel
theorem dX6_claim_39 : decode cX6_claim 39 = .ok (.getfield 31, 3) := by decide +kernel
theorem dX6_claim_42 : decode cX6_claim 42 = .ok (.iload_n 1, 1) := by decide +kernel
theorem dX6_claim_43 : decode cX6_claim 43 = .ok (.iload_n 2, 1) := by decide +kernel
theorem dX6_claim_44 : decode cX6_claim 44 = .ok (.iload_n 3, 1) := by decide +kernel
theorem dX6_claim_45 : decode cX6_claim 45 = .ok (.invokevirtual 294, 3) := by decide +kernel
theorem dX6_claim_48 : decode cX6_claim 48 = .ok (.ifCond .eq 7, 3) := by decide +kernel
theorem dX6_claim_51 : decode cX6_claim 51 = .ok (.iconst 0, 1) := by decide +kernel
theorem dX6_claim_52 : decode cX6_claim 52 = .ok (.goto 4, 3) := by decide +kernel
theorem dX6_claim_55 : decode cX6_claim 55 = .ok (.iconst 1, 1) := by decide +kernel
theorem dX6_claim_56 : decode cX6_claim 56 = .ok (.ireturn, 1) := by decide +kernel
theorem dX6_whence_0 : decode cX6_whence 0 = .ok (.aload_n 0, 1) := by decide +kernel
theorem dX6_whence_1 : decode cX6_whence 1 = .ok (.getfield 23, 3) := by decide +kernel
theorem dX6_whence_4 : decode cX6_whence 4 = .ok (.iload_n 1, 1) := by decide +kernel
theorem dX6_whence_5 : decode cX6_whence 5 = .ok (.invokevirtual 123, 3) := by decide +kernel
theorem dX6_whence_8 : decode cX6_whence 8 = .ok (.ifCond .ne 6, 3) := by decide +kernel
theorem dX6_whence_11 : decode cX6_whence 11 = .ok (.ldc 127, 2) := by decide +kernel
theorem dX6_whence_13 : decode cX6_whence 13 = .ok (.ireturn, 1) := by decide +kernel
theorem dX6_whence_14 : decode cX6_whence 14 = .ok (.iload_n 2, 1) := by decide +kernel
theorem dX6_whence_15 : decode cX6_whence 15 = .ok (.ifCond .lt 9, 3) := by decide +kernel
theorem dX6_whence_18 : decode cX6_whence 18 = .ok (.iload_n 2, 1) := by decide +kernel
theorem dX6_whence_19 : decode cX6_whence 19 = .ok (.bipush 99, 2) := by decide +kernel
theorem dX6_whence_21 : decode cX6_whence 21 = .ok (.if_icmp .le 6, 3) := by decide +kernel
theorem dX6_whence_24 : decode cX6_whence 24 = .ok (.ldc 70, 2) := by decide +kernel
theorem dX6_whence_26 : decode cX6_whence 26 = .ok (.ireturn, 1) := by decide +kernel
theorem dX6_whence_27 : decode cX6_whence 27 = .ok (.aload_n 0, 1) := by decide +kernel
theorem dX6_whence_28 : decode cX6_whence 28 = .ok (.getfield 31, 3) := by decide +kernel
theorem dX6_whence_31 : decode cX6_whence 31 = .ok (.iload_n 1, 1) := by decide +kernel
theorem dX6_whence_32 : decode cX6_whence 32 = .ok (.iload_n 2, 1) := by decide +kernel
theorem dX6_whence_33 : decode cX6_whence 33 = .ok (.invokevirtual 298, 3) := by decide +kernel
theorem dX6_whence_36 : decode cX6_whence 36 = .ok (.ireturn, 1) := by decide +kernel
theorem dX6_span_0 : decode cX6_span 0 = .ok (.iload_n 1, 1) := by decide +kernel
theorem dX6_span_1 : decode cX6_span 1 = .ok (.iconst 1, 1) := by decide +kernel
theorem dX6_span_2 : decode cX6_span 2 = .ok (.if_icmp .lt 29, 3) := by decide +kernel
theorem dX6_span_5 : decode cX6_span 5 = .ok (.iload_n 1, 1) := by decide +kernel
theorem dX6_span_6 : decode cX6_span 6 = .ok (.bipush 100, 2) := by decide +kernel
theorem dX6_span_8 : decode cX6_span 8 = .ok (.if_icmp .gt 23, 3) := by decide +kernel
theorem dX6_span_11 : decode cX6_span 11 = .ok (.iload_n 2, 1) := by decide +kernel
theorem dX6_span_12 : decode cX6_span 12 = .ok (.iconst 1, 1) := by decide +kernel
theorem dX6_span_13 : decode cX6_span 13 = .ok (.if_icmp .lt 18, 3) := by decide +kernel
theorem dX6_span_16 : decode cX6_span 16 = .ok (.iload_n 2, 1) := by decide +kernel
theorem dX6_span_17 : decode cX6_span 17 = .ok (.bipush 20, 2) := by decide +kernel
theorem dX6_span_19 : decode cX6_span 19 = .ok (.if_icmp .gt 12, 3) := by decide +kernel
theorem dX6_span_22 : decode cX6_span 22 = .ok (.iload_n 3, 1) := by decide +kernel
theorem dX6_span_23 : decode cX6_span 23 = .ok (.ifCond .lt 8, 3) := by decide +kernel
theorem dX6_span_26 : decode cX6_span 26 = .ok (.iload_n 3, 1) := by decide +kernel
theorem dX6_span_27 : decode cX6_span 27 = .ok (.iconst 1, 1) := by decide +kernel
theorem dX6_span_28 : decode cX6_span 28 = .ok (.if_icmp .le 6, 3) := by decide +kernel
theorem dX6_span_31 : decode cX6_span 31 = .ok (.ldc 70, 2) := by decide +kernel
theorem dX6_span_33 : decode cX6_span 33 = .ok (.ireturn, 1) := by decide +kernel
theorem dX6_span_34 : decode cX6_span 34 = .ok (.aload_n 0, 1) := by decide +kernel
theorem dX6_span_35 : decode cX6_span 35 = .ok (.getfield 31, 3) := by decide +kernel
theorem dX6_span_38 : decode cX6_span 38 = .ok (.getfield 103, 3) := by decide +kernel
theorem dX6_span_41 : decode cX6_span 41 = .ok (.ifCond .ne 6, 3) := by decide +kernel
theorem dX6_span_44 : decode cX6_span 44 = .ok (.ldc 194, 2) := by decide +kernel
theorem dX6_span_46 : decode cX6_span 46 = .ok (.ireturn, 1) := by decide +kernel
theorem dX6_span_47 : decode cX6_span 47 = .ok (.bipush 16, 2) := by decide +kernel
theorem dX6_span_49 : decode cX6_span 49 = .ok (.istore 4, 2) := by decide +kernel
theorem dX6_span_51 : decode cX6_span 51 = .ok (.iconst 0, 1) := by decide +kernel
theorem dX6_span_52 : decode cX6_span 52 = .ok (.istore 5, 2) := by decide +kernel
theorem dX6_span_54 : decode cX6_span 54 = .ok (.aload_n 0, 1) := by decide +kernel
theorem dX6_span_55 : decode cX6_span 55 = .ok (.getfield 31, 3) := by decide +kernel
theorem dX6_span_58 : decode cX6_span 58 = .ok (.getfield 301, 3) := by decide +kernel
theorem dX6_span_61 : decode cX6_span 61 = .ok (.istore 6, 2) := by decide +kernel
theorem dX6_span_63 : decode cX6_span 63 = .ok (.iconst 0, 1) := by decide +kernel
theorem dX6_span_64 : decode cX6_span 64 = .ok (.istore 7, 2) := by decide +kernel
theorem dX6_span_66 : decode cX6_span 66 = .ok (.iload 7, 2) := by decide +kernel
theorem dX6_span_68 : decode cX6_span 68 = .ok (.iload_n 2, 1) := by decide +kernel
theorem dX6_span_69 : decode cX6_span 69 = .ok (.if_icmp .ge 74, 3) := by decide +kernel
theorem dX6_span_72 : decode cX6_span 72 = .ok (.aload_n 0, 1) := by decide +kernel
theorem dX6_span_73 : decode cX6_span 73 = .ok (.getfield 35, 3) := by decide +kernel
theorem dX6_span_76 : decode cX6_span 76 = .ok (.aload_n 0, 1) := by decide +kernel
theorem dX6_span_77 : decode cX6_span 77 = .ok (.getfield 31, 3) := by decide +kernel
theorem dX6_span_80 : decode cX6_span 80 = .ok (.invokevirtual 252, 3) := by decide +kernel
theorem dX6_span_83 : decode cX6_span 83 = .ok (.aload_n 0, 1) := by decide +kernel
theorem dX6_span_84 : decode cX6_span 84 = .ok (.getfield 35, 3) := by decide +kernel
theorem dX6_span_87 : decode cX6_span 87 = .ok (.iload 6, 2) := by decide +kernel
theorem dX6_span_89 : decode cX6_span 89 = .ok (.putfield 301, 3) := by decide +kernel
theorem dX6_span_92 : decode cX6_span 92 = .ok (.aload_n 0, 1) := by decide +kernel
theorem dX6_span_93 : decode cX6_span 93 = .ok (.getfield 35, 3) := by decide +kernel
theorem dX6_span_96 : decode cX6_span 96 = .ok (.iload_n 1, 1) := by decide +kernel
theorem dX6_span_97 : decode cX6_span 97 = .ok (.invokevirtual 214, 3) := by decide +kernel
theorem dX6_span_100 : decode cX6_span 100 = .ok (.aload_n 0, 1) := by decide +kernel
theorem dX6_span_101 : decode cX6_span 101 = .ok (.getfield 35, 3) := by decide +kernel
theorem dX6_span_104 : decode cX6_span 104 = .ok (.getfield 301, 3) := by decide +kernel
theorem dX6_span_107 : decode cX6_span 107 = .ok (.istore 6, 2) := by decide +kernel
theorem dX6_span_109 : decode cX6_span 109 = .ok (.aload_n 0, 1) := by decide +kernel
theorem dX6_span_110 : decode cX6_span 110 = .ok (.getfield 35, 3) := by decide +kernel
theorem dX6_span_113 : decode cX6_span 113 = .ok (.iconst 0, 1) := by decide +kernel
theorem dX6_span_114 : decode cX6_span 114 = .ok (.invokevirtual 119, 3) := by decide +kernel
theorem dX6_span_117 : decode cX6_span 117 = .ok (.istore 8, 2) := by decide +kernel
theorem dX6_span_119 : decode cX6_span 119 = .ok (.iload 4, 2) := by decide +kernel
theorem dX6_span_121 : decode cX6_span 121 = .ok (.iload 8, 2) := by decide +kernel
theorem dX6_span_123 : decode cX6_span 123 = .ok (.invokestatic 304, 3) := by decide +kernel
theorem dX6_span_126 : decode cX6_span 126 = .ok (.istore 4, 2) := by decide +kernel
theorem dX6_span_128 : decode cX6_span 128 = .ok (.iload 5, 2) := by decide +kernel
theorem dX6_span_130 : decode cX6_span 130 = .ok (.iload 8, 2) := by decide +kernel
theorem dX6_span_132 : decode cX6_span 132 = .ok (.invokestatic 309, 3) := by decide +kernel
theorem dX6_span_135 : decode cX6_span 135 = .ok (.istore 5, 2) := by decide +kernel
theorem dX6_span_137 : decode cX6_span 137 = .ok (.iinc 7 1, 3) := by decide +kernel
theorem dX6_span_140 : decode cX6_span 140 = .ok (.goto (-74), 3) := by decide +kernel
theorem dX6_span_143 : decode cX6_span 143 = .ok (.iload_n 3, 1) := by decide +kernel
theorem dX6_span_144 : decode cX6_span 144 = .ok (.ifCond .ne 8, 3) := by decide +kernel
theorem dX6_span_147 : decode cX6_span 147 = .ok (.iload 4, 2) := by decide +kernel
theorem dX6_span_149 : decode cX6_span 149 = .ok (.goto 5, 3) := by decide +kernel
theorem dX6_span_152 : decode cX6_span 152 = .ok (.iload 5, 2) := by decide +kernel
theorem dX6_span_154 : decode cX6_span 154 = .ok (.ireturn, 1) := by decide +kernel
theorem dX6_note_0 : decode cX6_note 0 = .ok (.iload_n 1, 1) := by decide +kernel
theorem dX6_note_1 : decode cX6_note 1 = .ok (.ifCond .lt 9, 3) := by decide +kernel
theorem dX6_note_4 : decode cX6_note 4 = .ok (.iload_n 1, 1) := by decide +kernel
theorem dX6_note_5 : decode cX6_note 5 = .ok (.bipush 16, 2) := by decide +kernel
theorem dX6_note_7 : decode cX6_note 7 = .ok (.if_icmp .le 6, 3) := by decide +kernel
theorem dX6_note_10 : decode cX6_note 10 = .ok (.ldc 70, 2) := by decide +kernel
theorem dX6_note_12 : decode cX6_note 12 = .ok (.ireturn, 1) := by decide +kernel
theorem dX6_note_13 : decode cX6_note 13 = .ok (.aload_n 0, 1) := by decide +kernel
theorem dX6_note_14 : decode cX6_note 14 = .ok (.getfield 64, 3) := by decide +kernel
theorem dX6_note_17 : decode cX6_note 17 = .ok (.bipush 60, 2) := by decide +kernel
theorem dX6_note_19 : decode cX6_note 19 = .ok (.if_icmp .lt 6, 3) := by decide +kernel
theorem dX6_note_22 : decode cX6_note 22 = .ok (.ldc 74, 2) := by decide +kernel
theorem dX6_note_24 : decode cX6_note 24 = .ok (.ireturn, 1) := by decide +kernel
theorem dX6_note_25 : decode cX6_note 25 = .ok (.aload_n 0, 1) := by decide +kernel
theorem dX6_note_26 : decode cX6_note 26 = .ok (.getfield 60, 3) := by decide +kernel
theorem dX6_note_29 : decode cX6_note 29 = .ok (.aload_n 0, 1) := by decide +kernel
theorem dX6_note_30 : decode cX6_note 30 = .ok (.getfield 64, 3) := by decide +kernel
theorem dX6_note_33 : decode cX6_note 33 = .ok (.iload_n 1, 1) := by decide +kernel
theorem dX6_note_34 : decode cX6_note 34 = .ok (.iastore, 1) := by decide +kernel
theorem dX6_note_35 : decode cX6_note 35 = .ok (.aload_n 0, 1) := by decide +kernel
theorem dX6_note_36 : decode cX6_note 36 = .ok (.dup, 1) := by decide +kernel
theorem dX6_note_37 : decode cX6_note 37 = .ok (.getfield 64, 3) := by decide +kernel
theorem dX6_note_40 : decode cX6_note 40 = .ok (.iconst 1, 1) := by decide +kernel
theorem dX6_note_41 : decode cX6_note 41 = .ok (.iadd, 1) := by decide +kernel
theorem dX6_note_42 : decode cX6_note 42 = .ok (.putfield 64, 3) := by decide +kernel
theorem dX6_note_45 : decode cX6_note 45 = .ok (.aload_n 0, 1) := by decide +kernel
theorem dX6_note_46 : decode cX6_note 46 = .ok (.getfield 64, 3) := by decide +kernel
theorem dX6_note_49 : decode cX6_note 49 = .ok (.ireturn, 1) := by decide +kernel
theorem dX6_tear_0 : decode cX6_tear 0 = .ok (.aload_n 0, 1) := by decide +kernel
theorem dX6_tear_1 : decode cX6_tear 1 = .ok (.getfield 64, 3) := by decide +kernel
theorem dX6_tear_4 : decode cX6_tear 4 = .ok (.istore_n 1, 1) := by decide +kernel
theorem dX6_tear_5 : decode cX6_tear 5 = .ok (.aload_n 0, 1) := by decide +kernel
theorem dX6_tear_6 : decode cX6_tear 6 = .ok (.iconst 0, 1) := by decide +kernel
theorem dX6_tear_7 : decode cX6_tear 7 = .ok (.putfield 64, 3) := by decide +kernel
theorem dX6_tear_10 : decode cX6_tear 10 = .ok (.iload_n 1, 1) := by decide +kernel
theorem dX6_tear_11 : decode cX6_tear 11 = .ok (.ireturn, 1) := by decide +kernel
theorem dX6_judge_0 : decode cX6_judge 0 = .ok (.iconst 0, 1) := by decide +kernel
theorem dX6_judge_1 : decode cX6_judge 1 = .ok (.istore_n 1, 1) := by decide +kernel
theorem dX6_judge_2 : decode cX6_judge 2 = .ok (.iload_n 1, 1) := by decide +kernel
theorem dX6_judge_3 : decode cX6_judge 3 = .ok (.aload_n 0, 1) := by decide +kernel
theorem dX6_judge_4 : decode cX6_judge 4 = .ok (.getfield 64, 3) := by decide +kernel
theorem dX6_judge_7 : decode cX6_judge 7 = .ok (.if_icmp .ge 28, 3) := by decide +kernel
theorem dX6_judge_10 : decode cX6_judge 10 = .ok (.aload_n 0, 1) := by decide +kernel
theorem dX6_judge_11 : decode cX6_judge 11 = .ok (.getfield 60, 3) := by decide +kernel
theorem dX6_judge_14 : decode cX6_judge 14 = .ok (.iload_n 1, 1) := by decide +kernel
theorem dX6_judge_15 : decode cX6_judge 15 = .ok (.iaload, 1) := by decide +kernel
theorem dX6_judge_16 : decode cX6_judge 16 = .ok (.aload_n 0, 1) := by decide +kernel
theorem dX6_judge_17 : decode cX6_judge 17 = .ok (.getfield 31, 3) := by decide +kernel
theorem dX6_judge_20 : decode cX6_judge 20 = .ok (.iload_n 1, 1) := by decide +kernel
theorem dX6_judge_21 : decode cX6_judge 21 = .ok (.invokevirtual 119, 3) := by decide +kernel
theorem dX6_judge_24 : decode cX6_judge 24 = .ok (.if_icmp .eq 5, 3) := by decide +kernel
theorem dX6_judge_27 : decode cX6_judge 27 = .ok (.iload_n 1, 1) := by decide +kernel
theorem dX6_judge_28 : decode cX6_judge 28 = .ok (.ireturn, 1) := by decide +kernel
theorem dX6_judge_29 : decode cX6_judge 29 = .ok (.iinc 1 1, 3) := by decide +kernel
theorem dX6_judge_32 : decode cX6_judge 32 = .ok (.goto (-30), 3) := by decide +kernel
theorem dX6_judge_35 : decode cX6_judge 35 = .ok (.iconst (-1), 1) := by decide +kernel
theorem dX6_judge_36 : decode cX6_judge 36 = .ok (.ireturn, 1) := by decide +kernel
theorem dX6_seed_0 : decode cX6_seed 0 = .ok (.iload_n 1, 1) := by decide +kernel
theorem dX6_seed_1 : decode cX6_seed 1 = .ok (.ifCond .ge 6, 3) := by decide +kernel
theorem dX6_seed_4 : decode cX6_seed 4 = .ok (.ldc 70, 2) := by decide +kernel
theorem dX6_seed_6 : decode cX6_seed 6 = .ok (.ireturn, 1) := by decide +kernel
theorem dX6_seed_7 : decode cX6_seed 7 = .ok (.aload_n 0, 1) := by decide +kernel
theorem dX6_seed_8 : decode cX6_seed 8 = .ok (.getfield 31, 3) := by decide +kernel
theorem dX6_seed_11 : decode cX6_seed 11 = .ok (.getfield 301, 3) := by decide +kernel
theorem dX6_seed_14 : decode cX6_seed 14 = .ok (.istore_n 2, 1) := by decide +kernel
theorem dX6_seed_15 : decode cX6_seed 15 = .ok (.aload_n 0, 1) := by decide +kernel
theorem dX6_seed_16 : decode cX6_seed 16 = .ok (.getfield 31, 3) := by decide +kernel
theorem dX6_seed_19 : decode cX6_seed 19 = .ok (.iload_n 1, 1) := by decide +kernel
theorem dX6_seed_20 : decode cX6_seed 20 = .ok (.putfield 301, 3) := by decide +kernel
theorem dX6_seed_23 : decode cX6_seed 23 = .ok (.iload_n 2, 1) := by decide +kernel
theorem dX6_seed_24 : decode cX6_seed 24 = .ok (.ireturn, 1) := by decide +kernel
theorem dX6_keep_0 : decode cX6_keep 0 = .ok (.iload_n 1, 1) := by decide +kernel
theorem dX6_keep_1 : decode cX6_keep 1 = .ok (.ifCond .lt 8, 3) := by decide +kernel
theorem dX6_keep_4 : decode cX6_keep 4 = .ok (.iload_n 1, 1) := by decide +kernel
theorem dX6_keep_5 : decode cX6_keep 5 = .ok (.iconst 2, 1) := by decide +kernel
theorem dX6_keep_6 : decode cX6_keep 6 = .ok (.if_icmp .lt 6, 3) := by decide +kernel
theorem dX6_keep_9 : decode cX6_keep 9 = .ok (.ldc 127, 2) := by decide +kernel
theorem dX6_keep_11 : decode cX6_keep 11 = .ok (.ireturn, 1) := by decide +kernel
theorem dX6_keep_12 : decode cX6_keep 12 = .ok (.aload_n 0, 1) := by decide +kernel
theorem dX6_keep_13 : decode cX6_keep 13 = .ok (.getfield 38, 3) := by decide +kernel
theorem dX6_keep_16 : decode cX6_keep 16 = .ok (.iload_n 1, 1) := by decide +kernel
theorem dX6_keep_17 : decode cX6_keep 17 = .ok (.aaload, 1) := by decide +kernel
theorem dX6_keep_18 : decode cX6_keep 18 = .ok (.aload_n 0, 1) := by decide +kernel
theorem dX6_keep_19 : decode cX6_keep 19 = .ok (.getfield 31, 3) := by decide +kernel
theorem dX6_keep_22 : decode cX6_keep 22 = .ok (.invokevirtual 312, 3) := by decide +kernel
theorem dX6_keep_25 : decode cX6_keep 25 = .ok (.aload_n 0, 1) := by decide +kernel
theorem dX6_keep_26 : decode cX6_keep 26 = .ok (.dup, 1) := by decide +kernel
theorem dX6_keep_27 : decode cX6_keep 27 = .ok (.getfield 42, 3) := by decide +kernel
theorem dX6_keep_30 : decode cX6_keep 30 = .ok (.iconst 1, 1) := by decide +kernel
theorem dX6_keep_31 : decode cX6_keep 31 = .ok (.iload_n 1, 1) := by decide +kernel
theorem dX6_keep_32 : decode cX6_keep 32 = .ok (.ishl, 1) := by decide +kernel
theorem dX6_keep_33 : decode cX6_keep 33 = .ok (.ior, 1) := by decide +kernel
theorem dX6_keep_34 : decode cX6_keep 34 = .ok (.putfield 42, 3) := by decide +kernel
theorem dX6_keep_37 : decode cX6_keep 37 = .ok (.iconst 1, 1) := by decide +kernel
theorem dX6_keep_38 : decode cX6_keep 38 = .ok (.ireturn, 1) := by decide +kernel
theorem dX6_goBack_0 : decode cX6_goBack 0 = .ok (.iload_n 1, 1) := by decide +kernel
theorem dX6_goBack_1 : decode cX6_goBack 1 = .ok (.ifCond .lt 8, 3) := by decide +kernel
theorem dX6_goBack_4 : decode cX6_goBack 4 = .ok (.iload_n 1, 1) := by decide +kernel
theorem dX6_goBack_5 : decode cX6_goBack 5 = .ok (.iconst 2, 1) := by decide +kernel
theorem dX6_goBack_6 : decode cX6_goBack 6 = .ok (.if_icmp .lt 6, 3) := by decide +kernel
theorem dX6_goBack_9 : decode cX6_goBack 9 = .ok (.ldc 127, 2) := by decide +kernel
theorem dX6_goBack_11 : decode cX6_goBack 11 = .ok (.ireturn, 1) := by decide +kernel
theorem dX6_goBack_12 : decode cX6_goBack 12 = .ok (.aload_n 0, 1) := by decide +kernel
theorem dX6_goBack_13 : decode cX6_goBack 13 = .ok (.getfield 42, 3) := by decide +kernel
theorem dX6_goBack_16 : decode cX6_goBack 16 = .ok (.iload_n 1, 1) := by decide +kernel
theorem dX6_goBack_17 : decode cX6_goBack 17 = .ok (.invokestatic 265, 3) := by decide +kernel
theorem dX6_goBack_20 : decode cX6_goBack 20 = .ok (.ifCond .ne 6, 3) := by decide +kernel
theorem dX6_goBack_23 : decode cX6_goBack 23 = .ok (.ldc 194, 2) := by decide +kernel
theorem dX6_goBack_25 : decode cX6_goBack 25 = .ok (.ireturn, 1) := by decide +kernel
theorem dX6_goBack_26 : decode cX6_goBack 26 = .ok (.aload_n 0, 1) := by decide +kernel
theorem dX6_goBack_27 : decode cX6_goBack 27 = .ok (.getfield 31, 3) := by decide +kernel
theorem dX6_goBack_30 : decode cX6_goBack 30 = .ok (.aload_n 0, 1) := by decide +kernel
theorem dX6_goBack_31 : decode cX6_goBack 31 = .ok (.getfield 38, 3) := by decide +kernel
theorem dX6_goBack_34 : decode cX6_goBack 34 = .ok (.iload_n 1, 1) := by decide +kernel
theorem dX6_goBack_35 : decode cX6_goBack 35 = .ok (.aaload, 1) := by decide +kernel
theorem dX6_goBack_36 : decode cX6_goBack 36 = .ok (.invokevirtual 312, 3) := by decide +kernel
theorem dX6_goBack_39 : decode cX6_goBack 39 = .ok (.iconst 1, 1) := by decide +kernel
theorem dX6_goBack_40 : decode cX6_goBack 40 = .ok (.ireturn, 1) := by decide +kernel
theorem dX6_has_0 : decode cX6_has 0 = .ok (.iload_n 0, 1) := by decide +kernel
theorem dX6_has_1 : decode cX6_has 1 = .ok (.iload_n 1, 1) := by decide +kernel
theorem dX6_has_2 : decode cX6_has 2 = .ok (.iushr, 1) := by decide +kernel
theorem dX6_has_3 : decode cX6_has 3 = .ok (.iconst 1, 1) := by decide +kernel
theorem dX6_has_4 : decode cX6_has 4 = .ok (.iand, 1) := by decide +kernel
theorem dX6_has_5 : decode cX6_has 5 = .ok (.iconst 1, 1) := by decide +kernel
theorem dX6_has_6 : decode cX6_has 6 = .ok (.if_icmp .ne 7, 3) := by decide +kernel
theorem dX6_has_9 : decode cX6_has 9 = .ok (.iconst 1, 1) := by decide +kernel
theorem dX6_has_10 : decode cX6_has 10 = .ok (.goto 4, 3) := by decide +kernel
theorem dX6_has_13 : decode cX6_has 13 = .ok (.iconst 0, 1) := by decide +kernel
theorem dX6_has_14 : decode cX6_has 14 = .ok (.ireturn, 1) := by decide +kernel
theorem dX6_isSetOf_0 : decode cX6_isSetOf 0 = .ok (.iload_n 0, 1) := by decide +kernel
theorem dX6_isSetOf_1 : decode cX6_isSetOf 1 = .ok (.iload_n 1, 1) := by decide +kernel
theorem dX6_isSetOf_2 : decode cX6_isSetOf 2 = .ok (.iushr, 1) := by decide +kernel
theorem dX6_isSetOf_3 : decode cX6_isSetOf 3 = .ok (.ifCond .ne 7, 3) := by decide +kernel
theorem dX6_isSetOf_6 : decode cX6_isSetOf 6 = .ok (.iconst 1, 1) := by decide +kernel
theorem dX6_isSetOf_7 : decode cX6_isSetOf 7 = .ok (.goto 4, 3) := by decide +kernel
theorem dX6_isSetOf_10 : decode cX6_isSetOf 10 = .ok (.iconst 0, 1) := by decide +kernel
theorem dX6_isSetOf_11 : decode cX6_isSetOf 11 = .ok (.ireturn, 1) := by decide +kernel
