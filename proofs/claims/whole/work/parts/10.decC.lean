theorem dX0_clear_0 : decode cX0_clear 0 = .ok (.aload_n 0, 1) := by decide +kernel
theorem dX0_clear_1 : decode cX0_clear 1 = .ok (.iconst 0, 1) := by decide +kernel
theorem dX0_clear_2 : decode cX0_clear 2 = .ok (.putfield 7, 3) := by decide +kernel
theorem dX0_clear_5 : decode cX0_clear 5 = .ok (.aload_n 0, 1) := by decide +kernel
theorem dX0_clear_6 : decode cX0_clear 6 = .ok (.iconst 0, 1) := by decide +kernel
theorem dX0_clear_7 : decode cX0_clear 7 = .ok (.putfield 13, 3) := by decide +kernel
theorem dX0_clear_10 : decode cX0_clear 10 = .ok (.aload_n 0, 1) := by decide +kernel
theorem dX0_clear_11 : decode cX0_clear 11 = .ok (.iconst 0, 1) := by decide +kernel
theorem dX0_clear_12 : decode cX0_clear 12 = .ok (.putfield 16, 3) := by decide +kernel
theorem dX0_clear_15 : decode cX0_clear 15 = .ok (.return_, 1) := by decide +kernel
theorem dX0_addLine_0 : decode cX0_addLine 0 = .ok (.aload_n 0, 1) := by decide +kernel
theorem dX0_addLine_1 : decode cX0_addLine 1 = .ok (.dup, 1) := by decide +kernel
theorem dX0_addLine_2 : decode cX0_addLine 2 = .ok (.getfield 7, 3) := by decide +kernel
theorem dX0_addLine_5 : decode cX0_addLine 5 = .ok (.iload_n 2, 1) := by decide +kernel
theorem dX0_addLine_6 : decode cX0_addLine 6 = .ok (.ior, 1) := by decide +kernel
theorem dX0_addLine_7 : decode cX0_addLine 7 = .ok (.putfield 7, 3) := by decide +kernel
theorem dX0_addLine_10 : decode cX0_addLine 10 = .ok (.aload_n 0, 1) := by decide +kernel
theorem dX0_addLine_11 : decode cX0_addLine 11 = .ok (.dup, 1) := by decide +kernel
theorem dX0_addLine_12 : decode cX0_addLine 12 = .ok (.getfield 13, 3) := by decide +kernel
theorem dX0_addLine_15 : decode cX0_addLine 15 = .ok (.iload_n 3, 1) := by decide +kernel
theorem dX0_addLine_16 : decode cX0_addLine 16 = .ok (.iadd, 1) := by decide +kernel
theorem dX0_addLine_17 : decode cX0_addLine 17 = .ok (.putfield 13, 3) := by decide +kernel
theorem dX0_addLine_20 : decode cX0_addLine 20 = .ok (.aload_n 0, 1) := by decide +kernel
theorem dX0_addLine_21 : decode cX0_addLine 21 = .ok (.dup, 1) := by decide +kernel
theorem dX0_addLine_22 : decode cX0_addLine 22 = .ok (.getfield 16, 3) := by decide +kernel
theorem dX0_addLine_25 : decode cX0_addLine 25 = .ok (.iload 4, 2) := by decide +kernel
theorem dX0_addLine_27 : decode cX0_addLine 27 = .ok (.ifCond .eq 7, 3) := by decide +kernel
theorem dX0_addLine_30 : decode cX0_addLine 30 = .ok (.iconst 0, 1) := by decide +kernel
theorem dX0_addLine_31 : decode cX0_addLine 31 = .ok (.goto 6, 3) := by decide +kernel
theorem dX0_addLine_34 : decode cX0_addLine 34 = .ok (.iconst 1, 1) := by decide +kernel
theorem dX0_addLine_35 : decode cX0_addLine 35 = .ok (.iload_n 1, 1) := by decide +kernel
theorem dX0_addLine_36 : decode cX0_addLine 36 = .ok (.ishl, 1) := by decide +kernel
theorem dX0_addLine_37 : decode cX0_addLine 37 = .ok (.ior, 1) := by decide +kernel
theorem dX0_addLine_38 : decode cX0_addLine 38 = .ok (.putfield 16, 3) := by decide +kernel
theorem dX0_addLine_41 : decode cX0_addLine 41 = .ok (.return_, 1) := by decide +kernel
theorem dX1_clear_0 : decode cX1_clear 0 = .ok (.aload_n 0, 1) := by decide +kernel
theorem dX1_clear_1 : decode cX1_clear 1 = .ok (.iconst 0, 1) := by decide +kernel
theorem dX1_clear_2 : decode cX1_clear 2 = .ok (.putfield 24, 3) := by decide +kernel
theorem dX1_clear_5 : decode cX1_clear 5 = .ok (.aload_n 0, 1) := by decide +kernel
theorem dX1_clear_6 : decode cX1_clear 6 = .ok (.iconst 0, 1) := by decide +kernel
theorem dX1_clear_7 : decode cX1_clear 7 = .ok (.putfield 28, 3) := by decide +kernel
theorem dX1_clear_10 : decode cX1_clear 10 = .ok (.aload_n 0, 1) := by decide +kernel
theorem dX1_clear_11 : decode cX1_clear 11 = .ok (.bipush 10, 2) := by decide +kernel
theorem dX1_clear_13 : decode cX1_clear 13 = .ok (.putfield 31, 3) := by decide +kernel
theorem dX1_clear_16 : decode cX1_clear 16 = .ok (.aload_n 0, 1) := by decide +kernel
theorem dX1_clear_17 : decode cX1_clear 17 = .ok (.iconst 0, 1) := by decide +kernel
theorem dX1_clear_18 : decode cX1_clear 18 = .ok (.putfield 34, 3) := by decide +kernel
theorem dX1_clear_21 : decode cX1_clear 21 = .ok (.return_, 1) := by decide +kernel
theorem dX1_copyFrom_0 : decode cX1_copyFrom 0 = .ok (.aload_n 1, 1) := by decide +kernel
theorem dX1_copyFrom_1 : decode cX1_copyFrom 1 = .ok (.getfield 9, 3) := by decide +kernel
theorem dX1_copyFrom_4 : decode cX1_copyFrom 4 = .ok (.iconst 0, 1) := by decide +kernel
theorem dX1_copyFrom_5 : decode cX1_copyFrom 5 = .ok (.aload_n 0, 1) := by decide +kernel
theorem dX1_copyFrom_6 : decode cX1_copyFrom 6 = .ok (.getfield 9, 3) := by decide +kernel
theorem dX1_copyFrom_9 : decode cX1_copyFrom 9 = .ok (.iconst 0, 1) := by decide +kernel
theorem dX1_copyFrom_10 : decode cX1_copyFrom 10 = .ok (.bipush 16, 2) := by decide +kernel
theorem dX1_copyFrom_12 : decode cX1_copyFrom 12 = .ok (.invokestatic 38, 3) := by decide +kernel
theorem dX1_copyFrom_15 : decode cX1_copyFrom 15 = .ok (.aload_n 1, 1) := by decide +kernel
theorem dX1_copyFrom_16 : decode cX1_copyFrom 16 = .ok (.getfield 15, 3) := by decide +kernel
theorem dX1_copyFrom_19 : decode cX1_copyFrom 19 = .ok (.iconst 0, 1) := by decide +kernel
theorem dX1_copyFrom_20 : decode cX1_copyFrom 20 = .ok (.aload_n 0, 1) := by decide +kernel
theorem dX1_copyFrom_21 : decode cX1_copyFrom 21 = .ok (.getfield 15, 3) := by decide +kernel
theorem dX1_copyFrom_24 : decode cX1_copyFrom 24 = .ok (.iconst 0, 1) := by decide +kernel
theorem dX1_copyFrom_25 : decode cX1_copyFrom 25 = .ok (.bipush 16, 2) := by decide +kernel
theorem dX1_copyFrom_27 : decode cX1_copyFrom 27 = .ok (.invokestatic 38, 3) := by decide +kernel
theorem dX1_copyFrom_30 : decode cX1_copyFrom 30 = .ok (.aload_n 1, 1) := by decide +kernel
theorem dX1_copyFrom_31 : decode cX1_copyFrom 31 = .ok (.getfield 18, 3) := by decide +kernel
theorem dX1_copyFrom_34 : decode cX1_copyFrom 34 = .ok (.iconst 0, 1) := by decide +kernel
theorem dX1_copyFrom_35 : decode cX1_copyFrom 35 = .ok (.aload_n 0, 1) := by decide +kernel
theorem dX1_copyFrom_36 : decode cX1_copyFrom 36 = .ok (.getfield 18, 3) := by decide +kernel
theorem dX1_copyFrom_39 : decode cX1_copyFrom 39 = .ok (.iconst 0, 1) := by decide +kernel
theorem dX1_copyFrom_40 : decode cX1_copyFrom 40 = .ok (.bipush 8, 2) := by decide +kernel
theorem dX1_copyFrom_42 : decode cX1_copyFrom 42 = .ok (.invokestatic 38, 3) := by decide +kernel
theorem dX1_copyFrom_45 : decode cX1_copyFrom 45 = .ok (.aload_n 1, 1) := by decide +kernel
theorem dX1_copyFrom_46 : decode cX1_copyFrom 46 = .ok (.getfield 21, 3) := by decide +kernel
theorem dX1_copyFrom_49 : decode cX1_copyFrom 49 = .ok (.iconst 0, 1) := by decide +kernel
theorem dX1_copyFrom_50 : decode cX1_copyFrom 50 = .ok (.aload_n 0, 1) := by decide +kernel
theorem dX1_copyFrom_51 : decode cX1_copyFrom 51 = .ok (.getfield 21, 3) := by decide +kernel
theorem dX1_copyFrom_54 : decode cX1_copyFrom 54 = .ok (.iconst 0, 1) := by decide +kernel
theorem dX1_copyFrom_55 : decode cX1_copyFrom 55 = .ok (.bipush 8, 2) := by decide +kernel
theorem dX1_copyFrom_57 : decode cX1_copyFrom 57 = .ok (.invokestatic 38, 3) := by decide +kernel
theorem dX1_copyFrom_60 : decode cX1_copyFrom 60 = .ok (.aload_n 0, 1) := by decide +kernel
theorem dX1_copyFrom_61 : decode cX1_copyFrom 61 = .ok (.aload_n 1, 1) := by decide +kernel
theorem dX1_copyFrom_62 : decode cX1_copyFrom 62 = .ok (.getfield 24, 3) := by decide +kernel
theorem dX1_copyFrom_65 : decode cX1_copyFrom 65 = .ok (.putfield 24, 3) := by decide +kernel
theorem dX1_copyFrom_68 : decode cX1_copyFrom 68 = .ok (.aload_n 0, 1) := by decide +kernel
theorem dX1_copyFrom_69 : decode cX1_copyFrom 69 = .ok (.aload_n 1, 1) := by decide +kernel
theorem dX1_copyFrom_70 : decode cX1_copyFrom 70 = .ok (.getfield 28, 3) := by decide +kernel
theorem dX1_copyFrom_73 : decode cX1_copyFrom 73 = .ok (.putfield 28, 3) := by decide +kernel
theorem dX1_copyFrom_76 : decode cX1_copyFrom 76 = .ok (.aload_n 0, 1) := by decide +kernel
theorem dX1_copyFrom_77 : decode cX1_copyFrom 77 = .ok (.aload_n 1, 1) := by decide +kernel
theorem dX1_copyFrom_78 : decode cX1_copyFrom 78 = .ok (.getfield 31, 3) := by decide +kernel
theorem dX1_copyFrom_81 : decode cX1_copyFrom 81 = .ok (.putfield 31, 3) := by decide +kernel
theorem dX1_copyFrom_84 : decode cX1_copyFrom 84 = .ok (.aload_n 0, 1) := by decide +kernel
theorem dX1_copyFrom_85 : decode cX1_copyFrom 85 = .ok (.aload_n 1, 1) := by decide +kernel
theorem dX1_copyFrom_86 : decode cX1_copyFrom 86 = .ok (.getfield 34, 3) := by decide +kernel
theorem dX1_copyFrom_89 : decode cX1_copyFrom 89 = .ok (.putfield 34, 3) := by decide +kernel
theorem dX1_copyFrom_92 : decode cX1_copyFrom 92 = .ok (.return_, 1) := by decide +kernel
theorem dX1_addLine_0 : decode cX1_addLine 0 = .ok (.aload_n 0, 1) := by decide +kernel
theorem dX1_addLine_1 : decode cX1_addLine 1 = .ok (.getfield 24, 3) := by decide +kernel
theorem dX1_addLine_4 : decode cX1_addLine 4 = .ok (.bipush 16, 2) := by decide +kernel
theorem dX1_addLine_6 : decode cX1_addLine 6 = .ok (.if_icmp .ge 33, 3) := by decide +kernel
theorem dX1_addLine_9 : decode cX1_addLine 9 = .ok (.aload_n 0, 1) := by decide +kernel
theorem dX1_addLine_10 : decode cX1_addLine 10 = .ok (.getfield 9, 3) := by decide +kernel
theorem dX1_addLine_13 : decode cX1_addLine 13 = .ok (.aload_n 0, 1) := by decide +kernel
theorem dX1_addLine_14 : decode cX1_addLine 14 = .ok (.getfield 24, 3) := by decide +kernel
theorem dX1_addLine_17 : decode cX1_addLine 17 = .ok (.iload_n 1, 1) := by decide +kernel
theorem dX1_addLine_18 : decode cX1_addLine 18 = .ok (.iastore, 1) := by decide +kernel
theorem dX1_addLine_19 : decode cX1_addLine 19 = .ok (.aload_n 0, 1) := by decide +kernel
theorem dX1_addLine_20 : decode cX1_addLine 20 = .ok (.getfield 15, 3) := by decide +kernel
theorem dX1_addLine_23 : decode cX1_addLine 23 = .ok (.aload_n 0, 1) := by decide +kernel
theorem dX1_addLine_24 : decode cX1_addLine 24 = .ok (.getfield 24, 3) := by decide +kernel
theorem dX1_addLine_27 : decode cX1_addLine 27 = .ok (.iload_n 2, 1) := by decide +kernel
theorem dX1_addLine_28 : decode cX1_addLine 28 = .ok (.iastore, 1) := by decide +kernel
theorem dX1_addLine_29 : decode cX1_addLine 29 = .ok (.aload_n 0, 1) := by decide +kernel
theorem dX1_addLine_30 : decode cX1_addLine 30 = .ok (.dup, 1) := by decide +kernel
theorem dX1_addLine_31 : decode cX1_addLine 31 = .ok (.getfield 24, 3) := by decide +kernel
theorem dX1_addLine_34 : decode cX1_addLine 34 = .ok (.iconst 1, 1) := by decide +kernel
theorem dX1_addLine_35 : decode cX1_addLine 35 = .ok (.iadd, 1) := by decide +kernel
theorem dX1_addLine_36 : decode cX1_addLine 36 = .ok (.putfield 24, 3) := by decide +kernel
theorem dX1_addLine_39 : decode cX1_addLine 39 = .ok (.return_, 1) := by decide +kernel
theorem dX1_addReader_0 : decode cX1_addReader 0 = .ok (.aload_n 0, 1) := by decide +kernel
theorem dX1_addReader_1 : decode cX1_addReader 1 = .ok (.getfield 28, 3) := by decide +kernel
theorem dX1_addReader_4 : decode cX1_addReader 4 = .ok (.bipush 8, 2) := by decide +kernel
theorem dX1_addReader_6 : decode cX1_addReader 6 = .ok (.if_icmp .ge 33, 3) := by decide +kernel
theorem dX1_addReader_9 : decode cX1_addReader 9 = .ok (.aload_n 0, 1) := by decide +kernel
theorem dX1_addReader_10 : decode cX1_addReader 10 = .ok (.getfield 18, 3) := by decide +kernel
theorem dX1_addReader_13 : decode cX1_addReader 13 = .ok (.aload_n 0, 1) := by decide +kernel
theorem dX1_addReader_14 : decode cX1_addReader 14 = .ok (.getfield 28, 3) := by decide +kernel
theorem dX1_addReader_17 : decode cX1_addReader 17 = .ok (.iload_n 1, 1) := by decide +kernel
theorem dX1_addReader_18 : decode cX1_addReader 18 = .ok (.iastore, 1) := by decide +kernel
theorem dX1_addReader_19 : decode cX1_addReader 19 = .ok (.aload_n 0, 1) := by decide +kernel
theorem dX1_addReader_20 : decode cX1_addReader 20 = .ok (.getfield 21, 3) := by decide +kernel
theorem dX1_addReader_23 : decode cX1_addReader 23 = .ok (.aload_n 0, 1) := by decide +kernel
theorem dX1_addReader_24 : decode cX1_addReader 24 = .ok (.getfield 28, 3) := by decide +kernel
theorem dX1_addReader_27 : decode cX1_addReader 27 = .ok (.iload_n 2, 1) := by decide +kernel
theorem dX1_addReader_28 : decode cX1_addReader 28 = .ok (.iastore, 1) := by decide +kernel
theorem dX1_addReader_29 : decode cX1_addReader 29 = .ok (.aload_n 0, 1) := by decide +kernel
theorem dX1_addReader_30 : decode cX1_addReader 30 = .ok (.dup, 1) := by decide +kernel
theorem dX1_addReader_31 : decode cX1_addReader 31 = .ok (.getfield 28, 3) := by decide +kernel
theorem dX1_addReader_34 : decode cX1_addReader 34 = .ok (.iconst 1, 1) := by decide +kernel
theorem dX1_addReader_35 : decode cX1_addReader 35 = .ok (.iadd, 1) := by decide +kernel
theorem dX1_addReader_36 : decode cX1_addReader 36 = .ok (.putfield 28, 3) := by decide +kernel
theorem dX1_addReader_39 : decode cX1_addReader 39 = .ok (.return_, 1) := by decide +kernel
theorem dX1_tellError_0 : decode cX1_tellError 0 = .ok (.aload_n 0, 1) := by decide +kernel
theorem dX1_tellError_1 : decode cX1_tellError 1 = .ok (.iload_n 1, 1) := by decide +kernel
theorem dX1_tellError_2 : decode cX1_tellError 2 = .ok (.putfield 31, 3) := by decide +kernel
theorem dX1_tellError_5 : decode cX1_tellError 5 = .ok (.aload_n 0, 1) := by decide +kernel
theorem dX1_tellError_6 : decode cX1_tellError 6 = .ok (.iconst 1, 1) := by decide +kernel
theorem dX1_tellError_7 : decode cX1_tellError 7 = .ok (.putfield 34, 3) := by decide +kernel
theorem dX1_tellError_10 : decode cX1_tellError 10 = .ok (.return_, 1) := by decide +kernel
theorem dX1_hasLine_0 : decode cX1_hasLine 0 = .ok (.iload_n 1, 1) := by decide +kernel
theorem dX1_hasLine_1 : decode cX1_hasLine 1 = .ok (.ifCond .lt 15, 3) := by decide +kernel
theorem dX1_hasLine_4 : decode cX1_hasLine 4 = .ok (.iload_n 1, 1) := by decide +kernel
theorem dX1_hasLine_5 : decode cX1_hasLine 5 = .ok (.aload_n 0, 1) := by decide +kernel
theorem dX1_hasLine_6 : decode cX1_hasLine 6 = .ok (.getfield 24, 3) := by decide +kernel
theorem dX1_hasLine_9 : decode cX1_hasLine 9 = .ok (.if_icmp .ge 7, 3) := by decide +kernel
theorem dX1_hasLine_12 : decode cX1_hasLine 12 = .ok (.iconst 1, 1) := by decide +kernel
theorem dX1_hasLine_13 : decode cX1_hasLine 13 = .ok (.goto 4, 3) := by decide +kernel
theorem dX1_hasLine_16 : decode cX1_hasLine 16 = .ok (.iconst 0, 1) := by decide +kernel
theorem dX1_hasLine_17 : decode cX1_hasLine 17 = .ok (.ireturn, 1) := by decide +kernel
theorem dX1_hasReader_0 : decode cX1_hasReader 0 = .ok (.iload_n 1, 1) := by decide +kernel
theorem dX1_hasReader_1 : decode cX1_hasReader 1 = .ok (.ifCond .lt 15, 3) := by decide +kernel
theorem dX1_hasReader_4 : decode cX1_hasReader 4 = .ok (.iload_n 1, 1) := by decide +kernel
theorem dX1_hasReader_5 : decode cX1_hasReader 5 = .ok (.aload_n 0, 1) := by decide +kernel
theorem dX1_hasReader_6 : decode cX1_hasReader 6 = .ok (.getfield 28, 3) := by decide +kernel
theorem dX1_hasReader_9 : decode cX1_hasReader 9 = .ok (.if_icmp .ge 7, 3) := by decide +kernel
theorem dX1_hasReader_12 : decode cX1_hasReader 12 = .ok (.iconst 1, 1) := by decide +kernel
theorem dX1_hasReader_13 : decode cX1_hasReader 13 = .ok (.goto 4, 3) := by decide +kernel
theorem dX1_hasReader_16 : decode cX1_hasReader 16 = .ok (.iconst 0, 1) := by decide +kernel
theorem dX1_hasReader_17 : decode cX1_hasReader 17 = .ok (.ireturn, 1) := by decide +kernel
theorem dX1_readersOfKind_0 : decode cX1_readersOfKind 0 = .ok (.iconst 0, 1) := by decide +kernel
theorem dX1_readersOfKind_1 : decode cX1_readersOfKind 1 = .ok (.istore_n 2, 1) := by decide +kernel
theorem dX1_readersOfKind_2 : decode cX1_readersOfKind 2 = .ok (.iconst 0, 1) := by decide +kernel
theorem dX1_readersOfKind_3 : decode cX1_readersOfKind 3 = .ok (.istore_n 3, 1) := by decide +kernel
theorem dX1_readersOfKind_4 : decode cX1_readersOfKind 4 = .ok (.iload_n 3, 1) := by decide +kernel
theorem dX1_readersOfKind_5 : decode cX1_readersOfKind 5 = .ok (.aload_n 0, 1) := by decide +kernel
theorem dX1_readersOfKind_6 : decode cX1_readersOfKind 6 = .ok (.getfield 28, 3) := by decide +kernel
theorem dX1_readersOfKind_9 : decode cX1_readersOfKind 9 = .ok (.if_icmp .ge 25, 3) := by decide +kernel
theorem dX1_readersOfKind_12 : decode cX1_readersOfKind 12 = .ok (.aload_n 0, 1) := by decide +kernel
theorem dX1_readersOfKind_13 : decode cX1_readersOfKind 13 = .ok (.getfield 18, 3) := by decide +kernel
theorem dX1_readersOfKind_16 : decode cX1_readersOfKind 16 = .ok (.iload_n 3, 1) := by decide +kernel
theorem dX1_readersOfKind_17 : decode cX1_readersOfKind 17 = .ok (.iaload, 1) := by decide +kernel
theorem dX1_readersOfKind_18 : decode cX1_readersOfKind 18 = .ok (.iload_n 1, 1) := by decide +kernel
theorem dX1_readersOfKind_19 : decode cX1_readersOfKind 19 = .ok (.if_icmp .ne 9, 3) := by decide +kernel
theorem dX1_readersOfKind_22 : decode cX1_readersOfKind 22 = .ok (.iload_n 2, 1) := by decide +kernel
theorem dX1_readersOfKind_23 : decode cX1_readersOfKind 23 = .ok (.iconst 1, 1) := by decide +kernel
theorem dX1_readersOfKind_24 : decode cX1_readersOfKind 24 = .ok (.iload_n 3, 1) := by decide +kernel
theorem dX1_readersOfKind_25 : decode cX1_readersOfKind 25 = .ok (.ishl, 1) := by decide +kernel
theorem dX1_readersOfKind_26 : decode cX1_readersOfKind 26 = .ok (.ior, 1) := by decide +kernel
theorem dX1_readersOfKind_27 : decode cX1_readersOfKind 27 = .ok (.istore_n 2, 1) := by decide +kernel
theorem dX1_readersOfKind_28 : decode cX1_readersOfKind 28 = .ok (.iinc 3 1, 3) := by decide +kernel
theorem dX1_readersOfKind_31 : decode cX1_readersOfKind 31 = .ok (.goto (-27), 3) := by decide +kernel
theorem dX1_readersOfKind_34 : decode cX1_readersOfKind 34 = .ok (.iload_n 2, 1) := by decide +kernel
theorem dX1_readersOfKind_35 : decode cX1_readersOfKind 35 = .ok (.ireturn, 1) := by decide +kernel
theorem dX2_add_0 : decode cX2_add 0 = .ok (.aload_n 0, 1) := by decide +kernel
theorem dX2_add_1 : decode cX2_add 1 = .ok (.getfield 21, 3) := by decide +kernel
theorem dX2_add_4 : decode cX2_add 4 = .ok (.sipush 300, 3) := by decide +kernel
theorem dX2_add_7 : decode cX2_add 7 = .ok (.if_icmp .ge 43, 3) := by decide +kernel
theorem dX2_add_10 : decode cX2_add 10 = .ok (.aload_n 0, 1) := by decide +kernel
theorem dX2_add_11 : decode cX2_add 11 = .ok (.getfield 9, 3) := by decide +kernel
theorem dX2_add_14 : decode cX2_add 14 = .ok (.aload_n 0, 1) := by decide +kernel
theorem dX2_add_15 : decode cX2_add 15 = .ok (.getfield 21, 3) := by decide +kernel
theorem dX2_add_18 : decode cX2_add 18 = .ok (.iload_n 1, 1) := by decide +kernel
theorem dX2_add_19 : decode cX2_add 19 = .ok (.iastore, 1) := by decide +kernel
theorem dX2_add_20 : decode cX2_add 20 = .ok (.aload_n 0, 1) := by decide +kernel
theorem dX2_add_21 : decode cX2_add 21 = .ok (.getfield 15, 3) := by decide +kernel
theorem dX2_add_24 : decode cX2_add 24 = .ok (.aload_n 0, 1) := by decide +kernel
theorem dX2_add_25 : decode cX2_add 25 = .ok (.getfield 21, 3) := by decide +kernel
theorem dX2_add_28 : decode cX2_add 28 = .ok (.iload_n 2, 1) := by decide +kernel
theorem dX2_add_29 : decode cX2_add 29 = .ok (.iastore, 1) := by decide +kernel
theorem dX2_add_30 : decode cX2_add 30 = .ok (.aload_n 0, 1) := by decide +kernel
theorem dX2_add_31 : decode cX2_add 31 = .ok (.getfield 18, 3) := by decide +kernel
theorem dX2_add_34 : decode cX2_add 34 = .ok (.aload_n 0, 1) := by decide +kernel
theorem dX2_add_35 : decode cX2_add 35 = .ok (.getfield 21, 3) := by decide +kernel
theorem dX2_add_38 : decode cX2_add 38 = .ok (.iload_n 3, 1) := by decide +kernel
theorem dX2_add_39 : decode cX2_add 39 = .ok (.iastore, 1) := by decide +kernel
theorem dX2_add_40 : decode cX2_add 40 = .ok (.aload_n 0, 1) := by decide +kernel
theorem dX2_add_41 : decode cX2_add 41 = .ok (.dup, 1) := by decide +kernel
theorem dX2_add_42 : decode cX2_add 42 = .ok (.getfield 21, 3) := by decide +kernel
theorem dX2_add_45 : decode cX2_add 45 = .ok (.iconst 1, 1) := by decide +kernel
theorem dX2_add_46 : decode cX2_add 46 = .ok (.iadd, 1) := by decide +kernel
theorem dX2_add_47 : decode cX2_add 47 = .ok (.putfield 21, 3) := by decide +kernel
theorem dX2_add_50 : decode cX2_add 50 = .ok (.return_, 1) := by decide +kernel
theorem dX2_timesRead_0 : decode cX2_timesRead 0 = .ok (.iconst 0, 1) := by decide +kernel
theorem dX2_timesRead_1 : decode cX2_timesRead 1 = .ok (.istore_n 2, 1) := by decide +kernel
theorem dX2_timesRead_2 : decode cX2_timesRead 2 = .ok (.iconst 0, 1) := by decide +kernel
theorem dX2_timesRead_3 : decode cX2_timesRead 3 = .ok (.istore_n 3, 1) := by decide +kernel
theorem dX2_timesRead_4 : decode cX2_timesRead 4 = .ok (.iload_n 3, 1) := by decide +kernel
theorem dX2_timesRead_5 : decode cX2_timesRead 5 = .ok (.aload_n 0, 1) := by decide +kernel
theorem dX2_timesRead_6 : decode cX2_timesRead 6 = .ok (.getfield 21, 3) := by decide +kernel
theorem dX2_timesRead_9 : decode cX2_timesRead 9 = .ok (.if_icmp .ge 22, 3) := by decide +kernel
theorem dX2_timesRead_12 : decode cX2_timesRead 12 = .ok (.aload_n 0, 1) := by decide +kernel
theorem dX2_timesRead_13 : decode cX2_timesRead 13 = .ok (.getfield 15, 3) := by decide +kernel
theorem dX2_timesRead_16 : decode cX2_timesRead 16 = .ok (.iload_n 3, 1) := by decide +kernel
theorem dX2_timesRead_17 : decode cX2_timesRead 17 = .ok (.iaload, 1) := by decide +kernel
theorem dX2_timesRead_18 : decode cX2_timesRead 18 = .ok (.iload_n 1, 1) := by decide +kernel
theorem dX2_timesRead_19 : decode cX2_timesRead 19 = .ok (.if_icmp .ne 6, 3) := by decide +kernel
theorem dX2_timesRead_22 : decode cX2_timesRead 22 = .ok (.iinc 2 1, 3) := by decide +kernel
theorem dX2_timesRead_25 : decode cX2_timesRead 25 = .ok (.iinc 3 1, 3) := by decide +kernel
theorem dX2_timesRead_28 : decode cX2_timesRead 28 = .ok (.goto (-24), 3) := by decide +kernel
theorem dX2_timesRead_31 : decode cX2_timesRead 31 = .ok (.iload_n 2, 1) := by decide +kernel
theorem dX2_timesRead_32 : decode cX2_timesRead 32 = .ok (.ireturn, 1) := by decide +kernel
theorem dX2_copyFrom_0 : decode cX2_copyFrom 0 = .ok (.aload_n 1, 1) := by decide +kernel
theorem dX2_copyFrom_1 : decode cX2_copyFrom 1 = .ok (.getfield 9, 3) := by decide +kernel
theorem dX2_copyFrom_4 : decode cX2_copyFrom 4 = .ok (.iconst 0, 1) := by decide +kernel
theorem dX2_copyFrom_5 : decode cX2_copyFrom 5 = .ok (.aload_n 0, 1) := by decide +kernel
theorem dX2_copyFrom_6 : decode cX2_copyFrom 6 = .ok (.getfield 9, 3) := by decide +kernel
theorem dX2_copyFrom_9 : decode cX2_copyFrom 9 = .ok (.iconst 0, 1) := by decide +kernel
theorem dX2_copyFrom_10 : decode cX2_copyFrom 10 = .ok (.sipush 300, 3) := by decide +kernel
theorem dX2_copyFrom_13 : decode cX2_copyFrom 13 = .ok (.invokestatic 25, 3) := by decide +kernel
theorem dX2_copyFrom_16 : decode cX2_copyFrom 16 = .ok (.aload_n 1, 1) := by decide +kernel
theorem dX2_copyFrom_17 : decode cX2_copyFrom 17 = .ok (.getfield 15, 3) := by decide +kernel
theorem dX2_copyFrom_20 : decode cX2_copyFrom 20 = .ok (.iconst 0, 1) := by decide +kernel
theorem dX2_copyFrom_21 : decode cX2_copyFrom 21 = .ok (.aload_n 0, 1) := by decide +kernel
theorem dX2_copyFrom_22 : decode cX2_copyFrom 22 = .ok (.getfield 15, 3) := by decide +kernel
theorem dX2_copyFrom_25 : decode cX2_copyFrom 25 = .ok (.iconst 0, 1) := by decide +kernel
theorem dX2_copyFrom_26 : decode cX2_copyFrom 26 = .ok (.sipush 300, 3) := by decide +kernel
theorem dX2_copyFrom_29 : decode cX2_copyFrom 29 = .ok (.invokestatic 25, 3) := by decide +kernel
theorem dX2_copyFrom_32 : decode cX2_copyFrom 32 = .ok (.aload_n 1, 1) := by decide +kernel
theorem dX2_copyFrom_33 : decode cX2_copyFrom 33 = .ok (.getfield 18, 3) := by decide +kernel
theorem dX2_copyFrom_36 : decode cX2_copyFrom 36 = .ok (.iconst 0, 1) := by decide +kernel
theorem dX2_copyFrom_37 : decode cX2_copyFrom 37 = .ok (.aload_n 0, 1) := by decide +kernel
theorem dX2_copyFrom_38 : decode cX2_copyFrom 38 = .ok (.getfield 18, 3) := by decide +kernel
theorem dX2_copyFrom_41 : decode cX2_copyFrom 41 = .ok (.iconst 0, 1) := by decide +kernel
theorem dX2_copyFrom_42 : decode cX2_copyFrom 42 = .ok (.sipush 300, 3) := by decide +kernel
theorem dX2_copyFrom_45 : decode cX2_copyFrom 45 = .ok (.invokestatic 25, 3) := by decide +kernel
theorem dX2_copyFrom_48 : decode cX2_copyFrom 48 = .ok (.aload_n 0, 1) := by decide +kernel
theorem dX2_copyFrom_49 : decode cX2_copyFrom 49 = .ok (.aload_n 1, 1) := by decide +kernel
theorem dX2_copyFrom_50 : decode cX2_copyFrom 50 = .ok (.getfield 21, 3) := by decide +kernel
theorem dX2_copyFrom_53 : decode cX2_copyFrom 53 = .ok (.putfield 21, 3) := by decide +kernel
theorem dX2_copyFrom_56 : decode cX2_copyFrom 56 = .ok (.return_, 1) := by decide +kernel
theorem dX3_add_0 : decode cX3_add 0 = .ok (.aload_n 0, 1) := by decide +kernel
theorem dX3_add_1 : decode cX3_add 1 = .ok (.getfield 21, 3) := by decide +kernel
theorem dX3_add_4 : decode cX3_add 4 = .ok (.bipush 10, 2) := by decide +kernel
theorem dX3_add_6 : decode cX3_add 6 = .ok (.if_icmp .lt 6, 3) := by decide +kernel
theorem dX3_add_9 : decode cX3_add 9 = .ok (.ldc 25, 2) := by decide +kernel
theorem dX3_add_11 : decode cX3_add 11 = .ok (.ireturn, 1) := by decide +kernel
theorem dX3_add_12 : decode cX3_add 12 = .ok (.aload_n 0, 1) := by decide +kernel
theorem dX3_add_13 : decode cX3_add 13 = .ok (.getfield 9, 3) := by decide +kernel
theorem dX3_add_16 : decode cX3_add 16 = .ok (.aload_n 0, 1) := by decide +kernel
theorem dX3_add_17 : decode cX3_add 17 = .ok (.getfield 21, 3) := by decide +kernel
theorem dX3_add_20 : decode cX3_add 20 = .ok (.iload_n 1, 1) := by decide +kernel
theorem dX3_add_21 : decode cX3_add 21 = .ok (.iastore, 1) := by decide +kernel
theorem dX3_add_22 : decode cX3_add 22 = .ok (.aload_n 0, 1) := by decide +kernel
theorem dX3_add_23 : decode cX3_add 23 = .ok (.getfield 15, 3) := by decide +kernel
theorem dX3_add_26 : decode cX3_add 26 = .ok (.aload_n 0, 1) := by decide +kernel
theorem dX3_add_27 : decode cX3_add 27 = .ok (.getfield 21, 3) := by decide +kernel
theorem dX3_add_30 : decode cX3_add 30 = .ok (.iload_n 2, 1) := by decide +kernel
theorem dX3_add_31 : decode cX3_add 31 = .ok (.iastore, 1) := by decide +kernel
theorem dX3_add_32 : decode cX3_add 32 = .ok (.aload_n 0, 1) := by decide +kernel
theorem dX3_add_33 : decode cX3_add 33 = .ok (.getfield 18, 3) := by decide +kernel
theorem dX3_add_36 : decode cX3_add 36 = .ok (.aload_n 0, 1) := by decide +kernel
theorem dX3_add_37 : decode cX3_add 37 = .ok (.getfield 21, 3) := by decide +kernel
theorem dX3_add_40 : decode cX3_add 40 = .ok (.iload_n 3, 1) := by decide +kernel
theorem dX3_add_41 : decode cX3_add 41 = .ok (.iastore, 1) := by decide +kernel
theorem dX3_add_42 : decode cX3_add 42 = .ok (.aload_n 0, 1) := by decide +kernel
theorem dX3_add_43 : decode cX3_add 43 = .ok (.dup, 1) := by decide +kernel
theorem dX3_add_44 : decode cX3_add 44 = .ok (.getfield 21, 3) := by decide +kernel
theorem dX3_add_47 : decode cX3_add 47 = .ok (.iconst 1, 1) := by decide +kernel
theorem dX3_add_48 : decode cX3_add 48 = .ok (.iadd, 1) := by decide +kernel
theorem dX3_add_49 : decode cX3_add 49 = .ok (.putfield 21, 3) := by decide +kernel
theorem dX3_add_52 : decode cX3_add 52 = .ok (.aload_n 0, 1) := by decide +kernel
theorem dX3_add_53 : decode cX3_add 53 = .ok (.getfield 21, 3) := by decide +kernel
theorem dX3_add_56 : decode cX3_add 56 = .ok (.iconst 1, 1) := by decide +kernel
theorem dX3_add_57 : decode cX3_add 57 = .ok (.isub, 1) := by decide +kernel
theorem dX3_add_58 : decode cX3_add 58 = .ok (.ireturn, 1) := by decide +kernel
theorem dX3_forLine_0 : decode cX3_forLine 0 = .ok (.iconst 0, 1) := by decide +kernel
theorem dX3_forLine_1 : decode cX3_forLine 1 = .ok (.istore_n 2, 1) := by decide +kernel
theorem dX3_forLine_2 : decode cX3_forLine 2 = .ok (.iconst 0, 1) := by decide +kernel
theorem dX3_forLine_3 : decode cX3_forLine 3 = .ok (.istore_n 3, 1) := by decide +kernel
theorem dX3_forLine_4 : decode cX3_forLine 4 = .ok (.iload_n 3, 1) := by decide +kernel
theorem dX3_forLine_5 : decode cX3_forLine 5 = .ok (.aload_n 0, 1) := by decide +kernel
theorem dX3_forLine_6 : decode cX3_forLine 6 = .ok (.getfield 21, 3) := by decide +kernel
theorem dX3_forLine_9 : decode cX3_forLine 9 = .ok (.if_icmp .ge 25, 3) := by decide +kernel
theorem dX3_forLine_12 : decode cX3_forLine 12 = .ok (.aload_n 0, 1) := by decide +kernel
theorem dX3_forLine_13 : decode cX3_forLine 13 = .ok (.getfield 15, 3) := by decide +kernel
theorem dX3_forLine_16 : decode cX3_forLine 16 = .ok (.iload_n 3, 1) := by decide +kernel
theorem dX3_forLine_17 : decode cX3_forLine 17 = .ok (.iaload, 1) := by decide +kernel
theorem dX3_forLine_18 : decode cX3_forLine 18 = .ok (.iload_n 1, 1) := by decide +kernel
theorem dX3_forLine_19 : decode cX3_forLine 19 = .ok (.if_icmp .ne 9, 3) := by decide +kernel
theorem dX3_forLine_22 : decode cX3_forLine 22 = .ok (.iload_n 2, 1) := by decide +kernel
theorem dX3_forLine_23 : decode cX3_forLine 23 = .ok (.iconst 1, 1) := by decide +kernel
theorem dX3_forLine_24 : decode cX3_forLine 24 = .ok (.iload_n 3, 1) := by decide +kernel
theorem dX3_forLine_25 : decode cX3_forLine 25 = .ok (.ishl, 1) := by decide +kernel
theorem dX3_forLine_26 : decode cX3_forLine 26 = .ok (.ior, 1) := by decide +kernel
theorem dX3_forLine_27 : decode cX3_forLine 27 = .ok (.istore_n 2, 1) := by decide +kernel
theorem dX3_forLine_28 : decode cX3_forLine 28 = .ok (.iinc 3 1, 3) := by decide +kernel
theorem dX3_forLine_31 : decode cX3_forLine 31 = .ok (.goto (-27), 3) := by decide +kernel
theorem dX3_forLine_34 : decode cX3_forLine 34 = .ok (.iload_n 2, 1) := by decide +kernel
theorem dX3_forLine_35 : decode cX3_forLine 35 = .ok (.ireturn, 1) := by decide +kernel
theorem dX3_fulfil_0 : decode cX3_fulfil 0 = .ok (.iconst 0, 1) := by decide +kernel
theorem dX3_fulfil_1 : decode cX3_fulfil 1 = .ok (.istore_n 3, 1) := by decide +kernel
theorem dX3_fulfil_2 : decode cX3_fulfil 2 = .ok (.iconst 0, 1) := by decide +kernel
theorem dX3_fulfil_3 : decode cX3_fulfil 3 = .ok (.istore 4, 2) := by decide +kernel
theorem dX3_fulfil_5 : decode cX3_fulfil 5 = .ok (.iload 4, 2) := by decide +kernel
theorem dX3_fulfil_7 : decode cX3_fulfil 7 = .ok (.aload_n 0, 1) := by decide +kernel
theorem dX3_fulfil_8 : decode cX3_fulfil 8 = .ok (.getfield 21, 3) := by decide +kernel
theorem dX3_fulfil_11 : decode cX3_fulfil 11 = .ok (.if_icmp .ge 64, 3) := by decide +kernel
theorem dX3_fulfil_14 : decode cX3_fulfil 14 = .ok (.iload_n 1, 1) := by decide +kernel
theorem dX3_fulfil_15 : decode cX3_fulfil 15 = .ok (.iload 4, 2) := by decide +kernel
theorem dX3_fulfil_17 : decode cX3_fulfil 17 = .ok (.invokestatic 26, 3) := by decide +kernel
theorem dX3_fulfil_20 : decode cX3_fulfil 20 = .ok (.ifCond .eq 17, 3) := by decide +kernel
theorem dX3_fulfil_23 : decode cX3_fulfil 23 = .ok (.aload_n 2, 1) := by decide +kernel
theorem dX3_fulfil_24 : decode cX3_fulfil 24 = .ok (.aload_n 0, 1) := by decide +kernel
theorem dX3_fulfil_25 : decode cX3_fulfil 25 = .ok (.getfield 15, 3) := by decide +kernel
theorem dX3_fulfil_28 : decode cX3_fulfil 28 = .ok (.iload 4, 2) := by decide +kernel
theorem dX3_fulfil_30 : decode cX3_fulfil 30 = .ok (.iaload, 1) := by decide +kernel
theorem dX3_fulfil_31 : decode cX3_fulfil 31 = .ok (.invokevirtual 30, 3) := by decide +kernel
theorem dX3_fulfil_34 : decode cX3_fulfil 34 = .ok (.goto 4, 3) := by decide +kernel
theorem dX3_fulfil_37 : decode cX3_fulfil 37 = .ok (.iconst (-1), 1) := by decide +kernel
theorem dX3_fulfil_38 : decode cX3_fulfil 38 = .ok (.istore 5, 2) := by decide +kernel
theorem dX3_fulfil_40 : decode cX3_fulfil 40 = .ok (.iload 5, 2) := by decide +kernel
theorem dX3_fulfil_42 : decode cX3_fulfil 42 = .ok (.iconst (-1), 1) := by decide +kernel
theorem dX3_fulfil_43 : decode cX3_fulfil 43 = .ok (.if_icmp .eq 26, 3) := by decide +kernel
theorem dX3_fulfil_46 : decode cX3_fulfil 46 = .ok (.aload_n 2, 1) := by decide +kernel
theorem dX3_fulfil_47 : decode cX3_fulfil 47 = .ok (.aload_n 0, 1) := by decide +kernel
theorem dX3_fulfil_48 : decode cX3_fulfil 48 = .ok (.getfield 9, 3) := by decide +kernel
theorem dX3_fulfil_51 : decode cX3_fulfil 51 = .ok (.iload 4, 2) := by decide +kernel
theorem dX3_fulfil_53 : decode cX3_fulfil 53 = .ok (.iaload, 1) := by decide +kernel
theorem dX3_fulfil_54 : decode cX3_fulfil 54 = .ok (.iload 5, 2) := by decide +kernel
theorem dX3_fulfil_56 : decode cX3_fulfil 56 = .ok (.invokevirtual 36, 3) := by decide +kernel
theorem dX3_fulfil_59 : decode cX3_fulfil 59 = .ok (.iload_n 3, 1) := by decide +kernel
theorem dX3_fulfil_60 : decode cX3_fulfil 60 = .ok (.aload_n 0, 1) := by decide +kernel
theorem dX3_fulfil_61 : decode cX3_fulfil 61 = .ok (.getfield 18, 3) := by decide +kernel
theorem dX3_fulfil_64 : decode cX3_fulfil 64 = .ok (.iload 4, 2) := by decide +kernel
theorem dX3_fulfil_66 : decode cX3_fulfil 66 = .ok (.iaload, 1) := by decide +kernel
theorem dX3_fulfil_67 : decode cX3_fulfil 67 = .ok (.iadd, 1) := by decide +kernel
theorem dX3_fulfil_68 : decode cX3_fulfil 68 = .ok (.istore_n 3, 1) := by decide +kernel
theorem dX3_fulfil_69 : decode cX3_fulfil 69 = .ok (.iinc 4 1, 3) := by decide +kernel
theorem dX3_fulfil_72 : decode cX3_fulfil 72 = .ok (.goto (-67), 3) := by decide +kernel
theorem dX3_fulfil_75 : decode cX3_fulfil 75 = .ok (.iload_n 3, 1) := by decide +kernel
theorem dX3_fulfil_76 : decode cX3_fulfil 76 = .ok (.ireturn, 1) := by decide +kernel
theorem dX4_append_0 : decode cX4_append 0 = .ok (.aload_n 0, 1) := by decide +kernel
theorem dX4_append_1 : decode cX4_append 1 = .ok (.getfield 15, 3) := by decide +kernel
theorem dX4_append_4 : decode cX4_append 4 = .ok (.sipush 400, 3) := by decide +kernel
theorem dX4_append_7 : decode cX4_append 7 = .ok (.if_icmp .ge 23, 3) := by decide +kernel
theorem dX4_append_10 : decode cX4_append 10 = .ok (.aload_n 0, 1) := by decide +kernel
theorem dX4_append_11 : decode cX4_append 11 = .ok (.getfield 9, 3) := by decide +kernel
theorem dX4_append_14 : decode cX4_append 14 = .ok (.aload_n 0, 1) := by decide +kernel
theorem dX4_append_15 : decode cX4_append 15 = .ok (.getfield 15, 3) := by decide +kernel
theorem dX4_append_18 : decode cX4_append 18 = .ok (.iload_n 1, 1) := by decide +kernel
theorem dX4_append_19 : decode cX4_append 19 = .ok (.iastore, 1) := by decide +kernel
theorem dX4_append_20 : decode cX4_append 20 = .ok (.aload_n 0, 1) := by decide +kernel
theorem dX4_append_21 : decode cX4_append 21 = .ok (.dup, 1) := by decide +kernel
theorem dX4_append_22 : decode cX4_append 22 = .ok (.getfield 15, 3) := by decide +kernel
theorem dX4_append_25 : decode cX4_append 25 = .ok (.iconst 1, 1) := by decide +kernel
theorem dX4_append_26 : decode cX4_append 26 = .ok (.iadd, 1) := by decide +kernel
theorem dX4_append_27 : decode cX4_append 27 = .ok (.putfield 15, 3) := by decide +kernel
theorem dX4_append_30 : decode cX4_append 30 = .ok (.return_, 1) := by decide +kernel
theorem dX4_parseInto_0 : decode cX4_parseInto 0 = .ok (.aload_n 0, 1) := by decide +kernel
theorem dX4_parseInto_1 : decode cX4_parseInto 1 = .ok (.iconst 0, 1) := by decide +kernel
theorem dX4_parseInto_2 : decode cX4_parseInto 2 = .ok (.putfield 25, 3) := by decide +kernel
theorem dX4_parseInto_5 : decode cX4_parseInto 5 = .ok (.aload_n 0, 1) := by decide +kernel
theorem dX4_parseInto_6 : decode cX4_parseInto 6 = .ok (.iconst 0, 1) := by decide +kernel
theorem dX4_parseInto_7 : decode cX4_parseInto 7 = .ok (.putfield 19, 3) := by decide +kernel
theorem dX4_parseInto_10 : decode cX4_parseInto 10 = .ok (.aload_n 0, 1) := by decide +kernel
theorem dX4_parseInto_11 : decode cX4_parseInto 11 = .ok (.iconst (-1), 1) := by decide +kernel
theorem dX4_parseInto_12 : decode cX4_parseInto 12 = .ok (.putfield 22, 3) := by decide +kernel
theorem dX4_parseInto_15 : decode cX4_parseInto 15 = .ok (.aload_n 1, 1) := by decide +kernel
theorem dX4_parseInto_16 : decode cX4_parseInto 16 = .ok (.invokevirtual 28, 3) := by decide +kernel
theorem dX4_parseInto_19 : decode cX4_parseInto 19 = .ok (.aload_n 0, 1) := by decide +kernel
theorem dX4_parseInto_20 : decode cX4_parseInto 20 = .ok (.invokevirtual 33, 3) := by decide +kernel
theorem dX4_parseInto_23 : decode cX4_parseInto 23 = .ok (.iconst 0, 1) := by decide +kernel
theorem dX4_parseInto_24 : decode cX4_parseInto 24 = .ok (.istore_n 2, 1) := by decide +kernel
theorem dX4_parseInto_25 : decode cX4_parseInto 25 = .ok (.iload_n 2, 1) := by decide +kernel
theorem dX4_parseInto_26 : decode cX4_parseInto 26 = .ok (.sipush 400, 3) := by decide +kernel
theorem dX4_parseInto_29 : decode cX4_parseInto 29 = .ok (.if_icmp .ge 36, 3) := by decide +kernel
theorem dX4_parseInto_32 : decode cX4_parseInto 32 = .ok (.aload_n 0, 1) := by decide +kernel
theorem dX4_parseInto_33 : decode cX4_parseInto 33 = .ok (.getfield 19, 3) := by decide +kernel
theorem dX4_parseInto_36 : decode cX4_parseInto 36 = .ok (.ifCond .ne 29, 3) := by decide +kernel
theorem dX4_parseInto_39 : decode cX4_parseInto 39 = .ok (.aload_n 0, 1) := by decide +kernel
theorem dX4_parseInto_40 : decode cX4_parseInto 40 = .ok (.getfield 25, 3) := by decide +kernel
theorem dX4_parseInto_43 : decode cX4_parseInto 43 = .ok (.aload_n 0, 1) := by decide +kernel
theorem dX4_parseInto_44 : decode cX4_parseInto 44 = .ok (.getfield 15, 3) := by decide +kernel
theorem dX4_parseInto_47 : decode cX4_parseInto 47 = .ok (.if_icmp .ge 18, 3) := by decide +kernel
theorem dX4_parseInto_50 : decode cX4_parseInto 50 = .ok (.aload_n 0, 1) := by decide +kernel
theorem dX4_parseInto_51 : decode cX4_parseInto 51 = .ok (.aload_n 1, 1) := by decide +kernel
theorem dX4_parseInto_52 : decode cX4_parseInto 52 = .ok (.invokevirtual 36, 3) := by decide +kernel
theorem dX4_parseInto_55 : decode cX4_parseInto 55 = .ok (.aload_n 0, 1) := by decide +kernel
theorem dX4_parseInto_56 : decode cX4_parseInto 56 = .ok (.invokevirtual 33, 3) := by decide +kernel
theorem dX4_parseInto_59 : decode cX4_parseInto 59 = .ok (.iinc 2 1, 3) := by decide +kernel
theorem dX4_parseInto_62 : decode cX4_parseInto 62 = .ok (.goto (-37), 3) := by decide +kernel
theorem dX4_parseInto_65 : decode cX4_parseInto 65 = .ok (.return_, 1) := by decide +kernel
theorem dX4_parseClause_0 : decode cX4_parseClause 0 = .ok (.aload_n 0, 1) := by decide +kernel
theorem dX4_parseClause_1 : decode cX4_parseClause 1 = .ok (.getfield 25, 3) := by decide +kernel
theorem dX4_parseClause_4 : decode cX4_parseClause 4 = .ok (.istore_n 2, 1) := by decide +kernel
theorem dX4_parseClause_5 : decode cX4_parseClause 5 = .ok (.aload_n 0, 1) := by decide +kernel
theorem dX4_parseClause_6 : decode cX4_parseClause 6 = .ok (.invokevirtual 40, 3) := by decide +kernel
theorem dX4_parseClause_9 : decode cX4_parseClause 9 = .ok (.istore_n 3, 1) := by decide +kernel
theorem dX4_parseClause_10 : decode cX4_parseClause 10 = .ok (.aload_n 0, 1) := by decide +kernel
theorem dX4_parseClause_11 : decode cX4_parseClause 11 = .ok (.iload_n 3, 1) := by decide +kernel
theorem dX4_parseClause_12 : decode cX4_parseClause 12 = .ok (.putfield 25, 3) := by decide +kernel
theorem dX4_parseClause_15 : decode cX4_parseClause 15 = .ok (.aload_n 0, 1) := by decide +kernel
theorem dX4_parseClause_16 : decode cX4_parseClause 16 = .ok (.iload_n 2, 1) := by decide +kernel
theorem dX4_parseClause_17 : decode cX4_parseClause 17 = .ok (.iload_n 3, 1) := by decide +kernel
theorem dX4_parseClause_18 : decode cX4_parseClause 18 = .ok (.ldc 44, 2) := by decide +kernel
theorem dX4_parseClause_20 : decode cX4_parseClause 20 = .ok (.invokevirtual 46, 3) := by decide +kernel
theorem dX4_parseClause_23 : decode cX4_parseClause 23 = .ok (.ifCond .eq 12, 3) := by decide +kernel
theorem dX4_parseClause_26 : decode cX4_parseClause 26 = .ok (.aload_n 0, 1) := by decide +kernel
theorem dX4_parseClause_27 : decode cX4_parseClause 27 = .ok (.aload_n 1, 1) := by decide +kernel
theorem dX4_parseClause_28 : decode cX4_parseClause 28 = .ok (.iload_n 2, 1) := by decide +kernel
theorem dX4_parseClause_29 : decode cX4_parseClause 29 = .ok (.invokevirtual 50, 3) := by decide +kernel
theorem dX4_parseClause_32 : decode cX4_parseClause 32 = .ok (.goto 49, 3) := by decide +kernel
theorem dX4_parseClause_35 : decode cX4_parseClause 35 = .ok (.aload_n 0, 1) := by decide +kernel
theorem dX4_parseClause_36 : decode cX4_parseClause 36 = .ok (.iload_n 2, 1) := by decide +kernel
theorem dX4_parseClause_37 : decode cX4_parseClause 37 = .ok (.iload_n 3, 1) := by decide +kernel
theorem dX4_parseClause_38 : decode cX4_parseClause 38 = .ok (.ldc 54, 2) := by decide +kernel
theorem dX4_parseClause_40 : decode cX4_parseClause 40 = .ok (.invokevirtual 46, 3) := by decide +kernel
theorem dX4_parseClause_43 : decode cX4_parseClause 43 = .ok (.ifCond .eq 12, 3) := by decide +kernel
theorem dX4_parseClause_46 : decode cX4_parseClause 46 = .ok (.aload_n 0, 1) := by decide +kernel
theorem dX4_parseClause_47 : decode cX4_parseClause 47 = .ok (.aload_n 1, 1) := by decide +kernel
theorem dX4_parseClause_48 : decode cX4_parseClause 48 = .ok (.iload_n 2, 1) := by decide +kernel
theorem dX4_parseClause_49 : decode cX4_parseClause 49 = .ok (.invokevirtual 56, 3) := by decide +kernel
theorem dX4_parseClause_52 : decode cX4_parseClause 52 = .ok (.goto 29, 3) := by decide +kernel
theorem dX4_parseClause_55 : decode cX4_parseClause 55 = .ok (.aload_n 0, 1) := by decide +kernel
theorem dX4_parseClause_56 : decode cX4_parseClause 56 = .ok (.iload_n 2, 1) := by decide +kernel
theorem dX4_parseClause_57 : decode cX4_parseClause 57 = .ok (.iload_n 3, 1) := by decide +kernel
theorem dX4_parseClause_58 : decode cX4_parseClause 58 = .ok (.ldc 59, 2) := by decide +kernel
theorem dX4_parseClause_60 : decode cX4_parseClause 60 = .ok (.invokevirtual 46, 3) := by decide +kernel
theorem dX4_parseClause_63 : decode cX4_parseClause 63 = .ok (.ifCond .eq 12, 3) := by decide +kernel
theorem dX4_parseClause_66 : decode cX4_parseClause 66 = .ok (.aload_n 0, 1) := by decide +kernel
theorem dX4_parseClause_67 : decode cX4_parseClause 67 = .ok (.aload_n 1, 1) := by decide +kernel
theorem dX4_parseClause_68 : decode cX4_parseClause 68 = .ok (.iload_n 2, 1) := by decide +kernel
theorem dX4_parseClause_69 : decode cX4_parseClause 69 = .ok (.invokevirtual 61, 3) := by decide +kernel
theorem dX4_parseClause_72 : decode cX4_parseClause 72 = .ok (.goto 9, 3) := by decide +kernel
theorem dX4_parseClause_75 : decode cX4_parseClause 75 = .ok (.aload_n 0, 1) := by decide +kernel
theorem dX4_parseClause_76 : decode cX4_parseClause 76 = .ok (.iconst 1, 1) := by decide +kernel
theorem dX4_parseClause_77 : decode cX4_parseClause 77 = .ok (.iload_n 2, 1) := by decide +kernel
theorem dX4_parseClause_78 : decode cX4_parseClause 78 = .ok (.invokevirtual 64, 3) := by decide +kernel
theorem dX4_parseClause_81 : decode cX4_parseClause 81 = .ok (.return_, 1) := by decide +kernel
theorem dX4_parseLine_0 : decode cX4_parseLine 0 = .ok (.aload_n 1, 1) := by decide +kernel
theorem dX4_parseLine_1 : decode cX4_parseLine 1 = .ok (.getfield 68, 3) := by decide +kernel
theorem dX4_parseLine_4 : decode cX4_parseLine 4 = .ok (.bipush 16, 2) := by decide +kernel
theorem dX4_parseLine_6 : decode cX4_parseLine 6 = .ok (.if_icmp .lt 9, 3) := by decide +kernel
theorem dX4_parseLine_9 : decode cX4_parseLine 9 = .ok (.aload_n 0, 1) := by decide +kernel
theorem dX4_parseLine_10 : decode cX4_parseLine 10 = .ok (.iconst 3, 1) := by decide +kernel
theorem dX4_parseLine_11 : decode cX4_parseLine 11 = .ok (.iload_n 2, 1) := by decide +kernel
theorem dX4_parseLine_12 : decode cX4_parseLine 12 = .ok (.invokevirtual 64, 3) := by decide +kernel
theorem dX4_parseLine_15 : decode cX4_parseLine 15 = .ok (.aload_n 0, 1) := by decide +kernel
theorem dX4_parseLine_16 : decode cX4_parseLine 16 = .ok (.iconst 0, 1) := by decide +kernel
theorem dX4_parseLine_17 : decode cX4_parseLine 17 = .ok (.bipush 99, 2) := by decide +kernel
theorem dX4_parseLine_19 : decode cX4_parseLine 19 = .ok (.invokevirtual 71, 3) := by decide +kernel
theorem dX4_parseLine_22 : decode cX4_parseLine 22 = .ok (.istore_n 3, 1) := by decide +kernel
theorem dX4_parseLine_23 : decode cX4_parseLine 23 = .ok (.aload_n 0, 1) := by decide +kernel
theorem dX4_parseLine_24 : decode cX4_parseLine 24 = .ok (.iconst 0, 1) := by decide +kernel
theorem dX4_parseLine_25 : decode cX4_parseLine 25 = .ok (.bipush 9, 2) := by decide +kernel
theorem dX4_parseLine_27 : decode cX4_parseLine 27 = .ok (.invokevirtual 71, 3) := by decide +kernel
theorem dX4_parseLine_30 : decode cX4_parseLine 30 = .ok (.istore 4, 2) := by decide +kernel
theorem dX4_parseLine_32 : decode cX4_parseLine 32 = .ok (.aload_n 0, 1) := by decide +kernel
theorem dX4_parseLine_33 : decode cX4_parseLine 33 = .ok (.invokevirtual 75, 3) := by decide +kernel
theorem dX4_parseLine_36 : decode cX4_parseLine 36 = .ok (.aload_n 0, 1) := by decide +kernel
theorem dX4_parseLine_37 : decode cX4_parseLine 37 = .ok (.getfield 19, 3) := by decide +kernel
theorem dX4_parseLine_40 : decode cX4_parseLine 40 = .ok (.ifCond .ne 10, 3) := by decide +kernel
theorem dX4_parseLine_43 : decode cX4_parseLine 43 = .ok (.aload_n 1, 1) := by decide +kernel
theorem dX4_parseLine_44 : decode cX4_parseLine 44 = .ok (.iload_n 3, 1) := by decide +kernel
theorem dX4_parseLine_45 : decode cX4_parseLine 45 = .ok (.iload 4, 2) := by decide +kernel
theorem dX4_parseLine_47 : decode cX4_parseLine 47 = .ok (.invokevirtual 78, 3) := by decide +kernel
theorem dX4_parseLine_50 : decode cX4_parseLine 50 = .ok (.return_, 1) := by decide +kernel
theorem dX4_parseReader_0 : decode cX4_parseReader 0 = .ok (.aload_n 1, 1) := by decide +kernel
theorem dX4_parseReader_1 : decode cX4_parseReader 1 = .ok (.getfield 81, 3) := by decide +kernel
theorem dX4_parseReader_4 : decode cX4_parseReader 4 = .ok (.bipush 8, 2) := by decide +kernel
theorem dX4_parseReader_6 : decode cX4_parseReader 6 = .ok (.if_icmp .lt 9, 3) := by decide +kernel
theorem dX4_parseReader_9 : decode cX4_parseReader 9 = .ok (.aload_n 0, 1) := by decide +kernel
theorem dX4_parseReader_10 : decode cX4_parseReader 10 = .ok (.iconst 3, 1) := by decide +kernel
theorem dX4_parseReader_11 : decode cX4_parseReader 11 = .ok (.iload_n 2, 1) := by decide +kernel
theorem dX4_parseReader_12 : decode cX4_parseReader 12 = .ok (.invokevirtual 64, 3) := by decide +kernel
theorem dX4_parseReader_15 : decode cX4_parseReader 15 = .ok (.aload_n 0, 1) := by decide +kernel
theorem dX4_parseReader_16 : decode cX4_parseReader 16 = .ok (.invokevirtual 84, 3) := by decide +kernel
theorem dX4_parseReader_19 : decode cX4_parseReader 19 = .ok (.istore_n 3, 1) := by decide +kernel
theorem dX4_parseReader_20 : decode cX4_parseReader 20 = .ok (.aload_n 0, 1) := by decide +kernel
theorem dX4_parseReader_21 : decode cX4_parseReader 21 = .ok (.iconst 1, 1) := by decide +kernel
theorem dX4_parseReader_22 : decode cX4_parseReader 22 = .ok (.bipush 99, 2) := by decide +kernel
theorem dX4_parseReader_24 : decode cX4_parseReader 24 = .ok (.invokevirtual 71, 3) := by decide +kernel
theorem dX4_parseReader_27 : decode cX4_parseReader 27 = .ok (.istore 4, 2) := by decide +kernel
theorem dX4_parseReader_29 : decode cX4_parseReader 29 = .ok (.aload_n 0, 1) := by decide +kernel
theorem dX4_parseReader_30 : decode cX4_parseReader 30 = .ok (.invokevirtual 75, 3) := by decide +kernel
theorem dX4_parseReader_33 : decode cX4_parseReader 33 = .ok (.aload_n 0, 1) := by decide +kernel
theorem dX4_parseReader_34 : decode cX4_parseReader 34 = .ok (.getfield 19, 3) := by decide +kernel
theorem dX4_parseReader_37 : decode cX4_parseReader 37 = .ok (.ifCond .ne 10, 3) := by decide +kernel
theorem dX4_parseReader_40 : decode cX4_parseReader 40 = .ok (.aload_n 1, 1) := by decide +kernel
theorem dX4_parseReader_41 : decode cX4_parseReader 41 = .ok (.iload_n 3, 1) := by decide +kernel
theorem dX4_parseReader_42 : decode cX4_parseReader 42 = .ok (.iload 4, 2) := by decide +kernel
theorem dX4_parseReader_44 : decode cX4_parseReader 44 = .ok (.invokevirtual 87, 3) := by decide +kernel
theorem dX4_parseReader_47 : decode cX4_parseReader 47 = .ok (.return_, 1) := by decide +kernel
theorem dX4_parseError_0 : decode cX4_parseError 0 = .ok (.aload_n 1, 1) := by decide +kernel
theorem dX4_parseError_1 : decode cX4_parseError 1 = .ok (.getfield 90, 3) := by decide +kernel
theorem dX4_parseError_4 : decode cX4_parseError 4 = .ok (.ifCond .eq 9, 3) := by decide +kernel
theorem dX4_parseError_7 : decode cX4_parseError 7 = .ok (.aload_n 0, 1) := by decide +kernel
theorem dX4_parseError_8 : decode cX4_parseError 8 = .ok (.iconst 3, 1) := by decide +kernel
theorem dX4_parseError_9 : decode cX4_parseError 9 = .ok (.iload_n 2, 1) := by decide +kernel
theorem dX4_parseError_10 : decode cX4_parseError 10 = .ok (.invokevirtual 64, 3) := by decide +kernel
theorem dX4_parseError_13 : decode cX4_parseError 13 = .ok (.aload_n 0, 1) := by decide +kernel
theorem dX4_parseError_14 : decode cX4_parseError 14 = .ok (.iconst 0, 1) := by decide +kernel
theorem dX4_parseError_15 : decode cX4_parseError 15 = .ok (.bipush 100, 2) := by decide +kernel
theorem dX4_parseError_17 : decode cX4_parseError 17 = .ok (.invokevirtual 71, 3) := by decide +kernel
theorem dX4_parseError_20 : decode cX4_parseError 20 = .ok (.istore_n 3, 1) := by decide +kernel
theorem dX4_parseError_21 : decode cX4_parseError 21 = .ok (.aload_n 0, 1) := by decide +kernel
theorem dX4_parseError_22 : decode cX4_parseError 22 = .ok (.invokevirtual 75, 3) := by decide +kernel
theorem dX4_parseError_25 : decode cX4_parseError 25 = .ok (.aload_n 0, 1) := by decide +kernel
theorem dX4_parseError_26 : decode cX4_parseError 26 = .ok (.getfield 19, 3) := by decide +kernel
theorem dX4_parseError_29 : decode cX4_parseError 29 = .ok (.ifCond .ne 8, 3) := by decide +kernel
theorem dX4_parseError_32 : decode cX4_parseError 32 = .ok (.aload_n 1, 1) := by decide +kernel
theorem dX4_parseError_33 : decode cX4_parseError 33 = .ok (.iload_n 3, 1) := by decide +kernel
theorem dX4_parseError_34 : decode cX4_parseError 34 = .ok (.invokevirtual 94, 3) := by decide +kernel
theorem dX4_parseError_37 : decode cX4_parseError 37 = .ok (.return_, 1) := by decide +kernel
theorem dX4_takeKind_0 : decode cX4_takeKind 0 = .ok (.aload_n 0, 1) := by decide +kernel
theorem dX4_takeKind_1 : decode cX4_takeKind 1 = .ok (.invokevirtual 33, 3) := by decide +kernel
theorem dX4_takeKind_4 : decode cX4_takeKind 4 = .ok (.aload_n 0, 1) := by decide +kernel
theorem dX4_takeKind_5 : decode cX4_takeKind 5 = .ok (.getfield 25, 3) := by decide +kernel
theorem dX4_takeKind_8 : decode cX4_takeKind 8 = .ok (.istore_n 1, 1) := by decide +kernel
theorem dX4_takeKind_9 : decode cX4_takeKind 9 = .ok (.aload_n 0, 1) := by decide +kernel
theorem dX4_takeKind_10 : decode cX4_takeKind 10 = .ok (.invokevirtual 40, 3) := by decide +kernel
theorem dX4_takeKind_13 : decode cX4_takeKind 13 = .ok (.istore_n 2, 1) := by decide +kernel
theorem dX4_takeKind_14 : decode cX4_takeKind 14 = .ok (.aload_n 0, 1) := by decide +kernel
theorem dX4_takeKind_15 : decode cX4_takeKind 15 = .ok (.iload_n 2, 1) := by decide +kernel
theorem dX4_takeKind_16 : decode cX4_takeKind 16 = .ok (.putfield 25, 3) := by decide +kernel
theorem dX4_takeKind_19 : decode cX4_takeKind 19 = .ok (.aload_n 0, 1) := by decide +kernel
theorem dX4_takeKind_20 : decode cX4_takeKind 20 = .ok (.iload_n 1, 1) := by decide +kernel
theorem dX4_takeKind_21 : decode cX4_takeKind 21 = .ok (.iload_n 2, 1) := by decide +kernel
theorem dX4_takeKind_22 : decode cX4_takeKind 22 = .ok (.ldc 98, 2) := by decide +kernel
theorem dX4_takeKind_24 : decode cX4_takeKind 24 = .ok (.invokevirtual 46, 3) := by decide +kernel
theorem dX4_takeKind_27 : decode cX4_takeKind 27 = .ok (.ifCond .eq 5, 3) := by decide +kernel
theorem dX4_takeKind_30 : decode cX4_takeKind 30 = .ok (.iconst 0, 1) := by decide +kernel
theorem dX4_takeKind_31 : decode cX4_takeKind 31 = .ok (.ireturn, 1) := by decide +kernel
theorem dX4_takeKind_32 : decode cX4_takeKind 32 = .ok (.aload_n 0, 1) := by decide +kernel
theorem dX4_takeKind_33 : decode cX4_takeKind 33 = .ok (.iload_n 1, 1) := by decide +kernel
theorem dX4_takeKind_34 : decode cX4_takeKind 34 = .ok (.iload_n 2, 1) := by decide +kernel
theorem dX4_takeKind_35 : decode cX4_takeKind 35 = .ok (.ldc 100, 2) := by decide +kernel
theorem dX4_takeKind_37 : decode cX4_takeKind 37 = .ok (.invokevirtual 46, 3) := by decide +kernel
theorem dX4_takeKind_40 : decode cX4_takeKind 40 = .ok (.ifCond .eq 5, 3) := by decide +kernel
theorem dX4_takeKind_43 : decode cX4_takeKind 43 = .ok (.iconst 1, 1) := by decide +kernel
theorem dX4_takeKind_44 : decode cX4_takeKind 44 = .ok (.ireturn, 1) := by decide +kernel
theorem dX4_takeKind_45 : decode cX4_takeKind 45 = .ok (.aload_n 0, 1) := by decide +kernel
theorem dX4_takeKind_46 : decode cX4_takeKind 46 = .ok (.iload_n 1, 1) := by decide +kernel
theorem dX4_takeKind_47 : decode cX4_takeKind 47 = .ok (.iload_n 2, 1) := by decide +kernel
theorem dX4_takeKind_48 : decode cX4_takeKind 48 = .ok (.ldc 102, 2) := by decide +kernel
theorem dX4_takeKind_50 : decode cX4_takeKind 50 = .ok (.invokevirtual 46, 3) := by decide +kernel
theorem dX4_takeKind_53 : decode cX4_takeKind 53 = .ok (.ifCond .eq 5, 3) := by decide +kernel
theorem dX4_takeKind_56 : decode cX4_takeKind 56 = .ok (.iconst 2, 1) := by decide +kernel
theorem dX4_takeKind_57 : decode cX4_takeKind 57 = .ok (.ireturn, 1) := by decide +kernel
theorem dX4_takeKind_58 : decode cX4_takeKind 58 = .ok (.aload_n 0, 1) := by decide +kernel
theorem dX4_takeKind_59 : decode cX4_takeKind 59 = .ok (.iload_n 1, 1) := by decide +kernel
theorem dX4_takeKind_60 : decode cX4_takeKind 60 = .ok (.iload_n 2, 1) := by decide +kernel
theorem dX4_takeKind_61 : decode cX4_takeKind 61 = .ok (.ldc 104, 2) := by decide +kernel
theorem dX4_takeKind_63 : decode cX4_takeKind 63 = .ok (.invokevirtual 46, 3) := by decide +kernel
theorem dX4_takeKind_66 : decode cX4_takeKind 66 = .ok (.ifCond .eq 5, 3) := by decide +kernel
theorem dX4_takeKind_69 : decode cX4_takeKind 69 = .ok (.iconst 3, 1) := by decide +kernel
theorem dX4_takeKind_70 : decode cX4_takeKind 70 = .ok (.ireturn, 1) := by decide +kernel
theorem dX4_takeKind_71 : decode cX4_takeKind 71 = .ok (.aload_n 0, 1) := by decide +kernel
theorem dX4_takeKind_72 : decode cX4_takeKind 72 = .ok (.iload_n 1, 1) := by decide +kernel
theorem dX4_takeKind_73 : decode cX4_takeKind 73 = .ok (.iload_n 2, 1) := by decide +kernel
theorem dX4_takeKind_74 : decode cX4_takeKind 74 = .ok (.ldc 106, 2) := by decide +kernel
theorem dX4_takeKind_76 : decode cX4_takeKind 76 = .ok (.invokevirtual 46, 3) := by decide +kernel
theorem dX4_takeKind_79 : decode cX4_takeKind 79 = .ok (.ifCond .eq 5, 3) := by decide +kernel
theorem dX4_takeKind_82 : decode cX4_takeKind 82 = .ok (.iconst 4, 1) := by decide +kernel
theorem dX4_takeKind_83 : decode cX4_takeKind 83 = .ok (.ireturn, 1) := by decide +kernel
theorem dX4_takeKind_84 : decode cX4_takeKind 84 = .ok (.aload_n 0, 1) := by decide +kernel
theorem dX4_takeKind_85 : decode cX4_takeKind 85 = .ok (.iconst 1, 1) := by decide +kernel
theorem dX4_takeKind_86 : decode cX4_takeKind 86 = .ok (.iload_n 1, 1) := by decide +kernel
theorem dX4_takeKind_87 : decode cX4_takeKind 87 = .ok (.invokevirtual 64, 3) := by decide +kernel
theorem dX4_takeKind_90 : decode cX4_takeKind 90 = .ok (.iconst (-1), 1) := by decide +kernel
theorem dX4_takeKind_91 : decode cX4_takeKind 91 = .ok (.ireturn, 1) := by decide +kernel
theorem dX4_takeNumber_0 : decode cX4_takeNumber 0 = .ok (.aload_n 0, 1) := by decide +kernel
theorem dX4_takeNumber_1 : decode cX4_takeNumber 1 = .ok (.invokevirtual 33, 3) := by decide +kernel
theorem dX4_takeNumber_4 : decode cX4_takeNumber 4 = .ok (.aload_n 0, 1) := by decide +kernel
theorem dX4_takeNumber_5 : decode cX4_takeNumber 5 = .ok (.getfield 25, 3) := by decide +kernel
theorem dX4_takeNumber_8 : decode cX4_takeNumber 8 = .ok (.istore_n 3, 1) := by decide +kernel
theorem dX4_takeNumber_9 : decode cX4_takeNumber 9 = .ok (.iconst 0, 1) := by decide +kernel
theorem dX4_takeNumber_10 : decode cX4_takeNumber 10 = .ok (.istore 4, 2) := by decide +kernel
theorem dX4_takeNumber_12 : decode cX4_takeNumber 12 = .ok (.aload_n 0, 1) := by decide +kernel
theorem dX4_takeNumber_13 : decode cX4_takeNumber 13 = .ok (.getfield 25, 3) := by decide +kernel
theorem dX4_takeNumber_16 : decode cX4_takeNumber 16 = .ok (.aload_n 0, 1) := by decide +kernel
theorem dX4_takeNumber_17 : decode cX4_takeNumber 17 = .ok (.getfield 15, 3) := by decide +kernel
theorem dX4_takeNumber_20 : decode cX4_takeNumber 20 = .ok (.if_icmp .ge 66, 3) := by decide +kernel
theorem dX4_takeNumber_23 : decode cX4_takeNumber 23 = .ok (.aload_n 0, 1) := by decide +kernel
theorem dX4_takeNumber_24 : decode cX4_takeNumber 24 = .ok (.getfield 9, 3) := by decide +kernel
theorem dX4_takeNumber_27 : decode cX4_takeNumber 27 = .ok (.aload_n 0, 1) := by decide +kernel
theorem dX4_takeNumber_28 : decode cX4_takeNumber 28 = .ok (.getfield 25, 3) := by decide +kernel
theorem dX4_takeNumber_31 : decode cX4_takeNumber 31 = .ok (.iaload, 1) := by decide +kernel
theorem dX4_takeNumber_32 : decode cX4_takeNumber 32 = .ok (.invokestatic 108, 3) := by decide +kernel
theorem dX4_takeNumber_35 : decode cX4_takeNumber 35 = .ok (.ifCond .eq 51, 3) := by decide +kernel
theorem dX4_takeNumber_38 : decode cX4_takeNumber 38 = .ok (.aload_n 0, 1) := by decide +kernel
theorem dX4_takeNumber_39 : decode cX4_takeNumber 39 = .ok (.getfield 25, 3) := by decide +kernel
theorem dX4_takeNumber_42 : decode cX4_takeNumber 42 = .ok (.iload_n 3, 1) := by decide +kernel
theorem dX4_takeNumber_43 : decode cX4_takeNumber 43 = .ok (.isub, 1) := by decide +kernel
theorem dX4_takeNumber_44 : decode cX4_takeNumber 44 = .ok (.iconst 3, 1) := by decide +kernel
theorem dX4_takeNumber_45 : decode cX4_takeNumber 45 = .ok (.if_icmp .ge 24, 3) := by decide +kernel
theorem dX4_takeNumber_48 : decode cX4_takeNumber 48 = .ok (.iload 4, 2) := by decide +kernel
theorem dX4_takeNumber_50 : decode cX4_takeNumber 50 = .ok (.bipush 10, 2) := by decide +kernel
theorem dX4_takeNumber_52 : decode cX4_takeNumber 52 = .ok (.imul, 1) := by decide +kernel
theorem dX4_takeNumber_53 : decode cX4_takeNumber 53 = .ok (.aload_n 0, 1) := by decide +kernel
theorem dX4_takeNumber_54 : decode cX4_takeNumber 54 = .ok (.getfield 9, 3) := by decide +kernel
theorem dX4_takeNumber_57 : decode cX4_takeNumber 57 = .ok (.aload_n 0, 1) := by decide +kernel
theorem dX4_takeNumber_58 : decode cX4_takeNumber 58 = .ok (.getfield 25, 3) := by decide +kernel
theorem dX4_takeNumber_61 : decode cX4_takeNumber 61 = .ok (.iaload, 1) := by decide +kernel
theorem dX4_takeNumber_62 : decode cX4_takeNumber 62 = .ok (.iadd, 1) := by decide +kernel
theorem dX4_takeNumber_63 : decode cX4_takeNumber 63 = .ok (.bipush 48, 2) := by decide +kernel
theorem dX4_takeNumber_65 : decode cX4_takeNumber 65 = .ok (.isub, 1) := by decide +kernel
theorem dX4_takeNumber_66 : decode cX4_takeNumber 66 = .ok (.goto 5, 3) := by decide +kernel
theorem dX4_takeNumber_69 : decode cX4_takeNumber 69 = .ok (.iload 4, 2) := by decide +kernel
theorem dX4_takeNumber_71 : decode cX4_takeNumber 71 = .ok (.istore 4, 2) := by decide +kernel
theorem dX4_takeNumber_73 : decode cX4_takeNumber 73 = .ok (.aload_n 0, 1) := by decide +kernel
theorem dX4_takeNumber_74 : decode cX4_takeNumber 74 = .ok (.dup, 1) := by decide +kernel
theorem dX4_takeNumber_75 : decode cX4_takeNumber 75 = .ok (.getfield 25, 3) := by decide +kernel
theorem dX4_takeNumber_78 : decode cX4_takeNumber 78 = .ok (.iconst 1, 1) := by decide +kernel
theorem dX4_takeNumber_79 : decode cX4_takeNumber 79 = .ok (.iadd, 1) := by decide +kernel
theorem dX4_takeNumber_80 : decode cX4_takeNumber 80 = .ok (.putfield 25, 3) := by decide +kernel
theorem dX4_takeNumber_83 : decode cX4_takeNumber 83 = .ok (.goto (-71), 3) := by decide +kernel
theorem dX4_takeNumber_86 : decode cX4_takeNumber 86 = .ok (.aload_n 0, 1) := by decide +kernel
theorem dX4_takeNumber_87 : decode cX4_takeNumber 87 = .ok (.getfield 25, 3) := by decide +kernel
theorem dX4_takeNumber_90 : decode cX4_takeNumber 90 = .ok (.iload_n 3, 1) := by decide +kernel
theorem dX4_takeNumber_91 : decode cX4_takeNumber 91 = .ok (.if_icmp .ne 12, 3) := by decide +kernel
theorem dX4_takeNumber_94 : decode cX4_takeNumber 94 = .ok (.aload_n 0, 1) := by decide +kernel
theorem dX4_takeNumber_95 : decode cX4_takeNumber 95 = .ok (.iconst 1, 1) := by decide +kernel
theorem dX4_takeNumber_96 : decode cX4_takeNumber 96 = .ok (.iload_n 3, 1) := by decide +kernel
theorem dX4_takeNumber_97 : decode cX4_takeNumber 97 = .ok (.invokevirtual 64, 3) := by decide +kernel
theorem dX4_takeNumber_100 : decode cX4_takeNumber 100 = .ok (.goto 31, 3) := by decide +kernel
theorem dX4_takeNumber_103 : decode cX4_takeNumber 103 = .ok (.aload_n 0, 1) := by decide +kernel
theorem dX4_takeNumber_104 : decode cX4_takeNumber 104 = .ok (.getfield 25, 3) := by decide +kernel
theorem dX4_takeNumber_107 : decode cX4_takeNumber 107 = .ok (.iload_n 3, 1) := by decide +kernel
theorem dX4_takeNumber_108 : decode cX4_takeNumber 108 = .ok (.isub, 1) := by decide +kernel
theorem dX4_takeNumber_109 : decode cX4_takeNumber 109 = .ok (.iconst 3, 1) := by decide +kernel
theorem dX4_takeNumber_110 : decode cX4_takeNumber 110 = .ok (.if_icmp .gt 15, 3) := by decide +kernel
theorem dX4_takeNumber_113 : decode cX4_takeNumber 113 = .ok (.iload 4, 2) := by decide +kernel
theorem dX4_takeNumber_115 : decode cX4_takeNumber 115 = .ok (.iload_n 1, 1) := by decide +kernel
theorem dX4_takeNumber_116 : decode cX4_takeNumber 116 = .ok (.if_icmp .lt 9, 3) := by decide +kernel
theorem dX4_takeNumber_119 : decode cX4_takeNumber 119 = .ok (.iload 4, 2) := by decide +kernel
theorem dX4_takeNumber_121 : decode cX4_takeNumber 121 = .ok (.iload_n 2, 1) := by decide +kernel
theorem dX4_takeNumber_122 : decode cX4_takeNumber 122 = .ok (.if_icmp .le 9, 3) := by decide +kernel
theorem dX4_takeNumber_125 : decode cX4_takeNumber 125 = .ok (.aload_n 0, 1) := by decide +kernel
theorem dX4_takeNumber_126 : decode cX4_takeNumber 126 = .ok (.iconst 2, 1) := by decide +kernel
theorem dX4_takeNumber_127 : decode cX4_takeNumber 127 = .ok (.iload_n 3, 1) := by decide +kernel
theorem dX4_takeNumber_128 : decode cX4_takeNumber 128 = .ok (.invokevirtual 64, 3) := by decide +kernel
theorem dX4_takeNumber_131 : decode cX4_takeNumber 131 = .ok (.iload 4, 2) := by decide +kernel
theorem dX4_takeNumber_133 : decode cX4_takeNumber 133 = .ok (.ireturn, 1) := by decide +kernel
theorem dX4_takeEnd_0 : decode cX4_takeEnd 0 = .ok (.aload_n 0, 1) := by decide +kernel
theorem dX4_takeEnd_1 : decode cX4_takeEnd 1 = .ok (.invokevirtual 33, 3) := by decide +kernel
theorem dX4_takeEnd_4 : decode cX4_takeEnd 4 = .ok (.aload_n 0, 1) := by decide +kernel
theorem dX4_takeEnd_5 : decode cX4_takeEnd 5 = .ok (.getfield 25, 3) := by decide +kernel
theorem dX4_takeEnd_8 : decode cX4_takeEnd 8 = .ok (.aload_n 0, 1) := by decide +kernel
theorem dX4_takeEnd_9 : decode cX4_takeEnd 9 = .ok (.getfield 15, 3) := by decide +kernel
theorem dX4_takeEnd_12 : decode cX4_takeEnd 12 = .ok (.if_icmp .ge 30, 3) := by decide +kernel
theorem dX4_takeEnd_15 : decode cX4_takeEnd 15 = .ok (.aload_n 0, 1) := by decide +kernel
theorem dX4_takeEnd_16 : decode cX4_takeEnd 16 = .ok (.getfield 9, 3) := by decide +kernel
theorem dX4_takeEnd_19 : decode cX4_takeEnd 19 = .ok (.aload_n 0, 1) := by decide +kernel
theorem dX4_takeEnd_20 : decode cX4_takeEnd 20 = .ok (.getfield 25, 3) := by decide +kernel
theorem dX4_takeEnd_23 : decode cX4_takeEnd 23 = .ok (.iaload, 1) := by decide +kernel
theorem dX4_takeEnd_24 : decode cX4_takeEnd 24 = .ok (.bipush 59, 2) := by decide +kernel
theorem dX4_takeEnd_26 : decode cX4_takeEnd 26 = .ok (.if_icmp .ne 16, 3) := by decide +kernel
theorem dX4_takeEnd_29 : decode cX4_takeEnd 29 = .ok (.aload_n 0, 1) := by decide +kernel
theorem dX4_takeEnd_30 : decode cX4_takeEnd 30 = .ok (.dup, 1) := by decide +kernel
theorem dX4_takeEnd_31 : decode cX4_takeEnd 31 = .ok (.getfield 25, 3) := by decide +kernel
theorem dX4_takeEnd_34 : decode cX4_takeEnd 34 = .ok (.iconst 1, 1) := by decide +kernel
theorem dX4_takeEnd_35 : decode cX4_takeEnd 35 = .ok (.iadd, 1) := by decide +kernel
theorem dX4_takeEnd_36 : decode cX4_takeEnd 36 = .ok (.putfield 25, 3) := by decide +kernel
theorem dX4_takeEnd_39 : decode cX4_takeEnd 39 = .ok (.goto 12, 3) := by decide +kernel
theorem dX4_takeEnd_42 : decode cX4_takeEnd 42 = .ok (.aload_n 0, 1) := by decide +kernel
theorem dX4_takeEnd_43 : decode cX4_takeEnd 43 = .ok (.iconst 1, 1) := by decide +kernel
theorem dX4_takeEnd_44 : decode cX4_takeEnd 44 = .ok (.aload_n 0, 1) := by decide +kernel
theorem dX4_takeEnd_45 : decode cX4_takeEnd 45 = .ok (.getfield 25, 3) := by decide +kernel
theorem dX4_takeEnd_48 : decode cX4_takeEnd 48 = .ok (.invokevirtual 64, 3) := by decide +kernel
theorem dX4_takeEnd_51 : decode cX4_takeEnd 51 = .ok (.return_, 1) := by decide +kernel
theorem dX4_skipBlanks_0 : decode cX4_skipBlanks 0 = .ok (.aload_n 0, 1) := by decide +kernel
theorem dX4_skipBlanks_1 : decode cX4_skipBlanks 1 = .ok (.getfield 25, 3) := by decide +kernel
theorem dX4_skipBlanks_4 : decode cX4_skipBlanks 4 = .ok (.aload_n 0, 1) := by decide +kernel
theorem dX4_skipBlanks_5 : decode cX4_skipBlanks 5 = .ok (.getfield 15, 3) := by decide +kernel
theorem dX4_skipBlanks_8 : decode cX4_skipBlanks 8 = .ok (.if_icmp .ge 30, 3) := by decide +kernel
theorem dX4_skipBlanks_11 : decode cX4_skipBlanks 11 = .ok (.aload_n 0, 1) := by decide +kernel
theorem dX4_skipBlanks_12 : decode cX4_skipBlanks 12 = .ok (.getfield 9, 3) := by decide +kernel
theorem dX4_skipBlanks_15 : decode cX4_skipBlanks 15 = .ok (.aload_n 0, 1) := by decide +kernel
theorem dX4_skipBlanks_16 : decode cX4_skipBlanks 16 = .ok (.getfield 25, 3) := by decide +kernel
theorem dX4_skipBlanks_19 : decode cX4_skipBlanks 19 = .ok (.iaload, 1) := by decide +kernel
theorem dX4_skipBlanks_20 : decode cX4_skipBlanks 20 = .ok (.bipush 32, 2) := by decide +kernel
theorem dX4_skipBlanks_22 : decode cX4_skipBlanks 22 = .ok (.if_icmp .ne 16, 3) := by decide +kernel
theorem dX4_skipBlanks_25 : decode cX4_skipBlanks 25 = .ok (.aload_n 0, 1) := by decide +kernel
theorem dX4_skipBlanks_26 : decode cX4_skipBlanks 26 = .ok (.dup, 1) := by decide +kernel
theorem dX4_skipBlanks_27 : decode cX4_skipBlanks 27 = .ok (.getfield 25, 3) := by decide +kernel
theorem dX4_skipBlanks_30 : decode cX4_skipBlanks 30 = .ok (.iconst 1, 1) := by decide +kernel
theorem dX4_skipBlanks_31 : decode cX4_skipBlanks 31 = .ok (.iadd, 1) := by decide +kernel
theorem dX4_skipBlanks_32 : decode cX4_skipBlanks 32 = .ok (.putfield 25, 3) := by decide +kernel
theorem dX4_skipBlanks_35 : decode cX4_skipBlanks 35 = .ok (.goto (-35), 3) := by decide +kernel
theorem dX4_skipBlanks_38 : decode cX4_skipBlanks 38 = .ok (.return_, 1) := by decide +kernel
theorem dX4_wordEnd_0 : decode cX4_wordEnd 0 = .ok (.aload_n 0, 1) := by decide +kernel
theorem dX4_wordEnd_1 : decode cX4_wordEnd 1 = .ok (.getfield 25, 3) := by decide +kernel
theorem dX4_wordEnd_4 : decode cX4_wordEnd 4 = .ok (.istore_n 1, 1) := by decide +kernel
theorem dX4_wordEnd_5 : decode cX4_wordEnd 5 = .ok (.iload_n 1, 1) := by decide +kernel
theorem dX4_wordEnd_6 : decode cX4_wordEnd 6 = .ok (.aload_n 0, 1) := by decide +kernel
theorem dX4_wordEnd_7 : decode cX4_wordEnd 7 = .ok (.getfield 15, 3) := by decide +kernel
theorem dX4_wordEnd_10 : decode cX4_wordEnd 10 = .ok (.if_icmp .ge 31, 3) := by decide +kernel
theorem dX4_wordEnd_13 : decode cX4_wordEnd 13 = .ok (.aload_n 0, 1) := by decide +kernel
theorem dX4_wordEnd_14 : decode cX4_wordEnd 14 = .ok (.getfield 9, 3) := by decide +kernel
theorem dX4_wordEnd_17 : decode cX4_wordEnd 17 = .ok (.iload_n 1, 1) := by decide +kernel
theorem dX4_wordEnd_18 : decode cX4_wordEnd 18 = .ok (.iaload, 1) := by decide +kernel
theorem dX4_wordEnd_19 : decode cX4_wordEnd 19 = .ok (.bipush 97, 2) := by decide +kernel
theorem dX4_wordEnd_21 : decode cX4_wordEnd 21 = .ok (.if_icmp .lt 20, 3) := by decide +kernel
theorem dX4_wordEnd_24 : decode cX4_wordEnd 24 = .ok (.aload_n 0, 1) := by decide +kernel
theorem dX4_wordEnd_25 : decode cX4_wordEnd 25 = .ok (.getfield 9, 3) := by decide +kernel
theorem dX4_wordEnd_28 : decode cX4_wordEnd 28 = .ok (.iload_n 1, 1) := by decide +kernel
theorem dX4_wordEnd_29 : decode cX4_wordEnd 29 = .ok (.iaload, 1) := by decide +kernel
theorem dX4_wordEnd_30 : decode cX4_wordEnd 30 = .ok (.bipush 122, 2) := by decide +kernel
theorem dX4_wordEnd_32 : decode cX4_wordEnd 32 = .ok (.if_icmp .gt 9, 3) := by decide +kernel
theorem dX4_wordEnd_35 : decode cX4_wordEnd 35 = .ok (.iinc 1 1, 3) := by decide +kernel
theorem dX4_wordEnd_38 : decode cX4_wordEnd 38 = .ok (.goto (-33), 3) := by decide +kernel
theorem dX4_wordEnd_41 : decode cX4_wordEnd 41 = .ok (.iload_n 1, 1) := by decide +kernel
theorem dX4_wordEnd_42 : decode cX4_wordEnd 42 = .ok (.ireturn, 1) := by decide +kernel
theorem dX4_spells_0 : decode cX4_spells 0 = .ok (.iload_n 2, 1) := by decide +kernel
theorem dX4_spells_1 : decode cX4_spells 1 = .ok (.iload_n 1, 1) := by decide +kernel
theorem dX4_spells_2 : decode cX4_spells 2 = .ok (.isub, 1) := by decide +kernel
theorem dX4_spells_3 : decode cX4_spells 3 = .ok (.aload_n 3, 1) := by decide +kernel
theorem dX4_spells_4 : decode cX4_spells 4 = .ok (.invokevirtual 112, 3) := by decide +kernel
theorem dX4_spells_7 : decode cX4_spells 7 = .ok (.if_icmp .eq 5, 3) := by decide +kernel
theorem dX4_spells_10 : decode cX4_spells 10 = .ok (.iconst 0, 1) := by decide +kernel
theorem dX4_spells_11 : decode cX4_spells 11 = .ok (.ireturn, 1) := by decide +kernel
theorem dX4_spells_12 : decode cX4_spells 12 = .ok (.iconst 0, 1) := by decide +kernel
theorem dX4_spells_13 : decode cX4_spells 13 = .ok (.istore 4, 2) := by decide +kernel
theorem dX4_spells_15 : decode cX4_spells 15 = .ok (.iload 4, 2) := by decide +kernel
theorem dX4_spells_17 : decode cX4_spells 17 = .ok (.aload_n 3, 1) := by decide +kernel
theorem dX4_spells_18 : decode cX4_spells 18 = .ok (.invokevirtual 112, 3) := by decide +kernel
theorem dX4_spells_21 : decode cX4_spells 21 = .ok (.if_icmp .ge 29, 3) := by decide +kernel
theorem dX4_spells_24 : decode cX4_spells 24 = .ok (.aload_n 0, 1) := by decide +kernel
theorem dX4_spells_25 : decode cX4_spells 25 = .ok (.getfield 9, 3) := by decide +kernel
theorem dX4_spells_28 : decode cX4_spells 28 = .ok (.iload_n 1, 1) := by decide +kernel
theorem dX4_spells_29 : decode cX4_spells 29 = .ok (.iload 4, 2) := by decide +kernel
theorem dX4_spells_31 : decode cX4_spells 31 = .ok (.iadd, 1) := by decide +kernel
theorem dX4_spells_32 : decode cX4_spells 32 = .ok (.iaload, 1) := by decide +kernel
theorem dX4_spells_33 : decode cX4_spells 33 = .ok (.aload_n 3, 1) := by decide +kernel
theorem dX4_spells_34 : decode cX4_spells 34 = .ok (.iload 4, 2) := by decide +kernel
theorem dX4_spells_36 : decode cX4_spells 36 = .ok (.invokevirtual 116, 3) := by decide +kernel
theorem dX4_spells_39 : decode cX4_spells 39 = .ok (.if_icmp .eq 5, 3) := by decide +kernel
theorem dX4_spells_42 : decode cX4_spells 42 = .ok (.iconst 0, 1) := by decide +kernel
theorem dX4_spells_43 : decode cX4_spells 43 = .ok (.ireturn, 1) := by decide +kernel
theorem dX4_spells_44 : decode cX4_spells 44 = .ok (.iinc 4 1, 3) := by decide +kernel
theorem dX4_spells_47 : decode cX4_spells 47 = .ok (.goto (-32), 3) := by decide +kernel
theorem dX4_spells_50 : decode cX4_spells 50 = .ok (.iconst 1, 1) := by decide +kernel
theorem dX4_spells_51 : decode cX4_spells 51 = .ok (.ireturn, 1) := by decide +kernel
theorem dX4_isFigure_0 : decode cX4_isFigure 0 = .ok (.iload_n 0, 1) := by decide +kernel
theorem dX4_isFigure_1 : decode cX4_isFigure 1 = .ok (.bipush 48, 2) := by decide +kernel
theorem dX4_isFigure_3 : decode cX4_isFigure 3 = .ok (.if_icmp .lt 13, 3) := by decide +kernel
theorem dX4_isFigure_6 : decode cX4_isFigure 6 = .ok (.iload_n 0, 1) := by decide +kernel
theorem dX4_isFigure_7 : decode cX4_isFigure 7 = .ok (.bipush 57, 2) := by decide +kernel
theorem dX4_isFigure_9 : decode cX4_isFigure 9 = .ok (.if_icmp .gt 7, 3) := by decide +kernel
theorem dX4_isFigure_12 : decode cX4_isFigure 12 = .ok (.iconst 1, 1) := by decide +kernel
theorem dX4_isFigure_13 : decode cX4_isFigure 13 = .ok (.goto 4, 3) := by decide +kernel
theorem dX4_isFigure_16 : decode cX4_isFigure 16 = .ok (.iconst 0, 1) := by decide +kernel
theorem dX4_isFigure_17 : decode cX4_isFigure 17 = .ok (.ireturn, 1) := by decide +kernel
theorem dX4_fail_0 : decode cX4_fail 0 = .ok (.aload_n 0, 1) := by decide +kernel
theorem dX4_fail_1 : decode cX4_fail 1 = .ok (.getfield 19, 3) := by decide +kernel
theorem dX4_fail_4 : decode cX4_fail 4 = .ok (.ifCond .ne 13, 3) := by decide +kernel
theorem dX4_fail_7 : decode cX4_fail 7 = .ok (.aload_n 0, 1) := by decide +kernel
theorem dX4_fail_8 : decode cX4_fail 8 = .ok (.iload_n 1, 1) := by decide +kernel
theorem dX4_fail_9 : decode cX4_fail 9 = .ok (.putfield 19, 3) := by decide +kernel
theorem dX4_fail_12 : decode cX4_fail 12 = .ok (.aload_n 0, 1) := by decide +kernel
theorem dX4_fail_13 : decode cX4_fail 13 = .ok (.iload_n 2, 1) := by decide +kernel
theorem dX4_fail_14 : decode cX4_fail 14 = .ok (.putfield 22, 3) := by decide +kernel
theorem dX4_fail_17 : decode cX4_fail 17 = .ok (.return_, 1) := by decide +kernel
theorem dX5_open_0 : decode cX5_open 0 = .ok (.aload_n 0, 1) := by decide +kernel
theorem dX5_open_1 : decode cX5_open 1 = .ok (.aload_n 0, 1) := by decide +kernel
theorem dX5_open_2 : decode cX5_open 2 = .ok (.getfield 50, 3) := by decide +kernel
theorem dX5_open_5 : decode cX5_open 5 = .ok (.getfield 60, 3) := by decide +kernel
theorem dX5_open_8 : decode cX5_open 8 = .ok (.putfield 40, 3) := by decide +kernel
theorem dX5_open_11 : decode cX5_open 11 = .ok (.iconst 0, 1) := by decide +kernel
theorem dX5_open_12 : decode cX5_open 12 = .ok (.istore_n 1, 1) := by decide +kernel
theorem dX5_open_13 : decode cX5_open 13 = .ok (.iload_n 1, 1) := by decide +kernel
theorem dX5_open_14 : decode cX5_open 14 = .ok (.aload_n 0, 1) := by decide +kernel
theorem dX5_open_15 : decode cX5_open 15 = .ok (.getfield 50, 3) := by decide +kernel
theorem dX5_open_18 : decode cX5_open 18 = .ok (.getfield 60, 3) := by decide +kernel
theorem dX5_open_21 : decode cX5_open 21 = .ok (.if_icmp .ge 52, 3) := by decide +kernel
theorem dX5_open_24 : decode cX5_open 24 = .ok (.aload_n 0, 1) := by decide +kernel
theorem dX5_open_25 : decode cX5_open 25 = .ok (.getfield 18, 3) := by decide +kernel
theorem dX5_open_28 : decode cX5_open 28 = .ok (.iload_n 1, 1) := by decide +kernel
theorem dX5_open_29 : decode cX5_open 29 = .ok (.iload_n 1, 1) := by decide +kernel
theorem dX5_open_30 : decode cX5_open 30 = .ok (.iastore, 1) := by decide +kernel
theorem dX5_open_31 : decode cX5_open 31 = .ok (.aload_n 0, 1) := by decide +kernel
theorem dX5_open_32 : decode cX5_open 32 = .ok (.getfield 22, 3) := by decide +kernel
theorem dX5_open_35 : decode cX5_open 35 = .ok (.iload_n 1, 1) := by decide +kernel
theorem dX5_open_36 : decode cX5_open 36 = .ok (.iconst 0, 1) := by decide +kernel
theorem dX5_open_37 : decode cX5_open 37 = .ok (.iastore, 1) := by decide +kernel
theorem dX5_open_38 : decode cX5_open 38 = .ok (.aload_n 0, 1) := by decide +kernel
theorem dX5_open_39 : decode cX5_open 39 = .ok (.getfield 25, 3) := by decide +kernel
theorem dX5_open_42 : decode cX5_open 42 = .ok (.iload_n 1, 1) := by decide +kernel
theorem dX5_open_43 : decode cX5_open 43 = .ok (.aload_n 0, 1) := by decide +kernel
theorem dX5_open_44 : decode cX5_open 44 = .ok (.getfield 50, 3) := by decide +kernel
theorem dX5_open_47 : decode cX5_open 47 = .ok (.getfield 65, 3) := by decide +kernel
theorem dX5_open_50 : decode cX5_open 50 = .ok (.iload_n 1, 1) := by decide +kernel
theorem dX5_open_51 : decode cX5_open 51 = .ok (.iaload, 1) := by decide +kernel
theorem dX5_open_52 : decode cX5_open 52 = .ok (.iastore, 1) := by decide +kernel
theorem dX5_open_53 : decode cX5_open 53 = .ok (.aload_n 0, 1) := by decide +kernel
theorem dX5_open_54 : decode cX5_open 54 = .ok (.getfield 28, 3) := by decide +kernel
theorem dX5_open_57 : decode cX5_open 57 = .ok (.iload_n 1, 1) := by decide +kernel
theorem dX5_open_58 : decode cX5_open 58 = .ok (.iconst (-1), 1) := by decide +kernel
theorem dX5_open_59 : decode cX5_open 59 = .ok (.iastore, 1) := by decide +kernel
theorem dX5_open_60 : decode cX5_open 60 = .ok (.aload_n 0, 1) := by decide +kernel
theorem dX5_open_61 : decode cX5_open 61 = .ok (.getfield 37, 3) := by decide +kernel
theorem dX5_open_64 : decode cX5_open 64 = .ok (.iload_n 1, 1) := by decide +kernel
theorem dX5_open_65 : decode cX5_open 65 = .ok (.iconst 0, 1) := by decide +kernel
theorem dX5_open_66 : decode cX5_open 66 = .ok (.iastore, 1) := by decide +kernel
theorem dX5_open_67 : decode cX5_open 67 = .ok (.iinc 1 1, 3) := by decide +kernel
theorem dX5_open_70 : decode cX5_open 70 = .ok (.goto (-57), 3) := by decide +kernel
theorem dX5_open_73 : decode cX5_open 73 = .ok (.aload_n 0, 1) := by decide +kernel
theorem dX5_open_74 : decode cX5_open 74 = .ok (.getfield 31, 3) := by decide +kernel
theorem dX5_open_77 : decode cX5_open 77 = .ok (.iconst (-1), 1) := by decide +kernel
theorem dX5_open_78 : decode cX5_open 78 = .ok (.invokestatic 54, 3) := by decide +kernel
theorem dX5_open_81 : decode cX5_open 81 = .ok (.aload_n 0, 1) := by decide +kernel
theorem dX5_open_82 : decode cX5_open 82 = .ok (.getfield 12, 3) := by decide +kernel
theorem dX5_open_85 : decode cX5_open 85 = .ok (.iconst 0, 1) := by decide +kernel
theorem dX5_open_86 : decode cX5_open 86 = .ok (.putfield 68, 3) := by decide +kernel
theorem dX5_open_89 : decode cX5_open 89 = .ok (.aload_n 0, 1) := by decide +kernel
theorem dX5_open_90 : decode cX5_open 90 = .ok (.iconst 0, 1) := by decide +kernel
theorem dX5_open_91 : decode cX5_open 91 = .ok (.putfield 44, 3) := by decide +kernel
theorem dX5_open_94 : decode cX5_open 94 = .ok (.return_, 1) := by decide +kernel
theorem dX5_copyFrom_0 : decode cX5_copyFrom 0 = .ok (.aload_n 0, 1) := by decide +kernel
theorem dX5_copyFrom_1 : decode cX5_copyFrom 1 = .ok (.aload_n 1, 1) := by decide +kernel
theorem dX5_copyFrom_2 : decode cX5_copyFrom 2 = .ok (.invokevirtual 71, 3) := by decide +kernel
theorem dX5_copyFrom_5 : decode cX5_copyFrom 5 = .ok (.aload_n 1, 1) := by decide +kernel
theorem dX5_copyFrom_6 : decode cX5_copyFrom 6 = .ok (.getfield 37, 3) := by decide +kernel
theorem dX5_copyFrom_9 : decode cX5_copyFrom 9 = .ok (.iconst 0, 1) := by decide +kernel
theorem dX5_copyFrom_10 : decode cX5_copyFrom 10 = .ok (.aload_n 0, 1) := by decide +kernel
theorem dX5_copyFrom_11 : decode cX5_copyFrom 11 = .ok (.getfield 37, 3) := by decide +kernel
theorem dX5_copyFrom_14 : decode cX5_copyFrom 14 = .ok (.iconst 0, 1) := by decide +kernel
theorem dX5_copyFrom_15 : decode cX5_copyFrom 15 = .ok (.bipush 16, 2) := by decide +kernel
theorem dX5_copyFrom_17 : decode cX5_copyFrom 17 = .ok (.invokestatic 75, 3) := by decide +kernel
theorem dX5_copyFrom_20 : decode cX5_copyFrom 20 = .ok (.aload_n 0, 1) := by decide +kernel
theorem dX5_copyFrom_21 : decode cX5_copyFrom 21 = .ok (.getfield 12, 3) := by decide +kernel
theorem dX5_copyFrom_24 : decode cX5_copyFrom 24 = .ok (.aload_n 1, 1) := by decide +kernel
theorem dX5_copyFrom_25 : decode cX5_copyFrom 25 = .ok (.getfield 12, 3) := by decide +kernel
theorem dX5_copyFrom_28 : decode cX5_copyFrom 28 = .ok (.invokevirtual 81, 3) := by decide +kernel
theorem dX5_copyFrom_31 : decode cX5_copyFrom 31 = .ok (.return_, 1) := by decide +kernel
theorem dX5_copyBooks_0 : decode cX5_copyBooks 0 = .ok (.aload_n 1, 1) := by decide +kernel
theorem dX5_copyBooks_1 : decode cX5_copyBooks 1 = .ok (.getfield 18, 3) := by decide +kernel
theorem dX5_copyBooks_4 : decode cX5_copyBooks 4 = .ok (.iconst 0, 1) := by decide +kernel
theorem dX5_copyBooks_5 : decode cX5_copyBooks 5 = .ok (.aload_n 0, 1) := by decide +kernel
theorem dX5_copyBooks_6 : decode cX5_copyBooks 6 = .ok (.getfield 18, 3) := by decide +kernel
theorem dX5_copyBooks_9 : decode cX5_copyBooks 9 = .ok (.iconst 0, 1) := by decide +kernel
theorem dX5_copyBooks_10 : decode cX5_copyBooks 10 = .ok (.bipush 40, 2) := by decide +kernel
theorem dX5_copyBooks_12 : decode cX5_copyBooks 12 = .ok (.invokestatic 75, 3) := by decide +kernel
theorem dX5_copyBooks_15 : decode cX5_copyBooks 15 = .ok (.aload_n 1, 1) := by decide +kernel
theorem dX5_copyBooks_16 : decode cX5_copyBooks 16 = .ok (.getfield 22, 3) := by decide +kernel
theorem dX5_copyBooks_19 : decode cX5_copyBooks 19 = .ok (.iconst 0, 1) := by decide +kernel
theorem dX5_copyBooks_20 : decode cX5_copyBooks 20 = .ok (.aload_n 0, 1) := by decide +kernel
theorem dX5_copyBooks_21 : decode cX5_copyBooks 21 = .ok (.getfield 22, 3) := by decide +kernel
theorem dX5_copyBooks_24 : decode cX5_copyBooks 24 = .ok (.iconst 0, 1) := by decide +kernel
theorem dX5_copyBooks_25 : decode cX5_copyBooks 25 = .ok (.bipush 40, 2) := by decide +kernel
theorem dX5_copyBooks_27 : decode cX5_copyBooks 27 = .ok (.invokestatic 75, 3) := by decide +kernel
theorem dX5_copyBooks_30 : decode cX5_copyBooks 30 = .ok (.aload_n 1, 1) := by decide +kernel
theorem dX5_copyBooks_31 : decode cX5_copyBooks 31 = .ok (.getfield 25, 3) := by decide +kernel
theorem dX5_copyBooks_34 : decode cX5_copyBooks 34 = .ok (.iconst 0, 1) := by decide +kernel
theorem dX5_copyBooks_35 : decode cX5_copyBooks 35 = .ok (.aload_n 0, 1) := by decide +kernel
theorem dX5_copyBooks_36 : decode cX5_copyBooks 36 = .ok (.getfield 25, 3) := by decide +kernel
theorem dX5_copyBooks_39 : decode cX5_copyBooks 39 = .ok (.iconst 0, 1) := by decide +kernel
theorem dX5_copyBooks_40 : decode cX5_copyBooks 40 = .ok (.bipush 40, 2) := by decide +kernel
theorem dX5_copyBooks_42 : decode cX5_copyBooks 42 = .ok (.invokestatic 75, 3) := by decide +kernel
theorem dX5_copyBooks_45 : decode cX5_copyBooks 45 = .ok (.aload_n 1, 1) := by decide +kernel
theorem dX5_copyBooks_46 : decode cX5_copyBooks 46 = .ok (.getfield 28, 3) := by decide +kernel
theorem dX5_copyBooks_49 : decode cX5_copyBooks 49 = .ok (.iconst 0, 1) := by decide +kernel
theorem dX5_copyBooks_50 : decode cX5_copyBooks 50 = .ok (.aload_n 0, 1) := by decide +kernel
theorem dX5_copyBooks_51 : decode cX5_copyBooks 51 = .ok (.getfield 28, 3) := by decide +kernel
theorem dX5_copyBooks_54 : decode cX5_copyBooks 54 = .ok (.iconst 0, 1) := by decide +kernel
theorem dX5_copyBooks_55 : decode cX5_copyBooks 55 = .ok (.bipush 40, 2) := by decide +kernel
theorem dX5_copyBooks_57 : decode cX5_copyBooks 57 = .ok (.invokestatic 75, 3) := by decide +kernel
theorem dX5_copyBooks_60 : decode cX5_copyBooks 60 = .ok (.aload_n 1, 1) := by decide +kernel
theorem dX5_copyBooks_61 : decode cX5_copyBooks 61 = .ok (.getfield 31, 3) := by decide +kernel
theorem dX5_copyBooks_64 : decode cX5_copyBooks 64 = .ok (.iconst 0, 1) := by decide +kernel
theorem dX5_copyBooks_65 : decode cX5_copyBooks 65 = .ok (.aload_n 0, 1) := by decide +kernel
theorem dX5_copyBooks_66 : decode cX5_copyBooks 66 = .ok (.getfield 31, 3) := by decide +kernel
theorem dX5_copyBooks_69 : decode cX5_copyBooks 69 = .ok (.iconst 0, 1) := by decide +kernel
theorem dX5_copyBooks_70 : decode cX5_copyBooks 70 = .ok (.sipush 128, 3) := by decide +kernel
theorem dX5_copyBooks_73 : decode cX5_copyBooks 73 = .ok (.invokestatic 75, 3) := by decide +kernel
theorem dX5_copyBooks_76 : decode cX5_copyBooks 76 = .ok (.aload_n 1, 1) := by decide +kernel
theorem dX5_copyBooks_77 : decode cX5_copyBooks 77 = .ok (.getfield 34, 3) := by decide +kernel
theorem dX5_copyBooks_80 : decode cX5_copyBooks 80 = .ok (.iconst 0, 1) := by decide +kernel
theorem dX5_copyBooks_81 : decode cX5_copyBooks 81 = .ok (.aload_n 0, 1) := by decide +kernel
theorem dX5_copyBooks_82 : decode cX5_copyBooks 82 = .ok (.getfield 34, 3) := by decide +kernel
theorem dX5_copyBooks_85 : decode cX5_copyBooks 85 = .ok (.iconst 0, 1) := by decide +kernel
theorem dX5_copyBooks_86 : decode cX5_copyBooks 86 = .ok (.sipush 128, 3) := by decide +kernel
theorem dX5_copyBooks_89 : decode cX5_copyBooks 89 = .ok (.invokestatic 75, 3) := by decide +kernel
theorem dX5_copyBooks_92 : decode cX5_copyBooks 92 = .ok (.aload_n 0, 1) := by decide +kernel
theorem dX5_copyBooks_93 : decode cX5_copyBooks 93 = .ok (.aload_n 1, 1) := by decide +kernel
theorem dX5_copyBooks_94 : decode cX5_copyBooks 94 = .ok (.getfield 40, 3) := by decide +kernel
theorem dX5_copyBooks_97 : decode cX5_copyBooks 97 = .ok (.putfield 40, 3) := by decide +kernel
theorem dX5_copyBooks_100 : decode cX5_copyBooks 100 = .ok (.aload_n 0, 1) := by decide +kernel
theorem dX5_copyBooks_101 : decode cX5_copyBooks 101 = .ok (.aload_n 1, 1) := by decide +kernel
theorem dX5_copyBooks_102 : decode cX5_copyBooks 102 = .ok (.getfield 44, 3) := by decide +kernel
theorem dX5_copyBooks_105 : decode cX5_copyBooks 105 = .ok (.putfield 44, 3) := by decide +kernel
theorem dX5_copyBooks_108 : decode cX5_copyBooks 108 = .ok (.aload_n 0, 1) := by decide +kernel
theorem dX5_copyBooks_109 : decode cX5_copyBooks 109 = .ok (.aload_n 1, 1) := by decide +kernel
theorem dX5_copyBooks_110 : decode cX5_copyBooks 110 = .ok (.getfield 47, 3) := by decide +kernel
theorem dX5_copyBooks_113 : decode cX5_copyBooks 113 = .ok (.putfield 47, 3) := by decide +kernel
theorem dX5_copyBooks_116 : decode cX5_copyBooks 116 = .ok (.return_, 1) := by decide +kernel
theorem dX5_hasPage_0 : decode cX5_hasPage 0 = .ok (.iload_n 1, 1) := by decide +kernel
theorem dX5_hasPage_1 : decode cX5_hasPage 1 = .ok (.ifCond .lt 15, 3) := by decide +kernel
theorem dX5_hasPage_4 : decode cX5_hasPage 4 = .ok (.iload_n 1, 1) := by decide +kernel
theorem dX5_hasPage_5 : decode cX5_hasPage 5 = .ok (.aload_n 0, 1) := by decide +kernel
theorem dX5_hasPage_6 : decode cX5_hasPage 6 = .ok (.getfield 40, 3) := by decide +kernel
theorem dX5_hasPage_9 : decode cX5_hasPage 9 = .ok (.if_icmp .ge 7, 3) := by decide +kernel
theorem dX5_hasPage_12 : decode cX5_hasPage 12 = .ok (.iconst 1, 1) := by decide +kernel
theorem dX5_hasPage_13 : decode cX5_hasPage 13 = .ok (.goto 4, 3) := by decide +kernel
theorem dX5_hasPage_16 : decode cX5_hasPage 16 = .ok (.iconst 0, 1) := by decide +kernel
theorem dX5_hasPage_17 : decode cX5_hasPage 17 = .ok (.ireturn, 1) := by decide +kernel
theorem dX5_isGone_0 : decode cX5_isGone 0 = .ok (.aload_n 0, 1) := by decide +kernel
theorem dX5_isGone_1 : decode cX5_isGone 1 = .ok (.getfield 25, 3) := by decide +kernel
theorem dX5_isGone_4 : decode cX5_isGone 4 = .ok (.iload_n 1, 1) := by decide +kernel
theorem dX5_isGone_5 : decode cX5_isGone 5 = .ok (.iaload, 1) := by decide +kernel
theorem dX5_isGone_6 : decode cX5_isGone 6 = .ok (.bipush 9, 2) := by decide +kernel
theorem dX5_isGone_8 : decode cX5_isGone 8 = .ok (.if_icmp .lt 7, 3) := by decide +kernel
theorem dX5_isGone_11 : decode cX5_isGone 11 = .ok (.iconst 1, 1) := by decide +kernel
theorem dX5_isGone_12 : decode cX5_isGone 12 = .ok (.goto 4, 3) := by decide +kernel
theorem dX5_isGone_15 : decode cX5_isGone 15 = .ok (.iconst 0, 1) := by decide +kernel
theorem dX5_isGone_16 : decode cX5_isGone 16 = .ok (.ireturn, 1) := by decide +kernel
theorem dX5_isFull_0 : decode cX5_isFull 0 = .ok (.aload_n 0, 1) := by decide +kernel
theorem dX5_isFull_1 : decode cX5_isFull 1 = .ok (.getfield 40, 3) := by decide +kernel
theorem dX5_isFull_4 : decode cX5_isFull 4 = .ok (.bipush 40, 2) := by decide +kernel
theorem dX5_isFull_6 : decode cX5_isFull 6 = .ok (.if_icmp .lt 7, 3) := by decide +kernel
theorem dX5_isFull_9 : decode cX5_isFull 9 = .ok (.iconst 1, 1) := by decide +kernel
theorem dX5_isFull_10 : decode cX5_isFull 10 = .ok (.goto 4, 3) := by decide +kernel
theorem dX5_isFull_13 : decode cX5_isFull 13 = .ok (.iconst 0, 1) := by decide +kernel
theorem dX5_isFull_14 : decode cX5_isFull 14 = .ok (.ireturn, 1) := by decide +kernel
theorem dX5_heart_0 : decode cX5_heart 0 = .ok (.iload_n 0, 1) := by decide +kernel
theorem dX5_heart_1 : decode cX5_heart 1 = .ok (.bipush 16, 2) := by decide +kernel
theorem dX5_heart_3 : decode cX5_heart 3 = .ok (.imul, 1) := by decide +kernel
theorem dX5_heart_4 : decode cX5_heart 4 = .ok (.iload_n 1, 1) := by decide +kernel
theorem dX5_heart_5 : decode cX5_heart 5 = .ok (.iadd, 1) := by decide +kernel
theorem dX5_heart_6 : decode cX5_heart 6 = .ok (.ireturn, 1) := by decide +kernel
theorem dX5_variantAt_0 : decode cX5_variantAt 0 = .ok (.iload_n 1, 1) := by decide +kernel
theorem dX5_variantAt_1 : decode cX5_variantAt 1 = .ok (.iload_n 2, 1) := by decide +kernel
theorem dX5_variantAt_2 : decode cX5_variantAt 2 = .ok (.invokestatic 85, 3) := by decide +kernel
theorem dX5_variantAt_5 : decode cX5_variantAt 5 = .ok (.istore 4, 2) := by decide +kernel
theorem dX5_variantAt_7 : decode cX5_variantAt 7 = .ok (.iload_n 3, 1) := by decide +kernel
theorem dX5_variantAt_8 : decode cX5_variantAt 8 = .ok (.aload_n 0, 1) := by decide +kernel
theorem dX5_variantAt_9 : decode cX5_variantAt 9 = .ok (.getfield 34, 3) := by decide +kernel
theorem dX5_variantAt_12 : decode cX5_variantAt 12 = .ok (.iload 4, 2) := by decide +kernel
theorem dX5_variantAt_14 : decode cX5_variantAt 14 = .ok (.iaload, 1) := by decide +kernel
theorem dX5_variantAt_15 : decode cX5_variantAt 15 = .ok (.isub, 1) := by decide +kernel
theorem dX5_variantAt_16 : decode cX5_variantAt 16 = .ok (.aload_n 0, 1) := by decide +kernel
theorem dX5_variantAt_17 : decode cX5_variantAt 17 = .ok (.getfield 50, 3) := by decide +kernel
theorem dX5_variantAt_20 : decode cX5_variantAt 20 = .ok (.getfield 89, 3) := by decide +kernel
theorem dX5_variantAt_23 : decode cX5_variantAt 23 = .ok (.iload_n 1, 1) := by decide +kernel
theorem dX5_variantAt_24 : decode cX5_variantAt 24 = .ok (.iaload, 1) := by decide +kernel
theorem dX5_variantAt_25 : decode cX5_variantAt 25 = .ok (.if_icmp .ge 13, 3) := by decide +kernel
theorem dX5_variantAt_28 : decode cX5_variantAt 28 = .ok (.aload_n 0, 1) := by decide +kernel
theorem dX5_variantAt_29 : decode cX5_variantAt 29 = .ok (.getfield 31, 3) := by decide +kernel
theorem dX5_variantAt_32 : decode cX5_variantAt 32 = .ok (.iload 4, 2) := by decide +kernel
theorem dX5_variantAt_34 : decode cX5_variantAt 34 = .ok (.iaload, 1) := by decide +kernel
theorem dX5_variantAt_35 : decode cX5_variantAt 35 = .ok (.goto 4, 3) := by decide +kernel
theorem dX5_variantAt_38 : decode cX5_variantAt 38 = .ok (.iconst (-1), 1) := by decide +kernel
theorem dX5_variantAt_39 : decode cX5_variantAt 39 = .ok (.ireturn, 1) := by decide +kernel
theorem dX5_variantKnown_0 : decode cX5_variantKnown 0 = .ok (.aload_n 0, 1) := by decide +kernel
theorem dX5_variantKnown_1 : decode cX5_variantKnown 1 = .ok (.iload_n 1, 1) := by decide +kernel
theorem dX5_variantKnown_2 : decode cX5_variantKnown 2 = .ok (.iload_n 2, 1) := by decide +kernel
theorem dX5_variantKnown_3 : decode cX5_variantKnown 3 = .ok (.aload_n 0, 1) := by decide +kernel
theorem dX5_variantKnown_4 : decode cX5_variantKnown 4 = .ok (.getfield 44, 3) := by decide +kernel
theorem dX5_variantKnown_7 : decode cX5_variantKnown 7 = .ok (.invokevirtual 92, 3) := by decide +kernel
theorem dX5_variantKnown_10 : decode cX5_variantKnown 10 = .ok (.ireturn, 1) := by decide +kernel
theorem dX5_knowsAny_0 : decode cX5_knowsAny 0 = .ok (.aload_n 0, 1) := by decide +kernel
theorem dX5_knowsAny_1 : decode cX5_knowsAny 1 = .ok (.iload_n 1, 1) := by decide +kernel
theorem dX5_knowsAny_2 : decode cX5_knowsAny 2 = .ok (.iload_n 2, 1) := by decide +kernel
theorem dX5_knowsAny_3 : decode cX5_knowsAny 3 = .ok (.invokevirtual 96, 3) := by decide +kernel
theorem dX5_knowsAny_6 : decode cX5_knowsAny 6 = .ok (.iconst (-1), 1) := by decide +kernel
theorem dX5_knowsAny_7 : decode cX5_knowsAny 7 = .ok (.if_icmp .eq 7, 3) := by decide +kernel
theorem dX5_knowsAny_10 : decode cX5_knowsAny 10 = .ok (.iconst 1, 1) := by decide +kernel
theorem dX5_knowsAny_11 : decode cX5_knowsAny 11 = .ok (.goto 4, 3) := by decide +kernel
theorem dX5_knowsAny_14 : decode cX5_knowsAny 14 = .ok (.iconst 0, 1) := by decide +kernel
theorem dX5_knowsAny_15 : decode cX5_knowsAny 15 = .ok (.ireturn, 1) := by decide +kernel
theorem dX5_dayLearnt_0 : decode cX5_dayLearnt 0 = .ok (.aload_n 0, 1) := by decide +kernel
theorem dX5_dayLearnt_1 : decode cX5_dayLearnt 1 = .ok (.getfield 34, 3) := by decide +kernel
theorem dX5_dayLearnt_4 : decode cX5_dayLearnt 4 = .ok (.iload_n 1, 1) := by decide +kernel
theorem dX5_dayLearnt_5 : decode cX5_dayLearnt 5 = .ok (.iload_n 2, 1) := by decide +kernel
theorem dX5_dayLearnt_6 : decode cX5_dayLearnt 6 = .ok (.invokestatic 85, 3) := by decide +kernel
theorem dX5_dayLearnt_9 : decode cX5_dayLearnt 9 = .ok (.iaload, 1) := by decide +kernel
theorem dX5_dayLearnt_10 : decode cX5_dayLearnt 10 = .ok (.ireturn, 1) := by decide +kernel
theorem dX5_learn_0 : decode cX5_learn 0 = .ok (.aload_n 0, 1) := by decide +kernel
theorem dX5_learn_1 : decode cX5_learn 1 = .ok (.getfield 31, 3) := by decide +kernel
theorem dX5_learn_4 : decode cX5_learn 4 = .ok (.iload_n 1, 1) := by decide +kernel
theorem dX5_learn_5 : decode cX5_learn 5 = .ok (.iload_n 2, 1) := by decide +kernel
theorem dX5_learn_6 : decode cX5_learn 6 = .ok (.invokestatic 85, 3) := by decide +kernel
theorem dX5_learn_9 : decode cX5_learn 9 = .ok (.iload_n 3, 1) := by decide +kernel
theorem dX5_learn_10 : decode cX5_learn 10 = .ok (.iastore, 1) := by decide +kernel
theorem dX5_learn_11 : decode cX5_learn 11 = .ok (.aload_n 0, 1) := by decide +kernel
theorem dX5_learn_12 : decode cX5_learn 12 = .ok (.getfield 34, 3) := by decide +kernel
theorem dX5_learn_15 : decode cX5_learn 15 = .ok (.iload_n 1, 1) := by decide +kernel
theorem dX5_learn_16 : decode cX5_learn 16 = .ok (.iload_n 2, 1) := by decide +kernel
theorem dX5_learn_17 : decode cX5_learn 17 = .ok (.invokestatic 85, 3) := by decide +kernel
theorem dX5_learn_20 : decode cX5_learn 20 = .ok (.aload_n 0, 1) := by decide +kernel
theorem dX5_learn_21 : decode cX5_learn 21 = .ok (.getfield 44, 3) := by decide +kernel
theorem dX5_learn_24 : decode cX5_learn 24 = .ok (.iastore, 1) := by decide +kernel
theorem dX5_learn_25 : decode cX5_learn 25 = .ok (.return_, 1) := by decide +kernel
theorem dX5_readPage_0 : decode cX5_readPage 0 = .ok (.aload_n 0, 1) := by decide +kernel
theorem dX5_readPage_1 : decode cX5_readPage 1 = .ok (.getfield 12, 3) := by decide +kernel
theorem dX5_readPage_4 : decode cX5_readPage 4 = .ok (.aload_n 0, 1) := by decide +kernel
theorem dX5_readPage_5 : decode cX5_readPage 5 = .ok (.getfield 44, 3) := by decide +kernel
theorem dX5_readPage_8 : decode cX5_readPage 8 = .ok (.iload_n 2, 1) := by decide +kernel
theorem dX5_readPage_9 : decode cX5_readPage 9 = .ok (.iload_n 1, 1) := by decide +kernel
theorem dX5_readPage_10 : decode cX5_readPage 10 = .ok (.invokevirtual 99, 3) := by decide +kernel
theorem dX5_readPage_13 : decode cX5_readPage 13 = .ok (.aload_n 0, 1) := by decide +kernel
theorem dX5_readPage_14 : decode cX5_readPage 14 = .ok (.getfield 25, 3) := by decide +kernel
theorem dX5_readPage_17 : decode cX5_readPage 17 = .ok (.iload_n 2, 1) := by decide +kernel
theorem dX5_readPage_18 : decode cX5_readPage 18 = .ok (.aload_n 0, 1) := by decide +kernel
theorem dX5_readPage_19 : decode cX5_readPage 19 = .ok (.getfield 50, 3) := by decide +kernel
theorem dX5_readPage_22 : decode cX5_readPage 22 = .ok (.getfield 103, 3) := by decide +kernel
theorem dX5_readPage_25 : decode cX5_readPage 25 = .ok (.iload_n 1, 1) := by decide +kernel
theorem dX5_readPage_26 : decode cX5_readPage 26 = .ok (.iaload, 1) := by decide +kernel
theorem dX5_readPage_27 : decode cX5_readPage 27 = .ok (.iconst 3, 1) := by decide +kernel
theorem dX5_readPage_28 : decode cX5_readPage 28 = .ok (.if_icmp .ne 8, 3) := by decide +kernel
theorem dX5_readPage_31 : decode cX5_readPage 31 = .ok (.bipush 9, 2) := by decide +kernel
theorem dX5_readPage_33 : decode cX5_readPage 33 = .ok (.goto 11, 3) := by decide +kernel
theorem dX5_readPage_36 : decode cX5_readPage 36 = .ok (.aload_n 0, 1) := by decide +kernel
theorem dX5_readPage_37 : decode cX5_readPage 37 = .ok (.getfield 25, 3) := by decide +kernel
theorem dX5_readPage_40 : decode cX5_readPage 40 = .ok (.iload_n 2, 1) := by decide +kernel
theorem dX5_readPage_41 : decode cX5_readPage 41 = .ok (.iaload, 1) := by decide +kernel
theorem dX5_readPage_42 : decode cX5_readPage 42 = .ok (.iconst 1, 1) := by decide +kernel
theorem dX5_readPage_43 : decode cX5_readPage 43 = .ok (.iadd, 1) := by decide +kernel
theorem dX5_readPage_44 : decode cX5_readPage 44 = .ok (.iastore, 1) := by decide +kernel
theorem dX5_readPage_45 : decode cX5_readPage 45 = .ok (.aload_n 0, 1) := by decide +kernel
theorem dX5_readPage_46 : decode cX5_readPage 46 = .ok (.getfield 50, 3) := by decide +kernel
theorem dX5_readPage_49 : decode cX5_readPage 49 = .ok (.getfield 103, 3) := by decide +kernel
theorem dX5_readPage_52 : decode cX5_readPage 52 = .ok (.iload_n 1, 1) := by decide +kernel
theorem dX5_readPage_53 : decode cX5_readPage 53 = .ok (.iaload, 1) := by decide +kernel
theorem dX5_readPage_54 : decode cX5_readPage 54 = .ok (.iconst 1, 1) := by decide +kernel
theorem dX5_readPage_55 : decode cX5_readPage 55 = .ok (.if_icmp .eq 21, 3) := by decide +kernel
theorem dX5_readPage_58 : decode cX5_readPage 58 = .ok (.aload_n 0, 1) := by decide +kernel
theorem dX5_readPage_59 : decode cX5_readPage 59 = .ok (.iload_n 1, 1) := by decide +kernel
theorem dX5_readPage_60 : decode cX5_readPage 60 = .ok (.aload_n 0, 1) := by decide +kernel
theorem dX5_readPage_61 : decode cX5_readPage 61 = .ok (.getfield 18, 3) := by decide +kernel
theorem dX5_readPage_64 : decode cX5_readPage 64 = .ok (.iload_n 2, 1) := by decide +kernel
theorem dX5_readPage_65 : decode cX5_readPage 65 = .ok (.iaload, 1) := by decide +kernel
theorem dX5_readPage_66 : decode cX5_readPage 66 = .ok (.aload_n 0, 1) := by decide +kernel
theorem dX5_readPage_67 : decode cX5_readPage 67 = .ok (.getfield 22, 3) := by decide +kernel
theorem dX5_readPage_70 : decode cX5_readPage 70 = .ok (.iload_n 2, 1) := by decide +kernel
theorem dX5_readPage_71 : decode cX5_readPage 71 = .ok (.iaload, 1) := by decide +kernel
theorem dX5_readPage_72 : decode cX5_readPage 72 = .ok (.invokevirtual 106, 3) := by decide +kernel
theorem dX5_readPage_75 : decode cX5_readPage 75 = .ok (.return_, 1) := by decide +kernel
theorem dX5_readPage_76 : decode cX5_readPage 76 = .ok (.iconst 0, 1) := by decide +kernel
theorem dX5_readPage_77 : decode cX5_readPage 77 = .ok (.istore_n 3, 1) := by decide +kernel
theorem dX5_readPage_78 : decode cX5_readPage 78 = .ok (.iload_n 3, 1) := by decide +kernel
theorem dX5_readPage_79 : decode cX5_readPage 79 = .ok (.aload_n 0, 1) := by decide +kernel
theorem dX5_readPage_80 : decode cX5_readPage 80 = .ok (.getfield 50, 3) := by decide +kernel
theorem dX5_readPage_83 : decode cX5_readPage 83 = .ok (.getfield 109, 3) := by decide +kernel
theorem dX5_readPage_86 : decode cX5_readPage 86 = .ok (.if_icmp .ge 26, 3) := by decide +kernel
theorem dX5_readPage_89 : decode cX5_readPage 89 = .ok (.aload_n 0, 1) := by decide +kernel
theorem dX5_readPage_90 : decode cX5_readPage 90 = .ok (.iload_n 3, 1) := by decide +kernel
theorem dX5_readPage_91 : decode cX5_readPage 91 = .ok (.aload_n 0, 1) := by decide +kernel
theorem dX5_readPage_92 : decode cX5_readPage 92 = .ok (.getfield 18, 3) := by decide +kernel
theorem dX5_readPage_95 : decode cX5_readPage 95 = .ok (.iload_n 2, 1) := by decide +kernel
theorem dX5_readPage_96 : decode cX5_readPage 96 = .ok (.iaload, 1) := by decide +kernel
theorem dX5_readPage_97 : decode cX5_readPage 97 = .ok (.aload_n 0, 1) := by decide +kernel
theorem dX5_readPage_98 : decode cX5_readPage 98 = .ok (.getfield 22, 3) := by decide +kernel
theorem dX5_readPage_101 : decode cX5_readPage 101 = .ok (.iload_n 2, 1) := by decide +kernel
theorem dX5_readPage_102 : decode cX5_readPage 102 = .ok (.iaload, 1) := by decide +kernel
theorem dX5_readPage_103 : decode cX5_readPage 103 = .ok (.invokevirtual 106, 3) := by decide +kernel
theorem dX5_readPage_106 : decode cX5_readPage 106 = .ok (.iinc 3 1, 3) := by decide +kernel
theorem dX5_readPage_109 : decode cX5_readPage 109 = .ok (.goto (-31), 3) := by decide +kernel
theorem dX5_readPage_112 : decode cX5_readPage 112 = .ok (.return_, 1) := by decide +kernel
theorem dX5_addPage_0 : decode cX5_addPage 0 = .ok (.aload_n 0, 1) := by decide +kernel
theorem dX5_addPage_1 : decode cX5_addPage 1 = .ok (.invokevirtual 112, 3) := by decide +kernel
theorem dX5_addPage_4 : decode cX5_addPage 4 = .ok (.ifCond .eq 6, 3) := by decide +kernel
theorem dX5_addPage_7 : decode cX5_addPage 7 = .ok (.ldc 116, 2) := by decide +kernel
theorem dX5_addPage_9 : decode cX5_addPage 9 = .ok (.ireturn, 1) := by decide +kernel
theorem dX5_addPage_10 : decode cX5_addPage 10 = .ok (.aload_n 0, 1) := by decide +kernel
theorem dX5_addPage_11 : decode cX5_addPage 11 = .ok (.getfield 40, 3) := by decide +kernel
theorem dX5_addPage_14 : decode cX5_addPage 14 = .ok (.istore 4, 2) := by decide +kernel
theorem dX5_addPage_16 : decode cX5_addPage 16 = .ok (.aload_n 0, 1) := by decide +kernel
theorem dX5_addPage_17 : decode cX5_addPage 17 = .ok (.getfield 18, 3) := by decide +kernel
theorem dX5_addPage_20 : decode cX5_addPage 20 = .ok (.iload 4, 2) := by decide +kernel
theorem dX5_addPage_22 : decode cX5_addPage 22 = .ok (.iload_n 1, 1) := by decide +kernel
theorem dX5_addPage_23 : decode cX5_addPage 23 = .ok (.iastore, 1) := by decide +kernel
theorem dX5_addPage_24 : decode cX5_addPage 24 = .ok (.aload_n 0, 1) := by decide +kernel
theorem dX5_addPage_25 : decode cX5_addPage 25 = .ok (.getfield 22, 3) := by decide +kernel
theorem dX5_addPage_28 : decode cX5_addPage 28 = .ok (.iload 4, 2) := by decide +kernel
theorem dX5_addPage_30 : decode cX5_addPage 30 = .ok (.aload_n 0, 1) := by decide +kernel
theorem dX5_addPage_31 : decode cX5_addPage 31 = .ok (.bipush 100, 2) := by decide +kernel
theorem dX5_addPage_33 : decode cX5_addPage 33 = .ok (.invokevirtual 117, 3) := by decide +kernel
theorem dX5_addPage_36 : decode cX5_addPage 36 = .ok (.aload_n 0, 1) := by decide +kernel
theorem dX5_addPage_37 : decode cX5_addPage 37 = .ok (.getfield 50, 3) := by decide +kernel
theorem dX5_addPage_40 : decode cX5_addPage 40 = .ok (.getfield 121, 3) := by decide +kernel
theorem dX5_addPage_43 : decode cX5_addPage 43 = .ok (.if_icmp .ge 10, 3) := by decide +kernel
theorem dX5_addPage_46 : decode cX5_addPage 46 = .ok (.iload 4, 2) := by decide +kernel
theorem dX5_addPage_48 : decode cX5_addPage 48 = .ok (.iconst 1, 1) := by decide +kernel
theorem dX5_addPage_49 : decode cX5_addPage 49 = .ok (.iadd, 1) := by decide +kernel
theorem dX5_addPage_50 : decode cX5_addPage 50 = .ok (.goto 4, 3) := by decide +kernel
theorem dX5_addPage_53 : decode cX5_addPage 53 = .ok (.iload_n 2, 1) := by decide +kernel
theorem dX5_addPage_54 : decode cX5_addPage 54 = .ok (.iastore, 1) := by decide +kernel
theorem dX5_addPage_55 : decode cX5_addPage 55 = .ok (.aload_n 0, 1) := by decide +kernel
theorem dX5_addPage_56 : decode cX5_addPage 56 = .ok (.getfield 25, 3) := by decide +kernel
theorem dX5_addPage_59 : decode cX5_addPage 59 = .ok (.iload 4, 2) := by decide +kernel
theorem dX5_addPage_61 : decode cX5_addPage 61 = .ok (.iconst 0, 1) := by decide +kernel
theorem dX5_addPage_62 : decode cX5_addPage 62 = .ok (.iastore, 1) := by decide +kernel
theorem dX5_addPage_63 : decode cX5_addPage 63 = .ok (.aload_n 0, 1) := by decide +kernel
theorem dX5_addPage_64 : decode cX5_addPage 64 = .ok (.getfield 28, 3) := by decide +kernel
theorem dX5_addPage_67 : decode cX5_addPage 67 = .ok (.iload 4, 2) := by decide +kernel
theorem dX5_addPage_69 : decode cX5_addPage 69 = .ok (.iload_n 3, 1) := by decide +kernel
theorem dX5_addPage_70 : decode cX5_addPage 70 = .ok (.iastore, 1) := by decide +kernel
theorem dX5_addPage_71 : decode cX5_addPage 71 = .ok (.aload_n 0, 1) := by decide +kernel
theorem dX5_addPage_72 : decode cX5_addPage 72 = .ok (.dup, 1) := by decide +kernel
theorem dX5_addPage_73 : decode cX5_addPage 73 = .ok (.getfield 40, 3) := by decide +kernel
theorem dX5_addPage_76 : decode cX5_addPage 76 = .ok (.iconst 1, 1) := by decide +kernel
theorem dX5_addPage_77 : decode cX5_addPage 77 = .ok (.iadd, 1) := by decide +kernel
theorem dX5_addPage_78 : decode cX5_addPage 78 = .ok (.putfield 40, 3) := by decide +kernel
theorem dX5_addPage_81 : decode cX5_addPage 81 = .ok (.iload 4, 2) := by decide +kernel
theorem dX5_addPage_83 : decode cX5_addPage 83 = .ok (.ireturn, 1) := by decide +kernel
theorem dX5_draw_0 : decode cX5_draw 0 = .ok (.aload_n 0, 1) := by decide +kernel
theorem dX5_draw_1 : decode cX5_draw 1 = .ok (.aload_n 0, 1) := by decide +kernel
theorem dX5_draw_2 : decode cX5_draw 2 = .ok (.getfield 47, 3) := by decide +kernel
theorem dX5_draw_5 : decode cX5_draw 5 = .ok (.ldc 124, 2) := by decide +kernel
theorem dX5_draw_7 : decode cX5_draw 7 = .ok (.imul, 1) := by decide +kernel
theorem dX5_draw_8 : decode cX5_draw 8 = .ok (.sipush 12345, 3) := by decide +kernel
theorem dX5_draw_11 : decode cX5_draw 11 = .ok (.iadd, 1) := by decide +kernel
theorem dX5_draw_12 : decode cX5_draw 12 = .ok (.ldc 125, 2) := by decide +kernel
theorem dX5_draw_14 : decode cX5_draw 14 = .ok (.iand, 1) := by decide +kernel
theorem dX5_draw_15 : decode cX5_draw 15 = .ok (.putfield 47, 3) := by decide +kernel
theorem dX5_draw_18 : decode cX5_draw 18 = .ok (.iload_n 1, 1) := by decide +kernel
theorem dX5_draw_19 : decode cX5_draw 19 = .ok (.ifCond .le 15, 3) := by decide +kernel
theorem dX5_draw_22 : decode cX5_draw 22 = .ok (.aload_n 0, 1) := by decide +kernel
theorem dX5_draw_23 : decode cX5_draw 23 = .ok (.getfield 47, 3) := by decide +kernel
theorem dX5_draw_26 : decode cX5_draw 26 = .ok (.ldc 126, 2) := by decide +kernel
theorem dX5_draw_28 : decode cX5_draw 28 = .ok (.idiv, 1) := by decide +kernel
theorem dX5_draw_29 : decode cX5_draw 29 = .ok (.iload_n 1, 1) := by decide +kernel
theorem dX5_draw_30 : decode cX5_draw 30 = .ok (.irem, 1) := by decide +kernel
theorem dX5_draw_31 : decode cX5_draw 31 = .ok (.goto 4, 3) := by decide +kernel
theorem dX5_draw_34 : decode cX5_draw 34 = .ok (.iconst 0, 1) := by decide +kernel
theorem dX5_draw_35 : decode cX5_draw 35 = .ok (.ireturn, 1) := by decide +kernel
theorem dX5_daysAhead_0 : decode cX5_daysAhead 0 = .ok (.iload_n 1, 1) := by decide +kernel
theorem dX5_daysAhead_1 : decode cX5_daysAhead 1 = .ok (.sipush 9999, 3) := by decide +kernel
theorem dX5_daysAhead_4 : decode cX5_daysAhead 4 = .ok (.aload_n 0, 1) := by decide +kernel
theorem dX5_daysAhead_5 : decode cX5_daysAhead 5 = .ok (.getfield 44, 3) := by decide +kernel
theorem dX5_daysAhead_8 : decode cX5_daysAhead 8 = .ok (.isub, 1) := by decide +kernel
theorem dX5_daysAhead_9 : decode cX5_daysAhead 9 = .ok (.invokestatic 127, 3) := by decide +kernel
theorem dX5_daysAhead_12 : decode cX5_daysAhead 12 = .ok (.ireturn, 1) := by decide +kernel
theorem dX5_passDusks_0 : decode cX5_passDusks 0 = .ok (.aload_n 0, 1) := by decide +kernel
theorem dX5_passDusks_1 : decode cX5_passDusks 1 = .ok (.dup, 1) := by decide +kernel
theorem dX5_passDusks_2 : decode cX5_passDusks 2 = .ok (.getfield 44, 3) := by decide +kernel
theorem dX5_passDusks_5 : decode cX5_passDusks 5 = .ok (.aload_n 0, 1) := by decide +kernel
theorem dX5_passDusks_6 : decode cX5_passDusks 6 = .ok (.iload_n 1, 1) := by decide +kernel
theorem dX5_passDusks_7 : decode cX5_passDusks 7 = .ok (.invokevirtual 132, 3) := by decide +kernel
theorem dX5_passDusks_10 : decode cX5_passDusks 10 = .ok (.iadd, 1) := by decide +kernel
theorem dX5_passDusks_11 : decode cX5_passDusks 11 = .ok (.putfield 44, 3) := by decide +kernel
theorem dX5_passDusks_14 : decode cX5_passDusks 14 = .ok (.return_, 1) := by decide +kernel
theorem dX5_liveByDraws_0 : decode cX5_liveByDraws 0 = .ok (.aload_n 0, 1) := by decide +kernel
theorem dX5_liveByDraws_1 : decode cX5_liveByDraws 1 = .ok (.iload_n 1, 1) := by decide +kernel
theorem dX5_liveByDraws_2 : decode cX5_liveByDraws 2 = .ok (.invokevirtual 132, 3) := by decide +kernel
theorem dX5_liveByDraws_5 : decode cX5_liveByDraws 5 = .ok (.istore_n 2, 1) := by decide +kernel
theorem dX5_liveByDraws_6 : decode cX5_liveByDraws 6 = .ok (.iconst 0, 1) := by decide +kernel
theorem dX5_liveByDraws_7 : decode cX5_liveByDraws 7 = .ok (.istore_n 3, 1) := by decide +kernel
theorem dX5_liveByDraws_8 : decode cX5_liveByDraws 8 = .ok (.iload_n 3, 1) := by decide +kernel
theorem dX5_liveByDraws_9 : decode cX5_liveByDraws 9 = .ok (.iload_n 2, 1) := by decide +kernel
theorem dX5_liveByDraws_10 : decode cX5_liveByDraws 10 = .ok (.if_icmp .ge 71, 3) := by decide +kernel
theorem dX5_liveByDraws_13 : decode cX5_liveByDraws 13 = .ok (.iconst 0, 1) := by decide +kernel
theorem dX5_liveByDraws_14 : decode cX5_liveByDraws 14 = .ok (.istore 4, 2) := by decide +kernel
theorem dX5_liveByDraws_16 : decode cX5_liveByDraws 16 = .ok (.iload 4, 2) := by decide +kernel
theorem dX5_liveByDraws_18 : decode cX5_liveByDraws 18 = .ok (.aload_n 0, 1) := by decide +kernel
theorem dX5_liveByDraws_19 : decode cX5_liveByDraws 19 = .ok (.getfield 50, 3) := by decide +kernel
theorem dX5_liveByDraws_22 : decode cX5_liveByDraws 22 = .ok (.getfield 109, 3) := by decide +kernel
theorem dX5_liveByDraws_25 : decode cX5_liveByDraws 25 = .ok (.if_icmp .ge 45, 3) := by decide +kernel
theorem dX5_liveByDraws_28 : decode cX5_liveByDraws 28 = .ok (.aload_n 0, 1) := by decide +kernel
theorem dX5_liveByDraws_29 : decode cX5_liveByDraws 29 = .ok (.aload_n 0, 1) := by decide +kernel
theorem dX5_liveByDraws_30 : decode cX5_liveByDraws 30 = .ok (.getfield 40, 3) := by decide +kernel
theorem dX5_liveByDraws_33 : decode cX5_liveByDraws 33 = .ok (.invokevirtual 117, 3) := by decide +kernel
theorem dX5_liveByDraws_36 : decode cX5_liveByDraws 36 = .ok (.istore 5, 2) := by decide +kernel
theorem dX5_liveByDraws_38 : decode cX5_liveByDraws 38 = .ok (.aload_n 0, 1) := by decide +kernel
theorem dX5_liveByDraws_39 : decode cX5_liveByDraws 39 = .ok (.iload 5, 2) := by decide +kernel
theorem dX5_liveByDraws_41 : decode cX5_liveByDraws 41 = .ok (.invokevirtual 135, 3) := by decide +kernel
theorem dX5_liveByDraws_44 : decode cX5_liveByDraws 44 = .ok (.ifCond .eq 20, 3) := by decide +kernel
theorem dX5_liveByDraws_47 : decode cX5_liveByDraws 47 = .ok (.aload_n 0, 1) := by decide +kernel
theorem dX5_liveByDraws_48 : decode cX5_liveByDraws 48 = .ok (.iload 5, 2) := by decide +kernel
theorem dX5_liveByDraws_50 : decode cX5_liveByDraws 50 = .ok (.invokevirtual 139, 3) := by decide +kernel
theorem dX5_liveByDraws_53 : decode cX5_liveByDraws 53 = .ok (.ifCond .ne 11, 3) := by decide +kernel
theorem dX5_liveByDraws_56 : decode cX5_liveByDraws 56 = .ok (.aload_n 0, 1) := by decide +kernel
theorem dX5_liveByDraws_57 : decode cX5_liveByDraws 57 = .ok (.iload 4, 2) := by decide +kernel
theorem dX5_liveByDraws_59 : decode cX5_liveByDraws 59 = .ok (.iload 5, 2) := by decide +kernel
theorem dX5_liveByDraws_61 : decode cX5_liveByDraws 61 = .ok (.invokevirtual 142, 3) := by decide +kernel
theorem dX5_liveByDraws_64 : decode cX5_liveByDraws 64 = .ok (.iinc 4 1, 3) := by decide +kernel
theorem dX5_liveByDraws_67 : decode cX5_liveByDraws 67 = .ok (.goto (-51), 3) := by decide +kernel
theorem dX5_liveByDraws_70 : decode cX5_liveByDraws 70 = .ok (.aload_n 0, 1) := by decide +kernel
theorem dX5_liveByDraws_71 : decode cX5_liveByDraws 71 = .ok (.iconst 1, 1) := by decide +kernel
theorem dX5_liveByDraws_72 : decode cX5_liveByDraws 72 = .ok (.invokevirtual 146, 3) := by decide +kernel
theorem dX5_liveByDraws_75 : decode cX5_liveByDraws 75 = .ok (.iinc 3 1, 3) := by decide +kernel
theorem dX5_liveByDraws_78 : decode cX5_liveByDraws 78 = .ok (.goto (-70), 3) := by decide +kernel
theorem dX5_liveByDraws_81 : decode cX5_liveByDraws 81 = .ok (.return_, 1) := by decide +kernel
theorem dX5_isKept_0 : decode cX5_isKept 0 = .ok (.aload_n 0, 1) := by decide +kernel
theorem dX5_isKept_1 : decode cX5_isKept 1 = .ok (.iload_n 1, 1) := by decide +kernel
theorem dX5_isKept_2 : decode cX5_isKept 2 = .ok (.invokevirtual 150, 3) := by decide +kernel
theorem dX5_isKept_5 : decode cX5_isKept 5 = .ok (.ifCond .le 5, 3) := by decide +kernel
theorem dX5_isKept_8 : decode cX5_isKept 8 = .ok (.iconst 1, 1) := by decide +kernel
theorem dX5_isKept_9 : decode cX5_isKept 9 = .ok (.ireturn, 1) := by decide +kernel
theorem dX5_isKept_10 : decode cX5_isKept 10 = .ok (.aload_n 0, 1) := by decide +kernel
theorem dX5_isKept_11 : decode cX5_isKept 11 = .ok (.getfield 44, 3) := by decide +kernel
theorem dX5_isKept_14 : decode cX5_isKept 14 = .ok (.aload_n 0, 1) := by decide +kernel
theorem dX5_isKept_15 : decode cX5_isKept 15 = .ok (.iload_n 2, 1) := by decide +kernel
theorem dX5_isKept_16 : decode cX5_isKept 16 = .ok (.invokevirtual 132, 3) := by decide +kernel
theorem dX5_isKept_19 : decode cX5_isKept 19 = .ok (.iadd, 1) := by decide +kernel
theorem dX5_isKept_20 : decode cX5_isKept 20 = .ok (.istore_n 3, 1) := by decide +kernel
theorem dX5_isKept_21 : decode cX5_isKept 21 = .ok (.iconst 0, 1) := by decide +kernel
theorem dX5_isKept_22 : decode cX5_isKept 22 = .ok (.istore 4, 2) := by decide +kernel
theorem dX5_isKept_24 : decode cX5_isKept 24 = .ok (.iload 4, 2) := by decide +kernel
theorem dX5_isKept_26 : decode cX5_isKept 26 = .ok (.aload_n 0, 1) := by decide +kernel
theorem dX5_isKept_27 : decode cX5_isKept 27 = .ok (.getfield 50, 3) := by decide +kernel
theorem dX5_isKept_30 : decode cX5_isKept 30 = .ok (.getfield 109, 3) := by decide +kernel
theorem dX5_isKept_33 : decode cX5_isKept 33 = .ok (.if_icmp .ge 22, 3) := by decide +kernel
theorem dX5_isKept_36 : decode cX5_isKept 36 = .ok (.aload_n 0, 1) := by decide +kernel
theorem dX5_isKept_37 : decode cX5_isKept 37 = .ok (.iload 4, 2) := by decide +kernel
theorem dX5_isKept_39 : decode cX5_isKept 39 = .ok (.iload_n 1, 1) := by decide +kernel
theorem dX5_isKept_40 : decode cX5_isKept 40 = .ok (.iload_n 3, 1) := by decide +kernel
theorem dX5_isKept_41 : decode cX5_isKept 41 = .ok (.invokevirtual 92, 3) := by decide +kernel
theorem dX5_isKept_44 : decode cX5_isKept 44 = .ok (.ifCond .ne 5, 3) := by decide +kernel
theorem dX5_isKept_47 : decode cX5_isKept 47 = .ok (.iconst 1, 1) := by decide +kernel
theorem dX5_isKept_48 : decode cX5_isKept 48 = .ok (.ireturn, 1) := by decide +kernel
theorem dX5_isKept_49 : decode cX5_isKept 49 = .ok (.iinc 4 1, 3) := by decide +kernel
theorem dX5_isKept_52 : decode cX5_isKept 52 = .ok (.goto (-28), 3) := by decide +kernel
theorem dX5_isKept_55 : decode cX5_isKept 55 = .ok (.iconst 0, 1) := by decide +kernel
theorem dX5_isKept_56 : decode cX5_isKept 56 = .ok (.ireturn, 1) := by decide +kernel
theorem dX5_countKept_0 : decode cX5_countKept 0 = .ok (.iconst 0, 1) := by decide +kernel
theorem dX5_countKept_1 : decode cX5_countKept 1 = .ok (.istore_n 2, 1) := by decide +kernel
theorem dX5_countKept_2 : decode cX5_countKept 2 = .ok (.iconst 0, 1) := by decide +kernel
theorem dX5_countKept_3 : decode cX5_countKept 3 = .ok (.istore_n 3, 1) := by decide +kernel
theorem dX5_countKept_4 : decode cX5_countKept 4 = .ok (.iload_n 3, 1) := by decide +kernel
theorem dX5_countKept_5 : decode cX5_countKept 5 = .ok (.aload_n 0, 1) := by decide +kernel
theorem dX5_countKept_6 : decode cX5_countKept 6 = .ok (.getfield 50, 3) := by decide +kernel
theorem dX5_countKept_9 : decode cX5_countKept 9 = .ok (.getfield 60, 3) := by decide +kernel
theorem dX5_countKept_12 : decode cX5_countKept 12 = .ok (.if_icmp .ge 21, 3) := by decide +kernel
theorem dX5_countKept_15 : decode cX5_countKept 15 = .ok (.aload_n 0, 1) := by decide +kernel
theorem dX5_countKept_16 : decode cX5_countKept 16 = .ok (.iload_n 3, 1) := by decide +kernel
theorem dX5_countKept_17 : decode cX5_countKept 17 = .ok (.iload_n 1, 1) := by decide +kernel
theorem dX5_countKept_18 : decode cX5_countKept 18 = .ok (.invokevirtual 153, 3) := by decide +kernel
theorem dX5_countKept_21 : decode cX5_countKept 21 = .ok (.ifCond .eq 6, 3) := by decide +kernel
theorem dX5_countKept_24 : decode cX5_countKept 24 = .ok (.iinc 2 1, 3) := by decide +kernel
theorem dX5_countKept_27 : decode cX5_countKept 27 = .ok (.iinc 3 1, 3) := by decide +kernel
theorem dX5_countKept_30 : decode cX5_countKept 30 = .ok (.goto (-26), 3) := by decide +kernel
theorem dX5_countKept_33 : decode cX5_countKept 33 = .ok (.iload_n 2, 1) := by decide +kernel
theorem dX5_countKept_34 : decode cX5_countKept 34 = .ok (.ireturn, 1) := by decide +kernel
theorem dX5_countGone_0 : decode cX5_countGone 0 = .ok (.iconst 0, 1) := by decide +kernel
theorem dX5_countGone_1 : decode cX5_countGone 1 = .ok (.istore_n 1, 1) := by decide +kernel
theorem dX5_countGone_2 : decode cX5_countGone 2 = .ok (.iconst 0, 1) := by decide +kernel
theorem dX5_countGone_3 : decode cX5_countGone 3 = .ok (.istore_n 2, 1) := by decide +kernel
theorem dX5_countGone_4 : decode cX5_countGone 4 = .ok (.iload_n 2, 1) := by decide +kernel
theorem dX5_countGone_5 : decode cX5_countGone 5 = .ok (.aload_n 0, 1) := by decide +kernel
theorem dX5_countGone_6 : decode cX5_countGone 6 = .ok (.getfield 40, 3) := by decide +kernel
theorem dX5_countGone_9 : decode cX5_countGone 9 = .ok (.if_icmp .ge 20, 3) := by decide +kernel
theorem dX5_countGone_12 : decode cX5_countGone 12 = .ok (.aload_n 0, 1) := by decide +kernel
theorem dX5_countGone_13 : decode cX5_countGone 13 = .ok (.iload_n 2, 1) := by decide +kernel
theorem dX5_countGone_14 : decode cX5_countGone 14 = .ok (.invokevirtual 139, 3) := by decide +kernel
theorem dX5_countGone_17 : decode cX5_countGone 17 = .ok (.ifCond .eq 6, 3) := by decide +kernel
theorem dX5_countGone_20 : decode cX5_countGone 20 = .ok (.iinc 1 1, 3) := by decide +kernel
theorem dX5_countGone_23 : decode cX5_countGone 23 = .ok (.iinc 2 1, 3) := by decide +kernel
theorem dX5_countGone_26 : decode cX5_countGone 26 = .ok (.goto (-22), 3) := by decide +kernel
theorem dX5_countGone_29 : decode cX5_countGone 29 = .ok (.iload_n 1, 1) := by decide +kernel
theorem dX5_countGone_30 : decode cX5_countGone 30 = .ok (.ireturn, 1) := by decide +kernel
theorem dX5_isLeft_0 : decode cX5_isLeft 0 = .ok (.aload_n 0, 1) := by decide +kernel
theorem dX5_isLeft_1 : decode cX5_isLeft 1 = .ok (.getfield 18, 3) := by decide +kernel
theorem dX5_isLeft_4 : decode cX5_isLeft 4 = .ok (.iload_n 1, 1) := by decide +kernel
theorem dX5_isLeft_5 : decode cX5_isLeft 5 = .ok (.iaload, 1) := by decide +kernel
theorem dX5_isLeft_6 : decode cX5_isLeft 6 = .ok (.iload_n 2, 1) := by decide +kernel
theorem dX5_isLeft_7 : decode cX5_isLeft 7 = .ok (.if_icmp .ne 18, 3) := by decide +kernel
theorem dX5_isLeft_10 : decode cX5_isLeft 10 = .ok (.aload_n 0, 1) := by decide +kernel
theorem dX5_isLeft_11 : decode cX5_isLeft 11 = .ok (.getfield 25, 3) := by decide +kernel
theorem dX5_isLeft_14 : decode cX5_isLeft 14 = .ok (.iload_n 1, 1) := by decide +kernel
theorem dX5_isLeft_15 : decode cX5_isLeft 15 = .ok (.iaload, 1) := by decide +kernel
theorem dX5_isLeft_16 : decode cX5_isLeft 16 = .ok (.bipush 9, 2) := by decide +kernel
theorem dX5_isLeft_18 : decode cX5_isLeft 18 = .ok (.if_icmp .ge 7, 3) := by decide +kernel
theorem dX5_isLeft_21 : decode cX5_isLeft 21 = .ok (.iconst 1, 1) := by decide +kernel
theorem dX5_isLeft_22 : decode cX5_isLeft 22 = .ok (.goto 4, 3) := by decide +kernel
theorem dX5_isLeft_25 : decode cX5_isLeft 25 = .ok (.iconst 0, 1) := by decide +kernel
theorem dX5_isLeft_26 : decode cX5_isLeft 26 = .ok (.ireturn, 1) := by decide +kernel
theorem dX5_pagesLeft_0 : decode cX5_pagesLeft 0 = .ok (.iconst 0, 1) := by decide +kernel
theorem dX5_pagesLeft_1 : decode cX5_pagesLeft 1 = .ok (.istore_n 2, 1) := by decide +kernel
theorem dX5_pagesLeft_2 : decode cX5_pagesLeft 2 = .ok (.iconst 0, 1) := by decide +kernel
theorem dX5_pagesLeft_3 : decode cX5_pagesLeft 3 = .ok (.istore_n 3, 1) := by decide +kernel
theorem dX5_pagesLeft_4 : decode cX5_pagesLeft 4 = .ok (.iload_n 3, 1) := by decide +kernel
theorem dX5_pagesLeft_5 : decode cX5_pagesLeft 5 = .ok (.aload_n 0, 1) := by decide +kernel
theorem dX5_pagesLeft_6 : decode cX5_pagesLeft 6 = .ok (.getfield 40, 3) := by decide +kernel
theorem dX5_pagesLeft_9 : decode cX5_pagesLeft 9 = .ok (.if_icmp .ge 21, 3) := by decide +kernel
theorem dX5_pagesLeft_12 : decode cX5_pagesLeft 12 = .ok (.aload_n 0, 1) := by decide +kernel
theorem dX5_pagesLeft_13 : decode cX5_pagesLeft 13 = .ok (.iload_n 3, 1) := by decide +kernel
theorem dX5_pagesLeft_14 : decode cX5_pagesLeft 14 = .ok (.iload_n 1, 1) := by decide +kernel
theorem dX5_pagesLeft_15 : decode cX5_pagesLeft 15 = .ok (.invokevirtual 157, 3) := by decide +kernel
theorem dX5_pagesLeft_18 : decode cX5_pagesLeft 18 = .ok (.ifCond .eq 6, 3) := by decide +kernel
theorem dX5_pagesLeft_21 : decode cX5_pagesLeft 21 = .ok (.iinc 2 1, 3) := by decide +kernel
theorem dX5_pagesLeft_24 : decode cX5_pagesLeft 24 = .ok (.iinc 3 1, 3) := by decide +kernel
theorem dX5_pagesLeft_27 : decode cX5_pagesLeft 27 = .ok (.goto (-23), 3) := by decide +kernel
theorem dX5_pagesLeft_30 : decode cX5_pagesLeft 30 = .ok (.iload_n 2, 1) := by decide +kernel
theorem dX5_pagesLeft_31 : decode cX5_pagesLeft 31 = .ok (.ireturn, 1) := by decide +kernel
theorem dX5_pagesLeftWith_0 : decode cX5_pagesLeftWith 0 = .ok (.iconst 0, 1) := by decide +kernel
theorem dX5_pagesLeftWith_1 : decode cX5_pagesLeftWith 1 = .ok (.istore_n 3, 1) := by decide +kernel
theorem dX5_pagesLeftWith_2 : decode cX5_pagesLeftWith 2 = .ok (.iconst 0, 1) := by decide +kernel
theorem dX5_pagesLeftWith_3 : decode cX5_pagesLeftWith 3 = .ok (.istore 4, 2) := by decide +kernel
theorem dX5_pagesLeftWith_5 : decode cX5_pagesLeftWith 5 = .ok (.iload 4, 2) := by decide +kernel
theorem dX5_pagesLeftWith_7 : decode cX5_pagesLeftWith 7 = .ok (.aload_n 0, 1) := by decide +kernel
theorem dX5_pagesLeftWith_8 : decode cX5_pagesLeftWith 8 = .ok (.getfield 40, 3) := by decide +kernel
theorem dX5_pagesLeftWith_11 : decode cX5_pagesLeftWith 11 = .ok (.if_icmp .ge 33, 3) := by decide +kernel
theorem dX5_pagesLeftWith_14 : decode cX5_pagesLeftWith 14 = .ok (.aload_n 0, 1) := by decide +kernel
theorem dX5_pagesLeftWith_15 : decode cX5_pagesLeftWith 15 = .ok (.iload 4, 2) := by decide +kernel
theorem dX5_pagesLeftWith_17 : decode cX5_pagesLeftWith 17 = .ok (.iload_n 1, 1) := by decide +kernel
theorem dX5_pagesLeftWith_18 : decode cX5_pagesLeftWith 18 = .ok (.invokevirtual 157, 3) := by decide +kernel
theorem dX5_pagesLeftWith_21 : decode cX5_pagesLeftWith 21 = .ok (.ifCond .eq 17, 3) := by decide +kernel
theorem dX5_pagesLeftWith_24 : decode cX5_pagesLeftWith 24 = .ok (.aload_n 0, 1) := by decide +kernel
theorem dX5_pagesLeftWith_25 : decode cX5_pagesLeftWith 25 = .ok (.getfield 22, 3) := by decide +kernel
theorem dX5_pagesLeftWith_28 : decode cX5_pagesLeftWith 28 = .ok (.iload 4, 2) := by decide +kernel
theorem dX5_pagesLeftWith_30 : decode cX5_pagesLeftWith 30 = .ok (.iaload, 1) := by decide +kernel
theorem dX5_pagesLeftWith_31 : decode cX5_pagesLeftWith 31 = .ok (.iload_n 2, 1) := by decide +kernel
theorem dX5_pagesLeftWith_32 : decode cX5_pagesLeftWith 32 = .ok (.if_icmp .ne 6, 3) := by decide +kernel
theorem dX5_pagesLeftWith_35 : decode cX5_pagesLeftWith 35 = .ok (.iinc 3 1, 3) := by decide +kernel
theorem dX5_pagesLeftWith_38 : decode cX5_pagesLeftWith 38 = .ok (.iinc 4 1, 3) := by decide +kernel
theorem dX5_pagesLeftWith_41 : decode cX5_pagesLeftWith 41 = .ok (.goto (-36), 3) := by decide +kernel
theorem dX5_pagesLeftWith_44 : decode cX5_pagesLeftWith 44 = .ok (.iload_n 3, 1) := by decide +kernel
theorem dX5_pagesLeftWith_45 : decode cX5_pagesLeftWith 45 = .ok (.ireturn, 1) := by decide +kernel
theorem dX5_truePages_0 : decode cX5_truePages 0 = .ok (.aload_n 0, 1) := by decide +kernel
theorem dX5_truePages_1 : decode cX5_truePages 1 = .ok (.iload_n 1, 1) := by decide +kernel
theorem dX5_truePages_2 : decode cX5_truePages 2 = .ok (.iconst 0, 1) := by decide +kernel
theorem dX5_truePages_3 : decode cX5_truePages 3 = .ok (.invokevirtual 160, 3) := by decide +kernel
theorem dX5_truePages_6 : decode cX5_truePages 6 = .ok (.ireturn, 1) := by decide +kernel
theorem dX5_trueReadingsLeft_0 : decode cX5_trueReadingsLeft 0 = .ok (.iconst 0, 1) := by decide +kernel
theorem dX5_trueReadingsLeft_1 : decode cX5_trueReadingsLeft 1 = .ok (.istore_n 2, 1) := by decide +kernel
theorem dX5_trueReadingsLeft_2 : decode cX5_trueReadingsLeft 2 = .ok (.iconst 0, 1) := by decide +kernel
theorem dX5_trueReadingsLeft_3 : decode cX5_trueReadingsLeft 3 = .ok (.istore_n 3, 1) := by decide +kernel
theorem dX5_trueReadingsLeft_4 : decode cX5_trueReadingsLeft 4 = .ok (.iload_n 3, 1) := by decide +kernel
theorem dX5_trueReadingsLeft_5 : decode cX5_trueReadingsLeft 5 = .ok (.aload_n 0, 1) := by decide +kernel
theorem dX5_trueReadingsLeft_6 : decode cX5_trueReadingsLeft 6 = .ok (.getfield 40, 3) := by decide +kernel
theorem dX5_trueReadingsLeft_9 : decode cX5_trueReadingsLeft 9 = .ok (.if_icmp .ge 39, 3) := by decide +kernel
theorem dX5_trueReadingsLeft_12 : decode cX5_trueReadingsLeft 12 = .ok (.aload_n 0, 1) := by decide +kernel
theorem dX5_trueReadingsLeft_13 : decode cX5_trueReadingsLeft 13 = .ok (.iload_n 3, 1) := by decide +kernel
theorem dX5_trueReadingsLeft_14 : decode cX5_trueReadingsLeft 14 = .ok (.iload_n 1, 1) := by decide +kernel
theorem dX5_trueReadingsLeft_15 : decode cX5_trueReadingsLeft 15 = .ok (.invokevirtual 157, 3) := by decide +kernel
theorem dX5_trueReadingsLeft_18 : decode cX5_trueReadingsLeft 18 = .ok (.ifCond .eq 24, 3) := by decide +kernel
theorem dX5_trueReadingsLeft_21 : decode cX5_trueReadingsLeft 21 = .ok (.aload_n 0, 1) := by decide +kernel
theorem dX5_trueReadingsLeft_22 : decode cX5_trueReadingsLeft 22 = .ok (.getfield 22, 3) := by decide +kernel
theorem dX5_trueReadingsLeft_25 : decode cX5_trueReadingsLeft 25 = .ok (.iload_n 3, 1) := by decide +kernel
theorem dX5_trueReadingsLeft_26 : decode cX5_trueReadingsLeft 26 = .ok (.iaload, 1) := by decide +kernel
theorem dX5_trueReadingsLeft_27 : decode cX5_trueReadingsLeft 27 = .ok (.ifCond .ne 15, 3) := by decide +kernel
theorem dX5_trueReadingsLeft_30 : decode cX5_trueReadingsLeft 30 = .ok (.iload_n 2, 1) := by decide +kernel
theorem dX5_trueReadingsLeft_31 : decode cX5_trueReadingsLeft 31 = .ok (.bipush 9, 2) := by decide +kernel
theorem dX5_trueReadingsLeft_33 : decode cX5_trueReadingsLeft 33 = .ok (.aload_n 0, 1) := by decide +kernel
theorem dX5_trueReadingsLeft_34 : decode cX5_trueReadingsLeft 34 = .ok (.getfield 25, 3) := by decide +kernel
theorem dX5_trueReadingsLeft_37 : decode cX5_trueReadingsLeft 37 = .ok (.iload_n 3, 1) := by decide +kernel
theorem dX5_trueReadingsLeft_38 : decode cX5_trueReadingsLeft 38 = .ok (.iaload, 1) := by decide +kernel
theorem dX5_trueReadingsLeft_39 : decode cX5_trueReadingsLeft 39 = .ok (.isub, 1) := by decide +kernel
theorem dX5_trueReadingsLeft_40 : decode cX5_trueReadingsLeft 40 = .ok (.iadd, 1) := by decide +kernel
theorem dX5_trueReadingsLeft_41 : decode cX5_trueReadingsLeft 41 = .ok (.istore_n 2, 1) := by decide +kernel
theorem dX5_trueReadingsLeft_42 : decode cX5_trueReadingsLeft 42 = .ok (.iinc 3 1, 3) := by decide +kernel
theorem dX5_trueReadingsLeft_45 : decode cX5_trueReadingsLeft 45 = .ok (.goto (-41), 3) := by decide +kernel
theorem dX5_trueReadingsLeft_48 : decode cX5_trueReadingsLeft 48 = .ok (.iload_n 2, 1) := by decide +kernel
theorem dX5_trueReadingsLeft_49 : decode cX5_trueReadingsLeft 49 = .ok (.ireturn, 1) := by decide +kernel
theorem dX5_firstPage_0 : decode cX5_firstPage 0 = .ok (.iconst 0, 1) := by decide +kernel
theorem dX5_firstPage_1 : decode cX5_firstPage 1 = .ok (.istore_n 2, 1) := by decide +kernel
theorem dX5_firstPage_2 : decode cX5_firstPage 2 = .ok (.iload_n 2, 1) := by decide +kernel
theorem dX5_firstPage_3 : decode cX5_firstPage 3 = .ok (.aload_n 0, 1) := by decide +kernel
theorem dX5_firstPage_4 : decode cX5_firstPage 4 = .ok (.getfield 40, 3) := by decide +kernel
theorem dX5_firstPage_7 : decode cX5_firstPage 7 = .ok (.if_icmp .ge 20, 3) := by decide +kernel
theorem dX5_firstPage_10 : decode cX5_firstPage 10 = .ok (.aload_n 0, 1) := by decide +kernel
theorem dX5_firstPage_11 : decode cX5_firstPage 11 = .ok (.iload_n 2, 1) := by decide +kernel
theorem dX5_firstPage_12 : decode cX5_firstPage 12 = .ok (.iload_n 1, 1) := by decide +kernel
theorem dX5_firstPage_13 : decode cX5_firstPage 13 = .ok (.invokevirtual 157, 3) := by decide +kernel
theorem dX5_firstPage_16 : decode cX5_firstPage 16 = .ok (.ifCond .eq 5, 3) := by decide +kernel
theorem dX5_firstPage_19 : decode cX5_firstPage 19 = .ok (.iload_n 2, 1) := by decide +kernel
theorem dX5_firstPage_20 : decode cX5_firstPage 20 = .ok (.ireturn, 1) := by decide +kernel
theorem dX5_firstPage_21 : decode cX5_firstPage 21 = .ok (.iinc 2 1, 3) := by decide +kernel
theorem dX5_firstPage_24 : decode cX5_firstPage 24 = .ok (.goto (-22), 3) := by decide +kernel
theorem dX5_firstPage_27 : decode cX5_firstPage 27 = .ok (.iconst (-1), 1) := by decide +kernel
theorem dX5_firstPage_28 : decode cX5_firstPage 28 = .ok (.ireturn, 1) := by decide +kernel
theorem dX5_darkestPage_0 : decode cX5_darkestPage 0 = .ok (.iconst (-1), 1) := by decide +kernel
theorem dX5_darkestPage_1 : decode cX5_darkestPage 1 = .ok (.istore_n 2, 1) := by decide +kernel
theorem dX5_darkestPage_2 : decode cX5_darkestPage 2 = .ok (.iconst 0, 1) := by decide +kernel
theorem dX5_darkestPage_3 : decode cX5_darkestPage 3 = .ok (.istore_n 3, 1) := by decide +kernel
theorem dX5_darkestPage_4 : decode cX5_darkestPage 4 = .ok (.iload_n 3, 1) := by decide +kernel
theorem dX5_darkestPage_5 : decode cX5_darkestPage 5 = .ok (.aload_n 0, 1) := by decide +kernel
theorem dX5_darkestPage_6 : decode cX5_darkestPage 6 = .ok (.getfield 40, 3) := by decide +kernel
theorem dX5_darkestPage_9 : decode cX5_darkestPage 9 = .ok (.if_icmp .ge 40, 3) := by decide +kernel
theorem dX5_darkestPage_12 : decode cX5_darkestPage 12 = .ok (.aload_n 0, 1) := by decide +kernel
theorem dX5_darkestPage_13 : decode cX5_darkestPage 13 = .ok (.iload_n 3, 1) := by decide +kernel
theorem dX5_darkestPage_14 : decode cX5_darkestPage 14 = .ok (.iload_n 1, 1) := by decide +kernel
theorem dX5_darkestPage_15 : decode cX5_darkestPage 15 = .ok (.invokevirtual 157, 3) := by decide +kernel
theorem dX5_darkestPage_18 : decode cX5_darkestPage 18 = .ok (.ifCond .eq 25, 3) := by decide +kernel
theorem dX5_darkestPage_21 : decode cX5_darkestPage 21 = .ok (.iload_n 2, 1) := by decide +kernel
theorem dX5_darkestPage_22 : decode cX5_darkestPage 22 = .ok (.iconst (-1), 1) := by decide +kernel
theorem dX5_darkestPage_23 : decode cX5_darkestPage 23 = .ok (.if_icmp .eq 18, 3) := by decide +kernel
theorem dX5_darkestPage_26 : decode cX5_darkestPage 26 = .ok (.aload_n 0, 1) := by decide +kernel
theorem dX5_darkestPage_27 : decode cX5_darkestPage 27 = .ok (.getfield 25, 3) := by decide +kernel
theorem dX5_darkestPage_30 : decode cX5_darkestPage 30 = .ok (.iload_n 3, 1) := by decide +kernel
theorem dX5_darkestPage_31 : decode cX5_darkestPage 31 = .ok (.iaload, 1) := by decide +kernel
theorem dX5_darkestPage_32 : decode cX5_darkestPage 32 = .ok (.aload_n 0, 1) := by decide +kernel
theorem dX5_darkestPage_33 : decode cX5_darkestPage 33 = .ok (.getfield 25, 3) := by decide +kernel
theorem dX5_darkestPage_36 : decode cX5_darkestPage 36 = .ok (.iload_n 2, 1) := by decide +kernel
theorem dX5_darkestPage_37 : decode cX5_darkestPage 37 = .ok (.iaload, 1) := by decide +kernel
theorem dX5_darkestPage_38 : decode cX5_darkestPage 38 = .ok (.if_icmp .ge 5, 3) := by decide +kernel
theorem dX5_darkestPage_41 : decode cX5_darkestPage 41 = .ok (.iload_n 3, 1) := by decide +kernel
theorem dX5_darkestPage_42 : decode cX5_darkestPage 42 = .ok (.istore_n 2, 1) := by decide +kernel
theorem dX5_darkestPage_43 : decode cX5_darkestPage 43 = .ok (.iinc 3 1, 3) := by decide +kernel
theorem dX5_darkestPage_46 : decode cX5_darkestPage 46 = .ok (.goto (-42), 3) := by decide +kernel
theorem dX5_darkestPage_49 : decode cX5_darkestPage 49 = .ok (.iload_n 2, 1) := by decide +kernel
theorem dX5_darkestPage_50 : decode cX5_darkestPage 50 = .ok (.ireturn, 1) := by decide +kernel
theorem dX5_knowers_0 : decode cX5_knowers 0 = .ok (.iconst 0, 1) := by decide +kernel
theorem dX5_knowers_1 : decode cX5_knowers 1 = .ok (.istore_n 2, 1) := by decide +kernel
theorem dX5_knowers_2 : decode cX5_knowers 2 = .ok (.iconst 0, 1) := by decide +kernel
theorem dX5_knowers_3 : decode cX5_knowers 3 = .ok (.istore_n 3, 1) := by decide +kernel
theorem dX5_knowers_4 : decode cX5_knowers 4 = .ok (.iload_n 3, 1) := by decide +kernel
theorem dX5_knowers_5 : decode cX5_knowers 5 = .ok (.aload_n 0, 1) := by decide +kernel
theorem dX5_knowers_6 : decode cX5_knowers 6 = .ok (.getfield 50, 3) := by decide +kernel
theorem dX5_knowers_9 : decode cX5_knowers 9 = .ok (.getfield 109, 3) := by decide +kernel
theorem dX5_knowers_12 : decode cX5_knowers 12 = .ok (.if_icmp .ge 24, 3) := by decide +kernel
theorem dX5_knowers_15 : decode cX5_knowers 15 = .ok (.aload_n 0, 1) := by decide +kernel
theorem dX5_knowers_16 : decode cX5_knowers 16 = .ok (.iload_n 3, 1) := by decide +kernel
theorem dX5_knowers_17 : decode cX5_knowers 17 = .ok (.iload_n 1, 1) := by decide +kernel
theorem dX5_knowers_18 : decode cX5_knowers 18 = .ok (.invokevirtual 163, 3) := by decide +kernel
theorem dX5_knowers_21 : decode cX5_knowers 21 = .ok (.ifCond .eq 9, 3) := by decide +kernel
theorem dX5_knowers_24 : decode cX5_knowers 24 = .ok (.iload_n 2, 1) := by decide +kernel
theorem dX5_knowers_25 : decode cX5_knowers 25 = .ok (.iconst 1, 1) := by decide +kernel
theorem dX5_knowers_26 : decode cX5_knowers 26 = .ok (.iload_n 3, 1) := by decide +kernel
theorem dX5_knowers_27 : decode cX5_knowers 27 = .ok (.ishl, 1) := by decide +kernel
theorem dX5_knowers_28 : decode cX5_knowers 28 = .ok (.ior, 1) := by decide +kernel
theorem dX5_knowers_29 : decode cX5_knowers 29 = .ok (.istore_n 2, 1) := by decide +kernel
theorem dX5_knowers_30 : decode cX5_knowers 30 = .ok (.iinc 3 1, 3) := by decide +kernel
theorem dX5_knowers_33 : decode cX5_knowers 33 = .ok (.goto (-29), 3) := by decide +kernel
theorem dX5_knowers_36 : decode cX5_knowers 36 = .ok (.iload_n 2, 1) := by decide +kernel
theorem dX5_knowers_37 : decode cX5_knowers 37 = .ok (.ireturn, 1) := by decide +kernel
theorem dX5_knowersOf_0 : decode cX5_knowersOf 0 = .ok (.iconst 0, 1) := by decide +kernel
theorem dX5_knowersOf_1 : decode cX5_knowersOf 1 = .ok (.istore_n 3, 1) := by decide +kernel
theorem dX5_knowersOf_2 : decode cX5_knowersOf 2 = .ok (.iconst 0, 1) := by decide +kernel
theorem dX5_knowersOf_3 : decode cX5_knowersOf 3 = .ok (.istore 4, 2) := by decide +kernel
theorem dX5_knowersOf_5 : decode cX5_knowersOf 5 = .ok (.iload 4, 2) := by decide +kernel
theorem dX5_knowersOf_7 : decode cX5_knowersOf 7 = .ok (.aload_n 0, 1) := by decide +kernel
theorem dX5_knowersOf_8 : decode cX5_knowersOf 8 = .ok (.getfield 50, 3) := by decide +kernel
theorem dX5_knowersOf_11 : decode cX5_knowersOf 11 = .ok (.getfield 109, 3) := by decide +kernel
theorem dX5_knowersOf_14 : decode cX5_knowersOf 14 = .ok (.if_icmp .ge 27, 3) := by decide +kernel
theorem dX5_knowersOf_17 : decode cX5_knowersOf 17 = .ok (.aload_n 0, 1) := by decide +kernel
theorem dX5_knowersOf_18 : decode cX5_knowersOf 18 = .ok (.iload 4, 2) := by decide +kernel
theorem dX5_knowersOf_20 : decode cX5_knowersOf 20 = .ok (.iload_n 1, 1) := by decide +kernel
theorem dX5_knowersOf_21 : decode cX5_knowersOf 21 = .ok (.invokevirtual 96, 3) := by decide +kernel
theorem dX5_knowersOf_24 : decode cX5_knowersOf 24 = .ok (.iload_n 2, 1) := by decide +kernel
theorem dX5_knowersOf_25 : decode cX5_knowersOf 25 = .ok (.if_icmp .ne 10, 3) := by decide +kernel
theorem dX5_knowersOf_28 : decode cX5_knowersOf 28 = .ok (.iload_n 3, 1) := by decide +kernel
theorem dX5_knowersOf_29 : decode cX5_knowersOf 29 = .ok (.iconst 1, 1) := by decide +kernel
theorem dX5_knowersOf_30 : decode cX5_knowersOf 30 = .ok (.iload 4, 2) := by decide +kernel
theorem dX5_knowersOf_32 : decode cX5_knowersOf 32 = .ok (.ishl, 1) := by decide +kernel
theorem dX5_knowersOf_33 : decode cX5_knowersOf 33 = .ok (.ior, 1) := by decide +kernel
theorem dX5_knowersOf_34 : decode cX5_knowersOf 34 = .ok (.istore_n 3, 1) := by decide +kernel
theorem dX5_knowersOf_35 : decode cX5_knowersOf 35 = .ok (.iinc 4 1, 3) := by decide +kernel
theorem dX5_knowersOf_38 : decode cX5_knowersOf 38 = .ok (.goto (-33), 3) := by decide +kernel
theorem dX5_knowersOf_41 : decode cX5_knowersOf 41 = .ok (.iload_n 3, 1) := by decide +kernel
theorem dX5_knowersOf_42 : decode cX5_knowersOf 42 = .ok (.ireturn, 1) := by decide +kernel
theorem dX5_trueKnowers_0 : decode cX5_trueKnowers 0 = .ok (.aload_n 0, 1) := by decide +kernel
theorem dX5_trueKnowers_1 : decode cX5_trueKnowers 1 = .ok (.iload_n 1, 1) := by decide +kernel
theorem dX5_trueKnowers_2 : decode cX5_trueKnowers 2 = .ok (.iconst 0, 1) := by decide +kernel
theorem dX5_trueKnowers_3 : decode cX5_trueKnowers 3 = .ok (.invokevirtual 166, 3) := by decide +kernel
theorem dX5_trueKnowers_6 : decode cX5_trueKnowers 6 = .ok (.ireturn, 1) := by decide +kernel
theorem dX5_linesKnown_0 : decode cX5_linesKnown 0 = .ok (.iconst 0, 1) := by decide +kernel
theorem dX5_linesKnown_1 : decode cX5_linesKnown 1 = .ok (.istore_n 2, 1) := by decide +kernel
theorem dX5_linesKnown_2 : decode cX5_linesKnown 2 = .ok (.iconst 0, 1) := by decide +kernel
theorem dX5_linesKnown_3 : decode cX5_linesKnown 3 = .ok (.istore_n 3, 1) := by decide +kernel
theorem dX5_linesKnown_4 : decode cX5_linesKnown 4 = .ok (.iload_n 3, 1) := by decide +kernel
theorem dX5_linesKnown_5 : decode cX5_linesKnown 5 = .ok (.aload_n 0, 1) := by decide +kernel
theorem dX5_linesKnown_6 : decode cX5_linesKnown 6 = .ok (.getfield 50, 3) := by decide +kernel
theorem dX5_linesKnown_9 : decode cX5_linesKnown 9 = .ok (.getfield 60, 3) := by decide +kernel
theorem dX5_linesKnown_12 : decode cX5_linesKnown 12 = .ok (.if_icmp .ge 21, 3) := by decide +kernel
theorem dX5_linesKnown_15 : decode cX5_linesKnown 15 = .ok (.aload_n 0, 1) := by decide +kernel
theorem dX5_linesKnown_16 : decode cX5_linesKnown 16 = .ok (.iload_n 1, 1) := by decide +kernel
theorem dX5_linesKnown_17 : decode cX5_linesKnown 17 = .ok (.iload_n 3, 1) := by decide +kernel
theorem dX5_linesKnown_18 : decode cX5_linesKnown 18 = .ok (.invokevirtual 163, 3) := by decide +kernel
theorem dX5_linesKnown_21 : decode cX5_linesKnown 21 = .ok (.ifCond .eq 6, 3) := by decide +kernel
theorem dX5_linesKnown_24 : decode cX5_linesKnown 24 = .ok (.iinc 2 1, 3) := by decide +kernel
theorem dX5_linesKnown_27 : decode cX5_linesKnown 27 = .ok (.iinc 3 1, 3) := by decide +kernel
theorem dX5_linesKnown_30 : decode cX5_linesKnown 30 = .ok (.goto (-26), 3) := by decide +kernel
theorem dX5_linesKnown_33 : decode cX5_linesKnown 33 = .ok (.iload_n 2, 1) := by decide +kernel
theorem dX5_linesKnown_34 : decode cX5_linesKnown 34 = .ok (.ireturn, 1) := by decide +kernel
theorem dX5_voteOn_0 : decode cX5_voteOn 0 = .ok (.aload_n 0, 1) := by decide +kernel
theorem dX5_voteOn_1 : decode cX5_voteOn 1 = .ok (.iload_n 1, 1) := by decide +kernel
theorem dX5_voteOn_2 : decode cX5_voteOn 2 = .ok (.invokevirtual 169, 3) := by decide +kernel
theorem dX5_voteOn_5 : decode cX5_voteOn 5 = .ok (.aload_n 0, 1) := by decide +kernel
theorem dX5_voteOn_6 : decode cX5_voteOn 6 = .ok (.iload_n 1, 1) := by decide +kernel
theorem dX5_voteOn_7 : decode cX5_voteOn 7 = .ok (.invokevirtual 172, 3) := by decide +kernel
theorem dX5_voteOn_10 : decode cX5_voteOn 10 = .ok (.invokestatic 175, 3) := by decide +kernel
theorem dX5_voteOn_13 : decode cX5_voteOn 13 = .ok (.iadd, 1) := by decide +kernel
theorem dX5_voteOn_14 : decode cX5_voteOn 14 = .ok (.istore_n 2, 1) := by decide +kernel
theorem dX5_voteOn_15 : decode cX5_voteOn 15 = .ok (.iconst 0, 1) := by decide +kernel
theorem dX5_voteOn_16 : decode cX5_voteOn 16 = .ok (.istore_n 3, 1) := by decide +kernel
theorem dX5_voteOn_17 : decode cX5_voteOn 17 = .ok (.iload_n 3, 1) := by decide +kernel
theorem dX5_voteOn_18 : decode cX5_voteOn 18 = .ok (.aload_n 0, 1) := by decide +kernel
theorem dX5_voteOn_19 : decode cX5_voteOn 19 = .ok (.getfield 40, 3) := by decide +kernel
theorem dX5_voteOn_22 : decode cX5_voteOn 22 = .ok (.if_icmp .gt 37, 3) := by decide +kernel
theorem dX5_voteOn_25 : decode cX5_voteOn 25 = .ok (.aload_n 0, 1) := by decide +kernel
theorem dX5_voteOn_26 : decode cX5_voteOn 26 = .ok (.iload_n 1, 1) := by decide +kernel
theorem dX5_voteOn_27 : decode cX5_voteOn 27 = .ok (.iload_n 3, 1) := by decide +kernel
theorem dX5_voteOn_28 : decode cX5_voteOn 28 = .ok (.invokevirtual 160, 3) := by decide +kernel
theorem dX5_voteOn_31 : decode cX5_voteOn 31 = .ok (.aload_n 0, 1) := by decide +kernel
theorem dX5_voteOn_32 : decode cX5_voteOn 32 = .ok (.iload_n 1, 1) := by decide +kernel
theorem dX5_voteOn_33 : decode cX5_voteOn 33 = .ok (.iload_n 3, 1) := by decide +kernel
theorem dX5_voteOn_34 : decode cX5_voteOn 34 = .ok (.invokevirtual 166, 3) := by decide +kernel
theorem dX5_voteOn_37 : decode cX5_voteOn 37 = .ok (.invokestatic 175, 3) := by decide +kernel
theorem dX5_voteOn_40 : decode cX5_voteOn 40 = .ok (.iadd, 1) := by decide +kernel
theorem dX5_voteOn_41 : decode cX5_voteOn 41 = .ok (.istore 4, 2) := by decide +kernel
theorem dX5_voteOn_43 : decode cX5_voteOn 43 = .ok (.iload 4, 2) := by decide +kernel
theorem dX5_voteOn_45 : decode cX5_voteOn 45 = .ok (.iconst 2, 1) := by decide +kernel
theorem dX5_voteOn_46 : decode cX5_voteOn 46 = .ok (.imul, 1) := by decide +kernel
theorem dX5_voteOn_47 : decode cX5_voteOn 47 = .ok (.iload_n 2, 1) := by decide +kernel
theorem dX5_voteOn_48 : decode cX5_voteOn 48 = .ok (.if_icmp .le 5, 3) := by decide +kernel
theorem dX5_voteOn_51 : decode cX5_voteOn 51 = .ok (.iload_n 3, 1) := by decide +kernel
theorem dX5_voteOn_52 : decode cX5_voteOn 52 = .ok (.ireturn, 1) := by decide +kernel
theorem dX5_voteOn_53 : decode cX5_voteOn 53 = .ok (.iinc 3 1, 3) := by decide +kernel
theorem dX5_voteOn_56 : decode cX5_voteOn 56 = .ok (.goto (-39), 3) := by decide +kernel
theorem dX5_voteOn_59 : decode cX5_voteOn 59 = .ok (.iconst (-1), 1) := by decide +kernel
theorem dX5_voteOn_60 : decode cX5_voteOn 60 = .ok (.ireturn, 1) := by decide +kernel
theorem dX5_canBeCopied_0 : decode cX5_canBeCopied 0 = .ok (.iconst 0, 1) := by decide +kernel
theorem dX5_canBeCopied_1 : decode cX5_canBeCopied 1 = .ok (.istore 4, 2) := by decide +kernel
theorem dX5_canBeCopied_3 : decode cX5_canBeCopied 3 = .ok (.iload 4, 2) := by decide +kernel
theorem dX5_canBeCopied_5 : decode cX5_canBeCopied 5 = .ok (.aload_n 0, 1) := by decide +kernel
theorem dX5_canBeCopied_6 : decode cX5_canBeCopied 6 = .ok (.getfield 12, 3) := by decide +kernel
theorem dX5_canBeCopied_9 : decode cX5_canBeCopied 9 = .ok (.getfield 68, 3) := by decide +kernel
theorem dX5_canBeCopied_12 : decode cX5_canBeCopied 12 = .ok (.if_icmp .ge 96, 3) := by decide +kernel
theorem dX5_canBeCopied_15 : decode cX5_canBeCopied 15 = .ok (.aload_n 0, 1) := by decide +kernel
theorem dX5_canBeCopied_16 : decode cX5_canBeCopied 16 = .ok (.getfield 12, 3) := by decide +kernel
theorem dX5_canBeCopied_19 : decode cX5_canBeCopied 19 = .ok (.getfield 180, 3) := by decide +kernel
theorem dX5_canBeCopied_22 : decode cX5_canBeCopied 22 = .ok (.iload 4, 2) := by decide +kernel
theorem dX5_canBeCopied_24 : decode cX5_canBeCopied 24 = .ok (.iaload, 1) := by decide +kernel
theorem dX5_canBeCopied_25 : decode cX5_canBeCopied 25 = .ok (.istore 5, 2) := by decide +kernel
theorem dX5_canBeCopied_27 : decode cX5_canBeCopied 27 = .ok (.aload_n 0, 1) := by decide +kernel
theorem dX5_canBeCopied_28 : decode cX5_canBeCopied 28 = .ok (.getfield 12, 3) := by decide +kernel
theorem dX5_canBeCopied_31 : decode cX5_canBeCopied 31 = .ok (.getfield 182, 3) := by decide +kernel
theorem dX5_canBeCopied_34 : decode cX5_canBeCopied 34 = .ok (.iload 4, 2) := by decide +kernel
theorem dX5_canBeCopied_36 : decode cX5_canBeCopied 36 = .ok (.iaload, 1) := by decide +kernel
theorem dX5_canBeCopied_37 : decode cX5_canBeCopied 37 = .ok (.iload_n 3, 1) := by decide +kernel
theorem dX5_canBeCopied_38 : decode cX5_canBeCopied 38 = .ok (.if_icmp .ne 40, 3) := by decide +kernel
theorem dX5_canBeCopied_41 : decode cX5_canBeCopied 41 = .ok (.aload_n 0, 1) := by decide +kernel
theorem dX5_canBeCopied_42 : decode cX5_canBeCopied 42 = .ok (.getfield 18, 3) := by decide +kernel
theorem dX5_canBeCopied_45 : decode cX5_canBeCopied 45 = .ok (.iload 5, 2) := by decide +kernel
theorem dX5_canBeCopied_47 : decode cX5_canBeCopied 47 = .ok (.iaload, 1) := by decide +kernel
theorem dX5_canBeCopied_48 : decode cX5_canBeCopied 48 = .ok (.iload_n 1, 1) := by decide +kernel
theorem dX5_canBeCopied_49 : decode cX5_canBeCopied 49 = .ok (.if_icmp .ne 29, 3) := by decide +kernel
theorem dX5_canBeCopied_52 : decode cX5_canBeCopied 52 = .ok (.aload_n 0, 1) := by decide +kernel
theorem dX5_canBeCopied_53 : decode cX5_canBeCopied 53 = .ok (.getfield 50, 3) := by decide +kernel
theorem dX5_canBeCopied_56 : decode cX5_canBeCopied 56 = .ok (.getfield 103, 3) := by decide +kernel
theorem dX5_canBeCopied_59 : decode cX5_canBeCopied 59 = .ok (.aload_n 0, 1) := by decide +kernel
theorem dX5_canBeCopied_60 : decode cX5_canBeCopied 60 = .ok (.getfield 12, 3) := by decide +kernel
theorem dX5_canBeCopied_63 : decode cX5_canBeCopied 63 = .ok (.getfield 185, 3) := by decide +kernel
theorem dX5_canBeCopied_66 : decode cX5_canBeCopied 66 = .ok (.iload 4, 2) := by decide +kernel
theorem dX5_canBeCopied_68 : decode cX5_canBeCopied 68 = .ok (.iaload, 1) := by decide +kernel
theorem dX5_canBeCopied_69 : decode cX5_canBeCopied 69 = .ok (.iaload, 1) := by decide +kernel
theorem dX5_canBeCopied_70 : decode cX5_canBeCopied 70 = .ok (.iconst 2, 1) := by decide +kernel
theorem dX5_canBeCopied_71 : decode cX5_canBeCopied 71 = .ok (.if_icmp .ne 7, 3) := by decide +kernel
theorem dX5_canBeCopied_74 : decode cX5_canBeCopied 74 = .ok (.iconst 1, 1) := by decide +kernel
theorem dX5_canBeCopied_75 : decode cX5_canBeCopied 75 = .ok (.goto 4, 3) := by decide +kernel
theorem dX5_canBeCopied_78 : decode cX5_canBeCopied 78 = .ok (.iconst 0, 1) := by decide +kernel
theorem dX5_canBeCopied_79 : decode cX5_canBeCopied 79 = .ok (.istore 6, 2) := by decide +kernel
theorem dX5_canBeCopied_81 : decode cX5_canBeCopied 81 = .ok (.iload 6, 2) := by decide +kernel
theorem dX5_canBeCopied_83 : decode cX5_canBeCopied 83 = .ok (.ifCond .eq 19, 3) := by decide +kernel
theorem dX5_canBeCopied_86 : decode cX5_canBeCopied 86 = .ok (.iload_n 2, 1) := by decide +kernel
theorem dX5_canBeCopied_87 : decode cX5_canBeCopied 87 = .ok (.ifCond .ne 13, 3) := by decide +kernel
theorem dX5_canBeCopied_90 : decode cX5_canBeCopied 90 = .ok (.aload_n 0, 1) := by decide +kernel
theorem dX5_canBeCopied_91 : decode cX5_canBeCopied 91 = .ok (.getfield 22, 3) := by decide +kernel
theorem dX5_canBeCopied_94 : decode cX5_canBeCopied 94 = .ok (.iload 5, 2) := by decide +kernel
theorem dX5_canBeCopied_96 : decode cX5_canBeCopied 96 = .ok (.iaload, 1) := by decide +kernel
theorem dX5_canBeCopied_97 : decode cX5_canBeCopied 97 = .ok (.ifCond .ne 5, 3) := by decide +kernel
theorem dX5_canBeCopied_100 : decode cX5_canBeCopied 100 = .ok (.iconst 1, 1) := by decide +kernel
theorem dX5_canBeCopied_101 : decode cX5_canBeCopied 101 = .ok (.ireturn, 1) := by decide +kernel
theorem dX5_canBeCopied_102 : decode cX5_canBeCopied 102 = .ok (.iinc 4 1, 3) := by decide +kernel
theorem dX5_canBeCopied_105 : decode cX5_canBeCopied 105 = .ok (.goto (-102), 3) := by decide +kernel
theorem dX5_canBeCopied_108 : decode cX5_canBeCopied 108 = .ok (.iconst 0, 1) := by decide +kernel
theorem dX5_canBeCopied_109 : decode cX5_canBeCopied 109 = .ok (.ireturn, 1) := by decide +kernel
theorem dX5_firstWriter_0 : decode cX5_firstWriter 0 = .ok (.iconst 0, 1) := by decide +kernel
theorem dX5_firstWriter_1 : decode cX5_firstWriter 1 = .ok (.istore_n 3, 1) := by decide +kernel
theorem dX5_firstWriter_2 : decode cX5_firstWriter 2 = .ok (.iload_n 3, 1) := by decide +kernel
theorem dX5_firstWriter_3 : decode cX5_firstWriter 3 = .ok (.aload_n 0, 1) := by decide +kernel
theorem dX5_firstWriter_4 : decode cX5_firstWriter 4 = .ok (.getfield 40, 3) := by decide +kernel
theorem dX5_firstWriter_7 : decode cX5_firstWriter 7 = .ok (.if_icmp .ge 52, 3) := by decide +kernel
theorem dX5_firstWriter_10 : decode cX5_firstWriter 10 = .ok (.aload_n 0, 1) := by decide +kernel
theorem dX5_firstWriter_11 : decode cX5_firstWriter 11 = .ok (.getfield 18, 3) := by decide +kernel
theorem dX5_firstWriter_14 : decode cX5_firstWriter 14 = .ok (.iload_n 3, 1) := by decide +kernel
theorem dX5_firstWriter_15 : decode cX5_firstWriter 15 = .ok (.iaload, 1) := by decide +kernel
theorem dX5_firstWriter_16 : decode cX5_firstWriter 16 = .ok (.iload_n 1, 1) := by decide +kernel
theorem dX5_firstWriter_17 : decode cX5_firstWriter 17 = .ok (.if_icmp .ne 36, 3) := by decide +kernel
theorem dX5_firstWriter_20 : decode cX5_firstWriter 20 = .ok (.aload_n 0, 1) := by decide +kernel
theorem dX5_firstWriter_21 : decode cX5_firstWriter 21 = .ok (.getfield 22, 3) := by decide +kernel
theorem dX5_firstWriter_24 : decode cX5_firstWriter 24 = .ok (.iload_n 3, 1) := by decide +kernel
theorem dX5_firstWriter_25 : decode cX5_firstWriter 25 = .ok (.iaload, 1) := by decide +kernel
theorem dX5_firstWriter_26 : decode cX5_firstWriter 26 = .ok (.iload_n 2, 1) := by decide +kernel
theorem dX5_firstWriter_27 : decode cX5_firstWriter 27 = .ok (.if_icmp .ne 26, 3) := by decide +kernel
theorem dX5_firstWriter_30 : decode cX5_firstWriter 30 = .ok (.aload_n 0, 1) := by decide +kernel
theorem dX5_firstWriter_31 : decode cX5_firstWriter 31 = .ok (.getfield 28, 3) := by decide +kernel
theorem dX5_firstWriter_34 : decode cX5_firstWriter 34 = .ok (.iload_n 3, 1) := by decide +kernel
theorem dX5_firstWriter_35 : decode cX5_firstWriter 35 = .ok (.iaload, 1) := by decide +kernel
theorem dX5_firstWriter_36 : decode cX5_firstWriter 36 = .ok (.iconst (-1), 1) := by decide +kernel
theorem dX5_firstWriter_37 : decode cX5_firstWriter 37 = .ok (.if_icmp .ne 7, 3) := by decide +kernel
theorem dX5_firstWriter_40 : decode cX5_firstWriter 40 = .ok (.iconst 0, 1) := by decide +kernel
theorem dX5_firstWriter_41 : decode cX5_firstWriter 41 = .ok (.goto 11, 3) := by decide +kernel
theorem dX5_firstWriter_44 : decode cX5_firstWriter 44 = .ok (.iconst 1, 1) := by decide +kernel
theorem dX5_firstWriter_45 : decode cX5_firstWriter 45 = .ok (.aload_n 0, 1) := by decide +kernel
theorem dX5_firstWriter_46 : decode cX5_firstWriter 46 = .ok (.getfield 28, 3) := by decide +kernel
theorem dX5_firstWriter_49 : decode cX5_firstWriter 49 = .ok (.iload_n 3, 1) := by decide +kernel
theorem dX5_firstWriter_50 : decode cX5_firstWriter 50 = .ok (.iaload, 1) := by decide +kernel
theorem dX5_firstWriter_51 : decode cX5_firstWriter 51 = .ok (.ishl, 1) := by decide +kernel
theorem dX5_firstWriter_52 : decode cX5_firstWriter 52 = .ok (.ireturn, 1) := by decide +kernel
theorem dX5_firstWriter_53 : decode cX5_firstWriter 53 = .ok (.iinc 3 1, 3) := by decide +kernel
theorem dX5_firstWriter_56 : decode cX5_firstWriter 56 = .ok (.goto (-54), 3) := by decide +kernel
theorem dX5_firstWriter_59 : decode cX5_firstWriter 59 = .ok (.iconst 0, 1) := by decide +kernel
theorem dX5_firstWriter_60 : decode cX5_firstWriter 60 = .ok (.ireturn, 1) := by decide +kernel
theorem dJ6_bitCount_0f7a4_0 : decode cJ6_bitCount_0f7a4 0 = .ok (.iload_n 0, 1) := by decide +kernel
theorem dJ6_bitCount_0f7a4_1 : decode cJ6_bitCount_0f7a4 1 = .ok (.iload_n 0, 1) := by decide +kernel
theorem dJ6_bitCount_0f7a4_2 : decode cJ6_bitCount_0f7a4 2 = .ok (.iconst 1, 1) := by decide +kernel
theorem dJ6_bitCount_0f7a4_3 : decode cJ6_bitCount_0f7a4 3 = .ok (.iushr, 1) := by decide +kernel
theorem dJ6_bitCount_0f7a4_4 : decode cJ6_bitCount_0f7a4 4 = .ok (.ldc_w 265, 3) := by decide +kernel
theorem dJ6_bitCount_0f7a4_7 : decode cJ6_bitCount_0f7a4 7 = .ok (.iand, 1) := by decide +kernel
theorem dJ6_bitCount_0f7a4_8 : decode cJ6_bitCount_0f7a4 8 = .ok (.isub, 1) := by decide +kernel
theorem dJ6_bitCount_0f7a4_9 : decode cJ6_bitCount_0f7a4 9 = .ok (.istore_n 0, 1) := by decide +kernel
theorem dJ6_bitCount_0f7a4_10 : decode cJ6_bitCount_0f7a4 10 = .ok (.iload_n 0, 1) := by decide +kernel
theorem dJ6_bitCount_0f7a4_11 : decode cJ6_bitCount_0f7a4 11 = .ok (.ldc_w 266, 3) := by decide +kernel
theorem dJ6_bitCount_0f7a4_14 : decode cJ6_bitCount_0f7a4 14 = .ok (.iand, 1) := by decide +kernel
theorem dJ6_bitCount_0f7a4_15 : decode cJ6_bitCount_0f7a4 15 = .ok (.iload_n 0, 1) := by decide +kernel
theorem dJ6_bitCount_0f7a4_16 : decode cJ6_bitCount_0f7a4 16 = .ok (.iconst 2, 1) := by decide +kernel
theorem dJ6_bitCount_0f7a4_17 : decode cJ6_bitCount_0f7a4 17 = .ok (.iushr, 1) := by decide +kernel
theorem dJ6_bitCount_0f7a4_18 : decode cJ6_bitCount_0f7a4 18 = .ok (.ldc_w 266, 3) := by decide +kernel
theorem dJ6_bitCount_0f7a4_21 : decode cJ6_bitCount_0f7a4 21 = .ok (.iand, 1) := by decide +kernel
theorem dJ6_bitCount_0f7a4_22 : decode cJ6_bitCount_0f7a4 22 = .ok (.iadd, 1) := by decide +kernel
theorem dJ6_bitCount_0f7a4_23 : decode cJ6_bitCount_0f7a4 23 = .ok (.istore_n 0, 1) := by decide +kernel
theorem dJ6_bitCount_0f7a4_24 : decode cJ6_bitCount_0f7a4 24 = .ok (.iload_n 0, 1) := by decide +kernel
theorem dJ6_bitCount_0f7a4_25 : decode cJ6_bitCount_0f7a4 25 = .ok (.iload_n 0, 1) := by decide +kernel
theorem dJ6_bitCount_0f7a4_26 : decode cJ6_bitCount_0f7a4 26 = .ok (.iconst 4, 1) := by decide +kernel
theorem dJ6_bitCount_0f7a4_27 : decode cJ6_bitCount_0f7a4 27 = .ok (.iushr, 1) := by decide +kernel
theorem dJ6_bitCount_0f7a4_28 : decode cJ6_bitCount_0f7a4 28 = .ok (.iadd, 1) := by decide +kernel
theorem dJ6_bitCount_0f7a4_29 : decode cJ6_bitCount_0f7a4 29 = .ok (.ldc_w 267, 3) := by decide +kernel
theorem dJ6_bitCount_0f7a4_32 : decode cJ6_bitCount_0f7a4 32 = .ok (.iand, 1) := by decide +kernel
theorem dJ6_bitCount_0f7a4_33 : decode cJ6_bitCount_0f7a4 33 = .ok (.istore_n 0, 1) := by decide +kernel
theorem dJ6_bitCount_0f7a4_34 : decode cJ6_bitCount_0f7a4 34 = .ok (.iload_n 0, 1) := by decide +kernel
theorem dJ6_bitCount_0f7a4_35 : decode cJ6_bitCount_0f7a4 35 = .ok (.iload_n 0, 1) := by decide +kernel
theorem dJ6_bitCount_0f7a4_36 : decode cJ6_bitCount_0f7a4 36 = .ok (.bipush 8, 2) := by decide +kernel
theorem dJ6_bitCount_0f7a4_38 : decode cJ6_bitCount_0f7a4 38 = .ok (.iushr, 1) := by decide +kernel
theorem dJ6_bitCount_0f7a4_39 : decode cJ6_bitCount_0f7a4 39 = .ok (.iadd, 1) := by decide +kernel
theorem dJ6_bitCount_0f7a4_40 : decode cJ6_bitCount_0f7a4 40 = .ok (.istore_n 0, 1) := by decide +kernel
theorem dJ6_bitCount_0f7a4_41 : decode cJ6_bitCount_0f7a4 41 = .ok (.iload_n 0, 1) := by decide +kernel
theorem dJ6_bitCount_0f7a4_42 : decode cJ6_bitCount_0f7a4 42 = .ok (.iload_n 0, 1) := by decide +kernel
theorem dJ6_bitCount_0f7a4_43 : decode cJ6_bitCount_0f7a4 43 = .ok (.bipush 16, 2) := by decide +kernel
theorem dJ6_bitCount_0f7a4_45 : decode cJ6_bitCount_0f7a4 45 = .ok (.iushr, 1) := by decide +kernel
theorem dJ6_bitCount_0f7a4_46 : decode cJ6_bitCount_0f7a4 46 = .ok (.iadd, 1) := by decide +kernel
theorem dJ6_bitCount_0f7a4_47 : decode cJ6_bitCount_0f7a4 47 = .ok (.istore_n 0, 1) := by decide +kernel
theorem dJ6_bitCount_0f7a4_48 : decode cJ6_bitCount_0f7a4 48 = .ok (.iload_n 0, 1) := by decide +kernel
theorem dJ6_bitCount_0f7a4_49 : decode cJ6_bitCount_0f7a4 49 = .ok (.bipush 63, 2) := by decide +kernel
theorem dJ6_bitCount_0f7a4_51 : decode cJ6_bitCount_0f7a4 51 = .ok (.iand, 1) := by decide +kernel
theorem dJ6_bitCount_0f7a4_52 : decode cJ6_bitCount_0f7a4 52 = .ok (.ireturn, 1) := by decide +kernel
theorem dJ7_fill_53178_0 : decode cJ7_fill_53178 0 = .ok (.iconst 0, 1) := by decide +kernel
theorem dJ7_fill_53178_1 : decode cJ7_fill_53178 1 = .ok (.istore_n 2, 1) := by decide +kernel
theorem dJ7_fill_53178_2 : decode cJ7_fill_53178 2 = .ok (.aload_n 0, 1) := by decide +kernel
theorem dJ7_fill_53178_3 : decode cJ7_fill_53178 3 = .ok (.arraylength, 1) := by decide +kernel
theorem dJ7_fill_53178_4 : decode cJ7_fill_53178 4 = .ok (.istore_n 3, 1) := by decide +kernel
theorem dJ7_fill_53178_5 : decode cJ7_fill_53178 5 = .ok (.iload_n 2, 1) := by decide +kernel
theorem dJ7_fill_53178_6 : decode cJ7_fill_53178 6 = .ok (.iload_n 3, 1) := by decide +kernel
theorem dJ7_fill_53178_7 : decode cJ7_fill_53178 7 = .ok (.if_icmp .ge 13, 3) := by decide +kernel
theorem dJ7_fill_53178_10 : decode cJ7_fill_53178 10 = .ok (.aload_n 0, 1) := by decide +kernel
theorem dJ7_fill_53178_11 : decode cJ7_fill_53178 11 = .ok (.iload_n 2, 1) := by decide +kernel
theorem dJ7_fill_53178_12 : decode cJ7_fill_53178 12 = .ok (.iload_n 1, 1) := by decide +kernel
theorem dJ7_fill_53178_13 : decode cJ7_fill_53178 13 = .ok (.iastore, 1) := by decide +kernel
theorem dJ7_fill_53178_14 : decode cJ7_fill_53178 14 = .ok (.iinc 2 1, 3) := by decide +kernel
theorem dJ7_fill_53178_17 : decode cJ7_fill_53178 17 = .ok (.goto (-12), 3) := by decide +kernel
theorem dJ7_fill_53178_20 : decode cJ7_fill_53178 20 = .ok (.return_, 1) := by decide +kernel
