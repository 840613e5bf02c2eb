theorem dX7_in_0 : decode cX7_in 0 = .ok (.lload_n 0, 1) := by decide +kernel
theorem dX7_in_1 : decode cX7_in 1 = .ok (.lload_n 2, 1) := by decide +kernel
theorem dX7_in_2 : decode cX7_in 2 = .ok (.lcmp, 1) := by decide +kernel
theorem dX7_in_3 : decode cX7_in 3 = .ok (.ifCond .lt 14, 3) := by decide +kernel
theorem dX7_in_6 : decode cX7_in 6 = .ok (.lload_n 0, 1) := by decide +kernel
theorem dX7_in_7 : decode cX7_in 7 = .ok (.lload 4, 2) := by decide +kernel
theorem dX7_in_9 : decode cX7_in 9 = .ok (.lcmp, 1) := by decide +kernel
theorem dX7_in_10 : decode cX7_in 10 = .ok (.ifCond .gt 7, 3) := by decide +kernel
theorem dX7_in_13 : decode cX7_in 13 = .ok (.iconst 1, 1) := by decide +kernel
theorem dX7_in_14 : decode cX7_in 14 = .ok (.goto 4, 3) := by decide +kernel
theorem dX7_in_17 : decode cX7_in 17 = .ok (.iconst 0, 1) := by decide +kernel
theorem dX7_in_18 : decode cX7_in 18 = .ok (.ireturn, 1) := by decide +kernel
theorem dX7_one_0 : decode cX7_one 0 = .ok (.iload_n 0, 1) := by decide +kernel
theorem dX7_one_1 : decode cX7_one 1 = .ok (.ifCond .eq 7, 3) := by decide +kernel
theorem dX7_one_4 : decode cX7_one 4 = .ok (.iconst 1, 1) := by decide +kernel
theorem dX7_one_5 : decode cX7_one 5 = .ok (.goto 4, 3) := by decide +kernel
theorem dX7_one_8 : decode cX7_one 8 = .ok (.iconst 0, 1) := by decide +kernel
theorem dX7_one_9 : decode cX7_one 9 = .ok (.ireturn, 1) := by decide +kernel
theorem dX7_has_0 : decode cX7_has 0 = .ok (.iload_n 0, 1) := by decide +kernel
theorem dX7_has_1 : decode cX7_has 1 = .ok (.iload_n 1, 1) := by decide +kernel
theorem dX7_has_2 : decode cX7_has 2 = .ok (.ishr, 1) := by decide +kernel
theorem dX7_has_3 : decode cX7_has 3 = .ok (.iconst 1, 1) := by decide +kernel
theorem dX7_has_4 : decode cX7_has 4 = .ok (.iand, 1) := by decide +kernel
theorem dX7_has_5 : decode cX7_has 5 = .ok (.iconst 1, 1) := by decide +kernel
theorem dX7_has_6 : decode cX7_has 6 = .ok (.if_icmp .ne 7, 3) := by decide +kernel
theorem dX7_has_9 : decode cX7_has 9 = .ok (.iconst 1, 1) := by decide +kernel
theorem dX7_has_10 : decode cX7_has 10 = .ok (.goto 4, 3) := by decide +kernel
theorem dX7_has_13 : decode cX7_has 13 = .ok (.iconst 0, 1) := by decide +kernel
theorem dX7_has_14 : decode cX7_has 14 = .ok (.ireturn, 1) := by decide +kernel
theorem dX7_ones_0 : decode cX7_ones 0 = .ok (.iconst 0, 1) := by decide +kernel
theorem dX7_ones_1 : decode cX7_ones 1 = .ok (.istore_n 1, 1) := by decide +kernel
theorem dX7_ones_2 : decode cX7_ones 2 = .ok (.iconst 0, 1) := by decide +kernel
theorem dX7_ones_3 : decode cX7_ones 3 = .ok (.istore_n 2, 1) := by decide +kernel
theorem dX7_ones_4 : decode cX7_ones 4 = .ok (.iload_n 2, 1) := by decide +kernel
theorem dX7_ones_5 : decode cX7_ones 5 = .ok (.bipush 16, 2) := by decide +kernel
theorem dX7_ones_7 : decode cX7_ones 7 = .ok (.if_icmp .ge 17, 3) := by decide +kernel
theorem dX7_ones_10 : decode cX7_ones 10 = .ok (.iload_n 1, 1) := by decide +kernel
theorem dX7_ones_11 : decode cX7_ones 11 = .ok (.iload_n 0, 1) := by decide +kernel
theorem dX7_ones_12 : decode cX7_ones 12 = .ok (.iload_n 2, 1) := by decide +kernel
theorem dX7_ones_13 : decode cX7_ones 13 = .ok (.ishr, 1) := by decide +kernel
theorem dX7_ones_14 : decode cX7_ones 14 = .ok (.iconst 1, 1) := by decide +kernel
theorem dX7_ones_15 : decode cX7_ones 15 = .ok (.iand, 1) := by decide +kernel
theorem dX7_ones_16 : decode cX7_ones 16 = .ok (.iadd, 1) := by decide +kernel
theorem dX7_ones_17 : decode cX7_ones 17 = .ok (.istore_n 1, 1) := by decide +kernel
theorem dX7_ones_18 : decode cX7_ones 18 = .ok (.iinc 2 1, 3) := by decide +kernel
theorem dX7_ones_21 : decode cX7_ones 21 = .ok (.goto (-17), 3) := by decide +kernel
theorem dX7_ones_24 : decode cX7_ones 24 = .ok (.iload_n 1, 1) := by decide +kernel
theorem dX7_ones_25 : decode cX7_ones 25 = .ok (.ireturn, 1) := by decide +kernel
theorem dX7_feed_0 : decode cX7_feed 0 = .ok (.iload_n 1, 1) := by decide +kernel
theorem dX7_feed_1 : decode cX7_feed 1 = .ok (.i2l, 1) := by decide +kernel
theorem dX7_feed_2 : decode cX7_feed 2 = .ok (.lconst 1, 1) := by decide +kernel
theorem dX7_feed_3 : decode cX7_feed 3 = .ok (.ldc2_w 57, 3) := by decide +kernel
theorem dX7_feed_6 : decode cX7_feed 6 = .ok (.invokestatic 59, 3) := by decide +kernel
theorem dX7_feed_9 : decode cX7_feed 9 = .ok (.ifCond .ne 6, 3) := by decide +kernel
theorem dX7_feed_12 : decode cX7_feed 12 = .ok (.ldc 63, 2) := by decide +kernel
theorem dX7_feed_14 : decode cX7_feed 14 = .ok (.ireturn, 1) := by decide +kernel
theorem dX7_feed_15 : decode cX7_feed 15 = .ok (.aload_n 0, 1) := by decide +kernel
theorem dX7_feed_16 : decode cX7_feed 16 = .ok (.getfield 64, 3) := by decide +kernel
theorem dX7_feed_19 : decode cX7_feed 19 = .ok (.iload_n 1, 1) := by decide +kernel
theorem dX7_feed_20 : decode cX7_feed 20 = .ok (.iadd, 1) := by decide +kernel
theorem dX7_feed_21 : decode cX7_feed 21 = .ok (.sipush 400, 3) := by decide +kernel
theorem dX7_feed_24 : decode cX7_feed 24 = .ok (.if_icmp .le 6, 3) := by decide +kernel
theorem dX7_feed_27 : decode cX7_feed 27 = .ok (.ldc 67, 2) := by decide +kernel
theorem dX7_feed_29 : decode cX7_feed 29 = .ok (.ireturn, 1) := by decide +kernel
theorem dX7_feed_30 : decode cX7_feed 30 = .ok (.iload_n 1, 1) := by decide +kernel
theorem dX7_feed_31 : decode cX7_feed 31 = .ok (.iconst 1, 1) := by decide +kernel
theorem dX7_feed_32 : decode cX7_feed 32 = .ok (.isub, 1) := by decide +kernel
theorem dX7_feed_33 : decode cX7_feed 33 = .ok (.istore 4, 2) := by decide +kernel
theorem dX7_feed_35 : decode cX7_feed 35 = .ok (.iload 4, 2) := by decide +kernel
theorem dX7_feed_37 : decode cX7_feed 37 = .ok (.ifCond .lt 40, 3) := by decide +kernel
theorem dX7_feed_40 : decode cX7_feed 40 = .ok (.aload_n 0, 1) := by decide +kernel
theorem dX7_feed_41 : decode cX7_feed 41 = .ok (.getfield 36, 3) := by decide +kernel
theorem dX7_feed_44 : decode cX7_feed 44 = .ok (.aload_n 0, 1) := by decide +kernel
theorem dX7_feed_45 : decode cX7_feed 45 = .ok (.getfield 64, 3) := by decide +kernel
theorem dX7_feed_48 : decode cX7_feed 48 = .ok (.lload_n 2, 1) := by decide +kernel
theorem dX7_feed_49 : decode cX7_feed 49 = .ok (.bipush 8, 2) := by decide +kernel
theorem dX7_feed_51 : decode cX7_feed 51 = .ok (.iload 4, 2) := by decide +kernel
theorem dX7_feed_53 : decode cX7_feed 53 = .ok (.imul, 1) := by decide +kernel
theorem dX7_feed_54 : decode cX7_feed 54 = .ok (.lshr, 1) := by decide +kernel
theorem dX7_feed_55 : decode cX7_feed 55 = .ok (.ldc2_w 68, 3) := by decide +kernel
theorem dX7_feed_58 : decode cX7_feed 58 = .ok (.land, 1) := by decide +kernel
theorem dX7_feed_59 : decode cX7_feed 59 = .ok (.l2i, 1) := by decide +kernel
theorem dX7_feed_60 : decode cX7_feed 60 = .ok (.iastore, 1) := by decide +kernel
theorem dX7_feed_61 : decode cX7_feed 61 = .ok (.aload_n 0, 1) := by decide +kernel
theorem dX7_feed_62 : decode cX7_feed 62 = .ok (.dup, 1) := by decide +kernel
theorem dX7_feed_63 : decode cX7_feed 63 = .ok (.getfield 64, 3) := by decide +kernel
theorem dX7_feed_66 : decode cX7_feed 66 = .ok (.iconst 1, 1) := by decide +kernel
theorem dX7_feed_67 : decode cX7_feed 67 = .ok (.iadd, 1) := by decide +kernel
theorem dX7_feed_68 : decode cX7_feed 68 = .ok (.putfield 64, 3) := by decide +kernel
theorem dX7_feed_71 : decode cX7_feed 71 = .ok (.iinc 4 (-1), 3) := by decide +kernel
theorem dX7_feed_74 : decode cX7_feed 74 = .ok (.goto (-39), 3) := by decide +kernel
theorem dX7_feed_77 : decode cX7_feed 77 = .ok (.aload_n 0, 1) := by decide +kernel
theorem dX7_feed_78 : decode cX7_feed 78 = .ok (.getfield 64, 3) := by decide +kernel
theorem dX7_feed_81 : decode cX7_feed 81 = .ok (.ireturn, 1) := by decide +kernel
theorem dX7_here_0 : decode cX7_here 0 = .ok (.aload_n 0, 1) := by decide +kernel
theorem dX7_here_1 : decode cX7_here 1 = .ok (.getfield 70, 3) := by decide +kernel
theorem dX7_here_4 : decode cX7_here 4 = .ok (.aload_n 0, 1) := by decide +kernel
theorem dX7_here_5 : decode cX7_here 5 = .ok (.getfield 64, 3) := by decide +kernel
theorem dX7_here_8 : decode cX7_here 8 = .ok (.if_icmp .ge 30, 3) := by decide +kernel
theorem dX7_here_11 : decode cX7_here 11 = .ok (.aload_n 0, 1) := by decide +kernel
theorem dX7_here_12 : decode cX7_here 12 = .ok (.getfield 36, 3) := by decide +kernel
theorem dX7_here_15 : decode cX7_here 15 = .ok (.aload_n 0, 1) := by decide +kernel
theorem dX7_here_16 : decode cX7_here 16 = .ok (.getfield 70, 3) := by decide +kernel
theorem dX7_here_19 : decode cX7_here 19 = .ok (.iaload, 1) := by decide +kernel
theorem dX7_here_20 : decode cX7_here 20 = .ok (.bipush 32, 2) := by decide +kernel
theorem dX7_here_22 : decode cX7_here 22 = .ok (.if_icmp .ne 16, 3) := by decide +kernel
theorem dX7_here_25 : decode cX7_here 25 = .ok (.aload_n 0, 1) := by decide +kernel
theorem dX7_here_26 : decode cX7_here 26 = .ok (.dup, 1) := by decide +kernel
theorem dX7_here_27 : decode cX7_here 27 = .ok (.getfield 70, 3) := by decide +kernel
theorem dX7_here_30 : decode cX7_here 30 = .ok (.iconst 1, 1) := by decide +kernel
theorem dX7_here_31 : decode cX7_here 31 = .ok (.iadd, 1) := by decide +kernel
theorem dX7_here_32 : decode cX7_here 32 = .ok (.putfield 70, 3) := by decide +kernel
theorem dX7_here_35 : decode cX7_here 35 = .ok (.goto (-35), 3) := by decide +kernel
theorem dX7_here_38 : decode cX7_here 38 = .ok (.aload_n 0, 1) := by decide +kernel
theorem dX7_here_39 : decode cX7_here 39 = .ok (.getfield 70, 3) := by decide +kernel
theorem dX7_here_42 : decode cX7_here 42 = .ok (.aload_n 0, 1) := by decide +kernel
theorem dX7_here_43 : decode cX7_here 43 = .ok (.getfield 64, 3) := by decide +kernel
theorem dX7_here_46 : decode cX7_here 46 = .ok (.if_icmp .ge 15, 3) := by decide +kernel
theorem dX7_here_49 : decode cX7_here 49 = .ok (.aload_n 0, 1) := by decide +kernel
theorem dX7_here_50 : decode cX7_here 50 = .ok (.getfield 36, 3) := by decide +kernel
theorem dX7_here_53 : decode cX7_here 53 = .ok (.aload_n 0, 1) := by decide +kernel
theorem dX7_here_54 : decode cX7_here 54 = .ok (.getfield 70, 3) := by decide +kernel
theorem dX7_here_57 : decode cX7_here 57 = .ok (.iaload, 1) := by decide +kernel
theorem dX7_here_58 : decode cX7_here 58 = .ok (.goto 4, 3) := by decide +kernel
theorem dX7_here_61 : decode cX7_here 61 = .ok (.iconst (-1), 1) := by decide +kernel
theorem dX7_here_62 : decode cX7_here 62 = .ok (.ireturn, 1) := by decide +kernel
theorem dX7_want_0 : decode cX7_want 0 = .ok (.iload_n 1, 1) := by decide +kernel
theorem dX7_want_1 : decode cX7_want 1 = .ok (.ifCond .ne 20, 3) := by decide +kernel
theorem dX7_want_4 : decode cX7_want 4 = .ok (.aload_n 0, 1) := by decide +kernel
theorem dX7_want_5 : decode cX7_want 5 = .ok (.getfield 73, 3) := by decide +kernel
theorem dX7_want_8 : decode cX7_want 8 = .ok (.ifCond .ne 13, 3) := by decide +kernel
theorem dX7_want_11 : decode cX7_want 11 = .ok (.aload_n 0, 1) := by decide +kernel
theorem dX7_want_12 : decode cX7_want 12 = .ok (.iload_n 2, 1) := by decide +kernel
theorem dX7_want_13 : decode cX7_want 13 = .ok (.putfield 73, 3) := by decide +kernel
theorem dX7_want_16 : decode cX7_want 16 = .ok (.aload_n 0, 1) := by decide +kernel
theorem dX7_want_17 : decode cX7_want 17 = .ok (.iload_n 3, 1) := by decide +kernel
theorem dX7_want_18 : decode cX7_want 18 = .ok (.putfield 39, 3) := by decide +kernel
theorem dX7_want_21 : decode cX7_want 21 = .ok (.aload_n 0, 1) := by decide +kernel
theorem dX7_want_22 : decode cX7_want 22 = .ok (.getfield 73, 3) := by decide +kernel
theorem dX7_want_25 : decode cX7_want 25 = .ok (.ifCond .ne 7, 3) := by decide +kernel
theorem dX7_want_28 : decode cX7_want 28 = .ok (.iconst 1, 1) := by decide +kernel
theorem dX7_want_29 : decode cX7_want 29 = .ok (.goto 4, 3) := by decide +kernel
theorem dX7_want_32 : decode cX7_want 32 = .ok (.iconst 0, 1) := by decide +kernel
theorem dX7_want_33 : decode cX7_want 33 = .ok (.ireturn, 1) := by decide +kernel
theorem dX7_takeWord_0 : decode cX7_takeWord 0 = .ok (.aload_n 0, 1) := by decide +kernel
theorem dX7_takeWord_1 : decode cX7_takeWord 1 = .ok (.invokevirtual 76, 3) := by decide +kernel
theorem dX7_takeWord_4 : decode cX7_takeWord 4 = .ok (.istore_n 1, 1) := by decide +kernel
theorem dX7_takeWord_5 : decode cX7_takeWord 5 = .ok (.aload_n 0, 1) := by decide +kernel
theorem dX7_takeWord_6 : decode cX7_takeWord 6 = .ok (.aload_n 0, 1) := by decide +kernel
theorem dX7_takeWord_7 : decode cX7_takeWord 7 = .ok (.getfield 70, 3) := by decide +kernel
theorem dX7_takeWord_10 : decode cX7_takeWord 10 = .ok (.putfield 80, 3) := by decide +kernel
theorem dX7_takeWord_13 : decode cX7_takeWord 13 = .ok (.aload_n 0, 1) := by decide +kernel
theorem dX7_takeWord_14 : decode cX7_takeWord 14 = .ok (.getfield 70, 3) := by decide +kernel
theorem dX7_takeWord_17 : decode cX7_takeWord 17 = .ok (.aload_n 0, 1) := by decide +kernel
theorem dX7_takeWord_18 : decode cX7_takeWord 18 = .ok (.getfield 64, 3) := by decide +kernel
theorem dX7_takeWord_21 : decode cX7_takeWord 21 = .ok (.if_icmp .ge 38, 3) := by decide +kernel
theorem dX7_takeWord_24 : decode cX7_takeWord 24 = .ok (.aload_n 0, 1) := by decide +kernel
theorem dX7_takeWord_25 : decode cX7_takeWord 25 = .ok (.getfield 36, 3) := by decide +kernel
theorem dX7_takeWord_28 : decode cX7_takeWord 28 = .ok (.aload_n 0, 1) := by decide +kernel
theorem dX7_takeWord_29 : decode cX7_takeWord 29 = .ok (.getfield 70, 3) := by decide +kernel
theorem dX7_takeWord_32 : decode cX7_takeWord 32 = .ok (.iaload, 1) := by decide +kernel
theorem dX7_takeWord_33 : decode cX7_takeWord 33 = .ok (.i2l, 1) := by decide +kernel
theorem dX7_takeWord_34 : decode cX7_takeWord 34 = .ok (.ldc2_w 83, 3) := by decide +kernel
theorem dX7_takeWord_37 : decode cX7_takeWord 37 = .ok (.ldc2_w 85, 3) := by decide +kernel
theorem dX7_takeWord_40 : decode cX7_takeWord 40 = .ok (.invokestatic 59, 3) := by decide +kernel
theorem dX7_takeWord_43 : decode cX7_takeWord 43 = .ok (.ifCond .eq 16, 3) := by decide +kernel
theorem dX7_takeWord_46 : decode cX7_takeWord 46 = .ok (.aload_n 0, 1) := by decide +kernel
theorem dX7_takeWord_47 : decode cX7_takeWord 47 = .ok (.dup, 1) := by decide +kernel
theorem dX7_takeWord_48 : decode cX7_takeWord 48 = .ok (.getfield 70, 3) := by decide +kernel
theorem dX7_takeWord_51 : decode cX7_takeWord 51 = .ok (.iconst 1, 1) := by decide +kernel
theorem dX7_takeWord_52 : decode cX7_takeWord 52 = .ok (.iadd, 1) := by decide +kernel
theorem dX7_takeWord_53 : decode cX7_takeWord 53 = .ok (.putfield 70, 3) := by decide +kernel
theorem dX7_takeWord_56 : decode cX7_takeWord 56 = .ok (.goto (-43), 3) := by decide +kernel
theorem dX7_takeWord_59 : decode cX7_takeWord 59 = .ok (.aload_n 0, 1) := by decide +kernel
theorem dX7_takeWord_60 : decode cX7_takeWord 60 = .ok (.aload_n 0, 1) := by decide +kernel
theorem dX7_takeWord_61 : decode cX7_takeWord 61 = .ok (.getfield 70, 3) := by decide +kernel
theorem dX7_takeWord_64 : decode cX7_takeWord 64 = .ok (.aload_n 0, 1) := by decide +kernel
theorem dX7_takeWord_65 : decode cX7_takeWord 65 = .ok (.getfield 80, 3) := by decide +kernel
theorem dX7_takeWord_68 : decode cX7_takeWord 68 = .ok (.isub, 1) := by decide +kernel
theorem dX7_takeWord_69 : decode cX7_takeWord 69 = .ok (.putfield 87, 3) := by decide +kernel
theorem dX7_takeWord_72 : decode cX7_takeWord 72 = .ok (.return_, 1) := by decide +kernel
theorem dX7_isWord_0 : decode cX7_isWord 0 = .ok (.aload_n 0, 1) := by decide +kernel
theorem dX7_isWord_1 : decode cX7_isWord 1 = .ok (.getfield 87, 3) := by decide +kernel
theorem dX7_isWord_4 : decode cX7_isWord 4 = .ok (.iload_n 1, 1) := by decide +kernel
theorem dX7_isWord_5 : decode cX7_isWord 5 = .ok (.if_icmp .ne 7, 3) := by decide +kernel
theorem dX7_isWord_8 : decode cX7_isWord 8 = .ok (.iconst 1, 1) := by decide +kernel
theorem dX7_isWord_9 : decode cX7_isWord 9 = .ok (.goto 4, 3) := by decide +kernel
theorem dX7_isWord_12 : decode cX7_isWord 12 = .ok (.iconst 0, 1) := by decide +kernel
theorem dX7_isWord_13 : decode cX7_isWord 13 = .ok (.istore 9, 2) := by decide +kernel
theorem dX7_isWord_15 : decode cX7_isWord 15 = .ok (.iconst 0, 1) := by decide +kernel
theorem dX7_isWord_16 : decode cX7_isWord 16 = .ok (.istore 10, 2) := by decide +kernel
theorem dX7_isWord_18 : decode cX7_isWord 18 = .ok (.iload 10, 2) := by decide +kernel
theorem dX7_isWord_20 : decode cX7_isWord 20 = .ok (.iload_n 1, 1) := by decide +kernel
theorem dX7_isWord_21 : decode cX7_isWord 21 = .ok (.if_icmp .ge 101, 3) := by decide +kernel
theorem dX7_isWord_24 : decode cX7_isWord 24 = .ok (.iload 9, 2) := by decide +kernel
theorem dX7_isWord_26 : decode cX7_isWord 26 = .ok (.ifCond .eq 96, 3) := by decide +kernel
theorem dX7_isWord_29 : decode cX7_isWord 29 = .ok (.aload_n 0, 1) := by decide +kernel
theorem dX7_isWord_30 : decode cX7_isWord 30 = .ok (.getfield 36, 3) := by decide +kernel
theorem dX7_isWord_33 : decode cX7_isWord 33 = .ok (.aload_n 0, 1) := by decide +kernel
theorem dX7_isWord_34 : decode cX7_isWord 34 = .ok (.getfield 80, 3) := by decide +kernel
theorem dX7_isWord_37 : decode cX7_isWord 37 = .ok (.iload 10, 2) := by decide +kernel
theorem dX7_isWord_39 : decode cX7_isWord 39 = .ok (.iadd, 1) := by decide +kernel
theorem dX7_isWord_40 : decode cX7_isWord 40 = .ok (.iaload, 1) := by decide +kernel
theorem dX7_isWord_41 : decode cX7_isWord 41 = .ok (.iload 10, 2) := by decide +kernel
theorem dX7_isWord_43 : decode cX7_isWord 43 = .ok (.ifCond .ne 7, 3) := by decide +kernel
theorem dX7_isWord_46 : decode cX7_isWord 46 = .ok (.iload_n 2, 1) := by decide +kernel
theorem dX7_isWord_47 : decode cX7_isWord 47 = .ok (.goto 59, 3) := by decide +kernel
theorem dX7_isWord_50 : decode cX7_isWord 50 = .ok (.iload 10, 2) := by decide +kernel
theorem dX7_isWord_52 : decode cX7_isWord 52 = .ok (.iconst 1, 1) := by decide +kernel
theorem dX7_isWord_53 : decode cX7_isWord 53 = .ok (.if_icmp .ne 7, 3) := by decide +kernel
theorem dX7_isWord_56 : decode cX7_isWord 56 = .ok (.iload_n 3, 1) := by decide +kernel
theorem dX7_isWord_57 : decode cX7_isWord 57 = .ok (.goto 49, 3) := by decide +kernel
theorem dX7_isWord_60 : decode cX7_isWord 60 = .ok (.iload 10, 2) := by decide +kernel
theorem dX7_isWord_62 : decode cX7_isWord 62 = .ok (.iconst 2, 1) := by decide +kernel
theorem dX7_isWord_63 : decode cX7_isWord 63 = .ok (.if_icmp .ne 8, 3) := by decide +kernel
theorem dX7_isWord_66 : decode cX7_isWord 66 = .ok (.iload 4, 2) := by decide +kernel
theorem dX7_isWord_68 : decode cX7_isWord 68 = .ok (.goto 38, 3) := by decide +kernel
theorem dX7_isWord_71 : decode cX7_isWord 71 = .ok (.iload 10, 2) := by decide +kernel
theorem dX7_isWord_73 : decode cX7_isWord 73 = .ok (.iconst 3, 1) := by decide +kernel
theorem dX7_isWord_74 : decode cX7_isWord 74 = .ok (.if_icmp .ne 8, 3) := by decide +kernel
theorem dX7_isWord_77 : decode cX7_isWord 77 = .ok (.iload 5, 2) := by decide +kernel
theorem dX7_isWord_79 : decode cX7_isWord 79 = .ok (.goto 27, 3) := by decide +kernel
theorem dX7_isWord_82 : decode cX7_isWord 82 = .ok (.iload 10, 2) := by decide +kernel
theorem dX7_isWord_84 : decode cX7_isWord 84 = .ok (.iconst 4, 1) := by decide +kernel
theorem dX7_isWord_85 : decode cX7_isWord 85 = .ok (.if_icmp .ne 8, 3) := by decide +kernel
theorem dX7_isWord_88 : decode cX7_isWord 88 = .ok (.iload 6, 2) := by decide +kernel
theorem dX7_isWord_90 : decode cX7_isWord 90 = .ok (.goto 16, 3) := by decide +kernel
theorem dX7_isWord_93 : decode cX7_isWord 93 = .ok (.iload 10, 2) := by decide +kernel
theorem dX7_isWord_95 : decode cX7_isWord 95 = .ok (.iconst 5, 1) := by decide +kernel
theorem dX7_isWord_96 : decode cX7_isWord 96 = .ok (.if_icmp .ne 8, 3) := by decide +kernel
theorem dX7_isWord_99 : decode cX7_isWord 99 = .ok (.iload 7, 2) := by decide +kernel
theorem dX7_isWord_101 : decode cX7_isWord 101 = .ok (.goto 5, 3) := by decide +kernel
theorem dX7_isWord_104 : decode cX7_isWord 104 = .ok (.iload 8, 2) := by decide +kernel
theorem dX7_isWord_106 : decode cX7_isWord 106 = .ok (.if_icmp .ne 7, 3) := by decide +kernel
theorem dX7_isWord_109 : decode cX7_isWord 109 = .ok (.iconst 1, 1) := by decide +kernel
theorem dX7_isWord_110 : decode cX7_isWord 110 = .ok (.goto 4, 3) := by decide +kernel
theorem dX7_isWord_113 : decode cX7_isWord 113 = .ok (.iconst 0, 1) := by decide +kernel
theorem dX7_isWord_114 : decode cX7_isWord 114 = .ok (.istore 9, 2) := by decide +kernel
theorem dX7_isWord_116 : decode cX7_isWord 116 = .ok (.iinc 10 1, 3) := by decide +kernel
theorem dX7_isWord_119 : decode cX7_isWord 119 = .ok (.goto (-101), 3) := by decide +kernel
theorem dX7_isWord_122 : decode cX7_isWord 122 = .ok (.iload 9, 2) := by decide +kernel
theorem dX7_isWord_124 : decode cX7_isWord 124 = .ok (.ireturn, 1) := by decide +kernel
theorem dX7_takeNumber_0 : decode cX7_takeNumber 0 = .ok (.aload_n 0, 1) := by decide +kernel
theorem dX7_takeNumber_1 : decode cX7_takeNumber 1 = .ok (.getfield 73, 3) := by decide +kernel
theorem dX7_takeNumber_4 : decode cX7_takeNumber 4 = .ok (.ifCond .le 5, 3) := by decide +kernel
theorem dX7_takeNumber_7 : decode cX7_takeNumber 7 = .ok (.iconst 0, 1) := by decide +kernel
theorem dX7_takeNumber_8 : decode cX7_takeNumber 8 = .ok (.ireturn, 1) := by decide +kernel
theorem dX7_takeNumber_9 : decode cX7_takeNumber 9 = .ok (.aload_n 0, 1) := by decide +kernel
theorem dX7_takeNumber_10 : decode cX7_takeNumber 10 = .ok (.invokevirtual 76, 3) := by decide +kernel
theorem dX7_takeNumber_13 : decode cX7_takeNumber 13 = .ok (.istore_n 3, 1) := by decide +kernel
theorem dX7_takeNumber_14 : decode cX7_takeNumber 14 = .ok (.aload_n 0, 1) := by decide +kernel
theorem dX7_takeNumber_15 : decode cX7_takeNumber 15 = .ok (.aload_n 0, 1) := by decide +kernel
theorem dX7_takeNumber_16 : decode cX7_takeNumber 16 = .ok (.getfield 70, 3) := by decide +kernel
theorem dX7_takeNumber_19 : decode cX7_takeNumber 19 = .ok (.putfield 80, 3) := by decide +kernel
theorem dX7_takeNumber_22 : decode cX7_takeNumber 22 = .ok (.aload_n 0, 1) := by decide +kernel
theorem dX7_takeNumber_23 : decode cX7_takeNumber 23 = .ok (.iload_n 3, 1) := by decide +kernel
theorem dX7_takeNumber_24 : decode cX7_takeNumber 24 = .ok (.i2l, 1) := by decide +kernel
theorem dX7_takeNumber_25 : decode cX7_takeNumber 25 = .ok (.ldc2_w 90, 3) := by decide +kernel
theorem dX7_takeNumber_28 : decode cX7_takeNumber 28 = .ok (.ldc2_w 92, 3) := by decide +kernel
theorem dX7_takeNumber_31 : decode cX7_takeNumber 31 = .ok (.invokestatic 59, 3) := by decide +kernel
theorem dX7_takeNumber_34 : decode cX7_takeNumber 34 = .ok (.iconst 1, 1) := by decide +kernel
theorem dX7_takeNumber_35 : decode cX7_takeNumber 35 = .ok (.aload_n 0, 1) := by decide +kernel
theorem dX7_takeNumber_36 : decode cX7_takeNumber 36 = .ok (.getfield 70, 3) := by decide +kernel
theorem dX7_takeNumber_39 : decode cX7_takeNumber 39 = .ok (.invokevirtual 94, 3) := by decide +kernel
theorem dX7_takeNumber_42 : decode cX7_takeNumber 42 = .ok (.ifCond .ne 5, 3) := by decide +kernel
theorem dX7_takeNumber_45 : decode cX7_takeNumber 45 = .ok (.iconst 0, 1) := by decide +kernel
theorem dX7_takeNumber_46 : decode cX7_takeNumber 46 = .ok (.ireturn, 1) := by decide +kernel
theorem dX7_takeNumber_47 : decode cX7_takeNumber 47 = .ok (.iconst 0, 1) := by decide +kernel
theorem dX7_takeNumber_48 : decode cX7_takeNumber 48 = .ok (.istore 4, 2) := by decide +kernel
theorem dX7_takeNumber_50 : decode cX7_takeNumber 50 = .ok (.aload_n 0, 1) := by decide +kernel
theorem dX7_takeNumber_51 : decode cX7_takeNumber 51 = .ok (.getfield 70, 3) := by decide +kernel
theorem dX7_takeNumber_54 : decode cX7_takeNumber 54 = .ok (.aload_n 0, 1) := by decide +kernel
theorem dX7_takeNumber_55 : decode cX7_takeNumber 55 = .ok (.getfield 64, 3) := by decide +kernel
theorem dX7_takeNumber_58 : decode cX7_takeNumber 58 = .ok (.if_icmp .ge 70, 3) := by decide +kernel
theorem dX7_takeNumber_61 : decode cX7_takeNumber 61 = .ok (.aload_n 0, 1) := by decide +kernel
theorem dX7_takeNumber_62 : decode cX7_takeNumber 62 = .ok (.getfield 36, 3) := by decide +kernel
theorem dX7_takeNumber_65 : decode cX7_takeNumber 65 = .ok (.aload_n 0, 1) := by decide +kernel
theorem dX7_takeNumber_66 : decode cX7_takeNumber 66 = .ok (.getfield 70, 3) := by decide +kernel
theorem dX7_takeNumber_69 : decode cX7_takeNumber 69 = .ok (.iaload, 1) := by decide +kernel
theorem dX7_takeNumber_70 : decode cX7_takeNumber 70 = .ok (.i2l, 1) := by decide +kernel
theorem dX7_takeNumber_71 : decode cX7_takeNumber 71 = .ok (.ldc2_w 90, 3) := by decide +kernel
theorem dX7_takeNumber_74 : decode cX7_takeNumber 74 = .ok (.ldc2_w 92, 3) := by decide +kernel
theorem dX7_takeNumber_77 : decode cX7_takeNumber 77 = .ok (.invokestatic 59, 3) := by decide +kernel
theorem dX7_takeNumber_80 : decode cX7_takeNumber 80 = .ok (.ifCond .eq 48, 3) := by decide +kernel
theorem dX7_takeNumber_83 : decode cX7_takeNumber 83 = .ok (.iload 4, 2) := by decide +kernel
theorem dX7_takeNumber_85 : decode cX7_takeNumber 85 = .ok (.ldc 98, 2) := by decide +kernel
theorem dX7_takeNumber_87 : decode cX7_takeNumber 87 = .ok (.if_icmp .le 8, 3) := by decide +kernel
theorem dX7_takeNumber_90 : decode cX7_takeNumber 90 = .ok (.iload 4, 2) := by decide +kernel
theorem dX7_takeNumber_92 : decode cX7_takeNumber 92 = .ok (.goto 21, 3) := by decide +kernel
theorem dX7_takeNumber_95 : decode cX7_takeNumber 95 = .ok (.bipush 10, 2) := by decide +kernel
theorem dX7_takeNumber_97 : decode cX7_takeNumber 97 = .ok (.iload 4, 2) := by decide +kernel
theorem dX7_takeNumber_99 : decode cX7_takeNumber 99 = .ok (.imul, 1) := by decide +kernel
theorem dX7_takeNumber_100 : decode cX7_takeNumber 100 = .ok (.aload_n 0, 1) := by decide +kernel
theorem dX7_takeNumber_101 : decode cX7_takeNumber 101 = .ok (.getfield 36, 3) := by decide +kernel
theorem dX7_takeNumber_104 : decode cX7_takeNumber 104 = .ok (.aload_n 0, 1) := by decide +kernel
theorem dX7_takeNumber_105 : decode cX7_takeNumber 105 = .ok (.getfield 70, 3) := by decide +kernel
theorem dX7_takeNumber_108 : decode cX7_takeNumber 108 = .ok (.iaload, 1) := by decide +kernel
theorem dX7_takeNumber_109 : decode cX7_takeNumber 109 = .ok (.iadd, 1) := by decide +kernel
theorem dX7_takeNumber_110 : decode cX7_takeNumber 110 = .ok (.bipush 48, 2) := by decide +kernel
theorem dX7_takeNumber_112 : decode cX7_takeNumber 112 = .ok (.isub, 1) := by decide +kernel
theorem dX7_takeNumber_113 : decode cX7_takeNumber 113 = .ok (.istore 4, 2) := by decide +kernel
theorem dX7_takeNumber_115 : decode cX7_takeNumber 115 = .ok (.aload_n 0, 1) := by decide +kernel
theorem dX7_takeNumber_116 : decode cX7_takeNumber 116 = .ok (.dup, 1) := by decide +kernel
theorem dX7_takeNumber_117 : decode cX7_takeNumber 117 = .ok (.getfield 70, 3) := by decide +kernel
theorem dX7_takeNumber_120 : decode cX7_takeNumber 120 = .ok (.iconst 1, 1) := by decide +kernel
theorem dX7_takeNumber_121 : decode cX7_takeNumber 121 = .ok (.iadd, 1) := by decide +kernel
theorem dX7_takeNumber_122 : decode cX7_takeNumber 122 = .ok (.putfield 70, 3) := by decide +kernel
theorem dX7_takeNumber_125 : decode cX7_takeNumber 125 = .ok (.goto (-75), 3) := by decide +kernel
theorem dX7_takeNumber_128 : decode cX7_takeNumber 128 = .ok (.aload_n 0, 1) := by decide +kernel
theorem dX7_takeNumber_129 : decode cX7_takeNumber 129 = .ok (.aload_n 0, 1) := by decide +kernel
theorem dX7_takeNumber_130 : decode cX7_takeNumber 130 = .ok (.getfield 70, 3) := by decide +kernel
theorem dX7_takeNumber_133 : decode cX7_takeNumber 133 = .ok (.aload_n 0, 1) := by decide +kernel
theorem dX7_takeNumber_134 : decode cX7_takeNumber 134 = .ok (.getfield 80, 3) := by decide +kernel
theorem dX7_takeNumber_137 : decode cX7_takeNumber 137 = .ok (.isub, 1) := by decide +kernel
theorem dX7_takeNumber_138 : decode cX7_takeNumber 138 = .ok (.iconst 4, 1) := by decide +kernel
theorem dX7_takeNumber_139 : decode cX7_takeNumber 139 = .ok (.if_icmp .ge 20, 3) := by decide +kernel
theorem dX7_takeNumber_142 : decode cX7_takeNumber 142 = .ok (.iload 4, 2) := by decide +kernel
theorem dX7_takeNumber_144 : decode cX7_takeNumber 144 = .ok (.i2l, 1) := by decide +kernel
theorem dX7_takeNumber_145 : decode cX7_takeNumber 145 = .ok (.iload_n 1, 1) := by decide +kernel
theorem dX7_takeNumber_146 : decode cX7_takeNumber 146 = .ok (.i2l, 1) := by decide +kernel
theorem dX7_takeNumber_147 : decode cX7_takeNumber 147 = .ok (.iload_n 2, 1) := by decide +kernel
theorem dX7_takeNumber_148 : decode cX7_takeNumber 148 = .ok (.i2l, 1) := by decide +kernel
theorem dX7_takeNumber_149 : decode cX7_takeNumber 149 = .ok (.invokestatic 59, 3) := by decide +kernel
theorem dX7_takeNumber_152 : decode cX7_takeNumber 152 = .ok (.ifCond .eq 7, 3) := by decide +kernel
theorem dX7_takeNumber_155 : decode cX7_takeNumber 155 = .ok (.iconst 1, 1) := by decide +kernel
theorem dX7_takeNumber_156 : decode cX7_takeNumber 156 = .ok (.goto 4, 3) := by decide +kernel
theorem dX7_takeNumber_159 : decode cX7_takeNumber 159 = .ok (.iconst 0, 1) := by decide +kernel
theorem dX7_takeNumber_160 : decode cX7_takeNumber 160 = .ok (.iconst 2, 1) := by decide +kernel
theorem dX7_takeNumber_161 : decode cX7_takeNumber 161 = .ok (.aload_n 0, 1) := by decide +kernel
theorem dX7_takeNumber_162 : decode cX7_takeNumber 162 = .ok (.getfield 80, 3) := by decide +kernel
theorem dX7_takeNumber_165 : decode cX7_takeNumber 165 = .ok (.invokevirtual 94, 3) := by decide +kernel
theorem dX7_takeNumber_168 : decode cX7_takeNumber 168 = .ok (.istore 5, 2) := by decide +kernel
theorem dX7_takeNumber_170 : decode cX7_takeNumber 170 = .ok (.iload 4, 2) := by decide +kernel
theorem dX7_takeNumber_172 : decode cX7_takeNumber 172 = .ok (.ireturn, 1) := by decide +kernel
theorem dX7_kindHere_0 : decode cX7_kindHere 0 = .ok (.aload_n 0, 1) := by decide +kernel
theorem dX7_kindHere_1 : decode cX7_kindHere 1 = .ok (.bipush 6, 2) := by decide +kernel
theorem dX7_kindHere_3 : decode cX7_kindHere 3 = .ok (.bipush 115, 2) := by decide +kernel
theorem dX7_kindHere_5 : decode cX7_kindHere 5 = .ok (.bipush 105, 2) := by decide +kernel
theorem dX7_kindHere_7 : decode cX7_kindHere 7 = .ok (.bipush 108, 2) := by decide +kernel
theorem dX7_kindHere_9 : decode cX7_kindHere 9 = .ok (.bipush 101, 2) := by decide +kernel
theorem dX7_kindHere_11 : decode cX7_kindHere 11 = .ok (.bipush 110, 2) := by decide +kernel
theorem dX7_kindHere_13 : decode cX7_kindHere 13 = .ok (.bipush 116, 2) := by decide +kernel
theorem dX7_kindHere_15 : decode cX7_kindHere 15 = .ok (.iconst 0, 1) := by decide +kernel
theorem dX7_kindHere_16 : decode cX7_kindHere 16 = .ok (.invokevirtual 99, 3) := by decide +kernel
theorem dX7_kindHere_19 : decode cX7_kindHere 19 = .ok (.ifCond .eq 7, 3) := by decide +kernel
theorem dX7_kindHere_22 : decode cX7_kindHere 22 = .ok (.iconst 0, 1) := by decide +kernel
theorem dX7_kindHere_23 : decode cX7_kindHere 23 = .ok (.goto 79, 3) := by decide +kernel
theorem dX7_kindHere_26 : decode cX7_kindHere 26 = .ok (.aload_n 0, 1) := by decide +kernel
theorem dX7_kindHere_27 : decode cX7_kindHere 27 = .ok (.iconst 5, 1) := by decide +kernel
theorem dX7_kindHere_28 : decode cX7_kindHere 28 = .ok (.bipush 97, 2) := by decide +kernel
theorem dX7_kindHere_30 : decode cX7_kindHere 30 = .ok (.bipush 108, 2) := by decide +kernel
theorem dX7_kindHere_32 : decode cX7_kindHere 32 = .ok (.bipush 111, 2) := by decide +kernel
theorem dX7_kindHere_34 : decode cX7_kindHere 34 = .ok (.bipush 117, 2) := by decide +kernel
theorem dX7_kindHere_36 : decode cX7_kindHere 36 = .ok (.bipush 100, 2) := by decide +kernel
theorem dX7_kindHere_38 : decode cX7_kindHere 38 = .ok (.iconst 0, 1) := by decide +kernel
theorem dX7_kindHere_39 : decode cX7_kindHere 39 = .ok (.iconst 0, 1) := by decide +kernel
theorem dX7_kindHere_40 : decode cX7_kindHere 40 = .ok (.invokevirtual 99, 3) := by decide +kernel
theorem dX7_kindHere_43 : decode cX7_kindHere 43 = .ok (.ifCond .eq 7, 3) := by decide +kernel
theorem dX7_kindHere_46 : decode cX7_kindHere 46 = .ok (.iconst 1, 1) := by decide +kernel
theorem dX7_kindHere_47 : decode cX7_kindHere 47 = .ok (.goto 55, 3) := by decide +kernel
theorem dX7_kindHere_50 : decode cX7_kindHere 50 = .ok (.aload_n 0, 1) := by decide +kernel
theorem dX7_kindHere_51 : decode cX7_kindHere 51 = .ok (.bipush 7, 2) := by decide +kernel
theorem dX7_kindHere_53 : decode cX7_kindHere 53 = .ok (.bipush 99, 2) := by decide +kernel
theorem dX7_kindHere_55 : decode cX7_kindHere 55 = .ok (.bipush 111, 2) := by decide +kernel
theorem dX7_kindHere_57 : decode cX7_kindHere 57 = .ok (.bipush 112, 2) := by decide +kernel
theorem dX7_kindHere_59 : decode cX7_kindHere 59 = .ok (.bipush 121, 2) := by decide +kernel
theorem dX7_kindHere_61 : decode cX7_kindHere 61 = .ok (.bipush 105, 2) := by decide +kernel
theorem dX7_kindHere_63 : decode cX7_kindHere 63 = .ok (.bipush 115, 2) := by decide +kernel
theorem dX7_kindHere_65 : decode cX7_kindHere 65 = .ok (.bipush 116, 2) := by decide +kernel
theorem dX7_kindHere_67 : decode cX7_kindHere 67 = .ok (.invokevirtual 99, 3) := by decide +kernel
theorem dX7_kindHere_70 : decode cX7_kindHere 70 = .ok (.ifCond .eq 7, 3) := by decide +kernel
theorem dX7_kindHere_73 : decode cX7_kindHere 73 = .ok (.iconst 2, 1) := by decide +kernel
theorem dX7_kindHere_74 : decode cX7_kindHere 74 = .ok (.goto 28, 3) := by decide +kernel
theorem dX7_kindHere_77 : decode cX7_kindHere 77 = .ok (.aload_n 0, 1) := by decide +kernel
theorem dX7_kindHere_78 : decode cX7_kindHere 78 = .ok (.iconst 5, 1) := by decide +kernel
theorem dX7_kindHere_79 : decode cX7_kindHere 79 = .ok (.bipush 116, 2) := by decide +kernel
theorem dX7_kindHere_81 : decode cX7_kindHere 81 = .ok (.bipush 104, 2) := by decide +kernel
theorem dX7_kindHere_83 : decode cX7_kindHere 83 = .ok (.bipush 105, 2) := by decide +kernel
theorem dX7_kindHere_85 : decode cX7_kindHere 85 = .ok (.bipush 101, 2) := by decide +kernel
theorem dX7_kindHere_87 : decode cX7_kindHere 87 = .ok (.bipush 102, 2) := by decide +kernel
theorem dX7_kindHere_89 : decode cX7_kindHere 89 = .ok (.iconst 0, 1) := by decide +kernel
theorem dX7_kindHere_90 : decode cX7_kindHere 90 = .ok (.iconst 0, 1) := by decide +kernel
theorem dX7_kindHere_91 : decode cX7_kindHere 91 = .ok (.invokevirtual 99, 3) := by decide +kernel
theorem dX7_kindHere_94 : decode cX7_kindHere 94 = .ok (.ifCond .eq 7, 3) := by decide +kernel
theorem dX7_kindHere_97 : decode cX7_kindHere 97 = .ok (.iconst 3, 1) := by decide +kernel
theorem dX7_kindHere_98 : decode cX7_kindHere 98 = .ok (.goto 4, 3) := by decide +kernel
theorem dX7_kindHere_101 : decode cX7_kindHere 101 = .ok (.iconst (-1), 1) := by decide +kernel
theorem dX7_kindHere_102 : decode cX7_kindHere 102 = .ok (.istore_n 1, 1) := by decide +kernel
theorem dX7_kindHere_103 : decode cX7_kindHere 103 = .ok (.aload_n 0, 1) := by decide +kernel
theorem dX7_kindHere_104 : decode cX7_kindHere 104 = .ok (.bipush 7, 2) := by decide +kernel
theorem dX7_kindHere_106 : decode cX7_kindHere 106 = .ok (.bipush 116, 2) := by decide +kernel
theorem dX7_kindHere_108 : decode cX7_kindHere 108 = .ok (.bipush 101, 2) := by decide +kernel
theorem dX7_kindHere_110 : decode cX7_kindHere 110 = .ok (.bipush 97, 2) := by decide +kernel
theorem dX7_kindHere_112 : decode cX7_kindHere 112 = .ok (.bipush 99, 2) := by decide +kernel
theorem dX7_kindHere_114 : decode cX7_kindHere 114 = .ok (.bipush 104, 2) := by decide +kernel
theorem dX7_kindHere_116 : decode cX7_kindHere 116 = .ok (.bipush 101, 2) := by decide +kernel
theorem dX7_kindHere_118 : decode cX7_kindHere 118 = .ok (.bipush 114, 2) := by decide +kernel
theorem dX7_kindHere_120 : decode cX7_kindHere 120 = .ok (.invokevirtual 99, 3) := by decide +kernel
theorem dX7_kindHere_123 : decode cX7_kindHere 123 = .ok (.ifCond .eq 7, 3) := by decide +kernel
theorem dX7_kindHere_126 : decode cX7_kindHere 126 = .ok (.iconst 4, 1) := by decide +kernel
theorem dX7_kindHere_127 : decode cX7_kindHere 127 = .ok (.goto 4, 3) := by decide +kernel
theorem dX7_kindHere_130 : decode cX7_kindHere 130 = .ok (.iload_n 1, 1) := by decide +kernel
theorem dX7_kindHere_131 : decode cX7_kindHere 131 = .ok (.ireturn, 1) := by decide +kernel
theorem dX7_takeClause_0 : decode cX7_takeClause 0 = .ok (.aload_n 0, 1) := by decide +kernel
theorem dX7_takeClause_1 : decode cX7_takeClause 1 = .ok (.invokevirtual 103, 3) := by decide +kernel
theorem dX7_takeClause_4 : decode cX7_takeClause 4 = .ok (.aload_n 0, 1) := by decide +kernel
theorem dX7_takeClause_5 : decode cX7_takeClause 5 = .ok (.getfield 80, 3) := by decide +kernel
theorem dX7_takeClause_8 : decode cX7_takeClause 8 = .ok (.istore_n 1, 1) := by decide +kernel
theorem dX7_takeClause_9 : decode cX7_takeClause 9 = .ok (.aload_n 0, 1) := by decide +kernel
theorem dX7_takeClause_10 : decode cX7_takeClause 10 = .ok (.iconst 4, 1) := by decide +kernel
theorem dX7_takeClause_11 : decode cX7_takeClause 11 = .ok (.bipush 108, 2) := by decide +kernel
theorem dX7_takeClause_13 : decode cX7_takeClause 13 = .ok (.bipush 105, 2) := by decide +kernel
theorem dX7_takeClause_15 : decode cX7_takeClause 15 = .ok (.bipush 110, 2) := by decide +kernel
theorem dX7_takeClause_17 : decode cX7_takeClause 17 = .ok (.bipush 101, 2) := by decide +kernel
theorem dX7_takeClause_19 : decode cX7_takeClause 19 = .ok (.iconst 0, 1) := by decide +kernel
theorem dX7_takeClause_20 : decode cX7_takeClause 20 = .ok (.iconst 0, 1) := by decide +kernel
theorem dX7_takeClause_21 : decode cX7_takeClause 21 = .ok (.iconst 0, 1) := by decide +kernel
theorem dX7_takeClause_22 : decode cX7_takeClause 22 = .ok (.invokevirtual 99, 3) := by decide +kernel
theorem dX7_takeClause_25 : decode cX7_takeClause 25 = .ok (.ifCond .eq 83, 3) := by decide +kernel
theorem dX7_takeClause_28 : decode cX7_takeClause 28 = .ok (.aload_n 0, 1) := by decide +kernel
theorem dX7_takeClause_29 : decode cX7_takeClause 29 = .ok (.aload_n 0, 1) := by decide +kernel
theorem dX7_takeClause_30 : decode cX7_takeClause 30 = .ok (.getfield 29, 3) := by decide +kernel
theorem dX7_takeClause_33 : decode cX7_takeClause 33 = .ok (.iconst 2, 1) := by decide +kernel
theorem dX7_takeClause_34 : decode cX7_takeClause 34 = .ok (.iaload, 1) := by decide +kernel
theorem dX7_takeClause_35 : decode cX7_takeClause 35 = .ok (.bipush 16, 2) := by decide +kernel
theorem dX7_takeClause_37 : decode cX7_takeClause 37 = .ok (.if_icmp .ge 7, 3) := by decide +kernel
theorem dX7_takeClause_40 : decode cX7_takeClause 40 = .ok (.iconst 1, 1) := by decide +kernel
theorem dX7_takeClause_41 : decode cX7_takeClause 41 = .ok (.goto 4, 3) := by decide +kernel
theorem dX7_takeClause_44 : decode cX7_takeClause 44 = .ok (.iconst 0, 1) := by decide +kernel
theorem dX7_takeClause_45 : decode cX7_takeClause 45 = .ok (.iconst 3, 1) := by decide +kernel
theorem dX7_takeClause_46 : decode cX7_takeClause 46 = .ok (.iload_n 1, 1) := by decide +kernel
theorem dX7_takeClause_47 : decode cX7_takeClause 47 = .ok (.invokevirtual 94, 3) := by decide +kernel
theorem dX7_takeClause_50 : decode cX7_takeClause 50 = .ok (.ifCond .eq 258, 3) := by decide +kernel
theorem dX7_takeClause_53 : decode cX7_takeClause 53 = .ok (.aload_n 0, 1) := by decide +kernel
theorem dX7_takeClause_54 : decode cX7_takeClause 54 = .ok (.getfield 17, 3) := by decide +kernel
theorem dX7_takeClause_57 : decode cX7_takeClause 57 = .ok (.bipush 16, 2) := by decide +kernel
theorem dX7_takeClause_59 : decode cX7_takeClause 59 = .ok (.aload_n 0, 1) := by decide +kernel
theorem dX7_takeClause_60 : decode cX7_takeClause 60 = .ok (.getfield 29, 3) := by decide +kernel
theorem dX7_takeClause_63 : decode cX7_takeClause 63 = .ok (.iconst 2, 1) := by decide +kernel
theorem dX7_takeClause_64 : decode cX7_takeClause 64 = .ok (.iaload, 1) := by decide +kernel
theorem dX7_takeClause_65 : decode cX7_takeClause 65 = .ok (.iadd, 1) := by decide +kernel
theorem dX7_takeClause_66 : decode cX7_takeClause 66 = .ok (.aload_n 0, 1) := by decide +kernel
theorem dX7_takeClause_67 : decode cX7_takeClause 67 = .ok (.iconst 0, 1) := by decide +kernel
theorem dX7_takeClause_68 : decode cX7_takeClause 68 = .ok (.bipush 99, 2) := by decide +kernel
theorem dX7_takeClause_70 : decode cX7_takeClause 70 = .ok (.invokevirtual 106, 3) := by decide +kernel
theorem dX7_takeClause_73 : decode cX7_takeClause 73 = .ok (.iastore, 1) := by decide +kernel
theorem dX7_takeClause_74 : decode cX7_takeClause 74 = .ok (.aload_n 0, 1) := by decide +kernel
theorem dX7_takeClause_75 : decode cX7_takeClause 75 = .ok (.getfield 20, 3) := by decide +kernel
theorem dX7_takeClause_78 : decode cX7_takeClause 78 = .ok (.bipush 16, 2) := by decide +kernel
theorem dX7_takeClause_80 : decode cX7_takeClause 80 = .ok (.aload_n 0, 1) := by decide +kernel
theorem dX7_takeClause_81 : decode cX7_takeClause 81 = .ok (.getfield 29, 3) := by decide +kernel
theorem dX7_takeClause_84 : decode cX7_takeClause 84 = .ok (.iconst 2, 1) := by decide +kernel
theorem dX7_takeClause_85 : decode cX7_takeClause 85 = .ok (.iaload, 1) := by decide +kernel
theorem dX7_takeClause_86 : decode cX7_takeClause 86 = .ok (.iadd, 1) := by decide +kernel
theorem dX7_takeClause_87 : decode cX7_takeClause 87 = .ok (.aload_n 0, 1) := by decide +kernel
theorem dX7_takeClause_88 : decode cX7_takeClause 88 = .ok (.iconst 0, 1) := by decide +kernel
theorem dX7_takeClause_89 : decode cX7_takeClause 89 = .ok (.bipush 9, 2) := by decide +kernel
theorem dX7_takeClause_91 : decode cX7_takeClause 91 = .ok (.invokevirtual 106, 3) := by decide +kernel
theorem dX7_takeClause_94 : decode cX7_takeClause 94 = .ok (.iastore, 1) := by decide +kernel
theorem dX7_takeClause_95 : decode cX7_takeClause 95 = .ok (.aload_n 0, 1) := by decide +kernel
theorem dX7_takeClause_96 : decode cX7_takeClause 96 = .ok (.getfield 29, 3) := by decide +kernel
theorem dX7_takeClause_99 : decode cX7_takeClause 99 = .ok (.iconst 2, 1) := by decide +kernel
theorem dX7_takeClause_100 : decode cX7_takeClause 100 = .ok (.dup2, 1) := by decide +kernel
theorem dX7_takeClause_101 : decode cX7_takeClause 101 = .ok (.iaload, 1) := by decide +kernel
theorem dX7_takeClause_102 : decode cX7_takeClause 102 = .ok (.iconst 1, 1) := by decide +kernel
theorem dX7_takeClause_103 : decode cX7_takeClause 103 = .ok (.iadd, 1) := by decide +kernel
theorem dX7_takeClause_104 : decode cX7_takeClause 104 = .ok (.iastore, 1) := by decide +kernel
theorem dX7_takeClause_105 : decode cX7_takeClause 105 = .ok (.goto 203, 3) := by decide +kernel
theorem dX7_takeClause_108 : decode cX7_takeClause 108 = .ok (.aload_n 0, 1) := by decide +kernel
theorem dX7_takeClause_109 : decode cX7_takeClause 109 = .ok (.bipush 6, 2) := by decide +kernel
theorem dX7_takeClause_111 : decode cX7_takeClause 111 = .ok (.bipush 114, 2) := by decide +kernel
theorem dX7_takeClause_113 : decode cX7_takeClause 113 = .ok (.bipush 101, 2) := by decide +kernel
theorem dX7_takeClause_115 : decode cX7_takeClause 115 = .ok (.bipush 97, 2) := by decide +kernel
theorem dX7_takeClause_117 : decode cX7_takeClause 117 = .ok (.bipush 100, 2) := by decide +kernel
theorem dX7_takeClause_119 : decode cX7_takeClause 119 = .ok (.bipush 101, 2) := by decide +kernel
theorem dX7_takeClause_121 : decode cX7_takeClause 121 = .ok (.bipush 114, 2) := by decide +kernel
theorem dX7_takeClause_123 : decode cX7_takeClause 123 = .ok (.iconst 0, 1) := by decide +kernel
theorem dX7_takeClause_124 : decode cX7_takeClause 124 = .ok (.invokevirtual 99, 3) := by decide +kernel
theorem dX7_takeClause_127 : decode cX7_takeClause 127 = .ok (.ifCond .eq 118, 3) := by decide +kernel
theorem dX7_takeClause_130 : decode cX7_takeClause 130 = .ok (.aload_n 0, 1) := by decide +kernel
theorem dX7_takeClause_131 : decode cX7_takeClause 131 = .ok (.aload_n 0, 1) := by decide +kernel
theorem dX7_takeClause_132 : decode cX7_takeClause 132 = .ok (.getfield 29, 3) := by decide +kernel
theorem dX7_takeClause_135 : decode cX7_takeClause 135 = .ok (.iconst 3, 1) := by decide +kernel
theorem dX7_takeClause_136 : decode cX7_takeClause 136 = .ok (.iaload, 1) := by decide +kernel
theorem dX7_takeClause_137 : decode cX7_takeClause 137 = .ok (.bipush 8, 2) := by decide +kernel
theorem dX7_takeClause_139 : decode cX7_takeClause 139 = .ok (.if_icmp .ge 7, 3) := by decide +kernel
theorem dX7_takeClause_142 : decode cX7_takeClause 142 = .ok (.iconst 1, 1) := by decide +kernel
theorem dX7_takeClause_143 : decode cX7_takeClause 143 = .ok (.goto 4, 3) := by decide +kernel
theorem dX7_takeClause_146 : decode cX7_takeClause 146 = .ok (.iconst 0, 1) := by decide +kernel
theorem dX7_takeClause_147 : decode cX7_takeClause 147 = .ok (.iconst 3, 1) := by decide +kernel
theorem dX7_takeClause_148 : decode cX7_takeClause 148 = .ok (.iload_n 1, 1) := by decide +kernel
theorem dX7_takeClause_149 : decode cX7_takeClause 149 = .ok (.invokevirtual 94, 3) := by decide +kernel
theorem dX7_takeClause_152 : decode cX7_takeClause 152 = .ok (.ifCond .eq 156, 3) := by decide +kernel
theorem dX7_takeClause_155 : decode cX7_takeClause 155 = .ok (.aload_n 0, 1) := by decide +kernel
theorem dX7_takeClause_156 : decode cX7_takeClause 156 = .ok (.invokevirtual 103, 3) := by decide +kernel
theorem dX7_takeClause_159 : decode cX7_takeClause 159 = .ok (.aload_n 0, 1) := by decide +kernel
theorem dX7_takeClause_160 : decode cX7_takeClause 160 = .ok (.getfield 23, 3) := by decide +kernel
theorem dX7_takeClause_163 : decode cX7_takeClause 163 = .ok (.bipush 8, 2) := by decide +kernel
theorem dX7_takeClause_165 : decode cX7_takeClause 165 = .ok (.aload_n 0, 1) := by decide +kernel
theorem dX7_takeClause_166 : decode cX7_takeClause 166 = .ok (.getfield 29, 3) := by decide +kernel
theorem dX7_takeClause_169 : decode cX7_takeClause 169 = .ok (.iconst 3, 1) := by decide +kernel
theorem dX7_takeClause_170 : decode cX7_takeClause 170 = .ok (.iaload, 1) := by decide +kernel
theorem dX7_takeClause_171 : decode cX7_takeClause 171 = .ok (.iadd, 1) := by decide +kernel
theorem dX7_takeClause_172 : decode cX7_takeClause 172 = .ok (.aload_n 0, 1) := by decide +kernel
theorem dX7_takeClause_173 : decode cX7_takeClause 173 = .ok (.invokevirtual 110, 3) := by decide +kernel
theorem dX7_takeClause_176 : decode cX7_takeClause 176 = .ok (.iastore, 1) := by decide +kernel
theorem dX7_takeClause_177 : decode cX7_takeClause 177 = .ok (.aload_n 0, 1) := by decide +kernel
theorem dX7_takeClause_178 : decode cX7_takeClause 178 = .ok (.aload_n 0, 1) := by decide +kernel
theorem dX7_takeClause_179 : decode cX7_takeClause 179 = .ok (.getfield 23, 3) := by decide +kernel
theorem dX7_takeClause_182 : decode cX7_takeClause 182 = .ok (.bipush 8, 2) := by decide +kernel
theorem dX7_takeClause_184 : decode cX7_takeClause 184 = .ok (.aload_n 0, 1) := by decide +kernel
theorem dX7_takeClause_185 : decode cX7_takeClause 185 = .ok (.getfield 29, 3) := by decide +kernel
theorem dX7_takeClause_188 : decode cX7_takeClause 188 = .ok (.iconst 3, 1) := by decide +kernel
theorem dX7_takeClause_189 : decode cX7_takeClause 189 = .ok (.iaload, 1) := by decide +kernel
theorem dX7_takeClause_190 : decode cX7_takeClause 190 = .ok (.iadd, 1) := by decide +kernel
theorem dX7_takeClause_191 : decode cX7_takeClause 191 = .ok (.iaload, 1) := by decide +kernel
theorem dX7_takeClause_192 : decode cX7_takeClause 192 = .ok (.ifCond .lt 7, 3) := by decide +kernel
theorem dX7_takeClause_195 : decode cX7_takeClause 195 = .ok (.iconst 1, 1) := by decide +kernel
theorem dX7_takeClause_196 : decode cX7_takeClause 196 = .ok (.goto 4, 3) := by decide +kernel
theorem dX7_takeClause_199 : decode cX7_takeClause 199 = .ok (.iconst 0, 1) := by decide +kernel
theorem dX7_takeClause_200 : decode cX7_takeClause 200 = .ok (.iconst 1, 1) := by decide +kernel
theorem dX7_takeClause_201 : decode cX7_takeClause 201 = .ok (.aload_n 0, 1) := by decide +kernel
theorem dX7_takeClause_202 : decode cX7_takeClause 202 = .ok (.getfield 80, 3) := by decide +kernel
theorem dX7_takeClause_205 : decode cX7_takeClause 205 = .ok (.invokevirtual 94, 3) := by decide +kernel
theorem dX7_takeClause_208 : decode cX7_takeClause 208 = .ok (.ifCond .eq 100, 3) := by decide +kernel
theorem dX7_takeClause_211 : decode cX7_takeClause 211 = .ok (.aload_n 0, 1) := by decide +kernel
theorem dX7_takeClause_212 : decode cX7_takeClause 212 = .ok (.getfield 26, 3) := by decide +kernel
theorem dX7_takeClause_215 : decode cX7_takeClause 215 = .ok (.bipush 8, 2) := by decide +kernel
theorem dX7_takeClause_217 : decode cX7_takeClause 217 = .ok (.aload_n 0, 1) := by decide +kernel
theorem dX7_takeClause_218 : decode cX7_takeClause 218 = .ok (.getfield 29, 3) := by decide +kernel
theorem dX7_takeClause_221 : decode cX7_takeClause 221 = .ok (.iconst 3, 1) := by decide +kernel
theorem dX7_takeClause_222 : decode cX7_takeClause 222 = .ok (.iaload, 1) := by decide +kernel
theorem dX7_takeClause_223 : decode cX7_takeClause 223 = .ok (.iadd, 1) := by decide +kernel
theorem dX7_takeClause_224 : decode cX7_takeClause 224 = .ok (.aload_n 0, 1) := by decide +kernel
theorem dX7_takeClause_225 : decode cX7_takeClause 225 = .ok (.iconst 1, 1) := by decide +kernel
theorem dX7_takeClause_226 : decode cX7_takeClause 226 = .ok (.bipush 99, 2) := by decide +kernel
theorem dX7_takeClause_228 : decode cX7_takeClause 228 = .ok (.invokevirtual 106, 3) := by decide +kernel
theorem dX7_takeClause_231 : decode cX7_takeClause 231 = .ok (.iastore, 1) := by decide +kernel
theorem dX7_takeClause_232 : decode cX7_takeClause 232 = .ok (.aload_n 0, 1) := by decide +kernel
theorem dX7_takeClause_233 : decode cX7_takeClause 233 = .ok (.getfield 29, 3) := by decide +kernel
theorem dX7_takeClause_236 : decode cX7_takeClause 236 = .ok (.iconst 3, 1) := by decide +kernel
theorem dX7_takeClause_237 : decode cX7_takeClause 237 = .ok (.dup2, 1) := by decide +kernel
theorem dX7_takeClause_238 : decode cX7_takeClause 238 = .ok (.iaload, 1) := by decide +kernel
theorem dX7_takeClause_239 : decode cX7_takeClause 239 = .ok (.iconst 1, 1) := by decide +kernel
theorem dX7_takeClause_240 : decode cX7_takeClause 240 = .ok (.iadd, 1) := by decide +kernel
theorem dX7_takeClause_241 : decode cX7_takeClause 241 = .ok (.iastore, 1) := by decide +kernel
theorem dX7_takeClause_242 : decode cX7_takeClause 242 = .ok (.goto 66, 3) := by decide +kernel
theorem dX7_takeClause_245 : decode cX7_takeClause 245 = .ok (.aload_n 0, 1) := by decide +kernel
theorem dX7_takeClause_246 : decode cX7_takeClause 246 = .ok (.aload_n 0, 1) := by decide +kernel
theorem dX7_takeClause_247 : decode cX7_takeClause 247 = .ok (.iconst 5, 1) := by decide +kernel
theorem dX7_takeClause_248 : decode cX7_takeClause 248 = .ok (.bipush 101, 2) := by decide +kernel
theorem dX7_takeClause_250 : decode cX7_takeClause 250 = .ok (.bipush 114, 2) := by decide +kernel
theorem dX7_takeClause_252 : decode cX7_takeClause 252 = .ok (.bipush 114, 2) := by decide +kernel
theorem dX7_takeClause_254 : decode cX7_takeClause 254 = .ok (.bipush 111, 2) := by decide +kernel
theorem dX7_takeClause_256 : decode cX7_takeClause 256 = .ok (.bipush 114, 2) := by decide +kernel
theorem dX7_takeClause_258 : decode cX7_takeClause 258 = .ok (.iconst 0, 1) := by decide +kernel
theorem dX7_takeClause_259 : decode cX7_takeClause 259 = .ok (.iconst 0, 1) := by decide +kernel
theorem dX7_takeClause_260 : decode cX7_takeClause 260 = .ok (.invokevirtual 99, 3) := by decide +kernel
theorem dX7_takeClause_263 : decode cX7_takeClause 263 = .ok (.iconst 1, 1) := by decide +kernel
theorem dX7_takeClause_264 : decode cX7_takeClause 264 = .ok (.iload_n 1, 1) := by decide +kernel
theorem dX7_takeClause_265 : decode cX7_takeClause 265 = .ok (.invokevirtual 94, 3) := by decide +kernel
theorem dX7_takeClause_268 : decode cX7_takeClause 268 = .ok (.ifCond .eq 40, 3) := by decide +kernel
theorem dX7_takeClause_271 : decode cX7_takeClause 271 = .ok (.aload_n 0, 1) := by decide +kernel
theorem dX7_takeClause_272 : decode cX7_takeClause 272 = .ok (.aload_n 0, 1) := by decide +kernel
theorem dX7_takeClause_273 : decode cX7_takeClause 273 = .ok (.getfield 113, 3) := by decide +kernel
theorem dX7_takeClause_276 : decode cX7_takeClause 276 = .ok (.ifCond .ne 7, 3) := by decide +kernel
theorem dX7_takeClause_279 : decode cX7_takeClause 279 = .ok (.iconst 1, 1) := by decide +kernel
theorem dX7_takeClause_280 : decode cX7_takeClause 280 = .ok (.goto 4, 3) := by decide +kernel
theorem dX7_takeClause_283 : decode cX7_takeClause 283 = .ok (.iconst 0, 1) := by decide +kernel
theorem dX7_takeClause_284 : decode cX7_takeClause 284 = .ok (.iconst 3, 1) := by decide +kernel
theorem dX7_takeClause_285 : decode cX7_takeClause 285 = .ok (.iload_n 1, 1) := by decide +kernel
theorem dX7_takeClause_286 : decode cX7_takeClause 286 = .ok (.invokevirtual 94, 3) := by decide +kernel
theorem dX7_takeClause_289 : decode cX7_takeClause 289 = .ok (.ifCond .eq 19, 3) := by decide +kernel
theorem dX7_takeClause_292 : decode cX7_takeClause 292 = .ok (.aload_n 0, 1) := by decide +kernel
theorem dX7_takeClause_293 : decode cX7_takeClause 293 = .ok (.iconst 1, 1) := by decide +kernel
theorem dX7_takeClause_294 : decode cX7_takeClause 294 = .ok (.putfield 113, 3) := by decide +kernel
theorem dX7_takeClause_297 : decode cX7_takeClause 297 = .ok (.aload_n 0, 1) := by decide +kernel
theorem dX7_takeClause_298 : decode cX7_takeClause 298 = .ok (.aload_n 0, 1) := by decide +kernel
theorem dX7_takeClause_299 : decode cX7_takeClause 299 = .ok (.iconst 0, 1) := by decide +kernel
theorem dX7_takeClause_300 : decode cX7_takeClause 300 = .ok (.bipush 100, 2) := by decide +kernel
theorem dX7_takeClause_302 : decode cX7_takeClause 302 = .ok (.invokevirtual 106, 3) := by decide +kernel
theorem dX7_takeClause_305 : decode cX7_takeClause 305 = .ok (.putfield 117, 3) := by decide +kernel
theorem dX7_takeClause_308 : decode cX7_takeClause 308 = .ok (.aload_n 0, 1) := by decide +kernel
theorem dX7_takeClause_309 : decode cX7_takeClause 309 = .ok (.getfield 73, 3) := by decide +kernel
theorem dX7_takeClause_312 : decode cX7_takeClause 312 = .ok (.ifCond .ne 39, 3) := by decide +kernel
theorem dX7_takeClause_315 : decode cX7_takeClause 315 = .ok (.aload_n 0, 1) := by decide +kernel
theorem dX7_takeClause_316 : decode cX7_takeClause 316 = .ok (.aload_n 0, 1) := by decide +kernel
theorem dX7_takeClause_317 : decode cX7_takeClause 317 = .ok (.invokevirtual 76, 3) := by decide +kernel
theorem dX7_takeClause_320 : decode cX7_takeClause 320 = .ok (.bipush 59, 2) := by decide +kernel
theorem dX7_takeClause_322 : decode cX7_takeClause 322 = .ok (.if_icmp .ne 7, 3) := by decide +kernel
theorem dX7_takeClause_325 : decode cX7_takeClause 325 = .ok (.iconst 1, 1) := by decide +kernel
theorem dX7_takeClause_326 : decode cX7_takeClause 326 = .ok (.goto 4, 3) := by decide +kernel
theorem dX7_takeClause_329 : decode cX7_takeClause 329 = .ok (.iconst 0, 1) := by decide +kernel
theorem dX7_takeClause_330 : decode cX7_takeClause 330 = .ok (.iconst 1, 1) := by decide +kernel
theorem dX7_takeClause_331 : decode cX7_takeClause 331 = .ok (.aload_n 0, 1) := by decide +kernel
theorem dX7_takeClause_332 : decode cX7_takeClause 332 = .ok (.getfield 70, 3) := by decide +kernel
theorem dX7_takeClause_335 : decode cX7_takeClause 335 = .ok (.invokevirtual 94, 3) := by decide +kernel
theorem dX7_takeClause_338 : decode cX7_takeClause 338 = .ok (.ifCond .eq 13, 3) := by decide +kernel
theorem dX7_takeClause_341 : decode cX7_takeClause 341 = .ok (.aload_n 0, 1) := by decide +kernel
theorem dX7_takeClause_342 : decode cX7_takeClause 342 = .ok (.dup, 1) := by decide +kernel
theorem dX7_takeClause_343 : decode cX7_takeClause 343 = .ok (.getfield 70, 3) := by decide +kernel
theorem dX7_takeClause_346 : decode cX7_takeClause 346 = .ok (.iconst 1, 1) := by decide +kernel
theorem dX7_takeClause_347 : decode cX7_takeClause 347 = .ok (.iadd, 1) := by decide +kernel
theorem dX7_takeClause_348 : decode cX7_takeClause 348 = .ok (.putfield 70, 3) := by decide +kernel
theorem dX7_takeClause_351 : decode cX7_takeClause 351 = .ok (.return_, 1) := by decide +kernel
theorem dX7_library_0 : decode cX7_library 0 = .ok (.aload_n 0, 1) := by decide +kernel
theorem dX7_library_1 : decode cX7_library 1 = .ok (.iconst 0, 1) := by decide +kernel
theorem dX7_library_2 : decode cX7_library 2 = .ok (.putfield 70, 3) := by decide +kernel
theorem dX7_library_5 : decode cX7_library 5 = .ok (.aload_n 0, 1) := by decide +kernel
theorem dX7_library_6 : decode cX7_library 6 = .ok (.iconst 0, 1) := by decide +kernel
theorem dX7_library_7 : decode cX7_library 7 = .ok (.putfield 73, 3) := by decide +kernel
theorem dX7_library_10 : decode cX7_library 10 = .ok (.aload_n 0, 1) := by decide +kernel
theorem dX7_library_11 : decode cX7_library 11 = .ok (.iconst (-1), 1) := by decide +kernel
theorem dX7_library_12 : decode cX7_library 12 = .ok (.putfield 39, 3) := by decide +kernel
theorem dX7_library_15 : decode cX7_library 15 = .ok (.aload_n 0, 1) := by decide +kernel
theorem dX7_library_16 : decode cX7_library 16 = .ok (.getfield 29, 3) := by decide +kernel
theorem dX7_library_19 : decode cX7_library 19 = .ok (.iconst 2, 1) := by decide +kernel
theorem dX7_library_20 : decode cX7_library 20 = .ok (.iconst 0, 1) := by decide +kernel
theorem dX7_library_21 : decode cX7_library 21 = .ok (.iastore, 1) := by decide +kernel
theorem dX7_library_22 : decode cX7_library 22 = .ok (.aload_n 0, 1) := by decide +kernel
theorem dX7_library_23 : decode cX7_library 23 = .ok (.getfield 29, 3) := by decide +kernel
theorem dX7_library_26 : decode cX7_library 26 = .ok (.iconst 3, 1) := by decide +kernel
theorem dX7_library_27 : decode cX7_library 27 = .ok (.iconst 0, 1) := by decide +kernel
theorem dX7_library_28 : decode cX7_library 28 = .ok (.iastore, 1) := by decide +kernel
theorem dX7_library_29 : decode cX7_library 29 = .ok (.aload_n 0, 1) := by decide +kernel
theorem dX7_library_30 : decode cX7_library 30 = .ok (.bipush 10, 2) := by decide +kernel
theorem dX7_library_32 : decode cX7_library 32 = .ok (.putfield 117, 3) := by decide +kernel
theorem dX7_library_35 : decode cX7_library 35 = .ok (.aload_n 0, 1) := by decide +kernel
theorem dX7_library_36 : decode cX7_library 36 = .ok (.iconst 0, 1) := by decide +kernel
theorem dX7_library_37 : decode cX7_library 37 = .ok (.putfield 113, 3) := by decide +kernel
theorem dX7_library_40 : decode cX7_library 40 = .ok (.aload_n 0, 1) := by decide +kernel
theorem dX7_library_41 : decode cX7_library 41 = .ok (.getfield 73, 3) := by decide +kernel
theorem dX7_library_44 : decode cX7_library 44 = .ok (.ifCond .ne 17, 3) := by decide +kernel
theorem dX7_library_47 : decode cX7_library 47 = .ok (.aload_n 0, 1) := by decide +kernel
theorem dX7_library_48 : decode cX7_library 48 = .ok (.invokevirtual 76, 3) := by decide +kernel
theorem dX7_library_51 : decode cX7_library 51 = .ok (.ifCond .lt 10, 3) := by decide +kernel
theorem dX7_library_54 : decode cX7_library 54 = .ok (.aload_n 0, 1) := by decide +kernel
theorem dX7_library_55 : decode cX7_library 55 = .ok (.invokevirtual 120, 3) := by decide +kernel
theorem dX7_library_58 : decode cX7_library 58 = .ok (.goto (-18), 3) := by decide +kernel
theorem dX7_library_61 : decode cX7_library 61 = .ok (.aload_n 0, 1) := by decide +kernel
theorem dX7_library_62 : decode cX7_library 62 = .ok (.iconst 0, 1) := by decide +kernel
theorem dX7_library_63 : decode cX7_library 63 = .ok (.putfield 64, 3) := by decide +kernel
theorem dX7_library_66 : decode cX7_library 66 = .ok (.aload_n 0, 1) := by decide +kernel
theorem dX7_library_67 : decode cX7_library 67 = .ok (.getfield 73, 3) := by decide +kernel
theorem dX7_library_70 : decode cX7_library 70 = .ok (.ifCond .le 11, 3) := by decide +kernel
theorem dX7_library_73 : decode cX7_library 73 = .ok (.bipush (-10), 2) := by decide +kernel
theorem dX7_library_75 : decode cX7_library 75 = .ok (.aload_n 0, 1) := by decide +kernel
theorem dX7_library_76 : decode cX7_library 76 = .ok (.getfield 73, 3) := by decide +kernel
theorem dX7_library_79 : decode cX7_library 79 = .ok (.isub, 1) := by decide +kernel
theorem dX7_library_80 : decode cX7_library 80 = .ok (.ireturn, 1) := by decide +kernel
theorem dX7_library_81 : decode cX7_library 81 = .ok (.aload_n 0, 1) := by decide +kernel
theorem dX7_library_82 : decode cX7_library 82 = .ok (.getfield 29, 3) := by decide +kernel
theorem dX7_library_85 : decode cX7_library 85 = .ok (.iconst 0, 1) := by decide +kernel
theorem dX7_library_86 : decode cX7_library 86 = .ok (.aload_n 0, 1) := by decide +kernel
theorem dX7_library_87 : decode cX7_library 87 = .ok (.getfield 29, 3) := by decide +kernel
theorem dX7_library_90 : decode cX7_library 90 = .ok (.iconst 2, 1) := by decide +kernel
theorem dX7_library_91 : decode cX7_library 91 = .ok (.iaload, 1) := by decide +kernel
theorem dX7_library_92 : decode cX7_library 92 = .ok (.iastore, 1) := by decide +kernel
theorem dX7_library_93 : decode cX7_library 93 = .ok (.aload_n 0, 1) := by decide +kernel
theorem dX7_library_94 : decode cX7_library 94 = .ok (.getfield 29, 3) := by decide +kernel
theorem dX7_library_97 : decode cX7_library 97 = .ok (.iconst 1, 1) := by decide +kernel
theorem dX7_library_98 : decode cX7_library 98 = .ok (.aload_n 0, 1) := by decide +kernel
theorem dX7_library_99 : decode cX7_library 99 = .ok (.getfield 29, 3) := by decide +kernel
theorem dX7_library_102 : decode cX7_library 102 = .ok (.iconst 3, 1) := by decide +kernel
theorem dX7_library_103 : decode cX7_library 103 = .ok (.iaload, 1) := by decide +kernel
theorem dX7_library_104 : decode cX7_library 104 = .ok (.iastore, 1) := by decide +kernel
theorem dX7_library_105 : decode cX7_library 105 = .ok (.aload_n 0, 1) := by decide +kernel
theorem dX7_library_106 : decode cX7_library 106 = .ok (.aload_n 0, 1) := by decide +kernel
theorem dX7_library_107 : decode cX7_library 107 = .ok (.getfield 117, 3) := by decide +kernel
theorem dX7_library_110 : decode cX7_library 110 = .ok (.putfield 32, 3) := by decide +kernel
theorem dX7_library_113 : decode cX7_library 113 = .ok (.aload_n 0, 1) := by decide +kernel
theorem dX7_library_114 : decode cX7_library 114 = .ok (.getfield 7, 3) := by decide +kernel
theorem dX7_library_117 : decode cX7_library 117 = .ok (.sipush 1335, 3) := by decide +kernel
theorem dX7_library_120 : decode cX7_library 120 = .ok (.iaload, 1) := by decide +kernel
theorem dX7_library_121 : decode cX7_library 121 = .ok (.istore_n 1, 1) := by decide +kernel
theorem dX7_library_122 : decode cX7_library 122 = .ok (.iconst 0, 1) := by decide +kernel
theorem dX7_library_123 : decode cX7_library 123 = .ok (.istore_n 2, 1) := by decide +kernel
theorem dX7_library_124 : decode cX7_library 124 = .ok (.iload_n 2, 1) := by decide +kernel
theorem dX7_library_125 : decode cX7_library 125 = .ok (.sipush 1500, 3) := by decide +kernel
theorem dX7_library_128 : decode cX7_library 128 = .ok (.if_icmp .ge 48, 3) := by decide +kernel
theorem dX7_library_131 : decode cX7_library 131 = .ok (.aload_n 0, 1) := by decide +kernel
theorem dX7_library_132 : decode cX7_library 132 = .ok (.getfield 7, 3) := by decide +kernel
theorem dX7_library_135 : decode cX7_library 135 = .ok (.iload_n 2, 1) := by decide +kernel
theorem dX7_library_136 : decode cX7_library 136 = .ok (.iload_n 2, 1) := by decide +kernel
theorem dX7_library_137 : decode cX7_library 137 = .ok (.i2l, 1) := by decide +kernel
theorem dX7_library_138 : decode cX7_library 138 = .ok (.ldc2_w 123, 3) := by decide +kernel
theorem dX7_library_141 : decode cX7_library 141 = .ok (.ldc2_w 125, 3) := by decide +kernel
theorem dX7_library_144 : decode cX7_library 144 = .ok (.invokestatic 59, 3) := by decide +kernel
theorem dX7_library_147 : decode cX7_library 147 = .ok (.ifCond .ne 17, 3) := by decide +kernel
theorem dX7_library_150 : decode cX7_library 150 = .ok (.iload_n 2, 1) := by decide +kernel
theorem dX7_library_151 : decode cX7_library 151 = .ok (.i2l, 1) := by decide +kernel
theorem dX7_library_152 : decode cX7_library 152 = .ok (.ldc2_w 127, 3) := by decide +kernel
theorem dX7_library_155 : decode cX7_library 155 = .ok (.ldc2_w 129, 3) := by decide +kernel
theorem dX7_library_158 : decode cX7_library 158 = .ok (.invokestatic 59, 3) := by decide +kernel
theorem dX7_library_161 : decode cX7_library 161 = .ok (.ifCond .eq 7, 3) := by decide +kernel
theorem dX7_library_164 : decode cX7_library 164 = .ok (.iconst (-1), 1) := by decide +kernel
theorem dX7_library_165 : decode cX7_library 165 = .ok (.goto 4, 3) := by decide +kernel
theorem dX7_library_168 : decode cX7_library 168 = .ok (.iconst 0, 1) := by decide +kernel
theorem dX7_library_169 : decode cX7_library 169 = .ok (.iastore, 1) := by decide +kernel
theorem dX7_library_170 : decode cX7_library 170 = .ok (.iinc 2 1, 3) := by decide +kernel
theorem dX7_library_173 : decode cX7_library 173 = .ok (.goto (-49), 3) := by decide +kernel
theorem dX7_library_176 : decode cX7_library 176 = .ok (.aload_n 0, 1) := by decide +kernel
theorem dX7_library_177 : decode cX7_library 177 = .ok (.getfield 7, 3) := by decide +kernel
theorem dX7_library_180 : decode cX7_library 180 = .ok (.sipush 1335, 3) := by decide +kernel
theorem dX7_library_183 : decode cX7_library 183 = .ok (.iload_n 1, 1) := by decide +kernel
theorem dX7_library_184 : decode cX7_library 184 = .ok (.iastore, 1) := by decide +kernel
theorem dX7_library_185 : decode cX7_library 185 = .ok (.iconst 0, 1) := by decide +kernel
theorem dX7_library_186 : decode cX7_library 186 = .ok (.istore_n 2, 1) := by decide +kernel
theorem dX7_library_187 : decode cX7_library 187 = .ok (.iload_n 2, 1) := by decide +kernel
theorem dX7_library_188 : decode cX7_library 188 = .ok (.bipush 16, 2) := by decide +kernel
theorem dX7_library_190 : decode cX7_library 190 = .ok (.if_icmp .ge 49, 3) := by decide +kernel
theorem dX7_library_193 : decode cX7_library 193 = .ok (.aload_n 0, 1) := by decide +kernel
theorem dX7_library_194 : decode cX7_library 194 = .ok (.getfield 17, 3) := by decide +kernel
theorem dX7_library_197 : decode cX7_library 197 = .ok (.iload_n 2, 1) := by decide +kernel
theorem dX7_library_198 : decode cX7_library 198 = .ok (.aload_n 0, 1) := by decide +kernel
theorem dX7_library_199 : decode cX7_library 199 = .ok (.getfield 17, 3) := by decide +kernel
theorem dX7_library_202 : decode cX7_library 202 = .ok (.bipush 16, 2) := by decide +kernel
theorem dX7_library_204 : decode cX7_library 204 = .ok (.iload_n 2, 1) := by decide +kernel
theorem dX7_library_205 : decode cX7_library 205 = .ok (.iadd, 1) := by decide +kernel
theorem dX7_library_206 : decode cX7_library 206 = .ok (.iaload, 1) := by decide +kernel
theorem dX7_library_207 : decode cX7_library 207 = .ok (.iastore, 1) := by decide +kernel
theorem dX7_library_208 : decode cX7_library 208 = .ok (.aload_n 0, 1) := by decide +kernel
theorem dX7_library_209 : decode cX7_library 209 = .ok (.getfield 7, 3) := by decide +kernel
theorem dX7_library_212 : decode cX7_library 212 = .ok (.iload_n 2, 1) := by decide +kernel
theorem dX7_library_213 : decode cX7_library 213 = .ok (.iload_n 2, 1) := by decide +kernel
theorem dX7_library_214 : decode cX7_library 214 = .ok (.iastore, 1) := by decide +kernel
theorem dX7_library_215 : decode cX7_library 215 = .ok (.aload_n 0, 1) := by decide +kernel
theorem dX7_library_216 : decode cX7_library 216 = .ok (.getfield 7, 3) := by decide +kernel
theorem dX7_library_219 : decode cX7_library 219 = .ok (.bipush 80, 2) := by decide +kernel
theorem dX7_library_221 : decode cX7_library 221 = .ok (.iload_n 2, 1) := by decide +kernel
theorem dX7_library_222 : decode cX7_library 222 = .ok (.iadd, 1) := by decide +kernel
theorem dX7_library_223 : decode cX7_library 223 = .ok (.aload_n 0, 1) := by decide +kernel
theorem dX7_library_224 : decode cX7_library 224 = .ok (.getfield 20, 3) := by decide +kernel
theorem dX7_library_227 : decode cX7_library 227 = .ok (.bipush 16, 2) := by decide +kernel
theorem dX7_library_229 : decode cX7_library 229 = .ok (.iload_n 2, 1) := by decide +kernel
theorem dX7_library_230 : decode cX7_library 230 = .ok (.iadd, 1) := by decide +kernel
theorem dX7_library_231 : decode cX7_library 231 = .ok (.iaload, 1) := by decide +kernel
theorem dX7_library_232 : decode cX7_library 232 = .ok (.iastore, 1) := by decide +kernel
theorem dX7_library_233 : decode cX7_library 233 = .ok (.iinc 2 1, 3) := by decide +kernel
theorem dX7_library_236 : decode cX7_library 236 = .ok (.goto (-49), 3) := by decide +kernel
theorem dX7_library_239 : decode cX7_library 239 = .ok (.aload_n 0, 1) := by decide +kernel
theorem dX7_library_240 : decode cX7_library 240 = .ok (.getfield 7, 3) := by decide +kernel
theorem dX7_library_243 : decode cX7_library 243 = .ok (.sipush 1332, 3) := by decide +kernel
theorem dX7_library_246 : decode cX7_library 246 = .ok (.aload_n 0, 1) := by decide +kernel
theorem dX7_library_247 : decode cX7_library 247 = .ok (.getfield 29, 3) := by decide +kernel
theorem dX7_library_250 : decode cX7_library 250 = .ok (.iconst 0, 1) := by decide +kernel
theorem dX7_library_251 : decode cX7_library 251 = .ok (.iaload, 1) := by decide +kernel
theorem dX7_library_252 : decode cX7_library 252 = .ok (.iastore, 1) := by decide +kernel
theorem dX7_library_253 : decode cX7_library 253 = .ok (.iconst 0, 1) := by decide +kernel
theorem dX7_library_254 : decode cX7_library 254 = .ok (.istore_n 2, 1) := by decide +kernel
theorem dX7_library_255 : decode cX7_library 255 = .ok (.iload_n 2, 1) := by decide +kernel
theorem dX7_library_256 : decode cX7_library 256 = .ok (.bipush 8, 2) := by decide +kernel
theorem dX7_library_258 : decode cX7_library 258 = .ok (.if_icmp .ge 39, 3) := by decide +kernel
theorem dX7_library_261 : decode cX7_library 261 = .ok (.aload_n 0, 1) := by decide +kernel
theorem dX7_library_262 : decode cX7_library 262 = .ok (.getfield 23, 3) := by decide +kernel
theorem dX7_library_265 : decode cX7_library 265 = .ok (.iload_n 2, 1) := by decide +kernel
theorem dX7_library_266 : decode cX7_library 266 = .ok (.aload_n 0, 1) := by decide +kernel
theorem dX7_library_267 : decode cX7_library 267 = .ok (.getfield 23, 3) := by decide +kernel
theorem dX7_library_270 : decode cX7_library 270 = .ok (.bipush 8, 2) := by decide +kernel
theorem dX7_library_272 : decode cX7_library 272 = .ok (.iload_n 2, 1) := by decide +kernel
theorem dX7_library_273 : decode cX7_library 273 = .ok (.iadd, 1) := by decide +kernel
theorem dX7_library_274 : decode cX7_library 274 = .ok (.iaload, 1) := by decide +kernel
theorem dX7_library_275 : decode cX7_library 275 = .ok (.iastore, 1) := by decide +kernel
theorem dX7_library_276 : decode cX7_library 276 = .ok (.aload_n 0, 1) := by decide +kernel
theorem dX7_library_277 : decode cX7_library 277 = .ok (.getfield 26, 3) := by decide +kernel
theorem dX7_library_280 : decode cX7_library 280 = .ok (.iload_n 2, 1) := by decide +kernel
theorem dX7_library_281 : decode cX7_library 281 = .ok (.aload_n 0, 1) := by decide +kernel
theorem dX7_library_282 : decode cX7_library 282 = .ok (.getfield 26, 3) := by decide +kernel
theorem dX7_library_285 : decode cX7_library 285 = .ok (.bipush 8, 2) := by decide +kernel
theorem dX7_library_287 : decode cX7_library 287 = .ok (.iload_n 2, 1) := by decide +kernel
theorem dX7_library_288 : decode cX7_library 288 = .ok (.iadd, 1) := by decide +kernel
theorem dX7_library_289 : decode cX7_library 289 = .ok (.iaload, 1) := by decide +kernel
theorem dX7_library_290 : decode cX7_library 290 = .ok (.iastore, 1) := by decide +kernel
theorem dX7_library_291 : decode cX7_library 291 = .ok (.iinc 2 1, 3) := by decide +kernel
theorem dX7_library_294 : decode cX7_library 294 = .ok (.goto (-39), 3) := by decide +kernel
theorem dX7_library_297 : decode cX7_library 297 = .ok (.aload_n 0, 1) := by decide +kernel
theorem dX7_library_298 : decode cX7_library 298 = .ok (.iconst 0, 1) := by decide +kernel
theorem dX7_library_299 : decode cX7_library 299 = .ok (.putfield 131, 3) := by decide +kernel
theorem dX7_library_302 : decode cX7_library 302 = .ok (.aload_n 0, 1) := by decide +kernel
theorem dX7_library_303 : decode cX7_library 303 = .ok (.iconst 0, 1) := by decide +kernel
theorem dX7_library_304 : decode cX7_library 304 = .ok (.putfield 134, 3) := by decide +kernel
theorem dX7_library_307 : decode cX7_library 307 = .ok (.aload_n 0, 1) := by decide +kernel
theorem dX7_library_308 : decode cX7_library 308 = .ok (.getfield 13, 3) := by decide +kernel
theorem dX7_library_311 : decode cX7_library 311 = .ok (.iconst 0, 1) := by decide +kernel
theorem dX7_library_312 : decode cX7_library 312 = .ok (.iconst 0, 1) := by decide +kernel
theorem dX7_library_313 : decode cX7_library 313 = .ok (.bastore, 1) := by decide +kernel
theorem dX7_library_314 : decode cX7_library 314 = .ok (.aload_n 0, 1) := by decide +kernel
theorem dX7_library_315 : decode cX7_library 315 = .ok (.getfield 13, 3) := by decide +kernel
theorem dX7_library_318 : decode cX7_library 318 = .ok (.iconst 1, 1) := by decide +kernel
theorem dX7_library_319 : decode cX7_library 319 = .ok (.iconst 0, 1) := by decide +kernel
theorem dX7_library_320 : decode cX7_library 320 = .ok (.bastore, 1) := by decide +kernel
theorem dX7_library_321 : decode cX7_library 321 = .ok (.aload_n 0, 1) := by decide +kernel
theorem dX7_library_322 : decode cX7_library 322 = .ok (.getfield 29, 3) := by decide +kernel
theorem dX7_library_325 : decode cX7_library 325 = .ok (.iconst 0, 1) := by decide +kernel
theorem dX7_library_326 : decode cX7_library 326 = .ok (.iaload, 1) := by decide +kernel
theorem dX7_library_327 : decode cX7_library 327 = .ok (.ireturn, 1) := by decide +kernel
theorem dX7_fault_0 : decode cX7_fault 0 = .ok (.aload_n 0, 1) := by decide +kernel
theorem dX7_fault_1 : decode cX7_fault 1 = .ok (.getfield 39, 3) := by decide +kernel
theorem dX7_fault_4 : decode cX7_fault 4 = .ok (.ireturn, 1) := by decide +kernel
theorem dX7_isLine_0 : decode cX7_isLine 0 = .ok (.iload_n 1, 1) := by decide +kernel
theorem dX7_isLine_1 : decode cX7_isLine 1 = .ok (.i2l, 1) := by decide +kernel
theorem dX7_isLine_2 : decode cX7_isLine 2 = .ok (.lconst 0, 1) := by decide +kernel
theorem dX7_isLine_3 : decode cX7_isLine 3 = .ok (.aload_n 0, 1) := by decide +kernel
theorem dX7_isLine_4 : decode cX7_isLine 4 = .ok (.getfield 29, 3) := by decide +kernel
theorem dX7_isLine_7 : decode cX7_isLine 7 = .ok (.iconst 0, 1) := by decide +kernel
theorem dX7_isLine_8 : decode cX7_isLine 8 = .ok (.iaload, 1) := by decide +kernel
theorem dX7_isLine_9 : decode cX7_isLine 9 = .ok (.iconst 1, 1) := by decide +kernel
theorem dX7_isLine_10 : decode cX7_isLine 10 = .ok (.isub, 1) := by decide +kernel
theorem dX7_isLine_11 : decode cX7_isLine 11 = .ok (.i2l, 1) := by decide +kernel
theorem dX7_isLine_12 : decode cX7_isLine 12 = .ok (.invokestatic 59, 3) := by decide +kernel
theorem dX7_isLine_15 : decode cX7_isLine 15 = .ok (.ireturn, 1) := by decide +kernel
theorem dX7_isReader_0 : decode cX7_isReader 0 = .ok (.iload_n 1, 1) := by decide +kernel
theorem dX7_isReader_1 : decode cX7_isReader 1 = .ok (.i2l, 1) := by decide +kernel
theorem dX7_isReader_2 : decode cX7_isReader 2 = .ok (.lconst 0, 1) := by decide +kernel
theorem dX7_isReader_3 : decode cX7_isReader 3 = .ok (.aload_n 0, 1) := by decide +kernel
theorem dX7_isReader_4 : decode cX7_isReader 4 = .ok (.getfield 29, 3) := by decide +kernel
theorem dX7_isReader_7 : decode cX7_isReader 7 = .ok (.iconst 1, 1) := by decide +kernel
theorem dX7_isReader_8 : decode cX7_isReader 8 = .ok (.iaload, 1) := by decide +kernel
theorem dX7_isReader_9 : decode cX7_isReader 9 = .ok (.iconst 1, 1) := by decide +kernel
theorem dX7_isReader_10 : decode cX7_isReader 10 = .ok (.isub, 1) := by decide +kernel
theorem dX7_isReader_11 : decode cX7_isReader 11 = .ok (.i2l, 1) := by decide +kernel
theorem dX7_isReader_12 : decode cX7_isReader 12 = .ok (.invokestatic 59, 3) := by decide +kernel
theorem dX7_isReader_15 : decode cX7_isReader 15 = .ok (.ireturn, 1) := by decide +kernel
theorem dX7_isPage_0 : decode cX7_isPage 0 = .ok (.iload_n 1, 1) := by decide +kernel
theorem dX7_isPage_1 : decode cX7_isPage 1 = .ok (.i2l, 1) := by decide +kernel
theorem dX7_isPage_2 : decode cX7_isPage 2 = .ok (.lconst 0, 1) := by decide +kernel
theorem dX7_isPage_3 : decode cX7_isPage 3 = .ok (.aload_n 0, 1) := by decide +kernel
theorem dX7_isPage_4 : decode cX7_isPage 4 = .ok (.getfield 7, 3) := by decide +kernel
theorem dX7_isPage_7 : decode cX7_isPage 7 = .ok (.sipush 1332, 3) := by decide +kernel
theorem dX7_isPage_10 : decode cX7_isPage 10 = .ok (.iaload, 1) := by decide +kernel
theorem dX7_isPage_11 : decode cX7_isPage 11 = .ok (.iconst 1, 1) := by decide +kernel
theorem dX7_isPage_12 : decode cX7_isPage 12 = .ok (.isub, 1) := by decide +kernel
theorem dX7_isPage_13 : decode cX7_isPage 13 = .ok (.i2l, 1) := by decide +kernel
theorem dX7_isPage_14 : decode cX7_isPage 14 = .ok (.invokestatic 59, 3) := by decide +kernel
theorem dX7_isPage_17 : decode cX7_isPage 17 = .ok (.ireturn, 1) := by decide +kernel
theorem dX7_copyRow_0 : decode cX7_copyRow 0 = .ok (.iconst 0, 1) := by decide +kernel
theorem dX7_copyRow_1 : decode cX7_copyRow 1 = .ok (.istore_n 3, 1) := by decide +kernel
theorem dX7_copyRow_2 : decode cX7_copyRow 2 = .ok (.iload_n 3, 1) := by decide +kernel
theorem dX7_copyRow_3 : decode cX7_copyRow 3 = .ok (.sipush 1500, 3) := by decide +kernel
theorem dX7_copyRow_6 : decode cX7_copyRow 6 = .ok (.if_icmp .ge 25, 3) := by decide +kernel
theorem dX7_copyRow_9 : decode cX7_copyRow 9 = .ok (.aload_n 0, 1) := by decide +kernel
theorem dX7_copyRow_10 : decode cX7_copyRow 10 = .ok (.getfield 7, 3) := by decide +kernel
theorem dX7_copyRow_13 : decode cX7_copyRow 13 = .ok (.iload_n 2, 1) := by decide +kernel
theorem dX7_copyRow_14 : decode cX7_copyRow 14 = .ok (.iload_n 3, 1) := by decide +kernel
theorem dX7_copyRow_15 : decode cX7_copyRow 15 = .ok (.iadd, 1) := by decide +kernel
theorem dX7_copyRow_16 : decode cX7_copyRow 16 = .ok (.aload_n 0, 1) := by decide +kernel
theorem dX7_copyRow_17 : decode cX7_copyRow 17 = .ok (.getfield 7, 3) := by decide +kernel
theorem dX7_copyRow_20 : decode cX7_copyRow 20 = .ok (.iload_n 1, 1) := by decide +kernel
theorem dX7_copyRow_21 : decode cX7_copyRow 21 = .ok (.iload_n 3, 1) := by decide +kernel
theorem dX7_copyRow_22 : decode cX7_copyRow 22 = .ok (.iadd, 1) := by decide +kernel
theorem dX7_copyRow_23 : decode cX7_copyRow 23 = .ok (.iaload, 1) := by decide +kernel
theorem dX7_copyRow_24 : decode cX7_copyRow 24 = .ok (.iastore, 1) := by decide +kernel
theorem dX7_copyRow_25 : decode cX7_copyRow 25 = .ok (.iinc 3 1, 3) := by decide +kernel
theorem dX7_copyRow_28 : decode cX7_copyRow 28 = .ok (.goto (-26), 3) := by decide +kernel
theorem dX7_copyRow_31 : decode cX7_copyRow 31 = .ok (.return_, 1) := by decide +kernel
theorem dX7_isKeptLine_0 : decode cX7_isKeptLine 0 = .ok (.iconst 0, 1) := by decide +kernel
theorem dX7_isKeptLine_1 : decode cX7_isKeptLine 1 = .ok (.istore_n 3, 1) := by decide +kernel
theorem dX7_isKeptLine_2 : decode cX7_isKeptLine 2 = .ok (.iconst 0, 1) := by decide +kernel
theorem dX7_isKeptLine_3 : decode cX7_isKeptLine 3 = .ok (.istore 4, 2) := by decide +kernel
theorem dX7_isKeptLine_5 : decode cX7_isKeptLine 5 = .ok (.iload 4, 2) := by decide +kernel
theorem dX7_isKeptLine_7 : decode cX7_isKeptLine 7 = .ok (.aload_n 0, 1) := by decide +kernel
theorem dX7_isKeptLine_8 : decode cX7_isKeptLine 8 = .ok (.getfield 7, 3) := by decide +kernel
theorem dX7_isKeptLine_11 : decode cX7_isKeptLine 11 = .ok (.iload_n 1, 1) := by decide +kernel
theorem dX7_isKeptLine_12 : decode cX7_isKeptLine 12 = .ok (.sipush 1332, 3) := by decide +kernel
theorem dX7_isKeptLine_15 : decode cX7_isKeptLine 15 = .ok (.iadd, 1) := by decide +kernel
theorem dX7_isKeptLine_16 : decode cX7_isKeptLine 16 = .ok (.iaload, 1) := by decide +kernel
theorem dX7_isKeptLine_17 : decode cX7_isKeptLine 17 = .ok (.if_icmp .ge 64, 3) := by decide +kernel
theorem dX7_isKeptLine_20 : decode cX7_isKeptLine 20 = .ok (.iload_n 3, 1) := by decide +kernel
theorem dX7_isKeptLine_21 : decode cX7_isKeptLine 21 = .ok (.ifCond .ne 48, 3) := by decide +kernel
theorem dX7_isKeptLine_24 : decode cX7_isKeptLine 24 = .ok (.aload_n 0, 1) := by decide +kernel
theorem dX7_isKeptLine_25 : decode cX7_isKeptLine 25 = .ok (.getfield 7, 3) := by decide +kernel
theorem dX7_isKeptLine_28 : decode cX7_isKeptLine 28 = .ok (.iload_n 1, 1) := by decide +kernel
theorem dX7_isKeptLine_29 : decode cX7_isKeptLine 29 = .ok (.iload 4, 2) := by decide +kernel
theorem dX7_isKeptLine_31 : decode cX7_isKeptLine 31 = .ok (.iadd, 1) := by decide +kernel
theorem dX7_isKeptLine_32 : decode cX7_isKeptLine 32 = .ok (.iaload, 1) := by decide +kernel
theorem dX7_isKeptLine_33 : decode cX7_isKeptLine 33 = .ok (.iload_n 2, 1) := by decide +kernel
theorem dX7_isKeptLine_34 : decode cX7_isKeptLine 34 = .ok (.if_icmp .ne 39, 3) := by decide +kernel
theorem dX7_isKeptLine_37 : decode cX7_isKeptLine 37 = .ok (.aload_n 0, 1) := by decide +kernel
theorem dX7_isKeptLine_38 : decode cX7_isKeptLine 38 = .ok (.getfield 7, 3) := by decide +kernel
theorem dX7_isKeptLine_41 : decode cX7_isKeptLine 41 = .ok (.iload_n 1, 1) := by decide +kernel
theorem dX7_isKeptLine_42 : decode cX7_isKeptLine 42 = .ok (.bipush 40, 2) := by decide +kernel
theorem dX7_isKeptLine_44 : decode cX7_isKeptLine 44 = .ok (.iadd, 1) := by decide +kernel
theorem dX7_isKeptLine_45 : decode cX7_isKeptLine 45 = .ok (.iload 4, 2) := by decide +kernel
theorem dX7_isKeptLine_47 : decode cX7_isKeptLine 47 = .ok (.iadd, 1) := by decide +kernel
theorem dX7_isKeptLine_48 : decode cX7_isKeptLine 48 = .ok (.iaload, 1) := by decide +kernel
theorem dX7_isKeptLine_49 : decode cX7_isKeptLine 49 = .ok (.ifCond .ne 24, 3) := by decide +kernel
theorem dX7_isKeptLine_52 : decode cX7_isKeptLine 52 = .ok (.aload_n 0, 1) := by decide +kernel
theorem dX7_isKeptLine_53 : decode cX7_isKeptLine 53 = .ok (.getfield 7, 3) := by decide +kernel
theorem dX7_isKeptLine_56 : decode cX7_isKeptLine 56 = .ok (.iload_n 1, 1) := by decide +kernel
theorem dX7_isKeptLine_57 : decode cX7_isKeptLine 57 = .ok (.bipush 80, 2) := by decide +kernel
theorem dX7_isKeptLine_59 : decode cX7_isKeptLine 59 = .ok (.iadd, 1) := by decide +kernel
theorem dX7_isKeptLine_60 : decode cX7_isKeptLine 60 = .ok (.iload 4, 2) := by decide +kernel
theorem dX7_isKeptLine_62 : decode cX7_isKeptLine 62 = .ok (.iadd, 1) := by decide +kernel
theorem dX7_isKeptLine_63 : decode cX7_isKeptLine 63 = .ok (.iaload, 1) := by decide +kernel
theorem dX7_isKeptLine_64 : decode cX7_isKeptLine 64 = .ok (.bipush 9, 2) := by decide +kernel
theorem dX7_isKeptLine_66 : decode cX7_isKeptLine 66 = .ok (.if_icmp .ge 7, 3) := by decide +kernel
theorem dX7_isKeptLine_69 : decode cX7_isKeptLine 69 = .ok (.iconst 1, 1) := by decide +kernel
theorem dX7_isKeptLine_70 : decode cX7_isKeptLine 70 = .ok (.goto 4, 3) := by decide +kernel
theorem dX7_isKeptLine_73 : decode cX7_isKeptLine 73 = .ok (.iconst 0, 1) := by decide +kernel
theorem dX7_isKeptLine_74 : decode cX7_isKeptLine 74 = .ok (.istore_n 3, 1) := by decide +kernel
theorem dX7_isKeptLine_75 : decode cX7_isKeptLine 75 = .ok (.iinc 4 1, 3) := by decide +kernel
theorem dX7_isKeptLine_78 : decode cX7_isKeptLine 78 = .ok (.goto (-73), 3) := by decide +kernel
theorem dX7_isKeptLine_81 : decode cX7_isKeptLine 81 = .ok (.iconst 0, 1) := by decide +kernel
theorem dX7_isKeptLine_82 : decode cX7_isKeptLine 82 = .ok (.istore 4, 2) := by decide +kernel
theorem dX7_isKeptLine_84 : decode cX7_isKeptLine 84 = .ok (.iload 4, 2) := by decide +kernel
theorem dX7_isKeptLine_86 : decode cX7_isKeptLine 86 = .ok (.aload_n 0, 1) := by decide +kernel
theorem dX7_isKeptLine_87 : decode cX7_isKeptLine 87 = .ok (.getfield 29, 3) := by decide +kernel
theorem dX7_isKeptLine_90 : decode cX7_isKeptLine 90 = .ok (.iconst 1, 1) := by decide +kernel
theorem dX7_isKeptLine_91 : decode cX7_isKeptLine 91 = .ok (.iaload, 1) := by decide +kernel
theorem dX7_isKeptLine_92 : decode cX7_isKeptLine 92 = .ok (.if_icmp .ge 40, 3) := by decide +kernel
theorem dX7_isKeptLine_95 : decode cX7_isKeptLine 95 = .ok (.iload_n 3, 1) := by decide +kernel
theorem dX7_isKeptLine_96 : decode cX7_isKeptLine 96 = .ok (.ifCond .ne 24, 3) := by decide +kernel
theorem dX7_isKeptLine_99 : decode cX7_isKeptLine 99 = .ok (.aload_n 0, 1) := by decide +kernel
theorem dX7_isKeptLine_100 : decode cX7_isKeptLine 100 = .ok (.getfield 7, 3) := by decide +kernel
theorem dX7_isKeptLine_103 : decode cX7_isKeptLine 103 = .ok (.iload_n 1, 1) := by decide +kernel
theorem dX7_isKeptLine_104 : decode cX7_isKeptLine 104 = .ok (.sipush 160, 3) := by decide +kernel
theorem dX7_isKeptLine_107 : decode cX7_isKeptLine 107 = .ok (.iadd, 1) := by decide +kernel
theorem dX7_isKeptLine_108 : decode cX7_isKeptLine 108 = .ok (.bipush 16, 2) := by decide +kernel
theorem dX7_isKeptLine_110 : decode cX7_isKeptLine 110 = .ok (.iload 4, 2) := by decide +kernel
theorem dX7_isKeptLine_112 : decode cX7_isKeptLine 112 = .ok (.imul, 1) := by decide +kernel
theorem dX7_isKeptLine_113 : decode cX7_isKeptLine 113 = .ok (.iadd, 1) := by decide +kernel
theorem dX7_isKeptLine_114 : decode cX7_isKeptLine 114 = .ok (.iload_n 2, 1) := by decide +kernel
theorem dX7_isKeptLine_115 : decode cX7_isKeptLine 115 = .ok (.iadd, 1) := by decide +kernel
theorem dX7_isKeptLine_116 : decode cX7_isKeptLine 116 = .ok (.iaload, 1) := by decide +kernel
theorem dX7_isKeptLine_117 : decode cX7_isKeptLine 117 = .ok (.ifCond .ne 7, 3) := by decide +kernel
theorem dX7_isKeptLine_120 : decode cX7_isKeptLine 120 = .ok (.iconst 1, 1) := by decide +kernel
theorem dX7_isKeptLine_121 : decode cX7_isKeptLine 121 = .ok (.goto 4, 3) := by decide +kernel
theorem dX7_isKeptLine_124 : decode cX7_isKeptLine 124 = .ok (.iconst 0, 1) := by decide +kernel
theorem dX7_isKeptLine_125 : decode cX7_isKeptLine 125 = .ok (.istore_n 3, 1) := by decide +kernel
theorem dX7_isKeptLine_126 : decode cX7_isKeptLine 126 = .ok (.iinc 4 1, 3) := by decide +kernel
theorem dX7_isKeptLine_129 : decode cX7_isKeptLine 129 = .ok (.goto (-45), 3) := by decide +kernel
theorem dX7_isKeptLine_132 : decode cX7_isKeptLine 132 = .ok (.iload_n 3, 1) := by decide +kernel
theorem dX7_isKeptLine_133 : decode cX7_isKeptLine 133 = .ok (.ireturn, 1) := by decide +kernel
theorem dX7_keptMany_0 : decode cX7_keptMany 0 = .ok (.iconst 0, 1) := by decide +kernel
theorem dX7_keptMany_1 : decode cX7_keptMany 1 = .ok (.istore_n 2, 1) := by decide +kernel
theorem dX7_keptMany_2 : decode cX7_keptMany 2 = .ok (.iconst 0, 1) := by decide +kernel
theorem dX7_keptMany_3 : decode cX7_keptMany 3 = .ok (.istore_n 3, 1) := by decide +kernel
theorem dX7_keptMany_4 : decode cX7_keptMany 4 = .ok (.iload_n 3, 1) := by decide +kernel
theorem dX7_keptMany_5 : decode cX7_keptMany 5 = .ok (.aload_n 0, 1) := by decide +kernel
theorem dX7_keptMany_6 : decode cX7_keptMany 6 = .ok (.getfield 29, 3) := by decide +kernel
theorem dX7_keptMany_9 : decode cX7_keptMany 9 = .ok (.iconst 0, 1) := by decide +kernel
theorem dX7_keptMany_10 : decode cX7_keptMany 10 = .ok (.iaload, 1) := by decide +kernel
theorem dX7_keptMany_11 : decode cX7_keptMany 11 = .ok (.if_icmp .ge 21, 3) := by decide +kernel
theorem dX7_keptMany_14 : decode cX7_keptMany 14 = .ok (.iload_n 2, 1) := by decide +kernel
theorem dX7_keptMany_15 : decode cX7_keptMany 15 = .ok (.aload_n 0, 1) := by decide +kernel
theorem dX7_keptMany_16 : decode cX7_keptMany 16 = .ok (.iload_n 1, 1) := by decide +kernel
theorem dX7_keptMany_17 : decode cX7_keptMany 17 = .ok (.iload_n 3, 1) := by decide +kernel
theorem dX7_keptMany_18 : decode cX7_keptMany 18 = .ok (.invokevirtual 137, 3) := by decide +kernel
theorem dX7_keptMany_21 : decode cX7_keptMany 21 = .ok (.invokestatic 141, 3) := by decide +kernel
theorem dX7_keptMany_24 : decode cX7_keptMany 24 = .ok (.iadd, 1) := by decide +kernel
theorem dX7_keptMany_25 : decode cX7_keptMany 25 = .ok (.istore_n 2, 1) := by decide +kernel
theorem dX7_keptMany_26 : decode cX7_keptMany 26 = .ok (.iinc 3 1, 3) := by decide +kernel
theorem dX7_keptMany_29 : decode cX7_keptMany 29 = .ok (.goto (-25), 3) := by decide +kernel
theorem dX7_keptMany_32 : decode cX7_keptMany 32 = .ok (.iload_n 2, 1) := by decide +kernel
theorem dX7_keptMany_33 : decode cX7_keptMany 33 = .ok (.ireturn, 1) := by decide +kernel
theorem dX7_told_0 : decode cX7_told 0 = .ok (.iload_n 1, 1) := by decide +kernel
theorem dX7_told_1 : decode cX7_told 1 = .ok (.tableswitch 122 0 9 #[55, 62, 69, 78, 83, 92, 97, 102, 111, 116], 55) := by decide +kernel
theorem dX7_told_56 : decode cX7_told 56 = .ok (.aload_n 0, 1) := by decide +kernel
theorem dX7_told_57 : decode cX7_told 57 = .ok (.getfield 29, 3) := by decide +kernel
theorem dX7_told_60 : decode cX7_told 60 = .ok (.iconst 0, 1) := by decide +kernel
theorem dX7_told_61 : decode cX7_told 61 = .ok (.iaload, 1) := by decide +kernel
theorem dX7_told_62 : decode cX7_told 62 = .ok (.ireturn, 1) := by decide +kernel
theorem dX7_told_63 : decode cX7_told 63 = .ok (.aload_n 0, 1) := by decide +kernel
theorem dX7_told_64 : decode cX7_told 64 = .ok (.getfield 29, 3) := by decide +kernel
theorem dX7_told_67 : decode cX7_told 67 = .ok (.iconst 1, 1) := by decide +kernel
theorem dX7_told_68 : decode cX7_told 68 = .ok (.iaload, 1) := by decide +kernel
theorem dX7_told_69 : decode cX7_told 69 = .ok (.ireturn, 1) := by decide +kernel
theorem dX7_told_70 : decode cX7_told 70 = .ok (.aload_n 0, 1) := by decide +kernel
theorem dX7_told_71 : decode cX7_told 71 = .ok (.getfield 7, 3) := by decide +kernel
theorem dX7_told_74 : decode cX7_told 74 = .ok (.sipush 1332, 3) := by decide +kernel
theorem dX7_told_77 : decode cX7_told 77 = .ok (.iaload, 1) := by decide +kernel
theorem dX7_told_78 : decode cX7_told 78 = .ok (.ireturn, 1) := by decide +kernel
theorem dX7_told_79 : decode cX7_told 79 = .ok (.aload_n 0, 1) := by decide +kernel
theorem dX7_told_80 : decode cX7_told 80 = .ok (.getfield 131, 3) := by decide +kernel
theorem dX7_told_83 : decode cX7_told 83 = .ok (.ireturn, 1) := by decide +kernel
theorem dX7_told_84 : decode cX7_told 84 = .ok (.aload_n 0, 1) := by decide +kernel
theorem dX7_told_85 : decode cX7_told 85 = .ok (.getfield 7, 3) := by decide +kernel
theorem dX7_told_88 : decode cX7_told 88 = .ok (.sipush 1333, 3) := by decide +kernel
theorem dX7_told_91 : decode cX7_told 91 = .ok (.iaload, 1) := by decide +kernel
theorem dX7_told_92 : decode cX7_told 92 = .ok (.ireturn, 1) := by decide +kernel
theorem dX7_told_93 : decode cX7_told 93 = .ok (.aload_n 0, 1) := by decide +kernel
theorem dX7_told_94 : decode cX7_told 94 = .ok (.getfield 134, 3) := by decide +kernel
theorem dX7_told_97 : decode cX7_told 97 = .ok (.ireturn, 1) := by decide +kernel
theorem dX7_told_98 : decode cX7_told 98 = .ok (.aload_n 0, 1) := by decide +kernel
theorem dX7_told_99 : decode cX7_told 99 = .ok (.getfield 64, 3) := by decide +kernel
theorem dX7_told_102 : decode cX7_told 102 = .ok (.ireturn, 1) := by decide +kernel
theorem dX7_told_103 : decode cX7_told 103 = .ok (.aload_n 0, 1) := by decide +kernel
theorem dX7_told_104 : decode cX7_told 104 = .ok (.getfield 7, 3) := by decide +kernel
theorem dX7_told_107 : decode cX7_told 107 = .ok (.sipush 1334, 3) := by decide +kernel
theorem dX7_told_110 : decode cX7_told 110 = .ok (.iaload, 1) := by decide +kernel
theorem dX7_told_111 : decode cX7_told 111 = .ok (.ireturn, 1) := by decide +kernel
theorem dX7_told_112 : decode cX7_told 112 = .ok (.aload_n 0, 1) := by decide +kernel
theorem dX7_told_113 : decode cX7_told 113 = .ok (.getfield 32, 3) := by decide +kernel
theorem dX7_told_116 : decode cX7_told 116 = .ok (.ireturn, 1) := by decide +kernel
theorem dX7_told_117 : decode cX7_told 117 = .ok (.aload_n 0, 1) := by decide +kernel
theorem dX7_told_118 : decode cX7_told 118 = .ok (.iconst 0, 1) := by decide +kernel
theorem dX7_told_119 : decode cX7_told 119 = .ok (.invokevirtual 145, 3) := by decide +kernel
theorem dX7_told_122 : decode cX7_told 122 = .ok (.ireturn, 1) := by decide +kernel
theorem dX7_told_123 : decode cX7_told 123 = .ok (.ldc 63, 2) := by decide +kernel
theorem dX7_told_125 : decode cX7_told 125 = .ok (.ireturn, 1) := by decide +kernel
theorem dX7_pagesOf_0 : decode cX7_pagesOf 0 = .ok (.iconst 0, 1) := by decide +kernel
theorem dX7_pagesOf_1 : decode cX7_pagesOf 1 = .ok (.istore_n 2, 1) := by decide +kernel
theorem dX7_pagesOf_2 : decode cX7_pagesOf 2 = .ok (.iconst 0, 1) := by decide +kernel
theorem dX7_pagesOf_3 : decode cX7_pagesOf 3 = .ok (.istore_n 3, 1) := by decide +kernel
theorem dX7_pagesOf_4 : decode cX7_pagesOf 4 = .ok (.iload_n 3, 1) := by decide +kernel
theorem dX7_pagesOf_5 : decode cX7_pagesOf 5 = .ok (.aload_n 0, 1) := by decide +kernel
theorem dX7_pagesOf_6 : decode cX7_pagesOf 6 = .ok (.getfield 7, 3) := by decide +kernel
theorem dX7_pagesOf_9 : decode cX7_pagesOf 9 = .ok (.sipush 1332, 3) := by decide +kernel
theorem dX7_pagesOf_12 : decode cX7_pagesOf 12 = .ok (.iaload, 1) := by decide +kernel
theorem dX7_pagesOf_13 : decode cX7_pagesOf 13 = .ok (.if_icmp .ge 44, 3) := by decide +kernel
theorem dX7_pagesOf_16 : decode cX7_pagesOf 16 = .ok (.iload_n 2, 1) := by decide +kernel
theorem dX7_pagesOf_17 : decode cX7_pagesOf 17 = .ok (.aload_n 0, 1) := by decide +kernel
theorem dX7_pagesOf_18 : decode cX7_pagesOf 18 = .ok (.getfield 7, 3) := by decide +kernel
theorem dX7_pagesOf_21 : decode cX7_pagesOf 21 = .ok (.iload_n 3, 1) := by decide +kernel
theorem dX7_pagesOf_22 : decode cX7_pagesOf 22 = .ok (.iaload, 1) := by decide +kernel
theorem dX7_pagesOf_23 : decode cX7_pagesOf 23 = .ok (.iload_n 1, 1) := by decide +kernel
theorem dX7_pagesOf_24 : decode cX7_pagesOf 24 = .ok (.if_icmp .ne 21, 3) := by decide +kernel
theorem dX7_pagesOf_27 : decode cX7_pagesOf 27 = .ok (.aload_n 0, 1) := by decide +kernel
theorem dX7_pagesOf_28 : decode cX7_pagesOf 28 = .ok (.getfield 7, 3) := by decide +kernel
theorem dX7_pagesOf_31 : decode cX7_pagesOf 31 = .ok (.bipush 80, 2) := by decide +kernel
theorem dX7_pagesOf_33 : decode cX7_pagesOf 33 = .ok (.iload_n 3, 1) := by decide +kernel
theorem dX7_pagesOf_34 : decode cX7_pagesOf 34 = .ok (.iadd, 1) := by decide +kernel
theorem dX7_pagesOf_35 : decode cX7_pagesOf 35 = .ok (.iaload, 1) := by decide +kernel
theorem dX7_pagesOf_36 : decode cX7_pagesOf 36 = .ok (.bipush 9, 2) := by decide +kernel
theorem dX7_pagesOf_38 : decode cX7_pagesOf 38 = .ok (.if_icmp .ge 7, 3) := by decide +kernel
theorem dX7_pagesOf_41 : decode cX7_pagesOf 41 = .ok (.iconst 1, 1) := by decide +kernel
theorem dX7_pagesOf_42 : decode cX7_pagesOf 42 = .ok (.goto 4, 3) := by decide +kernel
theorem dX7_pagesOf_45 : decode cX7_pagesOf 45 = .ok (.iconst 0, 1) := by decide +kernel
theorem dX7_pagesOf_46 : decode cX7_pagesOf 46 = .ok (.invokestatic 141, 3) := by decide +kernel
theorem dX7_pagesOf_49 : decode cX7_pagesOf 49 = .ok (.iadd, 1) := by decide +kernel
theorem dX7_pagesOf_50 : decode cX7_pagesOf 50 = .ok (.istore_n 2, 1) := by decide +kernel
theorem dX7_pagesOf_51 : decode cX7_pagesOf 51 = .ok (.iinc 3 1, 3) := by decide +kernel
theorem dX7_pagesOf_54 : decode cX7_pagesOf 54 = .ok (.goto (-50), 3) := by decide +kernel
theorem dX7_pagesOf_57 : decode cX7_pagesOf 57 = .ok (.iload_n 2, 1) := by decide +kernel
theorem dX7_pagesOf_58 : decode cX7_pagesOf 58 = .ok (.ireturn, 1) := by decide +kernel
theorem dX7_knowers_0 : decode cX7_knowers 0 = .ok (.iconst 0, 1) := by decide +kernel
theorem dX7_knowers_1 : decode cX7_knowers 1 = .ok (.istore_n 2, 1) := by decide +kernel
theorem dX7_knowers_2 : decode cX7_knowers 2 = .ok (.iconst 0, 1) := by decide +kernel
theorem dX7_knowers_3 : decode cX7_knowers 3 = .ok (.istore_n 3, 1) := by decide +kernel
theorem dX7_knowers_4 : decode cX7_knowers 4 = .ok (.iload_n 3, 1) := by decide +kernel
theorem dX7_knowers_5 : decode cX7_knowers 5 = .ok (.aload_n 0, 1) := by decide +kernel
theorem dX7_knowers_6 : decode cX7_knowers 6 = .ok (.getfield 29, 3) := by decide +kernel
theorem dX7_knowers_9 : decode cX7_knowers 9 = .ok (.iconst 1, 1) := by decide +kernel
theorem dX7_knowers_10 : decode cX7_knowers 10 = .ok (.iaload, 1) := by decide +kernel
theorem dX7_knowers_11 : decode cX7_knowers 11 = .ok (.if_icmp .ge 40, 3) := by decide +kernel
theorem dX7_knowers_14 : decode cX7_knowers 14 = .ok (.iload_n 2, 1) := by decide +kernel
theorem dX7_knowers_15 : decode cX7_knowers 15 = .ok (.aload_n 0, 1) := by decide +kernel
theorem dX7_knowers_16 : decode cX7_knowers 16 = .ok (.getfield 7, 3) := by decide +kernel
theorem dX7_knowers_19 : decode cX7_knowers 19 = .ok (.sipush 160, 3) := by decide +kernel
theorem dX7_knowers_22 : decode cX7_knowers 22 = .ok (.bipush 16, 2) := by decide +kernel
theorem dX7_knowers_24 : decode cX7_knowers 24 = .ok (.iload_n 3, 1) := by decide +kernel
theorem dX7_knowers_25 : decode cX7_knowers 25 = .ok (.imul, 1) := by decide +kernel
theorem dX7_knowers_26 : decode cX7_knowers 26 = .ok (.iadd, 1) := by decide +kernel
theorem dX7_knowers_27 : decode cX7_knowers 27 = .ok (.iload_n 1, 1) := by decide +kernel
theorem dX7_knowers_28 : decode cX7_knowers 28 = .ok (.iadd, 1) := by decide +kernel
theorem dX7_knowers_29 : decode cX7_knowers 29 = .ok (.iaload, 1) := by decide +kernel
theorem dX7_knowers_30 : decode cX7_knowers 30 = .ok (.ifCond .lt 7, 3) := by decide +kernel
theorem dX7_knowers_33 : decode cX7_knowers 33 = .ok (.iconst 1, 1) := by decide +kernel
theorem dX7_knowers_34 : decode cX7_knowers 34 = .ok (.goto 4, 3) := by decide +kernel
theorem dX7_knowers_37 : decode cX7_knowers 37 = .ok (.iconst 0, 1) := by decide +kernel
theorem dX7_knowers_38 : decode cX7_knowers 38 = .ok (.invokestatic 141, 3) := by decide +kernel
theorem dX7_knowers_41 : decode cX7_knowers 41 = .ok (.iload_n 3, 1) := by decide +kernel
theorem dX7_knowers_42 : decode cX7_knowers 42 = .ok (.ishl, 1) := by decide +kernel
theorem dX7_knowers_43 : decode cX7_knowers 43 = .ok (.ior, 1) := by decide +kernel
theorem dX7_knowers_44 : decode cX7_knowers 44 = .ok (.istore_n 2, 1) := by decide +kernel
theorem dX7_knowers_45 : decode cX7_knowers 45 = .ok (.iinc 3 1, 3) := by decide +kernel
theorem dX7_knowers_48 : decode cX7_knowers 48 = .ok (.goto (-44), 3) := by decide +kernel
theorem dX7_knowers_51 : decode cX7_knowers 51 = .ok (.iload_n 2, 1) := by decide +kernel
theorem dX7_knowers_52 : decode cX7_knowers 52 = .ok (.ireturn, 1) := by decide +kernel
theorem dX7_votesFor_0 : decode cX7_votesFor 0 = .ok (.iconst 0, 1) := by decide +kernel
theorem dX7_votesFor_1 : decode cX7_votesFor 1 = .ok (.istore_n 3, 1) := by decide +kernel
theorem dX7_votesFor_2 : decode cX7_votesFor 2 = .ok (.iconst 0, 1) := by decide +kernel
theorem dX7_votesFor_3 : decode cX7_votesFor 3 = .ok (.istore 4, 2) := by decide +kernel
theorem dX7_votesFor_5 : decode cX7_votesFor 5 = .ok (.iload 4, 2) := by decide +kernel
theorem dX7_votesFor_7 : decode cX7_votesFor 7 = .ok (.aload_n 0, 1) := by decide +kernel
theorem dX7_votesFor_8 : decode cX7_votesFor 8 = .ok (.getfield 7, 3) := by decide +kernel
theorem dX7_votesFor_11 : decode cX7_votesFor 11 = .ok (.sipush 1332, 3) := by decide +kernel
theorem dX7_votesFor_14 : decode cX7_votesFor 14 = .ok (.iaload, 1) := by decide +kernel
theorem dX7_votesFor_15 : decode cX7_votesFor 15 = .ok (.if_icmp .ge 60, 3) := by decide +kernel
theorem dX7_votesFor_18 : decode cX7_votesFor 18 = .ok (.iload_n 3, 1) := by decide +kernel
theorem dX7_votesFor_19 : decode cX7_votesFor 19 = .ok (.aload_n 0, 1) := by decide +kernel
theorem dX7_votesFor_20 : decode cX7_votesFor 20 = .ok (.getfield 7, 3) := by decide +kernel
theorem dX7_votesFor_23 : decode cX7_votesFor 23 = .ok (.iload 4, 2) := by decide +kernel
theorem dX7_votesFor_25 : decode cX7_votesFor 25 = .ok (.iaload, 1) := by decide +kernel
theorem dX7_votesFor_26 : decode cX7_votesFor 26 = .ok (.iload_n 1, 1) := by decide +kernel
theorem dX7_votesFor_27 : decode cX7_votesFor 27 = .ok (.if_icmp .ne 36, 3) := by decide +kernel
theorem dX7_votesFor_30 : decode cX7_votesFor 30 = .ok (.aload_n 0, 1) := by decide +kernel
theorem dX7_votesFor_31 : decode cX7_votesFor 31 = .ok (.getfield 7, 3) := by decide +kernel
theorem dX7_votesFor_34 : decode cX7_votesFor 34 = .ok (.bipush 80, 2) := by decide +kernel
theorem dX7_votesFor_36 : decode cX7_votesFor 36 = .ok (.iload 4, 2) := by decide +kernel
theorem dX7_votesFor_38 : decode cX7_votesFor 38 = .ok (.iadd, 1) := by decide +kernel
theorem dX7_votesFor_39 : decode cX7_votesFor 39 = .ok (.iaload, 1) := by decide +kernel
theorem dX7_votesFor_40 : decode cX7_votesFor 40 = .ok (.bipush 9, 2) := by decide +kernel
theorem dX7_votesFor_42 : decode cX7_votesFor 42 = .ok (.if_icmp .ge 21, 3) := by decide +kernel
theorem dX7_votesFor_45 : decode cX7_votesFor 45 = .ok (.aload_n 0, 1) := by decide +kernel
theorem dX7_votesFor_46 : decode cX7_votesFor 46 = .ok (.getfield 7, 3) := by decide +kernel
theorem dX7_votesFor_49 : decode cX7_votesFor 49 = .ok (.bipush 40, 2) := by decide +kernel
theorem dX7_votesFor_51 : decode cX7_votesFor 51 = .ok (.iload 4, 2) := by decide +kernel
theorem dX7_votesFor_53 : decode cX7_votesFor 53 = .ok (.iadd, 1) := by decide +kernel
theorem dX7_votesFor_54 : decode cX7_votesFor 54 = .ok (.iaload, 1) := by decide +kernel
theorem dX7_votesFor_55 : decode cX7_votesFor 55 = .ok (.iload_n 2, 1) := by decide +kernel
theorem dX7_votesFor_56 : decode cX7_votesFor 56 = .ok (.if_icmp .ne 7, 3) := by decide +kernel
theorem dX7_votesFor_59 : decode cX7_votesFor 59 = .ok (.iconst 1, 1) := by decide +kernel
theorem dX7_votesFor_60 : decode cX7_votesFor 60 = .ok (.goto 4, 3) := by decide +kernel
theorem dX7_votesFor_63 : decode cX7_votesFor 63 = .ok (.iconst 0, 1) := by decide +kernel
theorem dX7_votesFor_64 : decode cX7_votesFor 64 = .ok (.invokestatic 141, 3) := by decide +kernel
theorem dX7_votesFor_67 : decode cX7_votesFor 67 = .ok (.iadd, 1) := by decide +kernel
theorem dX7_votesFor_68 : decode cX7_votesFor 68 = .ok (.istore_n 3, 1) := by decide +kernel
theorem dX7_votesFor_69 : decode cX7_votesFor 69 = .ok (.iinc 4 1, 3) := by decide +kernel
theorem dX7_votesFor_72 : decode cX7_votesFor 72 = .ok (.goto (-67), 3) := by decide +kernel
theorem dX7_votesFor_75 : decode cX7_votesFor 75 = .ok (.iconst 0, 1) := by decide +kernel
theorem dX7_votesFor_76 : decode cX7_votesFor 76 = .ok (.istore 4, 2) := by decide +kernel
theorem dX7_votesFor_78 : decode cX7_votesFor 78 = .ok (.iload 4, 2) := by decide +kernel
theorem dX7_votesFor_80 : decode cX7_votesFor 80 = .ok (.aload_n 0, 1) := by decide +kernel
theorem dX7_votesFor_81 : decode cX7_votesFor 81 = .ok (.getfield 29, 3) := by decide +kernel
theorem dX7_votesFor_84 : decode cX7_votesFor 84 = .ok (.iconst 1, 1) := by decide +kernel
theorem dX7_votesFor_85 : decode cX7_votesFor 85 = .ok (.iaload, 1) := by decide +kernel
theorem dX7_votesFor_86 : decode cX7_votesFor 86 = .ok (.if_icmp .ge 40, 3) := by decide +kernel
theorem dX7_votesFor_89 : decode cX7_votesFor 89 = .ok (.iload_n 3, 1) := by decide +kernel
theorem dX7_votesFor_90 : decode cX7_votesFor 90 = .ok (.aload_n 0, 1) := by decide +kernel
theorem dX7_votesFor_91 : decode cX7_votesFor 91 = .ok (.getfield 7, 3) := by decide +kernel
theorem dX7_votesFor_94 : decode cX7_votesFor 94 = .ok (.sipush 160, 3) := by decide +kernel
theorem dX7_votesFor_97 : decode cX7_votesFor 97 = .ok (.bipush 16, 2) := by decide +kernel
theorem dX7_votesFor_99 : decode cX7_votesFor 99 = .ok (.iload 4, 2) := by decide +kernel
theorem dX7_votesFor_101 : decode cX7_votesFor 101 = .ok (.imul, 1) := by decide +kernel
theorem dX7_votesFor_102 : decode cX7_votesFor 102 = .ok (.iadd, 1) := by decide +kernel
theorem dX7_votesFor_103 : decode cX7_votesFor 103 = .ok (.iload_n 1, 1) := by decide +kernel
theorem dX7_votesFor_104 : decode cX7_votesFor 104 = .ok (.iadd, 1) := by decide +kernel
theorem dX7_votesFor_105 : decode cX7_votesFor 105 = .ok (.iaload, 1) := by decide +kernel
theorem dX7_votesFor_106 : decode cX7_votesFor 106 = .ok (.iload_n 2, 1) := by decide +kernel
theorem dX7_votesFor_107 : decode cX7_votesFor 107 = .ok (.if_icmp .ne 7, 3) := by decide +kernel
theorem dX7_votesFor_110 : decode cX7_votesFor 110 = .ok (.iconst 1, 1) := by decide +kernel
theorem dX7_votesFor_111 : decode cX7_votesFor 111 = .ok (.goto 4, 3) := by decide +kernel
theorem dX7_votesFor_114 : decode cX7_votesFor 114 = .ok (.iconst 0, 1) := by decide +kernel
theorem dX7_votesFor_115 : decode cX7_votesFor 115 = .ok (.invokestatic 141, 3) := by decide +kernel
theorem dX7_votesFor_118 : decode cX7_votesFor 118 = .ok (.iadd, 1) := by decide +kernel
theorem dX7_votesFor_119 : decode cX7_votesFor 119 = .ok (.istore_n 3, 1) := by decide +kernel
theorem dX7_votesFor_120 : decode cX7_votesFor 120 = .ok (.iinc 4 1, 3) := by decide +kernel
theorem dX7_votesFor_123 : decode cX7_votesFor 123 = .ok (.goto (-45), 3) := by decide +kernel
theorem dX7_votesFor_126 : decode cX7_votesFor 126 = .ok (.iload_n 3, 1) := by decide +kernel
theorem dX7_votesFor_127 : decode cX7_votesFor 127 = .ok (.ireturn, 1) := by decide +kernel
theorem dX7_vote_0 : decode cX7_vote 0 = .ok (.aload_n 0, 1) := by decide +kernel
theorem dX7_vote_1 : decode cX7_vote 1 = .ok (.iload_n 1, 1) := by decide +kernel
theorem dX7_vote_2 : decode cX7_vote 2 = .ok (.invokevirtual 149, 3) := by decide +kernel
theorem dX7_vote_5 : decode cX7_vote 5 = .ok (.aload_n 0, 1) := by decide +kernel
theorem dX7_vote_6 : decode cX7_vote 6 = .ok (.iload_n 1, 1) := by decide +kernel
theorem dX7_vote_7 : decode cX7_vote 7 = .ok (.invokevirtual 152, 3) := by decide +kernel
theorem dX7_vote_10 : decode cX7_vote 10 = .ok (.invokestatic 155, 3) := by decide +kernel
theorem dX7_vote_13 : decode cX7_vote 13 = .ok (.iadd, 1) := by decide +kernel
theorem dX7_vote_14 : decode cX7_vote 14 = .ok (.istore_n 2, 1) := by decide +kernel
theorem dX7_vote_15 : decode cX7_vote 15 = .ok (.iconst (-1), 1) := by decide +kernel
theorem dX7_vote_16 : decode cX7_vote 16 = .ok (.istore_n 3, 1) := by decide +kernel
theorem dX7_vote_17 : decode cX7_vote 17 = .ok (.iconst 0, 1) := by decide +kernel
theorem dX7_vote_18 : decode cX7_vote 18 = .ok (.istore 4, 2) := by decide +kernel
theorem dX7_vote_20 : decode cX7_vote 20 = .ok (.iload 4, 2) := by decide +kernel
theorem dX7_vote_22 : decode cX7_vote 22 = .ok (.bipush 40, 2) := by decide +kernel
theorem dX7_vote_24 : decode cX7_vote 24 = .ok (.if_icmp .gt 29, 3) := by decide +kernel
theorem dX7_vote_27 : decode cX7_vote 27 = .ok (.iconst 2, 1) := by decide +kernel
theorem dX7_vote_28 : decode cX7_vote 28 = .ok (.aload_n 0, 1) := by decide +kernel
theorem dX7_vote_29 : decode cX7_vote 29 = .ok (.iload_n 1, 1) := by decide +kernel
theorem dX7_vote_30 : decode cX7_vote 30 = .ok (.iload 4, 2) := by decide +kernel
theorem dX7_vote_32 : decode cX7_vote 32 = .ok (.invokevirtual 158, 3) := by decide +kernel
theorem dX7_vote_35 : decode cX7_vote 35 = .ok (.imul, 1) := by decide +kernel
theorem dX7_vote_36 : decode cX7_vote 36 = .ok (.iload_n 2, 1) := by decide +kernel
theorem dX7_vote_37 : decode cX7_vote 37 = .ok (.if_icmp .le 8, 3) := by decide +kernel
theorem dX7_vote_40 : decode cX7_vote 40 = .ok (.iload 4, 2) := by decide +kernel
theorem dX7_vote_42 : decode cX7_vote 42 = .ok (.goto 4, 3) := by decide +kernel
theorem dX7_vote_45 : decode cX7_vote 45 = .ok (.iload_n 3, 1) := by decide +kernel
theorem dX7_vote_46 : decode cX7_vote 46 = .ok (.istore_n 3, 1) := by decide +kernel
theorem dX7_vote_47 : decode cX7_vote 47 = .ok (.iinc 4 1, 3) := by decide +kernel
theorem dX7_vote_50 : decode cX7_vote 50 = .ok (.goto (-30), 3) := by decide +kernel
theorem dX7_vote_53 : decode cX7_vote 53 = .ok (.iload_n 3, 1) := by decide +kernel
theorem dX7_vote_54 : decode cX7_vote 54 = .ok (.ireturn, 1) := by decide +kernel
theorem dX7_line_0 : decode cX7_line 0 = .ok (.aload_n 0, 1) := by decide +kernel
theorem dX7_line_1 : decode cX7_line 1 = .ok (.iload_n 1, 1) := by decide +kernel
theorem dX7_line_2 : decode cX7_line 2 = .ok (.invokevirtual 161, 3) := by decide +kernel
theorem dX7_line_5 : decode cX7_line 5 = .ok (.ifCond .ne 6, 3) := by decide +kernel
theorem dX7_line_8 : decode cX7_line 8 = .ok (.ldc 165, 2) := by decide +kernel
theorem dX7_line_10 : decode cX7_line 10 = .ok (.ireturn, 1) := by decide +kernel
theorem dX7_line_11 : decode cX7_line 11 = .ok (.iload_n 2, 1) := by decide +kernel
theorem dX7_line_12 : decode cX7_line 12 = .ok (.tableswitch 86 0 5 #[40, 47, 57, 63, 69, 75], 40) := by decide +kernel
theorem dX7_line_52 : decode cX7_line 52 = .ok (.aload_n 0, 1) := by decide +kernel
theorem dX7_line_53 : decode cX7_line 53 = .ok (.getfield 17, 3) := by decide +kernel
theorem dX7_line_56 : decode cX7_line 56 = .ok (.iload_n 1, 1) := by decide +kernel
theorem dX7_line_57 : decode cX7_line 57 = .ok (.iaload, 1) := by decide +kernel
theorem dX7_line_58 : decode cX7_line 58 = .ok (.ireturn, 1) := by decide +kernel
theorem dX7_line_59 : decode cX7_line 59 = .ok (.aload_n 0, 1) := by decide +kernel
theorem dX7_line_60 : decode cX7_line 60 = .ok (.iconst 0, 1) := by decide +kernel
theorem dX7_line_61 : decode cX7_line 61 = .ok (.iload_n 1, 1) := by decide +kernel
theorem dX7_line_62 : decode cX7_line 62 = .ok (.invokevirtual 137, 3) := by decide +kernel
theorem dX7_line_65 : decode cX7_line 65 = .ok (.invokestatic 141, 3) := by decide +kernel
theorem dX7_line_68 : decode cX7_line 68 = .ok (.ireturn, 1) := by decide +kernel
theorem dX7_line_69 : decode cX7_line 69 = .ok (.aload_n 0, 1) := by decide +kernel
theorem dX7_line_70 : decode cX7_line 70 = .ok (.iload_n 1, 1) := by decide +kernel
theorem dX7_line_71 : decode cX7_line 71 = .ok (.invokevirtual 149, 3) := by decide +kernel
theorem dX7_line_74 : decode cX7_line 74 = .ok (.ireturn, 1) := by decide +kernel
theorem dX7_line_75 : decode cX7_line 75 = .ok (.aload_n 0, 1) := by decide +kernel
theorem dX7_line_76 : decode cX7_line 76 = .ok (.iload_n 1, 1) := by decide +kernel
theorem dX7_line_77 : decode cX7_line 77 = .ok (.invokevirtual 152, 3) := by decide +kernel
theorem dX7_line_80 : decode cX7_line 80 = .ok (.ireturn, 1) := by decide +kernel
theorem dX7_line_81 : decode cX7_line 81 = .ok (.aload_n 0, 1) := by decide +kernel
theorem dX7_line_82 : decode cX7_line 82 = .ok (.iload_n 1, 1) := by decide +kernel
theorem dX7_line_83 : decode cX7_line 83 = .ok (.invokevirtual 166, 3) := by decide +kernel
theorem dX7_line_86 : decode cX7_line 86 = .ok (.ireturn, 1) := by decide +kernel
theorem dX7_line_87 : decode cX7_line 87 = .ok (.aload_n 0, 1) := by decide +kernel
theorem dX7_line_88 : decode cX7_line 88 = .ok (.getfield 7, 3) := by decide +kernel
theorem dX7_line_91 : decode cX7_line 91 = .ok (.sipush 416, 3) := by decide +kernel
theorem dX7_line_94 : decode cX7_line 94 = .ok (.iload_n 1, 1) := by decide +kernel
theorem dX7_line_95 : decode cX7_line 95 = .ok (.iadd, 1) := by decide +kernel
theorem dX7_line_96 : decode cX7_line 96 = .ok (.iaload, 1) := by decide +kernel
theorem dX7_line_97 : decode cX7_line 97 = .ok (.ireturn, 1) := by decide +kernel
theorem dX7_line_98 : decode cX7_line 98 = .ok (.ldc 63, 2) := by decide +kernel
theorem dX7_line_100 : decode cX7_line 100 = .ok (.ireturn, 1) := by decide +kernel
theorem dX7_knownBy_0 : decode cX7_knownBy 0 = .ok (.iconst 0, 1) := by decide +kernel
theorem dX7_knownBy_1 : decode cX7_knownBy 1 = .ok (.istore_n 2, 1) := by decide +kernel
theorem dX7_knownBy_2 : decode cX7_knownBy 2 = .ok (.iconst 0, 1) := by decide +kernel
theorem dX7_knownBy_3 : decode cX7_knownBy 3 = .ok (.istore_n 3, 1) := by decide +kernel
theorem dX7_knownBy_4 : decode cX7_knownBy 4 = .ok (.iload_n 3, 1) := by decide +kernel
theorem dX7_knownBy_5 : decode cX7_knownBy 5 = .ok (.aload_n 0, 1) := by decide +kernel
theorem dX7_knownBy_6 : decode cX7_knownBy 6 = .ok (.getfield 29, 3) := by decide +kernel
theorem dX7_knownBy_9 : decode cX7_knownBy 9 = .ok (.iconst 0, 1) := by decide +kernel
theorem dX7_knownBy_10 : decode cX7_knownBy 10 = .ok (.iaload, 1) := by decide +kernel
theorem dX7_knownBy_11 : decode cX7_knownBy 11 = .ok (.if_icmp .ge 38, 3) := by decide +kernel
theorem dX7_knownBy_14 : decode cX7_knownBy 14 = .ok (.iload_n 2, 1) := by decide +kernel
theorem dX7_knownBy_15 : decode cX7_knownBy 15 = .ok (.aload_n 0, 1) := by decide +kernel
theorem dX7_knownBy_16 : decode cX7_knownBy 16 = .ok (.getfield 7, 3) := by decide +kernel
theorem dX7_knownBy_19 : decode cX7_knownBy 19 = .ok (.sipush 160, 3) := by decide +kernel
theorem dX7_knownBy_22 : decode cX7_knownBy 22 = .ok (.bipush 16, 2) := by decide +kernel
theorem dX7_knownBy_24 : decode cX7_knownBy 24 = .ok (.iload_n 1, 1) := by decide +kernel
theorem dX7_knownBy_25 : decode cX7_knownBy 25 = .ok (.imul, 1) := by decide +kernel
theorem dX7_knownBy_26 : decode cX7_knownBy 26 = .ok (.iadd, 1) := by decide +kernel
theorem dX7_knownBy_27 : decode cX7_knownBy 27 = .ok (.iload_n 3, 1) := by decide +kernel
theorem dX7_knownBy_28 : decode cX7_knownBy 28 = .ok (.iadd, 1) := by decide +kernel
theorem dX7_knownBy_29 : decode cX7_knownBy 29 = .ok (.iaload, 1) := by decide +kernel
theorem dX7_knownBy_30 : decode cX7_knownBy 30 = .ok (.ifCond .lt 7, 3) := by decide +kernel
theorem dX7_knownBy_33 : decode cX7_knownBy 33 = .ok (.iconst 1, 1) := by decide +kernel
theorem dX7_knownBy_34 : decode cX7_knownBy 34 = .ok (.goto 4, 3) := by decide +kernel
theorem dX7_knownBy_37 : decode cX7_knownBy 37 = .ok (.iconst 0, 1) := by decide +kernel
theorem dX7_knownBy_38 : decode cX7_knownBy 38 = .ok (.invokestatic 141, 3) := by decide +kernel
theorem dX7_knownBy_41 : decode cX7_knownBy 41 = .ok (.iadd, 1) := by decide +kernel
theorem dX7_knownBy_42 : decode cX7_knownBy 42 = .ok (.istore_n 2, 1) := by decide +kernel
theorem dX7_knownBy_43 : decode cX7_knownBy 43 = .ok (.iinc 3 1, 3) := by decide +kernel
theorem dX7_knownBy_46 : decode cX7_knownBy 46 = .ok (.goto (-42), 3) := by decide +kernel
theorem dX7_knownBy_49 : decode cX7_knownBy 49 = .ok (.iload_n 2, 1) := by decide +kernel
theorem dX7_knownBy_50 : decode cX7_knownBy 50 = .ok (.ireturn, 1) := by decide +kernel
theorem dX7_reader_0 : decode cX7_reader 0 = .ok (.aload_n 0, 1) := by decide +kernel
theorem dX7_reader_1 : decode cX7_reader 1 = .ok (.iload_n 1, 1) := by decide +kernel
theorem dX7_reader_2 : decode cX7_reader 2 = .ok (.invokevirtual 169, 3) := by decide +kernel
theorem dX7_reader_5 : decode cX7_reader 5 = .ok (.ifCond .ne 6, 3) := by decide +kernel
theorem dX7_reader_8 : decode cX7_reader 8 = .ok (.ldc 165, 2) := by decide +kernel
theorem dX7_reader_10 : decode cX7_reader 10 = .ok (.ireturn, 1) := by decide +kernel
theorem dX7_reader_11 : decode cX7_reader 11 = .ok (.iload_n 2, 1) := by decide +kernel
theorem dX7_reader_12 : decode cX7_reader 12 = .ok (.ifCond .ne 12, 3) := by decide +kernel
theorem dX7_reader_15 : decode cX7_reader 15 = .ok (.aload_n 0, 1) := by decide +kernel
theorem dX7_reader_16 : decode cX7_reader 16 = .ok (.getfield 23, 3) := by decide +kernel
theorem dX7_reader_19 : decode cX7_reader 19 = .ok (.iload_n 1, 1) := by decide +kernel
theorem dX7_reader_20 : decode cX7_reader 20 = .ok (.iaload, 1) := by decide +kernel
theorem dX7_reader_21 : decode cX7_reader 21 = .ok (.goto 32, 3) := by decide +kernel
theorem dX7_reader_24 : decode cX7_reader 24 = .ok (.iload_n 2, 1) := by decide +kernel
theorem dX7_reader_25 : decode cX7_reader 25 = .ok (.iconst 1, 1) := by decide +kernel
theorem dX7_reader_26 : decode cX7_reader 26 = .ok (.if_icmp .ne 12, 3) := by decide +kernel
theorem dX7_reader_29 : decode cX7_reader 29 = .ok (.aload_n 0, 1) := by decide +kernel
theorem dX7_reader_30 : decode cX7_reader 30 = .ok (.getfield 26, 3) := by decide +kernel
theorem dX7_reader_33 : decode cX7_reader 33 = .ok (.iload_n 1, 1) := by decide +kernel
theorem dX7_reader_34 : decode cX7_reader 34 = .ok (.iaload, 1) := by decide +kernel
theorem dX7_reader_35 : decode cX7_reader 35 = .ok (.goto 18, 3) := by decide +kernel
theorem dX7_reader_38 : decode cX7_reader 38 = .ok (.iload_n 2, 1) := by decide +kernel
theorem dX7_reader_39 : decode cX7_reader 39 = .ok (.iconst 2, 1) := by decide +kernel
theorem dX7_reader_40 : decode cX7_reader 40 = .ok (.if_icmp .ne 11, 3) := by decide +kernel
theorem dX7_reader_43 : decode cX7_reader 43 = .ok (.aload_n 0, 1) := by decide +kernel
theorem dX7_reader_44 : decode cX7_reader 44 = .ok (.iload_n 1, 1) := by decide +kernel
theorem dX7_reader_45 : decode cX7_reader 45 = .ok (.invokevirtual 172, 3) := by decide +kernel
theorem dX7_reader_48 : decode cX7_reader 48 = .ok (.goto 5, 3) := by decide +kernel
theorem dX7_reader_51 : decode cX7_reader 51 = .ok (.ldc 63, 2) := by decide +kernel
theorem dX7_reader_53 : decode cX7_reader 53 = .ok (.ireturn, 1) := by decide +kernel
theorem dX7_readMany_0 : decode cX7_readMany 0 = .ok (.iconst 0, 1) := by decide +kernel
theorem dX7_readMany_1 : decode cX7_readMany 1 = .ok (.istore_n 2, 1) := by decide +kernel
theorem dX7_readMany_2 : decode cX7_readMany 2 = .ok (.iconst 0, 1) := by decide +kernel
theorem dX7_readMany_3 : decode cX7_readMany 3 = .ok (.istore_n 3, 1) := by decide +kernel
theorem dX7_readMany_4 : decode cX7_readMany 4 = .ok (.iload_n 3, 1) := by decide +kernel
theorem dX7_readMany_5 : decode cX7_readMany 5 = .ok (.aload_n 0, 1) := by decide +kernel
theorem dX7_readMany_6 : decode cX7_readMany 6 = .ok (.getfield 7, 3) := by decide +kernel
theorem dX7_readMany_9 : decode cX7_readMany 9 = .ok (.sipush 1333, 3) := by decide +kernel
theorem dX7_readMany_12 : decode cX7_readMany 12 = .ok (.iaload, 1) := by decide +kernel
theorem dX7_readMany_13 : decode cX7_readMany 13 = .ok (.if_icmp .ge 34, 3) := by decide +kernel
theorem dX7_readMany_16 : decode cX7_readMany 16 = .ok (.iload_n 2, 1) := by decide +kernel
theorem dX7_readMany_17 : decode cX7_readMany 17 = .ok (.aload_n 0, 1) := by decide +kernel
theorem dX7_readMany_18 : decode cX7_readMany 18 = .ok (.getfield 7, 3) := by decide +kernel
theorem dX7_readMany_21 : decode cX7_readMany 21 = .ok (.sipush 732, 3) := by decide +kernel
theorem dX7_readMany_24 : decode cX7_readMany 24 = .ok (.iload_n 3, 1) := by decide +kernel
theorem dX7_readMany_25 : decode cX7_readMany 25 = .ok (.iadd, 1) := by decide +kernel
theorem dX7_readMany_26 : decode cX7_readMany 26 = .ok (.iaload, 1) := by decide +kernel
theorem dX7_readMany_27 : decode cX7_readMany 27 = .ok (.iload_n 1, 1) := by decide +kernel
theorem dX7_readMany_28 : decode cX7_readMany 28 = .ok (.if_icmp .ne 7, 3) := by decide +kernel
theorem dX7_readMany_31 : decode cX7_readMany 31 = .ok (.iconst 1, 1) := by decide +kernel
theorem dX7_readMany_32 : decode cX7_readMany 32 = .ok (.goto 4, 3) := by decide +kernel
theorem dX7_readMany_35 : decode cX7_readMany 35 = .ok (.iconst 0, 1) := by decide +kernel
theorem dX7_readMany_36 : decode cX7_readMany 36 = .ok (.invokestatic 141, 3) := by decide +kernel
theorem dX7_readMany_39 : decode cX7_readMany 39 = .ok (.iadd, 1) := by decide +kernel
theorem dX7_readMany_40 : decode cX7_readMany 40 = .ok (.istore_n 2, 1) := by decide +kernel
theorem dX7_readMany_41 : decode cX7_readMany 41 = .ok (.iinc 3 1, 3) := by decide +kernel
theorem dX7_readMany_44 : decode cX7_readMany 44 = .ok (.goto (-40), 3) := by decide +kernel
theorem dX7_readMany_47 : decode cX7_readMany 47 = .ok (.iload_n 2, 1) := by decide +kernel
theorem dX7_readMany_48 : decode cX7_readMany 48 = .ok (.ireturn, 1) := by decide +kernel
theorem dX7_page_0 : decode cX7_page 0 = .ok (.aload_n 0, 1) := by decide +kernel
theorem dX7_page_1 : decode cX7_page 1 = .ok (.iload_n 1, 1) := by decide +kernel
theorem dX7_page_2 : decode cX7_page 2 = .ok (.invokevirtual 175, 3) := by decide +kernel
theorem dX7_page_5 : decode cX7_page 5 = .ok (.ifCond .ne 6, 3) := by decide +kernel
theorem dX7_page_8 : decode cX7_page 8 = .ok (.ldc 165, 2) := by decide +kernel
theorem dX7_page_10 : decode cX7_page 10 = .ok (.ireturn, 1) := by decide +kernel
theorem dX7_page_11 : decode cX7_page 11 = .ok (.iload_n 2, 1) := by decide +kernel
theorem dX7_page_12 : decode cX7_page 12 = .ok (.ifCond .ne 12, 3) := by decide +kernel
theorem dX7_page_15 : decode cX7_page 15 = .ok (.aload_n 0, 1) := by decide +kernel
theorem dX7_page_16 : decode cX7_page 16 = .ok (.getfield 7, 3) := by decide +kernel
theorem dX7_page_19 : decode cX7_page 19 = .ok (.iload_n 1, 1) := by decide +kernel
theorem dX7_page_20 : decode cX7_page 20 = .ok (.iaload, 1) := by decide +kernel
theorem dX7_page_21 : decode cX7_page 21 = .ok (.goto 52, 3) := by decide +kernel
theorem dX7_page_24 : decode cX7_page 24 = .ok (.iload_n 2, 1) := by decide +kernel
theorem dX7_page_25 : decode cX7_page 25 = .ok (.iconst 1, 1) := by decide +kernel
theorem dX7_page_26 : decode cX7_page 26 = .ok (.if_icmp .ne 15, 3) := by decide +kernel
theorem dX7_page_29 : decode cX7_page 29 = .ok (.aload_n 0, 1) := by decide +kernel
theorem dX7_page_30 : decode cX7_page 30 = .ok (.getfield 7, 3) := by decide +kernel
theorem dX7_page_33 : decode cX7_page 33 = .ok (.bipush 40, 2) := by decide +kernel
theorem dX7_page_35 : decode cX7_page 35 = .ok (.iload_n 1, 1) := by decide +kernel
theorem dX7_page_36 : decode cX7_page 36 = .ok (.iadd, 1) := by decide +kernel
theorem dX7_page_37 : decode cX7_page 37 = .ok (.iaload, 1) := by decide +kernel
theorem dX7_page_38 : decode cX7_page 38 = .ok (.goto 35, 3) := by decide +kernel
theorem dX7_page_41 : decode cX7_page 41 = .ok (.iload_n 2, 1) := by decide +kernel
theorem dX7_page_42 : decode cX7_page 42 = .ok (.iconst 2, 1) := by decide +kernel
theorem dX7_page_43 : decode cX7_page 43 = .ok (.if_icmp .ne 15, 3) := by decide +kernel
theorem dX7_page_46 : decode cX7_page 46 = .ok (.aload_n 0, 1) := by decide +kernel
theorem dX7_page_47 : decode cX7_page 47 = .ok (.getfield 7, 3) := by decide +kernel
theorem dX7_page_50 : decode cX7_page 50 = .ok (.bipush 80, 2) := by decide +kernel
theorem dX7_page_52 : decode cX7_page 52 = .ok (.iload_n 1, 1) := by decide +kernel
theorem dX7_page_53 : decode cX7_page 53 = .ok (.iadd, 1) := by decide +kernel
theorem dX7_page_54 : decode cX7_page 54 = .ok (.iaload, 1) := by decide +kernel
theorem dX7_page_55 : decode cX7_page 55 = .ok (.goto 18, 3) := by decide +kernel
theorem dX7_page_58 : decode cX7_page 58 = .ok (.iload_n 2, 1) := by decide +kernel
theorem dX7_page_59 : decode cX7_page 59 = .ok (.iconst 3, 1) := by decide +kernel
theorem dX7_page_60 : decode cX7_page 60 = .ok (.if_icmp .ne 11, 3) := by decide +kernel
theorem dX7_page_63 : decode cX7_page 63 = .ok (.aload_n 0, 1) := by decide +kernel
theorem dX7_page_64 : decode cX7_page 64 = .ok (.iload_n 1, 1) := by decide +kernel
theorem dX7_page_65 : decode cX7_page 65 = .ok (.invokevirtual 178, 3) := by decide +kernel
theorem dX7_page_68 : decode cX7_page 68 = .ok (.goto 5, 3) := by decide +kernel
theorem dX7_page_71 : decode cX7_page 71 = .ok (.ldc 63, 2) := by decide +kernel
theorem dX7_page_73 : decode cX7_page 73 = .ok (.ireturn, 1) := by decide +kernel
theorem dX7_knows_0 : decode cX7_knows 0 = .ok (.aload_n 0, 1) := by decide +kernel
theorem dX7_knows_1 : decode cX7_knows 1 = .ok (.iload_n 1, 1) := by decide +kernel
theorem dX7_knows_2 : decode cX7_knows 2 = .ok (.invokevirtual 169, 3) := by decide +kernel
theorem dX7_knows_5 : decode cX7_knows 5 = .ok (.ifCond .eq 11, 3) := by decide +kernel
theorem dX7_knows_8 : decode cX7_knows 8 = .ok (.aload_n 0, 1) := by decide +kernel
theorem dX7_knows_9 : decode cX7_knows 9 = .ok (.iload_n 2, 1) := by decide +kernel
theorem dX7_knows_10 : decode cX7_knows 10 = .ok (.invokevirtual 161, 3) := by decide +kernel
theorem dX7_knows_13 : decode cX7_knows 13 = .ok (.ifCond .ne 6, 3) := by decide +kernel
theorem dX7_knows_16 : decode cX7_knows 16 = .ok (.ldc 165, 2) := by decide +kernel
theorem dX7_knows_18 : decode cX7_knows 18 = .ok (.ireturn, 1) := by decide +kernel
theorem dX7_knows_19 : decode cX7_knows 19 = .ok (.iload_n 3, 1) := by decide +kernel
theorem dX7_knows_20 : decode cX7_knows 20 = .ok (.ifCond .ne 21, 3) := by decide +kernel
theorem dX7_knows_23 : decode cX7_knows 23 = .ok (.aload_n 0, 1) := by decide +kernel
theorem dX7_knows_24 : decode cX7_knows 24 = .ok (.getfield 7, 3) := by decide +kernel
theorem dX7_knows_27 : decode cX7_knows 27 = .ok (.sipush 160, 3) := by decide +kernel
theorem dX7_knows_30 : decode cX7_knows 30 = .ok (.bipush 16, 2) := by decide +kernel
theorem dX7_knows_32 : decode cX7_knows 32 = .ok (.iload_n 1, 1) := by decide +kernel
theorem dX7_knows_33 : decode cX7_knows 33 = .ok (.imul, 1) := by decide +kernel
theorem dX7_knows_34 : decode cX7_knows 34 = .ok (.iadd, 1) := by decide +kernel
theorem dX7_knows_35 : decode cX7_knows 35 = .ok (.iload_n 2, 1) := by decide +kernel
theorem dX7_knows_36 : decode cX7_knows 36 = .ok (.iadd, 1) := by decide +kernel
theorem dX7_knows_37 : decode cX7_knows 37 = .ok (.iaload, 1) := by decide +kernel
theorem dX7_knows_38 : decode cX7_knows 38 = .ok (.goto 28, 3) := by decide +kernel
theorem dX7_knows_41 : decode cX7_knows 41 = .ok (.iload_n 3, 1) := by decide +kernel
theorem dX7_knows_42 : decode cX7_knows 42 = .ok (.iconst 1, 1) := by decide +kernel
theorem dX7_knows_43 : decode cX7_knows 43 = .ok (.if_icmp .ne 21, 3) := by decide +kernel
theorem dX7_knows_46 : decode cX7_knows 46 = .ok (.aload_n 0, 1) := by decide +kernel
theorem dX7_knows_47 : decode cX7_knows 47 = .ok (.getfield 7, 3) := by decide +kernel
theorem dX7_knows_50 : decode cX7_knows 50 = .ok (.sipush 288, 3) := by decide +kernel
theorem dX7_knows_53 : decode cX7_knows 53 = .ok (.bipush 16, 2) := by decide +kernel
theorem dX7_knows_55 : decode cX7_knows 55 = .ok (.iload_n 1, 1) := by decide +kernel
theorem dX7_knows_56 : decode cX7_knows 56 = .ok (.imul, 1) := by decide +kernel
theorem dX7_knows_57 : decode cX7_knows 57 = .ok (.iadd, 1) := by decide +kernel
theorem dX7_knows_58 : decode cX7_knows 58 = .ok (.iload_n 2, 1) := by decide +kernel
theorem dX7_knows_59 : decode cX7_knows 59 = .ok (.iadd, 1) := by decide +kernel
theorem dX7_knows_60 : decode cX7_knows 60 = .ok (.iaload, 1) := by decide +kernel
theorem dX7_knows_61 : decode cX7_knows 61 = .ok (.goto 5, 3) := by decide +kernel
theorem dX7_knows_64 : decode cX7_knows 64 = .ok (.ldc 63, 2) := by decide +kernel
theorem dX7_knows_66 : decode cX7_knows 66 = .ok (.ireturn, 1) := by decide +kernel
theorem dX7_reading_0 : decode cX7_reading 0 = .ok (.iload_n 2, 1) := by decide +kernel
theorem dX7_reading_1 : decode cX7_reading 1 = .ok (.i2l, 1) := by decide +kernel
theorem dX7_reading_2 : decode cX7_reading 2 = .ok (.lconst 0, 1) := by decide +kernel
theorem dX7_reading_3 : decode cX7_reading 3 = .ok (.ldc2_w 181, 3) := by decide +kernel
theorem dX7_reading_6 : decode cX7_reading 6 = .ok (.invokestatic 59, 3) := by decide +kernel
theorem dX7_reading_9 : decode cX7_reading 9 = .ok (.ifCond .ne 6, 3) := by decide +kernel
theorem dX7_reading_12 : decode cX7_reading 12 = .ok (.ldc 63, 2) := by decide +kernel
theorem dX7_reading_14 : decode cX7_reading 14 = .ok (.ireturn, 1) := by decide +kernel
theorem dX7_reading_15 : decode cX7_reading 15 = .ok (.iload_n 1, 1) := by decide +kernel
theorem dX7_reading_16 : decode cX7_reading 16 = .ok (.i2l, 1) := by decide +kernel
theorem dX7_reading_17 : decode cX7_reading 17 = .ok (.lconst 0, 1) := by decide +kernel
theorem dX7_reading_18 : decode cX7_reading 18 = .ok (.aload_n 0, 1) := by decide +kernel
theorem dX7_reading_19 : decode cX7_reading 19 = .ok (.getfield 7, 3) := by decide +kernel
theorem dX7_reading_22 : decode cX7_reading 22 = .ok (.sipush 1333, 3) := by decide +kernel
theorem dX7_reading_25 : decode cX7_reading 25 = .ok (.iaload, 1) := by decide +kernel
theorem dX7_reading_26 : decode cX7_reading 26 = .ok (.iconst 1, 1) := by decide +kernel
theorem dX7_reading_27 : decode cX7_reading 27 = .ok (.isub, 1) := by decide +kernel
theorem dX7_reading_28 : decode cX7_reading 28 = .ok (.i2l, 1) := by decide +kernel
theorem dX7_reading_29 : decode cX7_reading 29 = .ok (.invokestatic 59, 3) := by decide +kernel
theorem dX7_reading_32 : decode cX7_reading 32 = .ok (.ifCond .eq 22, 3) := by decide +kernel
theorem dX7_reading_35 : decode cX7_reading 35 = .ok (.aload_n 0, 1) := by decide +kernel
theorem dX7_reading_36 : decode cX7_reading 36 = .ok (.getfield 7, 3) := by decide +kernel
theorem dX7_reading_39 : decode cX7_reading 39 = .ok (.sipush 432, 3) := by decide +kernel
theorem dX7_reading_42 : decode cX7_reading 42 = .ok (.sipush 300, 3) := by decide +kernel
theorem dX7_reading_45 : decode cX7_reading 45 = .ok (.iload_n 2, 1) := by decide +kernel
theorem dX7_reading_46 : decode cX7_reading 46 = .ok (.imul, 1) := by decide +kernel
theorem dX7_reading_47 : decode cX7_reading 47 = .ok (.iadd, 1) := by decide +kernel
theorem dX7_reading_48 : decode cX7_reading 48 = .ok (.iload_n 1, 1) := by decide +kernel
theorem dX7_reading_49 : decode cX7_reading 49 = .ok (.iadd, 1) := by decide +kernel
theorem dX7_reading_50 : decode cX7_reading 50 = .ok (.iaload, 1) := by decide +kernel
theorem dX7_reading_51 : decode cX7_reading 51 = .ok (.goto 4, 3) := by decide +kernel
theorem dX7_reading_54 : decode cX7_reading 54 = .ok (.iconst (-1), 1) := by decide +kernel
theorem dX7_reading_55 : decode cX7_reading 55 = .ok (.ireturn, 1) := by decide +kernel
theorem dX7_know_0 : decode cX7_know 0 = .ok (.aload_n 0, 1) := by decide +kernel
theorem dX7_know_1 : decode cX7_know 1 = .ok (.getfield 7, 3) := by decide +kernel
theorem dX7_know_4 : decode cX7_know 4 = .ok (.iload_n 1, 1) := by decide +kernel
theorem dX7_know_5 : decode cX7_know 5 = .ok (.sipush 160, 3) := by decide +kernel
theorem dX7_know_8 : decode cX7_know 8 = .ok (.iadd, 1) := by decide +kernel
theorem dX7_know_9 : decode cX7_know 9 = .ok (.bipush 16, 2) := by decide +kernel
theorem dX7_know_11 : decode cX7_know 11 = .ok (.iload_n 2, 1) := by decide +kernel
theorem dX7_know_12 : decode cX7_know 12 = .ok (.imul, 1) := by decide +kernel
theorem dX7_know_13 : decode cX7_know 13 = .ok (.iadd, 1) := by decide +kernel
theorem dX7_know_14 : decode cX7_know 14 = .ok (.iload_n 3, 1) := by decide +kernel
theorem dX7_know_15 : decode cX7_know 15 = .ok (.iadd, 1) := by decide +kernel
theorem dX7_know_16 : decode cX7_know 16 = .ok (.iload 4, 2) := by decide +kernel
theorem dX7_know_18 : decode cX7_know 18 = .ok (.iastore, 1) := by decide +kernel
theorem dX7_know_19 : decode cX7_know 19 = .ok (.aload_n 0, 1) := by decide +kernel
theorem dX7_know_20 : decode cX7_know 20 = .ok (.getfield 7, 3) := by decide +kernel
theorem dX7_know_23 : decode cX7_know 23 = .ok (.iload_n 1, 1) := by decide +kernel
theorem dX7_know_24 : decode cX7_know 24 = .ok (.sipush 288, 3) := by decide +kernel
theorem dX7_know_27 : decode cX7_know 27 = .ok (.iadd, 1) := by decide +kernel
theorem dX7_know_28 : decode cX7_know 28 = .ok (.bipush 16, 2) := by decide +kernel
theorem dX7_know_30 : decode cX7_know 30 = .ok (.iload_n 2, 1) := by decide +kernel
theorem dX7_know_31 : decode cX7_know 31 = .ok (.imul, 1) := by decide +kernel
theorem dX7_know_32 : decode cX7_know 32 = .ok (.iadd, 1) := by decide +kernel
theorem dX7_know_33 : decode cX7_know 33 = .ok (.iload_n 3, 1) := by decide +kernel
theorem dX7_know_34 : decode cX7_know 34 = .ok (.iadd, 1) := by decide +kernel
theorem dX7_know_35 : decode cX7_know 35 = .ok (.aload_n 0, 1) := by decide +kernel
theorem dX7_know_36 : decode cX7_know 36 = .ok (.getfield 7, 3) := by decide +kernel
theorem dX7_know_39 : decode cX7_know 39 = .ok (.iload_n 1, 1) := by decide +kernel
theorem dX7_know_40 : decode cX7_know 40 = .ok (.sipush 1334, 3) := by decide +kernel
theorem dX7_know_43 : decode cX7_know 43 = .ok (.iadd, 1) := by decide +kernel
theorem dX7_know_44 : decode cX7_know 44 = .ok (.iaload, 1) := by decide +kernel
theorem dX7_know_45 : decode cX7_know 45 = .ok (.iastore, 1) := by decide +kernel
theorem dX7_know_46 : decode cX7_know 46 = .ok (.return_, 1) := by decide +kernel
theorem dX7_readPage_0 : decode cX7_readPage 0 = .ok (.aload_n 0, 1) := by decide +kernel
theorem dX7_readPage_1 : decode cX7_readPage 1 = .ok (.getfield 7, 3) := by decide +kernel
theorem dX7_readPage_4 : decode cX7_readPage 4 = .ok (.iload_n 1, 1) := by decide +kernel
theorem dX7_readPage_5 : decode cX7_readPage 5 = .ok (.bipush 80, 2) := by decide +kernel
theorem dX7_readPage_7 : decode cX7_readPage 7 = .ok (.iadd, 1) := by decide +kernel
theorem dX7_readPage_8 : decode cX7_readPage 8 = .ok (.iload_n 3, 1) := by decide +kernel
theorem dX7_readPage_9 : decode cX7_readPage 9 = .ok (.iadd, 1) := by decide +kernel
theorem dX7_readPage_10 : decode cX7_readPage 10 = .ok (.aload_n 0, 1) := by decide +kernel
theorem dX7_readPage_11 : decode cX7_readPage 11 = .ok (.getfield 23, 3) := by decide +kernel
theorem dX7_readPage_14 : decode cX7_readPage 14 = .ok (.iload_n 2, 1) := by decide +kernel
theorem dX7_readPage_15 : decode cX7_readPage 15 = .ok (.iaload, 1) := by decide +kernel
theorem dX7_readPage_16 : decode cX7_readPage 16 = .ok (.iconst 3, 1) := by decide +kernel
theorem dX7_readPage_17 : decode cX7_readPage 17 = .ok (.if_icmp .ne 8, 3) := by decide +kernel
theorem dX7_readPage_20 : decode cX7_readPage 20 = .ok (.bipush 9, 2) := by decide +kernel
theorem dX7_readPage_22 : decode cX7_readPage 22 = .ok (.goto 16, 3) := by decide +kernel
theorem dX7_readPage_25 : decode cX7_readPage 25 = .ok (.aload_n 0, 1) := by decide +kernel
theorem dX7_readPage_26 : decode cX7_readPage 26 = .ok (.getfield 7, 3) := by decide +kernel
theorem dX7_readPage_29 : decode cX7_readPage 29 = .ok (.iload_n 1, 1) := by decide +kernel
theorem dX7_readPage_30 : decode cX7_readPage 30 = .ok (.bipush 80, 2) := by decide +kernel
theorem dX7_readPage_32 : decode cX7_readPage 32 = .ok (.iadd, 1) := by decide +kernel
theorem dX7_readPage_33 : decode cX7_readPage 33 = .ok (.iload_n 3, 1) := by decide +kernel
theorem dX7_readPage_34 : decode cX7_readPage 34 = .ok (.iadd, 1) := by decide +kernel
theorem dX7_readPage_35 : decode cX7_readPage 35 = .ok (.iaload, 1) := by decide +kernel
theorem dX7_readPage_36 : decode cX7_readPage 36 = .ok (.iconst 1, 1) := by decide +kernel
theorem dX7_readPage_37 : decode cX7_readPage 37 = .ok (.iadd, 1) := by decide +kernel
theorem dX7_readPage_38 : decode cX7_readPage 38 = .ok (.iastore, 1) := by decide +kernel
theorem dX7_readPage_39 : decode cX7_readPage 39 = .ok (.iconst 0, 1) := by decide +kernel
theorem dX7_readPage_40 : decode cX7_readPage 40 = .ok (.istore 4, 2) := by decide +kernel
theorem dX7_readPage_42 : decode cX7_readPage 42 = .ok (.iload 4, 2) := by decide +kernel
theorem dX7_readPage_44 : decode cX7_readPage 44 = .ok (.aload_n 0, 1) := by decide +kernel
theorem dX7_readPage_45 : decode cX7_readPage 45 = .ok (.getfield 29, 3) := by decide +kernel
theorem dX7_readPage_48 : decode cX7_readPage 48 = .ok (.iconst 1, 1) := by decide +kernel
theorem dX7_readPage_49 : decode cX7_readPage 49 = .ok (.iaload, 1) := by decide +kernel
theorem dX7_readPage_50 : decode cX7_readPage 50 = .ok (.if_icmp .ge 51, 3) := by decide +kernel
theorem dX7_readPage_53 : decode cX7_readPage 53 = .ok (.iload 4, 2) := by decide +kernel
theorem dX7_readPage_55 : decode cX7_readPage 55 = .ok (.iload_n 2, 1) := by decide +kernel
theorem dX7_readPage_56 : decode cX7_readPage 56 = .ok (.if_icmp .eq 13, 3) := by decide +kernel
theorem dX7_readPage_59 : decode cX7_readPage 59 = .ok (.aload_n 0, 1) := by decide +kernel
theorem dX7_readPage_60 : decode cX7_readPage 60 = .ok (.getfield 23, 3) := by decide +kernel
theorem dX7_readPage_63 : decode cX7_readPage 63 = .ok (.iload_n 2, 1) := by decide +kernel
theorem dX7_readPage_64 : decode cX7_readPage 64 = .ok (.iaload, 1) := by decide +kernel
theorem dX7_readPage_65 : decode cX7_readPage 65 = .ok (.iconst 1, 1) := by decide +kernel
theorem dX7_readPage_66 : decode cX7_readPage 66 = .ok (.if_icmp .ne 29, 3) := by decide +kernel
theorem dX7_readPage_69 : decode cX7_readPage 69 = .ok (.aload_n 0, 1) := by decide +kernel
theorem dX7_readPage_70 : decode cX7_readPage 70 = .ok (.iload_n 1, 1) := by decide +kernel
theorem dX7_readPage_71 : decode cX7_readPage 71 = .ok (.iload 4, 2) := by decide +kernel
theorem dX7_readPage_73 : decode cX7_readPage 73 = .ok (.aload_n 0, 1) := by decide +kernel
theorem dX7_readPage_74 : decode cX7_readPage 74 = .ok (.getfield 7, 3) := by decide +kernel
theorem dX7_readPage_77 : decode cX7_readPage 77 = .ok (.iload_n 1, 1) := by decide +kernel
theorem dX7_readPage_78 : decode cX7_readPage 78 = .ok (.iload_n 3, 1) := by decide +kernel
theorem dX7_readPage_79 : decode cX7_readPage 79 = .ok (.iadd, 1) := by decide +kernel
theorem dX7_readPage_80 : decode cX7_readPage 80 = .ok (.iaload, 1) := by decide +kernel
theorem dX7_readPage_81 : decode cX7_readPage 81 = .ok (.aload_n 0, 1) := by decide +kernel
theorem dX7_readPage_82 : decode cX7_readPage 82 = .ok (.getfield 7, 3) := by decide +kernel
theorem dX7_readPage_85 : decode cX7_readPage 85 = .ok (.iload_n 1, 1) := by decide +kernel
theorem dX7_readPage_86 : decode cX7_readPage 86 = .ok (.bipush 40, 2) := by decide +kernel
theorem dX7_readPage_88 : decode cX7_readPage 88 = .ok (.iadd, 1) := by decide +kernel
theorem dX7_readPage_89 : decode cX7_readPage 89 = .ok (.iload_n 3, 1) := by decide +kernel
theorem dX7_readPage_90 : decode cX7_readPage 90 = .ok (.iadd, 1) := by decide +kernel
theorem dX7_readPage_91 : decode cX7_readPage 91 = .ok (.iaload, 1) := by decide +kernel
theorem dX7_readPage_92 : decode cX7_readPage 92 = .ok (.invokevirtual 183, 3) := by decide +kernel
theorem dX7_readPage_95 : decode cX7_readPage 95 = .ok (.iinc 4 1, 3) := by decide +kernel
theorem dX7_readPage_98 : decode cX7_readPage 98 = .ok (.goto (-56), 3) := by decide +kernel
theorem dX7_readPage_101 : decode cX7_readPage 101 = .ok (.aload_n 0, 1) := by decide +kernel
theorem dX7_readPage_102 : decode cX7_readPage 102 = .ok (.getfield 7, 3) := by decide +kernel
theorem dX7_readPage_105 : decode cX7_readPage 105 = .ok (.iload_n 1, 1) := by decide +kernel
theorem dX7_readPage_106 : decode cX7_readPage 106 = .ok (.sipush 1333, 3) := by decide +kernel
theorem dX7_readPage_109 : decode cX7_readPage 109 = .ok (.iadd, 1) := by decide +kernel
theorem dX7_readPage_110 : decode cX7_readPage 110 = .ok (.iaload, 1) := by decide +kernel
theorem dX7_readPage_111 : decode cX7_readPage 111 = .ok (.istore 4, 2) := by decide +kernel
theorem dX7_readPage_113 : decode cX7_readPage 113 = .ok (.iload 4, 2) := by decide +kernel
theorem dX7_readPage_115 : decode cX7_readPage 115 = .ok (.sipush 300, 3) := by decide +kernel
theorem dX7_readPage_118 : decode cX7_readPage 118 = .ok (.if_icmp .ge 68, 3) := by decide +kernel
theorem dX7_readPage_121 : decode cX7_readPage 121 = .ok (.aload_n 0, 1) := by decide +kernel
theorem dX7_readPage_122 : decode cX7_readPage 122 = .ok (.getfield 7, 3) := by decide +kernel
theorem dX7_readPage_125 : decode cX7_readPage 125 = .ok (.iload_n 1, 1) := by decide +kernel
theorem dX7_readPage_126 : decode cX7_readPage 126 = .ok (.sipush 432, 3) := by decide +kernel
theorem dX7_readPage_129 : decode cX7_readPage 129 = .ok (.iadd, 1) := by decide +kernel
theorem dX7_readPage_130 : decode cX7_readPage 130 = .ok (.iload 4, 2) := by decide +kernel
theorem dX7_readPage_132 : decode cX7_readPage 132 = .ok (.iadd, 1) := by decide +kernel
theorem dX7_readPage_133 : decode cX7_readPage 133 = .ok (.aload_n 0, 1) := by decide +kernel
theorem dX7_readPage_134 : decode cX7_readPage 134 = .ok (.getfield 7, 3) := by decide +kernel
theorem dX7_readPage_137 : decode cX7_readPage 137 = .ok (.iload_n 1, 1) := by decide +kernel
theorem dX7_readPage_138 : decode cX7_readPage 138 = .ok (.sipush 1334, 3) := by decide +kernel
theorem dX7_readPage_141 : decode cX7_readPage 141 = .ok (.iadd, 1) := by decide +kernel
theorem dX7_readPage_142 : decode cX7_readPage 142 = .ok (.iaload, 1) := by decide +kernel
theorem dX7_readPage_143 : decode cX7_readPage 143 = .ok (.iastore, 1) := by decide +kernel
theorem dX7_readPage_144 : decode cX7_readPage 144 = .ok (.aload_n 0, 1) := by decide +kernel
theorem dX7_readPage_145 : decode cX7_readPage 145 = .ok (.getfield 7, 3) := by decide +kernel
theorem dX7_readPage_148 : decode cX7_readPage 148 = .ok (.iload_n 1, 1) := by decide +kernel
theorem dX7_readPage_149 : decode cX7_readPage 149 = .ok (.sipush 732, 3) := by decide +kernel
theorem dX7_readPage_152 : decode cX7_readPage 152 = .ok (.iadd, 1) := by decide +kernel
theorem dX7_readPage_153 : decode cX7_readPage 153 = .ok (.iload 4, 2) := by decide +kernel
theorem dX7_readPage_155 : decode cX7_readPage 155 = .ok (.iadd, 1) := by decide +kernel
theorem dX7_readPage_156 : decode cX7_readPage 156 = .ok (.iload_n 3, 1) := by decide +kernel
theorem dX7_readPage_157 : decode cX7_readPage 157 = .ok (.iastore, 1) := by decide +kernel
theorem dX7_readPage_158 : decode cX7_readPage 158 = .ok (.aload_n 0, 1) := by decide +kernel
theorem dX7_readPage_159 : decode cX7_readPage 159 = .ok (.getfield 7, 3) := by decide +kernel
theorem dX7_readPage_162 : decode cX7_readPage 162 = .ok (.iload_n 1, 1) := by decide +kernel
theorem dX7_readPage_163 : decode cX7_readPage 163 = .ok (.sipush 1032, 3) := by decide +kernel
theorem dX7_readPage_166 : decode cX7_readPage 166 = .ok (.iadd, 1) := by decide +kernel
theorem dX7_readPage_167 : decode cX7_readPage 167 = .ok (.iload 4, 2) := by decide +kernel
theorem dX7_readPage_169 : decode cX7_readPage 169 = .ok (.iadd, 1) := by decide +kernel
theorem dX7_readPage_170 : decode cX7_readPage 170 = .ok (.iload_n 2, 1) := by decide +kernel
theorem dX7_readPage_171 : decode cX7_readPage 171 = .ok (.iastore, 1) := by decide +kernel
theorem dX7_readPage_172 : decode cX7_readPage 172 = .ok (.aload_n 0, 1) := by decide +kernel
theorem dX7_readPage_173 : decode cX7_readPage 173 = .ok (.getfield 7, 3) := by decide +kernel
theorem dX7_readPage_176 : decode cX7_readPage 176 = .ok (.iload_n 1, 1) := by decide +kernel
theorem dX7_readPage_177 : decode cX7_readPage 177 = .ok (.sipush 1333, 3) := by decide +kernel
theorem dX7_readPage_180 : decode cX7_readPage 180 = .ok (.iadd, 1) := by decide +kernel
theorem dX7_readPage_181 : decode cX7_readPage 181 = .ok (.iload 4, 2) := by decide +kernel
theorem dX7_readPage_183 : decode cX7_readPage 183 = .ok (.iconst 1, 1) := by decide +kernel
theorem dX7_readPage_184 : decode cX7_readPage 184 = .ok (.iadd, 1) := by decide +kernel
theorem dX7_readPage_185 : decode cX7_readPage 185 = .ok (.iastore, 1) := by decide +kernel
theorem dX7_readPage_186 : decode cX7_readPage 186 = .ok (.return_, 1) := by decide +kernel
theorem dX7_read_0 : decode cX7_read 0 = .ok (.aload_n 0, 1) := by decide +kernel
theorem dX7_read_1 : decode cX7_read 1 = .ok (.iload_n 1, 1) := by decide +kernel
theorem dX7_read_2 : decode cX7_read 2 = .ok (.invokevirtual 169, 3) := by decide +kernel
theorem dX7_read_5 : decode cX7_read 5 = .ok (.ifCond .eq 11, 3) := by decide +kernel
theorem dX7_read_8 : decode cX7_read 8 = .ok (.aload_n 0, 1) := by decide +kernel
theorem dX7_read_9 : decode cX7_read 9 = .ok (.iload_n 2, 1) := by decide +kernel
theorem dX7_read_10 : decode cX7_read 10 = .ok (.invokevirtual 175, 3) := by decide +kernel
theorem dX7_read_13 : decode cX7_read 13 = .ok (.ifCond .ne 6, 3) := by decide +kernel
theorem dX7_read_16 : decode cX7_read 16 = .ok (.ldc 165, 2) := by decide +kernel
theorem dX7_read_18 : decode cX7_read 18 = .ok (.ireturn, 1) := by decide +kernel
theorem dX7_read_19 : decode cX7_read 19 = .ok (.aload_n 0, 1) := by decide +kernel
theorem dX7_read_20 : decode cX7_read 20 = .ok (.getfield 7, 3) := by decide +kernel
theorem dX7_read_23 : decode cX7_read 23 = .ok (.bipush 80, 2) := by decide +kernel
theorem dX7_read_25 : decode cX7_read 25 = .ok (.iload_n 2, 1) := by decide +kernel
theorem dX7_read_26 : decode cX7_read 26 = .ok (.iadd, 1) := by decide +kernel
theorem dX7_read_27 : decode cX7_read 27 = .ok (.iaload, 1) := by decide +kernel
theorem dX7_read_28 : decode cX7_read 28 = .ok (.bipush 9, 2) := by decide +kernel
theorem dX7_read_30 : decode cX7_read 30 = .ok (.if_icmp .ne 6, 3) := by decide +kernel
theorem dX7_read_33 : decode cX7_read 33 = .ok (.ldc 187, 2) := by decide +kernel
theorem dX7_read_35 : decode cX7_read 35 = .ok (.ireturn, 1) := by decide +kernel
theorem dX7_read_36 : decode cX7_read 36 = .ok (.aload_n 0, 1) := by decide +kernel
theorem dX7_read_37 : decode cX7_read 37 = .ok (.iconst 0, 1) := by decide +kernel
theorem dX7_read_38 : decode cX7_read 38 = .ok (.iload_n 1, 1) := by decide +kernel
theorem dX7_read_39 : decode cX7_read 39 = .ok (.iload_n 2, 1) := by decide +kernel
theorem dX7_read_40 : decode cX7_read 40 = .ok (.invokevirtual 188, 3) := by decide +kernel
theorem dX7_read_43 : decode cX7_read 43 = .ok (.aload_n 0, 1) := by decide +kernel
theorem dX7_read_44 : decode cX7_read 44 = .ok (.getfield 7, 3) := by decide +kernel
theorem dX7_read_47 : decode cX7_read 47 = .ok (.bipush 80, 2) := by decide +kernel
theorem dX7_read_49 : decode cX7_read 49 = .ok (.iload_n 2, 1) := by decide +kernel
theorem dX7_read_50 : decode cX7_read 50 = .ok (.iadd, 1) := by decide +kernel
theorem dX7_read_51 : decode cX7_read 51 = .ok (.iaload, 1) := by decide +kernel
theorem dX7_read_52 : decode cX7_read 52 = .ok (.ireturn, 1) := by decide +kernel
theorem dX7_draw_0 : decode cX7_draw 0 = .ok (.aload_n 0, 1) := by decide +kernel
theorem dX7_draw_1 : decode cX7_draw 1 = .ok (.getfield 7, 3) := by decide +kernel
theorem dX7_draw_4 : decode cX7_draw 4 = .ok (.iload_n 1, 1) := by decide +kernel
theorem dX7_draw_5 : decode cX7_draw 5 = .ok (.sipush 1335, 3) := by decide +kernel
theorem dX7_draw_8 : decode cX7_draw 8 = .ok (.iadd, 1) := by decide +kernel
theorem dX7_draw_9 : decode cX7_draw 9 = .ok (.aload_n 0, 1) := by decide +kernel
theorem dX7_draw_10 : decode cX7_draw 10 = .ok (.getfield 7, 3) := by decide +kernel
theorem dX7_draw_13 : decode cX7_draw 13 = .ok (.iload_n 1, 1) := by decide +kernel
theorem dX7_draw_14 : decode cX7_draw 14 = .ok (.sipush 1335, 3) := by decide +kernel
theorem dX7_draw_17 : decode cX7_draw 17 = .ok (.iadd, 1) := by decide +kernel
theorem dX7_draw_18 : decode cX7_draw 18 = .ok (.iaload, 1) := by decide +kernel
theorem dX7_draw_19 : decode cX7_draw 19 = .ok (.i2l, 1) := by decide +kernel
theorem dX7_draw_20 : decode cX7_draw 20 = .ok (.ldc2_w 192, 3) := by decide +kernel
theorem dX7_draw_23 : decode cX7_draw 23 = .ok (.lmul, 1) := by decide +kernel
theorem dX7_draw_24 : decode cX7_draw 24 = .ok (.ldc2_w 194, 3) := by decide +kernel
theorem dX7_draw_27 : decode cX7_draw 27 = .ok (.ladd, 1) := by decide +kernel
theorem dX7_draw_28 : decode cX7_draw 28 = .ok (.ldc2_w 196, 3) := by decide +kernel
theorem dX7_draw_31 : decode cX7_draw 31 = .ok (.lrem, 1) := by decide +kernel
theorem dX7_draw_32 : decode cX7_draw 32 = .ok (.l2i, 1) := by decide +kernel
theorem dX7_draw_33 : decode cX7_draw 33 = .ok (.iastore, 1) := by decide +kernel
theorem dX7_draw_34 : decode cX7_draw 34 = .ok (.aload_n 0, 1) := by decide +kernel
theorem dX7_draw_35 : decode cX7_draw 35 = .ok (.getfield 7, 3) := by decide +kernel
theorem dX7_draw_38 : decode cX7_draw 38 = .ok (.iload_n 1, 1) := by decide +kernel
theorem dX7_draw_39 : decode cX7_draw 39 = .ok (.sipush 1335, 3) := by decide +kernel
theorem dX7_draw_42 : decode cX7_draw 42 = .ok (.iadd, 1) := by decide +kernel
theorem dX7_draw_43 : decode cX7_draw 43 = .ok (.iaload, 1) := by decide +kernel
theorem dX7_draw_44 : decode cX7_draw 44 = .ok (.ldc 198, 2) := by decide +kernel
theorem dX7_draw_46 : decode cX7_draw 46 = .ok (.idiv, 1) := by decide +kernel
theorem dX7_draw_47 : decode cX7_draw 47 = .ok (.iload_n 2, 1) := by decide +kernel
theorem dX7_draw_48 : decode cX7_draw 48 = .ok (.irem, 1) := by decide +kernel
theorem dX7_draw_49 : decode cX7_draw 49 = .ok (.ireturn, 1) := by decide +kernel
theorem dX7_make_0 : decode cX7_make 0 = .ok (.aload_n 0, 1) := by decide +kernel
theorem dX7_make_1 : decode cX7_make 1 = .ok (.getfield 7, 3) := by decide +kernel
theorem dX7_make_4 : decode cX7_make 4 = .ok (.sipush 1332, 3) := by decide +kernel
theorem dX7_make_7 : decode cX7_make 7 = .ok (.iaload, 1) := by decide +kernel
theorem dX7_make_8 : decode cX7_make 8 = .ok (.istore 4, 2) := by decide +kernel
theorem dX7_make_10 : decode cX7_make 10 = .ok (.aload_n 0, 1) := by decide +kernel
theorem dX7_make_11 : decode cX7_make 11 = .ok (.getfield 7, 3) := by decide +kernel
theorem dX7_make_14 : decode cX7_make 14 = .ok (.iload 4, 2) := by decide +kernel
theorem dX7_make_16 : decode cX7_make 16 = .ok (.iload_n 2, 1) := by decide +kernel
theorem dX7_make_17 : decode cX7_make 17 = .ok (.iastore, 1) := by decide +kernel
theorem dX7_make_18 : decode cX7_make 18 = .ok (.aload_n 0, 1) := by decide +kernel
theorem dX7_make_19 : decode cX7_make 19 = .ok (.getfield 7, 3) := by decide +kernel
theorem dX7_make_22 : decode cX7_make 22 = .ok (.bipush 40, 2) := by decide +kernel
theorem dX7_make_24 : decode cX7_make 24 = .ok (.iload 4, 2) := by decide +kernel
theorem dX7_make_26 : decode cX7_make 26 = .ok (.iadd, 1) := by decide +kernel
theorem dX7_make_27 : decode cX7_make 27 = .ok (.aload_n 0, 1) := by decide +kernel
theorem dX7_make_28 : decode cX7_make 28 = .ok (.iconst 0, 1) := by decide +kernel
theorem dX7_make_29 : decode cX7_make 29 = .ok (.bipush 100, 2) := by decide +kernel
theorem dX7_make_31 : decode cX7_make 31 = .ok (.invokevirtual 199, 3) := by decide +kernel
theorem dX7_make_34 : decode cX7_make 34 = .ok (.aload_n 0, 1) := by decide +kernel
theorem dX7_make_35 : decode cX7_make 35 = .ok (.getfield 32, 3) := by decide +kernel
theorem dX7_make_38 : decode cX7_make 38 = .ok (.if_icmp .ge 10, 3) := by decide +kernel
theorem dX7_make_41 : decode cX7_make 41 = .ok (.iload 4, 2) := by decide +kernel
theorem dX7_make_43 : decode cX7_make 43 = .ok (.iconst 1, 1) := by decide +kernel
theorem dX7_make_44 : decode cX7_make 44 = .ok (.iadd, 1) := by decide +kernel
theorem dX7_make_45 : decode cX7_make 45 = .ok (.goto 4, 3) := by decide +kernel
theorem dX7_make_48 : decode cX7_make 48 = .ok (.iload_n 3, 1) := by decide +kernel
theorem dX7_make_49 : decode cX7_make 49 = .ok (.iastore, 1) := by decide +kernel
theorem dX7_make_50 : decode cX7_make 50 = .ok (.aload_n 0, 1) := by decide +kernel
theorem dX7_make_51 : decode cX7_make 51 = .ok (.getfield 7, 3) := by decide +kernel
theorem dX7_make_54 : decode cX7_make 54 = .ok (.bipush 80, 2) := by decide +kernel
theorem dX7_make_56 : decode cX7_make 56 = .ok (.iload 4, 2) := by decide +kernel
theorem dX7_make_58 : decode cX7_make 58 = .ok (.iadd, 1) := by decide +kernel
theorem dX7_make_59 : decode cX7_make 59 = .ok (.iconst 0, 1) := by decide +kernel
theorem dX7_make_60 : decode cX7_make 60 = .ok (.iastore, 1) := by decide +kernel
theorem dX7_make_61 : decode cX7_make 61 = .ok (.aload_n 0, 1) := by decide +kernel
theorem dX7_make_62 : decode cX7_make 62 = .ok (.getfield 7, 3) := by decide +kernel
theorem dX7_make_65 : decode cX7_make 65 = .ok (.bipush 120, 2) := by decide +kernel
theorem dX7_make_67 : decode cX7_make 67 = .ok (.iload 4, 2) := by decide +kernel
theorem dX7_make_69 : decode cX7_make 69 = .ok (.iadd, 1) := by decide +kernel
theorem dX7_make_70 : decode cX7_make 70 = .ok (.iload_n 1, 1) := by decide +kernel
theorem dX7_make_71 : decode cX7_make 71 = .ok (.iastore, 1) := by decide +kernel
theorem dX7_make_72 : decode cX7_make 72 = .ok (.aload_n 0, 1) := by decide +kernel
theorem dX7_make_73 : decode cX7_make 73 = .ok (.getfield 7, 3) := by decide +kernel
theorem dX7_make_76 : decode cX7_make 76 = .ok (.sipush 1332, 3) := by decide +kernel
theorem dX7_make_79 : decode cX7_make 79 = .ok (.iload 4, 2) := by decide +kernel
theorem dX7_make_81 : decode cX7_make 81 = .ok (.iconst 1, 1) := by decide +kernel
theorem dX7_make_82 : decode cX7_make 82 = .ok (.iadd, 1) := by decide +kernel
theorem dX7_make_83 : decode cX7_make 83 = .ok (.iastore, 1) := by decide +kernel
theorem dX7_make_84 : decode cX7_make 84 = .ok (.iload 4, 2) := by decide +kernel
theorem dX7_make_86 : decode cX7_make 86 = .ok (.ireturn, 1) := by decide +kernel
theorem dX7_copy_0 : decode cX7_copy 0 = .ok (.aload_n 0, 1) := by decide +kernel
theorem dX7_copy_1 : decode cX7_copy 1 = .ok (.iload_n 1, 1) := by decide +kernel
theorem dX7_copy_2 : decode cX7_copy 2 = .ok (.invokevirtual 169, 3) := by decide +kernel
theorem dX7_copy_5 : decode cX7_copy 5 = .ok (.ifCond .eq 11, 3) := by decide +kernel
theorem dX7_copy_8 : decode cX7_copy 8 = .ok (.aload_n 0, 1) := by decide +kernel
theorem dX7_copy_9 : decode cX7_copy 9 = .ok (.iload_n 2, 1) := by decide +kernel
theorem dX7_copy_10 : decode cX7_copy 10 = .ok (.invokevirtual 175, 3) := by decide +kernel
theorem dX7_copy_13 : decode cX7_copy 13 = .ok (.ifCond .ne 6, 3) := by decide +kernel
theorem dX7_copy_16 : decode cX7_copy 16 = .ok (.ldc 165, 2) := by decide +kernel
theorem dX7_copy_18 : decode cX7_copy 18 = .ok (.ireturn, 1) := by decide +kernel
theorem dX7_copy_19 : decode cX7_copy 19 = .ok (.aload_n 0, 1) := by decide +kernel
theorem dX7_copy_20 : decode cX7_copy 20 = .ok (.getfield 23, 3) := by decide +kernel
theorem dX7_copy_23 : decode cX7_copy 23 = .ok (.iload_n 1, 1) := by decide +kernel
theorem dX7_copy_24 : decode cX7_copy 24 = .ok (.iaload, 1) := by decide +kernel
theorem dX7_copy_25 : decode cX7_copy 25 = .ok (.iconst 2, 1) := by decide +kernel
theorem dX7_copy_26 : decode cX7_copy 26 = .ok (.if_icmp .ne 17, 3) := by decide +kernel
theorem dX7_copy_29 : decode cX7_copy 29 = .ok (.aload_n 0, 1) := by decide +kernel
theorem dX7_copy_30 : decode cX7_copy 30 = .ok (.getfield 7, 3) := by decide +kernel
theorem dX7_copy_33 : decode cX7_copy 33 = .ok (.bipush 80, 2) := by decide +kernel
theorem dX7_copy_35 : decode cX7_copy 35 = .ok (.iload_n 2, 1) := by decide +kernel
theorem dX7_copy_36 : decode cX7_copy 36 = .ok (.iadd, 1) := by decide +kernel
theorem dX7_copy_37 : decode cX7_copy 37 = .ok (.iaload, 1) := by decide +kernel
theorem dX7_copy_38 : decode cX7_copy 38 = .ok (.bipush 9, 2) := by decide +kernel
theorem dX7_copy_40 : decode cX7_copy 40 = .ok (.if_icmp .ne 6, 3) := by decide +kernel
theorem dX7_copy_43 : decode cX7_copy 43 = .ok (.ldc 187, 2) := by decide +kernel
theorem dX7_copy_45 : decode cX7_copy 45 = .ok (.ireturn, 1) := by decide +kernel
theorem dX7_copy_46 : decode cX7_copy 46 = .ok (.aload_n 0, 1) := by decide +kernel
theorem dX7_copy_47 : decode cX7_copy 47 = .ok (.getfield 7, 3) := by decide +kernel
theorem dX7_copy_50 : decode cX7_copy 50 = .ok (.sipush 1332, 3) := by decide +kernel
theorem dX7_copy_53 : decode cX7_copy 53 = .ok (.iaload, 1) := by decide +kernel
theorem dX7_copy_54 : decode cX7_copy 54 = .ok (.bipush 40, 2) := by decide +kernel
theorem dX7_copy_56 : decode cX7_copy 56 = .ok (.if_icmp .ne 6, 3) := by decide +kernel
theorem dX7_copy_59 : decode cX7_copy 59 = .ok (.ldc 67, 2) := by decide +kernel
theorem dX7_copy_61 : decode cX7_copy 61 = .ok (.ireturn, 1) := by decide +kernel
theorem dX7_copy_62 : decode cX7_copy 62 = .ok (.aload_n 0, 1) := by decide +kernel
theorem dX7_copy_63 : decode cX7_copy 63 = .ok (.iconst 0, 1) := by decide +kernel
theorem dX7_copy_64 : decode cX7_copy 64 = .ok (.iload_n 1, 1) := by decide +kernel
theorem dX7_copy_65 : decode cX7_copy 65 = .ok (.iload_n 2, 1) := by decide +kernel
theorem dX7_copy_66 : decode cX7_copy 66 = .ok (.invokevirtual 188, 3) := by decide +kernel
theorem dX7_copy_69 : decode cX7_copy 69 = .ok (.aload_n 0, 1) := by decide +kernel
theorem dX7_copy_70 : decode cX7_copy 70 = .ok (.iload_n 1, 1) := by decide +kernel
theorem dX7_copy_71 : decode cX7_copy 71 = .ok (.aload_n 0, 1) := by decide +kernel
theorem dX7_copy_72 : decode cX7_copy 72 = .ok (.getfield 7, 3) := by decide +kernel
theorem dX7_copy_75 : decode cX7_copy 75 = .ok (.iload_n 2, 1) := by decide +kernel
theorem dX7_copy_76 : decode cX7_copy 76 = .ok (.iaload, 1) := by decide +kernel
theorem dX7_copy_77 : decode cX7_copy 77 = .ok (.aload_n 0, 1) := by decide +kernel
theorem dX7_copy_78 : decode cX7_copy 78 = .ok (.getfield 7, 3) := by decide +kernel
theorem dX7_copy_81 : decode cX7_copy 81 = .ok (.bipush 40, 2) := by decide +kernel
theorem dX7_copy_83 : decode cX7_copy 83 = .ok (.iload_n 2, 1) := by decide +kernel
theorem dX7_copy_84 : decode cX7_copy 84 = .ok (.iadd, 1) := by decide +kernel
theorem dX7_copy_85 : decode cX7_copy 85 = .ok (.iaload, 1) := by decide +kernel
theorem dX7_copy_86 : decode cX7_copy 86 = .ok (.invokevirtual 202, 3) := by decide +kernel
theorem dX7_copy_89 : decode cX7_copy 89 = .ok (.ireturn, 1) := by decide +kernel
theorem dX7_write_0 : decode cX7_write 0 = .ok (.aload_n 0, 1) := by decide +kernel
theorem dX7_write_1 : decode cX7_write 1 = .ok (.iload_n 1, 1) := by decide +kernel
theorem dX7_write_2 : decode cX7_write 2 = .ok (.invokevirtual 169, 3) := by decide +kernel
theorem dX7_write_5 : decode cX7_write 5 = .ok (.ifCond .eq 11, 3) := by decide +kernel
theorem dX7_write_8 : decode cX7_write 8 = .ok (.aload_n 0, 1) := by decide +kernel
theorem dX7_write_9 : decode cX7_write 9 = .ok (.iload_n 2, 1) := by decide +kernel
theorem dX7_write_10 : decode cX7_write 10 = .ok (.invokevirtual 161, 3) := by decide +kernel
theorem dX7_write_13 : decode cX7_write 13 = .ok (.ifCond .ne 6, 3) := by decide +kernel
theorem dX7_write_16 : decode cX7_write 16 = .ok (.ldc 165, 2) := by decide +kernel
theorem dX7_write_18 : decode cX7_write 18 = .ok (.ireturn, 1) := by decide +kernel
theorem dX7_write_19 : decode cX7_write 19 = .ok (.aload_n 0, 1) := by decide +kernel
theorem dX7_write_20 : decode cX7_write 20 = .ok (.getfield 7, 3) := by decide +kernel
theorem dX7_write_23 : decode cX7_write 23 = .ok (.sipush 160, 3) := by decide +kernel
theorem dX7_write_26 : decode cX7_write 26 = .ok (.bipush 16, 2) := by decide +kernel
theorem dX7_write_28 : decode cX7_write 28 = .ok (.iload_n 1, 1) := by decide +kernel
theorem dX7_write_29 : decode cX7_write 29 = .ok (.imul, 1) := by decide +kernel
theorem dX7_write_30 : decode cX7_write 30 = .ok (.iadd, 1) := by decide +kernel
theorem dX7_write_31 : decode cX7_write 31 = .ok (.iload_n 2, 1) := by decide +kernel
theorem dX7_write_32 : decode cX7_write 32 = .ok (.iadd, 1) := by decide +kernel
theorem dX7_write_33 : decode cX7_write 33 = .ok (.iaload, 1) := by decide +kernel
theorem dX7_write_34 : decode cX7_write 34 = .ok (.istore_n 3, 1) := by decide +kernel
theorem dX7_write_35 : decode cX7_write 35 = .ok (.aload_n 0, 1) := by decide +kernel
theorem dX7_write_36 : decode cX7_write 36 = .ok (.getfield 23, 3) := by decide +kernel
theorem dX7_write_39 : decode cX7_write 39 = .ok (.iload_n 1, 1) := by decide +kernel
theorem dX7_write_40 : decode cX7_write 40 = .ok (.iaload, 1) := by decide +kernel
theorem dX7_write_41 : decode cX7_write 41 = .ok (.iconst 2, 1) := by decide +kernel
theorem dX7_write_42 : decode cX7_write 42 = .ok (.if_icmp .ne 7, 3) := by decide +kernel
theorem dX7_write_45 : decode cX7_write 45 = .ok (.iload_n 3, 1) := by decide +kernel
theorem dX7_write_46 : decode cX7_write 46 = .ok (.ifCond .ge 6, 3) := by decide +kernel
theorem dX7_write_49 : decode cX7_write 49 = .ok (.ldc 187, 2) := by decide +kernel
theorem dX7_write_51 : decode cX7_write 51 = .ok (.ireturn, 1) := by decide +kernel
theorem dX7_write_52 : decode cX7_write 52 = .ok (.aload_n 0, 1) := by decide +kernel
theorem dX7_write_53 : decode cX7_write 53 = .ok (.getfield 7, 3) := by decide +kernel
theorem dX7_write_56 : decode cX7_write 56 = .ok (.sipush 1332, 3) := by decide +kernel
theorem dX7_write_59 : decode cX7_write 59 = .ok (.iaload, 1) := by decide +kernel
theorem dX7_write_60 : decode cX7_write 60 = .ok (.bipush 40, 2) := by decide +kernel
theorem dX7_write_62 : decode cX7_write 62 = .ok (.if_icmp .ne 8, 3) := by decide +kernel
theorem dX7_write_65 : decode cX7_write 65 = .ok (.ldc 67, 2) := by decide +kernel
theorem dX7_write_67 : decode cX7_write 67 = .ok (.goto 10, 3) := by decide +kernel
theorem dX7_write_70 : decode cX7_write 70 = .ok (.aload_n 0, 1) := by decide +kernel
theorem dX7_write_71 : decode cX7_write 71 = .ok (.iload_n 1, 1) := by decide +kernel
theorem dX7_write_72 : decode cX7_write 72 = .ok (.iload_n 2, 1) := by decide +kernel
theorem dX7_write_73 : decode cX7_write 73 = .ok (.iload_n 3, 1) := by decide +kernel
theorem dX7_write_74 : decode cX7_write 74 = .ok (.invokevirtual 202, 3) := by decide +kernel
theorem dX7_write_77 : decode cX7_write 77 = .ok (.ireturn, 1) := by decide +kernel
theorem dX7_teach_0 : decode cX7_teach 0 = .ok (.aload_n 0, 1) := by decide +kernel
theorem dX7_teach_1 : decode cX7_teach 1 = .ok (.iload_n 1, 1) := by decide +kernel
theorem dX7_teach_2 : decode cX7_teach 2 = .ok (.invokevirtual 169, 3) := by decide +kernel
theorem dX7_teach_5 : decode cX7_teach 5 = .ok (.ifCond .eq 24, 3) := by decide +kernel
theorem dX7_teach_8 : decode cX7_teach 8 = .ok (.aload_n 0, 1) := by decide +kernel
theorem dX7_teach_9 : decode cX7_teach 9 = .ok (.iload_n 2, 1) := by decide +kernel
theorem dX7_teach_10 : decode cX7_teach 10 = .ok (.invokevirtual 169, 3) := by decide +kernel
theorem dX7_teach_13 : decode cX7_teach 13 = .ok (.ifCond .eq 16, 3) := by decide +kernel
theorem dX7_teach_16 : decode cX7_teach 16 = .ok (.iload_n 1, 1) := by decide +kernel
theorem dX7_teach_17 : decode cX7_teach 17 = .ok (.iload_n 2, 1) := by decide +kernel
theorem dX7_teach_18 : decode cX7_teach 18 = .ok (.if_icmp .eq 11, 3) := by decide +kernel
theorem dX7_teach_21 : decode cX7_teach 21 = .ok (.aload_n 0, 1) := by decide +kernel
theorem dX7_teach_22 : decode cX7_teach 22 = .ok (.iload_n 3, 1) := by decide +kernel
theorem dX7_teach_23 : decode cX7_teach 23 = .ok (.invokevirtual 161, 3) := by decide +kernel
theorem dX7_teach_26 : decode cX7_teach 26 = .ok (.ifCond .ne 6, 3) := by decide +kernel
theorem dX7_teach_29 : decode cX7_teach 29 = .ok (.ldc 165, 2) := by decide +kernel
theorem dX7_teach_31 : decode cX7_teach 31 = .ok (.ireturn, 1) := by decide +kernel
theorem dX7_teach_32 : decode cX7_teach 32 = .ok (.aload_n 0, 1) := by decide +kernel
theorem dX7_teach_33 : decode cX7_teach 33 = .ok (.getfield 7, 3) := by decide +kernel
theorem dX7_teach_36 : decode cX7_teach 36 = .ok (.sipush 160, 3) := by decide +kernel
theorem dX7_teach_39 : decode cX7_teach 39 = .ok (.bipush 16, 2) := by decide +kernel
theorem dX7_teach_41 : decode cX7_teach 41 = .ok (.iload_n 1, 1) := by decide +kernel
theorem dX7_teach_42 : decode cX7_teach 42 = .ok (.imul, 1) := by decide +kernel
theorem dX7_teach_43 : decode cX7_teach 43 = .ok (.iadd, 1) := by decide +kernel
theorem dX7_teach_44 : decode cX7_teach 44 = .ok (.iload_n 3, 1) := by decide +kernel
theorem dX7_teach_45 : decode cX7_teach 45 = .ok (.iadd, 1) := by decide +kernel
theorem dX7_teach_46 : decode cX7_teach 46 = .ok (.iaload, 1) := by decide +kernel
theorem dX7_teach_47 : decode cX7_teach 47 = .ok (.istore 4, 2) := by decide +kernel
theorem dX7_teach_49 : decode cX7_teach 49 = .ok (.aload_n 0, 1) := by decide +kernel
theorem dX7_teach_50 : decode cX7_teach 50 = .ok (.getfield 23, 3) := by decide +kernel
theorem dX7_teach_53 : decode cX7_teach 53 = .ok (.iload_n 1, 1) := by decide +kernel
theorem dX7_teach_54 : decode cX7_teach 54 = .ok (.iaload, 1) := by decide +kernel
theorem dX7_teach_55 : decode cX7_teach 55 = .ok (.iconst 4, 1) := by decide +kernel
theorem dX7_teach_56 : decode cX7_teach 56 = .ok (.if_icmp .ne 8, 3) := by decide +kernel
theorem dX7_teach_59 : decode cX7_teach 59 = .ok (.iload 4, 2) := by decide +kernel
theorem dX7_teach_61 : decode cX7_teach 61 = .ok (.ifCond .ge 6, 3) := by decide +kernel
theorem dX7_teach_64 : decode cX7_teach 64 = .ok (.ldc 187, 2) := by decide +kernel
theorem dX7_teach_66 : decode cX7_teach 66 = .ok (.ireturn, 1) := by decide +kernel
theorem dX7_teach_67 : decode cX7_teach 67 = .ok (.aload_n 0, 1) := by decide +kernel
theorem dX7_teach_68 : decode cX7_teach 68 = .ok (.iconst 0, 1) := by decide +kernel
theorem dX7_teach_69 : decode cX7_teach 69 = .ok (.iload_n 1, 1) := by decide +kernel
theorem dX7_teach_70 : decode cX7_teach 70 = .ok (.iload_n 3, 1) := by decide +kernel
theorem dX7_teach_71 : decode cX7_teach 71 = .ok (.iload 4, 2) := by decide +kernel
theorem dX7_teach_73 : decode cX7_teach 73 = .ok (.invokevirtual 183, 3) := by decide +kernel
theorem dX7_teach_76 : decode cX7_teach 76 = .ok (.aload_n 0, 1) := by decide +kernel
theorem dX7_teach_77 : decode cX7_teach 77 = .ok (.iconst 0, 1) := by decide +kernel
theorem dX7_teach_78 : decode cX7_teach 78 = .ok (.iload_n 2, 1) := by decide +kernel
theorem dX7_teach_79 : decode cX7_teach 79 = .ok (.iload_n 3, 1) := by decide +kernel
theorem dX7_teach_80 : decode cX7_teach 80 = .ok (.iload 4, 2) := by decide +kernel
theorem dX7_teach_82 : decode cX7_teach 82 = .ok (.invokevirtual 183, 3) := by decide +kernel
theorem dX7_teach_85 : decode cX7_teach 85 = .ok (.iload 4, 2) := by decide +kernel
theorem dX7_teach_87 : decode cX7_teach 87 = .ok (.ireturn, 1) := by decide +kernel
theorem dX7_darken_0 : decode cX7_darken 0 = .ok (.aload_n 0, 1) := by decide +kernel
theorem dX7_darken_1 : decode cX7_darken 1 = .ok (.getfield 7, 3) := by decide +kernel
theorem dX7_darken_4 : decode cX7_darken 4 = .ok (.iload_n 1, 1) := by decide +kernel
theorem dX7_darken_5 : decode cX7_darken 5 = .ok (.sipush 1334, 3) := by decide +kernel
theorem dX7_darken_8 : decode cX7_darken 8 = .ok (.iadd, 1) := by decide +kernel
theorem dX7_darken_9 : decode cX7_darken 9 = .ok (.iaload, 1) := by decide +kernel
theorem dX7_darken_10 : decode cX7_darken 10 = .ok (.sipush 9999, 3) := by decide +kernel
theorem dX7_darken_13 : decode cX7_darken 13 = .ok (.if_icmp .ge 138, 3) := by decide +kernel
theorem dX7_darken_16 : decode cX7_darken 16 = .ok (.aload_n 0, 1) := by decide +kernel
theorem dX7_darken_17 : decode cX7_darken 17 = .ok (.getfield 7, 3) := by decide +kernel
theorem dX7_darken_20 : decode cX7_darken 20 = .ok (.iload_n 1, 1) := by decide +kernel
theorem dX7_darken_21 : decode cX7_darken 21 = .ok (.sipush 1334, 3) := by decide +kernel
theorem dX7_darken_24 : decode cX7_darken 24 = .ok (.iadd, 1) := by decide +kernel
theorem dX7_darken_25 : decode cX7_darken 25 = .ok (.dup2, 1) := by decide +kernel
theorem dX7_darken_26 : decode cX7_darken 26 = .ok (.iaload, 1) := by decide +kernel
theorem dX7_darken_27 : decode cX7_darken 27 = .ok (.iconst 1, 1) := by decide +kernel
theorem dX7_darken_28 : decode cX7_darken 28 = .ok (.iadd, 1) := by decide +kernel
theorem dX7_darken_29 : decode cX7_darken 29 = .ok (.iastore, 1) := by decide +kernel
theorem dX7_darken_30 : decode cX7_darken 30 = .ok (.iconst 0, 1) := by decide +kernel
theorem dX7_darken_31 : decode cX7_darken 31 = .ok (.istore_n 2, 1) := by decide +kernel
theorem dX7_darken_32 : decode cX7_darken 32 = .ok (.iload_n 2, 1) := by decide +kernel
theorem dX7_darken_33 : decode cX7_darken 33 = .ok (.aload_n 0, 1) := by decide +kernel
theorem dX7_darken_34 : decode cX7_darken 34 = .ok (.getfield 29, 3) := by decide +kernel
theorem dX7_darken_37 : decode cX7_darken 37 = .ok (.iconst 1, 1) := by decide +kernel
theorem dX7_darken_38 : decode cX7_darken 38 = .ok (.iaload, 1) := by decide +kernel
theorem dX7_darken_39 : decode cX7_darken 39 = .ok (.if_icmp .ge 112, 3) := by decide +kernel
theorem dX7_darken_42 : decode cX7_darken 42 = .ok (.iconst 0, 1) := by decide +kernel
theorem dX7_darken_43 : decode cX7_darken 43 = .ok (.istore_n 3, 1) := by decide +kernel
theorem dX7_darken_44 : decode cX7_darken 44 = .ok (.iload_n 3, 1) := by decide +kernel
theorem dX7_darken_45 : decode cX7_darken 45 = .ok (.aload_n 0, 1) := by decide +kernel
theorem dX7_darken_46 : decode cX7_darken 46 = .ok (.getfield 29, 3) := by decide +kernel
theorem dX7_darken_49 : decode cX7_darken 49 = .ok (.iconst 0, 1) := by decide +kernel
theorem dX7_darken_50 : decode cX7_darken 50 = .ok (.iaload, 1) := by decide +kernel
theorem dX7_darken_51 : decode cX7_darken 51 = .ok (.if_icmp .ge 94, 3) := by decide +kernel
theorem dX7_darken_54 : decode cX7_darken 54 = .ok (.bipush 16, 2) := by decide +kernel
theorem dX7_darken_56 : decode cX7_darken 56 = .ok (.iload_n 2, 1) := by decide +kernel
theorem dX7_darken_57 : decode cX7_darken 57 = .ok (.imul, 1) := by decide +kernel
theorem dX7_darken_58 : decode cX7_darken 58 = .ok (.iload_n 3, 1) := by decide +kernel
theorem dX7_darken_59 : decode cX7_darken 59 = .ok (.iadd, 1) := by decide +kernel
theorem dX7_darken_60 : decode cX7_darken 60 = .ok (.istore 4, 2) := by decide +kernel
theorem dX7_darken_62 : decode cX7_darken 62 = .ok (.aload_n 0, 1) := by decide +kernel
theorem dX7_darken_63 : decode cX7_darken 63 = .ok (.getfield 7, 3) := by decide +kernel
theorem dX7_darken_66 : decode cX7_darken 66 = .ok (.iload_n 1, 1) := by decide +kernel
theorem dX7_darken_67 : decode cX7_darken 67 = .ok (.sipush 160, 3) := by decide +kernel
theorem dX7_darken_70 : decode cX7_darken 70 = .ok (.iadd, 1) := by decide +kernel
theorem dX7_darken_71 : decode cX7_darken 71 = .ok (.iload 4, 2) := by decide +kernel
theorem dX7_darken_73 : decode cX7_darken 73 = .ok (.iadd, 1) := by decide +kernel
theorem dX7_darken_74 : decode cX7_darken 74 = .ok (.iaload, 1) := by decide +kernel
theorem dX7_darken_75 : decode cX7_darken 75 = .ok (.ifCond .lt 64, 3) := by decide +kernel
theorem dX7_darken_78 : decode cX7_darken 78 = .ok (.aload_n 0, 1) := by decide +kernel
theorem dX7_darken_79 : decode cX7_darken 79 = .ok (.getfield 7, 3) := by decide +kernel
theorem dX7_darken_82 : decode cX7_darken 82 = .ok (.iload_n 1, 1) := by decide +kernel
theorem dX7_darken_83 : decode cX7_darken 83 = .ok (.sipush 1334, 3) := by decide +kernel
theorem dX7_darken_86 : decode cX7_darken 86 = .ok (.iadd, 1) := by decide +kernel
theorem dX7_darken_87 : decode cX7_darken 87 = .ok (.iaload, 1) := by decide +kernel
theorem dX7_darken_88 : decode cX7_darken 88 = .ok (.aload_n 0, 1) := by decide +kernel
theorem dX7_darken_89 : decode cX7_darken 89 = .ok (.getfield 7, 3) := by decide +kernel
theorem dX7_darken_92 : decode cX7_darken 92 = .ok (.iload_n 1, 1) := by decide +kernel
theorem dX7_darken_93 : decode cX7_darken 93 = .ok (.sipush 288, 3) := by decide +kernel
theorem dX7_darken_96 : decode cX7_darken 96 = .ok (.iadd, 1) := by decide +kernel
theorem dX7_darken_97 : decode cX7_darken 97 = .ok (.iload 4, 2) := by decide +kernel
theorem dX7_darken_99 : decode cX7_darken 99 = .ok (.iadd, 1) := by decide +kernel
theorem dX7_darken_100 : decode cX7_darken 100 = .ok (.iaload, 1) := by decide +kernel
theorem dX7_darken_101 : decode cX7_darken 101 = .ok (.isub, 1) := by decide +kernel
theorem dX7_darken_102 : decode cX7_darken 102 = .ok (.aload_n 0, 1) := by decide +kernel
theorem dX7_darken_103 : decode cX7_darken 103 = .ok (.getfield 26, 3) := by decide +kernel
theorem dX7_darken_106 : decode cX7_darken 106 = .ok (.iload_n 2, 1) := by decide +kernel
theorem dX7_darken_107 : decode cX7_darken 107 = .ok (.iaload, 1) := by decide +kernel
theorem dX7_darken_108 : decode cX7_darken 108 = .ok (.if_icmp .lt 31, 3) := by decide +kernel
theorem dX7_darken_111 : decode cX7_darken 111 = .ok (.aload_n 0, 1) := by decide +kernel
theorem dX7_darken_112 : decode cX7_darken 112 = .ok (.getfield 7, 3) := by decide +kernel
theorem dX7_darken_115 : decode cX7_darken 115 = .ok (.iload_n 1, 1) := by decide +kernel
theorem dX7_darken_116 : decode cX7_darken 116 = .ok (.sipush 160, 3) := by decide +kernel
theorem dX7_darken_119 : decode cX7_darken 119 = .ok (.iadd, 1) := by decide +kernel
theorem dX7_darken_120 : decode cX7_darken 120 = .ok (.iload 4, 2) := by decide +kernel
theorem dX7_darken_122 : decode cX7_darken 122 = .ok (.iadd, 1) := by decide +kernel
theorem dX7_darken_123 : decode cX7_darken 123 = .ok (.iconst (-1), 1) := by decide +kernel
theorem dX7_darken_124 : decode cX7_darken 124 = .ok (.iastore, 1) := by decide +kernel
theorem dX7_darken_125 : decode cX7_darken 125 = .ok (.aload_n 0, 1) := by decide +kernel
theorem dX7_darken_126 : decode cX7_darken 126 = .ok (.getfield 7, 3) := by decide +kernel
theorem dX7_darken_129 : decode cX7_darken 129 = .ok (.iload_n 1, 1) := by decide +kernel
theorem dX7_darken_130 : decode cX7_darken 130 = .ok (.sipush 288, 3) := by decide +kernel
theorem dX7_darken_133 : decode cX7_darken 133 = .ok (.iadd, 1) := by decide +kernel
theorem dX7_darken_134 : decode cX7_darken 134 = .ok (.iload 4, 2) := by decide +kernel
theorem dX7_darken_136 : decode cX7_darken 136 = .ok (.iadd, 1) := by decide +kernel
theorem dX7_darken_137 : decode cX7_darken 137 = .ok (.iconst (-1), 1) := by decide +kernel
theorem dX7_darken_138 : decode cX7_darken 138 = .ok (.iastore, 1) := by decide +kernel
theorem dX7_darken_139 : decode cX7_darken 139 = .ok (.iinc 3 1, 3) := by decide +kernel
theorem dX7_darken_142 : decode cX7_darken 142 = .ok (.goto (-98), 3) := by decide +kernel
theorem dX7_darken_145 : decode cX7_darken 145 = .ok (.iinc 2 1, 3) := by decide +kernel
theorem dX7_darken_148 : decode cX7_darken 148 = .ok (.goto (-116), 3) := by decide +kernel
theorem dX7_darken_151 : decode cX7_darken 151 = .ok (.return_, 1) := by decide +kernel
theorem dX7_dusk_0 : decode cX7_dusk 0 = .ok (.iload_n 1, 1) := by decide +kernel
theorem dX7_dusk_1 : decode cX7_dusk 1 = .ok (.i2l, 1) := by decide +kernel
theorem dX7_dusk_2 : decode cX7_dusk 2 = .ok (.lconst 1, 1) := by decide +kernel
theorem dX7_dusk_3 : decode cX7_dusk 3 = .ok (.ldc2_w 206, 3) := by decide +kernel
theorem dX7_dusk_6 : decode cX7_dusk 6 = .ok (.invokestatic 59, 3) := by decide +kernel
theorem dX7_dusk_9 : decode cX7_dusk 9 = .ok (.ifCond .ne 6, 3) := by decide +kernel
theorem dX7_dusk_12 : decode cX7_dusk 12 = .ok (.ldc 63, 2) := by decide +kernel
theorem dX7_dusk_14 : decode cX7_dusk 14 = .ok (.ireturn, 1) := by decide +kernel
theorem dX7_dusk_15 : decode cX7_dusk 15 = .ok (.iconst 0, 1) := by decide +kernel
theorem dX7_dusk_16 : decode cX7_dusk 16 = .ok (.istore_n 2, 1) := by decide +kernel
theorem dX7_dusk_17 : decode cX7_dusk 17 = .ok (.iload_n 2, 1) := by decide +kernel
theorem dX7_dusk_18 : decode cX7_dusk 18 = .ok (.iload_n 1, 1) := by decide +kernel
theorem dX7_dusk_19 : decode cX7_dusk 19 = .ok (.if_icmp .ge 14, 3) := by decide +kernel
theorem dX7_dusk_22 : decode cX7_dusk 22 = .ok (.aload_n 0, 1) := by decide +kernel
theorem dX7_dusk_23 : decode cX7_dusk 23 = .ok (.iconst 0, 1) := by decide +kernel
theorem dX7_dusk_24 : decode cX7_dusk 24 = .ok (.invokevirtual 208, 3) := by decide +kernel
theorem dX7_dusk_27 : decode cX7_dusk 27 = .ok (.iinc 2 1, 3) := by decide +kernel
theorem dX7_dusk_30 : decode cX7_dusk 30 = .ok (.goto (-13), 3) := by decide +kernel
theorem dX7_dusk_33 : decode cX7_dusk 33 = .ok (.aload_n 0, 1) := by decide +kernel
theorem dX7_dusk_34 : decode cX7_dusk 34 = .ok (.getfield 7, 3) := by decide +kernel
theorem dX7_dusk_37 : decode cX7_dusk 37 = .ok (.sipush 1334, 3) := by decide +kernel
theorem dX7_dusk_40 : decode cX7_dusk 40 = .ok (.iaload, 1) := by decide +kernel
theorem dX7_dusk_41 : decode cX7_dusk 41 = .ok (.ireturn, 1) := by decide +kernel
theorem dX7_runDays_0 : decode cX7_runDays 0 = .ok (.iconst 0, 1) := by decide +kernel
theorem dX7_runDays_1 : decode cX7_runDays 1 = .ok (.istore_n 3, 1) := by decide +kernel
theorem dX7_runDays_2 : decode cX7_runDays 2 = .ok (.iload_n 3, 1) := by decide +kernel
theorem dX7_runDays_3 : decode cX7_runDays 3 = .ok (.iload_n 2, 1) := by decide +kernel
theorem dX7_runDays_4 : decode cX7_runDays 4 = .ok (.if_icmp .ge 93, 3) := by decide +kernel
theorem dX7_runDays_7 : decode cX7_runDays 7 = .ok (.aload_n 0, 1) := by decide +kernel
theorem dX7_runDays_8 : decode cX7_runDays 8 = .ok (.getfield 7, 3) := by decide +kernel
theorem dX7_runDays_11 : decode cX7_runDays 11 = .ok (.iload_n 1, 1) := by decide +kernel
theorem dX7_runDays_12 : decode cX7_runDays 12 = .ok (.sipush 1334, 3) := by decide +kernel
theorem dX7_runDays_15 : decode cX7_runDays 15 = .ok (.iadd, 1) := by decide +kernel
theorem dX7_runDays_16 : decode cX7_runDays 16 = .ok (.iaload, 1) := by decide +kernel
theorem dX7_runDays_17 : decode cX7_runDays 17 = .ok (.sipush 9999, 3) := by decide +kernel
theorem dX7_runDays_20 : decode cX7_runDays 20 = .ok (.if_icmp .ge 77, 3) := by decide +kernel
theorem dX7_runDays_23 : decode cX7_runDays 23 = .ok (.iconst 0, 1) := by decide +kernel
theorem dX7_runDays_24 : decode cX7_runDays 24 = .ok (.istore 4, 2) := by decide +kernel
theorem dX7_runDays_26 : decode cX7_runDays 26 = .ok (.iload 4, 2) := by decide +kernel
theorem dX7_runDays_28 : decode cX7_runDays 28 = .ok (.aload_n 0, 1) := by decide +kernel
theorem dX7_runDays_29 : decode cX7_runDays 29 = .ok (.getfield 29, 3) := by decide +kernel
theorem dX7_runDays_32 : decode cX7_runDays 32 = .ok (.iconst 1, 1) := by decide +kernel
theorem dX7_runDays_33 : decode cX7_runDays 33 = .ok (.iaload, 1) := by decide +kernel
theorem dX7_runDays_34 : decode cX7_runDays 34 = .ok (.if_icmp .ge 52, 3) := by decide +kernel
theorem dX7_runDays_37 : decode cX7_runDays 37 = .ok (.aload_n 0, 1) := by decide +kernel
theorem dX7_runDays_38 : decode cX7_runDays 38 = .ok (.iload_n 1, 1) := by decide +kernel
theorem dX7_runDays_39 : decode cX7_runDays 39 = .ok (.aload_n 0, 1) := by decide +kernel
theorem dX7_runDays_40 : decode cX7_runDays 40 = .ok (.getfield 7, 3) := by decide +kernel
theorem dX7_runDays_43 : decode cX7_runDays 43 = .ok (.iload_n 1, 1) := by decide +kernel
theorem dX7_runDays_44 : decode cX7_runDays 44 = .ok (.sipush 1332, 3) := by decide +kernel
theorem dX7_runDays_47 : decode cX7_runDays 47 = .ok (.iadd, 1) := by decide +kernel
theorem dX7_runDays_48 : decode cX7_runDays 48 = .ok (.iaload, 1) := by decide +kernel
theorem dX7_runDays_49 : decode cX7_runDays 49 = .ok (.invokevirtual 199, 3) := by decide +kernel
theorem dX7_runDays_52 : decode cX7_runDays 52 = .ok (.istore 5, 2) := by decide +kernel
theorem dX7_runDays_54 : decode cX7_runDays 54 = .ok (.aload_n 0, 1) := by decide +kernel
theorem dX7_runDays_55 : decode cX7_runDays 55 = .ok (.getfield 7, 3) := by decide +kernel
theorem dX7_runDays_58 : decode cX7_runDays 58 = .ok (.iload_n 1, 1) := by decide +kernel
theorem dX7_runDays_59 : decode cX7_runDays 59 = .ok (.bipush 80, 2) := by decide +kernel
theorem dX7_runDays_61 : decode cX7_runDays 61 = .ok (.iadd, 1) := by decide +kernel
theorem dX7_runDays_62 : decode cX7_runDays 62 = .ok (.iload 5, 2) := by decide +kernel
theorem dX7_runDays_64 : decode cX7_runDays 64 = .ok (.iadd, 1) := by decide +kernel
theorem dX7_runDays_65 : decode cX7_runDays 65 = .ok (.iaload, 1) := by decide +kernel
theorem dX7_runDays_66 : decode cX7_runDays 66 = .ok (.bipush 9, 2) := by decide +kernel
theorem dX7_runDays_68 : decode cX7_runDays 68 = .ok (.if_icmp .ge 12, 3) := by decide +kernel
theorem dX7_runDays_71 : decode cX7_runDays 71 = .ok (.aload_n 0, 1) := by decide +kernel
theorem dX7_runDays_72 : decode cX7_runDays 72 = .ok (.iload_n 1, 1) := by decide +kernel
theorem dX7_runDays_73 : decode cX7_runDays 73 = .ok (.iload 4, 2) := by decide +kernel
theorem dX7_runDays_75 : decode cX7_runDays 75 = .ok (.iload 5, 2) := by decide +kernel
theorem dX7_runDays_77 : decode cX7_runDays 77 = .ok (.invokevirtual 188, 3) := by decide +kernel
theorem dX7_runDays_80 : decode cX7_runDays 80 = .ok (.iinc 4 1, 3) := by decide +kernel
theorem dX7_runDays_83 : decode cX7_runDays 83 = .ok (.goto (-57), 3) := by decide +kernel
theorem dX7_runDays_86 : decode cX7_runDays 86 = .ok (.aload_n 0, 1) := by decide +kernel
theorem dX7_runDays_87 : decode cX7_runDays 87 = .ok (.iload_n 1, 1) := by decide +kernel
theorem dX7_runDays_88 : decode cX7_runDays 88 = .ok (.invokevirtual 208, 3) := by decide +kernel
theorem dX7_runDays_91 : decode cX7_runDays 91 = .ok (.iinc 3 1, 3) := by decide +kernel
theorem dX7_runDays_94 : decode cX7_runDays 94 = .ok (.goto (-92), 3) := by decide +kernel
theorem dX7_runDays_97 : decode cX7_runDays 97 = .ok (.return_, 1) := by decide +kernel
theorem dX7_run_0 : decode cX7_run 0 = .ok (.iload_n 1, 1) := by decide +kernel
theorem dX7_run_1 : decode cX7_run 1 = .ok (.i2l, 1) := by decide +kernel
theorem dX7_run_2 : decode cX7_run 2 = .ok (.lconst 1, 1) := by decide +kernel
theorem dX7_run_3 : decode cX7_run 3 = .ok (.ldc2_w 212, 3) := by decide +kernel
theorem dX7_run_6 : decode cX7_run 6 = .ok (.invokestatic 59, 3) := by decide +kernel
theorem dX7_run_9 : decode cX7_run 9 = .ok (.ifCond .ne 6, 3) := by decide +kernel
theorem dX7_run_12 : decode cX7_run 12 = .ok (.ldc 63, 2) := by decide +kernel
theorem dX7_run_14 : decode cX7_run 14 = .ok (.ireturn, 1) := by decide +kernel
theorem dX7_run_15 : decode cX7_run 15 = .ok (.aload_n 0, 1) := by decide +kernel
theorem dX7_run_16 : decode cX7_run 16 = .ok (.getfield 7, 3) := by decide +kernel
theorem dX7_run_19 : decode cX7_run 19 = .ok (.sipush 1332, 3) := by decide +kernel
theorem dX7_run_22 : decode cX7_run 22 = .ok (.iaload, 1) := by decide +kernel
theorem dX7_run_23 : decode cX7_run 23 = .ok (.ifCond .ne 6, 3) := by decide +kernel
theorem dX7_run_26 : decode cX7_run 26 = .ok (.ldc 187, 2) := by decide +kernel
theorem dX7_run_28 : decode cX7_run 28 = .ok (.ireturn, 1) := by decide +kernel
theorem dX7_run_29 : decode cX7_run 29 = .ok (.aload_n 0, 1) := by decide +kernel
theorem dX7_run_30 : decode cX7_run 30 = .ok (.iconst 0, 1) := by decide +kernel
theorem dX7_run_31 : decode cX7_run 31 = .ok (.iload_n 1, 1) := by decide +kernel
theorem dX7_run_32 : decode cX7_run 32 = .ok (.invokevirtual 214, 3) := by decide +kernel
theorem dX7_run_35 : decode cX7_run 35 = .ok (.iconst 0, 1) := by decide +kernel
theorem dX7_run_36 : decode cX7_run 36 = .ok (.istore_n 2, 1) := by decide +kernel
theorem dX7_run_37 : decode cX7_run 37 = .ok (.iconst 0, 1) := by decide +kernel
theorem dX7_run_38 : decode cX7_run 38 = .ok (.istore_n 3, 1) := by decide +kernel
theorem dX7_run_39 : decode cX7_run 39 = .ok (.iload_n 3, 1) := by decide +kernel
theorem dX7_run_40 : decode cX7_run 40 = .ok (.aload_n 0, 1) := by decide +kernel
theorem dX7_run_41 : decode cX7_run 41 = .ok (.getfield 7, 3) := by decide +kernel
theorem dX7_run_44 : decode cX7_run 44 = .ok (.sipush 1332, 3) := by decide +kernel
theorem dX7_run_47 : decode cX7_run 47 = .ok (.iaload, 1) := by decide +kernel
theorem dX7_run_48 : decode cX7_run 48 = .ok (.if_icmp .ge 34, 3) := by decide +kernel
theorem dX7_run_51 : decode cX7_run 51 = .ok (.iload_n 2, 1) := by decide +kernel
theorem dX7_run_52 : decode cX7_run 52 = .ok (.aload_n 0, 1) := by decide +kernel
theorem dX7_run_53 : decode cX7_run 53 = .ok (.getfield 7, 3) := by decide +kernel
theorem dX7_run_56 : decode cX7_run 56 = .ok (.bipush 80, 2) := by decide +kernel
theorem dX7_run_58 : decode cX7_run 58 = .ok (.iload_n 3, 1) := by decide +kernel
theorem dX7_run_59 : decode cX7_run 59 = .ok (.iadd, 1) := by decide +kernel
theorem dX7_run_60 : decode cX7_run 60 = .ok (.iaload, 1) := by decide +kernel
theorem dX7_run_61 : decode cX7_run 61 = .ok (.bipush 9, 2) := by decide +kernel
theorem dX7_run_63 : decode cX7_run 63 = .ok (.if_icmp .ne 7, 3) := by decide +kernel
theorem dX7_run_66 : decode cX7_run 66 = .ok (.iconst 1, 1) := by decide +kernel
theorem dX7_run_67 : decode cX7_run 67 = .ok (.goto 4, 3) := by decide +kernel
theorem dX7_run_70 : decode cX7_run 70 = .ok (.iconst 0, 1) := by decide +kernel
theorem dX7_run_71 : decode cX7_run 71 = .ok (.invokestatic 141, 3) := by decide +kernel
theorem dX7_run_74 : decode cX7_run 74 = .ok (.iadd, 1) := by decide +kernel
theorem dX7_run_75 : decode cX7_run 75 = .ok (.istore_n 2, 1) := by decide +kernel
theorem dX7_run_76 : decode cX7_run 76 = .ok (.iinc 3 1, 3) := by decide +kernel
theorem dX7_run_79 : decode cX7_run 79 = .ok (.goto (-40), 3) := by decide +kernel
theorem dX7_run_82 : decode cX7_run 82 = .ok (.iload_n 2, 1) := by decide +kernel
theorem dX7_run_83 : decode cX7_run 83 = .ok (.ireturn, 1) := by decide +kernel
theorem dX7_where_0 : decode cX7_where 0 = .ok (.aload_n 0, 1) := by decide +kernel
theorem dX7_where_1 : decode cX7_where 1 = .ok (.iload_n 1, 1) := by decide +kernel
theorem dX7_where_2 : decode cX7_where 2 = .ok (.invokevirtual 161, 3) := by decide +kernel
theorem dX7_where_5 : decode cX7_where 5 = .ok (.ifCond .ne 6, 3) := by decide +kernel
theorem dX7_where_8 : decode cX7_where 8 = .ok (.ldc 165, 2) := by decide +kernel
theorem dX7_where_10 : decode cX7_where 10 = .ok (.ireturn, 1) := by decide +kernel
theorem dX7_where_11 : decode cX7_where 11 = .ok (.aload_n 0, 1) := by decide +kernel
theorem dX7_where_12 : decode cX7_where 12 = .ok (.getfield 7, 3) := by decide +kernel
theorem dX7_where_15 : decode cX7_where 15 = .ok (.sipush 416, 3) := by decide +kernel
theorem dX7_where_18 : decode cX7_where 18 = .ok (.iload_n 1, 1) := by decide +kernel
theorem dX7_where_19 : decode cX7_where 19 = .ok (.iadd, 1) := by decide +kernel
theorem dX7_where_20 : decode cX7_where 20 = .ok (.iaload, 1) := by decide +kernel
theorem dX7_where_21 : decode cX7_where 21 = .ok (.bipush 9, 2) := by decide +kernel
theorem dX7_where_23 : decode cX7_where 23 = .ok (.if_icmp .ne 6, 3) := by decide +kernel
theorem dX7_where_26 : decode cX7_where 26 = .ok (.ldc 187, 2) := by decide +kernel
theorem dX7_where_28 : decode cX7_where 28 = .ok (.ireturn, 1) := by decide +kernel
theorem dX7_where_29 : decode cX7_where 29 = .ok (.aload_n 0, 1) := by decide +kernel
theorem dX7_where_30 : decode cX7_where 30 = .ok (.getfield 7, 3) := by decide +kernel
theorem dX7_where_33 : decode cX7_where 33 = .ok (.sipush 416, 3) := by decide +kernel
theorem dX7_where_36 : decode cX7_where 36 = .ok (.iload_n 1, 1) := by decide +kernel
theorem dX7_where_37 : decode cX7_where 37 = .ok (.iadd, 1) := by decide +kernel
theorem dX7_where_38 : decode cX7_where 38 = .ok (.dup2, 1) := by decide +kernel
theorem dX7_where_39 : decode cX7_where 39 = .ok (.iaload, 1) := by decide +kernel
theorem dX7_where_40 : decode cX7_where 40 = .ok (.iconst 1, 1) := by decide +kernel
theorem dX7_where_41 : decode cX7_where 41 = .ok (.iadd, 1) := by decide +kernel
theorem dX7_where_42 : decode cX7_where 42 = .ok (.iastore, 1) := by decide +kernel
theorem dX7_where_43 : decode cX7_where 43 = .ok (.iconst 0, 1) := by decide +kernel
theorem dX7_where_44 : decode cX7_where 44 = .ok (.istore_n 2, 1) := by decide +kernel
theorem dX7_where_45 : decode cX7_where 45 = .ok (.iload_n 2, 1) := by decide +kernel
theorem dX7_where_46 : decode cX7_where 46 = .ok (.aload_n 0, 1) := by decide +kernel
theorem dX7_where_47 : decode cX7_where 47 = .ok (.getfield 7, 3) := by decide +kernel
theorem dX7_where_50 : decode cX7_where 50 = .ok (.sipush 1332, 3) := by decide +kernel
theorem dX7_where_53 : decode cX7_where 53 = .ok (.iaload, 1) := by decide +kernel
theorem dX7_where_54 : decode cX7_where 54 = .ok (.if_icmp .ge 33, 3) := by decide +kernel
theorem dX7_where_57 : decode cX7_where 57 = .ok (.aload_n 0, 1) := by decide +kernel
theorem dX7_where_58 : decode cX7_where 58 = .ok (.getfield 7, 3) := by decide +kernel
theorem dX7_where_61 : decode cX7_where 61 = .ok (.iload_n 2, 1) := by decide +kernel
theorem dX7_where_62 : decode cX7_where 62 = .ok (.iaload, 1) := by decide +kernel
theorem dX7_where_63 : decode cX7_where 63 = .ok (.iload_n 1, 1) := by decide +kernel
theorem dX7_where_64 : decode cX7_where 64 = .ok (.if_icmp .ne 17, 3) := by decide +kernel
theorem dX7_where_67 : decode cX7_where 67 = .ok (.aload_n 0, 1) := by decide +kernel
theorem dX7_where_68 : decode cX7_where 68 = .ok (.getfield 7, 3) := by decide +kernel
theorem dX7_where_71 : decode cX7_where 71 = .ok (.bipush 80, 2) := by decide +kernel
theorem dX7_where_73 : decode cX7_where 73 = .ok (.iload_n 2, 1) := by decide +kernel
theorem dX7_where_74 : decode cX7_where 74 = .ok (.iadd, 1) := by decide +kernel
theorem dX7_where_75 : decode cX7_where 75 = .ok (.iaload, 1) := by decide +kernel
theorem dX7_where_76 : decode cX7_where 76 = .ok (.bipush 9, 2) := by decide +kernel
theorem dX7_where_78 : decode cX7_where 78 = .ok (.if_icmp .ne 9, 3) := by decide +kernel
theorem dX7_where_81 : decode cX7_where 81 = .ok (.iinc 2 1, 3) := by decide +kernel
theorem dX7_where_84 : decode cX7_where 84 = .ok (.goto (-39), 3) := by decide +kernel
theorem dX7_where_87 : decode cX7_where 87 = .ok (.iload_n 2, 1) := by decide +kernel
theorem dX7_where_88 : decode cX7_where 88 = .ok (.aload_n 0, 1) := by decide +kernel
theorem dX7_where_89 : decode cX7_where 89 = .ok (.getfield 7, 3) := by decide +kernel
theorem dX7_where_92 : decode cX7_where 92 = .ok (.sipush 1332, 3) := by decide +kernel
theorem dX7_where_95 : decode cX7_where 95 = .ok (.iaload, 1) := by decide +kernel
theorem dX7_where_96 : decode cX7_where 96 = .ok (.if_icmp .ne 7, 3) := by decide +kernel
theorem dX7_where_99 : decode cX7_where 99 = .ok (.iconst (-1), 1) := by decide +kernel
theorem dX7_where_100 : decode cX7_where 100 = .ok (.goto 4, 3) := by decide +kernel
theorem dX7_where_103 : decode cX7_where 103 = .ok (.iload_n 2, 1) := by decide +kernel
theorem dX7_where_104 : decode cX7_where 104 = .ok (.ireturn, 1) := by decide +kernel
theorem dX7_request_0 : decode cX7_request 0 = .ok (.aload_n 0, 1) := by decide +kernel
theorem dX7_request_1 : decode cX7_request 1 = .ok (.iload_n 1, 1) := by decide +kernel
theorem dX7_request_2 : decode cX7_request 2 = .ok (.invokevirtual 169, 3) := by decide +kernel
theorem dX7_request_5 : decode cX7_request 5 = .ok (.ifCond .eq 11, 3) := by decide +kernel
theorem dX7_request_8 : decode cX7_request 8 = .ok (.aload_n 0, 1) := by decide +kernel
theorem dX7_request_9 : decode cX7_request 9 = .ok (.iload_n 2, 1) := by decide +kernel
theorem dX7_request_10 : decode cX7_request 10 = .ok (.invokevirtual 161, 3) := by decide +kernel
theorem dX7_request_13 : decode cX7_request 13 = .ok (.ifCond .ne 6, 3) := by decide +kernel
theorem dX7_request_16 : decode cX7_request 16 = .ok (.ldc 165, 2) := by decide +kernel
theorem dX7_request_18 : decode cX7_request 18 = .ok (.ireturn, 1) := by decide +kernel
theorem dX7_request_19 : decode cX7_request 19 = .ok (.iload_n 3, 1) := by decide +kernel
theorem dX7_request_20 : decode cX7_request 20 = .ok (.i2l, 1) := by decide +kernel
theorem dX7_request_21 : decode cX7_request 21 = .ok (.lconst 0, 1) := by decide +kernel
theorem dX7_request_22 : decode cX7_request 22 = .ok (.ldc2_w 218, 3) := by decide +kernel
theorem dX7_request_25 : decode cX7_request 25 = .ok (.invokestatic 59, 3) := by decide +kernel
theorem dX7_request_28 : decode cX7_request 28 = .ok (.ifCond .ne 6, 3) := by decide +kernel
theorem dX7_request_31 : decode cX7_request 31 = .ok (.ldc 63, 2) := by decide +kernel
theorem dX7_request_33 : decode cX7_request 33 = .ok (.ireturn, 1) := by decide +kernel
theorem dX7_request_34 : decode cX7_request 34 = .ok (.aload_n 0, 1) := by decide +kernel
theorem dX7_request_35 : decode cX7_request 35 = .ok (.getfield 131, 3) := by decide +kernel
theorem dX7_request_38 : decode cX7_request 38 = .ok (.bipush 10, 2) := by decide +kernel
theorem dX7_request_40 : decode cX7_request 40 = .ok (.if_icmp .ne 6, 3) := by decide +kernel
theorem dX7_request_43 : decode cX7_request 43 = .ok (.ldc 67, 2) := by decide +kernel
theorem dX7_request_45 : decode cX7_request 45 = .ok (.ireturn, 1) := by decide +kernel
theorem dX7_request_46 : decode cX7_request 46 = .ok (.aload_n 0, 1) := by decide +kernel
theorem dX7_request_47 : decode cX7_request 47 = .ok (.getfield 42, 3) := by decide +kernel
theorem dX7_request_50 : decode cX7_request 50 = .ok (.aload_n 0, 1) := by decide +kernel
theorem dX7_request_51 : decode cX7_request 51 = .ok (.getfield 131, 3) := by decide +kernel
theorem dX7_request_54 : decode cX7_request 54 = .ok (.iload_n 1, 1) := by decide +kernel
theorem dX7_request_55 : decode cX7_request 55 = .ok (.iastore, 1) := by decide +kernel
theorem dX7_request_56 : decode cX7_request 56 = .ok (.aload_n 0, 1) := by decide +kernel
theorem dX7_request_57 : decode cX7_request 57 = .ok (.getfield 45, 3) := by decide +kernel
theorem dX7_request_60 : decode cX7_request 60 = .ok (.aload_n 0, 1) := by decide +kernel
theorem dX7_request_61 : decode cX7_request 61 = .ok (.getfield 131, 3) := by decide +kernel
theorem dX7_request_64 : decode cX7_request 64 = .ok (.iload_n 2, 1) := by decide +kernel
theorem dX7_request_65 : decode cX7_request 65 = .ok (.iastore, 1) := by decide +kernel
theorem dX7_request_66 : decode cX7_request 66 = .ok (.aload_n 0, 1) := by decide +kernel
theorem dX7_request_67 : decode cX7_request 67 = .ok (.getfield 48, 3) := by decide +kernel
theorem dX7_request_70 : decode cX7_request 70 = .ok (.aload_n 0, 1) := by decide +kernel
theorem dX7_request_71 : decode cX7_request 71 = .ok (.getfield 131, 3) := by decide +kernel
theorem dX7_request_74 : decode cX7_request 74 = .ok (.iload_n 3, 1) := by decide +kernel
theorem dX7_request_75 : decode cX7_request 75 = .ok (.iastore, 1) := by decide +kernel
theorem dX7_request_76 : decode cX7_request 76 = .ok (.aload_n 0, 1) := by decide +kernel
theorem dX7_request_77 : decode cX7_request 77 = .ok (.dup, 1) := by decide +kernel
theorem dX7_request_78 : decode cX7_request 78 = .ok (.getfield 131, 3) := by decide +kernel
theorem dX7_request_81 : decode cX7_request 81 = .ok (.iconst 1, 1) := by decide +kernel
theorem dX7_request_82 : decode cX7_request 82 = .ok (.iadd, 1) := by decide +kernel
theorem dX7_request_83 : decode cX7_request 83 = .ok (.putfield 131, 3) := by decide +kernel
theorem dX7_request_86 : decode cX7_request 86 = .ok (.aload_n 0, 1) := by decide +kernel
theorem dX7_request_87 : decode cX7_request 87 = .ok (.getfield 131, 3) := by decide +kernel
theorem dX7_request_90 : decode cX7_request 90 = .ok (.iconst 1, 1) := by decide +kernel
theorem dX7_request_91 : decode cX7_request 91 = .ok (.isub, 1) := by decide +kernel
theorem dX7_request_92 : decode cX7_request 92 = .ok (.ireturn, 1) := by decide +kernel
theorem dX7_forget_0 : decode cX7_forget 0 = .ok (.aload_n 0, 1) := by decide +kernel
theorem dX7_forget_1 : decode cX7_forget 1 = .ok (.getfield 131, 3) := by decide +kernel
theorem dX7_forget_4 : decode cX7_forget 4 = .ok (.istore_n 1, 1) := by decide +kernel
theorem dX7_forget_5 : decode cX7_forget 5 = .ok (.aload_n 0, 1) := by decide +kernel
theorem dX7_forget_6 : decode cX7_forget 6 = .ok (.iconst 0, 1) := by decide +kernel
theorem dX7_forget_7 : decode cX7_forget 7 = .ok (.putfield 131, 3) := by decide +kernel
theorem dX7_forget_10 : decode cX7_forget 10 = .ok (.iload_n 1, 1) := by decide +kernel
theorem dX7_forget_11 : decode cX7_forget 11 = .ok (.ireturn, 1) := by decide +kernel
theorem dX7_palest_0 : decode cX7_palest 0 = .ok (.iconst (-1), 1) := by decide +kernel
theorem dX7_palest_1 : decode cX7_palest 1 = .ok (.istore_n 3, 1) := by decide +kernel
theorem dX7_palest_2 : decode cX7_palest 2 = .ok (.iconst 0, 1) := by decide +kernel
theorem dX7_palest_3 : decode cX7_palest 3 = .ok (.istore 4, 2) := by decide +kernel
theorem dX7_palest_5 : decode cX7_palest 5 = .ok (.iload 4, 2) := by decide +kernel
theorem dX7_palest_7 : decode cX7_palest 7 = .ok (.aload_n 0, 1) := by decide +kernel
theorem dX7_palest_8 : decode cX7_palest 8 = .ok (.getfield 7, 3) := by decide +kernel
theorem dX7_palest_11 : decode cX7_palest 11 = .ok (.iload_n 1, 1) := by decide +kernel
theorem dX7_palest_12 : decode cX7_palest 12 = .ok (.sipush 1332, 3) := by decide +kernel
theorem dX7_palest_15 : decode cX7_palest 15 = .ok (.iadd, 1) := by decide +kernel
theorem dX7_palest_16 : decode cX7_palest 16 = .ok (.iaload, 1) := by decide +kernel
theorem dX7_palest_17 : decode cX7_palest 17 = .ok (.if_icmp .ge 76, 3) := by decide +kernel
theorem dX7_palest_20 : decode cX7_palest 20 = .ok (.aload_n 0, 1) := by decide +kernel
theorem dX7_palest_21 : decode cX7_palest 21 = .ok (.getfield 7, 3) := by decide +kernel
theorem dX7_palest_24 : decode cX7_palest 24 = .ok (.iload_n 1, 1) := by decide +kernel
theorem dX7_palest_25 : decode cX7_palest 25 = .ok (.iload 4, 2) := by decide +kernel
theorem dX7_palest_27 : decode cX7_palest 27 = .ok (.iadd, 1) := by decide +kernel
theorem dX7_palest_28 : decode cX7_palest 28 = .ok (.iaload, 1) := by decide +kernel
theorem dX7_palest_29 : decode cX7_palest 29 = .ok (.iload_n 2, 1) := by decide +kernel
theorem dX7_palest_30 : decode cX7_palest 30 = .ok (.if_icmp .ne 55, 3) := by decide +kernel
theorem dX7_palest_33 : decode cX7_palest 33 = .ok (.aload_n 0, 1) := by decide +kernel
theorem dX7_palest_34 : decode cX7_palest 34 = .ok (.getfield 7, 3) := by decide +kernel
theorem dX7_palest_37 : decode cX7_palest 37 = .ok (.iload_n 1, 1) := by decide +kernel
theorem dX7_palest_38 : decode cX7_palest 38 = .ok (.bipush 80, 2) := by decide +kernel
theorem dX7_palest_40 : decode cX7_palest 40 = .ok (.iadd, 1) := by decide +kernel
theorem dX7_palest_41 : decode cX7_palest 41 = .ok (.iload 4, 2) := by decide +kernel
theorem dX7_palest_43 : decode cX7_palest 43 = .ok (.iadd, 1) := by decide +kernel
theorem dX7_palest_44 : decode cX7_palest 44 = .ok (.iaload, 1) := by decide +kernel
theorem dX7_palest_45 : decode cX7_palest 45 = .ok (.bipush 9, 2) := by decide +kernel
theorem dX7_palest_47 : decode cX7_palest 47 = .ok (.if_icmp .ge 38, 3) := by decide +kernel
theorem dX7_palest_50 : decode cX7_palest 50 = .ok (.iload_n 3, 1) := by decide +kernel
theorem dX7_palest_51 : decode cX7_palest 51 = .ok (.ifCond .lt 29, 3) := by decide +kernel
theorem dX7_palest_54 : decode cX7_palest 54 = .ok (.aload_n 0, 1) := by decide +kernel
theorem dX7_palest_55 : decode cX7_palest 55 = .ok (.getfield 7, 3) := by decide +kernel
theorem dX7_palest_58 : decode cX7_palest 58 = .ok (.iload_n 1, 1) := by decide +kernel
theorem dX7_palest_59 : decode cX7_palest 59 = .ok (.bipush 80, 2) := by decide +kernel
theorem dX7_palest_61 : decode cX7_palest 61 = .ok (.iadd, 1) := by decide +kernel
theorem dX7_palest_62 : decode cX7_palest 62 = .ok (.iload 4, 2) := by decide +kernel
theorem dX7_palest_64 : decode cX7_palest 64 = .ok (.iadd, 1) := by decide +kernel
theorem dX7_palest_65 : decode cX7_palest 65 = .ok (.iaload, 1) := by decide +kernel
theorem dX7_palest_66 : decode cX7_palest 66 = .ok (.aload_n 0, 1) := by decide +kernel
theorem dX7_palest_67 : decode cX7_palest 67 = .ok (.getfield 7, 3) := by decide +kernel
theorem dX7_palest_70 : decode cX7_palest 70 = .ok (.iload_n 1, 1) := by decide +kernel
theorem dX7_palest_71 : decode cX7_palest 71 = .ok (.bipush 80, 2) := by decide +kernel
theorem dX7_palest_73 : decode cX7_palest 73 = .ok (.iadd, 1) := by decide +kernel
theorem dX7_palest_74 : decode cX7_palest 74 = .ok (.iload_n 3, 1) := by decide +kernel
theorem dX7_palest_75 : decode cX7_palest 75 = .ok (.iadd, 1) := by decide +kernel
theorem dX7_palest_76 : decode cX7_palest 76 = .ok (.iaload, 1) := by decide +kernel
theorem dX7_palest_77 : decode cX7_palest 77 = .ok (.if_icmp .ge 8, 3) := by decide +kernel
theorem dX7_palest_80 : decode cX7_palest 80 = .ok (.iload 4, 2) := by decide +kernel
theorem dX7_palest_82 : decode cX7_palest 82 = .ok (.goto 4, 3) := by decide +kernel
theorem dX7_palest_85 : decode cX7_palest 85 = .ok (.iload_n 3, 1) := by decide +kernel
theorem dX7_palest_86 : decode cX7_palest 86 = .ok (.istore_n 3, 1) := by decide +kernel
theorem dX7_palest_87 : decode cX7_palest 87 = .ok (.iinc 4 1, 3) := by decide +kernel
theorem dX7_palest_90 : decode cX7_palest 90 = .ok (.goto (-85), 3) := by decide +kernel
theorem dX7_palest_93 : decode cX7_palest 93 = .ok (.iload_n 3, 1) := by decide +kernel
theorem dX7_palest_94 : decode cX7_palest 94 = .ok (.ireturn, 1) := by decide +kernel
theorem dX7_grantAll_0 : decode cX7_grantAll 0 = .ok (.iconst 0, 1) := by decide +kernel
theorem dX7_grantAll_1 : decode cX7_grantAll 1 = .ok (.istore_n 3, 1) := by decide +kernel
theorem dX7_grantAll_2 : decode cX7_grantAll 2 = .ok (.iconst 0, 1) := by decide +kernel
theorem dX7_grantAll_3 : decode cX7_grantAll 3 = .ok (.istore 4, 2) := by decide +kernel
theorem dX7_grantAll_5 : decode cX7_grantAll 5 = .ok (.iload 4, 2) := by decide +kernel
theorem dX7_grantAll_7 : decode cX7_grantAll 7 = .ok (.aload_n 0, 1) := by decide +kernel
theorem dX7_grantAll_8 : decode cX7_grantAll 8 = .ok (.getfield 131, 3) := by decide +kernel
theorem dX7_grantAll_11 : decode cX7_grantAll 11 = .ok (.if_icmp .ge 65, 3) := by decide +kernel
theorem dX7_grantAll_14 : decode cX7_grantAll 14 = .ok (.iload_n 2, 1) := by decide +kernel
theorem dX7_grantAll_15 : decode cX7_grantAll 15 = .ok (.iload 4, 2) := by decide +kernel
theorem dX7_grantAll_17 : decode cX7_grantAll 17 = .ok (.invokestatic 220, 3) := by decide +kernel
theorem dX7_grantAll_20 : decode cX7_grantAll 20 = .ok (.ifCond .eq 18, 3) := by decide +kernel
theorem dX7_grantAll_23 : decode cX7_grantAll 23 = .ok (.aload_n 0, 1) := by decide +kernel
theorem dX7_grantAll_24 : decode cX7_grantAll 24 = .ok (.iload_n 1, 1) := by decide +kernel
theorem dX7_grantAll_25 : decode cX7_grantAll 25 = .ok (.aload_n 0, 1) := by decide +kernel
theorem dX7_grantAll_26 : decode cX7_grantAll 26 = .ok (.getfield 45, 3) := by decide +kernel
theorem dX7_grantAll_29 : decode cX7_grantAll 29 = .ok (.iload 4, 2) := by decide +kernel
theorem dX7_grantAll_31 : decode cX7_grantAll 31 = .ok (.iaload, 1) := by decide +kernel
theorem dX7_grantAll_32 : decode cX7_grantAll 32 = .ok (.invokevirtual 223, 3) := by decide +kernel
theorem dX7_grantAll_35 : decode cX7_grantAll 35 = .ok (.goto 4, 3) := by decide +kernel
theorem dX7_grantAll_38 : decode cX7_grantAll 38 = .ok (.iconst (-1), 1) := by decide +kernel
theorem dX7_grantAll_39 : decode cX7_grantAll 39 = .ok (.istore 5, 2) := by decide +kernel
theorem dX7_grantAll_41 : decode cX7_grantAll 41 = .ok (.iload 5, 2) := by decide +kernel
theorem dX7_grantAll_43 : decode cX7_grantAll 43 = .ok (.ifCond .lt 27, 3) := by decide +kernel
theorem dX7_grantAll_46 : decode cX7_grantAll 46 = .ok (.aload_n 0, 1) := by decide +kernel
theorem dX7_grantAll_47 : decode cX7_grantAll 47 = .ok (.iload_n 1, 1) := by decide +kernel
theorem dX7_grantAll_48 : decode cX7_grantAll 48 = .ok (.aload_n 0, 1) := by decide +kernel
theorem dX7_grantAll_49 : decode cX7_grantAll 49 = .ok (.getfield 42, 3) := by decide +kernel
theorem dX7_grantAll_52 : decode cX7_grantAll 52 = .ok (.iload 4, 2) := by decide +kernel
theorem dX7_grantAll_54 : decode cX7_grantAll 54 = .ok (.iaload, 1) := by decide +kernel
theorem dX7_grantAll_55 : decode cX7_grantAll 55 = .ok (.iload 5, 2) := by decide +kernel
theorem dX7_grantAll_57 : decode cX7_grantAll 57 = .ok (.invokevirtual 188, 3) := by decide +kernel
theorem dX7_grantAll_60 : decode cX7_grantAll 60 = .ok (.iload_n 3, 1) := by decide +kernel
theorem dX7_grantAll_61 : decode cX7_grantAll 61 = .ok (.aload_n 0, 1) := by decide +kernel
theorem dX7_grantAll_62 : decode cX7_grantAll 62 = .ok (.getfield 48, 3) := by decide +kernel
theorem dX7_grantAll_65 : decode cX7_grantAll 65 = .ok (.iload 4, 2) := by decide +kernel
theorem dX7_grantAll_67 : decode cX7_grantAll 67 = .ok (.iaload, 1) := by decide +kernel
theorem dX7_grantAll_68 : decode cX7_grantAll 68 = .ok (.iadd, 1) := by decide +kernel
theorem dX7_grantAll_69 : decode cX7_grantAll 69 = .ok (.istore_n 3, 1) := by decide +kernel
theorem dX7_grantAll_70 : decode cX7_grantAll 70 = .ok (.iinc 4 1, 3) := by decide +kernel
theorem dX7_grantAll_73 : decode cX7_grantAll 73 = .ok (.goto (-68), 3) := by decide +kernel
theorem dX7_grantAll_76 : decode cX7_grantAll 76 = .ok (.iload_n 3, 1) := by decide +kernel
theorem dX7_grantAll_77 : decode cX7_grantAll 77 = .ok (.ireturn, 1) := by decide +kernel
theorem dX7_grant_0 : decode cX7_grant 0 = .ok (.iload_n 1, 1) := by decide +kernel
theorem dX7_grant_1 : decode cX7_grant 1 = .ok (.i2l, 1) := by decide +kernel
theorem dX7_grant_2 : decode cX7_grant 2 = .ok (.lconst 0, 1) := by decide +kernel
theorem dX7_grant_3 : decode cX7_grant 3 = .ok (.iconst 1, 1) := by decide +kernel
theorem dX7_grant_4 : decode cX7_grant 4 = .ok (.aload_n 0, 1) := by decide +kernel
theorem dX7_grant_5 : decode cX7_grant 5 = .ok (.getfield 131, 3) := by decide +kernel
theorem dX7_grant_8 : decode cX7_grant 8 = .ok (.ishl, 1) := by decide +kernel
theorem dX7_grant_9 : decode cX7_grant 9 = .ok (.iconst 1, 1) := by decide +kernel
theorem dX7_grant_10 : decode cX7_grant 10 = .ok (.isub, 1) := by decide +kernel
theorem dX7_grant_11 : decode cX7_grant 11 = .ok (.i2l, 1) := by decide +kernel
theorem dX7_grant_12 : decode cX7_grant 12 = .ok (.invokestatic 59, 3) := by decide +kernel
theorem dX7_grant_15 : decode cX7_grant 15 = .ok (.ifCond .eq 12, 3) := by decide +kernel
theorem dX7_grant_18 : decode cX7_grant 18 = .ok (.aload_n 0, 1) := by decide +kernel
theorem dX7_grant_19 : decode cX7_grant 19 = .ok (.iconst 0, 1) := by decide +kernel
theorem dX7_grant_20 : decode cX7_grant 20 = .ok (.iload_n 1, 1) := by decide +kernel
theorem dX7_grant_21 : decode cX7_grant 21 = .ok (.invokevirtual 226, 3) := by decide +kernel
theorem dX7_grant_24 : decode cX7_grant 24 = .ok (.goto 5, 3) := by decide +kernel
theorem dX7_grant_27 : decode cX7_grant 27 = .ok (.ldc 165, 2) := by decide +kernel
theorem dX7_grant_29 : decode cX7_grant 29 = .ok (.ireturn, 1) := by decide +kernel
theorem dX7_sumBy_0 : decode cX7_sumBy 0 = .ok (.aload_n 0, 1) := by decide +kernel
theorem dX7_sumBy_1 : decode cX7_sumBy 1 = .ok (.iconst 0, 1) := by decide +kernel
theorem dX7_sumBy_2 : decode cX7_sumBy 2 = .ok (.sipush 1500, 3) := by decide +kernel
theorem dX7_sumBy_5 : decode cX7_sumBy 5 = .ok (.invokevirtual 229, 3) := by decide +kernel
theorem dX7_sumBy_8 : decode cX7_sumBy 8 = .ok (.aload_n 0, 1) := by decide +kernel
theorem dX7_sumBy_9 : decode cX7_sumBy 9 = .ok (.sipush 1500, 3) := by decide +kernel
theorem dX7_sumBy_12 : decode cX7_sumBy 12 = .ok (.iload_n 1, 1) := by decide +kernel
theorem dX7_sumBy_13 : decode cX7_sumBy 13 = .ok (.invokevirtual 226, 3) := by decide +kernel
theorem dX7_sumBy_16 : decode cX7_sumBy 16 = .ok (.istore_n 3, 1) := by decide +kernel
theorem dX7_sumBy_17 : decode cX7_sumBy 17 = .ok (.iconst 0, 1) := by decide +kernel
theorem dX7_sumBy_18 : decode cX7_sumBy 18 = .ok (.istore 4, 2) := by decide +kernel
theorem dX7_sumBy_20 : decode cX7_sumBy 20 = .ok (.iload 4, 2) := by decide +kernel
theorem dX7_sumBy_22 : decode cX7_sumBy 22 = .ok (.iload_n 2, 1) := by decide +kernel
theorem dX7_sumBy_23 : decode cX7_sumBy 23 = .ok (.if_icmp .ge 16, 3) := by decide +kernel
theorem dX7_sumBy_26 : decode cX7_sumBy 26 = .ok (.aload_n 0, 1) := by decide +kernel
theorem dX7_sumBy_27 : decode cX7_sumBy 27 = .ok (.sipush 1500, 3) := by decide +kernel
theorem dX7_sumBy_30 : decode cX7_sumBy 30 = .ok (.invokevirtual 208, 3) := by decide +kernel
theorem dX7_sumBy_33 : decode cX7_sumBy 33 = .ok (.iinc 4 1, 3) := by decide +kernel
theorem dX7_sumBy_36 : decode cX7_sumBy 36 = .ok (.goto (-16), 3) := by decide +kernel
theorem dX7_sumBy_39 : decode cX7_sumBy 39 = .ok (.aload_n 0, 1) := by decide +kernel
theorem dX7_sumBy_40 : decode cX7_sumBy 40 = .ok (.iconst 0, 1) := by decide +kernel
theorem dX7_sumBy_41 : decode cX7_sumBy 41 = .ok (.putfield 232, 3) := by decide +kernel
theorem dX7_sumBy_44 : decode cX7_sumBy 44 = .ok (.iconst 0, 1) := by decide +kernel
theorem dX7_sumBy_45 : decode cX7_sumBy 45 = .ok (.istore 4, 2) := by decide +kernel
theorem dX7_sumBy_47 : decode cX7_sumBy 47 = .ok (.iload 4, 2) := by decide +kernel
theorem dX7_sumBy_49 : decode cX7_sumBy 49 = .ok (.aload_n 0, 1) := by decide +kernel
theorem dX7_sumBy_50 : decode cX7_sumBy 50 = .ok (.getfield 29, 3) := by decide +kernel
theorem dX7_sumBy_53 : decode cX7_sumBy 53 = .ok (.iconst 0, 1) := by decide +kernel
theorem dX7_sumBy_54 : decode cX7_sumBy 54 = .ok (.iaload, 1) := by decide +kernel
theorem dX7_sumBy_55 : decode cX7_sumBy 55 = .ok (.if_icmp .ge 64, 3) := by decide +kernel
theorem dX7_sumBy_58 : decode cX7_sumBy 58 = .ok (.aload_n 0, 1) := by decide +kernel
theorem dX7_sumBy_59 : decode cX7_sumBy 59 = .ok (.sipush 1500, 3) := by decide +kernel
theorem dX7_sumBy_62 : decode cX7_sumBy 62 = .ok (.iload 4, 2) := by decide +kernel
theorem dX7_sumBy_64 : decode cX7_sumBy 64 = .ok (.invokevirtual 137, 3) := by decide +kernel
theorem dX7_sumBy_67 : decode cX7_sumBy 67 = .ok (.istore 5, 2) := by decide +kernel
theorem dX7_sumBy_69 : decode cX7_sumBy 69 = .ok (.iload_n 3, 1) := by decide +kernel
theorem dX7_sumBy_70 : decode cX7_sumBy 70 = .ok (.iload 5, 2) := by decide +kernel
theorem dX7_sumBy_72 : decode cX7_sumBy 72 = .ok (.ifCond .eq 13, 3) := by decide +kernel
theorem dX7_sumBy_75 : decode cX7_sumBy 75 = .ok (.aload_n 0, 1) := by decide +kernel
theorem dX7_sumBy_76 : decode cX7_sumBy 76 = .ok (.getfield 17, 3) := by decide +kernel
theorem dX7_sumBy_79 : decode cX7_sumBy 79 = .ok (.iload 4, 2) := by decide +kernel
theorem dX7_sumBy_81 : decode cX7_sumBy 81 = .ok (.iaload, 1) := by decide +kernel
theorem dX7_sumBy_82 : decode cX7_sumBy 82 = .ok (.goto 4, 3) := by decide +kernel
theorem dX7_sumBy_85 : decode cX7_sumBy 85 = .ok (.iconst 0, 1) := by decide +kernel
theorem dX7_sumBy_86 : decode cX7_sumBy 86 = .ok (.iadd, 1) := by decide +kernel
theorem dX7_sumBy_87 : decode cX7_sumBy 87 = .ok (.istore_n 3, 1) := by decide +kernel
theorem dX7_sumBy_88 : decode cX7_sumBy 88 = .ok (.aload_n 0, 1) := by decide +kernel
theorem dX7_sumBy_89 : decode cX7_sumBy 89 = .ok (.dup, 1) := by decide +kernel
theorem dX7_sumBy_90 : decode cX7_sumBy 90 = .ok (.getfield 232, 3) := by decide +kernel
theorem dX7_sumBy_93 : decode cX7_sumBy 93 = .ok (.iload 5, 2) := by decide +kernel
theorem dX7_sumBy_95 : decode cX7_sumBy 95 = .ok (.ifCond .ne 7, 3) := by decide +kernel
theorem dX7_sumBy_98 : decode cX7_sumBy 98 = .ok (.iconst 1, 1) := by decide +kernel
theorem dX7_sumBy_99 : decode cX7_sumBy 99 = .ok (.goto 4, 3) := by decide +kernel
theorem dX7_sumBy_102 : decode cX7_sumBy 102 = .ok (.iconst 0, 1) := by decide +kernel
theorem dX7_sumBy_103 : decode cX7_sumBy 103 = .ok (.invokestatic 141, 3) := by decide +kernel
theorem dX7_sumBy_106 : decode cX7_sumBy 106 = .ok (.iload 4, 2) := by decide +kernel
theorem dX7_sumBy_108 : decode cX7_sumBy 108 = .ok (.ishl, 1) := by decide +kernel
theorem dX7_sumBy_109 : decode cX7_sumBy 109 = .ok (.ior, 1) := by decide +kernel
theorem dX7_sumBy_110 : decode cX7_sumBy 110 = .ok (.putfield 232, 3) := by decide +kernel
theorem dX7_sumBy_113 : decode cX7_sumBy 113 = .ok (.iinc 4 1, 3) := by decide +kernel
theorem dX7_sumBy_116 : decode cX7_sumBy 116 = .ok (.goto (-69), 3) := by decide +kernel
theorem dX7_sumBy_119 : decode cX7_sumBy 119 = .ok (.iload_n 3, 1) := by decide +kernel
theorem dX7_sumBy_120 : decode cX7_sumBy 120 = .ok (.ireturn, 1) := by decide +kernel
theorem dX7_best_0 : decode cX7_best 0 = .ok (.iload_n 1, 1) := by decide +kernel
theorem dX7_best_1 : decode cX7_best 1 = .ok (.i2l, 1) := by decide +kernel
theorem dX7_best_2 : decode cX7_best 2 = .ok (.lconst 0, 1) := by decide +kernel
theorem dX7_best_3 : decode cX7_best 3 = .ok (.ldc2_w 206, 3) := by decide +kernel
theorem dX7_best_6 : decode cX7_best 6 = .ok (.invokestatic 59, 3) := by decide +kernel
theorem dX7_best_9 : decode cX7_best 9 = .ok (.ifCond .eq 15, 3) := by decide +kernel
theorem dX7_best_12 : decode cX7_best 12 = .ok (.iload_n 2, 1) := by decide +kernel
theorem dX7_best_13 : decode cX7_best 13 = .ok (.i2l, 1) := by decide +kernel
theorem dX7_best_14 : decode cX7_best 14 = .ok (.lconst 0, 1) := by decide +kernel
theorem dX7_best_15 : decode cX7_best 15 = .ok (.ldc2_w 181, 3) := by decide +kernel
theorem dX7_best_18 : decode cX7_best 18 = .ok (.invokestatic 59, 3) := by decide +kernel
theorem dX7_best_21 : decode cX7_best 21 = .ok (.ifCond .ne 6, 3) := by decide +kernel
theorem dX7_best_24 : decode cX7_best 24 = .ok (.ldc 63, 2) := by decide +kernel
theorem dX7_best_26 : decode cX7_best 26 = .ok (.ireturn, 1) := by decide +kernel
theorem dX7_best_27 : decode cX7_best 27 = .ok (.iconst (-1), 1) := by decide +kernel
theorem dX7_best_28 : decode cX7_best 28 = .ok (.istore_n 3, 1) := by decide +kernel
theorem dX7_best_29 : decode cX7_best 29 = .ok (.iconst 0, 1) := by decide +kernel
theorem dX7_best_30 : decode cX7_best 30 = .ok (.istore 4, 2) := by decide +kernel
theorem dX7_best_32 : decode cX7_best 32 = .ok (.iconst 0, 1) := by decide +kernel
theorem dX7_best_33 : decode cX7_best 33 = .ok (.istore 5, 2) := by decide +kernel
theorem dX7_best_35 : decode cX7_best 35 = .ok (.iconst 0, 1) := by decide +kernel
theorem dX7_best_36 : decode cX7_best 36 = .ok (.istore 6, 2) := by decide +kernel
theorem dX7_best_38 : decode cX7_best 38 = .ok (.iload 6, 2) := by decide +kernel
theorem dX7_best_40 : decode cX7_best 40 = .ok (.iconst 1, 1) := by decide +kernel
theorem dX7_best_41 : decode cX7_best 41 = .ok (.aload_n 0, 1) := by decide +kernel
theorem dX7_best_42 : decode cX7_best 42 = .ok (.getfield 131, 3) := by decide +kernel
theorem dX7_best_45 : decode cX7_best 45 = .ok (.ishl, 1) := by decide +kernel
theorem dX7_best_46 : decode cX7_best 46 = .ok (.if_icmp .ge 61, 3) := by decide +kernel
theorem dX7_best_49 : decode cX7_best 49 = .ok (.aload_n 0, 1) := by decide +kernel
theorem dX7_best_50 : decode cX7_best 50 = .ok (.iload 6, 2) := by decide +kernel
theorem dX7_best_52 : decode cX7_best 52 = .ok (.iload_n 1, 1) := by decide +kernel
theorem dX7_best_53 : decode cX7_best 53 = .ok (.invokevirtual 235, 3) := by decide +kernel
theorem dX7_best_56 : decode cX7_best 56 = .ok (.istore 7, 2) := by decide +kernel
theorem dX7_best_58 : decode cX7_best 58 = .ok (.iload_n 3, 1) := by decide +kernel
theorem dX7_best_59 : decode cX7_best 59 = .ok (.ifCond .lt 29, 3) := by decide +kernel
theorem dX7_best_62 : decode cX7_best 62 = .ok (.iload 7, 2) := by decide +kernel
theorem dX7_best_64 : decode cX7_best 64 = .ok (.iload 4, 2) := by decide +kernel
theorem dX7_best_66 : decode cX7_best 66 = .ok (.if_icmp .gt 22, 3) := by decide +kernel
theorem dX7_best_69 : decode cX7_best 69 = .ok (.iload 7, 2) := by decide +kernel
theorem dX7_best_71 : decode cX7_best 71 = .ok (.iload 4, 2) := by decide +kernel
theorem dX7_best_73 : decode cX7_best 73 = .ok (.if_icmp .ne 28, 3) := by decide +kernel
theorem dX7_best_76 : decode cX7_best 76 = .ok (.iload 6, 2) := by decide +kernel
theorem dX7_best_78 : decode cX7_best 78 = .ok (.invokestatic 155, 3) := by decide +kernel
theorem dX7_best_81 : decode cX7_best 81 = .ok (.iload_n 3, 1) := by decide +kernel
theorem dX7_best_82 : decode cX7_best 82 = .ok (.invokestatic 155, 3) := by decide +kernel
theorem dX7_best_85 : decode cX7_best 85 = .ok (.if_icmp .ge 16, 3) := by decide +kernel
theorem dX7_best_88 : decode cX7_best 88 = .ok (.iload 6, 2) := by decide +kernel
theorem dX7_best_90 : decode cX7_best 90 = .ok (.istore_n 3, 1) := by decide +kernel
theorem dX7_best_91 : decode cX7_best 91 = .ok (.iload 7, 2) := by decide +kernel
theorem dX7_best_93 : decode cX7_best 93 = .ok (.istore 4, 2) := by decide +kernel
theorem dX7_best_95 : decode cX7_best 95 = .ok (.aload_n 0, 1) := by decide +kernel
theorem dX7_best_96 : decode cX7_best 96 = .ok (.getfield 232, 3) := by decide +kernel
theorem dX7_best_99 : decode cX7_best 99 = .ok (.istore 5, 2) := by decide +kernel
theorem dX7_best_101 : decode cX7_best 101 = .ok (.iinc 6 1, 3) := by decide +kernel
theorem dX7_best_104 : decode cX7_best 104 = .ok (.goto (-66), 3) := by decide +kernel
theorem dX7_best_107 : decode cX7_best 107 = .ok (.iload_n 2, 1) := by decide +kernel
theorem dX7_best_108 : decode cX7_best 108 = .ok (.ifCond .ne 7, 3) := by decide +kernel
theorem dX7_best_111 : decode cX7_best 111 = .ok (.iload_n 3, 1) := by decide +kernel
theorem dX7_best_112 : decode cX7_best 112 = .ok (.goto 15, 3) := by decide +kernel
theorem dX7_best_115 : decode cX7_best 115 = .ok (.iload_n 2, 1) := by decide +kernel
theorem dX7_best_116 : decode cX7_best 116 = .ok (.iconst 1, 1) := by decide +kernel
theorem dX7_best_117 : decode cX7_best 117 = .ok (.if_icmp .ne 8, 3) := by decide +kernel
theorem dX7_best_120 : decode cX7_best 120 = .ok (.iload 4, 2) := by decide +kernel
theorem dX7_best_122 : decode cX7_best 122 = .ok (.goto 5, 3) := by decide +kernel
theorem dX7_best_125 : decode cX7_best 125 = .ok (.iload 5, 2) := by decide +kernel
theorem dX7_best_127 : decode cX7_best 127 = .ok (.ireturn, 1) := by decide +kernel
theorem dX7_isTrue_0 : decode cX7_isTrue 0 = .ok (.aload_n 0, 1) := by decide +kernel
theorem dX7_isTrue_1 : decode cX7_isTrue 1 = .ok (.getfield 7, 3) := by decide +kernel
theorem dX7_isTrue_4 : decode cX7_isTrue 4 = .ok (.sipush 160, 3) := by decide +kernel
theorem dX7_isTrue_7 : decode cX7_isTrue 7 = .ok (.bipush 16, 2) := by decide +kernel
theorem dX7_isTrue_9 : decode cX7_isTrue 9 = .ok (.iload_n 1, 1) := by decide +kernel
theorem dX7_isTrue_10 : decode cX7_isTrue 10 = .ok (.imul, 1) := by decide +kernel
theorem dX7_isTrue_11 : decode cX7_isTrue 11 = .ok (.iadd, 1) := by decide +kernel
theorem dX7_isTrue_12 : decode cX7_isTrue 12 = .ok (.iload_n 2, 1) := by decide +kernel
theorem dX7_isTrue_13 : decode cX7_isTrue 13 = .ok (.iadd, 1) := by decide +kernel
theorem dX7_isTrue_14 : decode cX7_isTrue 14 = .ok (.iaload, 1) := by decide +kernel
theorem dX7_isTrue_15 : decode cX7_isTrue 15 = .ok (.ifCond .ne 7, 3) := by decide +kernel
theorem dX7_isTrue_18 : decode cX7_isTrue 18 = .ok (.iconst 1, 1) := by decide +kernel
theorem dX7_isTrue_19 : decode cX7_isTrue 19 = .ok (.goto 4, 3) := by decide +kernel
theorem dX7_isTrue_22 : decode cX7_isTrue 22 = .ok (.iconst 0, 1) := by decide +kernel
theorem dX7_isTrue_23 : decode cX7_isTrue 23 = .ok (.ireturn, 1) := by decide +kernel
theorem dX7_lesser_0 : decode cX7_lesser 0 = .ok (.iload_n 2, 1) := by decide +kernel
theorem dX7_lesser_1 : decode cX7_lesser 1 = .ok (.ifCond .eq 16, 3) := by decide +kernel
theorem dX7_lesser_4 : decode cX7_lesser 4 = .ok (.iload_n 0, 1) := by decide +kernel
theorem dX7_lesser_5 : decode cX7_lesser 5 = .ok (.ifCond .lt 8, 3) := by decide +kernel
theorem dX7_lesser_8 : decode cX7_lesser 8 = .ok (.iload_n 1, 1) := by decide +kernel
theorem dX7_lesser_9 : decode cX7_lesser 9 = .ok (.iload_n 0, 1) := by decide +kernel
theorem dX7_lesser_10 : decode cX7_lesser 10 = .ok (.if_icmp .ge 7, 3) := by decide +kernel
theorem dX7_lesser_13 : decode cX7_lesser 13 = .ok (.iload_n 1, 1) := by decide +kernel
theorem dX7_lesser_14 : decode cX7_lesser 14 = .ok (.goto 4, 3) := by decide +kernel
theorem dX7_lesser_17 : decode cX7_lesser 17 = .ok (.iload_n 0, 1) := by decide +kernel
theorem dX7_lesser_18 : decode cX7_lesser 18 = .ok (.ireturn, 1) := by decide +kernel
theorem dX7_fewest_0 : decode cX7_fewest 0 = .ok (.iconst 0, 1) := by decide +kernel
theorem dX7_fewest_1 : decode cX7_fewest 1 = .ok (.istore_n 3, 1) := by decide +kernel
theorem dX7_fewest_2 : decode cX7_fewest 2 = .ok (.iconst 0, 1) := by decide +kernel
theorem dX7_fewest_3 : decode cX7_fewest 3 = .ok (.istore 4, 2) := by decide +kernel
theorem dX7_fewest_5 : decode cX7_fewest 5 = .ok (.iconst 0, 1) := by decide +kernel
theorem dX7_fewest_6 : decode cX7_fewest 6 = .ok (.istore 5, 2) := by decide +kernel
theorem dX7_fewest_8 : decode cX7_fewest 8 = .ok (.iload 5, 2) := by decide +kernel
theorem dX7_fewest_10 : decode cX7_fewest 10 = .ok (.aload_n 0, 1) := by decide +kernel
theorem dX7_fewest_11 : decode cX7_fewest 11 = .ok (.getfield 29, 3) := by decide +kernel
theorem dX7_fewest_14 : decode cX7_fewest 14 = .ok (.iconst 1, 1) := by decide +kernel
theorem dX7_fewest_15 : decode cX7_fewest 15 = .ok (.iaload, 1) := by decide +kernel
theorem dX7_fewest_16 : decode cX7_fewest 16 = .ok (.if_icmp .ge 72, 3) := by decide +kernel
theorem dX7_fewest_19 : decode cX7_fewest 19 = .ok (.iload_n 2, 1) := by decide +kernel
theorem dX7_fewest_20 : decode cX7_fewest 20 = .ok (.iload 5, 2) := by decide +kernel
theorem dX7_fewest_22 : decode cX7_fewest 22 = .ok (.invokestatic 220, 3) := by decide +kernel
theorem dX7_fewest_25 : decode cX7_fewest 25 = .ok (.ifCond .eq 17, 3) := by decide +kernel
theorem dX7_fewest_28 : decode cX7_fewest 28 = .ok (.aload_n 0, 1) := by decide +kernel
theorem dX7_fewest_29 : decode cX7_fewest 29 = .ok (.iload 5, 2) := by decide +kernel
theorem dX7_fewest_31 : decode cX7_fewest 31 = .ok (.iload_n 1, 1) := by decide +kernel
theorem dX7_fewest_32 : decode cX7_fewest 32 = .ok (.invokevirtual 238, 3) := by decide +kernel
theorem dX7_fewest_35 : decode cX7_fewest 35 = .ok (.ifCond .ne 7, 3) := by decide +kernel
theorem dX7_fewest_38 : decode cX7_fewest 38 = .ok (.iconst 1, 1) := by decide +kernel
theorem dX7_fewest_39 : decode cX7_fewest 39 = .ok (.goto 4, 3) := by decide +kernel
theorem dX7_fewest_42 : decode cX7_fewest 42 = .ok (.iconst 0, 1) := by decide +kernel
theorem dX7_fewest_43 : decode cX7_fewest 43 = .ok (.istore 6, 2) := by decide +kernel
theorem dX7_fewest_45 : decode cX7_fewest 45 = .ok (.iload_n 3, 1) := by decide +kernel
theorem dX7_fewest_46 : decode cX7_fewest 46 = .ok (.iload 6, 2) := by decide +kernel
theorem dX7_fewest_48 : decode cX7_fewest 48 = .ok (.invokestatic 141, 3) := by decide +kernel
theorem dX7_fewest_51 : decode cX7_fewest 51 = .ok (.iadd, 1) := by decide +kernel
theorem dX7_fewest_52 : decode cX7_fewest 52 = .ok (.istore_n 3, 1) := by decide +kernel
theorem dX7_fewest_53 : decode cX7_fewest 53 = .ok (.iload 4, 2) := by decide +kernel
theorem dX7_fewest_55 : decode cX7_fewest 55 = .ok (.iload 6, 2) := by decide +kernel
theorem dX7_fewest_57 : decode cX7_fewest 57 = .ok (.ifCond .eq 18, 3) := by decide +kernel
theorem dX7_fewest_60 : decode cX7_fewest 60 = .ok (.aload_n 0, 1) := by decide +kernel
theorem dX7_fewest_61 : decode cX7_fewest 61 = .ok (.getfield 23, 3) := by decide +kernel
theorem dX7_fewest_64 : decode cX7_fewest 64 = .ok (.iload 5, 2) := by decide +kernel
theorem dX7_fewest_66 : decode cX7_fewest 66 = .ok (.iaload, 1) := by decide +kernel
theorem dX7_fewest_67 : decode cX7_fewest 67 = .ok (.iconst 3, 1) := by decide +kernel
theorem dX7_fewest_68 : decode cX7_fewest 68 = .ok (.if_icmp .ne 7, 3) := by decide +kernel
theorem dX7_fewest_71 : decode cX7_fewest 71 = .ok (.iconst 1, 1) := by decide +kernel
theorem dX7_fewest_72 : decode cX7_fewest 72 = .ok (.goto 4, 3) := by decide +kernel
theorem dX7_fewest_75 : decode cX7_fewest 75 = .ok (.iconst 0, 1) := by decide +kernel
theorem dX7_fewest_76 : decode cX7_fewest 76 = .ok (.invokestatic 141, 3) := by decide +kernel
theorem dX7_fewest_79 : decode cX7_fewest 79 = .ok (.iadd, 1) := by decide +kernel
theorem dX7_fewest_80 : decode cX7_fewest 80 = .ok (.istore 4, 2) := by decide +kernel
theorem dX7_fewest_82 : decode cX7_fewest 82 = .ok (.iinc 5 1, 3) := by decide +kernel
theorem dX7_fewest_85 : decode cX7_fewest 85 = .ok (.goto (-77), 3) := by decide +kernel
theorem dX7_fewest_88 : decode cX7_fewest 88 = .ok (.iconst 0, 1) := by decide +kernel
theorem dX7_fewest_89 : decode cX7_fewest 89 = .ok (.istore 5, 2) := by decide +kernel
theorem dX7_fewest_91 : decode cX7_fewest 91 = .ok (.iconst 0, 1) := by decide +kernel
theorem dX7_fewest_92 : decode cX7_fewest 92 = .ok (.istore 6, 2) := by decide +kernel
theorem dX7_fewest_94 : decode cX7_fewest 94 = .ok (.iconst 0, 1) := by decide +kernel
theorem dX7_fewest_95 : decode cX7_fewest 95 = .ok (.istore 7, 2) := by decide +kernel
theorem dX7_fewest_97 : decode cX7_fewest 97 = .ok (.iload 7, 2) := by decide +kernel
theorem dX7_fewest_99 : decode cX7_fewest 99 = .ok (.aload_n 0, 1) := by decide +kernel
theorem dX7_fewest_100 : decode cX7_fewest 100 = .ok (.getfield 7, 3) := by decide +kernel
theorem dX7_fewest_103 : decode cX7_fewest 103 = .ok (.sipush 1332, 3) := by decide +kernel
theorem dX7_fewest_106 : decode cX7_fewest 106 = .ok (.iaload, 1) := by decide +kernel
theorem dX7_fewest_107 : decode cX7_fewest 107 = .ok (.if_icmp .ge 69, 3) := by decide +kernel
theorem dX7_fewest_110 : decode cX7_fewest 110 = .ok (.aload_n 0, 1) := by decide +kernel
theorem dX7_fewest_111 : decode cX7_fewest 111 = .ok (.getfield 7, 3) := by decide +kernel
theorem dX7_fewest_114 : decode cX7_fewest 114 = .ok (.iload 7, 2) := by decide +kernel
theorem dX7_fewest_116 : decode cX7_fewest 116 = .ok (.iaload, 1) := by decide +kernel
theorem dX7_fewest_117 : decode cX7_fewest 117 = .ok (.iload_n 1, 1) := by decide +kernel
theorem dX7_fewest_118 : decode cX7_fewest 118 = .ok (.if_icmp .ne 52, 3) := by decide +kernel
theorem dX7_fewest_121 : decode cX7_fewest 121 = .ok (.aload_n 0, 1) := by decide +kernel
theorem dX7_fewest_122 : decode cX7_fewest 122 = .ok (.getfield 7, 3) := by decide +kernel
theorem dX7_fewest_125 : decode cX7_fewest 125 = .ok (.bipush 40, 2) := by decide +kernel
theorem dX7_fewest_127 : decode cX7_fewest 127 = .ok (.iload 7, 2) := by decide +kernel
theorem dX7_fewest_129 : decode cX7_fewest 129 = .ok (.iadd, 1) := by decide +kernel
theorem dX7_fewest_130 : decode cX7_fewest 130 = .ok (.iaload, 1) := by decide +kernel
theorem dX7_fewest_131 : decode cX7_fewest 131 = .ok (.ifCond .ne 39, 3) := by decide +kernel
theorem dX7_fewest_134 : decode cX7_fewest 134 = .ok (.aload_n 0, 1) := by decide +kernel
theorem dX7_fewest_135 : decode cX7_fewest 135 = .ok (.getfield 7, 3) := by decide +kernel
theorem dX7_fewest_138 : decode cX7_fewest 138 = .ok (.bipush 80, 2) := by decide +kernel
theorem dX7_fewest_140 : decode cX7_fewest 140 = .ok (.iload 7, 2) := by decide +kernel
theorem dX7_fewest_142 : decode cX7_fewest 142 = .ok (.iadd, 1) := by decide +kernel
theorem dX7_fewest_143 : decode cX7_fewest 143 = .ok (.iaload, 1) := by decide +kernel
theorem dX7_fewest_144 : decode cX7_fewest 144 = .ok (.bipush 9, 2) := by decide +kernel
theorem dX7_fewest_146 : decode cX7_fewest 146 = .ok (.if_icmp .ge 24, 3) := by decide +kernel
theorem dX7_fewest_149 : decode cX7_fewest 149 = .ok (.iinc 5 1, 3) := by decide +kernel
theorem dX7_fewest_152 : decode cX7_fewest 152 = .ok (.iload 6, 2) := by decide +kernel
theorem dX7_fewest_154 : decode cX7_fewest 154 = .ok (.bipush 9, 2) := by decide +kernel
theorem dX7_fewest_156 : decode cX7_fewest 156 = .ok (.aload_n 0, 1) := by decide +kernel
theorem dX7_fewest_157 : decode cX7_fewest 157 = .ok (.getfield 7, 3) := by decide +kernel
theorem dX7_fewest_160 : decode cX7_fewest 160 = .ok (.bipush 80, 2) := by decide +kernel
theorem dX7_fewest_162 : decode cX7_fewest 162 = .ok (.iload 7, 2) := by decide +kernel
theorem dX7_fewest_164 : decode cX7_fewest 164 = .ok (.iadd, 1) := by decide +kernel
theorem dX7_fewest_165 : decode cX7_fewest 165 = .ok (.iaload, 1) := by decide +kernel
theorem dX7_fewest_166 : decode cX7_fewest 166 = .ok (.isub, 1) := by decide +kernel
theorem dX7_fewest_167 : decode cX7_fewest 167 = .ok (.iadd, 1) := by decide +kernel
theorem dX7_fewest_168 : decode cX7_fewest 168 = .ok (.istore 6, 2) := by decide +kernel
theorem dX7_fewest_170 : decode cX7_fewest 170 = .ok (.iinc 7 1, 3) := by decide +kernel
theorem dX7_fewest_173 : decode cX7_fewest 173 = .ok (.goto (-76), 3) := by decide +kernel
theorem dX7_fewest_176 : decode cX7_fewest 176 = .ok (.iconst (-1), 1) := by decide +kernel
theorem dX7_fewest_177 : decode cX7_fewest 177 = .ok (.iload_n 3, 1) := by decide +kernel
theorem dX7_fewest_178 : decode cX7_fewest 178 = .ok (.iload_n 3, 1) := by decide +kernel
theorem dX7_fewest_179 : decode cX7_fewest 179 = .ok (.ifCond .eq 16, 3) := by decide +kernel
theorem dX7_fewest_182 : decode cX7_fewest 182 = .ok (.iload_n 3, 1) := by decide +kernel
theorem dX7_fewest_183 : decode cX7_fewest 183 = .ok (.iload 6, 2) := by decide +kernel
theorem dX7_fewest_185 : decode cX7_fewest 185 = .ok (.if_icmp .gt 14, 3) := by decide +kernel
theorem dX7_fewest_188 : decode cX7_fewest 188 = .ok (.iload 4, 2) := by decide +kernel
theorem dX7_fewest_190 : decode cX7_fewest 190 = .ok (.iload 5, 2) := by decide +kernel
theorem dX7_fewest_192 : decode cX7_fewest 192 = .ok (.if_icmp .gt 7, 3) := by decide +kernel
theorem dX7_fewest_195 : decode cX7_fewest 195 = .ok (.iconst 1, 1) := by decide +kernel
theorem dX7_fewest_196 : decode cX7_fewest 196 = .ok (.goto 4, 3) := by decide +kernel
theorem dX7_fewest_199 : decode cX7_fewest 199 = .ok (.iconst 0, 1) := by decide +kernel
theorem dX7_fewest_200 : decode cX7_fewest 200 = .ok (.invokestatic 241, 3) := by decide +kernel
theorem dX7_fewest_203 : decode cX7_fewest 203 = .ok (.istore 7, 2) := by decide +kernel
theorem dX7_fewest_205 : decode cX7_fewest 205 = .ok (.iconst 0, 1) := by decide +kernel
theorem dX7_fewest_206 : decode cX7_fewest 206 = .ok (.istore 8, 2) := by decide +kernel
theorem dX7_fewest_208 : decode cX7_fewest 208 = .ok (.iload 8, 2) := by decide +kernel
theorem dX7_fewest_210 : decode cX7_fewest 210 = .ok (.aload_n 0, 1) := by decide +kernel
theorem dX7_fewest_211 : decode cX7_fewest 211 = .ok (.getfield 29, 3) := by decide +kernel
theorem dX7_fewest_214 : decode cX7_fewest 214 = .ok (.iconst 1, 1) := by decide +kernel
theorem dX7_fewest_215 : decode cX7_fewest 215 = .ok (.iaload, 1) := by decide +kernel
theorem dX7_fewest_216 : decode cX7_fewest 216 = .ok (.if_icmp .ge 124, 3) := by decide +kernel
theorem dX7_fewest_219 : decode cX7_fewest 219 = .ok (.iload 7, 2) := by decide +kernel
theorem dX7_fewest_221 : decode cX7_fewest 221 = .ok (.iconst 1, 1) := by decide +kernel
theorem dX7_fewest_222 : decode cX7_fewest 222 = .ok (.aload_n 0, 1) := by decide +kernel
theorem dX7_fewest_223 : decode cX7_fewest 223 = .ok (.getfield 23, 3) := by decide +kernel
theorem dX7_fewest_226 : decode cX7_fewest 226 = .ok (.iload 8, 2) := by decide +kernel
theorem dX7_fewest_228 : decode cX7_fewest 228 = .ok (.iaload, 1) := by decide +kernel
theorem dX7_fewest_229 : decode cX7_fewest 229 = .ok (.iconst 1, 1) := by decide +kernel
theorem dX7_fewest_230 : decode cX7_fewest 230 = .ok (.if_icmp .ne 16, 3) := by decide +kernel
theorem dX7_fewest_233 : decode cX7_fewest 233 = .ok (.iload 5, 2) := by decide +kernel
theorem dX7_fewest_235 : decode cX7_fewest 235 = .ok (.ifCond .le 11, 3) := by decide +kernel
theorem dX7_fewest_238 : decode cX7_fewest 238 = .ok (.iload_n 3, 1) := by decide +kernel
theorem dX7_fewest_239 : decode cX7_fewest 239 = .ok (.ifCond .le 7, 3) := by decide +kernel
theorem dX7_fewest_242 : decode cX7_fewest 242 = .ok (.iconst 1, 1) := by decide +kernel
theorem dX7_fewest_243 : decode cX7_fewest 243 = .ok (.goto 4, 3) := by decide +kernel
theorem dX7_fewest_246 : decode cX7_fewest 246 = .ok (.iconst 0, 1) := by decide +kernel
theorem dX7_fewest_247 : decode cX7_fewest 247 = .ok (.invokestatic 241, 3) := by decide +kernel
theorem dX7_fewest_250 : decode cX7_fewest 250 = .ok (.istore 7, 2) := by decide +kernel
theorem dX7_fewest_252 : decode cX7_fewest 252 = .ok (.aload_n 0, 1) := by decide +kernel
theorem dX7_fewest_253 : decode cX7_fewest 253 = .ok (.getfield 23, 3) := by decide +kernel
theorem dX7_fewest_256 : decode cX7_fewest 256 = .ok (.iload 8, 2) := by decide +kernel
theorem dX7_fewest_258 : decode cX7_fewest 258 = .ok (.iaload, 1) := by decide +kernel
theorem dX7_fewest_259 : decode cX7_fewest 259 = .ok (.iconst 4, 1) := by decide +kernel
theorem dX7_fewest_260 : decode cX7_fewest 260 = .ok (.if_icmp .ne 74, 3) := by decide +kernel
theorem dX7_fewest_263 : decode cX7_fewest 263 = .ok (.aload_n 0, 1) := by decide +kernel
theorem dX7_fewest_264 : decode cX7_fewest 264 = .ok (.iload 8, 2) := by decide +kernel
theorem dX7_fewest_266 : decode cX7_fewest 266 = .ok (.iload_n 1, 1) := by decide +kernel
theorem dX7_fewest_267 : decode cX7_fewest 267 = .ok (.invokevirtual 238, 3) := by decide +kernel
theorem dX7_fewest_270 : decode cX7_fewest 270 = .ok (.istore 9, 2) := by decide +kernel
theorem dX7_fewest_272 : decode cX7_fewest 272 = .ok (.iload_n 3, 1) := by decide +kernel
theorem dX7_fewest_273 : decode cX7_fewest 273 = .ok (.iload 9, 2) := by decide +kernel
theorem dX7_fewest_275 : decode cX7_fewest 275 = .ok (.ifCond .ne 16, 3) := by decide +kernel
theorem dX7_fewest_278 : decode cX7_fewest 278 = .ok (.iload_n 2, 1) := by decide +kernel
theorem dX7_fewest_279 : decode cX7_fewest 279 = .ok (.iload 8, 2) := by decide +kernel
theorem dX7_fewest_281 : decode cX7_fewest 281 = .ok (.invokestatic 220, 3) := by decide +kernel
theorem dX7_fewest_284 : decode cX7_fewest 284 = .ok (.ifCond .eq 7, 3) := by decide +kernel
theorem dX7_fewest_287 : decode cX7_fewest 287 = .ok (.iconst 1, 1) := by decide +kernel
theorem dX7_fewest_288 : decode cX7_fewest 288 = .ok (.goto 4, 3) := by decide +kernel
theorem dX7_fewest_291 : decode cX7_fewest 291 = .ok (.iconst 0, 1) := by decide +kernel
theorem dX7_fewest_292 : decode cX7_fewest 292 = .ok (.invokestatic 141, 3) := by decide +kernel
theorem dX7_fewest_295 : decode cX7_fewest 295 = .ok (.isub, 1) := by decide +kernel
theorem dX7_fewest_296 : decode cX7_fewest 296 = .ok (.istore 10, 2) := by decide +kernel
theorem dX7_fewest_298 : decode cX7_fewest 298 = .ok (.iload 7, 2) := by decide +kernel
theorem dX7_fewest_300 : decode cX7_fewest 300 = .ok (.iload 9, 2) := by decide +kernel
theorem dX7_fewest_302 : decode cX7_fewest 302 = .ok (.ifCond .eq 8, 3) := by decide +kernel
theorem dX7_fewest_305 : decode cX7_fewest 305 = .ok (.iload 10, 2) := by decide +kernel
theorem dX7_fewest_307 : decode cX7_fewest 307 = .ok (.goto 7, 3) := by decide +kernel
theorem dX7_fewest_310 : decode cX7_fewest 310 = .ok (.iconst 1, 1) := by decide +kernel
theorem dX7_fewest_311 : decode cX7_fewest 311 = .ok (.iload 10, 2) := by decide +kernel
theorem dX7_fewest_313 : decode cX7_fewest 313 = .ok (.iadd, 1) := by decide +kernel
theorem dX7_fewest_314 : decode cX7_fewest 314 = .ok (.iload 9, 2) := by decide +kernel
theorem dX7_fewest_316 : decode cX7_fewest 316 = .ok (.ifCond .ne 8, 3) := by decide +kernel
theorem dX7_fewest_319 : decode cX7_fewest 319 = .ok (.iload 5, 2) := by decide +kernel
theorem dX7_fewest_321 : decode cX7_fewest 321 = .ok (.ifCond .le 7, 3) := by decide +kernel
theorem dX7_fewest_324 : decode cX7_fewest 324 = .ok (.iconst 1, 1) := by decide +kernel
theorem dX7_fewest_325 : decode cX7_fewest 325 = .ok (.goto 4, 3) := by decide +kernel
theorem dX7_fewest_328 : decode cX7_fewest 328 = .ok (.iconst 0, 1) := by decide +kernel
theorem dX7_fewest_329 : decode cX7_fewest 329 = .ok (.invokestatic 241, 3) := by decide +kernel
theorem dX7_fewest_332 : decode cX7_fewest 332 = .ok (.istore 7, 2) := by decide +kernel
theorem dX7_fewest_334 : decode cX7_fewest 334 = .ok (.iinc 8 1, 3) := by decide +kernel
theorem dX7_fewest_337 : decode cX7_fewest 337 = .ok (.goto (-129), 3) := by decide +kernel
theorem dX7_fewest_340 : decode cX7_fewest 340 = .ok (.iload 7, 2) := by decide +kernel
theorem dX7_fewest_342 : decode cX7_fewest 342 = .ok (.ireturn, 1) := by decide +kernel
theorem dX7_toKnow_0 : decode cX7_toKnow 0 = .ok (.iload_n 1, 1) := by decide +kernel
theorem dX7_toKnow_1 : decode cX7_toKnow 1 = .ok (.i2l, 1) := by decide +kernel
theorem dX7_toKnow_2 : decode cX7_toKnow 2 = .ok (.lconst 0, 1) := by decide +kernel
theorem dX7_toKnow_3 : decode cX7_toKnow 3 = .ok (.iconst 1, 1) := by decide +kernel
theorem dX7_toKnow_4 : decode cX7_toKnow 4 = .ok (.aload_n 0, 1) := by decide +kernel
theorem dX7_toKnow_5 : decode cX7_toKnow 5 = .ok (.getfield 29, 3) := by decide +kernel
theorem dX7_toKnow_8 : decode cX7_toKnow 8 = .ok (.iconst 0, 1) := by decide +kernel
theorem dX7_toKnow_9 : decode cX7_toKnow 9 = .ok (.iaload, 1) := by decide +kernel
theorem dX7_toKnow_10 : decode cX7_toKnow 10 = .ok (.ishl, 1) := by decide +kernel
theorem dX7_toKnow_11 : decode cX7_toKnow 11 = .ok (.iconst 1, 1) := by decide +kernel
theorem dX7_toKnow_12 : decode cX7_toKnow 12 = .ok (.isub, 1) := by decide +kernel
theorem dX7_toKnow_13 : decode cX7_toKnow 13 = .ok (.i2l, 1) := by decide +kernel
theorem dX7_toKnow_14 : decode cX7_toKnow 14 = .ok (.invokestatic 59, 3) := by decide +kernel
theorem dX7_toKnow_17 : decode cX7_toKnow 17 = .ok (.ifCond .eq 23, 3) := by decide +kernel
theorem dX7_toKnow_20 : decode cX7_toKnow 20 = .ok (.iload_n 2, 1) := by decide +kernel
theorem dX7_toKnow_21 : decode cX7_toKnow 21 = .ok (.i2l, 1) := by decide +kernel
theorem dX7_toKnow_22 : decode cX7_toKnow 22 = .ok (.lconst 0, 1) := by decide +kernel
theorem dX7_toKnow_23 : decode cX7_toKnow 23 = .ok (.iconst 1, 1) := by decide +kernel
theorem dX7_toKnow_24 : decode cX7_toKnow 24 = .ok (.aload_n 0, 1) := by decide +kernel
theorem dX7_toKnow_25 : decode cX7_toKnow 25 = .ok (.getfield 29, 3) := by decide +kernel
theorem dX7_toKnow_28 : decode cX7_toKnow 28 = .ok (.iconst 1, 1) := by decide +kernel
theorem dX7_toKnow_29 : decode cX7_toKnow 29 = .ok (.iaload, 1) := by decide +kernel
theorem dX7_toKnow_30 : decode cX7_toKnow 30 = .ok (.ishl, 1) := by decide +kernel
theorem dX7_toKnow_31 : decode cX7_toKnow 31 = .ok (.iconst 1, 1) := by decide +kernel
theorem dX7_toKnow_32 : decode cX7_toKnow 32 = .ok (.isub, 1) := by decide +kernel
theorem dX7_toKnow_33 : decode cX7_toKnow 33 = .ok (.i2l, 1) := by decide +kernel
theorem dX7_toKnow_34 : decode cX7_toKnow 34 = .ok (.invokestatic 59, 3) := by decide +kernel
theorem dX7_toKnow_37 : decode cX7_toKnow 37 = .ok (.ifCond .ne 6, 3) := by decide +kernel
theorem dX7_toKnow_40 : decode cX7_toKnow 40 = .ok (.ldc 165, 2) := by decide +kernel
theorem dX7_toKnow_42 : decode cX7_toKnow 42 = .ok (.ireturn, 1) := by decide +kernel
theorem dX7_toKnow_43 : decode cX7_toKnow 43 = .ok (.iconst 0, 1) := by decide +kernel
theorem dX7_toKnow_44 : decode cX7_toKnow 44 = .ok (.istore_n 3, 1) := by decide +kernel
theorem dX7_toKnow_45 : decode cX7_toKnow 45 = .ok (.iconst 0, 1) := by decide +kernel
theorem dX7_toKnow_46 : decode cX7_toKnow 46 = .ok (.istore 4, 2) := by decide +kernel
theorem dX7_toKnow_48 : decode cX7_toKnow 48 = .ok (.iload 4, 2) := by decide +kernel
theorem dX7_toKnow_50 : decode cX7_toKnow 50 = .ok (.aload_n 0, 1) := by decide +kernel
theorem dX7_toKnow_51 : decode cX7_toKnow 51 = .ok (.getfield 29, 3) := by decide +kernel
theorem dX7_toKnow_54 : decode cX7_toKnow 54 = .ok (.iconst 0, 1) := by decide +kernel
theorem dX7_toKnow_55 : decode cX7_toKnow 55 = .ok (.iaload, 1) := by decide +kernel
theorem dX7_toKnow_56 : decode cX7_toKnow 56 = .ok (.if_icmp .ge 39, 3) := by decide +kernel
theorem dX7_toKnow_59 : decode cX7_toKnow 59 = .ok (.iload_n 1, 1) := by decide +kernel
theorem dX7_toKnow_60 : decode cX7_toKnow 60 = .ok (.iload 4, 2) := by decide +kernel
theorem dX7_toKnow_62 : decode cX7_toKnow 62 = .ok (.invokestatic 220, 3) := by decide +kernel
theorem dX7_toKnow_65 : decode cX7_toKnow 65 = .ok (.ifCond .eq 24, 3) := by decide +kernel
theorem dX7_toKnow_68 : decode cX7_toKnow 68 = .ok (.aload_n 0, 1) := by decide +kernel
theorem dX7_toKnow_69 : decode cX7_toKnow 69 = .ok (.iload 4, 2) := by decide +kernel
theorem dX7_toKnow_71 : decode cX7_toKnow 71 = .ok (.iload_n 2, 1) := by decide +kernel
theorem dX7_toKnow_72 : decode cX7_toKnow 72 = .ok (.invokevirtual 245, 3) := by decide +kernel
theorem dX7_toKnow_75 : decode cX7_toKnow 75 = .ok (.istore 5, 2) := by decide +kernel
theorem dX7_toKnow_77 : decode cX7_toKnow 77 = .ok (.iload 5, 2) := by decide +kernel
theorem dX7_toKnow_79 : decode cX7_toKnow 79 = .ok (.ifCond .ge 5, 3) := by decide +kernel
theorem dX7_toKnow_82 : decode cX7_toKnow 82 = .ok (.iconst (-1), 1) := by decide +kernel
theorem dX7_toKnow_83 : decode cX7_toKnow 83 = .ok (.ireturn, 1) := by decide +kernel
theorem dX7_toKnow_84 : decode cX7_toKnow 84 = .ok (.iload_n 3, 1) := by decide +kernel
theorem dX7_toKnow_85 : decode cX7_toKnow 85 = .ok (.iload 5, 2) := by decide +kernel
theorem dX7_toKnow_87 : decode cX7_toKnow 87 = .ok (.iadd, 1) := by decide +kernel
theorem dX7_toKnow_88 : decode cX7_toKnow 88 = .ok (.istore_n 3, 1) := by decide +kernel
theorem dX7_toKnow_89 : decode cX7_toKnow 89 = .ok (.iinc 4 1, 3) := by decide +kernel
theorem dX7_toKnow_92 : decode cX7_toKnow 92 = .ok (.goto (-44), 3) := by decide +kernel
theorem dX7_toKnow_95 : decode cX7_toKnow 95 = .ok (.iload_n 3, 1) := by decide +kernel
theorem dX7_toKnow_96 : decode cX7_toKnow 96 = .ok (.ireturn, 1) := by decide +kernel
theorem dX7_life_0 : decode cX7_life 0 = .ok (.iload_n 1, 1) := by decide +kernel
theorem dX7_life_1 : decode cX7_life 1 = .ok (.i2l, 1) := by decide +kernel
theorem dX7_life_2 : decode cX7_life 2 = .ok (.lconst 0, 1) := by decide +kernel
theorem dX7_life_3 : decode cX7_life 3 = .ok (.ldc2_w 248, 3) := by decide +kernel
theorem dX7_life_6 : decode cX7_life 6 = .ok (.invokestatic 59, 3) := by decide +kernel
theorem dX7_life_9 : decode cX7_life 9 = .ok (.ifCond .eq 27, 3) := by decide +kernel
theorem dX7_life_12 : decode cX7_life 12 = .ok (.iload_n 2, 1) := by decide +kernel
theorem dX7_life_13 : decode cX7_life 13 = .ok (.i2l, 1) := by decide +kernel
theorem dX7_life_14 : decode cX7_life 14 = .ok (.lconst 1, 1) := by decide +kernel
theorem dX7_life_15 : decode cX7_life 15 = .ok (.ldc2_w 218, 3) := by decide +kernel
theorem dX7_life_18 : decode cX7_life 18 = .ok (.invokestatic 59, 3) := by decide +kernel
theorem dX7_life_21 : decode cX7_life 21 = .ok (.ifCond .eq 15, 3) := by decide +kernel
theorem dX7_life_24 : decode cX7_life 24 = .ok (.iload_n 3, 1) := by decide +kernel
theorem dX7_life_25 : decode cX7_life 25 = .ok (.i2l, 1) := by decide +kernel
theorem dX7_life_26 : decode cX7_life 26 = .ok (.lconst 0, 1) := by decide +kernel
theorem dX7_life_27 : decode cX7_life 27 = .ok (.ldc2_w 206, 3) := by decide +kernel
theorem dX7_life_30 : decode cX7_life 30 = .ok (.invokestatic 59, 3) := by decide +kernel
theorem dX7_life_33 : decode cX7_life 33 = .ok (.ifCond .ne 6, 3) := by decide +kernel
theorem dX7_life_36 : decode cX7_life 36 = .ok (.ldc 63, 2) := by decide +kernel
theorem dX7_life_38 : decode cX7_life 38 = .ok (.ireturn, 1) := by decide +kernel
theorem dX7_life_39 : decode cX7_life 39 = .ok (.iconst 0, 1) := by decide +kernel
theorem dX7_life_40 : decode cX7_life 40 = .ok (.istore 4, 2) := by decide +kernel
theorem dX7_life_42 : decode cX7_life 42 = .ok (.iload 4, 2) := by decide +kernel
theorem dX7_life_44 : decode cX7_life 44 = .ok (.bipush 9, 2) := by decide +kernel
theorem dX7_life_46 : decode cX7_life 46 = .ok (.if_icmp .gt 28, 3) := by decide +kernel
theorem dX7_life_49 : decode cX7_life 49 = .ok (.aload_n 0, 1) := by decide +kernel
theorem dX7_life_50 : decode cX7_life 50 = .ok (.getfield 51, 3) := by decide +kernel
theorem dX7_life_53 : decode cX7_life 53 = .ok (.iload 4, 2) := by decide +kernel
theorem dX7_life_55 : decode cX7_life 55 = .ok (.iload 4, 2) := by decide +kernel
theorem dX7_life_57 : decode cX7_life 57 = .ok (.iload_n 1, 1) := by decide +kernel
theorem dX7_life_58 : decode cX7_life 58 = .ok (.if_icmp .ne 8, 3) := by decide +kernel
theorem dX7_life_61 : decode cX7_life 61 = .ok (.ldc 250, 2) := by decide +kernel
theorem dX7_life_63 : decode cX7_life 63 = .ok (.goto 4, 3) := by decide +kernel
theorem dX7_life_66 : decode cX7_life 66 = .ok (.iconst 0, 1) := by decide +kernel
theorem dX7_life_67 : decode cX7_life 67 = .ok (.iastore, 1) := by decide +kernel
theorem dX7_life_68 : decode cX7_life 68 = .ok (.iinc 4 1, 3) := by decide +kernel
theorem dX7_life_71 : decode cX7_life 71 = .ok (.goto (-29), 3) := by decide +kernel
theorem dX7_life_74 : decode cX7_life 74 = .ok (.iconst 0, 1) := by decide +kernel
theorem dX7_life_75 : decode cX7_life 75 = .ok (.istore 4, 2) := by decide +kernel
theorem dX7_life_77 : decode cX7_life 77 = .ok (.iload 4, 2) := by decide +kernel
theorem dX7_life_79 : decode cX7_life 79 = .ok (.iload_n 3, 1) := by decide +kernel
theorem dX7_life_80 : decode cX7_life 80 = .ok (.if_icmp .ge 61, 3) := by decide +kernel
theorem dX7_life_83 : decode cX7_life 83 = .ok (.bipush 8, 2) := by decide +kernel
theorem dX7_life_85 : decode cX7_life 85 = .ok (.istore 5, 2) := by decide +kernel
theorem dX7_life_87 : decode cX7_life 87 = .ok (.iload 5, 2) := by decide +kernel
theorem dX7_life_89 : decode cX7_life 89 = .ok (.ifCond .lt 46, 3) := by decide +kernel
theorem dX7_life_92 : decode cX7_life 92 = .ok (.aload_n 0, 1) := by decide +kernel
theorem dX7_life_93 : decode cX7_life 93 = .ok (.getfield 51, 3) := by decide +kernel
theorem dX7_life_96 : decode cX7_life 96 = .ok (.iload 5, 2) := by decide +kernel
theorem dX7_life_98 : decode cX7_life 98 = .ok (.iaload, 1) := by decide +kernel
theorem dX7_life_99 : decode cX7_life 99 = .ok (.iload_n 2, 1) := by decide +kernel
theorem dX7_life_100 : decode cX7_life 100 = .ok (.idiv, 1) := by decide +kernel
theorem dX7_life_101 : decode cX7_life 101 = .ok (.istore 6, 2) := by decide +kernel
theorem dX7_life_103 : decode cX7_life 103 = .ok (.aload_n 0, 1) := by decide +kernel
theorem dX7_life_104 : decode cX7_life 104 = .ok (.getfield 51, 3) := by decide +kernel
theorem dX7_life_107 : decode cX7_life 107 = .ok (.iload 5, 2) := by decide +kernel
theorem dX7_life_109 : decode cX7_life 109 = .ok (.dup2, 1) := by decide +kernel
theorem dX7_life_110 : decode cX7_life 110 = .ok (.iaload, 1) := by decide +kernel
theorem dX7_life_111 : decode cX7_life 111 = .ok (.iload 6, 2) := by decide +kernel
theorem dX7_life_113 : decode cX7_life 113 = .ok (.isub, 1) := by decide +kernel
theorem dX7_life_114 : decode cX7_life 114 = .ok (.iastore, 1) := by decide +kernel
theorem dX7_life_115 : decode cX7_life 115 = .ok (.aload_n 0, 1) := by decide +kernel
theorem dX7_life_116 : decode cX7_life 116 = .ok (.getfield 51, 3) := by decide +kernel
theorem dX7_life_119 : decode cX7_life 119 = .ok (.iload 5, 2) := by decide +kernel
theorem dX7_life_121 : decode cX7_life 121 = .ok (.iconst 1, 1) := by decide +kernel
theorem dX7_life_122 : decode cX7_life 122 = .ok (.iadd, 1) := by decide +kernel
theorem dX7_life_123 : decode cX7_life 123 = .ok (.dup2, 1) := by decide +kernel
theorem dX7_life_124 : decode cX7_life 124 = .ok (.iaload, 1) := by decide +kernel
theorem dX7_life_125 : decode cX7_life 125 = .ok (.iload 6, 2) := by decide +kernel
theorem dX7_life_127 : decode cX7_life 127 = .ok (.iadd, 1) := by decide +kernel
theorem dX7_life_128 : decode cX7_life 128 = .ok (.iastore, 1) := by decide +kernel
theorem dX7_life_129 : decode cX7_life 129 = .ok (.iinc 5 (-1), 3) := by decide +kernel
theorem dX7_life_132 : decode cX7_life 132 = .ok (.goto (-45), 3) := by decide +kernel
theorem dX7_life_135 : decode cX7_life 135 = .ok (.iinc 4 1, 3) := by decide +kernel
theorem dX7_life_138 : decode cX7_life 138 = .ok (.goto (-61), 3) := by decide +kernel
theorem dX7_life_141 : decode cX7_life 141 = .ok (.ldc 250, 2) := by decide +kernel
theorem dX7_life_143 : decode cX7_life 143 = .ok (.aload_n 0, 1) := by decide +kernel
theorem dX7_life_144 : decode cX7_life 144 = .ok (.getfield 51, 3) := by decide +kernel
theorem dX7_life_147 : decode cX7_life 147 = .ok (.bipush 9, 2) := by decide +kernel
theorem dX7_life_149 : decode cX7_life 149 = .ok (.iaload, 1) := by decide +kernel
theorem dX7_life_150 : decode cX7_life 150 = .ok (.isub, 1) := by decide +kernel
theorem dX7_life_151 : decode cX7_life 151 = .ok (.ireturn, 1) := by decide +kernel
theorem dX7_right_0 : decode cX7_right 0 = .ok (.iload_n 1, 1) := by decide +kernel
theorem dX7_right_1 : decode cX7_right 1 = .ok (.i2l, 1) := by decide +kernel
theorem dX7_right_2 : decode cX7_right 2 = .ok (.lconst 1, 1) := by decide +kernel
theorem dX7_right_3 : decode cX7_right 3 = .ok (.ldc2_w 251, 3) := by decide +kernel
theorem dX7_right_6 : decode cX7_right 6 = .ok (.invokestatic 59, 3) := by decide +kernel
theorem dX7_right_9 : decode cX7_right 9 = .ok (.ifCond .ne 6, 3) := by decide +kernel
theorem dX7_right_12 : decode cX7_right 12 = .ok (.ldc 63, 2) := by decide +kernel
theorem dX7_right_14 : decode cX7_right 14 = .ok (.ireturn, 1) := by decide +kernel
theorem dX7_right_15 : decode cX7_right 15 = .ok (.iconst 0, 1) := by decide +kernel
theorem dX7_right_16 : decode cX7_right 16 = .ok (.istore_n 2, 1) := by decide +kernel
theorem dX7_right_17 : decode cX7_right 17 = .ok (.iload_n 2, 1) := by decide +kernel
theorem dX7_right_18 : decode cX7_right 18 = .ok (.bipush 42, 2) := by decide +kernel
theorem dX7_right_20 : decode cX7_right 20 = .ok (.if_icmp .ge 25, 3) := by decide +kernel
theorem dX7_right_23 : decode cX7_right 23 = .ok (.aload_n 0, 1) := by decide +kernel
theorem dX7_right_24 : decode cX7_right 24 = .ok (.getfield 51, 3) := by decide +kernel
theorem dX7_right_27 : decode cX7_right 27 = .ok (.iload_n 2, 1) := by decide +kernel
theorem dX7_right_28 : decode cX7_right 28 = .ok (.iload_n 2, 1) := by decide +kernel
theorem dX7_right_29 : decode cX7_right 29 = .ok (.ifCond .ne 8, 3) := by decide +kernel
theorem dX7_right_32 : decode cX7_right 32 = .ok (.ldc 253, 2) := by decide +kernel
theorem dX7_right_34 : decode cX7_right 34 = .ok (.goto 4, 3) := by decide +kernel
theorem dX7_right_37 : decode cX7_right 37 = .ok (.iconst 0, 1) := by decide +kernel
theorem dX7_right_38 : decode cX7_right 38 = .ok (.iastore, 1) := by decide +kernel
theorem dX7_right_39 : decode cX7_right 39 = .ok (.iinc 2 1, 3) := by decide +kernel
theorem dX7_right_42 : decode cX7_right 42 = .ok (.goto (-25), 3) := by decide +kernel
theorem dX7_right_45 : decode cX7_right 45 = .ok (.iconst 0, 1) := by decide +kernel
theorem dX7_right_46 : decode cX7_right 46 = .ok (.istore_n 2, 1) := by decide +kernel
theorem dX7_right_47 : decode cX7_right 47 = .ok (.iload_n 2, 1) := by decide +kernel
theorem dX7_right_48 : decode cX7_right 48 = .ok (.iload_n 1, 1) := by decide +kernel
theorem dX7_right_49 : decode cX7_right 49 = .ok (.if_icmp .ge 65, 3) := by decide +kernel
theorem dX7_right_52 : decode cX7_right 52 = .ok (.iload_n 2, 1) := by decide +kernel
theorem dX7_right_53 : decode cX7_right 53 = .ok (.istore_n 3, 1) := by decide +kernel
theorem dX7_right_54 : decode cX7_right 54 = .ok (.iload_n 3, 1) := by decide +kernel
theorem dX7_right_55 : decode cX7_right 55 = .ok (.ifCond .lt 53, 3) := by decide +kernel
theorem dX7_right_58 : decode cX7_right 58 = .ok (.aload_n 0, 1) := by decide +kernel
theorem dX7_right_59 : decode cX7_right 59 = .ok (.getfield 51, 3) := by decide +kernel
theorem dX7_right_62 : decode cX7_right 62 = .ok (.iload_n 3, 1) := by decide +kernel
theorem dX7_right_63 : decode cX7_right 63 = .ok (.iaload, 1) := by decide +kernel
theorem dX7_right_64 : decode cX7_right 64 = .ok (.aload_n 0, 1) := by decide +kernel
theorem dX7_right_65 : decode cX7_right 65 = .ok (.getfield 32, 3) := by decide +kernel
theorem dX7_right_68 : decode cX7_right 68 = .ok (.imul, 1) := by decide +kernel
theorem dX7_right_69 : decode cX7_right 69 = .ok (.bipush 100, 2) := by decide +kernel
theorem dX7_right_71 : decode cX7_right 71 = .ok (.idiv, 1) := by decide +kernel
theorem dX7_right_72 : decode cX7_right 72 = .ok (.istore 4, 2) := by decide +kernel
theorem dX7_right_74 : decode cX7_right 74 = .ok (.aload_n 0, 1) := by decide +kernel
theorem dX7_right_75 : decode cX7_right 75 = .ok (.getfield 51, 3) := by decide +kernel
theorem dX7_right_78 : decode cX7_right 78 = .ok (.iload_n 3, 1) := by decide +kernel
theorem dX7_right_79 : decode cX7_right 79 = .ok (.iconst 1, 1) := by decide +kernel
theorem dX7_right_80 : decode cX7_right 80 = .ok (.iadd, 1) := by decide +kernel
theorem dX7_right_81 : decode cX7_right 81 = .ok (.dup2, 1) := by decide +kernel
theorem dX7_right_82 : decode cX7_right 82 = .ok (.iaload, 1) := by decide +kernel
theorem dX7_right_83 : decode cX7_right 83 = .ok (.aload_n 0, 1) := by decide +kernel
theorem dX7_right_84 : decode cX7_right 84 = .ok (.getfield 51, 3) := by decide +kernel
theorem dX7_right_87 : decode cX7_right 87 = .ok (.iload_n 3, 1) := by decide +kernel
theorem dX7_right_88 : decode cX7_right 88 = .ok (.iaload, 1) := by decide +kernel
theorem dX7_right_89 : decode cX7_right 89 = .ok (.iload 4, 2) := by decide +kernel
theorem dX7_right_91 : decode cX7_right 91 = .ok (.isub, 1) := by decide +kernel
theorem dX7_right_92 : decode cX7_right 92 = .ok (.iadd, 1) := by decide +kernel
theorem dX7_right_93 : decode cX7_right 93 = .ok (.iastore, 1) := by decide +kernel
theorem dX7_right_94 : decode cX7_right 94 = .ok (.aload_n 0, 1) := by decide +kernel
theorem dX7_right_95 : decode cX7_right 95 = .ok (.getfield 51, 3) := by decide +kernel
theorem dX7_right_98 : decode cX7_right 98 = .ok (.iload_n 3, 1) := by decide +kernel
theorem dX7_right_99 : decode cX7_right 99 = .ok (.iload 4, 2) := by decide +kernel
theorem dX7_right_101 : decode cX7_right 101 = .ok (.iastore, 1) := by decide +kernel
theorem dX7_right_102 : decode cX7_right 102 = .ok (.iinc 3 (-1), 3) := by decide +kernel
theorem dX7_right_105 : decode cX7_right 105 = .ok (.goto (-51), 3) := by decide +kernel
theorem dX7_right_108 : decode cX7_right 108 = .ok (.iinc 2 1, 3) := by decide +kernel
theorem dX7_right_111 : decode cX7_right 111 = .ok (.goto (-64), 3) := by decide +kernel
theorem dX7_right_114 : decode cX7_right 114 = .ok (.iconst 0, 1) := by decide +kernel
theorem dX7_right_115 : decode cX7_right 115 = .ok (.istore_n 2, 1) := by decide +kernel
theorem dX7_right_116 : decode cX7_right 116 = .ok (.iconst 0, 1) := by decide +kernel
theorem dX7_right_117 : decode cX7_right 117 = .ok (.istore_n 3, 1) := by decide +kernel
theorem dX7_right_118 : decode cX7_right 118 = .ok (.iload_n 3, 1) := by decide +kernel
theorem dX7_right_119 : decode cX7_right 119 = .ok (.iload_n 1, 1) := by decide +kernel
theorem dX7_right_120 : decode cX7_right 120 = .ok (.if_icmp .gt 29, 3) := by decide +kernel
theorem dX7_right_123 : decode cX7_right 123 = .ok (.iload_n 2, 1) := by decide +kernel
theorem dX7_right_124 : decode cX7_right 124 = .ok (.iconst 2, 1) := by decide +kernel
theorem dX7_right_125 : decode cX7_right 125 = .ok (.iload_n 3, 1) := by decide +kernel
theorem dX7_right_126 : decode cX7_right 126 = .ok (.imul, 1) := by decide +kernel
theorem dX7_right_127 : decode cX7_right 127 = .ok (.iload_n 1, 1) := by decide +kernel
theorem dX7_right_128 : decode cX7_right 128 = .ok (.if_icmp .le 12, 3) := by decide +kernel
theorem dX7_right_131 : decode cX7_right 131 = .ok (.aload_n 0, 1) := by decide +kernel
theorem dX7_right_132 : decode cX7_right 132 = .ok (.getfield 51, 3) := by decide +kernel
theorem dX7_right_135 : decode cX7_right 135 = .ok (.iload_n 3, 1) := by decide +kernel
theorem dX7_right_136 : decode cX7_right 136 = .ok (.iaload, 1) := by decide +kernel
theorem dX7_right_137 : decode cX7_right 137 = .ok (.goto 4, 3) := by decide +kernel
theorem dX7_right_140 : decode cX7_right 140 = .ok (.iconst 0, 1) := by decide +kernel
theorem dX7_right_141 : decode cX7_right 141 = .ok (.iadd, 1) := by decide +kernel
theorem dX7_right_142 : decode cX7_right 142 = .ok (.istore_n 2, 1) := by decide +kernel
theorem dX7_right_143 : decode cX7_right 143 = .ok (.iinc 3 1, 3) := by decide +kernel
theorem dX7_right_146 : decode cX7_right 146 = .ok (.goto (-28), 3) := by decide +kernel
theorem dX7_right_149 : decode cX7_right 149 = .ok (.iload_n 2, 1) := by decide +kernel
theorem dX7_right_150 : decode cX7_right 150 = .ok (.ireturn, 1) := by decide +kernel
theorem dX7_claim_0 : decode cX7_claim 0 = .ok (.aload_n 0, 1) := by decide +kernel
theorem dX7_claim_1 : decode cX7_claim 1 = .ok (.iload_n 1, 1) := by decide +kernel
theorem dX7_claim_2 : decode cX7_claim 2 = .ok (.invokevirtual 161, 3) := by decide +kernel
theorem dX7_claim_5 : decode cX7_claim 5 = .ok (.ifCond .ne 6, 3) := by decide +kernel
theorem dX7_claim_8 : decode cX7_claim 8 = .ok (.ldc 165, 2) := by decide +kernel
theorem dX7_claim_10 : decode cX7_claim 10 = .ok (.ireturn, 1) := by decide +kernel
theorem dX7_claim_11 : decode cX7_claim 11 = .ok (.iload_n 2, 1) := by decide +kernel
theorem dX7_claim_12 : decode cX7_claim 12 = .ok (.i2l, 1) := by decide +kernel
theorem dX7_claim_13 : decode cX7_claim 13 = .ok (.lconst 0, 1) := by decide +kernel
theorem dX7_claim_14 : decode cX7_claim 14 = .ok (.ldc2_w 218, 3) := by decide +kernel
theorem dX7_claim_17 : decode cX7_claim 17 = .ok (.invokestatic 59, 3) := by decide +kernel
theorem dX7_claim_20 : decode cX7_claim 20 = .ok (.ifCond .eq 15, 3) := by decide +kernel
theorem dX7_claim_23 : decode cX7_claim 23 = .ok (.iload_n 3, 1) := by decide +kernel
theorem dX7_claim_24 : decode cX7_claim 24 = .ok (.i2l, 1) := by decide +kernel
theorem dX7_claim_25 : decode cX7_claim 25 = .ok (.lconst 0, 1) := by decide +kernel
theorem dX7_claim_26 : decode cX7_claim 26 = .ok (.ldc2_w 254, 3) := by decide +kernel
theorem dX7_claim_29 : decode cX7_claim 29 = .ok (.invokestatic 59, 3) := by decide +kernel
theorem dX7_claim_32 : decode cX7_claim 32 = .ok (.ifCond .ne 6, 3) := by decide +kernel
theorem dX7_claim_35 : decode cX7_claim 35 = .ok (.ldc 63, 2) := by decide +kernel
theorem dX7_claim_37 : decode cX7_claim 37 = .ok (.ireturn, 1) := by decide +kernel
theorem dX7_claim_38 : decode cX7_claim 38 = .ok (.iconst 0, 1) := by decide +kernel
theorem dX7_claim_39 : decode cX7_claim 39 = .ok (.istore 4, 2) := by decide +kernel
theorem dX7_claim_41 : decode cX7_claim 41 = .ok (.iconst 0, 1) := by decide +kernel
theorem dX7_claim_42 : decode cX7_claim 42 = .ok (.istore 5, 2) := by decide +kernel
theorem dX7_claim_44 : decode cX7_claim 44 = .ok (.iconst 0, 1) := by decide +kernel
theorem dX7_claim_45 : decode cX7_claim 45 = .ok (.istore 6, 2) := by decide +kernel
theorem dX7_claim_47 : decode cX7_claim 47 = .ok (.iload 6, 2) := by decide +kernel
theorem dX7_claim_49 : decode cX7_claim 49 = .ok (.aload_n 0, 1) := by decide +kernel
theorem dX7_claim_50 : decode cX7_claim 50 = .ok (.getfield 7, 3) := by decide +kernel
theorem dX7_claim_53 : decode cX7_claim 53 = .ok (.sipush 1333, 3) := by decide +kernel
theorem dX7_claim_56 : decode cX7_claim 56 = .ok (.iaload, 1) := by decide +kernel
theorem dX7_claim_57 : decode cX7_claim 57 = .ok (.if_icmp .ge 122, 3) := by decide +kernel
theorem dX7_claim_60 : decode cX7_claim 60 = .ok (.aload_n 0, 1) := by decide +kernel
theorem dX7_claim_61 : decode cX7_claim 61 = .ok (.getfield 7, 3) := by decide +kernel
theorem dX7_claim_64 : decode cX7_claim 64 = .ok (.sipush 732, 3) := by decide +kernel
theorem dX7_claim_67 : decode cX7_claim 67 = .ok (.iload 6, 2) := by decide +kernel
theorem dX7_claim_69 : decode cX7_claim 69 = .ok (.iadd, 1) := by decide +kernel
theorem dX7_claim_70 : decode cX7_claim 70 = .ok (.iaload, 1) := by decide +kernel
theorem dX7_claim_71 : decode cX7_claim 71 = .ok (.istore 7, 2) := by decide +kernel
theorem dX7_claim_73 : decode cX7_claim 73 = .ok (.aload_n 0, 1) := by decide +kernel
theorem dX7_claim_74 : decode cX7_claim 74 = .ok (.getfield 7, 3) := by decide +kernel
theorem dX7_claim_77 : decode cX7_claim 77 = .ok (.sipush 432, 3) := by decide +kernel
theorem dX7_claim_80 : decode cX7_claim 80 = .ok (.iload 6, 2) := by decide +kernel
theorem dX7_claim_82 : decode cX7_claim 82 = .ok (.iadd, 1) := by decide +kernel
theorem dX7_claim_83 : decode cX7_claim 83 = .ok (.iaload, 1) := by decide +kernel
theorem dX7_claim_84 : decode cX7_claim 84 = .ok (.iload_n 3, 1) := by decide +kernel
theorem dX7_claim_85 : decode cX7_claim 85 = .ok (.if_icmp .ne 38, 3) := by decide +kernel
theorem dX7_claim_88 : decode cX7_claim 88 = .ok (.aload_n 0, 1) := by decide +kernel
theorem dX7_claim_89 : decode cX7_claim 89 = .ok (.getfield 7, 3) := by decide +kernel
theorem dX7_claim_92 : decode cX7_claim 92 = .ok (.iload 7, 2) := by decide +kernel
theorem dX7_claim_94 : decode cX7_claim 94 = .ok (.iaload, 1) := by decide +kernel
theorem dX7_claim_95 : decode cX7_claim 95 = .ok (.iload_n 1, 1) := by decide +kernel
theorem dX7_claim_96 : decode cX7_claim 96 = .ok (.if_icmp .ne 27, 3) := by decide +kernel
theorem dX7_claim_99 : decode cX7_claim 99 = .ok (.aload_n 0, 1) := by decide +kernel
theorem dX7_claim_100 : decode cX7_claim 100 = .ok (.getfield 23, 3) := by decide +kernel
theorem dX7_claim_103 : decode cX7_claim 103 = .ok (.aload_n 0, 1) := by decide +kernel
theorem dX7_claim_104 : decode cX7_claim 104 = .ok (.getfield 7, 3) := by decide +kernel
theorem dX7_claim_107 : decode cX7_claim 107 = .ok (.sipush 1032, 3) := by decide +kernel
theorem dX7_claim_110 : decode cX7_claim 110 = .ok (.iload 6, 2) := by decide +kernel
theorem dX7_claim_112 : decode cX7_claim 112 = .ok (.iadd, 1) := by decide +kernel
theorem dX7_claim_113 : decode cX7_claim 113 = .ok (.iaload, 1) := by decide +kernel
theorem dX7_claim_114 : decode cX7_claim 114 = .ok (.iaload, 1) := by decide +kernel
theorem dX7_claim_115 : decode cX7_claim 115 = .ok (.iconst 2, 1) := by decide +kernel
theorem dX7_claim_116 : decode cX7_claim 116 = .ok (.if_icmp .ne 7, 3) := by decide +kernel
theorem dX7_claim_119 : decode cX7_claim 119 = .ok (.iconst 1, 1) := by decide +kernel
theorem dX7_claim_120 : decode cX7_claim 120 = .ok (.goto 4, 3) := by decide +kernel
theorem dX7_claim_123 : decode cX7_claim 123 = .ok (.iconst 0, 1) := by decide +kernel
theorem dX7_claim_124 : decode cX7_claim 124 = .ok (.istore 8, 2) := by decide +kernel
theorem dX7_claim_126 : decode cX7_claim 126 = .ok (.iload 4, 2) := by decide +kernel
theorem dX7_claim_128 : decode cX7_claim 128 = .ok (.ifCond .ne 8, 3) := by decide +kernel
theorem dX7_claim_131 : decode cX7_claim 131 = .ok (.iload 8, 2) := by decide +kernel
theorem dX7_claim_133 : decode cX7_claim 133 = .ok (.ifCond .eq 7, 3) := by decide +kernel
theorem dX7_claim_136 : decode cX7_claim 136 = .ok (.iconst 1, 1) := by decide +kernel
theorem dX7_claim_137 : decode cX7_claim 137 = .ok (.goto 4, 3) := by decide +kernel
theorem dX7_claim_140 : decode cX7_claim 140 = .ok (.iconst 0, 1) := by decide +kernel
theorem dX7_claim_141 : decode cX7_claim 141 = .ok (.istore 4, 2) := by decide +kernel
theorem dX7_claim_143 : decode cX7_claim 143 = .ok (.iload 5, 2) := by decide +kernel
theorem dX7_claim_145 : decode cX7_claim 145 = .ok (.ifCond .ne 21, 3) := by decide +kernel
theorem dX7_claim_148 : decode cX7_claim 148 = .ok (.iload 8, 2) := by decide +kernel
theorem dX7_claim_150 : decode cX7_claim 150 = .ok (.ifCond .eq 20, 3) := by decide +kernel
theorem dX7_claim_153 : decode cX7_claim 153 = .ok (.aload_n 0, 1) := by decide +kernel
theorem dX7_claim_154 : decode cX7_claim 154 = .ok (.getfield 7, 3) := by decide +kernel
theorem dX7_claim_157 : decode cX7_claim 157 = .ok (.bipush 40, 2) := by decide +kernel
theorem dX7_claim_159 : decode cX7_claim 159 = .ok (.iload 7, 2) := by decide +kernel
theorem dX7_claim_161 : decode cX7_claim 161 = .ok (.iadd, 1) := by decide +kernel
theorem dX7_claim_162 : decode cX7_claim 162 = .ok (.iaload, 1) := by decide +kernel
theorem dX7_claim_163 : decode cX7_claim 163 = .ok (.ifCond .ne 7, 3) := by decide +kernel
theorem dX7_claim_166 : decode cX7_claim 166 = .ok (.iconst 1, 1) := by decide +kernel
theorem dX7_claim_167 : decode cX7_claim 167 = .ok (.goto 4, 3) := by decide +kernel
theorem dX7_claim_170 : decode cX7_claim 170 = .ok (.iconst 0, 1) := by decide +kernel
theorem dX7_claim_171 : decode cX7_claim 171 = .ok (.istore 5, 2) := by decide +kernel
theorem dX7_claim_173 : decode cX7_claim 173 = .ok (.iinc 6 1, 3) := by decide +kernel
theorem dX7_claim_176 : decode cX7_claim 176 = .ok (.goto (-129), 3) := by decide +kernel
theorem dX7_claim_179 : decode cX7_claim 179 = .ok (.iload 4, 2) := by decide +kernel
theorem dX7_claim_181 : decode cX7_claim 181 = .ok (.ifCond .eq 12, 3) := by decide +kernel
theorem dX7_claim_184 : decode cX7_claim 184 = .ok (.iload_n 2, 1) := by decide +kernel
theorem dX7_claim_185 : decode cX7_claim 185 = .ok (.ifCond .ne 12, 3) := by decide +kernel
theorem dX7_claim_188 : decode cX7_claim 188 = .ok (.iload 5, 2) := by decide +kernel
theorem dX7_claim_190 : decode cX7_claim 190 = .ok (.ifCond .ne 7, 3) := by decide +kernel
theorem dX7_claim_193 : decode cX7_claim 193 = .ok (.iconst 1, 1) := by decide +kernel
theorem dX7_claim_194 : decode cX7_claim 194 = .ok (.goto 4, 3) := by decide +kernel
theorem dX7_claim_197 : decode cX7_claim 197 = .ok (.iconst 0, 1) := by decide +kernel
theorem dX7_claim_198 : decode cX7_claim 198 = .ok (.invokestatic 141, 3) := by decide +kernel
theorem dX7_claim_201 : decode cX7_claim 201 = .ok (.ireturn, 1) := by decide +kernel
theorem dX7_whence_0 : decode cX7_whence 0 = .ok (.aload_n 0, 1) := by decide +kernel
theorem dX7_whence_1 : decode cX7_whence 1 = .ok (.iload_n 1, 1) := by decide +kernel
theorem dX7_whence_2 : decode cX7_whence 2 = .ok (.invokevirtual 161, 3) := by decide +kernel
theorem dX7_whence_5 : decode cX7_whence 5 = .ok (.ifCond .ne 6, 3) := by decide +kernel
theorem dX7_whence_8 : decode cX7_whence 8 = .ok (.ldc 165, 2) := by decide +kernel
theorem dX7_whence_10 : decode cX7_whence 10 = .ok (.ireturn, 1) := by decide +kernel
theorem dX7_whence_11 : decode cX7_whence 11 = .ok (.iload_n 2, 1) := by decide +kernel
theorem dX7_whence_12 : decode cX7_whence 12 = .ok (.i2l, 1) := by decide +kernel
theorem dX7_whence_13 : decode cX7_whence 13 = .ok (.lconst 0, 1) := by decide +kernel
theorem dX7_whence_14 : decode cX7_whence 14 = .ok (.ldc2_w 218, 3) := by decide +kernel
theorem dX7_whence_17 : decode cX7_whence 17 = .ok (.invokestatic 59, 3) := by decide +kernel
theorem dX7_whence_20 : decode cX7_whence 20 = .ok (.ifCond .ne 6, 3) := by decide +kernel
theorem dX7_whence_23 : decode cX7_whence 23 = .ok (.ldc 63, 2) := by decide +kernel
theorem dX7_whence_25 : decode cX7_whence 25 = .ok (.ireturn, 1) := by decide +kernel
theorem dX7_whence_26 : decode cX7_whence 26 = .ok (.iconst 0, 1) := by decide +kernel
theorem dX7_whence_27 : decode cX7_whence 27 = .ok (.istore_n 3, 1) := by decide +kernel
theorem dX7_whence_28 : decode cX7_whence 28 = .ok (.iload_n 3, 1) := by decide +kernel
theorem dX7_whence_29 : decode cX7_whence 29 = .ok (.aload_n 0, 1) := by decide +kernel
theorem dX7_whence_30 : decode cX7_whence 30 = .ok (.getfield 7, 3) := by decide +kernel
theorem dX7_whence_33 : decode cX7_whence 33 = .ok (.sipush 1332, 3) := by decide +kernel
theorem dX7_whence_36 : decode cX7_whence 36 = .ok (.iaload, 1) := by decide +kernel
theorem dX7_whence_37 : decode cX7_whence 37 = .ok (.if_icmp .ge 48, 3) := by decide +kernel
theorem dX7_whence_40 : decode cX7_whence 40 = .ok (.iload_n 2, 1) := by decide +kernel
theorem dX7_whence_41 : decode cX7_whence 41 = .ok (.ifCond .le 44, 3) := by decide +kernel
theorem dX7_whence_44 : decode cX7_whence 44 = .ok (.aload_n 0, 1) := by decide +kernel
theorem dX7_whence_45 : decode cX7_whence 45 = .ok (.getfield 7, 3) := by decide +kernel
theorem dX7_whence_48 : decode cX7_whence 48 = .ok (.iload_n 3, 1) := by decide +kernel
theorem dX7_whence_49 : decode cX7_whence 49 = .ok (.iaload, 1) := by decide +kernel
theorem dX7_whence_50 : decode cX7_whence 50 = .ok (.iload_n 1, 1) := by decide +kernel
theorem dX7_whence_51 : decode cX7_whence 51 = .ok (.if_icmp .ne 28, 3) := by decide +kernel
theorem dX7_whence_54 : decode cX7_whence 54 = .ok (.aload_n 0, 1) := by decide +kernel
theorem dX7_whence_55 : decode cX7_whence 55 = .ok (.getfield 7, 3) := by decide +kernel
theorem dX7_whence_58 : decode cX7_whence 58 = .ok (.bipush 40, 2) := by decide +kernel
theorem dX7_whence_60 : decode cX7_whence 60 = .ok (.iload_n 3, 1) := by decide +kernel
theorem dX7_whence_61 : decode cX7_whence 61 = .ok (.iadd, 1) := by decide +kernel
theorem dX7_whence_62 : decode cX7_whence 62 = .ok (.iaload, 1) := by decide +kernel
theorem dX7_whence_63 : decode cX7_whence 63 = .ok (.iload_n 2, 1) := by decide +kernel
theorem dX7_whence_64 : decode cX7_whence 64 = .ok (.if_icmp .ne 15, 3) := by decide +kernel
theorem dX7_whence_67 : decode cX7_whence 67 = .ok (.iconst 1, 1) := by decide +kernel
theorem dX7_whence_68 : decode cX7_whence 68 = .ok (.aload_n 0, 1) := by decide +kernel
theorem dX7_whence_69 : decode cX7_whence 69 = .ok (.getfield 7, 3) := by decide +kernel
theorem dX7_whence_72 : decode cX7_whence 72 = .ok (.bipush 120, 2) := by decide +kernel
theorem dX7_whence_74 : decode cX7_whence 74 = .ok (.iload_n 3, 1) := by decide +kernel
theorem dX7_whence_75 : decode cX7_whence 75 = .ok (.iadd, 1) := by decide +kernel
theorem dX7_whence_76 : decode cX7_whence 76 = .ok (.iaload, 1) := by decide +kernel
theorem dX7_whence_77 : decode cX7_whence 77 = .ok (.ishl, 1) := by decide +kernel
theorem dX7_whence_78 : decode cX7_whence 78 = .ok (.ireturn, 1) := by decide +kernel
theorem dX7_whence_79 : decode cX7_whence 79 = .ok (.iinc 3 1, 3) := by decide +kernel
theorem dX7_whence_82 : decode cX7_whence 82 = .ok (.goto (-54), 3) := by decide +kernel
theorem dX7_whence_85 : decode cX7_whence 85 = .ok (.iconst 0, 1) := by decide +kernel
theorem dX7_whence_86 : decode cX7_whence 86 = .ok (.ireturn, 1) := by decide +kernel
theorem dX7_span_0 : decode cX7_span 0 = .ok (.iload_n 1, 1) := by decide +kernel
theorem dX7_span_1 : decode cX7_span 1 = .ok (.i2l, 1) := by decide +kernel
theorem dX7_span_2 : decode cX7_span 2 = .ok (.lconst 1, 1) := by decide +kernel
theorem dX7_span_3 : decode cX7_span 3 = .ok (.ldc2_w 212, 3) := by decide +kernel
theorem dX7_span_6 : decode cX7_span 6 = .ok (.invokestatic 59, 3) := by decide +kernel
theorem dX7_span_9 : decode cX7_span 9 = .ok (.ifCond .eq 25, 3) := by decide +kernel
theorem dX7_span_12 : decode cX7_span 12 = .ok (.iload_n 2, 1) := by decide +kernel
theorem dX7_span_13 : decode cX7_span 13 = .ok (.i2l, 1) := by decide +kernel
theorem dX7_span_14 : decode cX7_span 14 = .ok (.lconst 1, 1) := by decide +kernel
theorem dX7_span_15 : decode cX7_span 15 = .ok (.ldc2_w 256, 3) := by decide +kernel
theorem dX7_span_18 : decode cX7_span 18 = .ok (.invokestatic 59, 3) := by decide +kernel
theorem dX7_span_21 : decode cX7_span 21 = .ok (.ifCond .eq 13, 3) := by decide +kernel
theorem dX7_span_24 : decode cX7_span 24 = .ok (.iload_n 3, 1) := by decide +kernel
theorem dX7_span_25 : decode cX7_span 25 = .ok (.i2l, 1) := by decide +kernel
theorem dX7_span_26 : decode cX7_span 26 = .ok (.lconst 0, 1) := by decide +kernel
theorem dX7_span_27 : decode cX7_span 27 = .ok (.lconst 1, 1) := by decide +kernel
theorem dX7_span_28 : decode cX7_span 28 = .ok (.invokestatic 59, 3) := by decide +kernel
theorem dX7_span_31 : decode cX7_span 31 = .ok (.ifCond .ne 6, 3) := by decide +kernel
theorem dX7_span_34 : decode cX7_span 34 = .ok (.ldc 63, 2) := by decide +kernel
theorem dX7_span_36 : decode cX7_span 36 = .ok (.ireturn, 1) := by decide +kernel
theorem dX7_span_37 : decode cX7_span 37 = .ok (.aload_n 0, 1) := by decide +kernel
theorem dX7_span_38 : decode cX7_span 38 = .ok (.getfield 7, 3) := by decide +kernel
theorem dX7_span_41 : decode cX7_span 41 = .ok (.sipush 1332, 3) := by decide +kernel
theorem dX7_span_44 : decode cX7_span 44 = .ok (.iaload, 1) := by decide +kernel
theorem dX7_span_45 : decode cX7_span 45 = .ok (.ifCond .ne 6, 3) := by decide +kernel
theorem dX7_span_48 : decode cX7_span 48 = .ok (.ldc 187, 2) := by decide +kernel
theorem dX7_span_50 : decode cX7_span 50 = .ok (.ireturn, 1) := by decide +kernel
theorem dX7_span_51 : decode cX7_span 51 = .ok (.bipush 99, 2) := by decide +kernel
theorem dX7_span_53 : decode cX7_span 53 = .ok (.istore 4, 2) := by decide +kernel
theorem dX7_span_55 : decode cX7_span 55 = .ok (.iconst (-1), 1) := by decide +kernel
theorem dX7_span_56 : decode cX7_span 56 = .ok (.istore 5, 2) := by decide +kernel
theorem dX7_span_58 : decode cX7_span 58 = .ok (.aload_n 0, 1) := by decide +kernel
theorem dX7_span_59 : decode cX7_span 59 = .ok (.getfield 7, 3) := by decide +kernel
theorem dX7_span_62 : decode cX7_span 62 = .ok (.sipush 1335, 3) := by decide +kernel
theorem dX7_span_65 : decode cX7_span 65 = .ok (.iaload, 1) := by decide +kernel
theorem dX7_span_66 : decode cX7_span 66 = .ok (.istore 6, 2) := by decide +kernel
theorem dX7_span_68 : decode cX7_span 68 = .ok (.iconst 0, 1) := by decide +kernel
theorem dX7_span_69 : decode cX7_span 69 = .ok (.istore 7, 2) := by decide +kernel
theorem dX7_span_71 : decode cX7_span 71 = .ok (.iload 7, 2) := by decide +kernel
theorem dX7_span_73 : decode cX7_span 73 = .ok (.iload_n 2, 1) := by decide +kernel
theorem dX7_span_74 : decode cX7_span 74 = .ok (.if_icmp .ge 86, 3) := by decide +kernel
theorem dX7_span_77 : decode cX7_span 77 = .ok (.aload_n 0, 1) := by decide +kernel
theorem dX7_span_78 : decode cX7_span 78 = .ok (.iconst 0, 1) := by decide +kernel
theorem dX7_span_79 : decode cX7_span 79 = .ok (.sipush 1500, 3) := by decide +kernel
theorem dX7_span_82 : decode cX7_span 82 = .ok (.invokevirtual 229, 3) := by decide +kernel
theorem dX7_span_85 : decode cX7_span 85 = .ok (.aload_n 0, 1) := by decide +kernel
theorem dX7_span_86 : decode cX7_span 86 = .ok (.getfield 7, 3) := by decide +kernel
theorem dX7_span_89 : decode cX7_span 89 = .ok (.sipush 2835, 3) := by decide +kernel
theorem dX7_span_92 : decode cX7_span 92 = .ok (.iload 6, 2) := by decide +kernel
theorem dX7_span_94 : decode cX7_span 94 = .ok (.iastore, 1) := by decide +kernel
theorem dX7_span_95 : decode cX7_span 95 = .ok (.aload_n 0, 1) := by decide +kernel
theorem dX7_span_96 : decode cX7_span 96 = .ok (.sipush 1500, 3) := by decide +kernel
theorem dX7_span_99 : decode cX7_span 99 = .ok (.iload_n 1, 1) := by decide +kernel
theorem dX7_span_100 : decode cX7_span 100 = .ok (.invokevirtual 214, 3) := by decide +kernel
theorem dX7_span_103 : decode cX7_span 103 = .ok (.aload_n 0, 1) := by decide +kernel
theorem dX7_span_104 : decode cX7_span 104 = .ok (.getfield 7, 3) := by decide +kernel
theorem dX7_span_107 : decode cX7_span 107 = .ok (.sipush 2835, 3) := by decide +kernel
theorem dX7_span_110 : decode cX7_span 110 = .ok (.iaload, 1) := by decide +kernel
theorem dX7_span_111 : decode cX7_span 111 = .ok (.istore 6, 2) := by decide +kernel
theorem dX7_span_113 : decode cX7_span 113 = .ok (.aload_n 0, 1) := by decide +kernel
theorem dX7_span_114 : decode cX7_span 114 = .ok (.sipush 1500, 3) := by decide +kernel
theorem dX7_span_117 : decode cX7_span 117 = .ok (.invokevirtual 145, 3) := by decide +kernel
theorem dX7_span_120 : decode cX7_span 120 = .ok (.istore 8, 2) := by decide +kernel
theorem dX7_span_122 : decode cX7_span 122 = .ok (.iload 8, 2) := by decide +kernel
theorem dX7_span_124 : decode cX7_span 124 = .ok (.iload 4, 2) := by decide +kernel
theorem dX7_span_126 : decode cX7_span 126 = .ok (.if_icmp .ge 8, 3) := by decide +kernel
theorem dX7_span_129 : decode cX7_span 129 = .ok (.iload 8, 2) := by decide +kernel
theorem dX7_span_131 : decode cX7_span 131 = .ok (.goto 5, 3) := by decide +kernel
theorem dX7_span_134 : decode cX7_span 134 = .ok (.iload 4, 2) := by decide +kernel
theorem dX7_span_136 : decode cX7_span 136 = .ok (.istore 4, 2) := by decide +kernel
theorem dX7_span_138 : decode cX7_span 138 = .ok (.iload 8, 2) := by decide +kernel
theorem dX7_span_140 : decode cX7_span 140 = .ok (.iload 5, 2) := by decide +kernel
theorem dX7_span_142 : decode cX7_span 142 = .ok (.if_icmp .le 8, 3) := by decide +kernel
theorem dX7_span_145 : decode cX7_span 145 = .ok (.iload 8, 2) := by decide +kernel
theorem dX7_span_147 : decode cX7_span 147 = .ok (.goto 5, 3) := by decide +kernel
theorem dX7_span_150 : decode cX7_span 150 = .ok (.iload 5, 2) := by decide +kernel
theorem dX7_span_152 : decode cX7_span 152 = .ok (.istore 5, 2) := by decide +kernel
theorem dX7_span_154 : decode cX7_span 154 = .ok (.iinc 7 1, 3) := by decide +kernel
theorem dX7_span_157 : decode cX7_span 157 = .ok (.goto (-86), 3) := by decide +kernel
theorem dX7_span_160 : decode cX7_span 160 = .ok (.iload_n 3, 1) := by decide +kernel
theorem dX7_span_161 : decode cX7_span 161 = .ok (.ifCond .ne 8, 3) := by decide +kernel
theorem dX7_span_164 : decode cX7_span 164 = .ok (.iload 4, 2) := by decide +kernel
theorem dX7_span_166 : decode cX7_span 166 = .ok (.goto 5, 3) := by decide +kernel
theorem dX7_span_169 : decode cX7_span 169 = .ok (.iload 5, 2) := by decide +kernel
theorem dX7_span_171 : decode cX7_span 171 = .ok (.ireturn, 1) := by decide +kernel
theorem dX7_note_0 : decode cX7_note 0 = .ok (.iload_n 1, 1) := by decide +kernel
theorem dX7_note_1 : decode cX7_note 1 = .ok (.i2l, 1) := by decide +kernel
theorem dX7_note_2 : decode cX7_note 2 = .ok (.lconst 0, 1) := by decide +kernel
theorem dX7_note_3 : decode cX7_note 3 = .ok (.ldc2_w 258, 3) := by decide +kernel
theorem dX7_note_6 : decode cX7_note 6 = .ok (.invokestatic 59, 3) := by decide +kernel
theorem dX7_note_9 : decode cX7_note 9 = .ok (.ifCond .ne 6, 3) := by decide +kernel
theorem dX7_note_12 : decode cX7_note 12 = .ok (.ldc 63, 2) := by decide +kernel
theorem dX7_note_14 : decode cX7_note 14 = .ok (.ireturn, 1) := by decide +kernel
theorem dX7_note_15 : decode cX7_note 15 = .ok (.aload_n 0, 1) := by decide +kernel
theorem dX7_note_16 : decode cX7_note 16 = .ok (.getfield 134, 3) := by decide +kernel
theorem dX7_note_19 : decode cX7_note 19 = .ok (.bipush 60, 2) := by decide +kernel
theorem dX7_note_21 : decode cX7_note 21 = .ok (.if_icmp .ne 6, 3) := by decide +kernel
theorem dX7_note_24 : decode cX7_note 24 = .ok (.ldc 67, 2) := by decide +kernel
theorem dX7_note_26 : decode cX7_note 26 = .ok (.ireturn, 1) := by decide +kernel
theorem dX7_note_27 : decode cX7_note 27 = .ok (.aload_n 0, 1) := by decide +kernel
theorem dX7_note_28 : decode cX7_note 28 = .ok (.getfield 54, 3) := by decide +kernel
theorem dX7_note_31 : decode cX7_note 31 = .ok (.aload_n 0, 1) := by decide +kernel
theorem dX7_note_32 : decode cX7_note 32 = .ok (.getfield 134, 3) := by decide +kernel
theorem dX7_note_35 : decode cX7_note 35 = .ok (.iload_n 1, 1) := by decide +kernel
theorem dX7_note_36 : decode cX7_note 36 = .ok (.iastore, 1) := by decide +kernel
theorem dX7_note_37 : decode cX7_note 37 = .ok (.aload_n 0, 1) := by decide +kernel
theorem dX7_note_38 : decode cX7_note 38 = .ok (.dup, 1) := by decide +kernel
theorem dX7_note_39 : decode cX7_note 39 = .ok (.getfield 134, 3) := by decide +kernel
theorem dX7_note_42 : decode cX7_note 42 = .ok (.iconst 1, 1) := by decide +kernel
theorem dX7_note_43 : decode cX7_note 43 = .ok (.iadd, 1) := by decide +kernel
theorem dX7_note_44 : decode cX7_note 44 = .ok (.putfield 134, 3) := by decide +kernel
theorem dX7_note_47 : decode cX7_note 47 = .ok (.aload_n 0, 1) := by decide +kernel
theorem dX7_note_48 : decode cX7_note 48 = .ok (.getfield 134, 3) := by decide +kernel
theorem dX7_note_51 : decode cX7_note 51 = .ok (.ireturn, 1) := by decide +kernel
theorem dX7_tear_0 : decode cX7_tear 0 = .ok (.aload_n 0, 1) := by decide +kernel
theorem dX7_tear_1 : decode cX7_tear 1 = .ok (.getfield 134, 3) := by decide +kernel
theorem dX7_tear_4 : decode cX7_tear 4 = .ok (.istore_n 1, 1) := by decide +kernel
theorem dX7_tear_5 : decode cX7_tear 5 = .ok (.aload_n 0, 1) := by decide +kernel
theorem dX7_tear_6 : decode cX7_tear 6 = .ok (.iconst 0, 1) := by decide +kernel
theorem dX7_tear_7 : decode cX7_tear 7 = .ok (.putfield 134, 3) := by decide +kernel
theorem dX7_tear_10 : decode cX7_tear 10 = .ok (.iload_n 1, 1) := by decide +kernel
theorem dX7_tear_11 : decode cX7_tear 11 = .ok (.ireturn, 1) := by decide +kernel
theorem dX7_judge_0 : decode cX7_judge 0 = .ok (.aload_n 0, 1) := by decide +kernel
theorem dX7_judge_1 : decode cX7_judge 1 = .ok (.iconst 0, 1) := by decide +kernel
theorem dX7_judge_2 : decode cX7_judge 2 = .ok (.sipush 1500, 3) := by decide +kernel
theorem dX7_judge_5 : decode cX7_judge 5 = .ok (.invokevirtual 229, 3) := by decide +kernel
theorem dX7_judge_8 : decode cX7_judge 8 = .ok (.iconst 0, 1) := by decide +kernel
theorem dX7_judge_9 : decode cX7_judge 9 = .ok (.istore_n 1, 1) := by decide +kernel
theorem dX7_judge_10 : decode cX7_judge 10 = .ok (.iload_n 1, 1) := by decide +kernel
theorem dX7_judge_11 : decode cX7_judge 11 = .ok (.aload_n 0, 1) := by decide +kernel
theorem dX7_judge_12 : decode cX7_judge 12 = .ok (.getfield 134, 3) := by decide +kernel
theorem dX7_judge_15 : decode cX7_judge 15 = .ok (.if_icmp .ge 34, 3) := by decide +kernel
theorem dX7_judge_18 : decode cX7_judge 18 = .ok (.aload_n 0, 1) := by decide +kernel
theorem dX7_judge_19 : decode cX7_judge 19 = .ok (.sipush 1500, 3) := by decide +kernel
theorem dX7_judge_22 : decode cX7_judge 22 = .ok (.invokevirtual 145, 3) := by decide +kernel
theorem dX7_judge_25 : decode cX7_judge 25 = .ok (.aload_n 0, 1) := by decide +kernel
theorem dX7_judge_26 : decode cX7_judge 26 = .ok (.getfield 54, 3) := by decide +kernel
theorem dX7_judge_29 : decode cX7_judge 29 = .ok (.iload_n 1, 1) := by decide +kernel
theorem dX7_judge_30 : decode cX7_judge 30 = .ok (.iaload, 1) := by decide +kernel
theorem dX7_judge_31 : decode cX7_judge 31 = .ok (.if_icmp .eq 5, 3) := by decide +kernel
theorem dX7_judge_34 : decode cX7_judge 34 = .ok (.iload_n 1, 1) := by decide +kernel
theorem dX7_judge_35 : decode cX7_judge 35 = .ok (.ireturn, 1) := by decide +kernel
theorem dX7_judge_36 : decode cX7_judge 36 = .ok (.aload_n 0, 1) := by decide +kernel
theorem dX7_judge_37 : decode cX7_judge 37 = .ok (.sipush 1500, 3) := by decide +kernel
theorem dX7_judge_40 : decode cX7_judge 40 = .ok (.invokevirtual 208, 3) := by decide +kernel
theorem dX7_judge_43 : decode cX7_judge 43 = .ok (.iinc 1 1, 3) := by decide +kernel
theorem dX7_judge_46 : decode cX7_judge 46 = .ok (.goto (-36), 3) := by decide +kernel
theorem dX7_judge_49 : decode cX7_judge 49 = .ok (.iconst (-1), 1) := by decide +kernel
theorem dX7_judge_50 : decode cX7_judge 50 = .ok (.ireturn, 1) := by decide +kernel
theorem dX7_seed_0 : decode cX7_seed 0 = .ok (.iload_n 1, 1) := by decide +kernel
theorem dX7_seed_1 : decode cX7_seed 1 = .ok (.ifCond .ge 6, 3) := by decide +kernel
theorem dX7_seed_4 : decode cX7_seed 4 = .ok (.ldc 63, 2) := by decide +kernel
theorem dX7_seed_6 : decode cX7_seed 6 = .ok (.ireturn, 1) := by decide +kernel
theorem dX7_seed_7 : decode cX7_seed 7 = .ok (.aload_n 0, 1) := by decide +kernel
theorem dX7_seed_8 : decode cX7_seed 8 = .ok (.getfield 7, 3) := by decide +kernel
theorem dX7_seed_11 : decode cX7_seed 11 = .ok (.sipush 1335, 3) := by decide +kernel
theorem dX7_seed_14 : decode cX7_seed 14 = .ok (.iaload, 1) := by decide +kernel
theorem dX7_seed_15 : decode cX7_seed 15 = .ok (.istore_n 2, 1) := by decide +kernel
theorem dX7_seed_16 : decode cX7_seed 16 = .ok (.aload_n 0, 1) := by decide +kernel
theorem dX7_seed_17 : decode cX7_seed 17 = .ok (.getfield 7, 3) := by decide +kernel
theorem dX7_seed_20 : decode cX7_seed 20 = .ok (.sipush 1335, 3) := by decide +kernel
theorem dX7_seed_23 : decode cX7_seed 23 = .ok (.iload_n 1, 1) := by decide +kernel
theorem dX7_seed_24 : decode cX7_seed 24 = .ok (.iastore, 1) := by decide +kernel
theorem dX7_seed_25 : decode cX7_seed 25 = .ok (.iload_n 2, 1) := by decide +kernel
theorem dX7_seed_26 : decode cX7_seed 26 = .ok (.ireturn, 1) := by decide +kernel
theorem dX7_keep_0 : decode cX7_keep 0 = .ok (.iload_n 1, 1) := by decide +kernel
theorem dX7_keep_1 : decode cX7_keep 1 = .ok (.i2l, 1) := by decide +kernel
theorem dX7_keep_2 : decode cX7_keep 2 = .ok (.lconst 0, 1) := by decide +kernel
theorem dX7_keep_3 : decode cX7_keep 3 = .ok (.lconst 1, 1) := by decide +kernel
theorem dX7_keep_4 : decode cX7_keep 4 = .ok (.invokestatic 59, 3) := by decide +kernel
theorem dX7_keep_7 : decode cX7_keep 7 = .ok (.ifCond .ne 6, 3) := by decide +kernel
theorem dX7_keep_10 : decode cX7_keep 10 = .ok (.ldc 165, 2) := by decide +kernel
theorem dX7_keep_12 : decode cX7_keep 12 = .ok (.ireturn, 1) := by decide +kernel
theorem dX7_keep_13 : decode cX7_keep 13 = .ok (.aload_n 0, 1) := by decide +kernel
theorem dX7_keep_14 : decode cX7_keep 14 = .ok (.iconst 0, 1) := by decide +kernel
theorem dX7_keep_15 : decode cX7_keep 15 = .ok (.sipush 3000, 3) := by decide +kernel
theorem dX7_keep_18 : decode cX7_keep 18 = .ok (.sipush 1500, 3) := by decide +kernel
theorem dX7_keep_21 : decode cX7_keep 21 = .ok (.iload_n 1, 1) := by decide +kernel
theorem dX7_keep_22 : decode cX7_keep 22 = .ok (.imul, 1) := by decide +kernel
theorem dX7_keep_23 : decode cX7_keep 23 = .ok (.iadd, 1) := by decide +kernel
theorem dX7_keep_24 : decode cX7_keep 24 = .ok (.invokevirtual 229, 3) := by decide +kernel
theorem dX7_keep_27 : decode cX7_keep 27 = .ok (.aload_n 0, 1) := by decide +kernel
theorem dX7_keep_28 : decode cX7_keep 28 = .ok (.getfield 13, 3) := by decide +kernel
theorem dX7_keep_31 : decode cX7_keep 31 = .ok (.iload_n 1, 1) := by decide +kernel
theorem dX7_keep_32 : decode cX7_keep 32 = .ok (.iconst 1, 1) := by decide +kernel
theorem dX7_keep_33 : decode cX7_keep 33 = .ok (.bastore, 1) := by decide +kernel
theorem dX7_keep_34 : decode cX7_keep 34 = .ok (.iconst 1, 1) := by decide +kernel
theorem dX7_keep_35 : decode cX7_keep 35 = .ok (.ireturn, 1) := by decide +kernel
theorem dX7_goBack_0 : decode cX7_goBack 0 = .ok (.iload_n 1, 1) := by decide +kernel
theorem dX7_goBack_1 : decode cX7_goBack 1 = .ok (.i2l, 1) := by decide +kernel
theorem dX7_goBack_2 : decode cX7_goBack 2 = .ok (.lconst 0, 1) := by decide +kernel
theorem dX7_goBack_3 : decode cX7_goBack 3 = .ok (.lconst 1, 1) := by decide +kernel
theorem dX7_goBack_4 : decode cX7_goBack 4 = .ok (.invokestatic 59, 3) := by decide +kernel
theorem dX7_goBack_7 : decode cX7_goBack 7 = .ok (.ifCond .ne 6, 3) := by decide +kernel
theorem dX7_goBack_10 : decode cX7_goBack 10 = .ok (.ldc 165, 2) := by decide +kernel
theorem dX7_goBack_12 : decode cX7_goBack 12 = .ok (.ireturn, 1) := by decide +kernel
theorem dX7_goBack_13 : decode cX7_goBack 13 = .ok (.aload_n 0, 1) := by decide +kernel
theorem dX7_goBack_14 : decode cX7_goBack 14 = .ok (.getfield 13, 3) := by decide +kernel
theorem dX7_goBack_17 : decode cX7_goBack 17 = .ok (.iload_n 1, 1) := by decide +kernel
theorem dX7_goBack_18 : decode cX7_goBack 18 = .ok (.baload, 1) := by decide +kernel
theorem dX7_goBack_19 : decode cX7_goBack 19 = .ok (.ifCond .ne 6, 3) := by decide +kernel
theorem dX7_goBack_22 : decode cX7_goBack 22 = .ok (.ldc 187, 2) := by decide +kernel
theorem dX7_goBack_24 : decode cX7_goBack 24 = .ok (.ireturn, 1) := by decide +kernel
theorem dX7_goBack_25 : decode cX7_goBack 25 = .ok (.aload_n 0, 1) := by decide +kernel
theorem dX7_goBack_26 : decode cX7_goBack 26 = .ok (.sipush 3000, 3) := by decide +kernel
theorem dX7_goBack_29 : decode cX7_goBack 29 = .ok (.sipush 1500, 3) := by decide +kernel
theorem dX7_goBack_32 : decode cX7_goBack 32 = .ok (.iload_n 1, 1) := by decide +kernel
theorem dX7_goBack_33 : decode cX7_goBack 33 = .ok (.imul, 1) := by decide +kernel
theorem dX7_goBack_34 : decode cX7_goBack 34 = .ok (.iadd, 1) := by decide +kernel
theorem dX7_goBack_35 : decode cX7_goBack 35 = .ok (.iconst 0, 1) := by decide +kernel
theorem dX7_goBack_36 : decode cX7_goBack 36 = .ok (.invokevirtual 229, 3) := by decide +kernel
theorem dX7_goBack_39 : decode cX7_goBack 39 = .ok (.iconst 1, 1) := by decide +kernel
theorem dX7_goBack_40 : decode cX7_goBack 40 = .ok (.ireturn, 1) := by decide +kernel
