/-! every word of the law is one of the tables' -/
theorem mem_pos {ws tbl : List Cond} (is : List Nat) (h : is.map (fun i => tbl[i]?) = ws.map some) : ∀ w ∈ ws, w ∈ tbl := by
  intro w hw
  obtain ⟨k, hk⟩ := List.getElem?_of_mem hw
  have h1 : (is.map (fun i => tbl[i]?))[k]? = some (some w) := by rw [h, List.getElem?_map, hk]; rfl
  rw [List.getElem?_map] at h1
  cases hi : is[k]? with
  | none => rw [hi] at h1; cases h1
  | some i => rw [hi] at h1; exact List.mem_of_getElem? (Option.some.inj h1)
set_option maxRecDepth 20000 in
theorem tin_1 : ∀ w ∈ wsL_law_r1, w ∈ lw_tbl := mem_pos [67, 68, 51, 812, 813, 59, 1188, 69, 70, 71, 72, 73, 74, 75, 76, 52, 268, 101, 102, 53, 269, 270, 147, 148] (by decide +kernel)
set_option maxRecDepth 20000 in
theorem tin_2 : ∀ w ∈ wsL_law_r2, w ∈ lw_tbl := mem_pos [54, 271, 272, 273, 274, 229, 230, 57, 275, 249, 250, 58, 276, 100, 277, 278, 279, 78, 79, 80, 81, 82, 84, 86] (by decide +kernel)
set_option maxRecDepth 20000 in
theorem tin_3 : ∀ w ∈ wsL_law_r3, w ∈ lw_tbl := mem_pos [88, 104, 105, 106, 107, 109, 111, 114, 117, 121, 125, 128, 149, 150, 151, 152, 153, 154, 55, 184, 186, 188, 190, 192] (by decide +kernel)
set_option maxRecDepth 20000 in
theorem tin_4 : ∀ w ∈ wsL_law_r4, w ∈ lw_tbl := mem_pos [193, 194, 195, 197, 199, 201, 183, 156, 157, 158, 159, 162, 165, 168, 180, 181, 56, 182, 232, 233, 234, 235, 236, 237] (by decide +kernel)
set_option maxRecDepth 20000 in
theorem tin_5 : ∀ w ∈ wsL_law_r5, w ∈ lw_tbl := mem_pos [238, 252, 253, 254, 255, 257, 259, 814, 815, 816, 817, 818, 894, 819, 820, 821, 822, 823, 824, 825, 828, 834, 836, 837] (by decide +kernel)
set_option maxRecDepth 20000 in
theorem tin_6 : ∀ w ∈ wsL_law_r6, w ∈ lw_tbl := mem_pos [838, 840, 841, 305, 306, 307, 308, 309, 83, 310, 311, 312, 313, 314, 895, 896, 897, 898, 899, 903, 829, 904, 905, 900] (by decide +kernel)
set_option maxRecDepth 20000 in
theorem tin_7 : ∀ w ∈ wsL_law_r7, w ∈ lw_tbl := mem_pos [901, 902, 315, 316, 317, 318, 85, 239, 119, 319, 320, 321, 322, 323, 324, 325, 326, 327, 329, 0, 330, 331, 333, 1] (by decide +kernel)
set_option maxRecDepth 20000 in
theorem tin_8 : ∀ w ∈ wsL_law_r8, w ∈ lw_tbl := mem_pos [334, 335, 337, 2, 338, 340, 342, 3, 343, 344, 345, 346, 60, 347, 1189, 348, 349, 350, 351, 352, 1190, 354, 355, 356] (by decide +kernel)
set_option maxRecDepth 20000 in
theorem tin_9 : ∀ w ∈ wsL_law_r9, w ∈ lw_tbl := mem_pos [357, 358, 359, 360, 361, 362, 363, 61, 364, 365, 366, 367, 368, 370, 371, 62, 372, 373, 374, 63, 375, 376, 377, 378] (by decide +kernel)
set_option maxRecDepth 20000 in
theorem tin_10 : ∀ w ∈ wsL_law_r10, w ∈ lw_tbl := mem_pos [379, 380, 381, 382, 383, 384, 385, 386, 388, 390, 392, 394, 4, 395, 120, 396, 398, 5, 399, 400, 402, 6, 403, 404] (by decide +kernel)
set_option maxRecDepth 20000 in
theorem tin_11 : ∀ w ∈ wsL_law_r11, w ∈ lw_tbl := mem_pos [405, 406, 407, 409, 7, 410, 411, 412, 413, 414, 416, 418, 8, 419, 123, 420, 422, 9, 423, 429, 430, 431, 432, 434] (by decide +kernel)
set_option maxRecDepth 20000 in
theorem tin_12 : ∀ w ∈ wsL_law_r12, w ∈ lw_tbl := mem_pos [436, 10, 437, 129, 438, 439, 440, 441, 442, 443, 444, 445, 446, 448, 447, 64, 449, 450, 451, 452, 118, 110, 169, 906] (by decide +kernel)
set_option maxRecDepth 20000 in
theorem tin_13 : ∀ w ∈ wsL_law_r13, w ∈ lw_tbl := mem_pos [907, 908, 909, 830, 833, 826, 827, 943, 944, 945, 946, 835, 842, 910, 912, 20, 913, 914, 916, 21, 917, 831, 918, 920] (by decide +kernel)
set_option maxRecDepth 20000 in
theorem tin_14 : ∀ w ∈ wsL_law_r14, w ∈ lw_tbl := mem_pos [22, 921, 922, 923, 832, 924, 926, 23, 927, 928, 930, 24, 931, 932, 934, 25, 935, 936, 937, 938, 939, 941, 26, 942] (by decide +kernel)
set_option maxRecDepth 20000 in
theorem tin_15 : ∀ w ∈ wsL_law_r15, w ∈ lw_tbl := mem_pos [454, 455, 456, 457, 87, 947, 948, 949, 950, 458, 459, 460, 461, 122, 198, 185, 170, 200, 126, 462, 463, 464, 465, 466] (by decide +kernel)
set_option maxRecDepth 20000 in
theorem tin_16 : ∀ w ∈ wsL_law_r16, w ∈ lw_tbl := mem_pos [467, 468, 469, 124, 470, 471, 472, 473, 474, 476, 11, 477, 478, 480, 12, 481, 482, 484, 13, 485, 486, 487, 65, 488] (by decide +kernel)
set_option maxRecDepth 20000 in
theorem tin_17 : ∀ w ∈ wsL_law_r17, w ∈ lw_tbl := mem_pos [489, 491, 14, 492, 116, 493, 494, 495, 951, 952, 953, 954, 955, 957, 27, 958, 959, 961, 28, 962, 963, 964, 965, 496] (by decide +kernel)
set_option maxRecDepth 20000 in
theorem tin_18 : ∀ w ∈ wsL_law_r18, w ∈ lw_tbl := mem_pos [497, 498, 499, 504, 108, 196, 500, 501, 502, 503, 505, 506, 507, 508, 509, 510, 511, 512, 513, 514, 515, 516, 517, 518] (by decide +kernel)
set_option maxRecDepth 20000 in
theorem tin_19 : ∀ w ∈ wsL_law_r19, w ∈ lw_tbl := mem_pos [519, 520, 521, 522, 523, 524, 525, 526, 527, 528, 529, 66, 530, 531, 532, 533, 534, 536, 15, 537, 966, 967, 968, 969] (by decide +kernel)
set_option maxRecDepth 20000 in
theorem tin_20 : ∀ w ∈ wsL_law_r20, w ∈ lw_tbl := mem_pos [974, 970, 972, 29, 973, 975, 977, 30, 978, 979, 981, 31, 982, 983, 985, 32, 986, 987, 988, 989, 990, 992, 33, 993] (by decide +kernel)
set_option maxRecDepth 20000 in
theorem tin_21 : ∀ w ∈ wsL_law_r21, w ∈ lw_tbl := mem_pos [538, 539, 540, 541, 112, 115, 542, 543, 544, 545, 546, 547, 548, 549, 994, 995, 996, 997, 998, 1000, 34, 1001, 1002, 1004] (by decide +kernel)
set_option maxRecDepth 20000 in
theorem tin_22 : ∀ w ∈ wsL_law_r22, w ∈ lw_tbl := mem_pos [35, 1005, 550, 551, 552, 553, 187, 189, 191, 554, 555, 556, 557, 558, 559, 560, 561, 1006, 1007, 1008, 1009, 1010, 1012, 36] (by decide +kernel)
set_option maxRecDepth 20000 in
theorem tin_23 : ∀ w ∈ wsL_law_r23, w ∈ lw_tbl := mem_pos [1013, 1014, 1016, 37, 1017, 562, 563, 564, 565, 566, 567, 568, 569, 570, 571, 1018, 1019, 1020, 1021, 572, 573, 574, 575, 160] (by decide +kernel)
set_option maxRecDepth 20000 in
theorem tin_24 : ∀ w ∈ wsL_law_r24, w ∈ lw_tbl := mem_pos [163, 166, 1022, 1023, 1024, 1025, 1026, 576, 577, 578, 579, 584, 580, 581, 582, 583, 585, 586, 587, 588, 113, 589, 590, 591] (by decide +kernel)
set_option maxRecDepth 20000 in
theorem tin_25 : ∀ w ∈ wsL_law_r25, w ∈ lw_tbl := mem_pos [592, 593, 594, 595, 596, 1027, 1028, 1029, 1030, 1031, 1032, 1034, 38, 1035, 1036, 1038, 39, 1039, 597, 598, 599, 600, 601, 602] (by decide +kernel)
set_option maxRecDepth 20000 in
theorem tin_26 : ∀ w ∈ wsL_law_r26, w ∈ lw_tbl := mem_pos [603, 604, 605, 606, 607, 608, 610, 127, 609, 611, 613, 16, 614, 615, 616, 617, 1040, 1041, 1042, 1043, 1044, 1046, 40, 1047] (by decide +kernel)
set_option maxRecDepth 20000 in
theorem tin_27 : ∀ w ∈ wsL_law_r27, w ∈ lw_tbl := mem_pos [1048, 1050, 41, 1051, 1052, 1053, 1054, 1055, 618, 619, 620, 621, 1056, 1057, 1058, 1059, 622, 623, 624, 625, 626, 1060, 1061, 1062] (by decide +kernel)
set_option maxRecDepth 20000 in
theorem tin_28 : ∀ w ∈ wsL_law_r28, w ∈ lw_tbl := mem_pos [1063, 627, 628, 629, 630, 631, 632, 633, 634, 1064, 1065, 1066, 1067, 1068, 1069, 1071, 42, 1072, 635, 636, 637, 638, 639, 640] (by decide +kernel)
set_option maxRecDepth 20000 in
theorem tin_29 : ∀ w ∈ wsL_law_r29, w ∈ lw_tbl := mem_pos [641, 642, 643, 644, 645, 646, 647, 648, 649, 650, 1073, 1074, 1075, 1076, 1077, 1078, 1080, 43, 1081, 651, 652, 653, 654, 655] (by decide +kernel)
set_option maxRecDepth 20000 in
theorem tin_30 : ∀ w ∈ wsL_law_r30, w ∈ lw_tbl := mem_pos [656, 657, 658, 1082, 1083, 1084, 1085, 659, 660, 661, 662, 663, 664, 665, 666, 667, 1086, 1087, 1088, 1089, 1090, 668, 669, 670] (by decide +kernel)
set_option maxRecDepth 20000 in
theorem tin_31 : ∀ w ∈ wsL_law_r31, w ∈ lw_tbl := mem_pos [671, 1091, 1092, 1093, 1094, 672, 673, 674, 675, 676, 677, 678, 679, 680, 681, 682, 684, 685, 686, 687, 688, 689, 690, 1095] (by decide +kernel)
set_option maxRecDepth 20000 in
theorem tin_32 : ∀ w ∈ wsL_law_r32, w ∈ lw_tbl := mem_pos [1096, 1097, 1098, 1099, 1101, 44, 1102, 1103, 1104, 1105, 1106, 1108, 45, 1109, 691, 692, 693, 694, 256, 258, 260, 695, 696, 697] (by decide +kernel)
set_option maxRecDepth 20000 in
theorem tin_33 : ∀ w ∈ wsL_law_r33, w ∈ lw_tbl := mem_pos [698, 699, 701, 17, 702, 703, 704, 705, 706, 707, 708, 709, 710, 711, 712, 713, 714, 715, 716, 1110, 1111, 1112, 1113, 839] (by decide +kernel)
set_option maxRecDepth 20000 in
theorem tin_34 : ∀ w ∈ wsL_law_r34, w ∈ lw_tbl := mem_pos [1114, 1116, 46, 1117, 1118, 1120, 47, 1121, 717, 718, 719, 720, 721, 722, 724, 18, 725, 726, 727, 728, 729, 730, 731, 732] (by decide +kernel)
set_option maxRecDepth 20000 in
theorem tin_35 : ∀ w ∈ wsL_law_r35, w ∈ lw_tbl := mem_pos [733, 734, 735, 737, 19, 738, 739, 740, 741, 742, 1122, 1123, 1124, 1125, 1126, 1128, 48, 1129, 1130, 1132, 49, 1133, 1134, 1135] (by decide +kernel)
set_option maxRecDepth 20000 in
theorem tin_36 : ∀ w ∈ wsL_law_r36, w ∈ lw_tbl := mem_pos [1136, 743, 744, 745, 746, 748, 747, 1137, 1138, 1139, 1140, 1141, 1142, 749, 750, 751, 752, 753, 1143, 1144, 1145, 1146, 1147, 1148] (by decide +kernel)
set_option maxRecDepth 20000 in
theorem tin_37 : ∀ w ∈ wsL_law_r37, w ∈ lw_tbl := mem_pos [754, 755, 756, 757, 758, 759, 760, 761, 164, 161, 167, 1149, 1150, 1151, 1152, 1153, 762, 763, 764, 765, 766, 767, 768, 769] (by decide +kernel)
set_option maxRecDepth 20000 in
theorem tin_38 : ∀ w ∈ wsL_law_r38, w ∈ lw_tbl := mem_pos [1154, 1155, 1156, 1157, 770, 771, 772, 773, 202, 774, 775, 776, 777, 1158, 1159, 1160, 1161, 1162, 778, 779, 780, 781, 1163, 1164] (by decide +kernel)
set_option maxRecDepth 20000 in
theorem tin_39 : ∀ w ∈ wsL_law_r39, w ∈ lw_tbl := mem_pos [1165, 1166, 1167, 782, 783, 784, 785, 1168, 1169, 1170, 1171, 786, 787, 788, 789, 1172, 1173, 1174, 1175, 790, 791, 792, 793, 1176] (by decide +kernel)
set_option maxRecDepth 20000 in
theorem tin_40 : ∀ w ∈ wsL_law_r40, w ∈ lw_tbl := mem_pos [1177, 1178, 1179, 794, 795, 796, 797, 798, 799, 800, 801, 802, 803, 804, 805, 806, 807, 1180, 1181, 1182, 1183, 808, 809, 810] (by decide +kernel)
set_option maxRecDepth 20000 in
theorem tin_41 : ∀ w ∈ wsL_law_r41, w ∈ lw_tbl := mem_pos [811, 1184, 1185, 1186, 1187] (by decide +kernel)
set_option maxRecDepth 20000 in
theorem tinX_0 : ∀ w ∈ wsX00, w ∈ lw_tbl := mem_pos [261, 263, 265] (by decide +kernel)
set_option maxRecDepth 20000 in
theorem tinX_1 : ∀ w ∈ wsX10, w ∈ lw_tbl := mem_pos [130, 132, 134, 136, 138, 140, 142, 144] (by decide +kernel)
set_option maxRecDepth 20000 in
theorem tinX_2 : ∀ w ∈ wsX20, w ∈ lw_tbl := mem_pos [171, 173, 175, 177] (by decide +kernel)
set_option maxRecDepth 20000 in
theorem tinX_3 : ∀ w ∈ wsX30, w ∈ lw_tbl := mem_pos [240, 242, 244, 246] (by decide +kernel)
set_option maxRecDepth 20000 in
theorem tinX_4 : ∀ w ∈ wsX40, w ∈ lw_tbl := mem_pos [89, 91, 93, 95, 97] (by decide +kernel)
set_option maxRecDepth 20000 in
theorem tinX_5 : ∀ w ∈ wsX50, w ∈ lw_tbl := mem_pos [203, 205, 207, 209, 211, 213, 215, 217, 219, 221, 223, 225] (by decide +kernel)
set_option maxRecDepth 20000 in
theorem tinX_6 : ∀ w ∈ wsX60, w ∈ lw_tbl := mem_pos [280, 282, 284, 286, 288, 290, 292, 294, 296, 298, 300, 302] (by decide +kernel)
set_option maxRecDepth 20000 in
theorem tinX_7 : ∀ w ∈ wsX70, w ∈ lw_tbl := mem_pos [843, 845, 847, 849, 851, 853, 855, 857, 859, 861, 863, 865, 867, 869, 871, 873, 875, 877, 879, 881, 883, 885, 887, 889, 891] (by decide +kernel)
theorem wsL_in : ∀ w ∈ wsL_law, w ∈ lw_tbl := List.forall_mem_append.mpr ⟨List.forall_mem_append.mpr ⟨List.forall_mem_append.mpr ⟨List.forall_mem_append.mpr ⟨List.forall_mem_append.mpr ⟨List.forall_mem_append.mpr ⟨List.forall_mem_append.mpr ⟨List.forall_mem_append.mpr ⟨List.forall_mem_append.mpr ⟨List.forall_mem_append.mpr ⟨tin_1, List.forall_mem_append.mpr ⟨tin_2, List.forall_mem_append.mpr ⟨tin_3, List.forall_mem_append.mpr ⟨tin_4, List.forall_mem_append.mpr ⟨tin_5, List.forall_mem_append.mpr ⟨tin_6, List.forall_mem_append.mpr ⟨tin_7, List.forall_mem_append.mpr ⟨tin_8, List.forall_mem_append.mpr ⟨tin_9, List.forall_mem_append.mpr ⟨tin_10, List.forall_mem_append.mpr ⟨tin_11, List.forall_mem_append.mpr ⟨tin_12, List.forall_mem_append.mpr ⟨tin_13, List.forall_mem_append.mpr ⟨tin_14, List.forall_mem_append.mpr ⟨tin_15, List.forall_mem_append.mpr ⟨tin_16, List.forall_mem_append.mpr ⟨tin_17, List.forall_mem_append.mpr ⟨tin_18, List.forall_mem_append.mpr ⟨tin_19, List.forall_mem_append.mpr ⟨tin_20, List.forall_mem_append.mpr ⟨tin_21, List.forall_mem_append.mpr ⟨tin_22, List.forall_mem_append.mpr ⟨tin_23, List.forall_mem_append.mpr ⟨tin_24, List.forall_mem_append.mpr ⟨tin_25, List.forall_mem_append.mpr ⟨tin_26, List.forall_mem_append.mpr ⟨tin_27, List.forall_mem_append.mpr ⟨tin_28, List.forall_mem_append.mpr ⟨tin_29, List.forall_mem_append.mpr ⟨tin_30, List.forall_mem_append.mpr ⟨tin_31, List.forall_mem_append.mpr ⟨tin_32, List.forall_mem_append.mpr ⟨tin_33, List.forall_mem_append.mpr ⟨tin_34, List.forall_mem_append.mpr ⟨tin_35, List.forall_mem_append.mpr ⟨tin_36, List.forall_mem_append.mpr ⟨tin_37, List.forall_mem_append.mpr ⟨tin_38, List.forall_mem_append.mpr ⟨tin_39, List.forall_mem_append.mpr ⟨tin_40, tin_41⟩⟩⟩⟩⟩⟩⟩⟩⟩⟩⟩⟩⟩⟩⟩⟩⟩⟩⟩⟩⟩⟩⟩⟩⟩⟩⟩⟩⟩⟩⟩⟩⟩⟩⟩⟩⟩⟩⟩⟩, tinX_6⟩, tinX_7⟩, tinX_4⟩, tinX_1⟩, tinX_5⟩, tinX_3⟩, tinX_0⟩, tinX_2⟩, fun _ h => absurd h List.not_mem_nil⟩
/-- the two new objects are alike -/
theorem Rg_ini : Rg Cini Gini := by
  refine ⟨0, 0, fun _ => 1, 0, 0, 0, 0, 0, false, false, 0, ⟨⟨rfl, rfl, by omega, rfl, rfl, by omega, rfl, fun l hl => absurd hl (Nat.not_lt_zero _), fun r hr => absurd hr (Nat.not_lt_zero _)⟩, ⟨⟨rfl, rfl, by omega, by omega, fun p hp => absurd hp (Nat.not_lt_zero _)⟩, ⟨rfl, rfl, by omega⟩, ⟨rfl, by decide⟩, fun r l hr => absurd hr (Nat.not_lt_zero _)⟩, 0, 0, rfl, by omega, rfl, by omega, fun _ => ⟨rfl, rfl, rfl, by omega, fun i hi => absurd hi (Nat.not_lt_zero _)⟩⟩, fun l hl => absurd hl (Nat.not_lt_zero _), ⟨rfl, rfl, by omega, fun i hi => absurd hi (Nat.not_lt_zero _)⟩, ⟨rfl, rfl, by omega, fun i hi => absurd hi (Nat.not_lt_zero _), rfl⟩, ⟨rfl, rfl, by omega, fun i hi => absurd hi (Nat.not_lt_zero _)⟩, ⟨rfl, rfl, rfl, fun z => ?_, fun z => ?_⟩, rfl, by omega⟩
  · cases z
  · cases z
