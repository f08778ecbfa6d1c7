/-! the law's words: each by its place in the tables -/
theorem by_places {big : List Cond} (ws : List Cond) (ps : List Nat) (hp : ws = ps.filterMap (fun i => big[i]?)) : ∀ w ∈ ws, w ∈ big := by
  intro w hw
  rw [hp] at hw
  obtain ⟨i, -, hi⟩ := List.mem_filterMap.mp hw
  exact List.mem_of_getElem? hi
set_option maxRecDepth 20000 in
theorem wr_1 : ∀ w ∈ wsL_law_r1, w ∈ lw_tbl := by_places _ [68, 69, 55, 797, 798, 65, 70, 71, 72, 73, 74, 75, 76, 77, 56, 389, 359, 360, 62, 390, 369, 370, 63, 391] (by decide +kernel)
set_option maxRecDepth 20000 in
theorem wr_2 : ∀ w ∈ wsL_law_r2, w ∈ lw_tbl := by_places _ [379, 380, 64, 392, 78, 79, 80, 81, 82, 83, 57, 313, 105, 106, 58, 322, 147, 317, 149, 59, 84, 85, 86, 87] (by decide +kernel)
set_option maxRecDepth 20000 in
theorem wr_3 : ∀ w ∈ wsL_law_r3, w ∈ lw_tbl := by_places _ [88, 92, 97, 107, 108, 109, 110, 146, 111, 114, 117, 120, 123, 125, 150, 151, 152, 153, 154, 155, 60, 246, 190, 191] (by decide +kernel)
set_option maxRecDepth 20000 in
theorem wr_4 : ∀ w ∈ wsL_law_r4, w ∈ lw_tbl := by_places _ [61, 251, 267, 269, 156, 157, 158, 159, 160, 162, 164, 192, 193, 194, 195, 196, 199, 202, 205, 220, 222, 361, 362, 363] (by decide +kernel)
set_option maxRecDepth 20000 in
theorem wr_5 : ∀ w ∈ wsL_law_r5, w ∈ lw_tbl := by_places _ [364, 365, 371, 372, 373, 374, 375, 381, 382, 383, 384, 385, 799, 800, 801, 802, 804, 805, 813, 814, 815, 939, 816, 817] (by decide +kernel)
set_option maxRecDepth 20000 in
theorem wr_6 : ∀ w ∈ wsL_law_r6, w ∈ lw_tbl := by_places _ [818, 819, 820, 821, 822, 823, 824, 825, 826, 827, 828, 829, 830, 831, 832, 833, 834, 835, 836, 838, 839, 840, 841, 842] (by decide +kernel)
set_option maxRecDepth 20000 in
theorem wr_7 : ∀ w ∈ wsL_law_r7, w ∈ lw_tbl := by_places _ [843, 844, 845, 846, 847, 402, 403, 404, 405, 326, 314, 406, 407, 408, 409, 410, 411, 412, 940, 941, 942, 943, 803, 807] (by decide +kernel)
set_option maxRecDepth 20000 in
theorem wr_8 : ∀ w ∈ wsL_law_r8, w ∈ lw_tbl := by_places _ [806, 944, 945, 946, 413, 414, 415, 416, 417, 418, 419, 420, 421, 422, 423, 424, 425, 426, 427, 428, 429, 947, 948, 949] (by decide +kernel)
set_option maxRecDepth 20000 in
theorem wr_9 : ∀ w ∈ wsL_law_r9, w ∈ lw_tbl := by_places _ [950, 951, 953, 17, 954, 955, 957, 18, 958, 959, 430, 431, 432, 433, 434, 435, 436, 437, 438, 439, 441, 442, 443, 960] (by decide +kernel)
set_option maxRecDepth 20000 in
theorem wr_10 : ∀ w ∈ wsL_law_r10, w ∈ lw_tbl := by_places _ [961, 962, 963, 964, 966, 19, 967, 968, 444, 445, 446, 447, 448, 449, 450, 451, 327, 258, 261, 264, 249, 270, 333, 452] (by decide +kernel)
set_option maxRecDepth 20000 in
theorem wr_11 : ∀ w ∈ wsL_law_r11, w ∈ lw_tbl := by_places _ [453, 454, 455, 89, 93, 166, 457, 458, 459, 460, 461, 462, 463, 969, 970, 971, 972, 973, 974, 975, 464, 465, 466, 467] (by decide +kernel)
set_option maxRecDepth 20000 in
theorem wr_12 : ∀ w ∈ wsL_law_r12, w ∈ lw_tbl := by_places _ [321, 259, 268, 468, 469, 470, 471, 976, 977, 978, 979, 980, 982, 20, 983, 472, 473, 474, 475, 256, 209, 476, 477, 478] (by decide +kernel)
set_option maxRecDepth 20000 in
theorem wr_13 : ∀ w ∈ wsL_law_r13, w ∈ lw_tbl := by_places _ [479, 480, 481, 482, 483, 984, 985, 986, 987, 988, 990, 21, 991, 992, 993, 994, 484, 485, 486, 487, 334, 488, 489, 490] (by decide +kernel)
set_option maxRecDepth 20000 in
theorem wr_14 : ∀ w ∈ wsL_law_r14, w ∈ lw_tbl := by_places _ [491, 254, 218, 492, 494, 0, 495, 129, 116, 113, 119, 122, 340, 496, 497, 498, 499, 175, 500, 501, 502, 503, 995, 996] (by decide +kernel)
set_option maxRecDepth 20000 in
theorem wr_15 : ∀ w ∈ wsL_law_r15, w ∈ lw_tbl := by_places _ [997, 998, 837, 810, 999, 1001, 22, 1002, 504, 505, 506, 507, 1003, 1004, 1005, 1006, 508, 509, 510, 511, 338, 336, 512, 513] (by decide +kernel)
set_option maxRecDepth 20000 in
theorem wr_16 : ∀ w ∈ wsL_law_r16, w ∈ lw_tbl := by_places _ [514, 515, 323, 128, 126, 335, 115, 112, 118, 121, 124, 516, 518, 1, 519, 319, 248, 273, 253, 197, 278, 316, 94, 520] (by decide +kernel)
set_option maxRecDepth 20000 in
theorem wr_17 : ∀ w ∈ wsL_law_r17, w ∈ lw_tbl := by_places _ [521, 523, 2, 524, 168, 173, 526, 527, 528, 529, 531, 532, 533, 534, 535, 536, 537, 538, 539, 540, 541, 542, 543, 545] (by decide +kernel)
set_option maxRecDepth 20000 in
theorem wr_18 : ∀ w ∈ wsL_law_r18, w ∈ lw_tbl := by_places _ [546, 547, 548, 549, 550, 552, 553, 555, 3, 556, 271, 557, 558, 560, 4, 561, 330, 206, 281, 562, 564, 5, 565, 211] (by decide +kernel)
set_option maxRecDepth 20000 in
theorem wr_19 : ∀ w ∈ wsL_law_r19, w ∈ lw_tbl := by_places _ [214, 217, 566, 567, 568, 569, 570, 571, 572, 573, 574, 328, 331, 576, 578, 6, 579, 320, 252, 221, 223, 215, 580, 581] (by decide +kernel)
set_option maxRecDepth 20000 in
theorem wr_20 : ∀ w ∈ wsL_law_r20, w ∈ lw_tbl := by_places _ [582, 583, 257, 584, 585, 586, 587, 170, 588, 589, 590, 591, 169, 592, 593, 594, 595, 596, 208, 210, 213, 598, 600, 7] (by decide +kernel)
set_option maxRecDepth 20000 in
theorem wr_21 : ∀ w ∈ wsL_law_r21, w ∈ lw_tbl := by_places _ [601, 602, 603, 604, 605, 200, 198, 606, 607, 608, 609, 610, 611, 612, 613, 615, 8, 616, 617, 618, 619, 620, 621, 622] (by decide +kernel)
set_option maxRecDepth 20000 in
theorem wr_22 : ∀ w ∈ wsL_law_r22, w ∈ lw_tbl := by_places _ [623, 624, 329, 332, 318, 247, 626, 627, 629, 9, 630, 172, 167, 315, 90, 631, 632, 633, 634, 635, 636, 262, 284, 265] (by decide +kernel)
set_option maxRecDepth 20000 in
theorem wr_23 : ∀ w ∈ wsL_law_r23, w ∈ lw_tbl := by_places _ [285, 637, 639, 10, 640, 324, 95, 641, 642, 643, 644, 645, 127, 646, 648, 11, 649, 255, 216, 650, 652, 12, 653, 654] (by decide +kernel)
set_option maxRecDepth 20000 in
theorem wr_24 : ∀ w ∈ wsL_law_r24, w ∈ lw_tbl := by_places _ [655, 656, 657, 658, 660, 13, 661, 662, 663, 664, 665, 666, 667, 668, 669, 670, 671, 672, 673, 674, 675, 66, 676, 677] (by decide +kernel)
set_option maxRecDepth 20000 in
theorem wr_25 : ∀ w ∈ wsL_law_r25, w ∈ lw_tbl := by_places _ [678, 679, 680, 681, 682, 683, 684, 686, 14, 687, 165, 688, 690, 691, 692, 693, 694, 696, 15, 697, 698, 700, 16, 701] (by decide +kernel)
set_option maxRecDepth 20000 in
theorem wr_26 : ∀ w ∈ wsL_law_r26, w ∈ lw_tbl := by_places _ [276, 203, 201, 339, 337, 260, 702, 703, 704, 705, 706, 707, 708, 709, 710, 275, 711, 712, 713, 714, 715, 1007, 1008, 1009] (by decide +kernel)
set_option maxRecDepth 20000 in
theorem wr_27 : ∀ w ∈ wsL_law_r27, w ∈ lw_tbl := by_places _ [1010, 809, 1011, 1013, 23, 1014, 808, 1015, 1017, 24, 1018, 1019, 1021, 25, 1022, 812, 1023, 1025, 26, 1026, 1027, 1029, 27, 1030] (by decide +kernel)
set_option maxRecDepth 20000 in
theorem wr_28 : ∀ w ∈ wsL_law_r28, w ∈ lw_tbl := by_places _ [1031, 1033, 28, 1034, 811, 1035, 1037, 29, 1038, 1039, 1041, 30, 1042, 1043, 1045, 31, 1046, 1047, 1049, 32, 1050, 1051, 1053, 33] (by decide +kernel)
set_option maxRecDepth 20000 in
theorem wr_29 : ∀ w ∈ wsL_law_r29, w ∈ lw_tbl := by_places _ [1054, 1055, 1057, 34, 1058, 1059, 1061, 35, 1062, 1063, 1065, 36, 1066, 1067, 1069, 37, 1070, 1071, 1073, 38, 1074, 1075, 1077, 39] (by decide +kernel)
set_option maxRecDepth 20000 in
theorem wr_30 : ∀ w ∈ wsL_law_r30, w ∈ lw_tbl := by_places _ [1078, 1079, 1081, 40, 1082, 1083, 1085, 41, 1086, 1087, 1089, 42, 1090, 1091, 1093, 43, 1094, 1095, 1097, 44, 1098, 1099, 1101, 45] (by decide +kernel)
set_option maxRecDepth 20000 in
theorem wr_31 : ∀ w ∈ wsL_law_r31, w ∈ lw_tbl := by_places _ [1102, 1103, 1105, 46, 1106, 1107, 1109, 47, 1110, 716, 717, 718, 719, 250, 171, 274, 277, 279, 282, 174, 272, 176, 212, 219] (by decide +kernel)
set_option maxRecDepth 20000 in
theorem wr_32 : ∀ w ∈ wsL_law_r32, w ∈ lw_tbl := by_places _ [720, 721, 722, 723, 724, 725, 726, 1111, 1112, 1113, 1114, 1115, 1117, 48, 1118, 1119, 1121, 49, 1122, 1123, 1125, 50, 1126, 1127] (by decide +kernel)
set_option maxRecDepth 20000 in
theorem wr_33 : ∀ w ∈ wsL_law_r33, w ∈ lw_tbl := by_places _ [1129, 51, 1130, 1131, 1133, 52, 1134, 727, 728, 729, 730, 96, 731, 1135, 1136, 1137, 1138, 732, 733, 734, 735, 161, 736, 1139] (by decide +kernel)
set_option maxRecDepth 20000 in
theorem wr_34 : ∀ w ∈ wsL_law_r34, w ∈ lw_tbl := by_places _ [1140, 1141, 1142, 737, 738, 739, 740, 163, 741, 1143, 1144, 1145, 1146, 742, 743, 744, 745, 746, 747, 1147, 1148, 1149, 1150, 748] (by decide +kernel)
set_option maxRecDepth 20000 in
theorem wr_35 : ∀ w ∈ wsL_law_r35, w ∈ lw_tbl := by_places _ [749, 750, 751, 204, 207, 224, 752, 753, 1151, 1152, 1153, 1154, 754, 755, 756, 757, 758, 759, 760, 761, 762, 1155, 1156, 1157] (by decide +kernel)
set_option maxRecDepth 20000 in
theorem wr_36 : ∀ w ∈ wsL_law_r36, w ∈ lw_tbl := by_places _ [1158, 1159, 1161, 53, 1162, 763, 764, 765, 766, 91, 263, 266, 776, 777, 67, 778, 767, 768, 769, 770, 771, 772, 773, 774] (by decide +kernel)
set_option maxRecDepth 20000 in
theorem wr_37 : ∀ w ∈ wsL_law_r37, w ∈ lw_tbl := by_places _ [775, 1163, 1164, 1165, 1166, 1167, 1168, 1169, 779, 780, 781, 782, 325, 130, 341, 783, 784, 785, 786, 787, 789, 790, 791, 792] (by decide +kernel)
set_option maxRecDepth 20000 in
theorem wr_38 : ∀ w ∈ wsL_law_r38, w ∈ lw_tbl := by_places _ [283, 793, 794, 795, 796, 280, 1170, 1171, 1172, 1173] (by decide +kernel)
set_option maxRecDepth 20000 in
theorem wx_0 : ∀ w ∈ wsX00, w ∈ lw_tbl := by_places _ [366] (by decide +kernel)
set_option maxRecDepth 20000 in
theorem wx_1 : ∀ w ∈ wsX10, w ∈ lw_tbl := by_places _ [386] (by decide +kernel)
set_option maxRecDepth 20000 in
theorem wx_2 : ∀ w ∈ wsX20, w ∈ lw_tbl := by_places _ [342, 344, 346, 348, 350, 352, 354, 356] (by decide +kernel)
set_option maxRecDepth 20000 in
theorem wx_3 : ∀ w ∈ wsX30, w ∈ lw_tbl := by_places _ [286, 288, 290, 292, 294, 296, 298, 300, 302, 304, 306, 308, 310] (by decide +kernel)
set_option maxRecDepth 20000 in
theorem wx_4 : ∀ w ∈ wsX40, w ∈ lw_tbl := by_places _ [376] (by decide +kernel)
set_option maxRecDepth 20000 in
theorem wx_5 : ∀ w ∈ wsX50, w ∈ lw_tbl := by_places _ [131, 133, 135, 137, 139, 141, 143] (by decide +kernel)
set_option maxRecDepth 20000 in
theorem wx_6 : ∀ w ∈ wsX60, w ∈ lw_tbl := by_places _ [177, 179, 181, 183, 185, 187] (by decide +kernel)
set_option maxRecDepth 20000 in
theorem wx_7 : ∀ w ∈ wsX70, w ∈ lw_tbl := by_places _ [225, 227, 229, 231, 233, 235, 237, 239, 241, 243] (by decide +kernel)
set_option maxRecDepth 20000 in
theorem wx_8 : ∀ w ∈ wsX80, w ∈ lw_tbl := by_places _ [98, 100, 102] (by decide +kernel)
set_option maxRecDepth 20000 in
theorem wx_9 : ∀ w ∈ wsX90, w ∈ lw_tbl := by_places _ [393, 395, 397, 399] (by decide +kernel)
set_option maxRecDepth 20000 in
theorem wx_10 : ∀ w ∈ wsX100, w ∈ lw_tbl := by_places _ [848, 850, 852, 854, 856, 858, 860, 862, 864, 866, 868, 870, 872, 874, 876, 878, 880, 882, 884, 886, 888, 890, 892, 894, 896, 898, 900, 902, 904, 906, 908, 910, 912, 914, 916, 918, 920, 922, 924, 926, 928, 930, 932, 934, 936] (by decide +kernel)
set_option maxRecDepth 20000 in
theorem wsL_law_in : ∀ w ∈ wsL_law, w ∈ lw_tbl := List.forall_mem_append.mpr ⟨List.forall_mem_append.mpr ⟨List.forall_mem_append.mpr ⟨List.forall_mem_append.mpr ⟨List.forall_mem_append.mpr ⟨List.forall_mem_append.mpr ⟨List.forall_mem_append.mpr ⟨List.forall_mem_append.mpr ⟨List.forall_mem_append.mpr ⟨List.forall_mem_append.mpr ⟨List.forall_mem_append.mpr ⟨List.forall_mem_append.mpr ⟨List.forall_mem_append.mpr ⟨wr_1, List.forall_mem_append.mpr ⟨wr_2, List.forall_mem_append.mpr ⟨wr_3, List.forall_mem_append.mpr ⟨wr_4, List.forall_mem_append.mpr ⟨wr_5, List.forall_mem_append.mpr ⟨wr_6, List.forall_mem_append.mpr ⟨wr_7, List.forall_mem_append.mpr ⟨wr_8, List.forall_mem_append.mpr ⟨wr_9, List.forall_mem_append.mpr ⟨wr_10, List.forall_mem_append.mpr ⟨wr_11, List.forall_mem_append.mpr ⟨wr_12, List.forall_mem_append.mpr ⟨wr_13, List.forall_mem_append.mpr ⟨wr_14, List.forall_mem_append.mpr ⟨wr_15, List.forall_mem_append.mpr ⟨wr_16, List.forall_mem_append.mpr ⟨wr_17, List.forall_mem_append.mpr ⟨wr_18, List.forall_mem_append.mpr ⟨wr_19, List.forall_mem_append.mpr ⟨wr_20, List.forall_mem_append.mpr ⟨wr_21, List.forall_mem_append.mpr ⟨wr_22, List.forall_mem_append.mpr ⟨wr_23, List.forall_mem_append.mpr ⟨wr_24, List.forall_mem_append.mpr ⟨wr_25, List.forall_mem_append.mpr ⟨wr_26, List.forall_mem_append.mpr ⟨wr_27, List.forall_mem_append.mpr ⟨wr_28, List.forall_mem_append.mpr ⟨wr_29, List.forall_mem_append.mpr ⟨wr_30, List.forall_mem_append.mpr ⟨wr_31, List.forall_mem_append.mpr ⟨wr_32, List.forall_mem_append.mpr ⟨wr_33, List.forall_mem_append.mpr ⟨wr_34, List.forall_mem_append.mpr ⟨wr_35, List.forall_mem_append.mpr ⟨wr_36, List.forall_mem_append.mpr ⟨wr_37, wr_38⟩⟩⟩⟩⟩⟩⟩⟩⟩⟩⟩⟩⟩⟩⟩⟩⟩⟩⟩⟩⟩⟩⟩⟩⟩⟩⟩⟩⟩⟩⟩⟩⟩⟩⟩⟩⟩, wx_9⟩, wx_10⟩, wx_2⟩, wx_0⟩, wx_4⟩, wx_1⟩, wx_8⟩, wx_5⟩, wx_3⟩, wx_6⟩, wx_7⟩, fun _ h => absurd h List.not_mem_nil⟩
set_option maxRecDepth 20000 in
theorem nest_in : ∀ w ∈ nestL.map (fun q => Cond.methodLinkNest q.1 q.2.1 q.2.2 "PieceSwarm"), w ∈ lw_tbl := by_places _ [440, 456, 525, 530, 544, 551, 575, 597, 625, 689, 788] (by decide +kernel)
theorem over_in : Cond.arrayOver (.object "PieceSwarm$Member") ∈ lw_tbl := List.mem_of_getElem? (i := 148) (by decide +kernel)
theorem arrI_in : Cond.arrayClass .int ∈ lw_tbl := List.mem_of_getElem? (i := 146) (by decide +kernel)
theorem arrZ_in : Cond.arrayClass .boolean ∈ lw_tbl := List.mem_of_getElem? (i := 939) (by decide +kernel)
theorem inst_0 : Cond.instantiable RX0 1 ∈ lw_tbl := List.mem_of_getElem? (i := 360) (by decide +kernel)
theorem inst_1 : Cond.instantiable RX1 1 ∈ lw_tbl := List.mem_of_getElem? (i := 380) (by decide +kernel)
theorem inst_2 : Cond.instantiable RX2 8 ∈ lw_tbl := List.mem_of_getElem? (i := 77) (by decide +kernel)
theorem inst_3 : Cond.instantiable RX3 13 ∈ lw_tbl := List.mem_of_getElem? (i := 149) (by decide +kernel)
theorem inst_4 : Cond.instantiable RX4 1 ∈ lw_tbl := List.mem_of_getElem? (i := 370) (by decide +kernel)
theorem inst_5 : Cond.instantiable RX5 7 ∈ lw_tbl := List.mem_of_getElem? (i := 106) (by decide +kernel)
theorem inst_6 : Cond.instantiable RX6 6 ∈ lw_tbl := List.mem_of_getElem? (i := 155) (by decide +kernel)
theorem inst_7 : Cond.instantiable RX7 10 ∈ lw_tbl := List.mem_of_getElem? (i := 191) (by decide +kernel)
theorem inst_8 : Cond.instantiable RX8 3 ∈ lw_tbl := List.mem_of_getElem? (i := 83) (by decide +kernel)
theorem inst_9 : Cond.instantiable RX9 4 ∈ lw_tbl := List.mem_of_getElem? (i := 69) (by decide +kernel)
theorem inst_10 : Cond.instantiable RX10 45 ∈ lw_tbl := List.mem_of_getElem? (i := 798) (by decide +kernel)
