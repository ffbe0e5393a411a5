/-! every word that the walks ask stands in the tables -/
theorem lwi_mem {ws : List Cond} (is : List Nat) (h : ws.map some = is.map (fun i => lw_tbl[i]?)) : ∀ w ∈ ws, w ∈ lw_tbl := by
  intro w hw
  have h1 : some w ∈ ws.map some := List.mem_map.mpr ⟨w, hw, rfl⟩
  rw [h] at h1
  obtain ⟨i, -, hi⟩ := List.mem_map.mp h1
  exact List.mem_of_getElem? hi
set_option maxRecDepth 100000 in
theorem lwi_1 : ∀ w ∈ wsL_law_r1, w ∈ lw_tbl := lwi_mem [64, 65, 48, 819, 820, 57, 66, 67, 68, 69, 70, 71, 72, 74, 49, 80, 81, 50, 87, 88, 51, 94, 95, 52] (by rfl)
set_option maxRecDepth 100000 in
theorem lwi_2 : ∀ w ∈ wsL_law_r2, w ∈ lw_tbl := lwi_mem [101, 102, 53, 108, 109, 54, 115, 116, 55, 177, 178, 179, 163, 164, 56, 180, 162, 181, 182, 183, 184, 185, 186, 187] (by rfl)
set_option maxRecDepth 100000 in
theorem lwi_3 : ∀ w ∈ wsL_law_r3, w ∈ lw_tbl := lwi_mem [76, 77, 78, 83, 84, 90, 91, 97, 98, 104, 105, 111, 112, 117, 118, 119, 120, 121, 122, 124, 126, 128, 130, 133] (by rfl)
set_option maxRecDepth 100000 in
theorem lwi_4 : ∀ w ∈ wsL_law_r4, w ∈ lw_tbl := lwi_mem [135, 136, 138, 165, 166, 167, 168, 169, 170, 821, 822, 823, 824, 825, 826, 827, 828, 829, 831, 832, 833, 837, 211, 212] (by rfl)
set_option maxRecDepth 100000 in
theorem lwi_5 : ∀ w ∈ wsL_law_r5, w ∈ lw_tbl := lwi_mem [213, 214, 215, 216, 217, 218, 219, 220, 221, 222, 223, 224, 225, 226, 227, 229, 0, 230, 231, 232, 233, 234, 868, 869] (by rfl)
set_option maxRecDepth 100000 in
theorem lwi_6 : ∀ w ∈ wsL_law_r6, w ∈ lw_tbl := lwi_mem [870, 871, 834, 872, 874, 26, 875, 235, 236, 237, 238, 239, 240, 241, 242, 243, 244, 245, 246, 247, 249, 1, 250, 252] (by rfl)
set_option maxRecDepth 100000 in
theorem lwi_7 : ∀ w ∈ wsL_law_r7, w ∈ lw_tbl := lwi_mem [253, 254, 58, 255, 1190, 256, 257, 258, 259, 260, 1191, 262, 263, 264, 265, 266, 267, 268, 269, 270, 271, 59, 272, 273] (by rfl)
set_option maxRecDepth 100000 in
theorem lwi_8 : ∀ w ∈ wsL_law_r8, w ∈ lw_tbl := lwi_mem [274, 275, 276, 278, 279, 60, 280, 281, 282, 61, 283, 284, 285, 286, 287, 288, 289, 290, 291, 292, 293, 294, 296, 298] (by rfl)
set_option maxRecDepth 100000 in
theorem lwi_9 : ∀ w ∈ wsL_law_r9, w ∈ lw_tbl := lwi_mem [300, 301, 302, 303, 304, 305, 307, 308, 309, 310, 311, 312, 313, 314, 315, 316, 317, 318, 322, 323, 62, 324, 325, 326] (by rfl)
set_option maxRecDepth 100000 in
theorem lwi_10 : ∀ w ∈ wsL_law_r10, w ∈ lw_tbl := lwi_mem [327, 319, 320, 321, 328, 329, 330, 331, 332, 333, 334, 335, 336, 337, 338, 339, 340, 341, 342, 343, 344, 345, 346, 347] (by rfl)
set_option maxRecDepth 100000 in
theorem lwi_11 : ∀ w ∈ wsL_law_r11, w ∈ lw_tbl := lwi_mem [348, 349, 350, 351, 352, 353, 354, 355, 356, 63, 357, 358, 359, 360, 361, 362, 363, 364, 365, 366, 367, 368, 373, 374] (by rfl)
set_option maxRecDepth 100000 in
theorem lwi_12 : ∀ w ∈ wsL_law_r12, w ∈ lw_tbl := lwi_mem [375, 376, 377, 379, 2, 380, 381, 383, 3, 384, 385, 387, 4, 388, 389, 390, 391, 392, 393, 394, 395, 396, 397, 398] (by rfl)
set_option maxRecDepth 100000 in
theorem lwi_13 : ∀ w ∈ wsL_law_r13, w ∈ lw_tbl := lwi_mem [399, 400, 401, 402, 403, 404, 405, 406, 407, 408, 409, 410, 411, 412, 413, 414, 415, 416, 417, 418, 419, 420, 421, 422] (by rfl)
set_option maxRecDepth 100000 in
theorem lwi_14 : ∀ w ∈ wsL_law_r14, w ∈ lw_tbl := lwi_mem [423, 424, 425, 426, 427, 428, 429, 430, 431, 432, 433, 434, 436, 5, 437, 438, 439, 440, 441, 442, 443, 445, 446, 447] (by rfl)
set_option maxRecDepth 100000 in
theorem lwi_15 : ∀ w ∈ wsL_law_r15, w ∈ lw_tbl := lwi_mem [448, 449, 451, 6, 452, 453, 454, 456, 7, 457, 458, 459, 460, 461, 462, 465, 463, 466, 467, 468, 482, 469, 470, 471] (by rfl)
set_option maxRecDepth 100000 in
theorem lwi_16 : ∀ w ∈ wsL_law_r16, w ∈ lw_tbl := lwi_mem [472, 473, 474, 475, 1184, 114, 476, 477, 478, 479, 480, 481, 462, 463, 464, 484, 485, 486, 487, 488, 491, 492, 489, 501] (by rfl)
set_option maxRecDepth 100000 in
theorem lwi_17 : ∀ w ∈ wsL_law_r17, w ∈ lw_tbl := lwi_mem [489, 493, 494, 495, 496, 497, 498, 499, 500, 488, 490, 502, 504, 8, 505, 506, 507, 876, 877, 878, 879, 836, 880, 882] (by rfl)
set_option maxRecDepth 100000 in
theorem lwi_18 : ∀ w ∈ wsL_law_r18, w ∈ lw_tbl := lwi_mem [27, 883, 884, 886, 28, 887, 888, 890, 29, 891, 892, 893, 894, 895, 897, 30, 898, 899, 900, 901, 902, 903, 904, 905] (by rfl)
set_option maxRecDepth 100000 in
theorem lwi_19 : ∀ w ∈ wsL_law_r19, w ∈ lw_tbl := lwi_mem [907, 31, 908, 909, 911, 32, 912, 913, 914, 915, 916, 918, 33, 919, 920, 922, 34, 923, 924, 925, 926, 927, 928, 929] (by rfl)
set_option maxRecDepth 100000 in
theorem lwi_20 : ∀ w ∈ wsL_law_r20, w ∈ lw_tbl := lwi_mem [930, 931, 932, 933, 934, 935, 936, 937, 938, 939, 940, 941, 942, 943, 944, 945, 946, 947, 948, 949, 950, 951, 952, 953] (by rfl)
set_option maxRecDepth 100000 in
theorem lwi_21 : ∀ w ∈ wsL_law_r21, w ∈ lw_tbl := lwi_mem [954, 955, 956, 957, 958, 959, 509, 510, 511, 512, 513, 515, 9, 516, 517, 518, 519, 520, 960, 961, 962, 963, 521, 522] (by rfl)
set_option maxRecDepth 100000 in
theorem lwi_22 : ∀ w ∈ wsL_law_r22, w ∈ lw_tbl := lwi_mem [523, 524, 525, 526, 527, 528, 964, 965, 966, 967, 968, 969, 970, 529, 530, 531, 532, 533, 535, 10, 536, 537, 538, 539] (by rfl)
set_option maxRecDepth 100000 in
theorem lwi_23 : ∀ w ∈ wsL_law_r23, w ∈ lw_tbl := lwi_mem [540, 541, 971, 972, 973, 974, 975, 976, 977, 978, 980, 35, 981, 982, 542, 543, 544, 545, 546, 548, 11, 549, 550, 551] (by rfl)
set_option maxRecDepth 100000 in
theorem lwi_24 : ∀ w ∈ wsL_law_r24, w ∈ lw_tbl := lwi_mem [552, 553, 554, 555, 983, 984, 985, 986, 987, 988, 989, 556, 557, 558, 559, 560, 561, 990, 991, 992, 993, 562, 563, 564] (by rfl)
set_option maxRecDepth 100000 in
theorem lwi_25 : ∀ w ∈ wsL_law_r25, w ∈ lw_tbl := lwi_mem [565, 566, 567, 568, 569, 570, 994, 995, 996, 997, 571, 572, 573, 574, 575, 576, 577, 998, 999, 1000, 1001, 1002, 1003, 1004] (by rfl)
set_option maxRecDepth 100000 in
theorem lwi_26 : ∀ w ∈ wsL_law_r26, w ∈ lw_tbl := lwi_mem [578, 579, 580, 581, 1005, 1006, 1007, 1008, 582, 583, 584, 585, 586, 1009, 1010, 1011, 1012, 587, 588, 589, 590, 591, 593, 12] (by rfl)
set_option maxRecDepth 100000 in
theorem lwi_27 : ∀ w ∈ wsL_law_r27, w ∈ lw_tbl := lwi_mem [594, 1013, 1014, 1015, 1016, 595, 596, 597, 598, 1017, 1018, 1019, 1020, 599, 600, 601, 602, 603, 605, 13, 606, 607, 608, 609] (by rfl)
set_option maxRecDepth 100000 in
theorem lwi_28 : ∀ w ∈ wsL_law_r28, w ∈ lw_tbl := lwi_mem [610, 611, 613, 14, 614, 615, 616, 617, 618, 1021, 1022, 1023, 1024, 1025, 1026, 1027, 619, 620, 621, 622, 623, 624, 625, 626] (by rfl)
set_option maxRecDepth 100000 in
theorem lwi_29 : ∀ w ∈ wsL_law_r29, w ∈ lw_tbl := lwi_mem [627, 1028, 1029, 1030, 1031, 1032, 1034, 36, 1035, 628, 629, 630, 631, 632, 1036, 1037, 1038, 1039, 633, 634, 635, 636, 1040, 1041] (by rfl)
set_option maxRecDepth 100000 in
theorem lwi_30 : ∀ w ∈ wsL_law_r30, w ∈ lw_tbl := lwi_mem [1042, 1043, 666, 667, 668, 669, 670, 672, 15, 673, 674, 676, 16, 677, 1044, 1045, 1046, 1047, 1048, 1050, 37, 1051, 1052, 1054] (by rfl)
set_option maxRecDepth 100000 in
theorem lwi_31 : ∀ w ∈ wsL_law_r31, w ∈ lw_tbl := lwi_mem [38, 1055, 1056, 1058, 39, 1059, 1060, 1061, 1062, 678, 679, 680, 681, 1063, 1064, 1065, 1066, 682, 683, 684, 685, 686, 687, 688] (by rfl)
set_option maxRecDepth 100000 in
theorem lwi_32 : ∀ w ∈ wsL_law_r32, w ∈ lw_tbl := lwi_mem [689, 690, 691, 692, 693, 694, 696, 17, 697, 698, 699, 700, 701, 1067, 1068, 1069, 1070, 637, 638, 639, 640, 641, 642, 643] (by rfl)
set_option maxRecDepth 100000 in
theorem lwi_33 : ∀ w ∈ wsL_law_r33, w ∈ lw_tbl := lwi_mem [644, 645, 646, 647, 648, 649, 650, 651, 652, 1071, 1072, 1073, 1074, 1075, 1076, 1077, 702, 703, 704, 705, 706, 708, 18, 709] (by rfl)
set_option maxRecDepth 100000 in
theorem lwi_34 : ∀ w ∈ wsL_law_r34, w ∈ lw_tbl := lwi_mem [710, 712, 19, 713, 1078, 1079, 1080, 1081, 1086, 1082, 1084, 40, 1085, 714, 715, 716, 717, 718, 720, 20, 721, 1087, 1088, 1089] (by rfl)
set_option maxRecDepth 100000 in
theorem lwi_35 : ∀ w ∈ wsL_law_r35, w ∈ lw_tbl := lwi_mem [1090, 1091, 1093, 41, 1094, 1095, 1097, 42, 1098, 1099, 1101, 43, 1102, 768, 769, 770, 771, 772, 774, 23, 775, 776, 777, 778] (by rfl)
set_option maxRecDepth 100000 in
theorem lwi_36 : ∀ w ∈ wsL_law_r36, w ∈ lw_tbl := lwi_mem [779, 780, 1103, 1104, 1105, 1106, 835, 653, 654, 655, 656, 657, 1107, 1108, 1109, 1110, 658, 659, 660, 661, 662, 663, 664, 665] (by rfl)
set_option maxRecDepth 100000 in
theorem lwi_37 : ∀ w ∈ wsL_law_r37, w ∈ lw_tbl := lwi_mem [1111, 1112, 1113, 1114, 722, 723, 724, 725, 726, 728, 21, 729, 1115, 1116, 1117, 1118, 1119, 1121, 44, 1122, 730, 731, 732, 733] (by rfl)
set_option maxRecDepth 100000 in
theorem lwi_38 : ∀ w ∈ wsL_law_r38, w ∈ lw_tbl := lwi_mem [734, 736, 22, 737, 738, 739, 740, 741, 742, 743, 744, 745, 746, 747, 748, 749, 750, 1123, 1124, 1125, 1126, 1127, 1129, 45] (by rfl)
set_option maxRecDepth 100000 in
theorem lwi_39 : ∀ w ∈ wsL_law_r39, w ∈ lw_tbl := lwi_mem [1130, 1131, 1132, 1133, 1134, 1135, 1136, 1137, 751, 752, 753, 754, 755, 1138, 1139, 1140, 1141, 1142, 1143, 1144, 781, 782, 783, 784] (by rfl)
set_option maxRecDepth 100000 in
theorem lwi_40 : ∀ w ∈ wsL_law_r40, w ∈ lw_tbl := lwi_mem [785, 787, 24, 788, 1145, 1146, 1147, 1148, 756, 757, 758, 759, 1149, 1150, 1151, 1152, 764, 765, 766, 767, 1153, 1154, 1155, 1156] (by rfl)
set_option maxRecDepth 100000 in
theorem lwi_41 : ∀ w ∈ wsL_law_r41, w ∈ lw_tbl := lwi_mem [760, 761, 762, 763, 1157, 1158, 1159, 1160, 789, 790, 791, 792, 793, 795, 25, 796, 797, 798, 799, 800, 801, 802, 803, 804] (by rfl)
set_option maxRecDepth 100000 in
theorem lwi_42 : ∀ w ∈ wsL_law_r42, w ∈ lw_tbl := lwi_mem [805, 806, 1161, 1162, 1163, 1164, 838, 1165, 1167, 46, 1168, 1169, 1170, 1171, 807, 808, 809, 810, 1172, 1173, 1174, 1175, 830, 811] (by rfl)
set_option maxRecDepth 100000 in
theorem lwi_43 : ∀ w ∈ wsL_law_r43, w ∈ lw_tbl := lwi_mem [812, 813, 814, 1176, 1177, 1178, 1179, 815, 816, 817, 818, 1180, 1181, 1182, 1183] (by rfl)
theorem lwi_r : ∀ w ∈ (wsL_law_r1 ++ (wsL_law_r2 ++ (wsL_law_r3 ++ (wsL_law_r4 ++ (wsL_law_r5 ++ (wsL_law_r6 ++ (wsL_law_r7 ++ (wsL_law_r8 ++ (wsL_law_r9 ++ (wsL_law_r10 ++ (wsL_law_r11 ++ (wsL_law_r12 ++ (wsL_law_r13 ++ (wsL_law_r14 ++ (wsL_law_r15 ++ (wsL_law_r16 ++ (wsL_law_r17 ++ (wsL_law_r18 ++ (wsL_law_r19 ++ (wsL_law_r20 ++ (wsL_law_r21 ++ (wsL_law_r22 ++ (wsL_law_r23 ++ (wsL_law_r24 ++ (wsL_law_r25 ++ (wsL_law_r26 ++ (wsL_law_r27 ++ (wsL_law_r28 ++ (wsL_law_r29 ++ (wsL_law_r30 ++ (wsL_law_r31 ++ (wsL_law_r32 ++ (wsL_law_r33 ++ (wsL_law_r34 ++ (wsL_law_r35 ++ (wsL_law_r36 ++ (wsL_law_r37 ++ (wsL_law_r38 ++ (wsL_law_r39 ++ (wsL_law_r40 ++ (wsL_law_r41 ++ (wsL_law_r42 ++ wsL_law_r43)))))))))))))))))))))))))))))))))))))))))), w ∈ lw_tbl := List.forall_mem_append.mpr ⟨lwi_1, List.forall_mem_append.mpr ⟨lwi_2, List.forall_mem_append.mpr ⟨lwi_3, List.forall_mem_append.mpr ⟨lwi_4, List.forall_mem_append.mpr ⟨lwi_5, List.forall_mem_append.mpr ⟨lwi_6, List.forall_mem_append.mpr ⟨lwi_7, List.forall_mem_append.mpr ⟨lwi_8, List.forall_mem_append.mpr ⟨lwi_9, List.forall_mem_append.mpr ⟨lwi_10, List.forall_mem_append.mpr ⟨lwi_11, List.forall_mem_append.mpr ⟨lwi_12, List.forall_mem_append.mpr ⟨lwi_13, List.forall_mem_append.mpr ⟨lwi_14, List.forall_mem_append.mpr ⟨lwi_15, List.forall_mem_append.mpr ⟨lwi_16, List.forall_mem_append.mpr ⟨lwi_17, List.forall_mem_append.mpr ⟨lwi_18, List.forall_mem_append.mpr ⟨lwi_19, List.forall_mem_append.mpr ⟨lwi_20, List.forall_mem_append.mpr ⟨lwi_21, List.forall_mem_append.mpr ⟨lwi_22, List.forall_mem_append.mpr ⟨lwi_23, List.forall_mem_append.mpr ⟨lwi_24, List.forall_mem_append.mpr ⟨lwi_25, List.forall_mem_append.mpr ⟨lwi_26, List.forall_mem_append.mpr ⟨lwi_27, List.forall_mem_append.mpr ⟨lwi_28, List.forall_mem_append.mpr ⟨lwi_29, List.forall_mem_append.mpr ⟨lwi_30, List.forall_mem_append.mpr ⟨lwi_31, List.forall_mem_append.mpr ⟨lwi_32, List.forall_mem_append.mpr ⟨lwi_33, List.forall_mem_append.mpr ⟨lwi_34, List.forall_mem_append.mpr ⟨lwi_35, List.forall_mem_append.mpr ⟨lwi_36, List.forall_mem_append.mpr ⟨lwi_37, List.forall_mem_append.mpr ⟨lwi_38, List.forall_mem_append.mpr ⟨lwi_39, List.forall_mem_append.mpr ⟨lwi_40, List.forall_mem_append.mpr ⟨lwi_41, List.forall_mem_append.mpr ⟨lwi_42, lwi_43⟩⟩⟩⟩⟩⟩⟩⟩⟩⟩⟩⟩⟩⟩⟩⟩⟩⟩⟩⟩⟩⟩⟩⟩⟩⟩⟩⟩⟩⟩⟩⟩⟩⟩⟩⟩⟩⟩⟩⟩⟩⟩
set_option maxRecDepth 100000 in
theorem lwi_X0 : ∀ w ∈ wsX00, w ∈ lw_tbl := by decide +kernel
set_option maxRecDepth 100000 in
theorem lwi_X1 : ∀ w ∈ wsX10, w ∈ lw_tbl := by decide +kernel
set_option maxRecDepth 100000 in
theorem lwi_X2 : ∀ w ∈ wsX20, w ∈ lw_tbl := by decide +kernel
set_option maxRecDepth 100000 in
theorem lwi_X3 : ∀ w ∈ wsX30, w ∈ lw_tbl := by decide +kernel
set_option maxRecDepth 100000 in
theorem lwi_X4 : ∀ w ∈ wsX40, w ∈ lw_tbl := by decide +kernel
set_option maxRecDepth 100000 in
theorem lwi_X5 : ∀ w ∈ wsX50, w ∈ lw_tbl := by decide +kernel
set_option maxRecDepth 100000 in
theorem lwi_X6 : ∀ w ∈ wsX60, w ∈ lw_tbl := by decide +kernel
set_option maxRecDepth 100000 in
theorem lwi_X7 : ∀ w ∈ wsX70, w ∈ lw_tbl := by decide +kernel
set_option maxRecDepth 100000 in
theorem lwi_X8 : ∀ w ∈ wsX80, w ∈ lw_tbl := by decide +kernel
set_option maxRecDepth 100000 in
theorem lwi_X9 : ∀ w ∈ wsX90, w ∈ lw_tbl := by decide +kernel
theorem lwi_all : ∀ w ∈ wsL_law, w ∈ lw_tbl := List.forall_mem_append.mpr ⟨List.forall_mem_append.mpr ⟨List.forall_mem_append.mpr ⟨List.forall_mem_append.mpr ⟨List.forall_mem_append.mpr ⟨List.forall_mem_append.mpr ⟨List.forall_mem_append.mpr ⟨List.forall_mem_append.mpr ⟨List.forall_mem_append.mpr ⟨List.forall_mem_append.mpr ⟨List.forall_mem_append.mpr ⟨lwi_r, lwi_X8⟩, lwi_X9⟩, lwi_X5⟩, lwi_X0⟩, lwi_X4⟩, lwi_X3⟩, lwi_X1⟩, lwi_X2⟩, lwi_X7⟩, lwi_X6⟩, fun w h => absurd h List.not_mem_nil⟩
