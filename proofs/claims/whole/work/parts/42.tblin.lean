/-! every word that the walks ask stands in the tables -/
theorem lwi_mem {ws : List Cond} (is : List Nat) (h : ws.map some = is.map (fun i => lw_tbl[i]?)) : ∀ w ∈ ws, w ∈ lw_tbl := by
  intro w hw
  have h1 : some w ∈ ws.map some := List.mem_map.mpr ⟨w, hw, rfl⟩
  rw [h] at h1
  obtain ⟨i, -, hi⟩ := List.mem_map.mp h1
  exact List.mem_of_getElem? hi
set_option maxRecDepth 100000 in
theorem lwi_1 : ∀ w ∈ wsL_law_r1, w ∈ lw_tbl := lwi_mem [63, 64, 47, 813, 814, 56, 65, 66, 67, 68, 69, 70, 71, 73, 48, 79, 80, 49, 86, 87, 50, 93, 94, 51] (by rfl)
set_option maxRecDepth 100000 in
theorem lwi_2 : ∀ w ∈ wsL_law_r2, w ∈ lw_tbl := lwi_mem [100, 101, 52, 107, 108, 53, 114, 115, 54, 176, 177, 178, 162, 163, 55, 179, 161, 180, 181, 182, 183, 184, 185, 186] (by rfl)
set_option maxRecDepth 100000 in
theorem lwi_3 : ∀ w ∈ wsL_law_r3, w ∈ lw_tbl := lwi_mem [75, 76, 77, 82, 83, 89, 90, 96, 97, 103, 104, 110, 111, 116, 117, 118, 119, 120, 121, 123, 125, 127, 129, 132] (by rfl)
set_option maxRecDepth 100000 in
theorem lwi_4 : ∀ w ∈ wsL_law_r4, w ∈ lw_tbl := lwi_mem [134, 135, 137, 164, 165, 166, 167, 168, 169, 815, 816, 817, 818, 819, 820, 821, 822, 823, 825, 826, 827, 831, 210, 211] (by rfl)
set_option maxRecDepth 100000 in
theorem lwi_5 : ∀ w ∈ wsL_law_r5, w ∈ lw_tbl := lwi_mem [212, 213, 214, 215, 216, 217, 218, 219, 220, 221, 222, 223, 224, 225, 226, 228, 0, 229, 230, 231, 232, 233, 862, 863] (by rfl)
set_option maxRecDepth 100000 in
theorem lwi_6 : ∀ w ∈ wsL_law_r6, w ∈ lw_tbl := lwi_mem [864, 865, 828, 866, 868, 25, 869, 234, 235, 236, 237, 238, 239, 240, 241, 242, 243, 244, 245, 246, 248, 1, 249, 251] (by rfl)
set_option maxRecDepth 100000 in
theorem lwi_7 : ∀ w ∈ wsL_law_r7, w ∈ lw_tbl := lwi_mem [252, 253, 57, 254, 1184, 255, 256, 257, 258, 259, 1185, 261, 262, 263, 264, 265, 266, 267, 268, 269, 270, 58, 271, 272] (by rfl)
set_option maxRecDepth 100000 in
theorem lwi_8 : ∀ w ∈ wsL_law_r8, w ∈ lw_tbl := lwi_mem [273, 274, 275, 277, 278, 59, 279, 280, 281, 60, 282, 283, 284, 285, 286, 287, 288, 289, 290, 291, 292, 293, 295, 297] (by rfl)
set_option maxRecDepth 100000 in
theorem lwi_9 : ∀ w ∈ wsL_law_r9, w ∈ lw_tbl := lwi_mem [299, 300, 301, 302, 303, 304, 306, 307, 308, 309, 310, 311, 312, 313, 314, 315, 316, 317, 321, 322, 61, 323, 324, 325] (by rfl)
set_option maxRecDepth 100000 in
theorem lwi_10 : ∀ w ∈ wsL_law_r10, w ∈ lw_tbl := lwi_mem [326, 318, 319, 320, 327, 328, 329, 330, 331, 332, 333, 334, 335, 336, 337, 338, 339, 340, 341, 342, 343, 344, 345, 346] (by rfl)
set_option maxRecDepth 100000 in
theorem lwi_11 : ∀ w ∈ wsL_law_r11, w ∈ lw_tbl := lwi_mem [347, 348, 349, 350, 351, 352, 353, 354, 355, 62, 356, 357, 358, 359, 360, 361, 362, 363, 364, 365, 366, 367, 372, 373] (by rfl)
set_option maxRecDepth 100000 in
theorem lwi_12 : ∀ w ∈ wsL_law_r12, w ∈ lw_tbl := lwi_mem [374, 375, 376, 378, 2, 379, 380, 382, 3, 383, 384, 386, 4, 387, 388, 389, 390, 391, 392, 393, 394, 395, 396, 397] (by rfl)
set_option maxRecDepth 100000 in
theorem lwi_13 : ∀ w ∈ wsL_law_r13, w ∈ lw_tbl := lwi_mem [398, 399, 400, 401, 402, 403, 404, 405, 406, 407, 408, 409, 410, 411, 412, 413, 414, 415, 416, 417, 418, 419, 420, 421] (by rfl)
set_option maxRecDepth 100000 in
theorem lwi_14 : ∀ w ∈ wsL_law_r14, w ∈ lw_tbl := lwi_mem [422, 423, 424, 425, 426, 427, 428, 429, 430, 431, 432, 433, 435, 5, 436, 437, 438, 439, 440, 441, 442, 444, 445, 446] (by rfl)
set_option maxRecDepth 100000 in
theorem lwi_15 : ∀ w ∈ wsL_law_r15, w ∈ lw_tbl := lwi_mem [447, 448, 450, 6, 451, 452, 453, 454, 455, 456, 459, 457, 460, 461, 462, 476, 463, 464, 465, 466, 467, 468, 469, 1178] (by rfl)
set_option maxRecDepth 100000 in
theorem lwi_16 : ∀ w ∈ wsL_law_r16, w ∈ lw_tbl := lwi_mem [113, 470, 471, 472, 473, 474, 475, 456, 457, 458, 478, 479, 480, 481, 482, 485, 486, 483, 495, 483, 487, 488, 489, 490] (by rfl)
set_option maxRecDepth 100000 in
theorem lwi_17 : ∀ w ∈ wsL_law_r17, w ∈ lw_tbl := lwi_mem [491, 492, 493, 494, 482, 484, 496, 498, 7, 499, 500, 501, 870, 871, 872, 873, 830, 874, 876, 26, 877, 878, 880, 27] (by rfl)
set_option maxRecDepth 100000 in
theorem lwi_18 : ∀ w ∈ wsL_law_r18, w ∈ lw_tbl := lwi_mem [881, 882, 884, 28, 885, 886, 887, 888, 889, 891, 29, 892, 893, 894, 895, 896, 897, 898, 899, 901, 30, 902, 903, 905] (by rfl)
set_option maxRecDepth 100000 in
theorem lwi_19 : ∀ w ∈ wsL_law_r19, w ∈ lw_tbl := lwi_mem [31, 906, 907, 908, 909, 910, 912, 32, 913, 914, 916, 33, 917, 918, 919, 920, 921, 922, 923, 924, 925, 926, 927, 928] (by rfl)
set_option maxRecDepth 100000 in
theorem lwi_20 : ∀ w ∈ wsL_law_r20, w ∈ lw_tbl := lwi_mem [929, 930, 931, 932, 933, 934, 935, 936, 937, 938, 939, 940, 941, 942, 943, 944, 945, 946, 947, 948, 949, 950, 951, 952] (by rfl)
set_option maxRecDepth 100000 in
theorem lwi_21 : ∀ w ∈ wsL_law_r21, w ∈ lw_tbl := lwi_mem [953, 503, 504, 505, 506, 507, 509, 8, 510, 511, 512, 513, 514, 954, 955, 956, 957, 515, 516, 517, 518, 519, 520, 521] (by rfl)
set_option maxRecDepth 100000 in
theorem lwi_22 : ∀ w ∈ wsL_law_r22, w ∈ lw_tbl := lwi_mem [522, 958, 959, 960, 961, 962, 963, 964, 523, 524, 525, 526, 527, 529, 9, 530, 531, 532, 533, 534, 535, 965, 966, 967] (by rfl)
set_option maxRecDepth 100000 in
theorem lwi_23 : ∀ w ∈ wsL_law_r23, w ∈ lw_tbl := lwi_mem [968, 969, 970, 971, 972, 974, 34, 975, 976, 536, 537, 538, 539, 540, 542, 10, 543, 544, 545, 546, 547, 548, 549, 977] (by rfl)
set_option maxRecDepth 100000 in
theorem lwi_24 : ∀ w ∈ wsL_law_r24, w ∈ lw_tbl := lwi_mem [978, 979, 980, 981, 982, 983, 550, 551, 552, 553, 554, 555, 984, 985, 986, 987, 556, 557, 558, 559, 560, 561, 562, 563] (by rfl)
set_option maxRecDepth 100000 in
theorem lwi_25 : ∀ w ∈ wsL_law_r25, w ∈ lw_tbl := lwi_mem [564, 988, 989, 990, 991, 565, 566, 567, 568, 569, 570, 571, 992, 993, 994, 995, 996, 997, 998, 572, 573, 574, 575, 999] (by rfl)
set_option maxRecDepth 100000 in
theorem lwi_26 : ∀ w ∈ wsL_law_r26, w ∈ lw_tbl := lwi_mem [1000, 1001, 1002, 576, 577, 578, 579, 580, 1003, 1004, 1005, 1006, 581, 582, 583, 584, 585, 587, 11, 588, 1007, 1008, 1009, 1010] (by rfl)
set_option maxRecDepth 100000 in
theorem lwi_27 : ∀ w ∈ wsL_law_r27, w ∈ lw_tbl := lwi_mem [589, 590, 591, 592, 1011, 1012, 1013, 1014, 593, 594, 595, 596, 597, 599, 12, 600, 601, 602, 603, 604, 605, 607, 13, 608] (by rfl)
set_option maxRecDepth 100000 in
theorem lwi_28 : ∀ w ∈ wsL_law_r28, w ∈ lw_tbl := lwi_mem [609, 610, 611, 612, 1015, 1016, 1017, 1018, 1019, 1020, 1021, 613, 614, 615, 616, 617, 618, 619, 620, 621, 1022, 1023, 1024, 1025] (by rfl)
set_option maxRecDepth 100000 in
theorem lwi_29 : ∀ w ∈ wsL_law_r29, w ∈ lw_tbl := lwi_mem [1026, 1028, 35, 1029, 622, 623, 624, 625, 626, 1030, 1031, 1032, 1033, 627, 628, 629, 630, 1034, 1035, 1036, 1037, 660, 661, 662] (by rfl)
set_option maxRecDepth 100000 in
theorem lwi_30 : ∀ w ∈ wsL_law_r30, w ∈ lw_tbl := lwi_mem [663, 664, 666, 14, 667, 668, 670, 15, 671, 1038, 1039, 1040, 1041, 1042, 1044, 36, 1045, 1046, 1048, 37, 1049, 1050, 1052, 38] (by rfl)
set_option maxRecDepth 100000 in
theorem lwi_31 : ∀ w ∈ wsL_law_r31, w ∈ lw_tbl := lwi_mem [1053, 1054, 1055, 1056, 672, 673, 674, 675, 1057, 1058, 1059, 1060, 676, 677, 678, 679, 680, 681, 682, 683, 684, 685, 686, 687] (by rfl)
set_option maxRecDepth 100000 in
theorem lwi_32 : ∀ w ∈ wsL_law_r32, w ∈ lw_tbl := lwi_mem [688, 690, 16, 691, 692, 693, 694, 695, 1061, 1062, 1063, 1064, 631, 632, 633, 634, 635, 636, 637, 638, 639, 640, 641, 642] (by rfl)
set_option maxRecDepth 100000 in
theorem lwi_33 : ∀ w ∈ wsL_law_r33, w ∈ lw_tbl := lwi_mem [643, 644, 645, 646, 1065, 1066, 1067, 1068, 1069, 1070, 1071, 696, 697, 698, 699, 700, 702, 17, 703, 704, 706, 18, 707, 1072] (by rfl)
set_option maxRecDepth 100000 in
theorem lwi_34 : ∀ w ∈ wsL_law_r34, w ∈ lw_tbl := lwi_mem [1073, 1074, 1075, 1080, 1076, 1078, 39, 1079, 708, 709, 710, 711, 712, 714, 19, 715, 1081, 1082, 1083, 1084, 1085, 1087, 40, 1088] (by rfl)
set_option maxRecDepth 100000 in
theorem lwi_35 : ∀ w ∈ wsL_law_r35, w ∈ lw_tbl := lwi_mem [1089, 1091, 41, 1092, 1093, 1095, 42, 1096, 762, 763, 764, 765, 766, 768, 22, 769, 770, 771, 772, 773, 774, 1097, 1098, 1099] (by rfl)
set_option maxRecDepth 100000 in
theorem lwi_36 : ∀ w ∈ wsL_law_r36, w ∈ lw_tbl := lwi_mem [1100, 829, 647, 648, 649, 650, 651, 1101, 1102, 1103, 1104, 652, 653, 654, 655, 656, 657, 658, 659, 1105, 1106, 1107, 1108, 716] (by rfl)
set_option maxRecDepth 100000 in
theorem lwi_37 : ∀ w ∈ wsL_law_r37, w ∈ lw_tbl := lwi_mem [717, 718, 719, 720, 722, 20, 723, 1109, 1110, 1111, 1112, 1113, 1115, 43, 1116, 724, 725, 726, 727, 728, 730, 21, 731, 732] (by rfl)
set_option maxRecDepth 100000 in
theorem lwi_38 : ∀ w ∈ wsL_law_r38, w ∈ lw_tbl := lwi_mem [733, 734, 735, 736, 737, 738, 739, 740, 741, 742, 743, 744, 1117, 1118, 1119, 1120, 1121, 1123, 44, 1124, 1125, 1126, 1127, 1128] (by rfl)
set_option maxRecDepth 100000 in
theorem lwi_39 : ∀ w ∈ wsL_law_r39, w ∈ lw_tbl := lwi_mem [1129, 1130, 1131, 745, 746, 747, 748, 749, 1132, 1133, 1134, 1135, 1136, 1137, 1138, 775, 776, 777, 778, 779, 781, 23, 782, 1139] (by rfl)
set_option maxRecDepth 100000 in
theorem lwi_40 : ∀ w ∈ wsL_law_r40, w ∈ lw_tbl := lwi_mem [1140, 1141, 1142, 750, 751, 752, 753, 1143, 1144, 1145, 1146, 758, 759, 760, 761, 1147, 1148, 1149, 1150, 754, 755, 756, 757, 1151] (by rfl)
set_option maxRecDepth 100000 in
theorem lwi_41 : ∀ w ∈ wsL_law_r41, w ∈ lw_tbl := lwi_mem [1152, 1153, 1154, 783, 784, 785, 786, 787, 789, 24, 790, 791, 792, 793, 794, 795, 796, 797, 798, 799, 800, 1155, 1156, 1157] (by rfl)
set_option maxRecDepth 100000 in
theorem lwi_42 : ∀ w ∈ wsL_law_r42, w ∈ lw_tbl := lwi_mem [1158, 832, 1159, 1161, 45, 1162, 1163, 1164, 1165, 801, 802, 803, 804, 1166, 1167, 1168, 1169, 824, 805, 806, 807, 808, 1170, 1171] (by rfl)
set_option maxRecDepth 100000 in
theorem lwi_43 : ∀ w ∈ wsL_law_r43, w ∈ lw_tbl := lwi_mem [1172, 1173, 809, 810, 811, 812, 1174, 1175, 1176, 1177] (by rfl)
theorem lwi_r : ∀ w ∈ (wsL_law_r1 ++ (wsL_law_r2 ++ (wsL_law_r3 ++ (wsL_law_r4 ++ (wsL_law_r5 ++ (wsL_law_r6 ++ (wsL_law_r7 ++ (wsL_law_r8 ++ (wsL_law_r9 ++ (wsL_law_r10 ++ (wsL_law_r11 ++ (wsL_law_r12 ++ (wsL_law_r13 ++ (wsL_law_r14 ++ (wsL_law_r15 ++ (wsL_law_r16 ++ (wsL_law_r17 ++ (wsL_law_r18 ++ (wsL_law_r19 ++ (wsL_law_r20 ++ (wsL_law_r21 ++ (wsL_law_r22 ++ (wsL_law_r23 ++ (wsL_law_r24 ++ (wsL_law_r25 ++ (wsL_law_r26 ++ (wsL_law_r27 ++ (wsL_law_r28 ++ (wsL_law_r29 ++ (wsL_law_r30 ++ (wsL_law_r31 ++ (wsL_law_r32 ++ (wsL_law_r33 ++ (wsL_law_r34 ++ (wsL_law_r35 ++ (wsL_law_r36 ++ (wsL_law_r37 ++ (wsL_law_r38 ++ (wsL_law_r39 ++ (wsL_law_r40 ++ (wsL_law_r41 ++ (wsL_law_r42 ++ wsL_law_r43)))))))))))))))))))))))))))))))))))))))))), w ∈ lw_tbl := List.forall_mem_append.mpr ⟨lwi_1, List.forall_mem_append.mpr ⟨lwi_2, List.forall_mem_append.mpr ⟨lwi_3, List.forall_mem_append.mpr ⟨lwi_4, List.forall_mem_append.mpr ⟨lwi_5, List.forall_mem_append.mpr ⟨lwi_6, List.forall_mem_append.mpr ⟨lwi_7, List.forall_mem_append.mpr ⟨lwi_8, List.forall_mem_append.mpr ⟨lwi_9, List.forall_mem_append.mpr ⟨lwi_10, List.forall_mem_append.mpr ⟨lwi_11, List.forall_mem_append.mpr ⟨lwi_12, List.forall_mem_append.mpr ⟨lwi_13, List.forall_mem_append.mpr ⟨lwi_14, List.forall_mem_append.mpr ⟨lwi_15, List.forall_mem_append.mpr ⟨lwi_16, List.forall_mem_append.mpr ⟨lwi_17, List.forall_mem_append.mpr ⟨lwi_18, List.forall_mem_append.mpr ⟨lwi_19, List.forall_mem_append.mpr ⟨lwi_20, List.forall_mem_append.mpr ⟨lwi_21, List.forall_mem_append.mpr ⟨lwi_22, List.forall_mem_append.mpr ⟨lwi_23, List.forall_mem_append.mpr ⟨lwi_24, List.forall_mem_append.mpr ⟨lwi_25, List.forall_mem_append.mpr ⟨lwi_26, List.forall_mem_append.mpr ⟨lwi_27, List.forall_mem_append.mpr ⟨lwi_28, List.forall_mem_append.mpr ⟨lwi_29, List.forall_mem_append.mpr ⟨lwi_30, List.forall_mem_append.mpr ⟨lwi_31, List.forall_mem_append.mpr ⟨lwi_32, List.forall_mem_append.mpr ⟨lwi_33, List.forall_mem_append.mpr ⟨lwi_34, List.forall_mem_append.mpr ⟨lwi_35, List.forall_mem_append.mpr ⟨lwi_36, List.forall_mem_append.mpr ⟨lwi_37, List.forall_mem_append.mpr ⟨lwi_38, List.forall_mem_append.mpr ⟨lwi_39, List.forall_mem_append.mpr ⟨lwi_40, List.forall_mem_append.mpr ⟨lwi_41, List.forall_mem_append.mpr ⟨lwi_42, lwi_43⟩⟩⟩⟩⟩⟩⟩⟩⟩⟩⟩⟩⟩⟩⟩⟩⟩⟩⟩⟩⟩⟩⟩⟩⟩⟩⟩⟩⟩⟩⟩⟩⟩⟩⟩⟩⟩⟩⟩⟩⟩⟩
set_option maxRecDepth 100000 in
theorem lwi_X0 : ∀ w ∈ wsX00, w ∈ lw_tbl := by decide +kernel
set_option maxRecDepth 100000 in
theorem lwi_X1 : ∀ w ∈ wsX10, w ∈ lw_tbl := by decide +kernel
set_option maxRecDepth 100000 in
theorem lwi_X2 : ∀ w ∈ wsX20, w ∈ lw_tbl := by decide +kernel
set_option maxRecDepth 100000 in
theorem lwi_X3 : ∀ w ∈ wsX30, w ∈ lw_tbl := by decide +kernel
set_option maxRecDepth 100000 in
theorem lwi_X4 : ∀ w ∈ wsX40, w ∈ lw_tbl := by decide +kernel
set_option maxRecDepth 100000 in
theorem lwi_X5 : ∀ w ∈ wsX50, w ∈ lw_tbl := by decide +kernel
set_option maxRecDepth 100000 in
theorem lwi_X6 : ∀ w ∈ wsX60, w ∈ lw_tbl := by decide +kernel
set_option maxRecDepth 100000 in
theorem lwi_X7 : ∀ w ∈ wsX70, w ∈ lw_tbl := by decide +kernel
set_option maxRecDepth 100000 in
theorem lwi_X8 : ∀ w ∈ wsX80, w ∈ lw_tbl := by decide +kernel
set_option maxRecDepth 100000 in
theorem lwi_X9 : ∀ w ∈ wsX90, w ∈ lw_tbl := by decide +kernel
theorem lwi_all : ∀ w ∈ wsL_law, w ∈ lw_tbl := List.forall_mem_append.mpr ⟨List.forall_mem_append.mpr ⟨List.forall_mem_append.mpr ⟨List.forall_mem_append.mpr ⟨List.forall_mem_append.mpr ⟨List.forall_mem_append.mpr ⟨List.forall_mem_append.mpr ⟨List.forall_mem_append.mpr ⟨List.forall_mem_append.mpr ⟨List.forall_mem_append.mpr ⟨List.forall_mem_append.mpr ⟨lwi_r, lwi_X8⟩, lwi_X9⟩, lwi_X5⟩, lwi_X0⟩, lwi_X4⟩, lwi_X3⟩, lwi_X1⟩, lwi_X2⟩, lwi_X7⟩, lwi_X6⟩, fun w h => absurd h List.not_mem_nil⟩
