theorem hs_inr {big : List Cond} (ws : List Cond) (ps : List Nat) (hp : ws = ps.filterMap (fun i => big[i]?)) : ∀ w ∈ ws, w ∈ big := by
  intro w hw
  rw [hp] at hw
  obtain ⟨i, -, hi⟩ := List.mem_filterMap.mp hw
  first | exact List.mem_of_getElem? hi | exact List.getElem?_mem hi
set_option maxRecDepth 20000 in
theorem hs_wsL_law_r1 : ∀ w ∈ wsL_law_r1, w ∈ lw_tbl := hs_inr _ [70, 71, 54, 839, 840, 61, 72, 73, 74, 75, 76, 77, 78, 79, 55, 268, 269, 270, 200, 271, 164, 165, 56, 272] rfl
set_option maxRecDepth 20000 in
theorem hs_wsL_law_r2 : ∀ w ∈ wsL_law_r2, w ∈ lw_tbl := hs_inr _ [223, 224, 58, 273, 239, 240, 59, 274, 250, 275, 252, 60, 80, 81, 82, 83, 162, 88, 91, 93, 97, 101, 102, 103] rfl
set_option maxRecDepth 20000 in
theorem hs_wsL_law_r3 : ∀ w ∈ wsL_law_r3, w ∈ lw_tbl := hs_inr _ [84, 85, 86, 87, 104, 108, 112, 116, 119, 122, 126, 129, 167, 168, 169, 170, 171, 57, 203, 201, 205, 173, 174, 175] rfl
set_option maxRecDepth 20000 in
theorem hs_wsL_law_r4 : ∀ w ∈ wsL_law_r4, w ∈ lw_tbl := hs_inr _ [176, 202, 226, 227, 228, 229, 230, 242, 243, 244, 249, 245, 254, 255, 256, 257, 258, 841, 842, 843, 844, 853, 854, 855] rfl
set_option maxRecDepth 20000 in
theorem hs_wsL_law_r5 : ∀ w ∈ wsL_law_r5, w ∈ lw_tbl := hs_inr _ [858, 863, 871, 876, 880, 881, 882, 884, 845, 847, 17, 848, 859, 860, 861, 862, 849, 851, 18, 852, 856, 857, 299, 300] rfl
set_option maxRecDepth 20000 in
theorem hs_wsL_law_r6 : ∀ w ∈ wsL_law_r6, w ∈ lw_tbl := hs_inr _ [301, 302, 204, 178, 177, 303, 304, 305, 950, 951, 952, 953, 954, 864, 955, 956, 957, 306, 307, 308, 309, 958, 959, 960] rfl
set_option maxRecDepth 20000 in
theorem hs_wsL_law_r7 : ∀ w ∈ wsL_law_r7, w ∈ lw_tbl := hs_inr _ [961, 310, 311, 312, 313, 209, 276, 211, 206, 314, 315, 316, 317, 207, 208, 210, 180, 318, 319, 320, 321, 322, 184, 323] rfl
set_option maxRecDepth 20000 in
theorem hs_wsL_law_r8 : ∀ w ∈ wsL_law_r8, w ∈ lw_tbl := hs_inr _ [324, 325, 326, 182, 179, 185, 181, 327, 328, 329, 330, 332, 0, 333, 334, 336, 1, 337, 338, 340, 2, 341, 113, 117] rfl
set_option maxRecDepth 20000 in
theorem hs_wsL_law_r9 : ∀ w ∈ wsL_law_r9, w ∈ lw_tbl := hs_inr _ [123, 342, 344, 3, 345, 346, 347, 348, 358, 359, 360, 361, 362, 363, 364, 62, 365, 1292, 366, 367, 368, 369, 370, 1293] rfl
set_option maxRecDepth 20000 in
theorem hs_wsL_law_r10 : ∀ w ∈ wsL_law_r10, w ∈ lw_tbl := hs_inr _ [372, 373, 374, 375, 376, 377, 378, 379, 380, 381, 63, 382, 383, 384, 385, 386, 388, 389, 64, 390, 391, 392, 65, 393] rfl
set_option maxRecDepth 20000 in
theorem hs_wsL_law_r11 : ∀ w ∈ wsL_law_r11, w ∈ lw_tbl := hs_inr _ [394, 395, 396, 397, 398, 399, 400, 401, 402, 403, 404, 406, 408, 410, 412, 4, 413, 127, 109, 414, 416, 5, 417, 418] rfl
set_option maxRecDepth 20000 in
theorem hs_wsL_law_r12 : ∀ w ∈ wsL_law_r12, w ∈ lw_tbl := hs_inr _ [420, 6, 421, 183, 422, 423, 425, 7, 426, 107, 90, 186, 427, 429, 8, 430, 432, 434, 9, 435, 436, 437, 438, 439] rfl
set_option maxRecDepth 20000 in
theorem hs_wsL_law_r13 : ∀ w ∈ wsL_law_r13, w ∈ lw_tbl := hs_inr _ [440, 441, 442, 443, 444, 446, 10, 447, 448, 450, 11, 451, 96, 100, 452, 453, 454, 455, 457, 458, 459, 460, 121, 231] rfl
set_option maxRecDepth 20000 in
theorem hs_wsL_law_r14 : ∀ w ∈ wsL_law_r14, w ∈ lw_tbl := hs_inr _ [125, 98, 94, 461, 462, 463, 464, 465, 467, 12, 468, 469, 470, 471, 472, 473, 475, 474, 66, 962, 963, 964, 965, 869] rfl
set_option maxRecDepth 20000 in
theorem hs_wsL_law_r15 : ∀ w ∈ wsL_law_r15, w ∈ lw_tbl := hs_inr _ [865, 867, 872, 870, 966, 968, 19, 969, 866, 974, 975, 976, 977, 868, 970, 972, 20, 973, 978, 980, 21, 981, 982, 984] rfl
set_option maxRecDepth 20000 in
theorem hs_wsL_law_r16 : ∀ w ∈ wsL_law_r16, w ∈ lw_tbl := hs_inr _ [22, 985, 986, 988, 23, 989, 990, 992, 24, 993, 994, 996, 25, 997, 998, 1000, 26, 1001, 1002, 1004, 27, 1005, 1006, 1008] rfl
set_option maxRecDepth 20000 in
theorem hs_wsL_law_r17 : ∀ w ∈ wsL_law_r17, w ∈ lw_tbl := hs_inr _ [28, 1009, 1010, 1012, 29, 1013, 1014, 1016, 30, 1017, 1018, 1020, 31, 1021, 873, 874, 875, 1022, 1023, 1024, 1025, 1027, 32, 1028] rfl
set_option maxRecDepth 20000 in
theorem hs_wsL_law_r18 : ∀ w ∈ wsL_law_r18, w ∈ lw_tbl := hs_inr _ [1029, 1031, 33, 1032, 1033, 1035, 34, 1036, 477, 478, 479, 480, 1037, 1038, 1039, 1040, 481, 482, 483, 484, 106, 110, 114, 118] rfl
set_option maxRecDepth 20000 in
theorem hs_wsL_law_r19 : ∀ w ∈ wsL_law_r19, w ∈ lw_tbl := hs_inr _ [120, 124, 128, 485, 486, 487, 488, 1041, 1042, 1043, 1044, 1045, 1047, 35, 1048, 1049, 1051, 36, 1052, 489, 490, 491, 492, 89] rfl
set_option maxRecDepth 20000 in
theorem hs_wsL_law_r20 : ∀ w ∈ wsL_law_r20, w ∈ lw_tbl := hs_inr _ [493, 494, 495, 496, 1053, 1054, 1055, 1056, 1057, 1059, 37, 1060, 497, 498, 499, 500, 92, 501, 502, 503, 504, 1061, 1062, 1063] rfl
set_option maxRecDepth 20000 in
theorem hs_wsL_law_r21 : ∀ w ∈ wsL_law_r21, w ∈ lw_tbl := hs_inr _ [1064, 1065, 1067, 38, 1068, 505, 506, 507, 508, 95, 99, 1069, 1070, 1071, 1072, 509, 510, 511, 512, 513, 514, 515, 516, 517] rfl
set_option maxRecDepth 20000 in
theorem hs_wsL_law_r22 : ∀ w ∈ wsL_law_r22, w ∈ lw_tbl := hs_inr _ [1073, 1074, 1075, 1076, 1077, 1078, 1080, 39, 1081, 518, 519, 520, 521, 522, 523, 524, 525, 527, 528, 1082, 1083, 1084, 1085, 529] rfl
set_option maxRecDepth 20000 in
theorem hs_wsL_law_r23 : ∀ w ∈ wsL_law_r23, w ∈ lw_tbl := hs_inr _ [530, 531, 532, 533, 534, 535, 536, 537, 538, 67, 539, 1086, 1087, 1088, 1089, 540, 541, 542, 543, 1090, 1091, 1092, 1093, 1094] rfl
set_option maxRecDepth 20000 in
theorem hs_wsL_law_r24 : ∀ w ∈ wsL_law_r24, w ∈ lw_tbl := hs_inr _ [544, 545, 546, 547, 1095, 1096, 1097, 1098, 1099, 1100, 548, 549, 550, 551, 552, 1101, 1102, 1103, 1104, 553, 554, 555, 556, 557] rfl
set_option maxRecDepth 20000 in
theorem hs_wsL_law_r25 : ∀ w ∈ wsL_law_r25, w ∈ lw_tbl := hs_inr _ [558, 559, 560, 561, 562, 563, 564, 1105, 1106, 1107, 1108, 565, 566, 567, 568, 569, 570, 571, 572, 573, 574, 575, 576, 577] rfl
set_option maxRecDepth 20000 in
theorem hs_wsL_law_r26 : ∀ w ∈ wsL_law_r26, w ∈ lw_tbl := hs_inr _ [578, 579, 580, 1109, 1110, 1111, 1112, 1113, 1115, 40, 1116, 1117, 1119, 41, 1120, 581, 582, 583, 584, 585, 586, 587, 588, 589] rfl
set_option maxRecDepth 20000 in
theorem hs_wsL_law_r27 : ∀ w ∈ wsL_law_r27, w ∈ lw_tbl := hs_inr _ [590, 591, 592, 601, 602, 603, 593, 594, 595, 596, 597, 598, 599, 600, 1121, 1122, 1123, 1124, 1125, 1127, 42, 1128, 1129, 1131] rfl
set_option maxRecDepth 20000 in
theorem hs_wsL_law_r28 : ∀ w ∈ wsL_law_r28, w ∈ lw_tbl := hs_inr _ [43, 1132, 1133, 1134, 1135, 1136, 1138, 44, 1139, 1140, 1142, 45, 1143, 1144, 1145, 1146, 604, 605, 606, 607, 608, 609, 610, 611] rfl
set_option maxRecDepth 20000 in
theorem hs_wsL_law_r29 : ∀ w ∈ wsL_law_r29, w ∈ lw_tbl := hs_inr _ [612, 1147, 1148, 1149, 1150, 1151, 1153, 46, 1154, 1155, 1156, 1157, 613, 614, 615, 616, 617, 618, 68, 619, 620, 621, 622, 1158] rfl
set_option maxRecDepth 20000 in
theorem hs_wsL_law_r30 : ∀ w ∈ wsL_law_r30, w ∈ lw_tbl := hs_inr _ [1159, 1160, 1161, 1162, 1163, 1164, 1165, 1166, 1167, 623, 624, 625, 626, 627, 628, 69, 629, 632, 105, 630, 631, 1168, 1169, 1170] rfl
set_option maxRecDepth 20000 in
theorem hs_wsL_law_r31 : ∀ w ∈ wsL_law_r31, w ∈ lw_tbl := hs_inr _ [1171, 1172, 1174, 47, 1175, 1176, 633, 634, 635, 636, 637, 639, 13, 640, 641, 642, 643, 644, 1177, 1178, 1179, 1180, 1181, 1183] rfl
set_option maxRecDepth 20000 in
theorem hs_wsL_law_r32 : ∀ w ∈ wsL_law_r32, w ∈ lw_tbl := hs_inr _ [48, 1184, 645, 646, 647, 648, 649, 650, 651, 652, 653, 654, 655, 656, 657, 1185, 1186, 1187, 1188, 658, 659, 660, 661, 662] rfl
set_option maxRecDepth 20000 in
theorem hs_wsL_law_r33 : ∀ w ∈ wsL_law_r33, w ∈ lw_tbl := hs_inr _ [663, 664, 665, 666, 667, 668, 669, 670, 671, 672, 673, 674, 675, 111, 115, 676, 1189, 1190, 1191, 1192, 1193, 1195, 49, 1196] rfl
set_option maxRecDepth 20000 in
theorem hs_wsL_law_r34 : ∀ w ∈ wsL_law_r34, w ∈ lw_tbl := hs_inr _ [677, 678, 679, 680, 1197, 1198, 1199, 1200, 681, 682, 683, 684, 685, 686, 687, 688, 689, 690, 691, 692, 693, 694, 695, 696] rfl
set_option maxRecDepth 20000 in
theorem hs_wsL_law_r35 : ∀ w ∈ wsL_law_r35, w ∈ lw_tbl := hs_inr _ [697, 698, 700, 14, 701, 1201, 1202, 1203, 1204, 702, 703, 704, 705, 706, 707, 708, 1205, 1206, 1207, 1208, 709, 710, 711, 712] rfl
set_option maxRecDepth 20000 in
theorem hs_wsL_law_r36 : ∀ w ∈ wsL_law_r36, w ∈ lw_tbl := hs_inr _ [717, 713, 715, 15, 716, 718, 719, 720, 721, 725, 722, 723, 724, 726, 727, 728, 729, 1209, 1210, 1211, 1212, 1213, 1214, 877] rfl
set_option maxRecDepth 20000 in
theorem hs_wsL_law_r37 : ∀ w ∈ wsL_law_r37, w ∈ lw_tbl := hs_inr _ [879, 1215, 1217, 50, 1218, 878, 1219, 1220, 1221, 1222, 1223, 1224, 730, 731, 732, 733, 734, 735, 736, 1225, 1226, 1227, 1228, 737] rfl
set_option maxRecDepth 20000 in
theorem hs_wsL_law_r38 : ∀ w ∈ wsL_law_r38, w ∈ lw_tbl := hs_inr _ [738, 739, 740, 130, 741, 742, 743, 744, 1229, 1230, 1231, 1232, 745, 746, 747, 748, 1233, 1234, 1235, 1236, 749, 750, 751, 752] rfl
set_option maxRecDepth 20000 in
theorem hs_wsL_law_r39 : ∀ w ∈ wsL_law_r39, w ∈ lw_tbl := hs_inr _ [753, 754, 755, 756, 757, 1237, 1238, 1239, 1240, 1241, 1243, 51, 1244, 758, 759, 760, 761, 1245, 1246, 1247, 1248, 762, 763, 764] rfl
set_option maxRecDepth 20000 in
theorem hs_wsL_law_r40 : ∀ w ∈ wsL_law_r40, w ∈ lw_tbl := hs_inr _ [765, 766, 767, 768, 769, 770, 771, 772, 1249, 1250, 1251, 1252, 1253, 1254, 773, 774, 775, 776, 1255, 1256, 1257, 1258, 1259, 1261] rfl
set_option maxRecDepth 20000 in
theorem hs_wsL_law_r41 : ∀ w ∈ wsL_law_r41, w ∈ lw_tbl := hs_inr _ [52, 1262, 777, 778, 779, 780, 1263, 1264, 1265, 1266, 781, 782, 783, 784, 785, 786, 787, 788, 789, 790, 792, 793, 794, 795] rfl
set_option maxRecDepth 20000 in
theorem hs_wsL_law_r42 : ∀ w ∈ wsL_law_r42, w ∈ lw_tbl := hs_inr _ [259, 1267, 1268, 1269, 1270, 1271, 1272, 1273, 796, 797, 798, 799, 800, 801, 802, 803, 804, 805, 806, 807, 808, 809, 810, 811] rfl
set_option maxRecDepth 20000 in
theorem hs_wsL_law_r43 : ∀ w ∈ wsL_law_r43, w ∈ lw_tbl := hs_inr _ [1274, 1275, 1276, 1277, 812, 813, 814, 815, 277, 816, 817, 818, 819, 820, 821, 822, 823, 824, 825, 1278, 1279, 1280, 1281, 1282] rfl
set_option maxRecDepth 20000 in
theorem hs_wsL_law_r44 : ∀ w ∈ wsL_law_r44, w ∈ lw_tbl := hs_inr _ [883, 1283, 826, 827, 828, 829, 1284, 1285, 1286, 1287, 830, 831, 832, 833, 260, 834, 836, 16, 837, 838, 1288, 1289, 1290, 1291] rfl
set_option maxRecDepth 20000 in
theorem hs_wsX70 : ∀ w ∈ wsX70, w ∈ lw_tbl := hs_inr _ [278, 280, 282, 284, 286, 288, 290, 292, 294, 296] rfl
set_option maxRecDepth 20000 in
theorem hs_wsX80 : ∀ w ∈ wsX80, w ∈ lw_tbl := hs_inr _ [885, 887, 889, 891, 893, 895, 897, 899, 901, 903, 905, 907, 909, 911, 913, 915, 917, 919, 921, 923, 925, 927, 929, 931, 933, 935, 937, 939, 941, 943, 945, 947] rfl
set_option maxRecDepth 20000 in
theorem hs_wsX60 : ∀ w ∈ wsX60, w ∈ lw_tbl := hs_inr _ [131, 133, 135, 137, 139, 141, 143, 145, 147, 149, 151, 153, 155, 157, 159] rfl
set_option maxRecDepth 20000 in
theorem hs_wsX50 : ∀ w ∈ wsX50, w ∈ lw_tbl := hs_inr _ [212, 214, 216, 218, 220] rfl
set_option maxRecDepth 20000 in
theorem hs_wsX20 : ∀ w ∈ wsX20, w ∈ lw_tbl := hs_inr _ [232, 234, 236] rfl
set_option maxRecDepth 20000 in
theorem hs_wsX00 : ∀ w ∈ wsX00, w ∈ lw_tbl := hs_inr _ [246] rfl
set_option maxRecDepth 20000 in
theorem hs_wsX30 : ∀ w ∈ wsX30, w ∈ lw_tbl := hs_inr _ [261, 263, 265] rfl
set_option maxRecDepth 20000 in
theorem hs_wsX40 : ∀ w ∈ wsX40, w ∈ lw_tbl := hs_inr _ [187, 189, 191, 193, 195, 197] rfl
set_option maxRecDepth 20000 in
theorem wsL_law_in : ∀ w ∈ wsL_law, w ∈ lw_tbl := List.forall_mem_append.mpr ⟨List.forall_mem_append.mpr ⟨List.forall_mem_append.mpr ⟨List.forall_mem_append.mpr ⟨List.forall_mem_append.mpr ⟨List.forall_mem_append.mpr ⟨List.forall_mem_append.mpr ⟨List.forall_mem_append.mpr ⟨List.forall_mem_append.mpr ⟨List.forall_mem_append.mpr ⟨hs_wsL_law_r1, List.forall_mem_append.mpr ⟨hs_wsL_law_r2, List.forall_mem_append.mpr ⟨hs_wsL_law_r3, List.forall_mem_append.mpr ⟨hs_wsL_law_r4, List.forall_mem_append.mpr ⟨hs_wsL_law_r5, List.forall_mem_append.mpr ⟨hs_wsL_law_r6, List.forall_mem_append.mpr ⟨hs_wsL_law_r7, List.forall_mem_append.mpr ⟨hs_wsL_law_r8, List.forall_mem_append.mpr ⟨hs_wsL_law_r9, List.forall_mem_append.mpr ⟨hs_wsL_law_r10, List.forall_mem_append.mpr ⟨hs_wsL_law_r11, List.forall_mem_append.mpr ⟨hs_wsL_law_r12, List.forall_mem_append.mpr ⟨hs_wsL_law_r13, List.forall_mem_append.mpr ⟨hs_wsL_law_r14, List.forall_mem_append.mpr ⟨hs_wsL_law_r15, List.forall_mem_append.mpr ⟨hs_wsL_law_r16, List.forall_mem_append.mpr ⟨hs_wsL_law_r17, List.forall_mem_append.mpr ⟨hs_wsL_law_r18, List.forall_mem_append.mpr ⟨hs_wsL_law_r19, List.forall_mem_append.mpr ⟨hs_wsL_law_r20, List.forall_mem_append.mpr ⟨hs_wsL_law_r21, List.forall_mem_append.mpr ⟨hs_wsL_law_r22, List.forall_mem_append.mpr ⟨hs_wsL_law_r23, List.forall_mem_append.mpr ⟨hs_wsL_law_r24, List.forall_mem_append.mpr ⟨hs_wsL_law_r25, List.forall_mem_append.mpr ⟨hs_wsL_law_r26, List.forall_mem_append.mpr ⟨hs_wsL_law_r27, List.forall_mem_append.mpr ⟨hs_wsL_law_r28, List.forall_mem_append.mpr ⟨hs_wsL_law_r29, List.forall_mem_append.mpr ⟨hs_wsL_law_r30, List.forall_mem_append.mpr ⟨hs_wsL_law_r31, List.forall_mem_append.mpr ⟨hs_wsL_law_r32, List.forall_mem_append.mpr ⟨hs_wsL_law_r33, List.forall_mem_append.mpr ⟨hs_wsL_law_r34, List.forall_mem_append.mpr ⟨hs_wsL_law_r35, List.forall_mem_append.mpr ⟨hs_wsL_law_r36, List.forall_mem_append.mpr ⟨hs_wsL_law_r37, List.forall_mem_append.mpr ⟨hs_wsL_law_r38, List.forall_mem_append.mpr ⟨hs_wsL_law_r39, List.forall_mem_append.mpr ⟨hs_wsL_law_r40, List.forall_mem_append.mpr ⟨hs_wsL_law_r41, List.forall_mem_append.mpr ⟨hs_wsL_law_r42, List.forall_mem_append.mpr ⟨hs_wsL_law_r43, hs_wsL_law_r44⟩⟩⟩⟩⟩⟩⟩⟩⟩⟩⟩⟩⟩⟩⟩⟩⟩⟩⟩⟩⟩⟩⟩⟩⟩⟩⟩⟩⟩⟩⟩⟩⟩⟩⟩⟩⟩⟩⟩⟩⟩⟩⟩, hs_wsX70⟩, hs_wsX80⟩, hs_wsX60⟩, hs_wsX50⟩, hs_wsX20⟩, hs_wsX00⟩, hs_wsX30⟩, hs_wsX40⟩, fun _ h => absurd h List.not_mem_nil⟩
theorem inlX0 : ∀ w ∈ wsX00, w ∈ wsL_law := fun _ h => List.mem_append_left _ (List.mem_append_left _ (List.mem_append_left _ (List.mem_append_right _ h)))
theorem inX0 : ∀ w ∈ wsX00, w ∈ lw_tbl := fun w h => wsL_law_in w (inlX0 w h)
theorem inX1 : ∀ w ∈ wsX10, w ∈ lw_tbl := by decide +kernel
theorem inlX2 : ∀ w ∈ wsX20, w ∈ wsL_law := fun _ h => List.mem_append_left _ (List.mem_append_left _ (List.mem_append_left _ (List.mem_append_left _ (List.mem_append_right _ h))))
theorem inX2 : ∀ w ∈ wsX20, w ∈ lw_tbl := fun w h => wsL_law_in w (inlX2 w h)
theorem inlX3 : ∀ w ∈ wsX30, w ∈ wsL_law := fun _ h => List.mem_append_left _ (List.mem_append_left _ (List.mem_append_right _ h))
theorem inX3 : ∀ w ∈ wsX30, w ∈ lw_tbl := fun w h => wsL_law_in w (inlX3 w h)
theorem inlX4 : ∀ w ∈ wsX40, w ∈ wsL_law := fun _ h => List.mem_append_left _ (List.mem_append_right _ h)
theorem inX4 : ∀ w ∈ wsX40, w ∈ lw_tbl := fun w h => wsL_law_in w (inlX4 w h)
theorem inlX5 : ∀ w ∈ wsX50, w ∈ wsL_law := fun _ h => List.mem_append_left _ (List.mem_append_left _ (List.mem_append_left _ (List.mem_append_left _ (List.mem_append_left _ (List.mem_append_right _ h)))))
theorem inX5 : ∀ w ∈ wsX50, w ∈ lw_tbl := fun w h => wsL_law_in w (inlX5 w h)
theorem inlX6 : ∀ w ∈ wsX60, w ∈ wsL_law := fun _ h => List.mem_append_left _ (List.mem_append_left _ (List.mem_append_left _ (List.mem_append_left _ (List.mem_append_left _ (List.mem_append_left _ (List.mem_append_right _ h))))))
theorem inX6 : ∀ w ∈ wsX60, w ∈ lw_tbl := fun w h => wsL_law_in w (inlX6 w h)
theorem inlX7 : ∀ w ∈ wsX70, w ∈ wsL_law := fun _ h => List.mem_append_left _ (List.mem_append_left _ (List.mem_append_left _ (List.mem_append_left _ (List.mem_append_left _ (List.mem_append_left _ (List.mem_append_left _ (List.mem_append_left _ (List.mem_append_right _ h))))))))
theorem inX7 : ∀ w ∈ wsX70, w ∈ lw_tbl := fun w h => wsL_law_in w (inlX7 w h)
theorem inlX8 : ∀ w ∈ wsX80, w ∈ wsL_law := fun _ h => List.mem_append_left _ (List.mem_append_left _ (List.mem_append_left _ (List.mem_append_left _ (List.mem_append_left _ (List.mem_append_left _ (List.mem_append_left _ (List.mem_append_right _ h)))))))
theorem inX8 : ∀ w ∈ wsX80, w ∈ lw_tbl := fun w h => wsL_law_in w (inlX8 w h)
theorem inJ6 : ∀ w ∈ wsJ60, w ∈ lw_tbl := by decide +kernel
theorem inJ9 : ∀ w ∈ wsJ90, w ∈ lw_tbl := by decide +kernel
theorem inJ0 : ∀ w ∈ wsJ00, w ∈ lw_tbl := by decide +kernel
theorem inJ1 : ∀ w ∈ wsJ10, w ∈ lw_tbl := by decide +kernel
theorem inJ2 : ∀ w ∈ wsJ20, w ∈ lw_tbl := by decide +kernel
theorem inJ10 : ∀ w ∈ wsJ100, w ∈ lw_tbl := by decide +kernel
theorem inJ3 : ∀ w ∈ wsJ30, w ∈ lw_tbl := by decide +kernel
