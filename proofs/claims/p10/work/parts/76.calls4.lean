set_option maxRecDepth 20000 in
theorem hgL_law_X7_fits : GoodIn lw_tbl (wsV RL 138 RX7 yX7_fits wsX7_fits) := goodIn_sub (List.forall_mem_append.mpr ⟨(hs_inr _ [749, 750, 751, 54] rfl), hm_wsX7_fits⟩) (by decide +kernel)

set_option maxRecDepth 20000 in
theorem hm_wsX8_fits_r1 : ∀ w ∈ wsX8_fits_r1, w ∈ lw_tbl := (hs_inr _ [854, 1057, 1059, 37, 61, 1060, 853, 955, 956, 957, 1045, 1047, 35, 1048, 1241, 1243, 51, 1244, 1129, 1131, 43, 1132, 1133, 1134] rfl)

set_option maxRecDepth 20000 in
theorem hm_wsX8_fits_r2 : ∀ w ∈ wsX8_fits_r2, w ∈ lw_tbl := (hs_inr _ [1135, 1136, 1138, 44, 1139, 1113, 1115, 40, 1116, 1117, 1119, 41, 1120, 1140, 1142, 45, 1143, 1144, 1145, 1146, 1155, 1156, 1157] rfl)

set_option maxRecDepth 20000 in
theorem hm_wsX8_fits : ∀ w ∈ wsX8_fits, w ∈ lw_tbl := List.forall_mem_cons.mpr ⟨List.mem_of_getElem? (i := 1240) rfl, (List.forall_mem_append.mpr ⟨(List.forall_mem_append.mpr ⟨hm_wsX8_fits_r1, hm_wsX8_fits_r2⟩), inX8⟩)⟩

set_option maxRecDepth 20000 in
theorem hgL_law_X8_fits : GoodIn lw_tbl (wsV RL 141 RX8 yX8_fits wsX8_fits) := goodIn_sub (List.forall_mem_append.mpr ⟨(hs_inr _ [1237, 1238, 1239, 61] rfl), hm_wsX8_fits⟩) (by decide +kernel)

set_option maxRecDepth 20000 in
theorem hm_wsX7_kinds_r1 : ∀ w ∈ wsX7_kinds_r1, w ∈ lw_tbl := (hs_inr _ [268, 269, 92, 501, 502, 503, 55, 504, 108, 304, 54, 305, 469, 470, 471, 472, 88, 473, 475, 474, 66, 91, 93, 97] rfl)

set_option maxRecDepth 20000 in
theorem hm_wsX7_kinds_r2 : ∀ w ∈ wsX7_kinds_r2, w ∈ lw_tbl := (hs_inr _ [101, 102, 103, 104, 112, 116, 119, 122, 126, 129, 753, 754, 755, 756, 757, 586, 587, 588, 612, 590, 591, 592, 601, 602] rfl)

set_option maxRecDepth 20000 in
theorem hm_wsX7_kinds_r3 : ∀ w ∈ wsX7_kinds_r3, w ∈ lw_tbl := (hs_inr _ [67, 603, 593, 594, 595, 596, 597, 598, 599, 600, 577, 578, 579, 580] rfl)

set_option maxRecDepth 20000 in
theorem hm_wsX7_kinds : ∀ w ∈ wsX7_kinds, w ∈ lw_tbl := List.forall_mem_cons.mpr ⟨List.mem_of_getElem? (i := 761) rfl, (List.forall_mem_append.mpr ⟨(List.forall_mem_append.mpr ⟨(List.forall_mem_append.mpr ⟨hm_wsX7_kinds_r1, (List.forall_mem_append.mpr ⟨hm_wsX7_kinds_r2, hm_wsX7_kinds_r3⟩)⟩), inX7⟩), inX6⟩)⟩

set_option maxRecDepth 20000 in
theorem hgL_law_X7_kinds : GoodIn lw_tbl (wsV RL 142 RX7 yX7_kinds wsX7_kinds) := goodIn_sub (List.forall_mem_append.mpr ⟨(hs_inr _ [758, 759, 760, 54] rfl), hm_wsX7_kinds⟩) (by decide +kernel)

set_option maxRecDepth 20000 in
theorem hm_wsX8_kinds_r1 : ∀ w ∈ wsX8_kinds_r1, w ∈ lw_tbl := (hs_inr _ [854, 1065, 1067, 38, 61, 1068, 856, 955, 956, 957, 1045, 1047, 35, 1048, 853, 1241, 1243, 51, 1244, 1129, 1131, 43, 1132, 1133] rfl)

set_option maxRecDepth 20000 in
theorem hm_wsX8_kinds_r2 : ∀ w ∈ wsX8_kinds_r2, w ∈ lw_tbl := (hs_inr _ [1134, 1135, 1136, 1138, 44, 1139, 1113, 1115, 40, 1116, 1117, 1119, 41, 1120, 1140, 1142, 45, 1143, 1144, 1145, 1146, 1155, 1156, 1157] rfl)

set_option maxRecDepth 20000 in
theorem hm_wsX8_kinds : ∀ w ∈ wsX8_kinds, w ∈ lw_tbl := List.forall_mem_cons.mpr ⟨List.mem_of_getElem? (i := 1248) rfl, (List.forall_mem_append.mpr ⟨(List.forall_mem_append.mpr ⟨hm_wsX8_kinds_r1, hm_wsX8_kinds_r2⟩), inX8⟩)⟩

set_option maxRecDepth 20000 in
theorem hgL_law_X8_kinds : GoodIn lw_tbl (wsV RL 145 RX8 yX8_kinds wsX8_kinds) := goodIn_sub (List.forall_mem_append.mpr ⟨(hs_inr _ [1245, 1246, 1247, 61] rfl), hm_wsX8_kinds⟩) (by decide +kernel)

set_option maxRecDepth 20000 in
theorem hm_wsX7_drift_r1 : ∀ w ∈ wsX7_drift_r1, w ∈ lw_tbl := (hs_inr _ [269, 268, 106, 766, 89, 303, 304, 54, 305, 469, 470, 471, 55, 472, 88, 473, 475, 474, 66, 91, 93, 97, 101, 102] rfl)

set_option maxRecDepth 20000 in
theorem hm_wsX7_drift_r2 : ∀ w ∈ wsX7_drift_r2, w ∈ lw_tbl := (hs_inr _ [103, 104, 108, 112, 116, 119, 122, 126, 129, 767, 768, 769, 770, 601, 602, 67, 603, 771, 570, 571, 572, 772, 574, 575] rfl)

set_option maxRecDepth 20000 in
theorem hm_wsX7_drift_r3 : ∀ w ∈ wsX7_drift_r3, w ∈ lw_tbl := (hs_inr _ [576, 577, 578, 579, 580, 485, 486, 487, 488] rfl)

set_option maxRecDepth 20000 in
theorem hm_wsX7_drift : ∀ w ∈ wsX7_drift, w ∈ lw_tbl := List.forall_mem_cons.mpr ⟨List.mem_of_getElem? (i := 765) rfl, (List.forall_mem_append.mpr ⟨(List.forall_mem_append.mpr ⟨(List.forall_mem_append.mpr ⟨hm_wsX7_drift_r1, (List.forall_mem_append.mpr ⟨hm_wsX7_drift_r2, hm_wsX7_drift_r3⟩)⟩), inX7⟩), inX6⟩)⟩

set_option maxRecDepth 20000 in
theorem hgL_law_X7_drift : GoodIn lw_tbl (wsV RL 146 RX7 yX7_drift wsX7_drift) := goodIn_sub (List.forall_mem_append.mpr ⟨(hs_inr _ [762, 763, 764, 54] rfl), hm_wsX7_drift⟩) (by decide +kernel)

set_option maxRecDepth 20000 in
theorem hm_wsX8_drift_r1 : ∀ w ∈ wsX8_drift_r1, w ∈ lw_tbl := (hs_inr _ [1253, 1254, 854, 955, 956, 61, 957, 1162, 1163, 1164, 1045, 1047, 35, 1048, 853, 1151, 1153, 46, 1154, 856, 1129, 1131, 43, 1132] rfl)

set_option maxRecDepth 20000 in
theorem hm_wsX8_drift_r2 : ∀ w ∈ wsX8_drift_r2, w ∈ lw_tbl := (hs_inr _ [1133, 1134, 1135, 1136, 1138, 44, 1139, 1113, 1115, 40, 1116, 1117, 1119, 41, 1120, 1140, 1142, 45, 1143, 1144, 1145, 1146, 1155, 1156] rfl)

set_option maxRecDepth 20000 in
theorem hm_wsX8_drift_r3 : ∀ w ∈ wsX8_drift_r3, w ∈ lw_tbl := (hs_inr _ [1157, 1165, 1166, 1167, 1049, 1051, 36, 1052] rfl)

set_option maxRecDepth 20000 in
theorem hm_wsX8_drift : ∀ w ∈ wsX8_drift, w ∈ lw_tbl := List.forall_mem_cons.mpr ⟨List.mem_of_getElem? (i := 1252) rfl, (List.forall_mem_append.mpr ⟨(List.forall_mem_append.mpr ⟨hm_wsX8_drift_r1, (List.forall_mem_append.mpr ⟨hm_wsX8_drift_r2, hm_wsX8_drift_r3⟩)⟩), inX8⟩)⟩

set_option maxRecDepth 20000 in
theorem hgL_law_X8_drift : GoodIn lw_tbl (wsV RL 149 RX8 yX8_drift wsX8_drift) := goodIn_sub (List.forall_mem_append.mpr ⟨(hs_inr _ [1249, 1250, 1251, 61] rfl), hm_wsX8_drift⟩) (by decide +kernel)

set_option maxRecDepth 20000 in
theorem hm_wsX7_keep_r1 : ∀ w ∈ wsX7_keep_r1, w ∈ lw_tbl := (hs_inr _ [271, 270, 268, 303, 304, 54, 305, 469, 470, 471, 55, 472, 88, 473, 475, 474, 66, 91, 93, 97, 101, 102, 103, 104] rfl)

set_option maxRecDepth 20000 in
theorem hm_wsX7_keep_r2 : ∀ w ∈ wsX7_keep_r2, w ∈ lw_tbl := (hs_inr _ [108, 112, 116, 119, 122, 126, 129] rfl)

set_option maxRecDepth 20000 in
theorem hm_wsX7_keep : ∀ w ∈ wsX7_keep, w ∈ lw_tbl := List.forall_mem_cons.mpr ⟨List.mem_of_getElem? (i := 776) rfl, (List.forall_mem_append.mpr ⟨(List.forall_mem_append.mpr ⟨(List.forall_mem_append.mpr ⟨hm_wsX7_keep_r1, hm_wsX7_keep_r2⟩), inX7⟩), inX6⟩)⟩

set_option maxRecDepth 20000 in
theorem hgL_law_X7_keep : GoodIn lw_tbl (wsV RL 150 RX7 yX7_keep wsX7_keep) := goodIn_sub (List.forall_mem_append.mpr ⟨(hs_inr _ [773, 774, 775, 54] rfl), hm_wsX7_keep⟩) (by decide +kernel)

set_option maxRecDepth 20000 in
theorem hm_wsX8_keep : ∀ w ∈ wsX8_keep, w ∈ lw_tbl := List.forall_mem_cons.mpr ⟨List.mem_of_getElem? (i := 1258) rfl, (List.forall_mem_append.mpr ⟨(hs_inr _ [855, 955, 956, 61, 957, 1155, 1156, 1157, 1259, 1261, 52, 1262, 853] rfl), inX8⟩)⟩

set_option maxRecDepth 20000 in
theorem hgL_law_X8_keep : GoodIn lw_tbl (wsV RL 153 RX8 yX8_keep wsX8_keep) := goodIn_sub (List.forall_mem_append.mpr ⟨(hs_inr _ [1255, 1256, 1257, 61] rfl), hm_wsX8_keep⟩) (by decide +kernel)

set_option maxRecDepth 20000 in
theorem hm_wsX7_back_r1 : ∀ w ∈ wsX7_back_r1, w ∈ lw_tbl := (hs_inr _ [271, 268, 270, 106, 303, 304, 54, 305, 469, 470, 471, 55, 472, 88, 473, 475, 474, 66, 91, 93, 97, 101, 102, 103] rfl)

set_option maxRecDepth 20000 in
theorem hm_wsX7_back_r2 : ∀ w ∈ wsX7_back_r2, w ∈ lw_tbl := (hs_inr _ [104, 108, 112, 116, 119, 122, 126, 129] rfl)

set_option maxRecDepth 20000 in
theorem hm_wsX7_back : ∀ w ∈ wsX7_back, w ∈ lw_tbl := List.forall_mem_cons.mpr ⟨List.mem_of_getElem? (i := 780) rfl, (List.forall_mem_append.mpr ⟨(List.forall_mem_append.mpr ⟨(List.forall_mem_append.mpr ⟨hm_wsX7_back_r1, hm_wsX7_back_r2⟩), inX7⟩), inX6⟩)⟩

set_option maxRecDepth 20000 in
theorem hgL_law_X7_back : GoodIn lw_tbl (wsV RL 154 RX7 yX7_back wsX7_back) := goodIn_sub (List.forall_mem_append.mpr ⟨(hs_inr _ [777, 778, 779, 54] rfl), hm_wsX7_back⟩) (by decide +kernel)

set_option maxRecDepth 20000 in
theorem hm_wsX8_back : ∀ w ∈ wsX8_back, w ∈ lw_tbl := List.forall_mem_cons.mpr ⟨List.mem_of_getElem? (i := 1266) rfl, (List.forall_mem_append.mpr ⟨(hs_inr _ [855, 853, 955, 956, 61, 957, 1259, 1261, 52, 1262] rfl), inX8⟩)⟩

set_option maxRecDepth 20000 in
theorem hgL_law_X8_back : GoodIn lw_tbl (wsV RL 157 RX8 yX8_back wsX8_back) := goodIn_sub (List.forall_mem_append.mpr ⟨(hs_inr _ [1263, 1264, 1265, 61] rfl), hm_wsX8_back⟩) (by decide +kernel)

set_option maxRecDepth 20000 in
theorem hm_wsX7_sheet : ∀ w ∈ wsX7_sheet, w ∈ lw_tbl := List.forall_mem_cons.mpr ⟨List.mem_of_getElem? (i := 784) rfl, (List.forall_mem_append.mpr ⟨(List.forall_mem_append.mpr ⟨(hs_inr _ [275, 785, 786, 54, 787, 303, 304, 305, 788, 789, 60, 790, 792, 793, 794, 795, 258, 259, 257] rfl), inX7⟩), inX3⟩)⟩

set_option maxRecDepth 20000 in
theorem hgL_law_X7_sheet : GoodIn lw_tbl (wsV RL 158 RX7 yX7_sheet wsX7_sheet) := goodIn_sub (List.forall_mem_append.mpr ⟨(hs_inr _ [781, 782, 783, 54] rfl), hm_wsX7_sheet⟩) (by decide +kernel)

set_option maxRecDepth 20000 in
theorem hm_wsX8_sheet : ∀ w ∈ wsX8_sheet, w ∈ lw_tbl := List.forall_mem_cons.mpr ⟨List.mem_of_getElem? (i := 1270) rfl, (List.forall_mem_append.mpr ⟨(hs_inr _ [880, 881, 882, 1271, 1272, 61, 1273, 1094, 1099, 955, 956, 957] rfl), inX8⟩)⟩

set_option maxRecDepth 20000 in
theorem hgL_law_X8_sheet : GoodIn lw_tbl (wsV RL 161 RX8 yX8_sheet wsX8_sheet) := goodIn_sub (List.forall_mem_append.mpr ⟨(hs_inr _ [1267, 1268, 1269, 61] rfl), hm_wsX8_sheet⟩) (by decide +kernel)

set_option maxRecDepth 20000 in
theorem hm_wsX7_lay : ∀ w ∈ wsX7_lay, w ∈ lw_tbl := List.forall_mem_cons.mpr ⟨List.mem_of_getElem? (i := 799) rfl, (List.forall_mem_append.mpr ⟨(List.forall_mem_append.mpr ⟨(hs_inr _ [275, 785, 786, 54, 787, 303, 304, 305, 800, 801, 802, 60, 803, 259, 804, 805, 806, 807, 258, 808, 809, 810, 811, 257] rfl), inX7⟩), inX3⟩)⟩

set_option maxRecDepth 20000 in
theorem hgL_law_X7_lay : GoodIn lw_tbl (wsV RL 162 RX7 yX7_lay wsX7_lay) := goodIn_sub (List.forall_mem_append.mpr ⟨(hs_inr _ [796, 797, 798, 54] rfl), hm_wsX7_lay⟩) (by decide +kernel)

set_option maxRecDepth 20000 in
theorem hm_wsX8_lay : ∀ w ∈ wsX8_lay, w ∈ lw_tbl := List.forall_mem_cons.mpr ⟨List.mem_of_getElem? (i := 1277) rfl, (List.forall_mem_append.mpr ⟨(hs_inr _ [880, 881, 882, 1271, 1272, 61, 1273, 1094, 1099, 955, 956, 957] rfl), inX8⟩)⟩

set_option maxRecDepth 20000 in
theorem hgL_law_X8_lay : GoodIn lw_tbl (wsV RL 165 RX8 yX8_lay wsX8_lay) := goodIn_sub (List.forall_mem_append.mpr ⟨(hs_inr _ [1274, 1275, 1276, 61] rfl), hm_wsX8_lay⟩) (by decide +kernel)

set_option maxRecDepth 20000 in
theorem hm_wsX7_read_r1 : ∀ w ∈ wsX7_read_r1, w ∈ lw_tbl := (hs_inr _ [275, 268, 277, 785, 786, 54, 787, 303, 304, 305, 788, 789, 60, 790, 816, 817, 818, 819, 258, 804, 805, 806, 807, 820] rfl)

set_option maxRecDepth 20000 in
theorem hm_wsX7_read_r2 : ∀ w ∈ wsX7_read_r2, w ∈ lw_tbl := (hs_inr _ [801, 802, 803, 259, 821, 822, 823, 824, 257, 513, 514, 515, 55, 516, 517, 494, 495, 496, 104, 825, 510, 511, 512, 89] rfl)

set_option maxRecDepth 20000 in
theorem hm_wsX7_read : ∀ w ∈ wsX7_read, w ∈ lw_tbl := List.forall_mem_cons.mpr ⟨List.mem_of_getElem? (i := 815) rfl, (List.forall_mem_append.mpr ⟨(List.forall_mem_append.mpr ⟨(List.forall_mem_append.mpr ⟨(List.forall_mem_append.mpr ⟨hm_wsX7_read_r1, hm_wsX7_read_r2⟩), inX7⟩), inX3⟩), inX6⟩)⟩

set_option maxRecDepth 20000 in
theorem hgL_law_X7_read : GoodIn lw_tbl (wsV RL 166 RX7 yX7_read wsX7_read) := goodIn_sub (List.forall_mem_append.mpr ⟨(hs_inr _ [812, 813, 814, 54] rfl), hm_wsX7_read⟩) (by decide +kernel)

set_option maxRecDepth 20000 in
theorem hm_wsX8_read_r1 : ∀ w ∈ wsX8_read_r1, w ∈ lw_tbl := (hs_inr _ [1282, 884, 853, 880, 881, 882, 883, 1271, 1272, 61, 1273, 1094, 1099, 955, 956, 957, 1283, 1074, 1075, 1076, 1077, 1057, 1059, 37] rfl)

set_option maxRecDepth 20000 in
theorem hm_wsX8_read_r2 : ∀ w ∈ wsX8_read_r2, w ∈ lw_tbl := (hs_inr _ [1060, 1078, 1080, 39, 1081] rfl)

set_option maxRecDepth 20000 in
theorem hm_wsX8_read : ∀ w ∈ wsX8_read, w ∈ lw_tbl := List.forall_mem_cons.mpr ⟨List.mem_of_getElem? (i := 1281) rfl, (List.forall_mem_append.mpr ⟨(List.forall_mem_append.mpr ⟨hm_wsX8_read_r1, hm_wsX8_read_r2⟩), inX8⟩)⟩

set_option maxRecDepth 20000 in
theorem hgL_law_X8_read : GoodIn lw_tbl (wsV RL 170 RX8 yX8_read wsX8_read) := goodIn_sub (List.forall_mem_append.mpr ⟨(hs_inr _ [1278, 1279, 1280, 61] rfl), hm_wsX8_read⟩) (by decide +kernel)

set_option maxRecDepth 20000 in
theorem hm_wsX7_torn : ∀ w ∈ wsX7_torn, w ∈ lw_tbl := List.forall_mem_cons.mpr ⟨List.mem_of_getElem? (i := 829) rfl, (List.forall_mem_append.mpr ⟨(hs_inr _ [277] rfl), inX7⟩)⟩

set_option maxRecDepth 20000 in
theorem hgL_law_X7_torn : GoodIn lw_tbl (wsV RL 171 RX7 yX7_torn wsX7_torn) := goodIn_sub (List.forall_mem_append.mpr ⟨(hs_inr _ [826, 827, 828, 54] rfl), hm_wsX7_torn⟩) (by decide +kernel)

set_option maxRecDepth 20000 in
theorem hm_wsX8_torn : ∀ w ∈ wsX8_torn, w ∈ lw_tbl := List.forall_mem_cons.mpr ⟨List.mem_of_getElem? (i := 1287) rfl, (List.forall_mem_append.mpr ⟨(hs_inr _ [883] rfl), inX8⟩)⟩

set_option maxRecDepth 20000 in
theorem hgL_law_X8_torn : GoodIn lw_tbl (wsV RL 174 RX8 yX8_torn wsX8_torn) := goodIn_sub (List.forall_mem_append.mpr ⟨(hs_inr _ [1284, 1285, 1286, 61] rfl), hm_wsX8_torn⟩) (by decide +kernel)

set_option maxRecDepth 20000 in
theorem hm_wsX7_count : ∀ w ∈ wsX7_count, w ∈ lw_tbl := List.forall_mem_cons.mpr ⟨List.mem_of_getElem? (i := 833) rfl, (List.forall_mem_append.mpr ⟨(List.forall_mem_append.mpr ⟨(List.forall_mem_append.mpr ⟨(List.forall_mem_append.mpr ⟨(List.forall_mem_append.mpr ⟨(hs_inr _ [268, 130, 272, 204, 178, 275, 260, 834, 836, 16, 54, 837, 271, 838, 805, 806, 60, 807, 258] rfl), inX7⟩), inX6⟩), inX5⟩), inX4⟩), inX3⟩)⟩

set_option maxRecDepth 20000 in
theorem hgL_law_X7_count : GoodIn lw_tbl (wsV RL 175 RX7 yX7_count wsX7_count) := goodIn_sub (List.forall_mem_append.mpr ⟨(hs_inr _ [830, 831, 832, 54] rfl), hm_wsX7_count⟩) (by decide +kernel)

set_option maxRecDepth 20000 in
theorem hm_wsX8_count : ∀ w ∈ wsX8_count, w ∈ lw_tbl := List.forall_mem_cons.mpr ⟨List.mem_of_getElem? (i := 1291) rfl, (List.forall_mem_append.mpr ⟨(hs_inr _ [853, 855, 864, 880, 881, 1155, 1156, 61, 1157] rfl), inX8⟩)⟩

set_option maxRecDepth 20000 in
theorem hgL_law_X8_count : GoodIn lw_tbl (wsV RL 178 RX8 yX8_count wsX8_count) := goodIn_sub (List.forall_mem_append.mpr ⟨(hs_inr _ [1288, 1289, 1290, 61] rfl), hm_wsX8_count⟩) (by decide +kernel)
