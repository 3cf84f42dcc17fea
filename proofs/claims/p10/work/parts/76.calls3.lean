set_option maxRecDepth 20000 in
theorem hm_wsX7_sly_r3 : ∀ w ∈ wsX7_sly_r3, w ∈ lw_tbl := (hs_inr _ [576, 657] rfl)

set_option maxRecDepth 20000 in
theorem hm_wsX7_sly : ∀ w ∈ wsX7_sly, w ∈ lw_tbl := List.forall_mem_cons.mpr ⟨List.mem_of_getElem? (i := 648) rfl, (List.forall_mem_append.mpr ⟨(List.forall_mem_append.mpr ⟨(List.forall_mem_append.mpr ⟨hm_wsX7_sly_r1, (List.forall_mem_append.mpr ⟨hm_wsX7_sly_r2, hm_wsX7_sly_r3⟩)⟩), inX7⟩), inX6⟩)⟩

set_option maxRecDepth 20000 in
theorem hgL_law_X7_sly : GoodIn lw_tbl (wsV RL 101 RX7 yX7_sly wsX7_sly) := goodIn_sub (List.forall_mem_append.mpr ⟨(hs_inr _ [645, 646, 647, 54] rfl), hm_wsX7_sly⟩) (by decide +kernel)

set_option maxRecDepth 20000 in
theorem hm_wsX8_sly_r1 : ∀ w ∈ wsX8_sly_r1, w ∈ lw_tbl := (hs_inr _ [854, 1065, 1067, 38, 61, 1068, 856, 955, 956, 957, 1162, 1163, 1164, 1045, 1047, 35, 1048, 853, 1140, 1142, 45, 1143, 1181, 1183] rfl)

set_option maxRecDepth 20000 in
theorem hm_wsX8_sly_r2 : ∀ w ∈ wsX8_sly_r2, w ∈ lw_tbl := (hs_inr _ [48, 1184, 1133, 1134, 1135, 1136, 1138, 44, 1139, 1113, 1115, 40, 1116, 1117, 1119, 41, 1120] rfl)

set_option maxRecDepth 20000 in
theorem hm_wsX8_sly : ∀ w ∈ wsX8_sly, w ∈ lw_tbl := List.forall_mem_cons.mpr ⟨List.mem_of_getElem? (i := 1188) rfl, (List.forall_mem_append.mpr ⟨(List.forall_mem_append.mpr ⟨hm_wsX8_sly_r1, hm_wsX8_sly_r2⟩), inX8⟩)⟩

set_option maxRecDepth 20000 in
theorem hgL_law_X8_sly : GoodIn lw_tbl (wsV RL 104 RX8 yX8_sly wsX8_sly) := goodIn_sub (List.forall_mem_append.mpr ⟨(hs_inr _ [1185, 1186, 1187, 61] rfl), hm_wsX8_sly⟩) (by decide +kernel)

set_option maxRecDepth 20000 in
theorem hm_wsX7_halves_r1 : ∀ w ∈ wsX7_halves_r1, w ∈ lw_tbl := (hs_inr _ [268, 662, 663, 664, 55, 665, 108, 303, 304, 54, 305, 666, 667, 69, 668, 644, 570, 571, 572, 104, 669, 670, 671, 105] rfl)

set_option maxRecDepth 20000 in
theorem hm_wsX7_halves_r2 : ∀ w ∈ wsX7_halves_r2, w ∈ lw_tbl := (hs_inr _ [672, 618, 68, 619, 620, 621, 622, 673, 674, 675, 111, 632, 602, 67, 603, 115, 631, 598, 599, 600, 577, 578, 579, 580] rfl)

set_option maxRecDepth 20000 in
theorem hm_wsX7_halves_r3 : ∀ w ∈ wsX7_halves_r3, w ∈ lw_tbl := (hs_inr _ [88, 91, 676] rfl)

set_option maxRecDepth 20000 in
theorem hm_wsX7_halves : ∀ w ∈ wsX7_halves, w ∈ lw_tbl := List.forall_mem_cons.mpr ⟨List.mem_of_getElem? (i := 661) rfl, (List.forall_mem_append.mpr ⟨(List.forall_mem_append.mpr ⟨(List.forall_mem_append.mpr ⟨hm_wsX7_halves_r1, (List.forall_mem_append.mpr ⟨hm_wsX7_halves_r2, hm_wsX7_halves_r3⟩)⟩), inX7⟩), inX6⟩)⟩

set_option maxRecDepth 20000 in
theorem hgL_law_X7_halves : GoodIn lw_tbl (wsV RL 105 RX7 yX7_halves wsX7_halves) := goodIn_sub (List.forall_mem_append.mpr ⟨(hs_inr _ [658, 659, 660, 54] rfl), hm_wsX7_halves⟩) (by decide +kernel)

set_option maxRecDepth 20000 in
theorem hm_wsX8_halves_r1 : ∀ w ∈ wsX8_halves_r1, w ∈ lw_tbl := (hs_inr _ [856, 1176, 854, 955, 956, 61, 957, 1162, 1163, 1164, 1045, 1047, 35, 1048, 853, 1140, 1142, 45, 1143, 1193, 1195, 49, 1196, 1155] rfl)

set_option maxRecDepth 20000 in
theorem hm_wsX8_halves_r2 : ∀ w ∈ wsX8_halves_r2, w ∈ lw_tbl := (hs_inr _ [1156, 1157, 1136, 1138, 44, 1139, 1113, 1115, 40, 1116, 1117, 1119, 41, 1120, 1144, 1145, 1146] rfl)

set_option maxRecDepth 20000 in
theorem hm_wsX8_halves : ∀ w ∈ wsX8_halves, w ∈ lw_tbl := List.forall_mem_cons.mpr ⟨List.mem_of_getElem? (i := 1192) rfl, (List.forall_mem_append.mpr ⟨(List.forall_mem_append.mpr ⟨hm_wsX8_halves_r1, hm_wsX8_halves_r2⟩), inX8⟩)⟩

set_option maxRecDepth 20000 in
theorem hgL_law_X8_halves : GoodIn lw_tbl (wsV RL 108 RX8 yX8_halves wsX8_halves) := goodIn_sub (List.forall_mem_append.mpr ⟨(hs_inr _ [1189, 1190, 1191, 61] rfl), hm_wsX8_halves⟩) (by decide +kernel)

set_option maxRecDepth 20000 in
theorem hm_wsX7_stop : ∀ w ∈ wsX7_stop, w ∈ lw_tbl := List.forall_mem_cons.mpr ⟨List.mem_of_getElem? (i := 680) rfl, (List.forall_mem_append.mpr ⟨(List.forall_mem_append.mpr ⟨(hs_inr _ [268, 118, 303, 304, 54, 305, 552, 527, 528] rfl), inX7⟩), inX6⟩)⟩

set_option maxRecDepth 20000 in
theorem hgL_law_X7_stop : GoodIn lw_tbl (wsV RL 109 RX7 yX7_stop wsX7_stop) := goodIn_sub (List.forall_mem_append.mpr ⟨(hs_inr _ [677, 678, 679, 54] rfl), hm_wsX7_stop⟩) (by decide +kernel)

set_option maxRecDepth 20000 in
theorem hm_wsX8_stop : ∀ w ∈ wsX8_stop, w ∈ lw_tbl := List.forall_mem_cons.mpr ⟨List.mem_of_getElem? (i := 1200) rfl, (List.forall_mem_append.mpr ⟨(hs_inr _ [1100, 853, 955, 956, 61, 957, 1162, 1163, 1164] rfl), inX8⟩)⟩

set_option maxRecDepth 20000 in
theorem hgL_law_X8_stop : GoodIn lw_tbl (wsV RL 112 RX8 yX8_stop wsX8_stop) := goodIn_sub (List.forall_mem_append.mpr ⟨(hs_inr _ [1197, 1198, 1199, 61] rfl), hm_wsX8_stop⟩) (by decide +kernel)

set_option maxRecDepth 20000 in
theorem hm_wsX7_orders_r1 : ∀ w ∈ wsX7_orders_r1, w ∈ lw_tbl := (hs_inr _ [273, 268, 124, 558, 458, 459, 58, 460, 121, 231, 229, 125, 98, 94, 685, 462, 463, 464, 230, 465, 467, 12, 468, 686] rfl)

set_option maxRecDepth 20000 in
theorem hm_wsX7_orders_r2 : ∀ w ∈ wsX7_orders_r2, w ∈ lw_tbl := (hs_inr _ [687, 688, 689, 690, 691, 692, 693, 303, 304, 54, 305, 694, 695, 696, 697, 698, 700, 14, 701] rfl)

set_option maxRecDepth 20000 in
theorem hm_wsX7_orders : ∀ w ∈ wsX7_orders, w ∈ lw_tbl := List.forall_mem_cons.mpr ⟨List.mem_of_getElem? (i := 684) rfl, (List.forall_mem_append.mpr ⟨(List.forall_mem_append.mpr ⟨(List.forall_mem_append.mpr ⟨(List.forall_mem_append.mpr ⟨hm_wsX7_orders_r1, hm_wsX7_orders_r2⟩), inX7⟩), inX6⟩), inX2⟩)⟩

set_option maxRecDepth 20000 in
theorem hgL_law_X7_orders : GoodIn lw_tbl (wsV RL 113 RX7 yX7_orders wsX7_orders) := goodIn_sub (List.forall_mem_append.mpr ⟨(hs_inr _ [681, 682, 683, 54] rfl), hm_wsX7_orders⟩) (by decide +kernel)

set_option maxRecDepth 20000 in
theorem hm_wsX8_orders_r1 : ∀ w ∈ wsX8_orders_r1, w ∈ lw_tbl := (hs_inr _ [1099, 857, 873, 872, 874, 875, 871, 955, 956, 61, 957, 1045, 1047, 35, 1048, 854, 853, 1018, 1020, 31, 1021, 876, 1022, 1023] rfl)

set_option maxRecDepth 20000 in
theorem hm_wsX8_orders_r2 : ∀ w ∈ wsX8_orders_r2, w ∈ lw_tbl := (hs_inr _ [1024, 1025, 1027, 32, 1028, 1029, 1031, 33, 1032, 1033, 1035, 34, 1036] rfl)

set_option maxRecDepth 20000 in
theorem hm_wsX8_orders : ∀ w ∈ wsX8_orders, w ∈ lw_tbl := List.forall_mem_cons.mpr ⟨List.mem_of_getElem? (i := 1204) rfl, (List.forall_mem_append.mpr ⟨(List.forall_mem_append.mpr ⟨hm_wsX8_orders_r1, hm_wsX8_orders_r2⟩), inX8⟩)⟩

set_option maxRecDepth 20000 in
theorem hgL_law_X8_orders : GoodIn lw_tbl (wsV RL 116 RX8 yX8_orders wsX8_orders) := goodIn_sub (List.forall_mem_append.mpr ⟨(hs_inr _ [1201, 1202, 1203, 61] rfl), hm_wsX8_orders⟩) (by decide +kernel)

set_option maxRecDepth 20000 in
theorem hm_wsX7_next_r1 : ∀ w ∈ wsX7_next_r1, w ∈ lw_tbl := (hs_inr _ [273, 268, 124, 706, 707, 67, 708, 303, 304, 54, 305, 558, 458, 459, 58, 460, 121, 231, 229, 125, 98, 94, 685, 462] rfl)

set_option maxRecDepth 20000 in
theorem hm_wsX7_next_r2 : ∀ w ∈ wsX7_next_r2, w ∈ lw_tbl := (hs_inr _ [463, 464, 230, 465, 467, 12, 468, 559, 560, 561, 562, 563] rfl)

set_option maxRecDepth 20000 in
theorem hm_wsX7_next : ∀ w ∈ wsX7_next, w ∈ lw_tbl := List.forall_mem_cons.mpr ⟨List.mem_of_getElem? (i := 705) rfl, (List.forall_mem_append.mpr ⟨(List.forall_mem_append.mpr ⟨(List.forall_mem_append.mpr ⟨(List.forall_mem_append.mpr ⟨hm_wsX7_next_r1, hm_wsX7_next_r2⟩), inX7⟩), inX6⟩), inX2⟩)⟩

set_option maxRecDepth 20000 in
theorem hgL_law_X7_next : GoodIn lw_tbl (wsV RL 117 RX7 yX7_next wsX7_next) := goodIn_sub (List.forall_mem_append.mpr ⟨(hs_inr _ [702, 703, 704, 54] rfl), hm_wsX7_next⟩) (by decide +kernel)

set_option maxRecDepth 20000 in
theorem hm_wsX8_next_r1 : ∀ w ∈ wsX8_next_r1, w ∈ lw_tbl := (hs_inr _ [857, 872, 876, 1162, 1163, 61, 1164, 955, 956, 957, 1045, 1047, 35, 1048, 854, 853, 1018, 1020, 31, 1021, 873, 874, 875, 871] rfl)

set_option maxRecDepth 20000 in
theorem hm_wsX8_next_r2 : ∀ w ∈ wsX8_next_r2, w ∈ lw_tbl := (hs_inr _ [1022, 1023, 1024, 1025, 1027, 32, 1028, 1029, 1031, 33, 1032, 1033, 1035, 34, 1036] rfl)

set_option maxRecDepth 20000 in
theorem hm_wsX8_next : ∀ w ∈ wsX8_next, w ∈ lw_tbl := List.forall_mem_cons.mpr ⟨List.mem_of_getElem? (i := 1208) rfl, (List.forall_mem_append.mpr ⟨(List.forall_mem_append.mpr ⟨hm_wsX8_next_r1, hm_wsX8_next_r2⟩), inX8⟩)⟩

set_option maxRecDepth 20000 in
theorem hgL_law_X8_next : GoodIn lw_tbl (wsV RL 120 RX8 yX8_next wsX8_next) := goodIn_sub (List.forall_mem_append.mpr ⟨(hs_inr _ [1205, 1206, 1207, 61] rfl), hm_wsX8_next⟩) (by decide +kernel)

set_option maxRecDepth 20000 in
theorem hm_wsX7_luck_r1 : ∀ w ∈ wsX7_luck_r1, w ∈ lw_tbl := (hs_inr _ [717, 274, 268, 110, 713, 715, 15, 54, 716, 303, 304, 305, 585, 586, 587, 55, 588, 104, 608, 609, 610, 611, 108, 612] rfl)

set_option maxRecDepth 20000 in
theorem hm_wsX7_luck_r2 : ∀ w ∈ wsX7_luck_r2, w ∈ lw_tbl := (hs_inr _ [590, 591, 592, 601, 602, 67, 603, 112, 593, 594, 595, 596, 597, 598, 599, 600, 577, 578, 579, 580, 88, 91, 718, 719] rfl)

set_option maxRecDepth 20000 in
theorem hm_wsX7_luck_r3 : ∀ w ∈ wsX7_luck_r3, w ∈ lw_tbl := (hs_inr _ [720, 59, 721, 245, 725, 722, 723, 724, 726, 727, 728, 729] rfl)

set_option maxRecDepth 20000 in
theorem hm_wsX7_luck : ∀ w ∈ wsX7_luck, w ∈ lw_tbl := List.forall_mem_cons.mpr ⟨List.mem_of_getElem? (i := 712) rfl, (List.forall_mem_append.mpr ⟨(List.forall_mem_append.mpr ⟨(List.forall_mem_append.mpr ⟨(List.forall_mem_append.mpr ⟨hm_wsX7_luck_r1, (List.forall_mem_append.mpr ⟨hm_wsX7_luck_r2, hm_wsX7_luck_r3⟩)⟩), inX7⟩), inX6⟩), inX0⟩)⟩

set_option maxRecDepth 20000 in
theorem hgL_law_X7_luck : GoodIn lw_tbl (wsV RL 121 RX7 yX7_luck wsX7_luck) := goodIn_sub (List.forall_mem_append.mpr ⟨(hs_inr _ [709, 710, 711, 54] rfl), hm_wsX7_luck⟩) (by decide +kernel)

set_option maxRecDepth 20000 in
theorem hm_wsX8_luck_r1 : ∀ w ∈ wsX8_luck_r1, w ∈ lw_tbl := (hs_inr _ [1213, 1214, 877, 879, 955, 956, 61, 957, 1125, 1127, 42, 1128, 853, 1162, 1163, 1164, 1215, 1217, 50, 1218, 878, 856, 1045, 1047] rfl)

set_option maxRecDepth 20000 in
theorem hm_wsX8_luck_r2 : ∀ w ∈ wsX8_luck_r2, w ∈ lw_tbl := (hs_inr _ [35, 1048, 854, 1151, 1153, 46, 1154, 1129, 1131, 43, 1132, 1133, 1134, 1135, 1136, 1138, 44, 1139, 1113, 1115, 40, 1116, 1117, 1119] rfl)

set_option maxRecDepth 20000 in
theorem hm_wsX8_luck_r3 : ∀ w ∈ wsX8_luck_r3, w ∈ lw_tbl := (hs_inr _ [41, 1120, 1140, 1142, 45, 1143, 1144, 1145, 1146, 1155, 1156, 1157, 1022, 1023, 1024, 1165, 1166, 1167, 1219, 1220, 1221, 1222, 1223, 1224] rfl)

set_option maxRecDepth 20000 in
theorem hm_wsX8_luck : ∀ w ∈ wsX8_luck, w ∈ lw_tbl := List.forall_mem_cons.mpr ⟨List.mem_of_getElem? (i := 1212) rfl, (List.forall_mem_append.mpr ⟨(List.forall_mem_append.mpr ⟨hm_wsX8_luck_r1, (List.forall_mem_append.mpr ⟨hm_wsX8_luck_r2, hm_wsX8_luck_r3⟩)⟩), inX8⟩)⟩

set_option maxRecDepth 20000 in
theorem hgL_law_X8_luck : GoodIn lw_tbl (wsV RL 125 RX8 yX8_luck wsX8_luck) := goodIn_sub (List.forall_mem_append.mpr ⟨(hs_inr _ [1209, 1210, 1211, 61] rfl), hm_wsX8_luck⟩) (by decide +kernel)

set_option maxRecDepth 20000 in
theorem hm_wsX7_mean_r1 : ∀ w ∈ wsX7_mean_r1, w ∈ lw_tbl := (hs_inr _ [717, 268, 110, 713, 715, 15, 54, 716, 303, 304, 305, 585, 586, 587, 55, 588, 104, 608, 609, 610, 611, 108, 612, 590] rfl)

set_option maxRecDepth 20000 in
theorem hm_wsX7_mean_r2 : ∀ w ∈ wsX7_mean_r2, w ∈ lw_tbl := (hs_inr _ [591, 592, 601, 602, 67, 603, 112, 593, 594, 595, 596, 597, 598, 599, 600, 577, 578, 579, 580, 88, 91, 734, 735, 59] rfl)

set_option maxRecDepth 20000 in
theorem hm_wsX7_mean_r3 : ∀ w ∈ wsX7_mean_r3, w ∈ lw_tbl := (hs_inr _ [736, 725, 722, 723, 724, 726, 727, 728, 729] rfl)

set_option maxRecDepth 20000 in
theorem hm_wsX7_mean : ∀ w ∈ wsX7_mean, w ∈ lw_tbl := List.forall_mem_cons.mpr ⟨List.mem_of_getElem? (i := 733) rfl, (List.forall_mem_append.mpr ⟨(List.forall_mem_append.mpr ⟨(List.forall_mem_append.mpr ⟨hm_wsX7_mean_r1, (List.forall_mem_append.mpr ⟨hm_wsX7_mean_r2, hm_wsX7_mean_r3⟩)⟩), inX7⟩), inX6⟩)⟩

set_option maxRecDepth 20000 in
theorem hgL_law_X7_mean : GoodIn lw_tbl (wsV RL 126 RX7 yX7_mean wsX7_mean) := goodIn_sub (List.forall_mem_append.mpr ⟨(hs_inr _ [730, 731, 732, 54] rfl), hm_wsX7_mean⟩) (by decide +kernel)

set_option maxRecDepth 20000 in
theorem hm_wsX8_mean_r1 : ∀ w ∈ wsX8_mean_r1, w ∈ lw_tbl := (hs_inr _ [1213, 1214, 878, 879, 955, 956, 61, 957, 1125, 1127, 42, 1128, 853, 1162, 1163, 1164, 1215, 1217, 50, 1218, 877, 856, 1045, 1047] rfl)

set_option maxRecDepth 20000 in
theorem hm_wsX8_mean_r2 : ∀ w ∈ wsX8_mean_r2, w ∈ lw_tbl := (hs_inr _ [35, 1048, 854, 1151, 1153, 46, 1154, 1129, 1131, 43, 1132, 1133, 1134, 1135, 1136, 1138, 44, 1139, 1113, 1115, 40, 1116, 1117, 1119] rfl)

set_option maxRecDepth 20000 in
theorem hm_wsX8_mean_r3 : ∀ w ∈ wsX8_mean_r3, w ∈ lw_tbl := (hs_inr _ [41, 1120, 1140, 1142, 45, 1143, 1144, 1145, 1146, 1155, 1156, 1157, 1022, 1023, 1024, 1165, 1166, 1167, 1219, 1220, 1221, 1222, 1223, 1224] rfl)

set_option maxRecDepth 20000 in
theorem hm_wsX8_mean : ∀ w ∈ wsX8_mean, w ∈ lw_tbl := List.forall_mem_cons.mpr ⟨List.mem_of_getElem? (i := 1228) rfl, (List.forall_mem_append.mpr ⟨(List.forall_mem_append.mpr ⟨hm_wsX8_mean_r1, (List.forall_mem_append.mpr ⟨hm_wsX8_mean_r2, hm_wsX8_mean_r3⟩)⟩), inX8⟩)⟩

set_option maxRecDepth 20000 in
theorem hgL_law_X8_mean : GoodIn lw_tbl (wsV RL 129 RX8 yX8_mean wsX8_mean) := goodIn_sub (List.forall_mem_append.mpr ⟨(hs_inr _ [1225, 1226, 1227, 61] rfl), hm_wsX8_mean⟩) (by decide +kernel)

set_option maxRecDepth 20000 in
theorem hm_wsX7_see_r1 : ∀ w ∈ wsX7_see_r1, w ∈ lw_tbl := (hs_inr _ [268, 130, 501, 502, 503, 55, 504, 108, 304, 54, 305, 585, 586, 587, 588, 104, 303, 741, 742, 743, 744, 101, 129, 102] rfl)

set_option maxRecDepth 20000 in
theorem hm_wsX7_see_r2 : ∀ w ∈ wsX7_see_r2, w ∈ lw_tbl := (hs_inr _ [103] rfl)

set_option maxRecDepth 20000 in
theorem hm_wsX7_see : ∀ w ∈ wsX7_see, w ∈ lw_tbl := List.forall_mem_cons.mpr ⟨List.mem_of_getElem? (i := 740) rfl, (List.forall_mem_append.mpr ⟨(List.forall_mem_append.mpr ⟨(List.forall_mem_append.mpr ⟨hm_wsX7_see_r1, hm_wsX7_see_r2⟩), inX7⟩), inX6⟩)⟩

set_option maxRecDepth 20000 in
theorem hgL_law_X7_see : GoodIn lw_tbl (wsV RL 130 RX7 yX7_see wsX7_see) := goodIn_sub (List.forall_mem_append.mpr ⟨(hs_inr _ [737, 738, 739, 54] rfl), hm_wsX7_see⟩) (by decide +kernel)

set_option maxRecDepth 20000 in
theorem hm_wsX8_see : ∀ w ∈ wsX8_see, w ∈ lw_tbl := List.forall_mem_cons.mpr ⟨List.mem_of_getElem? (i := 1232) rfl, (List.forall_mem_append.mpr ⟨(hs_inr _ [1099, 853, 1065, 1067, 38, 61, 1068, 856, 955, 956, 957, 1125, 1127, 42, 1128] rfl), inX8⟩)⟩

set_option maxRecDepth 20000 in
theorem hgL_law_X8_see : GoodIn lw_tbl (wsV RL 133 RX8 yX8_see wsX8_see) := goodIn_sub (List.forall_mem_append.mpr ⟨(hs_inr _ [1229, 1230, 1231, 61] rfl), hm_wsX8_see⟩) (by decide +kernel)

set_option maxRecDepth 20000 in
theorem hm_wsX7_forget : ∀ w ∈ wsX7_forget, w ∈ lw_tbl := List.forall_mem_cons.mpr ⟨List.mem_of_getElem? (i := 748) rfl, (List.forall_mem_append.mpr ⟨(List.forall_mem_append.mpr ⟨(hs_inr _ [268, 130, 303, 304, 54, 305] rfl), inX7⟩), inX6⟩)⟩

set_option maxRecDepth 20000 in
theorem hgL_law_X7_forget : GoodIn lw_tbl (wsV RL 134 RX7 yX7_forget wsX7_forget) := goodIn_sub (List.forall_mem_append.mpr ⟨(hs_inr _ [745, 746, 747, 54] rfl), hm_wsX7_forget⟩) (by decide +kernel)

set_option maxRecDepth 20000 in
theorem hm_wsX8_forget : ∀ w ∈ wsX8_forget, w ∈ lw_tbl := List.forall_mem_cons.mpr ⟨List.mem_of_getElem? (i := 1236) rfl, (List.forall_mem_append.mpr ⟨(hs_inr _ [853, 955, 956, 61, 957, 1078, 1080, 39, 1081] rfl), inX8⟩)⟩

set_option maxRecDepth 20000 in
theorem hgL_law_X8_forget : GoodIn lw_tbl (wsV RL 137 RX8 yX8_forget wsX8_forget) := goodIn_sub (List.forall_mem_append.mpr ⟨(hs_inr _ [1233, 1234, 1235, 61] rfl), hm_wsX8_forget⟩) (by decide +kernel)

set_option maxRecDepth 20000 in
theorem hm_wsX7_fits_r1 : ∀ w ∈ wsX7_fits_r1, w ∈ lw_tbl := (hs_inr _ [268, 269, 89, 493, 494, 495, 55, 496, 104, 304, 54, 305, 469, 470, 471, 472, 88, 473, 475, 474, 66, 91, 93, 97] rfl)

set_option maxRecDepth 20000 in
theorem hm_wsX7_fits_r2 : ∀ w ∈ wsX7_fits_r2, w ∈ lw_tbl := (hs_inr _ [101, 102, 103, 108, 112, 116, 119, 122, 126, 129, 753, 754, 755, 756, 757, 586, 587, 588, 612, 590, 591, 592, 601, 602] rfl)

set_option maxRecDepth 20000 in
theorem hm_wsX7_fits_r3 : ∀ w ∈ wsX7_fits_r3, w ∈ lw_tbl := (hs_inr _ [67, 603, 593, 594, 595, 596, 597, 598, 599, 600, 577, 578, 579, 580] rfl)

set_option maxRecDepth 20000 in
theorem hm_wsX7_fits : ∀ w ∈ wsX7_fits, w ∈ lw_tbl := List.forall_mem_cons.mpr ⟨List.mem_of_getElem? (i := 752) rfl, (List.forall_mem_append.mpr ⟨(List.forall_mem_append.mpr ⟨(List.forall_mem_append.mpr ⟨hm_wsX7_fits_r1, (List.forall_mem_append.mpr ⟨hm_wsX7_fits_r2, hm_wsX7_fits_r3⟩)⟩), inX7⟩), inX6⟩)⟩
