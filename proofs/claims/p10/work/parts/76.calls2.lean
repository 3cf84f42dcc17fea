set_option maxRecDepth 20000 in
theorem hgL_law_X7_teach : GoodIn lw_tbl (wsV RL 60 RX7 yX7_teach wsX7_teach) := goodIn_sub (List.forall_mem_append.mpr ⟨(hs_inr _ [540, 541, 542, 54] rfl), hm_wsX7_teach⟩) (by decide +kernel)

set_option maxRecDepth 20000 in
theorem hm_wsX8_teach : ∀ w ∈ wsX8_teach, w ∈ lw_tbl := List.forall_mem_cons.mpr ⟨List.mem_of_getElem? (i := 1093) rfl, (List.forall_mem_append.mpr ⟨(hs_inr _ [1094, 1065, 1067, 38, 61, 1068, 856, 955, 956, 957, 1078, 1080, 39, 1081, 853] rfl), inX8⟩)⟩

set_option maxRecDepth 20000 in
theorem hgL_law_X8_teach : GoodIn lw_tbl (wsV RL 63 RX8 yX8_teach wsX8_teach) := goodIn_sub (List.forall_mem_append.mpr ⟨(hs_inr _ [1090, 1091, 1092, 61] rfl), hm_wsX8_teach⟩) (by decide +kernel)

set_option maxRecDepth 20000 in
theorem hm_wsX7_set : ∀ w ∈ wsX7_set, w ∈ lw_tbl := List.forall_mem_cons.mpr ⟨List.mem_of_getElem? (i := 547) rfl, (List.forall_mem_append.mpr ⟨(List.forall_mem_append.mpr ⟨(hs_inr _ [268, 114, 118, 303, 304, 54, 305] rfl), inX7⟩), inX6⟩)⟩

set_option maxRecDepth 20000 in
theorem hgL_law_X7_set : GoodIn lw_tbl (wsV RL 64 RX7 yX7_set wsX7_set) := goodIn_sub (List.forall_mem_append.mpr ⟨(hs_inr _ [544, 545, 546, 54] rfl), hm_wsX7_set⟩) (by decide +kernel)

set_option maxRecDepth 20000 in
theorem hm_wsX8_set : ∀ w ∈ wsX8_set, w ∈ lw_tbl := List.forall_mem_cons.mpr ⟨List.mem_of_getElem? (i := 1098) rfl, (List.forall_mem_append.mpr ⟨(hs_inr _ [1099, 1094, 1077, 1100, 955, 956, 61, 957, 1078, 1080, 39, 1081, 853] rfl), inX8⟩)⟩

set_option maxRecDepth 20000 in
theorem hgL_law_X8_set : GoodIn lw_tbl (wsV RL 67 RX8 yX8_set wsX8_set) := goodIn_sub (List.forall_mem_append.mpr ⟨(hs_inr _ [1095, 1096, 1097, 61] rfl), hm_wsX8_set⟩) (by decide +kernel)

set_option maxRecDepth 20000 in
theorem hm_wsX7_appeal : ∀ w ∈ wsX7_appeal, w ∈ lw_tbl := List.forall_mem_cons.mpr ⟨List.mem_of_getElem? (i := 551) rfl, (List.forall_mem_append.mpr ⟨(List.forall_mem_append.mpr ⟨(hs_inr _ [268, 118, 120, 552, 527, 54, 528] rfl), inX7⟩), inX6⟩)⟩

set_option maxRecDepth 20000 in
theorem hgL_law_X7_appeal : GoodIn lw_tbl (wsV RL 68 RX7 yX7_appeal wsX7_appeal) := goodIn_sub (List.forall_mem_append.mpr ⟨(hs_inr _ [548, 549, 550, 54] rfl), hm_wsX7_appeal⟩) (by decide +kernel)

set_option maxRecDepth 20000 in
theorem hm_wsX8_appeal : ∀ w ∈ wsX8_appeal, w ∈ lw_tbl := List.forall_mem_cons.mpr ⟨List.mem_of_getElem? (i := 1104) rfl, (List.forall_mem_append.mpr ⟨(hs_inr _ [853] rfl), inX8⟩)⟩

set_option maxRecDepth 20000 in
theorem hgL_law_X8_appeal : GoodIn lw_tbl (wsV RL 71 RX8 yX8_appeal wsX8_appeal) := goodIn_sub (List.forall_mem_append.mpr ⟨(hs_inr _ [1101, 1102, 1103, 61] rfl), hm_wsX8_appeal⟩) (by decide +kernel)

set_option maxRecDepth 20000 in
theorem hm_wsX7_lighter_r1 : ∀ w ∈ wsX7_lighter_r1, w ∈ lw_tbl := (hs_inr _ [268, 128, 273, 557, 453, 454, 55, 455, 122, 304, 54, 305, 558, 458, 459, 58, 460, 121, 231, 229, 125, 98, 94, 559] rfl)

set_option maxRecDepth 20000 in
theorem hm_wsX7_lighter_r2 : ∀ w ∈ wsX7_lighter_r2, w ∈ lw_tbl := (hs_inr _ [560, 561, 562, 563, 462, 463, 464, 230, 465, 467, 12, 468, 564, 437, 438, 439, 93, 126, 97] rfl)

set_option maxRecDepth 20000 in
theorem hm_wsX7_lighter : ∀ w ∈ wsX7_lighter, w ∈ lw_tbl := List.forall_mem_cons.mpr ⟨List.mem_of_getElem? (i := 556) rfl, (List.forall_mem_append.mpr ⟨(List.forall_mem_append.mpr ⟨(List.forall_mem_append.mpr ⟨(List.forall_mem_append.mpr ⟨hm_wsX7_lighter_r1, hm_wsX7_lighter_r2⟩), inX7⟩), inX6⟩), inX2⟩)⟩

set_option maxRecDepth 20000 in
theorem hgL_law_X7_lighter : GoodIn lw_tbl (wsV RL 72 RX7 yX7_lighter wsX7_lighter) := goodIn_sub (List.forall_mem_append.mpr ⟨(hs_inr _ [553, 554, 555, 54] rfl), hm_wsX7_lighter⟩) (by decide +kernel)

set_option maxRecDepth 20000 in
theorem hm_wsX8_lighter_r1 : ∀ w ∈ wsX8_lighter_r1, w ∈ lw_tbl := (hs_inr _ [857, 853, 876, 955, 956, 61, 957, 1045, 1047, 35, 1048, 854, 1018, 1020, 31, 1021, 872, 873, 874, 875, 871, 1022, 1023, 1024] rfl)

set_option maxRecDepth 20000 in
theorem hm_wsX8_lighter_r2 : ∀ w ∈ wsX8_lighter_r2, w ∈ lw_tbl := (hs_inr _ [1025, 1027, 32, 1028, 1029, 1031, 33, 1032, 1033, 1035, 34, 1036] rfl)

set_option maxRecDepth 20000 in
theorem hm_wsX8_lighter : ∀ w ∈ wsX8_lighter, w ∈ lw_tbl := List.forall_mem_cons.mpr ⟨List.mem_of_getElem? (i := 1108) rfl, (List.forall_mem_append.mpr ⟨(List.forall_mem_append.mpr ⟨hm_wsX8_lighter_r1, hm_wsX8_lighter_r2⟩), inX8⟩)⟩

set_option maxRecDepth 20000 in
theorem hgL_law_X8_lighter : GoodIn lw_tbl (wsV RL 75 RX8 yX8_lighter wsX8_lighter) := goodIn_sub (List.forall_mem_append.mpr ⟨(hs_inr _ [1105, 1106, 1107, 61] rfl), hm_wsX8_lighter⟩) (by decide +kernel)

set_option maxRecDepth 20000 in
theorem hm_wsX7_worth_r1 : ∀ w ∈ wsX7_worth_r1, w ∈ lw_tbl := (hs_inr _ [268, 501, 502, 503, 55, 504, 108, 304, 54, 305, 569, 570, 571, 572, 104, 303, 573, 574, 575, 576, 577, 578, 579, 580] rfl)

set_option maxRecDepth 20000 in
theorem hm_wsX7_worth_r2 : ∀ w ∈ wsX7_worth_r2, w ∈ lw_tbl := (hs_inr _ [88, 91] rfl)

set_option maxRecDepth 20000 in
theorem hm_wsX7_worth : ∀ w ∈ wsX7_worth, w ∈ lw_tbl := List.forall_mem_cons.mpr ⟨List.mem_of_getElem? (i := 568) rfl, (List.forall_mem_append.mpr ⟨(List.forall_mem_append.mpr ⟨(List.forall_mem_append.mpr ⟨hm_wsX7_worth_r1, hm_wsX7_worth_r2⟩), inX7⟩), inX6⟩)⟩

set_option maxRecDepth 20000 in
theorem hgL_law_X7_worth : GoodIn lw_tbl (wsV RL 76 RX7 yX7_worth wsX7_worth) := goodIn_sub (List.forall_mem_append.mpr ⟨(hs_inr _ [565, 566, 567, 54] rfl), hm_wsX7_worth⟩) (by decide +kernel)

set_option maxRecDepth 20000 in
theorem hm_wsX8_worth : ∀ w ∈ wsX8_worth, w ∈ lw_tbl := List.forall_mem_cons.mpr ⟨List.mem_of_getElem? (i := 1112) rfl, (List.forall_mem_append.mpr ⟨(hs_inr _ [853, 1065, 1067, 38, 61, 1068, 856, 955, 956, 957, 1045, 1047, 35, 1048, 854, 1113, 1115, 40, 1116, 1117, 1119, 41, 1120] rfl), inX8⟩)⟩

set_option maxRecDepth 20000 in
theorem hgL_law_X8_worth : GoodIn lw_tbl (wsV RL 79 RX8 yX8_worth wsX8_worth) := goodIn_sub (List.forall_mem_append.mpr ⟨(hs_inr _ [1109, 1110, 1111, 61] rfl), hm_wsX8_worth⟩) (by decide +kernel)

set_option maxRecDepth 20000 in
theorem hm_wsX7_finds_r1 : ∀ w ∈ wsX7_finds_r1, w ∈ lw_tbl := (hs_inr _ [268, 501, 502, 503, 55, 504, 108, 304, 54, 305, 585, 586, 587, 588, 104, 589, 590, 591, 592, 601, 602, 67, 603, 112] rfl)

set_option maxRecDepth 20000 in
theorem hm_wsX7_finds_r2 : ∀ w ∈ wsX7_finds_r2, w ∈ lw_tbl := (hs_inr _ [593, 594, 595, 596, 597, 598, 599, 600, 577, 578, 579, 580, 88, 91] rfl)

set_option maxRecDepth 20000 in
theorem hm_wsX7_finds : ∀ w ∈ wsX7_finds, w ∈ lw_tbl := List.forall_mem_cons.mpr ⟨List.mem_of_getElem? (i := 584) rfl, (List.forall_mem_append.mpr ⟨(List.forall_mem_append.mpr ⟨(List.forall_mem_append.mpr ⟨hm_wsX7_finds_r1, hm_wsX7_finds_r2⟩), inX7⟩), inX6⟩)⟩

set_option maxRecDepth 20000 in
theorem hgL_law_X7_finds : GoodIn lw_tbl (wsV RL 80 RX7 yX7_finds wsX7_finds) := goodIn_sub (List.forall_mem_append.mpr ⟨(hs_inr _ [581, 582, 583, 54] rfl), hm_wsX7_finds⟩) (by decide +kernel)

set_option maxRecDepth 20000 in
theorem hm_wsX8_finds_r1 : ∀ w ∈ wsX8_finds_r1, w ∈ lw_tbl := (hs_inr _ [1065, 1067, 38, 61, 1068, 856, 955, 956, 957, 1125, 1127, 42, 1128, 853, 1045, 1047, 35, 1048, 854, 1129, 1131, 43, 1132, 1133] rfl)

set_option maxRecDepth 20000 in
theorem hm_wsX8_finds_r2 : ∀ w ∈ wsX8_finds_r2, w ∈ lw_tbl := (hs_inr _ [1134, 1135, 1136, 1138, 44, 1139, 1113, 1115, 40, 1116, 1117, 1119, 41, 1120, 1140, 1142, 45, 1143, 1144, 1145, 1146] rfl)

set_option maxRecDepth 20000 in
theorem hm_wsX8_finds : ∀ w ∈ wsX8_finds, w ∈ lw_tbl := List.forall_mem_cons.mpr ⟨List.mem_of_getElem? (i := 1124) rfl, (List.forall_mem_append.mpr ⟨(List.forall_mem_append.mpr ⟨hm_wsX8_finds_r1, hm_wsX8_finds_r2⟩), inX8⟩)⟩

set_option maxRecDepth 20000 in
theorem hgL_law_X8_finds : GoodIn lw_tbl (wsV RL 83 RX8 yX8_finds wsX8_finds) := goodIn_sub (List.forall_mem_append.mpr ⟨(hs_inr _ [1121, 1122, 1123, 61] rfl), hm_wsX8_finds⟩) (by decide +kernel)

set_option maxRecDepth 20000 in
theorem hm_wsX7_just_r1 : ∀ w ∈ wsX7_just_r1, w ∈ lw_tbl := (hs_inr _ [268, 585, 586, 587, 55, 588, 104, 304, 54, 305, 608, 609, 610, 611, 108, 612, 590, 591, 592, 601, 602, 67, 603, 112] rfl)

set_option maxRecDepth 20000 in
theorem hm_wsX7_just_r2 : ∀ w ∈ wsX7_just_r2, w ∈ lw_tbl := (hs_inr _ [593, 594, 595, 596, 597, 598, 599, 600, 577, 578, 579, 580, 88, 91] rfl)

set_option maxRecDepth 20000 in
theorem hm_wsX7_just : ∀ w ∈ wsX7_just, w ∈ lw_tbl := List.forall_mem_cons.mpr ⟨List.mem_of_getElem? (i := 607) rfl, (List.forall_mem_append.mpr ⟨(List.forall_mem_append.mpr ⟨(List.forall_mem_append.mpr ⟨hm_wsX7_just_r1, hm_wsX7_just_r2⟩), inX7⟩), inX6⟩)⟩

set_option maxRecDepth 20000 in
theorem hgL_law_X7_just : GoodIn lw_tbl (wsV RL 84 RX7 yX7_just wsX7_just) := goodIn_sub (List.forall_mem_append.mpr ⟨(hs_inr _ [604, 605, 606, 54] rfl), hm_wsX7_just⟩) (by decide +kernel)

set_option maxRecDepth 20000 in
theorem hm_wsX8_just_r1 : ∀ w ∈ wsX8_just_r1, w ∈ lw_tbl := (hs_inr _ [1125, 1127, 42, 61, 1128, 853, 955, 956, 957, 1045, 1047, 35, 1048, 854, 1151, 1153, 46, 1154, 856, 1129, 1131, 43, 1132, 1133] rfl)

set_option maxRecDepth 20000 in
theorem hm_wsX8_just_r2 : ∀ w ∈ wsX8_just_r2, w ∈ lw_tbl := (hs_inr _ [1134, 1135, 1136, 1138, 44, 1139, 1113, 1115, 40, 1116, 1117, 1119, 41, 1120, 1140, 1142, 45, 1143, 1144, 1145, 1146, 1155, 1156, 1157] rfl)

set_option maxRecDepth 20000 in
theorem hm_wsX8_just : ∀ w ∈ wsX8_just, w ∈ lw_tbl := List.forall_mem_cons.mpr ⟨List.mem_of_getElem? (i := 1150) rfl, (List.forall_mem_append.mpr ⟨(List.forall_mem_append.mpr ⟨hm_wsX8_just_r1, hm_wsX8_just_r2⟩), inX8⟩)⟩

set_option maxRecDepth 20000 in
theorem hgL_law_X8_just : GoodIn lw_tbl (wsV RL 87 RX8 yX8_just wsX8_just) := goodIn_sub (List.forall_mem_append.mpr ⟨(hs_inr _ [1147, 1148, 1149, 61] rfl), hm_wsX8_just⟩) (by decide +kernel)

set_option maxRecDepth 20000 in
theorem hm_wsX7_middle_r1 : ∀ w ∈ wsX7_middle_r1, w ∈ lw_tbl := (hs_inr _ [268, 106, 303, 304, 54, 305, 608, 609, 610, 55, 611, 108, 612, 590, 591, 592, 601, 602, 67, 603, 112, 593, 594, 595] rfl)

set_option maxRecDepth 20000 in
theorem hm_wsX7_middle_r2 : ∀ w ∈ wsX7_middle_r2, w ∈ lw_tbl := (hs_inr _ [596, 597, 598, 599, 600, 104, 577, 578, 579, 580, 88, 91, 617, 618, 68, 619, 620, 621, 622] rfl)

set_option maxRecDepth 20000 in
theorem hm_wsX7_middle : ∀ w ∈ wsX7_middle, w ∈ lw_tbl := List.forall_mem_cons.mpr ⟨List.mem_of_getElem? (i := 616) rfl, (List.forall_mem_append.mpr ⟨(List.forall_mem_append.mpr ⟨(List.forall_mem_append.mpr ⟨hm_wsX7_middle_r1, hm_wsX7_middle_r2⟩), inX7⟩), inX6⟩)⟩

set_option maxRecDepth 20000 in
theorem hgL_law_X7_middle : GoodIn lw_tbl (wsV RL 88 RX7 yX7_middle wsX7_middle) := goodIn_sub (List.forall_mem_append.mpr ⟨(hs_inr _ [613, 614, 615, 54] rfl), hm_wsX7_middle⟩) (by decide +kernel)

set_option maxRecDepth 20000 in
theorem hm_wsX8_middle_r1 : ∀ w ∈ wsX8_middle_r1, w ∈ lw_tbl := (hs_inr _ [854, 1162, 1163, 61, 1164, 955, 956, 957, 1045, 1047, 35, 1048, 853, 1151, 1153, 46, 1154, 856, 1129, 1131, 43, 1132, 1133, 1134] rfl)

set_option maxRecDepth 20000 in
theorem hm_wsX8_middle_r2 : ∀ w ∈ wsX8_middle_r2, w ∈ lw_tbl := (hs_inr _ [1135, 1136, 1138, 44, 1139, 1113, 1115, 40, 1116, 1117, 1119, 41, 1120, 1140, 1142, 45, 1143, 1144, 1145, 1146, 1155, 1156, 1157, 1165] rfl)

set_option maxRecDepth 20000 in
theorem hm_wsX8_middle_r3 : ∀ w ∈ wsX8_middle_r3, w ∈ lw_tbl := (hs_inr _ [1166, 1167] rfl)

set_option maxRecDepth 20000 in
theorem hm_wsX8_middle : ∀ w ∈ wsX8_middle, w ∈ lw_tbl := List.forall_mem_cons.mpr ⟨List.mem_of_getElem? (i := 1161) rfl, (List.forall_mem_append.mpr ⟨(List.forall_mem_append.mpr ⟨hm_wsX8_middle_r1, (List.forall_mem_append.mpr ⟨hm_wsX8_middle_r2, hm_wsX8_middle_r3⟩)⟩), inX8⟩)⟩

set_option maxRecDepth 20000 in
theorem hgL_law_X8_middle : GoodIn lw_tbl (wsV RL 91 RX8 yX8_middle wsX8_middle) := goodIn_sub (List.forall_mem_append.mpr ⟨(hs_inr _ [1158, 1159, 1160, 61] rfl), hm_wsX8_middle⟩) (by decide +kernel)

set_option maxRecDepth 20000 in
theorem hm_wsX7_honest_r1 : ∀ w ∈ wsX7_honest_r1, w ∈ lw_tbl := (hs_inr _ [268, 501, 502, 503, 55, 504, 108, 304, 54, 305, 627, 628, 69, 629, 632, 602, 67, 603, 105, 630, 594, 595, 596, 631] rfl)

set_option maxRecDepth 20000 in
theorem hm_wsX7_honest_r2 : ∀ w ∈ wsX7_honest_r2, w ∈ lw_tbl := (hs_inr _ [598, 599, 600, 104, 577, 578, 579, 580, 88, 91] rfl)

set_option maxRecDepth 20000 in
theorem hm_wsX7_honest : ∀ w ∈ wsX7_honest, w ∈ lw_tbl := List.forall_mem_cons.mpr ⟨List.mem_of_getElem? (i := 626) rfl, (List.forall_mem_append.mpr ⟨(List.forall_mem_append.mpr ⟨(List.forall_mem_append.mpr ⟨hm_wsX7_honest_r1, hm_wsX7_honest_r2⟩), inX7⟩), inX6⟩)⟩

set_option maxRecDepth 20000 in
theorem hgL_law_X7_honest : GoodIn lw_tbl (wsV RL 92 RX7 yX7_honest wsX7_honest) := goodIn_sub (List.forall_mem_append.mpr ⟨(hs_inr _ [623, 624, 625, 54] rfl), hm_wsX7_honest⟩) (by decide +kernel)

set_option maxRecDepth 20000 in
theorem hm_wsX8_honest_r1 : ∀ w ∈ wsX8_honest_r1, w ∈ lw_tbl := (hs_inr _ [1065, 1067, 38, 61, 1068, 856, 955, 956, 957, 1045, 1047, 35, 1048, 854, 853, 1172, 1174, 47, 1175, 1176, 1133, 1134, 1135, 1136] rfl)

set_option maxRecDepth 20000 in
theorem hm_wsX8_honest_r2 : ∀ w ∈ wsX8_honest_r2, w ∈ lw_tbl := (hs_inr _ [1138, 44, 1139, 1113, 1115, 40, 1116, 1117, 1119, 41, 1120, 1140, 1142, 45, 1143, 1144, 1145, 1146] rfl)

set_option maxRecDepth 20000 in
theorem hm_wsX8_honest : ∀ w ∈ wsX8_honest, w ∈ lw_tbl := List.forall_mem_cons.mpr ⟨List.mem_of_getElem? (i := 1171) rfl, (List.forall_mem_append.mpr ⟨(List.forall_mem_append.mpr ⟨hm_wsX8_honest_r1, hm_wsX8_honest_r2⟩), inX8⟩)⟩

set_option maxRecDepth 20000 in
theorem hgL_law_X8_honest : GoodIn lw_tbl (wsV RL 95 RX8 yX8_honest wsX8_honest) := goodIn_sub (List.forall_mem_append.mpr ⟨(hs_inr _ [1168, 1169, 1170, 61] rfl), hm_wsX8_honest⟩) (by decide +kernel)

set_option maxRecDepth 20000 in
theorem hm_wsX7_chosen_r1 : ∀ w ∈ wsX7_chosen_r1, w ∈ lw_tbl := (hs_inr _ [268, 637, 639, 13, 54, 640, 501, 502, 503, 55, 504, 108, 304, 305, 303, 627, 628, 69, 629, 632, 602, 67, 603, 105] rfl)

set_option maxRecDepth 20000 in
theorem hm_wsX7_chosen_r2 : ∀ w ∈ wsX7_chosen_r2, w ∈ lw_tbl := (hs_inr _ [630, 594, 595, 596, 631, 598, 599, 600, 104, 577, 578, 579, 580, 88, 91, 641, 642, 643, 644, 570, 571, 572, 569, 573] rfl)

set_option maxRecDepth 20000 in
theorem hm_wsX7_chosen_r3 : ∀ w ∈ wsX7_chosen_r3, w ∈ lw_tbl := (hs_inr _ [574, 575, 576] rfl)

set_option maxRecDepth 20000 in
theorem hm_wsX7_chosen : ∀ w ∈ wsX7_chosen, w ∈ lw_tbl := List.forall_mem_cons.mpr ⟨List.mem_of_getElem? (i := 636) rfl, (List.forall_mem_append.mpr ⟨(List.forall_mem_append.mpr ⟨(List.forall_mem_append.mpr ⟨hm_wsX7_chosen_r1, (List.forall_mem_append.mpr ⟨hm_wsX7_chosen_r2, hm_wsX7_chosen_r3⟩)⟩), inX7⟩), inX6⟩)⟩

set_option maxRecDepth 20000 in
theorem hgL_law_X7_chosen : GoodIn lw_tbl (wsV RL 96 RX7 yX7_chosen wsX7_chosen) := goodIn_sub (List.forall_mem_append.mpr ⟨(hs_inr _ [633, 634, 635, 54] rfl), hm_wsX7_chosen⟩) (by decide +kernel)

set_option maxRecDepth 20000 in
theorem hm_wsX8_chosen_r1 : ∀ w ∈ wsX8_chosen_r1, w ∈ lw_tbl := (hs_inr _ [1099, 1065, 1067, 38, 61, 1068, 856, 955, 956, 957, 1045, 1047, 35, 1048, 854, 853, 1172, 1174, 47, 1175, 1176, 1133, 1134, 1135] rfl)

set_option maxRecDepth 20000 in
theorem hm_wsX8_chosen_r2 : ∀ w ∈ wsX8_chosen_r2, w ∈ lw_tbl := (hs_inr _ [1136, 1138, 44, 1139, 1113, 1115, 40, 1116, 1117, 1119, 41, 1120, 1140, 1142, 45, 1143, 1144, 1145, 1146, 1181, 1183, 48, 1184, 1155] rfl)

set_option maxRecDepth 20000 in
theorem hm_wsX8_chosen_r3 : ∀ w ∈ wsX8_chosen_r3, w ∈ lw_tbl := (hs_inr _ [1156, 1157] rfl)

set_option maxRecDepth 20000 in
theorem hm_wsX8_chosen : ∀ w ∈ wsX8_chosen, w ∈ lw_tbl := List.forall_mem_cons.mpr ⟨List.mem_of_getElem? (i := 1180) rfl, (List.forall_mem_append.mpr ⟨(List.forall_mem_append.mpr ⟨hm_wsX8_chosen_r1, (List.forall_mem_append.mpr ⟨hm_wsX8_chosen_r2, hm_wsX8_chosen_r3⟩)⟩), inX8⟩)⟩

set_option maxRecDepth 20000 in
theorem hgL_law_X8_chosen : GoodIn lw_tbl (wsV RL 100 RX8 yX8_chosen wsX8_chosen) := goodIn_sub (List.forall_mem_append.mpr ⟨(hs_inr _ [1177, 1178, 1179, 61] rfl), hm_wsX8_chosen⟩) (by decide +kernel)

set_option maxRecDepth 20000 in
theorem hm_wsX7_sly_r1 : ∀ w ∈ wsX7_sly_r1, w ∈ lw_tbl := (hs_inr _ [268, 637, 639, 13, 54, 640, 501, 502, 503, 55, 504, 108, 304, 305, 303, 649, 650, 69, 651, 105, 652, 653, 654, 644] rfl)

set_option maxRecDepth 20000 in
theorem hm_wsX7_sly_r2 : ∀ w ∈ wsX7_sly_r2, w ∈ lw_tbl := (hs_inr _ [570, 571, 572, 104, 655, 642, 643, 630, 594, 595, 596, 631, 598, 599, 600, 577, 578, 579, 580, 88, 91, 656, 574, 575] rfl)
