set_option maxRecDepth 20000 in
theorem hm_wsX7_init_r1 : ∀ w ∈ wsX7_init_r1, w ∈ lw_tbl := (hs_inr _ [75, 76, 77, 78, 79, 55, 268, 269, 270, 200, 271, 164, 165, 56, 272, 223, 224, 58, 273, 239, 240, 59, 274, 250] rfl)

set_option maxRecDepth 20000 in
theorem hm_wsX7_init_r2 : ∀ w ∈ wsX7_init_r2, w ∈ lw_tbl := (hs_inr _ [275, 252, 60, 80, 81, 82, 83, 162, 88, 91, 93, 97, 101, 102, 103, 84, 85, 86, 87, 104, 108, 112, 116, 119] rfl)

set_option maxRecDepth 20000 in
theorem hm_wsX7_init_r3 : ∀ w ∈ wsX7_init_r3, w ∈ lw_tbl := (hs_inr _ [122, 126, 129, 167, 168, 169, 170, 171, 57, 203, 201, 205, 173, 174, 175, 176, 202, 226, 227, 228, 229, 230, 242, 243] rfl)

set_option maxRecDepth 20000 in
theorem hm_wsX7_init_r4 : ∀ w ∈ wsX7_init_r4, w ∈ lw_tbl := (hs_inr _ [244, 249, 245, 254, 255, 256, 257, 258] rfl)

set_option maxRecDepth 20000 in
theorem hm_wsX7_init : ∀ w ∈ wsX7_init, w ∈ lw_tbl := List.forall_mem_cons.mpr ⟨List.mem_of_getElem? (i := 74) rfl, (List.forall_mem_append.mpr ⟨(List.forall_mem_append.mpr ⟨(List.forall_mem_append.mpr ⟨(List.forall_mem_append.mpr ⟨(List.forall_mem_append.mpr ⟨(List.forall_mem_append.mpr ⟨(List.forall_mem_append.mpr ⟨(List.forall_mem_append.mpr ⟨hm_wsX7_init_r1, (List.forall_mem_append.mpr ⟨hm_wsX7_init_r2, (List.forall_mem_append.mpr ⟨hm_wsX7_init_r3, hm_wsX7_init_r4⟩)⟩)⟩), inX6⟩), inX7⟩), inX5⟩), inX2⟩), inX0⟩), inX3⟩), inX4⟩)⟩

set_option maxRecDepth 20000 in
theorem hgL_law_X7_init : GoodIn lw_tbl (wsX7_init) := goodIn_sub hm_wsX7_init (by decide +kernel)

set_option maxRecDepth 20000 in
theorem hm_wsX8_init_r1 : ∀ w ∈ wsX8_init_r1, w ∈ lw_tbl := (hs_inr _ [844, 76, 77, 162, 853, 854, 200, 855, 858, 863, 871, 876, 880, 881, 882, 884, 845, 847, 17, 61, 848, 859, 860, 861] rfl)

set_option maxRecDepth 20000 in
theorem hm_wsX8_init_r2 : ∀ w ∈ wsX8_init_r2, w ∈ lw_tbl := (hs_inr _ [862, 849, 851, 18, 852, 856, 857] rfl)

set_option maxRecDepth 20000 in
theorem hm_wsX8_init : ∀ w ∈ wsX8_init, w ∈ lw_tbl := List.forall_mem_cons.mpr ⟨List.mem_of_getElem? (i := 843) rfl, (List.forall_mem_append.mpr ⟨(List.forall_mem_append.mpr ⟨hm_wsX8_init_r1, hm_wsX8_init_r2⟩), inX8⟩)⟩

set_option maxRecDepth 20000 in
theorem hgL_law_X8_init : GoodIn lw_tbl (wsX8_init) := goodIn_sub hm_wsX8_init (by decide +kernel)

set_option maxRecDepth 20000 in
theorem hm_wsX7_feed : ∀ w ∈ wsX7_feed, w ∈ lw_tbl := List.forall_mem_cons.mpr ⟨List.mem_of_getElem? (i := 302) rfl, (List.forall_mem_append.mpr ⟨(List.forall_mem_append.mpr ⟨(List.forall_mem_append.mpr ⟨(hs_inr _ [272, 204, 178, 177, 303, 304, 54, 305] rfl), inX7⟩), inX5⟩), inX4⟩)⟩

set_option maxRecDepth 20000 in
theorem hgL_law_X7_feed : GoodIn lw_tbl (wsV RL 13 RX7 yX7_feed wsX7_feed) := goodIn_sub (List.forall_mem_append.mpr ⟨(hs_inr _ [299, 300, 301, 54] rfl), hm_wsX7_feed⟩) (by decide +kernel)

set_option maxRecDepth 20000 in
theorem hm_wsX8_feed : ∀ w ∈ wsX8_feed, w ∈ lw_tbl := List.forall_mem_cons.mpr ⟨List.mem_of_getElem? (i := 953) rfl, (List.forall_mem_append.mpr ⟨(hs_inr _ [954, 864, 863, 955, 956, 61, 957] rfl), inX8⟩)⟩

set_option maxRecDepth 20000 in
theorem hgL_law_X8_feed : GoodIn lw_tbl (wsV RL 17 RX8 yX8_feed wsX8_feed) := goodIn_sub (List.forall_mem_append.mpr ⟨(hs_inr _ [950, 951, 952, 61] rfl), hm_wsX8_feed⟩) (by decide +kernel)

set_option maxRecDepth 20000 in
theorem hm_wsX7_end : ∀ w ∈ wsX7_end, w ∈ lw_tbl := List.forall_mem_cons.mpr ⟨List.mem_of_getElem? (i := 309) rfl, (List.forall_mem_append.mpr ⟨(List.forall_mem_append.mpr ⟨(List.forall_mem_append.mpr ⟨(hs_inr _ [272, 204, 178, 303, 304, 54, 305] rfl), inX7⟩), inX5⟩), inX4⟩)⟩

set_option maxRecDepth 20000 in
theorem hgL_law_X7_end : GoodIn lw_tbl (wsV RL 18 RX7 yX7_end wsX7_end) := goodIn_sub (List.forall_mem_append.mpr ⟨(hs_inr _ [306, 307, 308, 54] rfl), hm_wsX7_end⟩) (by decide +kernel)

set_option maxRecDepth 20000 in
theorem hm_wsX8_end : ∀ w ∈ wsX8_end, w ∈ lw_tbl := List.forall_mem_cons.mpr ⟨List.mem_of_getElem? (i := 961) rfl, (List.forall_mem_append.mpr ⟨(hs_inr _ [864, 955, 956, 61, 957] rfl), inX8⟩)⟩

set_option maxRecDepth 20000 in
theorem hgL_law_X8_end : GoodIn lw_tbl (wsV RL 21 RX8 yX8_end wsX8_end) := goodIn_sub (List.forall_mem_append.mpr ⟨(hs_inr _ [958, 959, 960, 61] rfl), hm_wsX8_end⟩) (by decide +kernel)

set_option maxRecDepth 20000 in
theorem hm_wsX7_text_r1 : ∀ w ∈ wsX7_text_r1, w ∈ lw_tbl := (hs_inr _ [272, 273, 204, 178, 209, 276, 211, 268, 206, 271, 314, 315, 316, 56, 317, 205, 207, 208, 210, 203, 180, 318, 85, 86] rfl)

set_option maxRecDepth 20000 in
theorem hm_wsX7_text_r2 : ∀ w ∈ wsX7_text_r2, w ∈ lw_tbl := (hs_inr _ [55, 87, 88, 104, 108, 112, 116, 119, 122, 126, 129, 319, 320, 321, 57, 322, 184, 323, 324, 325, 326, 182, 179, 176] rfl)

set_option maxRecDepth 20000 in
theorem hm_wsX7_text_r3 : ∀ w ∈ wsX7_text_r3, w ∈ lw_tbl := (hs_inr _ [185, 181, 327, 328, 329, 330, 332, 0, 333, 334, 336, 1, 337, 338, 340, 2, 341, 113, 117, 123, 342, 344, 3, 345] rfl)

set_option maxRecDepth 20000 in
theorem hm_wsX7_text_r4 : ∀ w ∈ wsX7_text_r4, w ∈ lw_tbl := (hs_inr _ [346, 347, 348, 358, 359, 360, 361, 362, 363, 364, 62, 365, 1292, 366, 367, 368, 369, 370, 1293, 372, 373, 374, 375, 376] rfl)

set_option maxRecDepth 20000 in
theorem hm_wsX7_text_r5 : ∀ w ∈ wsX7_text_r5, w ∈ lw_tbl := (hs_inr _ [377, 378, 379, 380, 381, 63, 382, 383, 384, 385, 386, 388, 389, 64, 390, 391, 392, 65, 393, 394, 395, 396, 397, 398] rfl)

set_option maxRecDepth 20000 in
theorem hm_wsX7_text_r6 : ∀ w ∈ wsX7_text_r6, w ∈ lw_tbl := (hs_inr _ [399, 400, 401, 402, 403, 404, 406, 408, 410, 412, 4, 413, 127, 109, 414, 416, 5, 417, 418, 420, 6, 421, 183, 422] rfl)

set_option maxRecDepth 20000 in
theorem hm_wsX7_text_r7 : ∀ w ∈ wsX7_text_r7, w ∈ lw_tbl := (hs_inr _ [423, 425, 7, 426, 107, 90, 186, 427, 429, 8, 430, 304, 54, 305, 432, 434, 9, 435, 436, 437, 438, 439, 93, 97] rfl)

set_option maxRecDepth 20000 in
theorem hm_wsX7_text_r8 : ∀ w ∈ wsX7_text_r8, w ∈ lw_tbl := (hs_inr _ [440, 441, 442, 443, 91, 444, 446, 10, 447, 448, 450, 11, 451, 96, 100, 452, 453, 454, 455, 457, 458, 459, 58, 460] rfl)

set_option maxRecDepth 20000 in
theorem hm_wsX7_text_r9 : ∀ w ∈ wsX7_text_r9, w ∈ lw_tbl := (hs_inr _ [121, 231, 229, 125, 98, 94, 461, 462, 463, 464, 230, 465, 467, 12, 468, 469, 470, 471, 472, 473, 475, 474, 66, 101] rfl)

set_option maxRecDepth 20000 in
theorem hm_wsX7_text_r10 : ∀ w ∈ wsX7_text_r10, w ∈ lw_tbl := (hs_inr _ [102, 103] rfl)

set_option maxRecDepth 20000 in
theorem hm_wsX7_text : ∀ w ∈ wsX7_text, w ∈ lw_tbl := List.forall_mem_cons.mpr ⟨List.mem_of_getElem? (i := 313) rfl, (List.forall_mem_append.mpr ⟨(List.forall_mem_append.mpr ⟨(List.forall_mem_append.mpr ⟨(List.forall_mem_append.mpr ⟨(List.forall_mem_append.mpr ⟨(List.forall_mem_append.mpr ⟨hm_wsX7_text_r1, (List.forall_mem_append.mpr ⟨hm_wsX7_text_r2, (List.forall_mem_append.mpr ⟨hm_wsX7_text_r3, (List.forall_mem_append.mpr ⟨hm_wsX7_text_r4, (List.forall_mem_append.mpr ⟨hm_wsX7_text_r5, (List.forall_mem_append.mpr ⟨hm_wsX7_text_r6, (List.forall_mem_append.mpr ⟨hm_wsX7_text_r7, (List.forall_mem_append.mpr ⟨hm_wsX7_text_r8, (List.forall_mem_append.mpr ⟨hm_wsX7_text_r9, hm_wsX7_text_r10⟩)⟩)⟩)⟩)⟩)⟩)⟩)⟩)⟩), inX7⟩), inX5⟩), inX4⟩), inX6⟩), inX2⟩)⟩

set_option maxRecDepth 20000 in
theorem hgL_law_X7_text : GoodIn lw_tbl (wsV RL 22 RX7 yX7_text wsX7_text) := goodIn_sub (List.forall_mem_append.mpr ⟨(hs_inr _ [310, 311, 312, 54] rfl), hm_wsX7_text⟩) (by decide +kernel)

set_option maxRecDepth 20000 in
theorem hm_wsX8_text_r1 : ∀ w ∈ wsX8_text_r1, w ∈ lw_tbl := (hs_inr _ [869, 865, 867, 862, 860, 854, 858, 872, 864, 870, 845, 847, 17, 61, 848, 859, 861, 966, 968, 19, 969, 866, 974, 975] rfl)

set_option maxRecDepth 20000 in
theorem hm_wsX8_text_r2 : ∀ w ∈ wsX8_text_r2, w ∈ lw_tbl := (hs_inr _ [976, 977, 868, 970, 972, 20, 973, 863, 955, 956, 957, 978, 980, 21, 981, 982, 984, 22, 985, 986, 988, 23, 989, 990] rfl)

set_option maxRecDepth 20000 in
theorem hm_wsX8_text_r3 : ∀ w ∈ wsX8_text_r3, w ∈ lw_tbl := (hs_inr _ [992, 24, 993, 994, 996, 25, 997, 998, 1000, 26, 1001, 1002, 1004, 27, 1005, 1006, 1008, 28, 1009, 1010, 1012, 29, 1013, 1014] rfl)

set_option maxRecDepth 20000 in
theorem hm_wsX8_text_r4 : ∀ w ∈ wsX8_text_r4, w ∈ lw_tbl := (hs_inr _ [1016, 30, 1017, 1018, 1020, 31, 1021, 873, 874, 875, 876, 871, 1022, 1023, 1024, 1025, 1027, 32, 1028, 1029, 1031, 33, 1032, 1033] rfl)

set_option maxRecDepth 20000 in
theorem hm_wsX8_text_r5 : ∀ w ∈ wsX8_text_r5, w ∈ lw_tbl := (hs_inr _ [1035, 34, 1036, 849, 851, 18, 852, 853, 856, 857, 855] rfl)

set_option maxRecDepth 20000 in
theorem hm_wsX8_text : ∀ w ∈ wsX8_text, w ∈ lw_tbl := List.forall_mem_cons.mpr ⟨List.mem_of_getElem? (i := 965) rfl, (List.forall_mem_append.mpr ⟨(List.forall_mem_append.mpr ⟨hm_wsX8_text_r1, (List.forall_mem_append.mpr ⟨hm_wsX8_text_r2, (List.forall_mem_append.mpr ⟨hm_wsX8_text_r3, (List.forall_mem_append.mpr ⟨hm_wsX8_text_r4, hm_wsX8_text_r5⟩)⟩)⟩)⟩), inX8⟩)⟩

set_option maxRecDepth 20000 in
theorem hgL_law_X8_text : GoodIn lw_tbl (wsV RL 26 RX8 yX8_text wsX8_text) := goodIn_sub (List.forall_mem_append.mpr ⟨(hs_inr _ [962, 963, 964, 61] rfl), hm_wsX8_text⟩) (by decide +kernel)

set_option maxRecDepth 20000 in
theorem hm_wsX7_fault : ∀ w ∈ wsX7_fault, w ∈ lw_tbl := List.forall_mem_cons.mpr ⟨List.mem_of_getElem? (i := 480) rfl, (List.forall_mem_append.mpr ⟨(hs_inr _ [276] rfl), inX7⟩)⟩

set_option maxRecDepth 20000 in
theorem hgL_law_X7_fault : GoodIn lw_tbl (wsV RL 27 RX7 yX7_fault wsX7_fault) := goodIn_sub (List.forall_mem_append.mpr ⟨(hs_inr _ [477, 478, 479, 54] rfl), hm_wsX7_fault⟩) (by decide +kernel)

set_option maxRecDepth 20000 in
theorem hm_wsX8_fault : ∀ w ∈ wsX8_fault, w ∈ lw_tbl := List.forall_mem_cons.mpr ⟨List.mem_of_getElem? (i := 1040) rfl, (List.forall_mem_append.mpr ⟨(hs_inr _ [869] rfl), inX8⟩)⟩

set_option maxRecDepth 20000 in
theorem hgL_law_X8_fault : GoodIn lw_tbl (wsV RL 30 RX8 yX8_fault wsX8_fault) := goodIn_sub (List.forall_mem_append.mpr ⟨(hs_inr _ [1037, 1038, 1039, 61] rfl), hm_wsX8_fault⟩) (by decide +kernel)

set_option maxRecDepth 20000 in
theorem hm_wsX7_rule : ∀ w ∈ wsX7_rule, w ∈ lw_tbl := List.forall_mem_cons.mpr ⟨List.mem_of_getElem? (i := 484) rfl, (List.forall_mem_append.mpr ⟨(List.forall_mem_append.mpr ⟨(hs_inr _ [268, 106, 110, 114, 118, 120, 124, 128, 485, 486, 487, 55, 488, 104, 88] rfl), inX7⟩), inX6⟩)⟩

set_option maxRecDepth 20000 in
theorem hgL_law_X7_rule : GoodIn lw_tbl (wsV RL 31 RX7 yX7_rule wsX7_rule) := goodIn_sub (List.forall_mem_append.mpr ⟨(hs_inr _ [481, 482, 483, 54] rfl), hm_wsX7_rule⟩) (by decide +kernel)

set_option maxRecDepth 20000 in
theorem hm_wsX8_rule : ∀ w ∈ wsX8_rule, w ∈ lw_tbl := List.forall_mem_cons.mpr ⟨List.mem_of_getElem? (i := 1044) rfl, (List.forall_mem_append.mpr ⟨(hs_inr _ [853, 856, 857, 1045, 1047, 35, 61, 1048, 854, 1049, 1051, 36, 1052] rfl), inX8⟩)⟩

set_option maxRecDepth 20000 in
theorem hgL_law_X8_rule : GoodIn lw_tbl (wsV RL 34 RX8 yX8_rule wsX8_rule) := goodIn_sub (List.forall_mem_append.mpr ⟨(hs_inr _ [1041, 1042, 1043, 61] rfl), hm_wsX8_rule⟩) (by decide +kernel)

set_option maxRecDepth 20000 in
theorem hm_wsX7_cell : ∀ w ∈ wsX7_cell, w ∈ lw_tbl := List.forall_mem_cons.mpr ⟨List.mem_of_getElem? (i := 492) rfl, (List.forall_mem_append.mpr ⟨(List.forall_mem_append.mpr ⟨(hs_inr _ [268, 89, 493, 494, 495, 55, 496, 104, 304, 54, 305] rfl), inX7⟩), inX6⟩)⟩

set_option maxRecDepth 20000 in
theorem hgL_law_X7_cell : GoodIn lw_tbl (wsV RL 35 RX7 yX7_cell wsX7_cell) := goodIn_sub (List.forall_mem_append.mpr ⟨(hs_inr _ [489, 490, 491, 54] rfl), hm_wsX7_cell⟩) (by decide +kernel)

set_option maxRecDepth 20000 in
theorem hm_wsX8_cell : ∀ w ∈ wsX8_cell, w ∈ lw_tbl := List.forall_mem_cons.mpr ⟨List.mem_of_getElem? (i := 1056) rfl, (List.forall_mem_append.mpr ⟨(hs_inr _ [853, 1057, 1059, 37, 61, 1060, 955, 956, 957] rfl), inX8⟩)⟩

set_option maxRecDepth 20000 in
theorem hgL_law_X8_cell : GoodIn lw_tbl (wsV RL 38 RX8 yX8_cell wsX8_cell) := goodIn_sub (List.forall_mem_append.mpr ⟨(hs_inr _ [1053, 1054, 1055, 61] rfl), hm_wsX8_cell⟩) (by decide +kernel)

set_option maxRecDepth 20000 in
theorem hm_wsX7_person : ∀ w ∈ wsX7_person, w ∈ lw_tbl := List.forall_mem_cons.mpr ⟨List.mem_of_getElem? (i := 500) rfl, (List.forall_mem_append.mpr ⟨(List.forall_mem_append.mpr ⟨(hs_inr _ [268, 92, 501, 502, 503, 55, 504, 108, 304, 54, 305] rfl), inX7⟩), inX6⟩)⟩

set_option maxRecDepth 20000 in
theorem hgL_law_X7_person : GoodIn lw_tbl (wsV RL 39 RX7 yX7_person wsX7_person) := goodIn_sub (List.forall_mem_append.mpr ⟨(hs_inr _ [497, 498, 499, 54] rfl), hm_wsX7_person⟩) (by decide +kernel)

set_option maxRecDepth 20000 in
theorem hm_wsX8_person : ∀ w ∈ wsX8_person, w ∈ lw_tbl := List.forall_mem_cons.mpr ⟨List.mem_of_getElem? (i := 1064) rfl, (List.forall_mem_append.mpr ⟨(hs_inr _ [853, 1065, 1067, 38, 61, 1068, 856, 955, 956, 957] rfl), inX8⟩)⟩

set_option maxRecDepth 20000 in
theorem hgL_law_X8_person : GoodIn lw_tbl (wsV RL 42 RX8 yX8_person wsX8_person) := goodIn_sub (List.forall_mem_append.mpr ⟨(hs_inr _ [1061, 1062, 1063, 61] rfl), hm_wsX8_person⟩) (by decide +kernel)

set_option maxRecDepth 20000 in
theorem hm_wsX7_pair : ∀ w ∈ wsX7_pair, w ∈ lw_tbl := List.forall_mem_cons.mpr ⟨List.mem_of_getElem? (i := 508) rfl, (List.forall_mem_append.mpr ⟨(List.forall_mem_append.mpr ⟨(hs_inr _ [268, 128, 95, 99, 303, 304, 54, 305] rfl), inX7⟩), inX6⟩)⟩

set_option maxRecDepth 20000 in
theorem hgL_law_X7_pair : GoodIn lw_tbl (wsV RL 43 RX7 yX7_pair wsX7_pair) := goodIn_sub (List.forall_mem_append.mpr ⟨(hs_inr _ [505, 506, 507, 54] rfl), hm_wsX7_pair⟩) (by decide +kernel)

set_option maxRecDepth 20000 in
theorem hm_wsX8_pair : ∀ w ∈ wsX8_pair, w ∈ lw_tbl := List.forall_mem_cons.mpr ⟨List.mem_of_getElem? (i := 1072) rfl, (List.forall_mem_append.mpr ⟨(hs_inr _ [853, 955, 956, 61, 957] rfl), inX8⟩)⟩

set_option maxRecDepth 20000 in
theorem hgL_law_X8_pair : GoodIn lw_tbl (wsV RL 46 RX8 yX8_pair wsX8_pair) := goodIn_sub (List.forall_mem_append.mpr ⟨(hs_inr _ [1069, 1070, 1071, 61] rfl), hm_wsX8_pair⟩) (by decide +kernel)

set_option maxRecDepth 20000 in
theorem hm_wsX7_weigh : ∀ w ∈ wsX7_weigh, w ∈ lw_tbl := List.forall_mem_cons.mpr ⟨List.mem_of_getElem? (i := 512) rfl, (List.forall_mem_append.mpr ⟨(List.forall_mem_append.mpr ⟨(hs_inr _ [268, 89, 513, 514, 515, 55, 516, 517, 494, 495, 496, 104, 304, 54, 305] rfl), inX7⟩), inX6⟩)⟩

set_option maxRecDepth 20000 in
theorem hgL_law_X7_weigh : GoodIn lw_tbl (wsV RL 47 RX7 yX7_weigh wsX7_weigh) := goodIn_sub (List.forall_mem_append.mpr ⟨(hs_inr _ [509, 510, 511, 54] rfl), hm_wsX7_weigh⟩) (by decide +kernel)

set_option maxRecDepth 20000 in
theorem hm_wsX8_weigh : ∀ w ∈ wsX8_weigh, w ∈ lw_tbl := List.forall_mem_cons.mpr ⟨List.mem_of_getElem? (i := 1076) rfl, (List.forall_mem_append.mpr ⟨(hs_inr _ [1077, 1057, 1059, 37, 61, 1060, 853, 955, 956, 957, 1078, 1080, 39, 1081] rfl), inX8⟩)⟩

set_option maxRecDepth 20000 in
theorem hgL_law_X8_weigh : GoodIn lw_tbl (wsV RL 51 RX8 yX8_weigh wsX8_weigh) := goodIn_sub (List.forall_mem_append.mpr ⟨(hs_inr _ [1073, 1074, 1075, 61] rfl), hm_wsX8_weigh⟩) (by decide +kernel)

set_option maxRecDepth 20000 in
theorem hm_wsX7_split : ∀ w ∈ wsX7_split, w ∈ lw_tbl := List.forall_mem_cons.mpr ⟨List.mem_of_getElem? (i := 521) rfl, (List.forall_mem_append.mpr ⟨(List.forall_mem_append.mpr ⟨(hs_inr _ [268, 106, 493, 494, 495, 55, 496, 104, 304, 54, 305, 522, 523, 524, 525, 88, 527, 528] rfl), inX7⟩), inX6⟩)⟩

set_option maxRecDepth 20000 in
theorem hgL_law_X7_split : GoodIn lw_tbl (wsV RL 52 RX7 yX7_split wsX7_split) := goodIn_sub (List.forall_mem_append.mpr ⟨(hs_inr _ [518, 519, 520, 54] rfl), hm_wsX7_split⟩) (by decide +kernel)

set_option maxRecDepth 20000 in
theorem hm_wsX8_split : ∀ w ∈ wsX8_split, w ∈ lw_tbl := List.forall_mem_cons.mpr ⟨List.mem_of_getElem? (i := 1085) rfl, (List.forall_mem_append.mpr ⟨(hs_inr _ [853, 1057, 1059, 37, 61, 1060, 955, 956, 957] rfl), inX8⟩)⟩

set_option maxRecDepth 20000 in
theorem hgL_law_X8_split : GoodIn lw_tbl (wsV RL 55 RX8 yX8_split wsX8_split) := goodIn_sub (List.forall_mem_append.mpr ⟨(hs_inr _ [1082, 1083, 1084, 61] rfl), hm_wsX8_split⟩) (by decide +kernel)

set_option maxRecDepth 20000 in
theorem hm_wsX7_join : ∀ w ∈ wsX7_join, w ∈ lw_tbl := List.forall_mem_cons.mpr ⟨List.mem_of_getElem? (i := 532) rfl, (List.forall_mem_append.mpr ⟨(List.forall_mem_append.mpr ⟨(hs_inr _ [268, 106, 493, 494, 495, 55, 496, 104, 304, 54, 305, 533, 534, 535, 536, 88, 537, 538, 67, 539] rfl), inX7⟩), inX6⟩)⟩

set_option maxRecDepth 20000 in
theorem hgL_law_X7_join : GoodIn lw_tbl (wsV RL 56 RX7 yX7_join wsX7_join) := goodIn_sub (List.forall_mem_append.mpr ⟨(hs_inr _ [529, 530, 531, 54] rfl), hm_wsX7_join⟩) (by decide +kernel)

set_option maxRecDepth 20000 in
theorem hm_wsX8_join : ∀ w ∈ wsX8_join, w ∈ lw_tbl := List.forall_mem_cons.mpr ⟨List.mem_of_getElem? (i := 1089) rfl, (List.forall_mem_append.mpr ⟨(hs_inr _ [853, 955, 956, 61, 957] rfl), inX8⟩)⟩

set_option maxRecDepth 20000 in
theorem hgL_law_X8_join : GoodIn lw_tbl (wsV RL 59 RX8 yX8_join wsX8_join) := goodIn_sub (List.forall_mem_append.mpr ⟨(hs_inr _ [1086, 1087, 1088, 61] rfl), hm_wsX8_join⟩) (by decide +kernel)

set_option maxRecDepth 20000 in
theorem hm_wsX7_teach : ∀ w ∈ wsX7_teach, w ∈ lw_tbl := List.forall_mem_cons.mpr ⟨List.mem_of_getElem? (i := 543) rfl, (List.forall_mem_append.mpr ⟨(List.forall_mem_append.mpr ⟨(hs_inr _ [268, 92, 501, 502, 503, 55, 504, 108, 304, 54, 305, 303] rfl), inX7⟩), inX6⟩)⟩
