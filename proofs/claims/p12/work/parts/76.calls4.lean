set_option maxRecDepth 20000 in
theorem hgL_law_X7_fits : GoodIn lw_tbl (wsV RL 138 RX7 yX7_fits wsX7_fits) := goodIn_sub (List.forall_mem_append.mpr ⟨(hs_inc _ [(3, 216), (3, 217), (3, 218), (1, 1)] rfl), hm_wsX7_fits⟩) (by decide +kernel)

set_option maxRecDepth 20000 in
theorem hm_wsX8_fits_r1 : ∀ w ∈ wsX8_fits_r1, w ∈ lw_tbl := (hs_inc _ [(4, 81), (5, 44), (5, 46), (0, 37), (1, 8), (5, 47), (4, 80), (4, 182), (4, 183), (4, 184), (5, 32), (5, 34), (0, 35), (5, 35), (5, 228), (5, 230), (0, 51), (5, 231), (5, 116), (5, 118), (0, 43), (5, 119), (5, 120), (5, 121)] rfl)

set_option maxRecDepth 20000 in
theorem hm_wsX8_fits_r2 : ∀ w ∈ wsX8_fits_r2, w ∈ lw_tbl := (hs_inc _ [(5, 122), (5, 123), (5, 125), (0, 44), (5, 126), (5, 100), (5, 102), (0, 40), (5, 103), (5, 104), (5, 106), (0, 41), (5, 107), (5, 127), (5, 129), (0, 45), (5, 130), (5, 131), (5, 132), (5, 133), (5, 142), (5, 143), (5, 144)] rfl)

set_option maxRecDepth 20000 in
theorem hm_wsX8_fits : ∀ w ∈ wsX8_fits, w ∈ lw_tbl := List.forall_mem_cons.mpr ⟨hs_in1 5 227 rfl, (List.forall_mem_append.mpr ⟨(List.forall_mem_append.mpr ⟨hm_wsX8_fits_r1, hm_wsX8_fits_r2⟩), inX8⟩)⟩

set_option maxRecDepth 20000 in
theorem hgL_law_X8_fits : GoodIn lw_tbl (wsV RL 141 RX8 yX8_fits wsX8_fits) := goodIn_sub (List.forall_mem_append.mpr ⟨(hs_inc _ [(5, 224), (5, 225), (5, 226), (1, 8)] rfl), hm_wsX8_fits⟩) (by decide +kernel)

set_option maxRecDepth 20000 in
theorem hm_wsX7_kinds_r1 : ∀ w ∈ wsX7_kinds_r1, w ∈ lw_tbl := (hs_inc _ [(1, 215), (1, 216), (1, 39), (2, 208), (2, 209), (2, 210), (1, 2), (2, 211), (1, 55), (2, 11), (1, 1), (2, 12), (2, 176), (2, 177), (2, 178), (2, 179), (1, 35), (2, 180), (2, 182), (2, 181), (1, 13), (1, 38), (1, 40), (1, 44)] rfl)

set_option maxRecDepth 20000 in
theorem hm_wsX7_kinds_r2 : ∀ w ∈ wsX7_kinds_r2, w ∈ lw_tbl := (hs_inc _ [(1, 48), (1, 49), (1, 50), (1, 51), (1, 59), (1, 63), (1, 66), (1, 69), (1, 73), (1, 76), (3, 220), (3, 221), (3, 222), (3, 223), (3, 224), (3, 53), (3, 54), (3, 55), (3, 79), (3, 57), (3, 58), (3, 59), (3, 68), (3, 69)] rfl)

set_option maxRecDepth 20000 in
theorem hm_wsX7_kinds_r3 : ∀ w ∈ wsX7_kinds_r3, w ∈ lw_tbl := (hs_inc _ [(1, 14), (3, 70), (3, 60), (3, 61), (3, 62), (3, 63), (3, 64), (3, 65), (3, 66), (3, 67), (3, 44), (3, 45), (3, 46), (3, 47)] rfl)

set_option maxRecDepth 20000 in
theorem hm_wsX7_kinds : ∀ w ∈ wsX7_kinds, w ∈ lw_tbl := List.forall_mem_cons.mpr ⟨hs_in1 3 228 rfl, (List.forall_mem_append.mpr ⟨(List.forall_mem_append.mpr ⟨(List.forall_mem_append.mpr ⟨hm_wsX7_kinds_r1, (List.forall_mem_append.mpr ⟨hm_wsX7_kinds_r2, hm_wsX7_kinds_r3⟩)⟩), inX7⟩), inX6⟩)⟩

set_option maxRecDepth 20000 in
theorem hgL_law_X7_kinds : GoodIn lw_tbl (wsV RL 142 RX7 yX7_kinds wsX7_kinds) := goodIn_sub (List.forall_mem_append.mpr ⟨(hs_inc _ [(3, 225), (3, 226), (3, 227), (1, 1)] rfl), hm_wsX7_kinds⟩) (by decide +kernel)

set_option maxRecDepth 20000 in
theorem hm_wsX8_kinds_r1 : ∀ w ∈ wsX8_kinds_r1, w ∈ lw_tbl := (hs_inc _ [(4, 81), (5, 52), (5, 54), (0, 38), (1, 8), (5, 55), (4, 83), (4, 182), (4, 183), (4, 184), (5, 32), (5, 34), (0, 35), (5, 35), (4, 80), (5, 228), (5, 230), (0, 51), (5, 231), (5, 116), (5, 118), (0, 43), (5, 119), (5, 120)] rfl)

set_option maxRecDepth 20000 in
theorem hm_wsX8_kinds_r2 : ∀ w ∈ wsX8_kinds_r2, w ∈ lw_tbl := (hs_inc _ [(5, 121), (5, 122), (5, 123), (5, 125), (0, 44), (5, 126), (5, 100), (5, 102), (0, 40), (5, 103), (5, 104), (5, 106), (0, 41), (5, 107), (5, 127), (5, 129), (0, 45), (5, 130), (5, 131), (5, 132), (5, 133), (5, 142), (5, 143), (5, 144)] rfl)

set_option maxRecDepth 20000 in
theorem hm_wsX8_kinds : ∀ w ∈ wsX8_kinds, w ∈ lw_tbl := List.forall_mem_cons.mpr ⟨hs_in1 5 235 rfl, (List.forall_mem_append.mpr ⟨(List.forall_mem_append.mpr ⟨hm_wsX8_kinds_r1, hm_wsX8_kinds_r2⟩), inX8⟩)⟩

set_option maxRecDepth 20000 in
theorem hgL_law_X8_kinds : GoodIn lw_tbl (wsV RL 145 RX8 yX8_kinds wsX8_kinds) := goodIn_sub (List.forall_mem_append.mpr ⟨(hs_inc _ [(5, 232), (5, 233), (5, 234), (1, 8)] rfl), hm_wsX8_kinds⟩) (by decide +kernel)

set_option maxRecDepth 20000 in
theorem hm_wsX7_drift_r1 : ∀ w ∈ wsX7_drift_r1, w ∈ lw_tbl := (hs_inc _ [(1, 216), (1, 215), (1, 53), (3, 233), (1, 36), (2, 10), (2, 11), (1, 1), (2, 12), (2, 176), (2, 177), (2, 178), (1, 2), (2, 179), (1, 35), (2, 180), (2, 182), (2, 181), (1, 13), (1, 38), (1, 40), (1, 44), (1, 48), (1, 49)] rfl)

set_option maxRecDepth 20000 in
theorem hm_wsX7_drift_r2 : ∀ w ∈ wsX7_drift_r2, w ∈ lw_tbl := (hs_inc _ [(1, 50), (1, 51), (1, 55), (1, 59), (1, 63), (1, 66), (1, 69), (1, 73), (1, 76), (3, 234), (3, 235), (3, 236), (3, 237), (3, 68), (3, 69), (1, 14), (3, 70), (3, 238), (3, 37), (3, 38), (3, 39), (3, 239), (3, 41), (3, 42)] rfl)

set_option maxRecDepth 20000 in
theorem hm_wsX7_drift_r3 : ∀ w ∈ wsX7_drift_r3, w ∈ lw_tbl := (hs_inc _ [(3, 43), (3, 44), (3, 45), (3, 46), (3, 47), (2, 192), (2, 193), (2, 194), (2, 195)] rfl)

set_option maxRecDepth 20000 in
theorem hm_wsX7_drift : ∀ w ∈ wsX7_drift, w ∈ lw_tbl := List.forall_mem_cons.mpr ⟨hs_in1 3 232 rfl, (List.forall_mem_append.mpr ⟨(List.forall_mem_append.mpr ⟨(List.forall_mem_append.mpr ⟨hm_wsX7_drift_r1, (List.forall_mem_append.mpr ⟨hm_wsX7_drift_r2, hm_wsX7_drift_r3⟩)⟩), inX7⟩), inX6⟩)⟩

set_option maxRecDepth 20000 in
theorem hgL_law_X7_drift : GoodIn lw_tbl (wsV RL 146 RX7 yX7_drift wsX7_drift) := goodIn_sub (List.forall_mem_append.mpr ⟨(hs_inc _ [(3, 229), (3, 230), (3, 231), (1, 1)] rfl), hm_wsX7_drift⟩) (by decide +kernel)

set_option maxRecDepth 20000 in
theorem hm_wsX8_drift_r1 : ∀ w ∈ wsX8_drift_r1, w ∈ lw_tbl := (hs_inc _ [(6, 0), (6, 1), (4, 81), (4, 182), (4, 183), (1, 8), (4, 184), (5, 149), (5, 150), (5, 151), (5, 32), (5, 34), (0, 35), (5, 35), (4, 80), (5, 138), (5, 140), (0, 46), (5, 141), (4, 83), (5, 116), (5, 118), (0, 43), (5, 119)] rfl)

set_option maxRecDepth 20000 in
theorem hm_wsX8_drift_r2 : ∀ w ∈ wsX8_drift_r2, w ∈ lw_tbl := (hs_inc _ [(5, 120), (5, 121), (5, 122), (5, 123), (5, 125), (0, 44), (5, 126), (5, 100), (5, 102), (0, 40), (5, 103), (5, 104), (5, 106), (0, 41), (5, 107), (5, 127), (5, 129), (0, 45), (5, 130), (5, 131), (5, 132), (5, 133), (5, 142), (5, 143)] rfl)

set_option maxRecDepth 20000 in
theorem hm_wsX8_drift_r3 : ∀ w ∈ wsX8_drift_r3, w ∈ lw_tbl := (hs_inc _ [(5, 144), (5, 152), (5, 153), (5, 154), (5, 36), (5, 38), (0, 36), (5, 39)] rfl)

set_option maxRecDepth 20000 in
theorem hm_wsX8_drift : ∀ w ∈ wsX8_drift, w ∈ lw_tbl := List.forall_mem_cons.mpr ⟨hs_in1 5 239 rfl, (List.forall_mem_append.mpr ⟨(List.forall_mem_append.mpr ⟨hm_wsX8_drift_r1, (List.forall_mem_append.mpr ⟨hm_wsX8_drift_r2, hm_wsX8_drift_r3⟩)⟩), inX8⟩)⟩

set_option maxRecDepth 20000 in
theorem hgL_law_X8_drift : GoodIn lw_tbl (wsV RL 149 RX8 yX8_drift wsX8_drift) := goodIn_sub (List.forall_mem_append.mpr ⟨(hs_inc _ [(5, 236), (5, 237), (5, 238), (1, 8)] rfl), hm_wsX8_drift⟩) (by decide +kernel)

set_option maxRecDepth 20000 in
theorem hm_wsX7_keep_r1 : ∀ w ∈ wsX7_keep_r1, w ∈ lw_tbl := (hs_inc _ [(1, 218), (1, 217), (1, 215), (2, 10), (2, 11), (1, 1), (2, 12), (2, 176), (2, 177), (2, 178), (1, 2), (2, 179), (1, 35), (2, 180), (2, 182), (2, 181), (1, 13), (1, 38), (1, 40), (1, 44), (1, 48), (1, 49), (1, 50), (1, 51)] rfl)

set_option maxRecDepth 20000 in
theorem hm_wsX7_keep_r2 : ∀ w ∈ wsX7_keep_r2, w ∈ lw_tbl := (hs_inc _ [(1, 55), (1, 59), (1, 63), (1, 66), (1, 69), (1, 73), (1, 76)] rfl)

set_option maxRecDepth 20000 in
theorem hm_wsX7_keep : ∀ w ∈ wsX7_keep, w ∈ lw_tbl := List.forall_mem_cons.mpr ⟨hs_in1 4 3 rfl, (List.forall_mem_append.mpr ⟨(List.forall_mem_append.mpr ⟨(List.forall_mem_append.mpr ⟨hm_wsX7_keep_r1, hm_wsX7_keep_r2⟩), inX7⟩), inX6⟩)⟩

set_option maxRecDepth 20000 in
theorem hgL_law_X7_keep : GoodIn lw_tbl (wsV RL 150 RX7 yX7_keep wsX7_keep) := goodIn_sub (List.forall_mem_append.mpr ⟨(hs_inc _ [(4, 0), (4, 1), (4, 2), (1, 1)] rfl), hm_wsX7_keep⟩) (by decide +kernel)

set_option maxRecDepth 20000 in
theorem hm_wsX8_keep : ∀ w ∈ wsX8_keep, w ∈ lw_tbl := List.forall_mem_cons.mpr ⟨hs_in1 6 5 rfl, (List.forall_mem_append.mpr ⟨(hs_inc _ [(4, 82), (4, 182), (4, 183), (1, 8), (4, 184), (5, 142), (5, 143), (5, 144), (6, 6), (6, 8), (0, 52), (6, 9), (4, 80)] rfl), inX8⟩)⟩

set_option maxRecDepth 20000 in
theorem hgL_law_X8_keep : GoodIn lw_tbl (wsV RL 153 RX8 yX8_keep wsX8_keep) := goodIn_sub (List.forall_mem_append.mpr ⟨(hs_inc _ [(6, 2), (6, 3), (6, 4), (1, 8)] rfl), hm_wsX8_keep⟩) (by decide +kernel)

set_option maxRecDepth 20000 in
theorem hm_wsX7_back_r1 : ∀ w ∈ wsX7_back_r1, w ∈ lw_tbl := (hs_inc _ [(1, 218), (1, 215), (1, 217), (1, 53), (2, 10), (2, 11), (1, 1), (2, 12), (2, 176), (2, 177), (2, 178), (1, 2), (2, 179), (1, 35), (2, 180), (2, 182), (2, 181), (1, 13), (1, 38), (1, 40), (1, 44), (1, 48), (1, 49), (1, 50)] rfl)

set_option maxRecDepth 20000 in
theorem hm_wsX7_back_r2 : ∀ w ∈ wsX7_back_r2, w ∈ lw_tbl := (hs_inc _ [(1, 51), (1, 55), (1, 59), (1, 63), (1, 66), (1, 69), (1, 73), (1, 76)] rfl)

set_option maxRecDepth 20000 in
theorem hm_wsX7_back : ∀ w ∈ wsX7_back, w ∈ lw_tbl := List.forall_mem_cons.mpr ⟨hs_in1 4 7 rfl, (List.forall_mem_append.mpr ⟨(List.forall_mem_append.mpr ⟨(List.forall_mem_append.mpr ⟨hm_wsX7_back_r1, hm_wsX7_back_r2⟩), inX7⟩), inX6⟩)⟩

set_option maxRecDepth 20000 in
theorem hgL_law_X7_back : GoodIn lw_tbl (wsV RL 154 RX7 yX7_back wsX7_back) := goodIn_sub (List.forall_mem_append.mpr ⟨(hs_inc _ [(4, 4), (4, 5), (4, 6), (1, 1)] rfl), hm_wsX7_back⟩) (by decide +kernel)

set_option maxRecDepth 20000 in
theorem hm_wsX8_back : ∀ w ∈ wsX8_back, w ∈ lw_tbl := List.forall_mem_cons.mpr ⟨hs_in1 6 13 rfl, (List.forall_mem_append.mpr ⟨(hs_inc _ [(4, 82), (4, 80), (4, 182), (4, 183), (1, 8), (4, 184), (6, 6), (6, 8), (0, 52), (6, 9)] rfl), inX8⟩)⟩

set_option maxRecDepth 20000 in
theorem hgL_law_X8_back : GoodIn lw_tbl (wsV RL 157 RX8 yX8_back wsX8_back) := goodIn_sub (List.forall_mem_append.mpr ⟨(hs_inc _ [(6, 10), (6, 11), (6, 12), (1, 8)] rfl), hm_wsX8_back⟩) (by decide +kernel)

set_option maxRecDepth 20000 in
theorem hm_wsX7_sheet : ∀ w ∈ wsX7_sheet, w ∈ lw_tbl := List.forall_mem_cons.mpr ⟨hs_in1 4 11 rfl, (List.forall_mem_append.mpr ⟨(List.forall_mem_append.mpr ⟨(hs_inc _ [(1, 222), (4, 12), (4, 13), (1, 1), (4, 14), (2, 10), (2, 11), (2, 12), (4, 15), (4, 16), (1, 7), (4, 17), (4, 19), (4, 20), (4, 21), (4, 22), (1, 205), (1, 206), (1, 204)] rfl), inX7⟩), inX3⟩)⟩

set_option maxRecDepth 20000 in
theorem hgL_law_X7_sheet : GoodIn lw_tbl (wsV RL 158 RX7 yX7_sheet wsX7_sheet) := goodIn_sub (List.forall_mem_append.mpr ⟨(hs_inc _ [(4, 8), (4, 9), (4, 10), (1, 1)] rfl), hm_wsX7_sheet⟩) (by decide +kernel)

set_option maxRecDepth 20000 in
theorem hm_wsX8_sheet : ∀ w ∈ wsX8_sheet, w ∈ lw_tbl := List.forall_mem_cons.mpr ⟨hs_in1 6 17 rfl, (List.forall_mem_append.mpr ⟨(hs_inc _ [(4, 107), (4, 108), (4, 109), (6, 18), (6, 19), (1, 8), (6, 20), (5, 81), (5, 86), (4, 182), (4, 183), (4, 184)] rfl), inX8⟩)⟩

set_option maxRecDepth 20000 in
theorem hgL_law_X8_sheet : GoodIn lw_tbl (wsV RL 161 RX8 yX8_sheet wsX8_sheet) := goodIn_sub (List.forall_mem_append.mpr ⟨(hs_inc _ [(6, 14), (6, 15), (6, 16), (1, 8)] rfl), hm_wsX8_sheet⟩) (by decide +kernel)

set_option maxRecDepth 20000 in
theorem hm_wsX7_lay : ∀ w ∈ wsX7_lay, w ∈ lw_tbl := List.forall_mem_cons.mpr ⟨hs_in1 4 26 rfl, (List.forall_mem_append.mpr ⟨(List.forall_mem_append.mpr ⟨(hs_inc _ [(1, 222), (4, 12), (4, 13), (1, 1), (4, 14), (2, 10), (2, 11), (2, 12), (4, 27), (4, 28), (4, 29), (1, 7), (4, 30), (1, 206), (4, 31), (4, 32), (4, 33), (4, 34), (1, 205), (4, 35), (4, 36), (4, 37), (4, 38), (1, 204)] rfl), inX7⟩), inX3⟩)⟩

set_option maxRecDepth 20000 in
theorem hgL_law_X7_lay : GoodIn lw_tbl (wsV RL 162 RX7 yX7_lay wsX7_lay) := goodIn_sub (List.forall_mem_append.mpr ⟨(hs_inc _ [(4, 23), (4, 24), (4, 25), (1, 1)] rfl), hm_wsX7_lay⟩) (by decide +kernel)

set_option maxRecDepth 20000 in
theorem hm_wsX8_lay : ∀ w ∈ wsX8_lay, w ∈ lw_tbl := List.forall_mem_cons.mpr ⟨hs_in1 6 24 rfl, (List.forall_mem_append.mpr ⟨(hs_inc _ [(4, 107), (4, 108), (4, 109), (6, 18), (6, 19), (1, 8), (6, 20), (5, 81), (5, 86), (4, 182), (4, 183), (4, 184)] rfl), inX8⟩)⟩

set_option maxRecDepth 20000 in
theorem hgL_law_X8_lay : GoodIn lw_tbl (wsV RL 165 RX8 yX8_lay wsX8_lay) := goodIn_sub (List.forall_mem_append.mpr ⟨(hs_inc _ [(6, 21), (6, 22), (6, 23), (1, 8)] rfl), hm_wsX8_lay⟩) (by decide +kernel)

set_option maxRecDepth 20000 in
theorem hm_wsX7_read_r1 : ∀ w ∈ wsX7_read_r1, w ∈ lw_tbl := (hs_inc _ [(1, 222), (1, 215), (1, 224), (4, 12), (4, 13), (1, 1), (4, 14), (2, 10), (2, 11), (2, 12), (4, 15), (4, 16), (1, 7), (4, 17), (4, 43), (4, 44), (4, 45), (4, 46), (1, 205), (4, 31), (4, 32), (4, 33), (4, 34), (4, 47)] rfl)

set_option maxRecDepth 20000 in
theorem hm_wsX7_read_r2 : ∀ w ∈ wsX7_read_r2, w ∈ lw_tbl := (hs_inc _ [(4, 28), (4, 29), (4, 30), (1, 206), (4, 48), (4, 49), (4, 50), (4, 51), (1, 204), (2, 220), (2, 221), (2, 222), (1, 2), (2, 223), (2, 224), (2, 201), (2, 202), (2, 203), (1, 51), (4, 52), (2, 217), (2, 218), (2, 219), (1, 36)] rfl)

set_option maxRecDepth 20000 in
theorem hm_wsX7_read : ∀ w ∈ wsX7_read, w ∈ lw_tbl := List.forall_mem_cons.mpr ⟨hs_in1 4 42 rfl, (List.forall_mem_append.mpr ⟨(List.forall_mem_append.mpr ⟨(List.forall_mem_append.mpr ⟨(List.forall_mem_append.mpr ⟨hm_wsX7_read_r1, hm_wsX7_read_r2⟩), inX7⟩), inX3⟩), inX6⟩)⟩

set_option maxRecDepth 20000 in
theorem hgL_law_X7_read : GoodIn lw_tbl (wsV RL 166 RX7 yX7_read wsX7_read) := goodIn_sub (List.forall_mem_append.mpr ⟨(hs_inc _ [(4, 39), (4, 40), (4, 41), (1, 1)] rfl), hm_wsX7_read⟩) (by decide +kernel)

set_option maxRecDepth 20000 in
theorem hm_wsX8_read_r1 : ∀ w ∈ wsX8_read_r1, w ∈ lw_tbl := (hs_inc _ [(6, 29), (4, 111), (4, 80), (4, 107), (4, 108), (4, 109), (4, 110), (6, 18), (6, 19), (1, 8), (6, 20), (5, 81), (5, 86), (4, 182), (4, 183), (4, 184), (6, 30), (5, 61), (5, 62), (5, 63), (5, 64), (5, 44), (5, 46), (0, 37)] rfl)

set_option maxRecDepth 20000 in
theorem hm_wsX8_read_r2 : ∀ w ∈ wsX8_read_r2, w ∈ lw_tbl := (hs_inc _ [(5, 47), (5, 65), (5, 67), (0, 39), (5, 68)] rfl)

set_option maxRecDepth 20000 in
theorem hm_wsX8_read : ∀ w ∈ wsX8_read, w ∈ lw_tbl := List.forall_mem_cons.mpr ⟨hs_in1 6 28 rfl, (List.forall_mem_append.mpr ⟨(List.forall_mem_append.mpr ⟨hm_wsX8_read_r1, hm_wsX8_read_r2⟩), inX8⟩)⟩

set_option maxRecDepth 20000 in
theorem hgL_law_X8_read : GoodIn lw_tbl (wsV RL 170 RX8 yX8_read wsX8_read) := goodIn_sub (List.forall_mem_append.mpr ⟨(hs_inc _ [(6, 25), (6, 26), (6, 27), (1, 8)] rfl), hm_wsX8_read⟩) (by decide +kernel)

set_option maxRecDepth 20000 in
theorem hm_wsX7_torn : ∀ w ∈ wsX7_torn, w ∈ lw_tbl := List.forall_mem_cons.mpr ⟨hs_in1 4 56 rfl, (List.forall_mem_append.mpr ⟨(hs_inc _ [(1, 224)] rfl), inX7⟩)⟩

set_option maxRecDepth 20000 in
theorem hgL_law_X7_torn : GoodIn lw_tbl (wsV RL 171 RX7 yX7_torn wsX7_torn) := goodIn_sub (List.forall_mem_append.mpr ⟨(hs_inc _ [(4, 53), (4, 54), (4, 55), (1, 1)] rfl), hm_wsX7_torn⟩) (by decide +kernel)

set_option maxRecDepth 20000 in
theorem hm_wsX8_torn : ∀ w ∈ wsX8_torn, w ∈ lw_tbl := List.forall_mem_cons.mpr ⟨hs_in1 6 34 rfl, (List.forall_mem_append.mpr ⟨(hs_inc _ [(4, 110)] rfl), inX8⟩)⟩

set_option maxRecDepth 20000 in
theorem hgL_law_X8_torn : GoodIn lw_tbl (wsV RL 174 RX8 yX8_torn wsX8_torn) := goodIn_sub (List.forall_mem_append.mpr ⟨(hs_inc _ [(6, 31), (6, 32), (6, 33), (1, 8)] rfl), hm_wsX8_torn⟩) (by decide +kernel)

set_option maxRecDepth 20000 in
theorem hm_wsX7_count : ∀ w ∈ wsX7_count, w ∈ lw_tbl := List.forall_mem_cons.mpr ⟨hs_in1 4 60 rfl, (List.forall_mem_append.mpr ⟨(List.forall_mem_append.mpr ⟨(List.forall_mem_append.mpr ⟨(List.forall_mem_append.mpr ⟨(List.forall_mem_append.mpr ⟨(hs_inc _ [(1, 215), (1, 77), (1, 219), (1, 151), (1, 125), (1, 222), (1, 207), (4, 61), (4, 63), (0, 16), (1, 1), (4, 64), (1, 218), (4, 65), (4, 32), (4, 33), (1, 7), (4, 34), (1, 205)] rfl), inX7⟩), inX6⟩), inX5⟩), inX4⟩), inX3⟩)⟩

set_option maxRecDepth 20000 in
theorem hgL_law_X7_count : GoodIn lw_tbl (wsV RL 175 RX7 yX7_count wsX7_count) := goodIn_sub (List.forall_mem_append.mpr ⟨(hs_inc _ [(4, 57), (4, 58), (4, 59), (1, 1)] rfl), hm_wsX7_count⟩) (by decide +kernel)

set_option maxRecDepth 20000 in
theorem hm_wsX8_count : ∀ w ∈ wsX8_count, w ∈ lw_tbl := List.forall_mem_cons.mpr ⟨hs_in1 6 38 rfl, (List.forall_mem_append.mpr ⟨(hs_inc _ [(4, 80), (4, 82), (4, 91), (4, 107), (4, 108), (5, 142), (5, 143), (1, 8), (5, 144)] rfl), inX8⟩)⟩

set_option maxRecDepth 20000 in
theorem hgL_law_X8_count : GoodIn lw_tbl (wsV RL 178 RX8 yX8_count wsX8_count) := goodIn_sub (List.forall_mem_append.mpr ⟨(hs_inc _ [(6, 35), (6, 36), (6, 37), (1, 8)] rfl), hm_wsX8_count⟩) (by decide +kernel)
