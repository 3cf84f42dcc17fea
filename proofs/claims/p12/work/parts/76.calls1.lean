set_option maxRecDepth 20000 in
theorem hm_wsX7_init_r1 : ∀ w ∈ wsX7_init_r1, w ∈ lw_tbl := (hs_inc _ [(1, 22), (1, 23), (1, 24), (1, 25), (1, 26), (1, 2), (1, 215), (1, 216), (1, 217), (1, 147), (1, 218), (1, 111), (1, 112), (1, 3), (1, 219), (1, 170), (1, 171), (1, 5), (1, 220), (1, 186), (1, 187), (1, 6), (1, 221), (1, 197)] rfl)

set_option maxRecDepth 20000 in
theorem hm_wsX7_init_r2 : ∀ w ∈ wsX7_init_r2, w ∈ lw_tbl := (hs_inc _ [(1, 222), (1, 199), (1, 7), (1, 27), (1, 28), (1, 29), (1, 30), (1, 109), (1, 35), (1, 38), (1, 40), (1, 44), (1, 48), (1, 49), (1, 50), (1, 31), (1, 32), (1, 33), (1, 34), (1, 51), (1, 55), (1, 59), (1, 63), (1, 66)] rfl)

set_option maxRecDepth 20000 in
theorem hm_wsX7_init_r3 : ∀ w ∈ wsX7_init_r3, w ∈ lw_tbl := (hs_inc _ [(1, 69), (1, 73), (1, 76), (1, 114), (1, 115), (1, 116), (1, 117), (1, 118), (1, 4), (1, 150), (1, 148), (1, 152), (1, 120), (1, 121), (1, 122), (1, 123), (1, 149), (1, 173), (1, 174), (1, 175), (1, 176), (1, 177), (1, 189), (1, 190)] rfl)

set_option maxRecDepth 20000 in
theorem hm_wsX7_init_r4 : ∀ w ∈ wsX7_init_r4, w ∈ lw_tbl := (hs_inc _ [(1, 191), (1, 196), (1, 192), (1, 201), (1, 202), (1, 203), (1, 204), (1, 205)] rfl)

set_option maxRecDepth 20000 in
theorem hm_wsX7_init : ∀ w ∈ wsX7_init, w ∈ lw_tbl := List.forall_mem_cons.mpr ⟨hs_in1 1 21 rfl, (List.forall_mem_append.mpr ⟨(List.forall_mem_append.mpr ⟨(List.forall_mem_append.mpr ⟨(List.forall_mem_append.mpr ⟨(List.forall_mem_append.mpr ⟨(List.forall_mem_append.mpr ⟨(List.forall_mem_append.mpr ⟨(List.forall_mem_append.mpr ⟨hm_wsX7_init_r1, (List.forall_mem_append.mpr ⟨hm_wsX7_init_r2, (List.forall_mem_append.mpr ⟨hm_wsX7_init_r3, hm_wsX7_init_r4⟩)⟩)⟩), inX6⟩), inX7⟩), inX5⟩), inX2⟩), inX0⟩), inX3⟩), inX4⟩)⟩

set_option maxRecDepth 20000 in
theorem hgL_law_X7_init : GoodIn lw_tbl (wsX7_init) := goodIn_sub hm_wsX7_init (by decide +kernel)

set_option maxRecDepth 20000 in
theorem hm_wsX8_init_r1 : ∀ w ∈ wsX8_init_r1, w ∈ lw_tbl := (hs_inc _ [(4, 71), (1, 23), (1, 24), (1, 109), (4, 80), (4, 81), (1, 147), (4, 82), (4, 85), (4, 90), (4, 98), (4, 103), (4, 107), (4, 108), (4, 109), (4, 111), (4, 72), (4, 74), (0, 17), (1, 8), (4, 75), (4, 86), (4, 87), (4, 88)] rfl)

set_option maxRecDepth 20000 in
theorem hm_wsX8_init_r2 : ∀ w ∈ wsX8_init_r2, w ∈ lw_tbl := (hs_inc _ [(4, 89), (4, 76), (4, 78), (0, 18), (4, 79), (4, 83), (4, 84)] rfl)

set_option maxRecDepth 20000 in
theorem hm_wsX8_init : ∀ w ∈ wsX8_init, w ∈ lw_tbl := List.forall_mem_cons.mpr ⟨hs_in1 4 70 rfl, (List.forall_mem_append.mpr ⟨(List.forall_mem_append.mpr ⟨hm_wsX8_init_r1, hm_wsX8_init_r2⟩), inX8⟩)⟩

set_option maxRecDepth 20000 in
theorem hgL_law_X8_init : GoodIn lw_tbl (wsX8_init) := goodIn_sub hm_wsX8_init (by decide +kernel)

set_option maxRecDepth 20000 in
theorem hm_wsX7_feed : ∀ w ∈ wsX7_feed, w ∈ lw_tbl := List.forall_mem_cons.mpr ⟨hs_in1 2 9 rfl, (List.forall_mem_append.mpr ⟨(List.forall_mem_append.mpr ⟨(List.forall_mem_append.mpr ⟨(hs_inc _ [(1, 219), (1, 151), (1, 125), (1, 124), (2, 10), (2, 11), (1, 1), (2, 12)] rfl), inX7⟩), inX5⟩), inX4⟩)⟩

set_option maxRecDepth 20000 in
theorem hgL_law_X7_feed : GoodIn lw_tbl (wsV RL 13 RX7 yX7_feed wsX7_feed) := goodIn_sub (List.forall_mem_append.mpr ⟨(hs_inc _ [(2, 6), (2, 7), (2, 8), (1, 1)] rfl), hm_wsX7_feed⟩) (by decide +kernel)

set_option maxRecDepth 20000 in
theorem hm_wsX8_feed : ∀ w ∈ wsX8_feed, w ∈ lw_tbl := List.forall_mem_cons.mpr ⟨hs_in1 4 180 rfl, (List.forall_mem_append.mpr ⟨(hs_inc _ [(4, 181), (4, 91), (4, 90), (4, 182), (4, 183), (1, 8), (4, 184)] rfl), inX8⟩)⟩

set_option maxRecDepth 20000 in
theorem hgL_law_X8_feed : GoodIn lw_tbl (wsV RL 17 RX8 yX8_feed wsX8_feed) := goodIn_sub (List.forall_mem_append.mpr ⟨(hs_inc _ [(4, 177), (4, 178), (4, 179), (1, 8)] rfl), hm_wsX8_feed⟩) (by decide +kernel)

set_option maxRecDepth 20000 in
theorem hm_wsX7_end : ∀ w ∈ wsX7_end, w ∈ lw_tbl := List.forall_mem_cons.mpr ⟨hs_in1 2 16 rfl, (List.forall_mem_append.mpr ⟨(List.forall_mem_append.mpr ⟨(List.forall_mem_append.mpr ⟨(hs_inc _ [(1, 219), (1, 151), (1, 125), (2, 10), (2, 11), (1, 1), (2, 12)] rfl), inX7⟩), inX5⟩), inX4⟩)⟩

set_option maxRecDepth 20000 in
theorem hgL_law_X7_end : GoodIn lw_tbl (wsV RL 18 RX7 yX7_end wsX7_end) := goodIn_sub (List.forall_mem_append.mpr ⟨(hs_inc _ [(2, 13), (2, 14), (2, 15), (1, 1)] rfl), hm_wsX7_end⟩) (by decide +kernel)

set_option maxRecDepth 20000 in
theorem hm_wsX8_end : ∀ w ∈ wsX8_end, w ∈ lw_tbl := List.forall_mem_cons.mpr ⟨hs_in1 4 188 rfl, (List.forall_mem_append.mpr ⟨(hs_inc _ [(4, 91), (4, 182), (4, 183), (1, 8), (4, 184)] rfl), inX8⟩)⟩

set_option maxRecDepth 20000 in
theorem hgL_law_X8_end : GoodIn lw_tbl (wsV RL 21 RX8 yX8_end wsX8_end) := goodIn_sub (List.forall_mem_append.mpr ⟨(hs_inc _ [(4, 185), (4, 186), (4, 187), (1, 8)] rfl), hm_wsX8_end⟩) (by decide +kernel)

set_option maxRecDepth 20000 in
theorem hm_wsX7_text_r1 : ∀ w ∈ wsX7_text_r1, w ∈ lw_tbl := (hs_inc _ [(1, 219), (1, 220), (1, 151), (1, 125), (1, 156), (1, 223), (1, 158), (1, 215), (1, 153), (1, 218), (2, 21), (2, 22), (2, 23), (1, 3), (2, 24), (1, 152), (1, 154), (1, 155), (1, 157), (1, 150), (1, 127), (2, 25), (1, 32), (1, 33)] rfl)

set_option maxRecDepth 20000 in
theorem hm_wsX7_text_r2 : ∀ w ∈ wsX7_text_r2, w ∈ lw_tbl := (hs_inc _ [(1, 2), (1, 34), (1, 35), (1, 51), (1, 55), (1, 59), (1, 63), (1, 66), (1, 69), (1, 73), (1, 76), (2, 26), (2, 27), (2, 28), (1, 4), (2, 29), (1, 131), (2, 30), (2, 31), (2, 32), (2, 33), (1, 129), (1, 126), (1, 123)] rfl)

set_option maxRecDepth 20000 in
theorem hm_wsX7_text_r3 : ∀ w ∈ wsX7_text_r3, w ∈ lw_tbl := (hs_inc _ [(1, 132), (1, 128), (2, 34), (2, 35), (2, 36), (2, 37), (2, 39), (0, 0), (2, 40), (2, 41), (2, 43), (0, 1), (2, 44), (2, 45), (2, 47), (0, 2), (2, 48), (1, 60), (1, 64), (1, 70), (2, 49), (2, 51), (0, 3), (2, 52)] rfl)

set_option maxRecDepth 20000 in
theorem hm_wsX7_text_r4 : ∀ w ∈ wsX7_text_r4, w ∈ lw_tbl := (hs_inc _ [(2, 53), (2, 54), (2, 55), (2, 65), (2, 66), (2, 67), (2, 68), (2, 69), (2, 70), (2, 71), (1, 9), (2, 72), (6, 39), (2, 73), (2, 74), (2, 75), (2, 76), (2, 77), (6, 40), (2, 79), (2, 80), (2, 81), (2, 82), (2, 83)] rfl)

set_option maxRecDepth 20000 in
theorem hm_wsX7_text_r5 : ∀ w ∈ wsX7_text_r5, w ∈ lw_tbl := (hs_inc _ [(2, 84), (2, 85), (2, 86), (2, 87), (2, 88), (1, 10), (2, 89), (2, 90), (2, 91), (2, 92), (2, 93), (2, 95), (2, 96), (1, 11), (2, 97), (2, 98), (2, 99), (1, 12), (2, 100), (2, 101), (2, 102), (2, 103), (2, 104), (2, 105)] rfl)

set_option maxRecDepth 20000 in
theorem hm_wsX7_text_r6 : ∀ w ∈ wsX7_text_r6, w ∈ lw_tbl := (hs_inc _ [(2, 106), (2, 107), (2, 108), (2, 109), (2, 110), (2, 111), (2, 113), (2, 115), (2, 117), (2, 119), (0, 4), (2, 120), (1, 74), (1, 56), (2, 121), (2, 123), (0, 5), (2, 124), (2, 125), (2, 127), (0, 6), (2, 128), (1, 130), (2, 129)] rfl)

set_option maxRecDepth 20000 in
theorem hm_wsX7_text_r7 : ∀ w ∈ wsX7_text_r7, w ∈ lw_tbl := (hs_inc _ [(2, 130), (2, 132), (0, 7), (2, 133), (1, 54), (1, 37), (1, 133), (2, 134), (2, 136), (0, 8), (2, 137), (2, 11), (1, 1), (2, 12), (2, 139), (2, 141), (0, 9), (2, 142), (2, 143), (2, 144), (2, 145), (2, 146), (1, 40), (1, 44)] rfl)

set_option maxRecDepth 20000 in
theorem hm_wsX7_text_r8 : ∀ w ∈ wsX7_text_r8, w ∈ lw_tbl := (hs_inc _ [(2, 147), (2, 148), (2, 149), (2, 150), (1, 38), (2, 151), (2, 153), (0, 10), (2, 154), (2, 155), (2, 157), (0, 11), (2, 158), (1, 43), (1, 47), (2, 159), (2, 160), (2, 161), (2, 162), (2, 164), (2, 165), (2, 166), (1, 5), (2, 167)] rfl)

set_option maxRecDepth 20000 in
theorem hm_wsX7_text_r9 : ∀ w ∈ wsX7_text_r9, w ∈ lw_tbl := (hs_inc _ [(1, 68), (1, 178), (1, 176), (1, 72), (1, 45), (1, 41), (2, 168), (2, 169), (2, 170), (2, 171), (1, 177), (2, 172), (2, 174), (0, 12), (2, 175), (2, 176), (2, 177), (2, 178), (2, 179), (2, 180), (2, 182), (2, 181), (1, 13), (1, 48)] rfl)

set_option maxRecDepth 20000 in
theorem hm_wsX7_text_r10 : ∀ w ∈ wsX7_text_r10, w ∈ lw_tbl := (hs_inc _ [(1, 49), (1, 50)] rfl)

set_option maxRecDepth 20000 in
theorem hm_wsX7_text : ∀ w ∈ wsX7_text, w ∈ lw_tbl := List.forall_mem_cons.mpr ⟨hs_in1 2 20 rfl, (List.forall_mem_append.mpr ⟨(List.forall_mem_append.mpr ⟨(List.forall_mem_append.mpr ⟨(List.forall_mem_append.mpr ⟨(List.forall_mem_append.mpr ⟨(List.forall_mem_append.mpr ⟨hm_wsX7_text_r1, (List.forall_mem_append.mpr ⟨hm_wsX7_text_r2, (List.forall_mem_append.mpr ⟨hm_wsX7_text_r3, (List.forall_mem_append.mpr ⟨hm_wsX7_text_r4, (List.forall_mem_append.mpr ⟨hm_wsX7_text_r5, (List.forall_mem_append.mpr ⟨hm_wsX7_text_r6, (List.forall_mem_append.mpr ⟨hm_wsX7_text_r7, (List.forall_mem_append.mpr ⟨hm_wsX7_text_r8, (List.forall_mem_append.mpr ⟨hm_wsX7_text_r9, hm_wsX7_text_r10⟩)⟩)⟩)⟩)⟩)⟩)⟩)⟩)⟩), inX7⟩), inX5⟩), inX4⟩), inX6⟩), inX2⟩)⟩

set_option maxRecDepth 20000 in
theorem hgL_law_X7_text : GoodIn lw_tbl (wsV RL 22 RX7 yX7_text wsX7_text) := goodIn_sub (List.forall_mem_append.mpr ⟨(hs_inc _ [(2, 17), (2, 18), (2, 19), (1, 1)] rfl), hm_wsX7_text⟩) (by decide +kernel)

set_option maxRecDepth 20000 in
theorem hm_wsX8_text_r1 : ∀ w ∈ wsX8_text_r1, w ∈ lw_tbl := (hs_inc _ [(4, 96), (4, 92), (4, 94), (4, 89), (4, 87), (4, 81), (4, 85), (4, 99), (4, 91), (4, 97), (4, 72), (4, 74), (0, 17), (1, 8), (4, 75), (4, 86), (4, 88), (4, 193), (4, 195), (0, 19), (4, 196), (4, 93), (4, 201), (4, 202)] rfl)

set_option maxRecDepth 20000 in
theorem hm_wsX8_text_r2 : ∀ w ∈ wsX8_text_r2, w ∈ lw_tbl := (hs_inc _ [(4, 203), (4, 204), (4, 95), (4, 197), (4, 199), (0, 20), (4, 200), (4, 90), (4, 182), (4, 183), (4, 184), (4, 205), (4, 207), (0, 21), (4, 208), (4, 209), (4, 211), (0, 22), (4, 212), (4, 213), (4, 215), (0, 23), (4, 216), (4, 217)] rfl)

set_option maxRecDepth 20000 in
theorem hm_wsX8_text_r3 : ∀ w ∈ wsX8_text_r3, w ∈ lw_tbl := (hs_inc _ [(4, 219), (0, 24), (4, 220), (4, 221), (4, 223), (0, 25), (4, 224), (4, 225), (4, 227), (0, 26), (4, 228), (4, 229), (4, 231), (0, 27), (4, 232), (4, 233), (4, 235), (0, 28), (4, 236), (4, 237), (4, 239), (0, 29), (5, 0), (5, 1)] rfl)

set_option maxRecDepth 20000 in
theorem hm_wsX8_text_r4 : ∀ w ∈ wsX8_text_r4, w ∈ lw_tbl := (hs_inc _ [(5, 3), (0, 30), (5, 4), (5, 5), (5, 7), (0, 31), (5, 8), (4, 100), (4, 101), (4, 102), (4, 103), (4, 98), (5, 9), (5, 10), (5, 11), (5, 12), (5, 14), (0, 32), (5, 15), (5, 16), (5, 18), (0, 33), (5, 19), (5, 20)] rfl)

set_option maxRecDepth 20000 in
theorem hm_wsX8_text_r5 : ∀ w ∈ wsX8_text_r5, w ∈ lw_tbl := (hs_inc _ [(5, 22), (0, 34), (5, 23), (4, 76), (4, 78), (0, 18), (4, 79), (4, 80), (4, 83), (4, 84), (4, 82)] rfl)

set_option maxRecDepth 20000 in
theorem hm_wsX8_text : ∀ w ∈ wsX8_text, w ∈ lw_tbl := List.forall_mem_cons.mpr ⟨hs_in1 4 192 rfl, (List.forall_mem_append.mpr ⟨(List.forall_mem_append.mpr ⟨hm_wsX8_text_r1, (List.forall_mem_append.mpr ⟨hm_wsX8_text_r2, (List.forall_mem_append.mpr ⟨hm_wsX8_text_r3, (List.forall_mem_append.mpr ⟨hm_wsX8_text_r4, hm_wsX8_text_r5⟩)⟩)⟩)⟩), inX8⟩)⟩

set_option maxRecDepth 20000 in
theorem hgL_law_X8_text : GoodIn lw_tbl (wsV RL 26 RX8 yX8_text wsX8_text) := goodIn_sub (List.forall_mem_append.mpr ⟨(hs_inc _ [(4, 189), (4, 190), (4, 191), (1, 8)] rfl), hm_wsX8_text⟩) (by decide +kernel)

set_option maxRecDepth 20000 in
theorem hm_wsX7_fault : ∀ w ∈ wsX7_fault, w ∈ lw_tbl := List.forall_mem_cons.mpr ⟨hs_in1 2 187 rfl, (List.forall_mem_append.mpr ⟨(hs_inc _ [(1, 223)] rfl), inX7⟩)⟩

set_option maxRecDepth 20000 in
theorem hgL_law_X7_fault : GoodIn lw_tbl (wsV RL 27 RX7 yX7_fault wsX7_fault) := goodIn_sub (List.forall_mem_append.mpr ⟨(hs_inc _ [(2, 184), (2, 185), (2, 186), (1, 1)] rfl), hm_wsX7_fault⟩) (by decide +kernel)

set_option maxRecDepth 20000 in
theorem hm_wsX8_fault : ∀ w ∈ wsX8_fault, w ∈ lw_tbl := List.forall_mem_cons.mpr ⟨hs_in1 5 27 rfl, (List.forall_mem_append.mpr ⟨(hs_inc _ [(4, 96)] rfl), inX8⟩)⟩

set_option maxRecDepth 20000 in
theorem hgL_law_X8_fault : GoodIn lw_tbl (wsV RL 30 RX8 yX8_fault wsX8_fault) := goodIn_sub (List.forall_mem_append.mpr ⟨(hs_inc _ [(5, 24), (5, 25), (5, 26), (1, 8)] rfl), hm_wsX8_fault⟩) (by decide +kernel)

set_option maxRecDepth 20000 in
theorem hm_wsX7_rule : ∀ w ∈ wsX7_rule, w ∈ lw_tbl := List.forall_mem_cons.mpr ⟨hs_in1 2 191 rfl, (List.forall_mem_append.mpr ⟨(List.forall_mem_append.mpr ⟨(hs_inc _ [(1, 215), (1, 53), (1, 57), (1, 61), (1, 65), (1, 67), (1, 71), (1, 75), (2, 192), (2, 193), (2, 194), (1, 2), (2, 195), (1, 51), (1, 35)] rfl), inX7⟩), inX6⟩)⟩

set_option maxRecDepth 20000 in
theorem hgL_law_X7_rule : GoodIn lw_tbl (wsV RL 31 RX7 yX7_rule wsX7_rule) := goodIn_sub (List.forall_mem_append.mpr ⟨(hs_inc _ [(2, 188), (2, 189), (2, 190), (1, 1)] rfl), hm_wsX7_rule⟩) (by decide +kernel)

set_option maxRecDepth 20000 in
theorem hm_wsX8_rule : ∀ w ∈ wsX8_rule, w ∈ lw_tbl := List.forall_mem_cons.mpr ⟨hs_in1 5 31 rfl, (List.forall_mem_append.mpr ⟨(hs_inc _ [(4, 80), (4, 83), (4, 84), (5, 32), (5, 34), (0, 35), (1, 8), (5, 35), (4, 81), (5, 36), (5, 38), (0, 36), (5, 39)] rfl), inX8⟩)⟩

set_option maxRecDepth 20000 in
theorem hgL_law_X8_rule : GoodIn lw_tbl (wsV RL 34 RX8 yX8_rule wsX8_rule) := goodIn_sub (List.forall_mem_append.mpr ⟨(hs_inc _ [(5, 28), (5, 29), (5, 30), (1, 8)] rfl), hm_wsX8_rule⟩) (by decide +kernel)

set_option maxRecDepth 20000 in
theorem hm_wsX7_cell : ∀ w ∈ wsX7_cell, w ∈ lw_tbl := List.forall_mem_cons.mpr ⟨hs_in1 2 199 rfl, (List.forall_mem_append.mpr ⟨(List.forall_mem_append.mpr ⟨(hs_inc _ [(1, 215), (1, 36), (2, 200), (2, 201), (2, 202), (1, 2), (2, 203), (1, 51), (2, 11), (1, 1), (2, 12)] rfl), inX7⟩), inX6⟩)⟩

set_option maxRecDepth 20000 in
theorem hgL_law_X7_cell : GoodIn lw_tbl (wsV RL 35 RX7 yX7_cell wsX7_cell) := goodIn_sub (List.forall_mem_append.mpr ⟨(hs_inc _ [(2, 196), (2, 197), (2, 198), (1, 1)] rfl), hm_wsX7_cell⟩) (by decide +kernel)

set_option maxRecDepth 20000 in
theorem hm_wsX8_cell : ∀ w ∈ wsX8_cell, w ∈ lw_tbl := List.forall_mem_cons.mpr ⟨hs_in1 5 43 rfl, (List.forall_mem_append.mpr ⟨(hs_inc _ [(4, 80), (5, 44), (5, 46), (0, 37), (1, 8), (5, 47), (4, 182), (4, 183), (4, 184)] rfl), inX8⟩)⟩

set_option maxRecDepth 20000 in
theorem hgL_law_X8_cell : GoodIn lw_tbl (wsV RL 38 RX8 yX8_cell wsX8_cell) := goodIn_sub (List.forall_mem_append.mpr ⟨(hs_inc _ [(5, 40), (5, 41), (5, 42), (1, 8)] rfl), hm_wsX8_cell⟩) (by decide +kernel)

set_option maxRecDepth 20000 in
theorem hm_wsX7_person : ∀ w ∈ wsX7_person, w ∈ lw_tbl := List.forall_mem_cons.mpr ⟨hs_in1 2 207 rfl, (List.forall_mem_append.mpr ⟨(List.forall_mem_append.mpr ⟨(hs_inc _ [(1, 215), (1, 39), (2, 208), (2, 209), (2, 210), (1, 2), (2, 211), (1, 55), (2, 11), (1, 1), (2, 12)] rfl), inX7⟩), inX6⟩)⟩

set_option maxRecDepth 20000 in
theorem hgL_law_X7_person : GoodIn lw_tbl (wsV RL 39 RX7 yX7_person wsX7_person) := goodIn_sub (List.forall_mem_append.mpr ⟨(hs_inc _ [(2, 204), (2, 205), (2, 206), (1, 1)] rfl), hm_wsX7_person⟩) (by decide +kernel)

set_option maxRecDepth 20000 in
theorem hm_wsX8_person : ∀ w ∈ wsX8_person, w ∈ lw_tbl := List.forall_mem_cons.mpr ⟨hs_in1 5 51 rfl, (List.forall_mem_append.mpr ⟨(hs_inc _ [(4, 80), (5, 52), (5, 54), (0, 38), (1, 8), (5, 55), (4, 83), (4, 182), (4, 183), (4, 184)] rfl), inX8⟩)⟩

set_option maxRecDepth 20000 in
theorem hgL_law_X8_person : GoodIn lw_tbl (wsV RL 42 RX8 yX8_person wsX8_person) := goodIn_sub (List.forall_mem_append.mpr ⟨(hs_inc _ [(5, 48), (5, 49), (5, 50), (1, 8)] rfl), hm_wsX8_person⟩) (by decide +kernel)

set_option maxRecDepth 20000 in
theorem hm_wsX7_pair : ∀ w ∈ wsX7_pair, w ∈ lw_tbl := List.forall_mem_cons.mpr ⟨hs_in1 2 215 rfl, (List.forall_mem_append.mpr ⟨(List.forall_mem_append.mpr ⟨(hs_inc _ [(1, 215), (1, 75), (1, 42), (1, 46), (2, 10), (2, 11), (1, 1), (2, 12)] rfl), inX7⟩), inX6⟩)⟩

set_option maxRecDepth 20000 in
theorem hgL_law_X7_pair : GoodIn lw_tbl (wsV RL 43 RX7 yX7_pair wsX7_pair) := goodIn_sub (List.forall_mem_append.mpr ⟨(hs_inc _ [(2, 212), (2, 213), (2, 214), (1, 1)] rfl), hm_wsX7_pair⟩) (by decide +kernel)

set_option maxRecDepth 20000 in
theorem hm_wsX8_pair : ∀ w ∈ wsX8_pair, w ∈ lw_tbl := List.forall_mem_cons.mpr ⟨hs_in1 5 59 rfl, (List.forall_mem_append.mpr ⟨(hs_inc _ [(4, 80), (4, 182), (4, 183), (1, 8), (4, 184)] rfl), inX8⟩)⟩

set_option maxRecDepth 20000 in
theorem hgL_law_X8_pair : GoodIn lw_tbl (wsV RL 46 RX8 yX8_pair wsX8_pair) := goodIn_sub (List.forall_mem_append.mpr ⟨(hs_inc _ [(5, 56), (5, 57), (5, 58), (1, 8)] rfl), hm_wsX8_pair⟩) (by decide +kernel)

set_option maxRecDepth 20000 in
theorem hm_wsX7_weigh : ∀ w ∈ wsX7_weigh, w ∈ lw_tbl := List.forall_mem_cons.mpr ⟨hs_in1 2 219 rfl, (List.forall_mem_append.mpr ⟨(List.forall_mem_append.mpr ⟨(hs_inc _ [(1, 215), (1, 36), (2, 220), (2, 221), (2, 222), (1, 2), (2, 223), (2, 224), (2, 201), (2, 202), (2, 203), (1, 51), (2, 11), (1, 1), (2, 12)] rfl), inX7⟩), inX6⟩)⟩

set_option maxRecDepth 20000 in
theorem hgL_law_X7_weigh : GoodIn lw_tbl (wsV RL 47 RX7 yX7_weigh wsX7_weigh) := goodIn_sub (List.forall_mem_append.mpr ⟨(hs_inc _ [(2, 216), (2, 217), (2, 218), (1, 1)] rfl), hm_wsX7_weigh⟩) (by decide +kernel)

set_option maxRecDepth 20000 in
theorem hm_wsX8_weigh : ∀ w ∈ wsX8_weigh, w ∈ lw_tbl := List.forall_mem_cons.mpr ⟨hs_in1 5 63 rfl, (List.forall_mem_append.mpr ⟨(hs_inc _ [(5, 64), (5, 44), (5, 46), (0, 37), (1, 8), (5, 47), (4, 80), (4, 182), (4, 183), (4, 184), (5, 65), (5, 67), (0, 39), (5, 68)] rfl), inX8⟩)⟩

set_option maxRecDepth 20000 in
theorem hgL_law_X8_weigh : GoodIn lw_tbl (wsV RL 51 RX8 yX8_weigh wsX8_weigh) := goodIn_sub (List.forall_mem_append.mpr ⟨(hs_inc _ [(5, 60), (5, 61), (5, 62), (1, 8)] rfl), hm_wsX8_weigh⟩) (by decide +kernel)

set_option maxRecDepth 20000 in
theorem hm_wsX7_split : ∀ w ∈ wsX7_split, w ∈ lw_tbl := List.forall_mem_cons.mpr ⟨hs_in1 2 228 rfl, (List.forall_mem_append.mpr ⟨(List.forall_mem_append.mpr ⟨(hs_inc _ [(1, 215), (1, 53), (2, 200), (2, 201), (2, 202), (1, 2), (2, 203), (1, 51), (2, 11), (1, 1), (2, 12), (2, 229), (2, 230), (2, 231), (2, 232), (1, 35), (2, 234), (2, 235)] rfl), inX7⟩), inX6⟩)⟩

set_option maxRecDepth 20000 in
theorem hgL_law_X7_split : GoodIn lw_tbl (wsV RL 52 RX7 yX7_split wsX7_split) := goodIn_sub (List.forall_mem_append.mpr ⟨(hs_inc _ [(2, 225), (2, 226), (2, 227), (1, 1)] rfl), hm_wsX7_split⟩) (by decide +kernel)

set_option maxRecDepth 20000 in
theorem hm_wsX8_split : ∀ w ∈ wsX8_split, w ∈ lw_tbl := List.forall_mem_cons.mpr ⟨hs_in1 5 72 rfl, (List.forall_mem_append.mpr ⟨(hs_inc _ [(4, 80), (5, 44), (5, 46), (0, 37), (1, 8), (5, 47), (4, 182), (4, 183), (4, 184)] rfl), inX8⟩)⟩

set_option maxRecDepth 20000 in
theorem hgL_law_X8_split : GoodIn lw_tbl (wsV RL 55 RX8 yX8_split wsX8_split) := goodIn_sub (List.forall_mem_append.mpr ⟨(hs_inc _ [(5, 69), (5, 70), (5, 71), (1, 8)] rfl), hm_wsX8_split⟩) (by decide +kernel)

set_option maxRecDepth 20000 in
theorem hm_wsX7_join : ∀ w ∈ wsX7_join, w ∈ lw_tbl := List.forall_mem_cons.mpr ⟨hs_in1 2 239 rfl, (List.forall_mem_append.mpr ⟨(List.forall_mem_append.mpr ⟨(hs_inc _ [(1, 215), (1, 53), (2, 200), (2, 201), (2, 202), (1, 2), (2, 203), (1, 51), (2, 11), (1, 1), (2, 12), (3, 0), (3, 1), (3, 2), (3, 3), (1, 35), (3, 4), (3, 5), (1, 14), (3, 6)] rfl), inX7⟩), inX6⟩)⟩

set_option maxRecDepth 20000 in
theorem hgL_law_X7_join : GoodIn lw_tbl (wsV RL 56 RX7 yX7_join wsX7_join) := goodIn_sub (List.forall_mem_append.mpr ⟨(hs_inc _ [(2, 236), (2, 237), (2, 238), (1, 1)] rfl), hm_wsX7_join⟩) (by decide +kernel)

set_option maxRecDepth 20000 in
theorem hm_wsX8_join : ∀ w ∈ wsX8_join, w ∈ lw_tbl := List.forall_mem_cons.mpr ⟨hs_in1 5 76 rfl, (List.forall_mem_append.mpr ⟨(hs_inc _ [(4, 80), (4, 182), (4, 183), (1, 8), (4, 184)] rfl), inX8⟩)⟩

set_option maxRecDepth 20000 in
theorem hgL_law_X8_join : GoodIn lw_tbl (wsV RL 59 RX8 yX8_join wsX8_join) := goodIn_sub (List.forall_mem_append.mpr ⟨(hs_inc _ [(5, 73), (5, 74), (5, 75), (1, 8)] rfl), hm_wsX8_join⟩) (by decide +kernel)

set_option maxRecDepth 20000 in
theorem hm_wsX7_teach : ∀ w ∈ wsX7_teach, w ∈ lw_tbl := List.forall_mem_cons.mpr ⟨hs_in1 3 10 rfl, (List.forall_mem_append.mpr ⟨(List.forall_mem_append.mpr ⟨(hs_inc _ [(1, 215), (1, 39), (2, 208), (2, 209), (2, 210), (1, 2), (2, 211), (1, 55), (2, 11), (1, 1), (2, 12), (2, 10)] rfl), inX7⟩), inX6⟩)⟩
