set_option maxRecDepth 20000 in
theorem hm_wsX7_sly_r3 : ∀ w ∈ wsX7_sly_r3, w ∈ lw_tbl := (hs_inc _ [(3, 43), (3, 124)] rfl)

set_option maxRecDepth 20000 in
theorem hm_wsX7_sly : ∀ w ∈ wsX7_sly, w ∈ lw_tbl := List.forall_mem_cons.mpr ⟨hs_in1 3 115 rfl, (List.forall_mem_append.mpr ⟨(List.forall_mem_append.mpr ⟨(List.forall_mem_append.mpr ⟨hm_wsX7_sly_r1, (List.forall_mem_append.mpr ⟨hm_wsX7_sly_r2, hm_wsX7_sly_r3⟩)⟩), inX7⟩), inX6⟩)⟩

set_option maxRecDepth 20000 in
theorem hgL_law_X7_sly : GoodIn lw_tbl (wsV RL 101 RX7 yX7_sly wsX7_sly) := goodIn_sub (List.forall_mem_append.mpr ⟨(hs_inc _ [(3, 112), (3, 113), (3, 114), (1, 1)] rfl), hm_wsX7_sly⟩) (by decide +kernel)

set_option maxRecDepth 20000 in
theorem hm_wsX8_sly_r1 : ∀ w ∈ wsX8_sly_r1, w ∈ lw_tbl := (hs_inc _ [(4, 81), (5, 52), (5, 54), (0, 38), (1, 8), (5, 55), (4, 83), (4, 182), (4, 183), (4, 184), (5, 149), (5, 150), (5, 151), (5, 32), (5, 34), (0, 35), (5, 35), (4, 80), (5, 127), (5, 129), (0, 45), (5, 130), (5, 168), (5, 170)] rfl)

set_option maxRecDepth 20000 in
theorem hm_wsX8_sly_r2 : ∀ w ∈ wsX8_sly_r2, w ∈ lw_tbl := (hs_inc _ [(0, 48), (5, 171), (5, 120), (5, 121), (5, 122), (5, 123), (5, 125), (0, 44), (5, 126), (5, 100), (5, 102), (0, 40), (5, 103), (5, 104), (5, 106), (0, 41), (5, 107)] rfl)

set_option maxRecDepth 20000 in
theorem hm_wsX8_sly : ∀ w ∈ wsX8_sly, w ∈ lw_tbl := List.forall_mem_cons.mpr ⟨hs_in1 5 175 rfl, (List.forall_mem_append.mpr ⟨(List.forall_mem_append.mpr ⟨hm_wsX8_sly_r1, hm_wsX8_sly_r2⟩), inX8⟩)⟩

set_option maxRecDepth 20000 in
theorem hgL_law_X8_sly : GoodIn lw_tbl (wsV RL 104 RX8 yX8_sly wsX8_sly) := goodIn_sub (List.forall_mem_append.mpr ⟨(hs_inc _ [(5, 172), (5, 173), (5, 174), (1, 8)] rfl), hm_wsX8_sly⟩) (by decide +kernel)

set_option maxRecDepth 20000 in
theorem hm_wsX7_halves_r1 : ∀ w ∈ wsX7_halves_r1, w ∈ lw_tbl := (hs_inc _ [(1, 215), (3, 129), (3, 130), (3, 131), (1, 2), (3, 132), (1, 55), (2, 10), (2, 11), (1, 1), (2, 12), (3, 133), (3, 134), (1, 16), (3, 135), (3, 111), (3, 37), (3, 38), (3, 39), (1, 51), (3, 136), (3, 137), (3, 138), (1, 52)] rfl)

set_option maxRecDepth 20000 in
theorem hm_wsX7_halves_r2 : ∀ w ∈ wsX7_halves_r2, w ∈ lw_tbl := (hs_inc _ [(3, 139), (3, 85), (1, 15), (3, 86), (3, 87), (3, 88), (3, 89), (3, 140), (3, 141), (3, 142), (1, 58), (3, 99), (3, 69), (1, 14), (3, 70), (1, 62), (3, 98), (3, 65), (3, 66), (3, 67), (3, 44), (3, 45), (3, 46), (3, 47)] rfl)

set_option maxRecDepth 20000 in
theorem hm_wsX7_halves_r3 : ∀ w ∈ wsX7_halves_r3, w ∈ lw_tbl := (hs_inc _ [(1, 35), (1, 38), (3, 143)] rfl)

set_option maxRecDepth 20000 in
theorem hm_wsX7_halves : ∀ w ∈ wsX7_halves, w ∈ lw_tbl := List.forall_mem_cons.mpr ⟨hs_in1 3 128 rfl, (List.forall_mem_append.mpr ⟨(List.forall_mem_append.mpr ⟨(List.forall_mem_append.mpr ⟨hm_wsX7_halves_r1, (List.forall_mem_append.mpr ⟨hm_wsX7_halves_r2, hm_wsX7_halves_r3⟩)⟩), inX7⟩), inX6⟩)⟩

set_option maxRecDepth 20000 in
theorem hgL_law_X7_halves : GoodIn lw_tbl (wsV RL 105 RX7 yX7_halves wsX7_halves) := goodIn_sub (List.forall_mem_append.mpr ⟨(hs_inc _ [(3, 125), (3, 126), (3, 127), (1, 1)] rfl), hm_wsX7_halves⟩) (by decide +kernel)

set_option maxRecDepth 20000 in
theorem hm_wsX8_halves_r1 : ∀ w ∈ wsX8_halves_r1, w ∈ lw_tbl := (hs_inc _ [(4, 83), (5, 163), (4, 81), (4, 182), (4, 183), (1, 8), (4, 184), (5, 149), (5, 150), (5, 151), (5, 32), (5, 34), (0, 35), (5, 35), (4, 80), (5, 127), (5, 129), (0, 45), (5, 130), (5, 180), (5, 182), (0, 49), (5, 183), (5, 142)] rfl)

set_option maxRecDepth 20000 in
theorem hm_wsX8_halves_r2 : ∀ w ∈ wsX8_halves_r2, w ∈ lw_tbl := (hs_inc _ [(5, 143), (5, 144), (5, 123), (5, 125), (0, 44), (5, 126), (5, 100), (5, 102), (0, 40), (5, 103), (5, 104), (5, 106), (0, 41), (5, 107), (5, 131), (5, 132), (5, 133)] rfl)

set_option maxRecDepth 20000 in
theorem hm_wsX8_halves : ∀ w ∈ wsX8_halves, w ∈ lw_tbl := List.forall_mem_cons.mpr ⟨hs_in1 5 179 rfl, (List.forall_mem_append.mpr ⟨(List.forall_mem_append.mpr ⟨hm_wsX8_halves_r1, hm_wsX8_halves_r2⟩), inX8⟩)⟩

set_option maxRecDepth 20000 in
theorem hgL_law_X8_halves : GoodIn lw_tbl (wsV RL 108 RX8 yX8_halves wsX8_halves) := goodIn_sub (List.forall_mem_append.mpr ⟨(hs_inc _ [(5, 176), (5, 177), (5, 178), (1, 8)] rfl), hm_wsX8_halves⟩) (by decide +kernel)

set_option maxRecDepth 20000 in
theorem hm_wsX7_stop : ∀ w ∈ wsX7_stop, w ∈ lw_tbl := List.forall_mem_cons.mpr ⟨hs_in1 3 147 rfl, (List.forall_mem_append.mpr ⟨(List.forall_mem_append.mpr ⟨(hs_inc _ [(1, 215), (1, 65), (2, 10), (2, 11), (1, 1), (2, 12), (3, 19), (2, 234), (2, 235)] rfl), inX7⟩), inX6⟩)⟩

set_option maxRecDepth 20000 in
theorem hgL_law_X7_stop : GoodIn lw_tbl (wsV RL 109 RX7 yX7_stop wsX7_stop) := goodIn_sub (List.forall_mem_append.mpr ⟨(hs_inc _ [(3, 144), (3, 145), (3, 146), (1, 1)] rfl), hm_wsX7_stop⟩) (by decide +kernel)

set_option maxRecDepth 20000 in
theorem hm_wsX8_stop : ∀ w ∈ wsX8_stop, w ∈ lw_tbl := List.forall_mem_cons.mpr ⟨hs_in1 5 187 rfl, (List.forall_mem_append.mpr ⟨(hs_inc _ [(5, 87), (4, 80), (4, 182), (4, 183), (1, 8), (4, 184), (5, 149), (5, 150), (5, 151)] rfl), inX8⟩)⟩

set_option maxRecDepth 20000 in
theorem hgL_law_X8_stop : GoodIn lw_tbl (wsV RL 112 RX8 yX8_stop wsX8_stop) := goodIn_sub (List.forall_mem_append.mpr ⟨(hs_inc _ [(5, 184), (5, 185), (5, 186), (1, 8)] rfl), hm_wsX8_stop⟩) (by decide +kernel)

set_option maxRecDepth 20000 in
theorem hm_wsX7_orders_r1 : ∀ w ∈ wsX7_orders_r1, w ∈ lw_tbl := (hs_inc _ [(1, 220), (1, 215), (1, 71), (3, 25), (2, 165), (2, 166), (1, 5), (2, 167), (1, 68), (1, 178), (1, 176), (1, 72), (1, 45), (1, 41), (3, 152), (2, 169), (2, 170), (2, 171), (1, 177), (2, 172), (2, 174), (0, 12), (2, 175), (3, 153)] rfl)

set_option maxRecDepth 20000 in
theorem hm_wsX7_orders_r2 : ∀ w ∈ wsX7_orders_r2, w ∈ lw_tbl := (hs_inc _ [(3, 154), (3, 155), (3, 156), (3, 157), (3, 158), (3, 159), (3, 160), (2, 10), (2, 11), (1, 1), (2, 12), (3, 161), (3, 162), (3, 163), (3, 164), (3, 165), (3, 167), (0, 14), (3, 168)] rfl)

set_option maxRecDepth 20000 in
theorem hm_wsX7_orders : ∀ w ∈ wsX7_orders, w ∈ lw_tbl := List.forall_mem_cons.mpr ⟨hs_in1 3 151 rfl, (List.forall_mem_append.mpr ⟨(List.forall_mem_append.mpr ⟨(List.forall_mem_append.mpr ⟨(List.forall_mem_append.mpr ⟨hm_wsX7_orders_r1, hm_wsX7_orders_r2⟩), inX7⟩), inX6⟩), inX2⟩)⟩

set_option maxRecDepth 20000 in
theorem hgL_law_X7_orders : GoodIn lw_tbl (wsV RL 113 RX7 yX7_orders wsX7_orders) := goodIn_sub (List.forall_mem_append.mpr ⟨(hs_inc _ [(3, 148), (3, 149), (3, 150), (1, 1)] rfl), hm_wsX7_orders⟩) (by decide +kernel)

set_option maxRecDepth 20000 in
theorem hm_wsX8_orders_r1 : ∀ w ∈ wsX8_orders_r1, w ∈ lw_tbl := (hs_inc _ [(5, 86), (4, 84), (4, 100), (4, 99), (4, 101), (4, 102), (4, 98), (4, 182), (4, 183), (1, 8), (4, 184), (5, 32), (5, 34), (0, 35), (5, 35), (4, 81), (4, 80), (5, 5), (5, 7), (0, 31), (5, 8), (4, 103), (5, 9), (5, 10)] rfl)

set_option maxRecDepth 20000 in
theorem hm_wsX8_orders_r2 : ∀ w ∈ wsX8_orders_r2, w ∈ lw_tbl := (hs_inc _ [(5, 11), (5, 12), (5, 14), (0, 32), (5, 15), (5, 16), (5, 18), (0, 33), (5, 19), (5, 20), (5, 22), (0, 34), (5, 23)] rfl)

set_option maxRecDepth 20000 in
theorem hm_wsX8_orders : ∀ w ∈ wsX8_orders, w ∈ lw_tbl := List.forall_mem_cons.mpr ⟨hs_in1 5 191 rfl, (List.forall_mem_append.mpr ⟨(List.forall_mem_append.mpr ⟨hm_wsX8_orders_r1, hm_wsX8_orders_r2⟩), inX8⟩)⟩

set_option maxRecDepth 20000 in
theorem hgL_law_X8_orders : GoodIn lw_tbl (wsV RL 116 RX8 yX8_orders wsX8_orders) := goodIn_sub (List.forall_mem_append.mpr ⟨(hs_inc _ [(5, 188), (5, 189), (5, 190), (1, 8)] rfl), hm_wsX8_orders⟩) (by decide +kernel)

set_option maxRecDepth 20000 in
theorem hm_wsX7_next_r1 : ∀ w ∈ wsX7_next_r1, w ∈ lw_tbl := (hs_inc _ [(1, 220), (1, 215), (1, 71), (3, 173), (3, 174), (1, 14), (3, 175), (2, 10), (2, 11), (1, 1), (2, 12), (3, 25), (2, 165), (2, 166), (1, 5), (2, 167), (1, 68), (1, 178), (1, 176), (1, 72), (1, 45), (1, 41), (3, 152), (2, 169)] rfl)

set_option maxRecDepth 20000 in
theorem hm_wsX7_next_r2 : ∀ w ∈ wsX7_next_r2, w ∈ lw_tbl := (hs_inc _ [(2, 170), (2, 171), (1, 177), (2, 172), (2, 174), (0, 12), (2, 175), (3, 26), (3, 27), (3, 28), (3, 29), (3, 30)] rfl)

set_option maxRecDepth 20000 in
theorem hm_wsX7_next : ∀ w ∈ wsX7_next, w ∈ lw_tbl := List.forall_mem_cons.mpr ⟨hs_in1 3 172 rfl, (List.forall_mem_append.mpr ⟨(List.forall_mem_append.mpr ⟨(List.forall_mem_append.mpr ⟨(List.forall_mem_append.mpr ⟨hm_wsX7_next_r1, hm_wsX7_next_r2⟩), inX7⟩), inX6⟩), inX2⟩)⟩

set_option maxRecDepth 20000 in
theorem hgL_law_X7_next : GoodIn lw_tbl (wsV RL 117 RX7 yX7_next wsX7_next) := goodIn_sub (List.forall_mem_append.mpr ⟨(hs_inc _ [(3, 169), (3, 170), (3, 171), (1, 1)] rfl), hm_wsX7_next⟩) (by decide +kernel)

set_option maxRecDepth 20000 in
theorem hm_wsX8_next_r1 : ∀ w ∈ wsX8_next_r1, w ∈ lw_tbl := (hs_inc _ [(4, 84), (4, 99), (4, 103), (5, 149), (5, 150), (1, 8), (5, 151), (4, 182), (4, 183), (4, 184), (5, 32), (5, 34), (0, 35), (5, 35), (4, 81), (4, 80), (5, 5), (5, 7), (0, 31), (5, 8), (4, 100), (4, 101), (4, 102), (4, 98)] rfl)

set_option maxRecDepth 20000 in
theorem hm_wsX8_next_r2 : ∀ w ∈ wsX8_next_r2, w ∈ lw_tbl := (hs_inc _ [(5, 9), (5, 10), (5, 11), (5, 12), (5, 14), (0, 32), (5, 15), (5, 16), (5, 18), (0, 33), (5, 19), (5, 20), (5, 22), (0, 34), (5, 23)] rfl)

set_option maxRecDepth 20000 in
theorem hm_wsX8_next : ∀ w ∈ wsX8_next, w ∈ lw_tbl := List.forall_mem_cons.mpr ⟨hs_in1 5 195 rfl, (List.forall_mem_append.mpr ⟨(List.forall_mem_append.mpr ⟨hm_wsX8_next_r1, hm_wsX8_next_r2⟩), inX8⟩)⟩

set_option maxRecDepth 20000 in
theorem hgL_law_X8_next : GoodIn lw_tbl (wsV RL 120 RX8 yX8_next wsX8_next) := goodIn_sub (List.forall_mem_append.mpr ⟨(hs_inc _ [(5, 192), (5, 193), (5, 194), (1, 8)] rfl), hm_wsX8_next⟩) (by decide +kernel)

set_option maxRecDepth 20000 in
theorem hm_wsX7_luck_r1 : ∀ w ∈ wsX7_luck_r1, w ∈ lw_tbl := (hs_inc _ [(3, 184), (1, 221), (1, 215), (1, 57), (3, 180), (3, 182), (0, 15), (1, 1), (3, 183), (2, 10), (2, 11), (2, 12), (3, 52), (3, 53), (3, 54), (1, 2), (3, 55), (1, 51), (3, 75), (3, 76), (3, 77), (3, 78), (1, 55), (3, 79)] rfl)

set_option maxRecDepth 20000 in
theorem hm_wsX7_luck_r2 : ∀ w ∈ wsX7_luck_r2, w ∈ lw_tbl := (hs_inc _ [(3, 57), (3, 58), (3, 59), (3, 68), (3, 69), (1, 14), (3, 70), (1, 59), (3, 60), (3, 61), (3, 62), (3, 63), (3, 64), (3, 65), (3, 66), (3, 67), (3, 44), (3, 45), (3, 46), (3, 47), (1, 35), (1, 38), (3, 185), (3, 186)] rfl)

set_option maxRecDepth 20000 in
theorem hm_wsX7_luck_r3 : ∀ w ∈ wsX7_luck_r3, w ∈ lw_tbl := (hs_inc _ [(3, 187), (1, 6), (3, 188), (1, 192), (3, 192), (3, 189), (3, 190), (3, 191), (3, 193), (3, 194), (3, 195), (3, 196)] rfl)

set_option maxRecDepth 20000 in
theorem hm_wsX7_luck : ∀ w ∈ wsX7_luck, w ∈ lw_tbl := List.forall_mem_cons.mpr ⟨hs_in1 3 179 rfl, (List.forall_mem_append.mpr ⟨(List.forall_mem_append.mpr ⟨(List.forall_mem_append.mpr ⟨(List.forall_mem_append.mpr ⟨hm_wsX7_luck_r1, (List.forall_mem_append.mpr ⟨hm_wsX7_luck_r2, hm_wsX7_luck_r3⟩)⟩), inX7⟩), inX6⟩), inX0⟩)⟩

set_option maxRecDepth 20000 in
theorem hgL_law_X7_luck : GoodIn lw_tbl (wsV RL 121 RX7 yX7_luck wsX7_luck) := goodIn_sub (List.forall_mem_append.mpr ⟨(hs_inc _ [(3, 176), (3, 177), (3, 178), (1, 1)] rfl), hm_wsX7_luck⟩) (by decide +kernel)

set_option maxRecDepth 20000 in
theorem hm_wsX8_luck_r1 : ∀ w ∈ wsX8_luck_r1, w ∈ lw_tbl := (hs_inc _ [(5, 200), (5, 201), (4, 104), (4, 106), (4, 182), (4, 183), (1, 8), (4, 184), (5, 112), (5, 114), (0, 42), (5, 115), (4, 80), (5, 149), (5, 150), (5, 151), (5, 202), (5, 204), (0, 50), (5, 205), (4, 105), (4, 83), (5, 32), (5, 34)] rfl)

set_option maxRecDepth 20000 in
theorem hm_wsX8_luck_r2 : ∀ w ∈ wsX8_luck_r2, w ∈ lw_tbl := (hs_inc _ [(0, 35), (5, 35), (4, 81), (5, 138), (5, 140), (0, 46), (5, 141), (5, 116), (5, 118), (0, 43), (5, 119), (5, 120), (5, 121), (5, 122), (5, 123), (5, 125), (0, 44), (5, 126), (5, 100), (5, 102), (0, 40), (5, 103), (5, 104), (5, 106)] rfl)

set_option maxRecDepth 20000 in
theorem hm_wsX8_luck_r3 : ∀ w ∈ wsX8_luck_r3, w ∈ lw_tbl := (hs_inc _ [(0, 41), (5, 107), (5, 127), (5, 129), (0, 45), (5, 130), (5, 131), (5, 132), (5, 133), (5, 142), (5, 143), (5, 144), (5, 9), (5, 10), (5, 11), (5, 152), (5, 153), (5, 154), (5, 206), (5, 207), (5, 208), (5, 209), (5, 210), (5, 211)] rfl)

set_option maxRecDepth 20000 in
theorem hm_wsX8_luck : ∀ w ∈ wsX8_luck, w ∈ lw_tbl := List.forall_mem_cons.mpr ⟨hs_in1 5 199 rfl, (List.forall_mem_append.mpr ⟨(List.forall_mem_append.mpr ⟨hm_wsX8_luck_r1, (List.forall_mem_append.mpr ⟨hm_wsX8_luck_r2, hm_wsX8_luck_r3⟩)⟩), inX8⟩)⟩

set_option maxRecDepth 20000 in
theorem hgL_law_X8_luck : GoodIn lw_tbl (wsV RL 125 RX8 yX8_luck wsX8_luck) := goodIn_sub (List.forall_mem_append.mpr ⟨(hs_inc _ [(5, 196), (5, 197), (5, 198), (1, 8)] rfl), hm_wsX8_luck⟩) (by decide +kernel)

set_option maxRecDepth 20000 in
theorem hm_wsX7_mean_r1 : ∀ w ∈ wsX7_mean_r1, w ∈ lw_tbl := (hs_inc _ [(3, 184), (1, 215), (1, 57), (3, 180), (3, 182), (0, 15), (1, 1), (3, 183), (2, 10), (2, 11), (2, 12), (3, 52), (3, 53), (3, 54), (1, 2), (3, 55), (1, 51), (3, 75), (3, 76), (3, 77), (3, 78), (1, 55), (3, 79), (3, 57)] rfl)

set_option maxRecDepth 20000 in
theorem hm_wsX7_mean_r2 : ∀ w ∈ wsX7_mean_r2, w ∈ lw_tbl := (hs_inc _ [(3, 58), (3, 59), (3, 68), (3, 69), (1, 14), (3, 70), (1, 59), (3, 60), (3, 61), (3, 62), (3, 63), (3, 64), (3, 65), (3, 66), (3, 67), (3, 44), (3, 45), (3, 46), (3, 47), (1, 35), (1, 38), (3, 201), (3, 202), (1, 6)] rfl)

set_option maxRecDepth 20000 in
theorem hm_wsX7_mean_r3 : ∀ w ∈ wsX7_mean_r3, w ∈ lw_tbl := (hs_inc _ [(3, 203), (3, 192), (3, 189), (3, 190), (3, 191), (3, 193), (3, 194), (3, 195), (3, 196)] rfl)

set_option maxRecDepth 20000 in
theorem hm_wsX7_mean : ∀ w ∈ wsX7_mean, w ∈ lw_tbl := List.forall_mem_cons.mpr ⟨hs_in1 3 200 rfl, (List.forall_mem_append.mpr ⟨(List.forall_mem_append.mpr ⟨(List.forall_mem_append.mpr ⟨hm_wsX7_mean_r1, (List.forall_mem_append.mpr ⟨hm_wsX7_mean_r2, hm_wsX7_mean_r3⟩)⟩), inX7⟩), inX6⟩)⟩

set_option maxRecDepth 20000 in
theorem hgL_law_X7_mean : GoodIn lw_tbl (wsV RL 126 RX7 yX7_mean wsX7_mean) := goodIn_sub (List.forall_mem_append.mpr ⟨(hs_inc _ [(3, 197), (3, 198), (3, 199), (1, 1)] rfl), hm_wsX7_mean⟩) (by decide +kernel)

set_option maxRecDepth 20000 in
theorem hm_wsX8_mean_r1 : ∀ w ∈ wsX8_mean_r1, w ∈ lw_tbl := (hs_inc _ [(5, 200), (5, 201), (4, 105), (4, 106), (4, 182), (4, 183), (1, 8), (4, 184), (5, 112), (5, 114), (0, 42), (5, 115), (4, 80), (5, 149), (5, 150), (5, 151), (5, 202), (5, 204), (0, 50), (5, 205), (4, 104), (4, 83), (5, 32), (5, 34)] rfl)

set_option maxRecDepth 20000 in
theorem hm_wsX8_mean_r2 : ∀ w ∈ wsX8_mean_r2, w ∈ lw_tbl := (hs_inc _ [(0, 35), (5, 35), (4, 81), (5, 138), (5, 140), (0, 46), (5, 141), (5, 116), (5, 118), (0, 43), (5, 119), (5, 120), (5, 121), (5, 122), (5, 123), (5, 125), (0, 44), (5, 126), (5, 100), (5, 102), (0, 40), (5, 103), (5, 104), (5, 106)] rfl)

set_option maxRecDepth 20000 in
theorem hm_wsX8_mean_r3 : ∀ w ∈ wsX8_mean_r3, w ∈ lw_tbl := (hs_inc _ [(0, 41), (5, 107), (5, 127), (5, 129), (0, 45), (5, 130), (5, 131), (5, 132), (5, 133), (5, 142), (5, 143), (5, 144), (5, 9), (5, 10), (5, 11), (5, 152), (5, 153), (5, 154), (5, 206), (5, 207), (5, 208), (5, 209), (5, 210), (5, 211)] rfl)

set_option maxRecDepth 20000 in
theorem hm_wsX8_mean : ∀ w ∈ wsX8_mean, w ∈ lw_tbl := List.forall_mem_cons.mpr ⟨hs_in1 5 215 rfl, (List.forall_mem_append.mpr ⟨(List.forall_mem_append.mpr ⟨hm_wsX8_mean_r1, (List.forall_mem_append.mpr ⟨hm_wsX8_mean_r2, hm_wsX8_mean_r3⟩)⟩), inX8⟩)⟩

set_option maxRecDepth 20000 in
theorem hgL_law_X8_mean : GoodIn lw_tbl (wsV RL 129 RX8 yX8_mean wsX8_mean) := goodIn_sub (List.forall_mem_append.mpr ⟨(hs_inc _ [(5, 212), (5, 213), (5, 214), (1, 8)] rfl), hm_wsX8_mean⟩) (by decide +kernel)

set_option maxRecDepth 20000 in
theorem hm_wsX7_see_r1 : ∀ w ∈ wsX7_see_r1, w ∈ lw_tbl := (hs_inc _ [(1, 215), (1, 77), (2, 208), (2, 209), (2, 210), (1, 2), (2, 211), (1, 55), (2, 11), (1, 1), (2, 12), (3, 52), (3, 53), (3, 54), (3, 55), (1, 51), (2, 10), (3, 208), (3, 209), (3, 210), (3, 211), (1, 48), (1, 76), (1, 49)] rfl)

set_option maxRecDepth 20000 in
theorem hm_wsX7_see_r2 : ∀ w ∈ wsX7_see_r2, w ∈ lw_tbl := (hs_inc _ [(1, 50)] rfl)

set_option maxRecDepth 20000 in
theorem hm_wsX7_see : ∀ w ∈ wsX7_see, w ∈ lw_tbl := List.forall_mem_cons.mpr ⟨hs_in1 3 207 rfl, (List.forall_mem_append.mpr ⟨(List.forall_mem_append.mpr ⟨(List.forall_mem_append.mpr ⟨hm_wsX7_see_r1, hm_wsX7_see_r2⟩), inX7⟩), inX6⟩)⟩

set_option maxRecDepth 20000 in
theorem hgL_law_X7_see : GoodIn lw_tbl (wsV RL 130 RX7 yX7_see wsX7_see) := goodIn_sub (List.forall_mem_append.mpr ⟨(hs_inc _ [(3, 204), (3, 205), (3, 206), (1, 1)] rfl), hm_wsX7_see⟩) (by decide +kernel)

set_option maxRecDepth 20000 in
theorem hm_wsX8_see : ∀ w ∈ wsX8_see, w ∈ lw_tbl := List.forall_mem_cons.mpr ⟨hs_in1 5 219 rfl, (List.forall_mem_append.mpr ⟨(hs_inc _ [(5, 86), (4, 80), (5, 52), (5, 54), (0, 38), (1, 8), (5, 55), (4, 83), (4, 182), (4, 183), (4, 184), (5, 112), (5, 114), (0, 42), (5, 115)] rfl), inX8⟩)⟩

set_option maxRecDepth 20000 in
theorem hgL_law_X8_see : GoodIn lw_tbl (wsV RL 133 RX8 yX8_see wsX8_see) := goodIn_sub (List.forall_mem_append.mpr ⟨(hs_inc _ [(5, 216), (5, 217), (5, 218), (1, 8)] rfl), hm_wsX8_see⟩) (by decide +kernel)

set_option maxRecDepth 20000 in
theorem hm_wsX7_forget : ∀ w ∈ wsX7_forget, w ∈ lw_tbl := List.forall_mem_cons.mpr ⟨hs_in1 3 215 rfl, (List.forall_mem_append.mpr ⟨(List.forall_mem_append.mpr ⟨(hs_inc _ [(1, 215), (1, 77), (2, 10), (2, 11), (1, 1), (2, 12)] rfl), inX7⟩), inX6⟩)⟩

set_option maxRecDepth 20000 in
theorem hgL_law_X7_forget : GoodIn lw_tbl (wsV RL 134 RX7 yX7_forget wsX7_forget) := goodIn_sub (List.forall_mem_append.mpr ⟨(hs_inc _ [(3, 212), (3, 213), (3, 214), (1, 1)] rfl), hm_wsX7_forget⟩) (by decide +kernel)

set_option maxRecDepth 20000 in
theorem hm_wsX8_forget : ∀ w ∈ wsX8_forget, w ∈ lw_tbl := List.forall_mem_cons.mpr ⟨hs_in1 5 223 rfl, (List.forall_mem_append.mpr ⟨(hs_inc _ [(4, 80), (4, 182), (4, 183), (1, 8), (4, 184), (5, 65), (5, 67), (0, 39), (5, 68)] rfl), inX8⟩)⟩

set_option maxRecDepth 20000 in
theorem hgL_law_X8_forget : GoodIn lw_tbl (wsV RL 137 RX8 yX8_forget wsX8_forget) := goodIn_sub (List.forall_mem_append.mpr ⟨(hs_inc _ [(5, 220), (5, 221), (5, 222), (1, 8)] rfl), hm_wsX8_forget⟩) (by decide +kernel)

set_option maxRecDepth 20000 in
theorem hm_wsX7_fits_r1 : ∀ w ∈ wsX7_fits_r1, w ∈ lw_tbl := (hs_inc _ [(1, 215), (1, 216), (1, 36), (2, 200), (2, 201), (2, 202), (1, 2), (2, 203), (1, 51), (2, 11), (1, 1), (2, 12), (2, 176), (2, 177), (2, 178), (2, 179), (1, 35), (2, 180), (2, 182), (2, 181), (1, 13), (1, 38), (1, 40), (1, 44)] rfl)

set_option maxRecDepth 20000 in
theorem hm_wsX7_fits_r2 : ∀ w ∈ wsX7_fits_r2, w ∈ lw_tbl := (hs_inc _ [(1, 48), (1, 49), (1, 50), (1, 55), (1, 59), (1, 63), (1, 66), (1, 69), (1, 73), (1, 76), (3, 220), (3, 221), (3, 222), (3, 223), (3, 224), (3, 53), (3, 54), (3, 55), (3, 79), (3, 57), (3, 58), (3, 59), (3, 68), (3, 69)] rfl)

set_option maxRecDepth 20000 in
theorem hm_wsX7_fits_r3 : ∀ w ∈ wsX7_fits_r3, w ∈ lw_tbl := (hs_inc _ [(1, 14), (3, 70), (3, 60), (3, 61), (3, 62), (3, 63), (3, 64), (3, 65), (3, 66), (3, 67), (3, 44), (3, 45), (3, 46), (3, 47)] rfl)

set_option maxRecDepth 20000 in
theorem hm_wsX7_fits : ∀ w ∈ wsX7_fits, w ∈ lw_tbl := List.forall_mem_cons.mpr ⟨hs_in1 3 219 rfl, (List.forall_mem_append.mpr ⟨(List.forall_mem_append.mpr ⟨(List.forall_mem_append.mpr ⟨hm_wsX7_fits_r1, (List.forall_mem_append.mpr ⟨hm_wsX7_fits_r2, hm_wsX7_fits_r3⟩)⟩), inX7⟩), inX6⟩)⟩
