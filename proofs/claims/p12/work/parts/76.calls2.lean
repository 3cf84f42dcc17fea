set_option maxRecDepth 20000 in
theorem hgL_law_X7_teach : GoodIn lw_tbl (wsV RL 60 RX7 yX7_teach wsX7_teach) := goodIn_sub (List.forall_mem_append.mpr ⟨(hs_inc _ [(3, 7), (3, 8), (3, 9), (1, 1)] rfl), hm_wsX7_teach⟩) (by decide +kernel)

set_option maxRecDepth 20000 in
theorem hm_wsX8_teach : ∀ w ∈ wsX8_teach, w ∈ lw_tbl := List.forall_mem_cons.mpr ⟨hs_in1 5 80 rfl, (List.forall_mem_append.mpr ⟨(hs_inc _ [(5, 81), (5, 52), (5, 54), (0, 38), (1, 8), (5, 55), (4, 83), (4, 182), (4, 183), (4, 184), (5, 65), (5, 67), (0, 39), (5, 68), (4, 80)] rfl), inX8⟩)⟩

set_option maxRecDepth 20000 in
theorem hgL_law_X8_teach : GoodIn lw_tbl (wsV RL 63 RX8 yX8_teach wsX8_teach) := goodIn_sub (List.forall_mem_append.mpr ⟨(hs_inc _ [(5, 77), (5, 78), (5, 79), (1, 8)] rfl), hm_wsX8_teach⟩) (by decide +kernel)

set_option maxRecDepth 20000 in
theorem hm_wsX7_set : ∀ w ∈ wsX7_set, w ∈ lw_tbl := List.forall_mem_cons.mpr ⟨hs_in1 3 14 rfl, (List.forall_mem_append.mpr ⟨(List.forall_mem_append.mpr ⟨(hs_inc _ [(1, 215), (1, 61), (1, 65), (2, 10), (2, 11), (1, 1), (2, 12)] rfl), inX7⟩), inX6⟩)⟩

set_option maxRecDepth 20000 in
theorem hgL_law_X7_set : GoodIn lw_tbl (wsV RL 64 RX7 yX7_set wsX7_set) := goodIn_sub (List.forall_mem_append.mpr ⟨(hs_inc _ [(3, 11), (3, 12), (3, 13), (1, 1)] rfl), hm_wsX7_set⟩) (by decide +kernel)

set_option maxRecDepth 20000 in
theorem hm_wsX8_set : ∀ w ∈ wsX8_set, w ∈ lw_tbl := List.forall_mem_cons.mpr ⟨hs_in1 5 85 rfl, (List.forall_mem_append.mpr ⟨(hs_inc _ [(5, 86), (5, 81), (5, 64), (5, 87), (4, 182), (4, 183), (1, 8), (4, 184), (5, 65), (5, 67), (0, 39), (5, 68), (4, 80)] rfl), inX8⟩)⟩

set_option maxRecDepth 20000 in
theorem hgL_law_X8_set : GoodIn lw_tbl (wsV RL 67 RX8 yX8_set wsX8_set) := goodIn_sub (List.forall_mem_append.mpr ⟨(hs_inc _ [(5, 82), (5, 83), (5, 84), (1, 8)] rfl), hm_wsX8_set⟩) (by decide +kernel)

set_option maxRecDepth 20000 in
theorem hm_wsX7_appeal : ∀ w ∈ wsX7_appeal, w ∈ lw_tbl := List.forall_mem_cons.mpr ⟨hs_in1 3 18 rfl, (List.forall_mem_append.mpr ⟨(List.forall_mem_append.mpr ⟨(hs_inc _ [(1, 215), (1, 65), (1, 67), (3, 19), (2, 234), (1, 1), (2, 235)] rfl), inX7⟩), inX6⟩)⟩

set_option maxRecDepth 20000 in
theorem hgL_law_X7_appeal : GoodIn lw_tbl (wsV RL 68 RX7 yX7_appeal wsX7_appeal) := goodIn_sub (List.forall_mem_append.mpr ⟨(hs_inc _ [(3, 15), (3, 16), (3, 17), (1, 1)] rfl), hm_wsX7_appeal⟩) (by decide +kernel)

set_option maxRecDepth 20000 in
theorem hm_wsX8_appeal : ∀ w ∈ wsX8_appeal, w ∈ lw_tbl := List.forall_mem_cons.mpr ⟨hs_in1 5 91 rfl, (List.forall_mem_append.mpr ⟨(hs_inc _ [(4, 80)] rfl), inX8⟩)⟩

set_option maxRecDepth 20000 in
theorem hgL_law_X8_appeal : GoodIn lw_tbl (wsV RL 71 RX8 yX8_appeal wsX8_appeal) := goodIn_sub (List.forall_mem_append.mpr ⟨(hs_inc _ [(5, 88), (5, 89), (5, 90), (1, 8)] rfl), hm_wsX8_appeal⟩) (by decide +kernel)

set_option maxRecDepth 20000 in
theorem hm_wsX7_lighter_r1 : ∀ w ∈ wsX7_lighter_r1, w ∈ lw_tbl := (hs_inc _ [(1, 215), (1, 75), (1, 220), (3, 24), (2, 160), (2, 161), (1, 2), (2, 162), (1, 69), (2, 11), (1, 1), (2, 12), (3, 25), (2, 165), (2, 166), (1, 5), (2, 167), (1, 68), (1, 178), (1, 176), (1, 72), (1, 45), (1, 41), (3, 26)] rfl)

set_option maxRecDepth 20000 in
theorem hm_wsX7_lighter_r2 : ∀ w ∈ wsX7_lighter_r2, w ∈ lw_tbl := (hs_inc _ [(3, 27), (3, 28), (3, 29), (3, 30), (2, 169), (2, 170), (2, 171), (1, 177), (2, 172), (2, 174), (0, 12), (2, 175), (3, 31), (2, 144), (2, 145), (2, 146), (1, 40), (1, 73), (1, 44)] rfl)

set_option maxRecDepth 20000 in
theorem hm_wsX7_lighter : ∀ w ∈ wsX7_lighter, w ∈ lw_tbl := List.forall_mem_cons.mpr ⟨hs_in1 3 23 rfl, (List.forall_mem_append.mpr ⟨(List.forall_mem_append.mpr ⟨(List.forall_mem_append.mpr ⟨(List.forall_mem_append.mpr ⟨hm_wsX7_lighter_r1, hm_wsX7_lighter_r2⟩), inX7⟩), inX6⟩), inX2⟩)⟩

set_option maxRecDepth 20000 in
theorem hgL_law_X7_lighter : GoodIn lw_tbl (wsV RL 72 RX7 yX7_lighter wsX7_lighter) := goodIn_sub (List.forall_mem_append.mpr ⟨(hs_inc _ [(3, 20), (3, 21), (3, 22), (1, 1)] rfl), hm_wsX7_lighter⟩) (by decide +kernel)

set_option maxRecDepth 20000 in
theorem hm_wsX8_lighter_r1 : ∀ w ∈ wsX8_lighter_r1, w ∈ lw_tbl := (hs_inc _ [(4, 84), (4, 80), (4, 103), (4, 182), (4, 183), (1, 8), (4, 184), (5, 32), (5, 34), (0, 35), (5, 35), (4, 81), (5, 5), (5, 7), (0, 31), (5, 8), (4, 99), (4, 100), (4, 101), (4, 102), (4, 98), (5, 9), (5, 10), (5, 11)] rfl)

set_option maxRecDepth 20000 in
theorem hm_wsX8_lighter_r2 : ∀ w ∈ wsX8_lighter_r2, w ∈ lw_tbl := (hs_inc _ [(5, 12), (5, 14), (0, 32), (5, 15), (5, 16), (5, 18), (0, 33), (5, 19), (5, 20), (5, 22), (0, 34), (5, 23)] rfl)

set_option maxRecDepth 20000 in
theorem hm_wsX8_lighter : ∀ w ∈ wsX8_lighter, w ∈ lw_tbl := List.forall_mem_cons.mpr ⟨hs_in1 5 95 rfl, (List.forall_mem_append.mpr ⟨(List.forall_mem_append.mpr ⟨hm_wsX8_lighter_r1, hm_wsX8_lighter_r2⟩), inX8⟩)⟩

set_option maxRecDepth 20000 in
theorem hgL_law_X8_lighter : GoodIn lw_tbl (wsV RL 75 RX8 yX8_lighter wsX8_lighter) := goodIn_sub (List.forall_mem_append.mpr ⟨(hs_inc _ [(5, 92), (5, 93), (5, 94), (1, 8)] rfl), hm_wsX8_lighter⟩) (by decide +kernel)

set_option maxRecDepth 20000 in
theorem hm_wsX7_worth_r1 : ∀ w ∈ wsX7_worth_r1, w ∈ lw_tbl := (hs_inc _ [(1, 215), (2, 208), (2, 209), (2, 210), (1, 2), (2, 211), (1, 55), (2, 11), (1, 1), (2, 12), (3, 36), (3, 37), (3, 38), (3, 39), (1, 51), (2, 10), (3, 40), (3, 41), (3, 42), (3, 43), (3, 44), (3, 45), (3, 46), (3, 47)] rfl)

set_option maxRecDepth 20000 in
theorem hm_wsX7_worth_r2 : ∀ w ∈ wsX7_worth_r2, w ∈ lw_tbl := (hs_inc _ [(1, 35), (1, 38)] rfl)

set_option maxRecDepth 20000 in
theorem hm_wsX7_worth : ∀ w ∈ wsX7_worth, w ∈ lw_tbl := List.forall_mem_cons.mpr ⟨hs_in1 3 35 rfl, (List.forall_mem_append.mpr ⟨(List.forall_mem_append.mpr ⟨(List.forall_mem_append.mpr ⟨hm_wsX7_worth_r1, hm_wsX7_worth_r2⟩), inX7⟩), inX6⟩)⟩

set_option maxRecDepth 20000 in
theorem hgL_law_X7_worth : GoodIn lw_tbl (wsV RL 76 RX7 yX7_worth wsX7_worth) := goodIn_sub (List.forall_mem_append.mpr ⟨(hs_inc _ [(3, 32), (3, 33), (3, 34), (1, 1)] rfl), hm_wsX7_worth⟩) (by decide +kernel)

set_option maxRecDepth 20000 in
theorem hm_wsX8_worth : ∀ w ∈ wsX8_worth, w ∈ lw_tbl := List.forall_mem_cons.mpr ⟨hs_in1 5 99 rfl, (List.forall_mem_append.mpr ⟨(hs_inc _ [(4, 80), (5, 52), (5, 54), (0, 38), (1, 8), (5, 55), (4, 83), (4, 182), (4, 183), (4, 184), (5, 32), (5, 34), (0, 35), (5, 35), (4, 81), (5, 100), (5, 102), (0, 40), (5, 103), (5, 104), (5, 106), (0, 41), (5, 107)] rfl), inX8⟩)⟩

set_option maxRecDepth 20000 in
theorem hgL_law_X8_worth : GoodIn lw_tbl (wsV RL 79 RX8 yX8_worth wsX8_worth) := goodIn_sub (List.forall_mem_append.mpr ⟨(hs_inc _ [(5, 96), (5, 97), (5, 98), (1, 8)] rfl), hm_wsX8_worth⟩) (by decide +kernel)

set_option maxRecDepth 20000 in
theorem hm_wsX7_finds_r1 : ∀ w ∈ wsX7_finds_r1, w ∈ lw_tbl := (hs_inc _ [(1, 215), (2, 208), (2, 209), (2, 210), (1, 2), (2, 211), (1, 55), (2, 11), (1, 1), (2, 12), (3, 52), (3, 53), (3, 54), (3, 55), (1, 51), (3, 56), (3, 57), (3, 58), (3, 59), (3, 68), (3, 69), (1, 14), (3, 70), (1, 59)] rfl)

set_option maxRecDepth 20000 in
theorem hm_wsX7_finds_r2 : ∀ w ∈ wsX7_finds_r2, w ∈ lw_tbl := (hs_inc _ [(3, 60), (3, 61), (3, 62), (3, 63), (3, 64), (3, 65), (3, 66), (3, 67), (3, 44), (3, 45), (3, 46), (3, 47), (1, 35), (1, 38)] rfl)

set_option maxRecDepth 20000 in
theorem hm_wsX7_finds : ∀ w ∈ wsX7_finds, w ∈ lw_tbl := List.forall_mem_cons.mpr ⟨hs_in1 3 51 rfl, (List.forall_mem_append.mpr ⟨(List.forall_mem_append.mpr ⟨(List.forall_mem_append.mpr ⟨hm_wsX7_finds_r1, hm_wsX7_finds_r2⟩), inX7⟩), inX6⟩)⟩

set_option maxRecDepth 20000 in
theorem hgL_law_X7_finds : GoodIn lw_tbl (wsV RL 80 RX7 yX7_finds wsX7_finds) := goodIn_sub (List.forall_mem_append.mpr ⟨(hs_inc _ [(3, 48), (3, 49), (3, 50), (1, 1)] rfl), hm_wsX7_finds⟩) (by decide +kernel)

set_option maxRecDepth 20000 in
theorem hm_wsX8_finds_r1 : ∀ w ∈ wsX8_finds_r1, w ∈ lw_tbl := (hs_inc _ [(5, 52), (5, 54), (0, 38), (1, 8), (5, 55), (4, 83), (4, 182), (4, 183), (4, 184), (5, 112), (5, 114), (0, 42), (5, 115), (4, 80), (5, 32), (5, 34), (0, 35), (5, 35), (4, 81), (5, 116), (5, 118), (0, 43), (5, 119), (5, 120)] rfl)

set_option maxRecDepth 20000 in
theorem hm_wsX8_finds_r2 : ∀ w ∈ wsX8_finds_r2, w ∈ lw_tbl := (hs_inc _ [(5, 121), (5, 122), (5, 123), (5, 125), (0, 44), (5, 126), (5, 100), (5, 102), (0, 40), (5, 103), (5, 104), (5, 106), (0, 41), (5, 107), (5, 127), (5, 129), (0, 45), (5, 130), (5, 131), (5, 132), (5, 133)] rfl)

set_option maxRecDepth 20000 in
theorem hm_wsX8_finds : ∀ w ∈ wsX8_finds, w ∈ lw_tbl := List.forall_mem_cons.mpr ⟨hs_in1 5 111 rfl, (List.forall_mem_append.mpr ⟨(List.forall_mem_append.mpr ⟨hm_wsX8_finds_r1, hm_wsX8_finds_r2⟩), inX8⟩)⟩

set_option maxRecDepth 20000 in
theorem hgL_law_X8_finds : GoodIn lw_tbl (wsV RL 83 RX8 yX8_finds wsX8_finds) := goodIn_sub (List.forall_mem_append.mpr ⟨(hs_inc _ [(5, 108), (5, 109), (5, 110), (1, 8)] rfl), hm_wsX8_finds⟩) (by decide +kernel)

set_option maxRecDepth 20000 in
theorem hm_wsX7_just_r1 : ∀ w ∈ wsX7_just_r1, w ∈ lw_tbl := (hs_inc _ [(1, 215), (3, 52), (3, 53), (3, 54), (1, 2), (3, 55), (1, 51), (2, 11), (1, 1), (2, 12), (3, 75), (3, 76), (3, 77), (3, 78), (1, 55), (3, 79), (3, 57), (3, 58), (3, 59), (3, 68), (3, 69), (1, 14), (3, 70), (1, 59)] rfl)

set_option maxRecDepth 20000 in
theorem hm_wsX7_just_r2 : ∀ w ∈ wsX7_just_r2, w ∈ lw_tbl := (hs_inc _ [(3, 60), (3, 61), (3, 62), (3, 63), (3, 64), (3, 65), (3, 66), (3, 67), (3, 44), (3, 45), (3, 46), (3, 47), (1, 35), (1, 38)] rfl)

set_option maxRecDepth 20000 in
theorem hm_wsX7_just : ∀ w ∈ wsX7_just, w ∈ lw_tbl := List.forall_mem_cons.mpr ⟨hs_in1 3 74 rfl, (List.forall_mem_append.mpr ⟨(List.forall_mem_append.mpr ⟨(List.forall_mem_append.mpr ⟨hm_wsX7_just_r1, hm_wsX7_just_r2⟩), inX7⟩), inX6⟩)⟩

set_option maxRecDepth 20000 in
theorem hgL_law_X7_just : GoodIn lw_tbl (wsV RL 84 RX7 yX7_just wsX7_just) := goodIn_sub (List.forall_mem_append.mpr ⟨(hs_inc _ [(3, 71), (3, 72), (3, 73), (1, 1)] rfl), hm_wsX7_just⟩) (by decide +kernel)

set_option maxRecDepth 20000 in
theorem hm_wsX8_just_r1 : ∀ w ∈ wsX8_just_r1, w ∈ lw_tbl := (hs_inc _ [(5, 112), (5, 114), (0, 42), (1, 8), (5, 115), (4, 80), (4, 182), (4, 183), (4, 184), (5, 32), (5, 34), (0, 35), (5, 35), (4, 81), (5, 138), (5, 140), (0, 46), (5, 141), (4, 83), (5, 116), (5, 118), (0, 43), (5, 119), (5, 120)] rfl)

set_option maxRecDepth 20000 in
theorem hm_wsX8_just_r2 : ∀ w ∈ wsX8_just_r2, w ∈ lw_tbl := (hs_inc _ [(5, 121), (5, 122), (5, 123), (5, 125), (0, 44), (5, 126), (5, 100), (5, 102), (0, 40), (5, 103), (5, 104), (5, 106), (0, 41), (5, 107), (5, 127), (5, 129), (0, 45), (5, 130), (5, 131), (5, 132), (5, 133), (5, 142), (5, 143), (5, 144)] rfl)

set_option maxRecDepth 20000 in
theorem hm_wsX8_just : ∀ w ∈ wsX8_just, w ∈ lw_tbl := List.forall_mem_cons.mpr ⟨hs_in1 5 137 rfl, (List.forall_mem_append.mpr ⟨(List.forall_mem_append.mpr ⟨hm_wsX8_just_r1, hm_wsX8_just_r2⟩), inX8⟩)⟩

set_option maxRecDepth 20000 in
theorem hgL_law_X8_just : GoodIn lw_tbl (wsV RL 87 RX8 yX8_just wsX8_just) := goodIn_sub (List.forall_mem_append.mpr ⟨(hs_inc _ [(5, 134), (5, 135), (5, 136), (1, 8)] rfl), hm_wsX8_just⟩) (by decide +kernel)

set_option maxRecDepth 20000 in
theorem hm_wsX7_middle_r1 : ∀ w ∈ wsX7_middle_r1, w ∈ lw_tbl := (hs_inc _ [(1, 215), (1, 53), (2, 10), (2, 11), (1, 1), (2, 12), (3, 75), (3, 76), (3, 77), (1, 2), (3, 78), (1, 55), (3, 79), (3, 57), (3, 58), (3, 59), (3, 68), (3, 69), (1, 14), (3, 70), (1, 59), (3, 60), (3, 61), (3, 62)] rfl)

set_option maxRecDepth 20000 in
theorem hm_wsX7_middle_r2 : ∀ w ∈ wsX7_middle_r2, w ∈ lw_tbl := (hs_inc _ [(3, 63), (3, 64), (3, 65), (3, 66), (3, 67), (1, 51), (3, 44), (3, 45), (3, 46), (3, 47), (1, 35), (1, 38), (3, 84), (3, 85), (1, 15), (3, 86), (3, 87), (3, 88), (3, 89)] rfl)

set_option maxRecDepth 20000 in
theorem hm_wsX7_middle : ∀ w ∈ wsX7_middle, w ∈ lw_tbl := List.forall_mem_cons.mpr ⟨hs_in1 3 83 rfl, (List.forall_mem_append.mpr ⟨(List.forall_mem_append.mpr ⟨(List.forall_mem_append.mpr ⟨hm_wsX7_middle_r1, hm_wsX7_middle_r2⟩), inX7⟩), inX6⟩)⟩

set_option maxRecDepth 20000 in
theorem hgL_law_X7_middle : GoodIn lw_tbl (wsV RL 88 RX7 yX7_middle wsX7_middle) := goodIn_sub (List.forall_mem_append.mpr ⟨(hs_inc _ [(3, 80), (3, 81), (3, 82), (1, 1)] rfl), hm_wsX7_middle⟩) (by decide +kernel)

set_option maxRecDepth 20000 in
theorem hm_wsX8_middle_r1 : ∀ w ∈ wsX8_middle_r1, w ∈ lw_tbl := (hs_inc _ [(4, 81), (5, 149), (5, 150), (1, 8), (5, 151), (4, 182), (4, 183), (4, 184), (5, 32), (5, 34), (0, 35), (5, 35), (4, 80), (5, 138), (5, 140), (0, 46), (5, 141), (4, 83), (5, 116), (5, 118), (0, 43), (5, 119), (5, 120), (5, 121)] rfl)

set_option maxRecDepth 20000 in
theorem hm_wsX8_middle_r2 : ∀ w ∈ wsX8_middle_r2, w ∈ lw_tbl := (hs_inc _ [(5, 122), (5, 123), (5, 125), (0, 44), (5, 126), (5, 100), (5, 102), (0, 40), (5, 103), (5, 104), (5, 106), (0, 41), (5, 107), (5, 127), (5, 129), (0, 45), (5, 130), (5, 131), (5, 132), (5, 133), (5, 142), (5, 143), (5, 144), (5, 152)] rfl)

set_option maxRecDepth 20000 in
theorem hm_wsX8_middle_r3 : ∀ w ∈ wsX8_middle_r3, w ∈ lw_tbl := (hs_inc _ [(5, 153), (5, 154)] rfl)

set_option maxRecDepth 20000 in
theorem hm_wsX8_middle : ∀ w ∈ wsX8_middle, w ∈ lw_tbl := List.forall_mem_cons.mpr ⟨hs_in1 5 148 rfl, (List.forall_mem_append.mpr ⟨(List.forall_mem_append.mpr ⟨hm_wsX8_middle_r1, (List.forall_mem_append.mpr ⟨hm_wsX8_middle_r2, hm_wsX8_middle_r3⟩)⟩), inX8⟩)⟩

set_option maxRecDepth 20000 in
theorem hgL_law_X8_middle : GoodIn lw_tbl (wsV RL 91 RX8 yX8_middle wsX8_middle) := goodIn_sub (List.forall_mem_append.mpr ⟨(hs_inc _ [(5, 145), (5, 146), (5, 147), (1, 8)] rfl), hm_wsX8_middle⟩) (by decide +kernel)

set_option maxRecDepth 20000 in
theorem hm_wsX7_honest_r1 : ∀ w ∈ wsX7_honest_r1, w ∈ lw_tbl := (hs_inc _ [(1, 215), (2, 208), (2, 209), (2, 210), (1, 2), (2, 211), (1, 55), (2, 11), (1, 1), (2, 12), (3, 94), (3, 95), (1, 16), (3, 96), (3, 99), (3, 69), (1, 14), (3, 70), (1, 52), (3, 97), (3, 61), (3, 62), (3, 63), (3, 98)] rfl)

set_option maxRecDepth 20000 in
theorem hm_wsX7_honest_r2 : ∀ w ∈ wsX7_honest_r2, w ∈ lw_tbl := (hs_inc _ [(3, 65), (3, 66), (3, 67), (1, 51), (3, 44), (3, 45), (3, 46), (3, 47), (1, 35), (1, 38)] rfl)

set_option maxRecDepth 20000 in
theorem hm_wsX7_honest : ∀ w ∈ wsX7_honest, w ∈ lw_tbl := List.forall_mem_cons.mpr ⟨hs_in1 3 93 rfl, (List.forall_mem_append.mpr ⟨(List.forall_mem_append.mpr ⟨(List.forall_mem_append.mpr ⟨hm_wsX7_honest_r1, hm_wsX7_honest_r2⟩), inX7⟩), inX6⟩)⟩

set_option maxRecDepth 20000 in
theorem hgL_law_X7_honest : GoodIn lw_tbl (wsV RL 92 RX7 yX7_honest wsX7_honest) := goodIn_sub (List.forall_mem_append.mpr ⟨(hs_inc _ [(3, 90), (3, 91), (3, 92), (1, 1)] rfl), hm_wsX7_honest⟩) (by decide +kernel)

set_option maxRecDepth 20000 in
theorem hm_wsX8_honest_r1 : ∀ w ∈ wsX8_honest_r1, w ∈ lw_tbl := (hs_inc _ [(5, 52), (5, 54), (0, 38), (1, 8), (5, 55), (4, 83), (4, 182), (4, 183), (4, 184), (5, 32), (5, 34), (0, 35), (5, 35), (4, 81), (4, 80), (5, 159), (5, 161), (0, 47), (5, 162), (5, 163), (5, 120), (5, 121), (5, 122), (5, 123)] rfl)

set_option maxRecDepth 20000 in
theorem hm_wsX8_honest_r2 : ∀ w ∈ wsX8_honest_r2, w ∈ lw_tbl := (hs_inc _ [(5, 125), (0, 44), (5, 126), (5, 100), (5, 102), (0, 40), (5, 103), (5, 104), (5, 106), (0, 41), (5, 107), (5, 127), (5, 129), (0, 45), (5, 130), (5, 131), (5, 132), (5, 133)] rfl)

set_option maxRecDepth 20000 in
theorem hm_wsX8_honest : ∀ w ∈ wsX8_honest, w ∈ lw_tbl := List.forall_mem_cons.mpr ⟨hs_in1 5 158 rfl, (List.forall_mem_append.mpr ⟨(List.forall_mem_append.mpr ⟨hm_wsX8_honest_r1, hm_wsX8_honest_r2⟩), inX8⟩)⟩

set_option maxRecDepth 20000 in
theorem hgL_law_X8_honest : GoodIn lw_tbl (wsV RL 95 RX8 yX8_honest wsX8_honest) := goodIn_sub (List.forall_mem_append.mpr ⟨(hs_inc _ [(5, 155), (5, 156), (5, 157), (1, 8)] rfl), hm_wsX8_honest⟩) (by decide +kernel)

set_option maxRecDepth 20000 in
theorem hm_wsX7_chosen_r1 : ∀ w ∈ wsX7_chosen_r1, w ∈ lw_tbl := (hs_inc _ [(1, 215), (3, 104), (3, 106), (0, 13), (1, 1), (3, 107), (2, 208), (2, 209), (2, 210), (1, 2), (2, 211), (1, 55), (2, 11), (2, 12), (2, 10), (3, 94), (3, 95), (1, 16), (3, 96), (3, 99), (3, 69), (1, 14), (3, 70), (1, 52)] rfl)

set_option maxRecDepth 20000 in
theorem hm_wsX7_chosen_r2 : ∀ w ∈ wsX7_chosen_r2, w ∈ lw_tbl := (hs_inc _ [(3, 97), (3, 61), (3, 62), (3, 63), (3, 98), (3, 65), (3, 66), (3, 67), (1, 51), (3, 44), (3, 45), (3, 46), (3, 47), (1, 35), (1, 38), (3, 108), (3, 109), (3, 110), (3, 111), (3, 37), (3, 38), (3, 39), (3, 36), (3, 40)] rfl)

set_option maxRecDepth 20000 in
theorem hm_wsX7_chosen_r3 : ∀ w ∈ wsX7_chosen_r3, w ∈ lw_tbl := (hs_inc _ [(3, 41), (3, 42), (3, 43)] rfl)

set_option maxRecDepth 20000 in
theorem hm_wsX7_chosen : ∀ w ∈ wsX7_chosen, w ∈ lw_tbl := List.forall_mem_cons.mpr ⟨hs_in1 3 103 rfl, (List.forall_mem_append.mpr ⟨(List.forall_mem_append.mpr ⟨(List.forall_mem_append.mpr ⟨hm_wsX7_chosen_r1, (List.forall_mem_append.mpr ⟨hm_wsX7_chosen_r2, hm_wsX7_chosen_r3⟩)⟩), inX7⟩), inX6⟩)⟩

set_option maxRecDepth 20000 in
theorem hgL_law_X7_chosen : GoodIn lw_tbl (wsV RL 96 RX7 yX7_chosen wsX7_chosen) := goodIn_sub (List.forall_mem_append.mpr ⟨(hs_inc _ [(3, 100), (3, 101), (3, 102), (1, 1)] rfl), hm_wsX7_chosen⟩) (by decide +kernel)

set_option maxRecDepth 20000 in
theorem hm_wsX8_chosen_r1 : ∀ w ∈ wsX8_chosen_r1, w ∈ lw_tbl := (hs_inc _ [(5, 86), (5, 52), (5, 54), (0, 38), (1, 8), (5, 55), (4, 83), (4, 182), (4, 183), (4, 184), (5, 32), (5, 34), (0, 35), (5, 35), (4, 81), (4, 80), (5, 159), (5, 161), (0, 47), (5, 162), (5, 163), (5, 120), (5, 121), (5, 122)] rfl)

set_option maxRecDepth 20000 in
theorem hm_wsX8_chosen_r2 : ∀ w ∈ wsX8_chosen_r2, w ∈ lw_tbl := (hs_inc _ [(5, 123), (5, 125), (0, 44), (5, 126), (5, 100), (5, 102), (0, 40), (5, 103), (5, 104), (5, 106), (0, 41), (5, 107), (5, 127), (5, 129), (0, 45), (5, 130), (5, 131), (5, 132), (5, 133), (5, 168), (5, 170), (0, 48), (5, 171), (5, 142)] rfl)

set_option maxRecDepth 20000 in
theorem hm_wsX8_chosen_r3 : ∀ w ∈ wsX8_chosen_r3, w ∈ lw_tbl := (hs_inc _ [(5, 143), (5, 144)] rfl)

set_option maxRecDepth 20000 in
theorem hm_wsX8_chosen : ∀ w ∈ wsX8_chosen, w ∈ lw_tbl := List.forall_mem_cons.mpr ⟨hs_in1 5 167 rfl, (List.forall_mem_append.mpr ⟨(List.forall_mem_append.mpr ⟨hm_wsX8_chosen_r1, (List.forall_mem_append.mpr ⟨hm_wsX8_chosen_r2, hm_wsX8_chosen_r3⟩)⟩), inX8⟩)⟩

set_option maxRecDepth 20000 in
theorem hgL_law_X8_chosen : GoodIn lw_tbl (wsV RL 100 RX8 yX8_chosen wsX8_chosen) := goodIn_sub (List.forall_mem_append.mpr ⟨(hs_inc _ [(5, 164), (5, 165), (5, 166), (1, 8)] rfl), hm_wsX8_chosen⟩) (by decide +kernel)

set_option maxRecDepth 20000 in
theorem hm_wsX7_sly_r1 : ∀ w ∈ wsX7_sly_r1, w ∈ lw_tbl := (hs_inc _ [(1, 215), (3, 104), (3, 106), (0, 13), (1, 1), (3, 107), (2, 208), (2, 209), (2, 210), (1, 2), (2, 211), (1, 55), (2, 11), (2, 12), (2, 10), (3, 116), (3, 117), (1, 16), (3, 118), (1, 52), (3, 119), (3, 120), (3, 121), (3, 111)] rfl)

set_option maxRecDepth 20000 in
theorem hm_wsX7_sly_r2 : ∀ w ∈ wsX7_sly_r2, w ∈ lw_tbl := (hs_inc _ [(3, 37), (3, 38), (3, 39), (1, 51), (3, 122), (3, 109), (3, 110), (3, 97), (3, 61), (3, 62), (3, 63), (3, 98), (3, 65), (3, 66), (3, 67), (3, 44), (3, 45), (3, 46), (3, 47), (1, 35), (1, 38), (3, 123), (3, 41), (3, 42)] rfl)
