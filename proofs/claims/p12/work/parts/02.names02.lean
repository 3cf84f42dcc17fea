theorem hs_inr {big : List Cond} (ws : List Cond) (ps : List Nat) (hp : ws = ps.filterMap (fun i => big[i]?)) : ∀ w ∈ ws, w ∈ big := by
  intro w hw
  rw [hp] at hw
  obtain ⟨i, -, hi⟩ := List.mem_filterMap.mp hw
  first | exact List.mem_of_getElem? hi | exact List.getElem?_mem hi
def hsCh : Nat → List Cond := fun c => match c with | 0 => k2_sels lw_privs | 1 => tables_1_1 | 2 => tables_1_2 | 3 => tables_1_3 | 4 => tables_1_4 | 5 => tables_1_5 | 6 => tables_1_6 | _ => []
theorem hsCh_in : ∀ c w, w ∈ hsCh c → w ∈ lw_tbl := by
  intro c w h
  match c, h with
  | 0, h => exact List.mem_append_left _ h
  | 1, h => exact List.mem_append_right _ (List.mem_append_left _ h)
  | 2, h => exact List.mem_append_right _ (List.mem_append_right _ (List.mem_append_left _ h))
  | 3, h => exact List.mem_append_right _ (List.mem_append_right _ (List.mem_append_right _ (List.mem_append_left _ h)))
  | 4, h => exact List.mem_append_right _ (List.mem_append_right _ (List.mem_append_right _ (List.mem_append_right _ (List.mem_append_left _ h))))
  | 5, h => exact List.mem_append_right _ (List.mem_append_right _ (List.mem_append_right _ (List.mem_append_right _ (List.mem_append_right _ (List.mem_append_left _ h)))))
  | 6, h => exact List.mem_append_right _ (List.mem_append_right _ (List.mem_append_right _ (List.mem_append_right _ (List.mem_append_right _ (List.mem_append_right _ (h))))))
  | c + 7, h => exact absurd h List.not_mem_nil
theorem hs_inc (ws : List Cond) (ps : List (Nat × Nat)) (hp : ws = ps.filterMap (fun i => (hsCh i.1)[i.2]?)) : ∀ w ∈ ws, w ∈ lw_tbl := by
  intro w hw
  rw [hp] at hw
  obtain ⟨i, -, hi⟩ := List.mem_filterMap.mp hw
  exact hsCh_in i.1 w (by first | exact List.mem_of_getElem? hi | exact List.getElem?_mem hi)
theorem hs_in1 (c i : Nat) {w : Cond} (h : (hsCh c)[i]? = some w) : w ∈ lw_tbl := hsCh_in c w (by first | exact List.mem_of_getElem? h | exact List.getElem?_mem h)
set_option maxRecDepth 20000 in
theorem hs_wsL_law_r1 : ∀ w ∈ wsL_law_r1, w ∈ lw_tbl := hs_inc _ [(1, 17), (1, 18), (1, 1), (4, 66), (4, 67), (1, 8), (1, 19), (1, 20), (1, 21), (1, 22), (1, 23), (1, 24), (1, 25), (1, 26), (1, 2), (1, 215), (1, 216), (1, 217), (1, 147), (1, 218), (1, 111), (1, 112), (1, 3), (1, 219)] rfl
set_option maxRecDepth 20000 in
theorem hs_wsL_law_r2 : ∀ w ∈ wsL_law_r2, w ∈ lw_tbl := hs_inc _ [(1, 170), (1, 171), (1, 5), (1, 220), (1, 186), (1, 187), (1, 6), (1, 221), (1, 197), (1, 222), (1, 199), (1, 7), (1, 27), (1, 28), (1, 29), (1, 30), (1, 109), (1, 35), (1, 38), (1, 40), (1, 44), (1, 48), (1, 49), (1, 50)] rfl
set_option maxRecDepth 20000 in
theorem hs_wsL_law_r3 : ∀ w ∈ wsL_law_r3, w ∈ lw_tbl := hs_inc _ [(1, 31), (1, 32), (1, 33), (1, 34), (1, 51), (1, 55), (1, 59), (1, 63), (1, 66), (1, 69), (1, 73), (1, 76), (1, 114), (1, 115), (1, 116), (1, 117), (1, 118), (1, 4), (1, 150), (1, 148), (1, 152), (1, 120), (1, 121), (1, 122)] rfl
set_option maxRecDepth 20000 in
theorem hs_wsL_law_r4 : ∀ w ∈ wsL_law_r4, w ∈ lw_tbl := hs_inc _ [(1, 123), (1, 149), (1, 173), (1, 174), (1, 175), (1, 176), (1, 177), (1, 189), (1, 190), (1, 191), (1, 196), (1, 192), (1, 201), (1, 202), (1, 203), (1, 204), (1, 205), (4, 68), (4, 69), (4, 70), (4, 71), (4, 80), (4, 81), (4, 82)] rfl
set_option maxRecDepth 20000 in
theorem hs_wsL_law_r5 : ∀ w ∈ wsL_law_r5, w ∈ lw_tbl := hs_inc _ [(4, 85), (4, 90), (4, 98), (4, 103), (4, 107), (4, 108), (4, 109), (4, 111), (4, 72), (4, 74), (0, 17), (4, 75), (4, 86), (4, 87), (4, 88), (4, 89), (4, 76), (4, 78), (0, 18), (4, 79), (4, 83), (4, 84), (2, 6), (2, 7)] rfl
set_option maxRecDepth 20000 in
theorem hs_wsL_law_r6 : ∀ w ∈ wsL_law_r6, w ∈ lw_tbl := hs_inc _ [(2, 8), (2, 9), (1, 151), (1, 125), (1, 124), (2, 10), (2, 11), (2, 12), (4, 177), (4, 178), (4, 179), (4, 180), (4, 181), (4, 91), (4, 182), (4, 183), (4, 184), (2, 13), (2, 14), (2, 15), (2, 16), (4, 185), (4, 186), (4, 187)] rfl
set_option maxRecDepth 20000 in
theorem hs_wsL_law_r7 : ∀ w ∈ wsL_law_r7, w ∈ lw_tbl := hs_inc _ [(4, 188), (2, 17), (2, 18), (2, 19), (2, 20), (1, 156), (1, 223), (1, 158), (1, 153), (2, 21), (2, 22), (2, 23), (2, 24), (1, 154), (1, 155), (1, 157), (1, 127), (2, 25), (2, 26), (2, 27), (2, 28), (2, 29), (1, 131), (2, 30)] rfl
set_option maxRecDepth 20000 in
theorem hs_wsL_law_r8 : ∀ w ∈ wsL_law_r8, w ∈ lw_tbl := hs_inc _ [(2, 31), (2, 32), (2, 33), (1, 129), (1, 126), (1, 132), (1, 128), (2, 34), (2, 35), (2, 36), (2, 37), (2, 39), (0, 0), (2, 40), (2, 41), (2, 43), (0, 1), (2, 44), (2, 45), (2, 47), (0, 2), (2, 48), (1, 60), (1, 64)] rfl
set_option maxRecDepth 20000 in
theorem hs_wsL_law_r9 : ∀ w ∈ wsL_law_r9, w ∈ lw_tbl := hs_inc _ [(1, 70), (2, 49), (2, 51), (0, 3), (2, 52), (2, 53), (2, 54), (2, 55), (2, 65), (2, 66), (2, 67), (2, 68), (2, 69), (2, 70), (2, 71), (1, 9), (2, 72), (6, 39), (2, 73), (2, 74), (2, 75), (2, 76), (2, 77), (6, 40)] rfl
set_option maxRecDepth 20000 in
theorem hs_wsL_law_r10 : ∀ w ∈ wsL_law_r10, w ∈ lw_tbl := hs_inc _ [(2, 79), (2, 80), (2, 81), (2, 82), (2, 83), (2, 84), (2, 85), (2, 86), (2, 87), (2, 88), (1, 10), (2, 89), (2, 90), (2, 91), (2, 92), (2, 93), (2, 95), (2, 96), (1, 11), (2, 97), (2, 98), (2, 99), (1, 12), (2, 100)] rfl
set_option maxRecDepth 20000 in
theorem hs_wsL_law_r11 : ∀ w ∈ wsL_law_r11, w ∈ lw_tbl := hs_inc _ [(2, 101), (2, 102), (2, 103), (2, 104), (2, 105), (2, 106), (2, 107), (2, 108), (2, 109), (2, 110), (2, 111), (2, 113), (2, 115), (2, 117), (2, 119), (0, 4), (2, 120), (1, 74), (1, 56), (2, 121), (2, 123), (0, 5), (2, 124), (2, 125)] rfl
set_option maxRecDepth 20000 in
theorem hs_wsL_law_r12 : ∀ w ∈ wsL_law_r12, w ∈ lw_tbl := hs_inc _ [(2, 127), (0, 6), (2, 128), (1, 130), (2, 129), (2, 130), (2, 132), (0, 7), (2, 133), (1, 54), (1, 37), (1, 133), (2, 134), (2, 136), (0, 8), (2, 137), (2, 139), (2, 141), (0, 9), (2, 142), (2, 143), (2, 144), (2, 145), (2, 146)] rfl
set_option maxRecDepth 20000 in
theorem hs_wsL_law_r13 : ∀ w ∈ wsL_law_r13, w ∈ lw_tbl := hs_inc _ [(2, 147), (2, 148), (2, 149), (2, 150), (2, 151), (2, 153), (0, 10), (2, 154), (2, 155), (2, 157), (0, 11), (2, 158), (1, 43), (1, 47), (2, 159), (2, 160), (2, 161), (2, 162), (2, 164), (2, 165), (2, 166), (2, 167), (1, 68), (1, 178)] rfl
set_option maxRecDepth 20000 in
theorem hs_wsL_law_r14 : ∀ w ∈ wsL_law_r14, w ∈ lw_tbl := hs_inc _ [(1, 72), (1, 45), (1, 41), (2, 168), (2, 169), (2, 170), (2, 171), (2, 172), (2, 174), (0, 12), (2, 175), (2, 176), (2, 177), (2, 178), (2, 179), (2, 180), (2, 182), (2, 181), (1, 13), (4, 189), (4, 190), (4, 191), (4, 192), (4, 96)] rfl
set_option maxRecDepth 20000 in
theorem hs_wsL_law_r15 : ∀ w ∈ wsL_law_r15, w ∈ lw_tbl := hs_inc _ [(4, 92), (4, 94), (4, 99), (4, 97), (4, 193), (4, 195), (0, 19), (4, 196), (4, 93), (4, 201), (4, 202), (4, 203), (4, 204), (4, 95), (4, 197), (4, 199), (0, 20), (4, 200), (4, 205), (4, 207), (0, 21), (4, 208), (4, 209), (4, 211)] rfl
set_option maxRecDepth 20000 in
theorem hs_wsL_law_r16 : ∀ w ∈ wsL_law_r16, w ∈ lw_tbl := hs_inc _ [(0, 22), (4, 212), (4, 213), (4, 215), (0, 23), (4, 216), (4, 217), (4, 219), (0, 24), (4, 220), (4, 221), (4, 223), (0, 25), (4, 224), (4, 225), (4, 227), (0, 26), (4, 228), (4, 229), (4, 231), (0, 27), (4, 232), (4, 233), (4, 235)] rfl
set_option maxRecDepth 20000 in
theorem hs_wsL_law_r17 : ∀ w ∈ wsL_law_r17, w ∈ lw_tbl := hs_inc _ [(0, 28), (4, 236), (4, 237), (4, 239), (0, 29), (5, 0), (5, 1), (5, 3), (0, 30), (5, 4), (5, 5), (5, 7), (0, 31), (5, 8), (4, 100), (4, 101), (4, 102), (5, 9), (5, 10), (5, 11), (5, 12), (5, 14), (0, 32), (5, 15)] rfl
set_option maxRecDepth 20000 in
theorem hs_wsL_law_r18 : ∀ w ∈ wsL_law_r18, w ∈ lw_tbl := hs_inc _ [(5, 16), (5, 18), (0, 33), (5, 19), (5, 20), (5, 22), (0, 34), (5, 23), (2, 184), (2, 185), (2, 186), (2, 187), (5, 24), (5, 25), (5, 26), (5, 27), (2, 188), (2, 189), (2, 190), (2, 191), (1, 53), (1, 57), (1, 61), (1, 65)] rfl
set_option maxRecDepth 20000 in
theorem hs_wsL_law_r19 : ∀ w ∈ wsL_law_r19, w ∈ lw_tbl := hs_inc _ [(1, 67), (1, 71), (1, 75), (2, 192), (2, 193), (2, 194), (2, 195), (5, 28), (5, 29), (5, 30), (5, 31), (5, 32), (5, 34), (0, 35), (5, 35), (5, 36), (5, 38), (0, 36), (5, 39), (2, 196), (2, 197), (2, 198), (2, 199), (1, 36)] rfl
set_option maxRecDepth 20000 in
theorem hs_wsL_law_r20 : ∀ w ∈ wsL_law_r20, w ∈ lw_tbl := hs_inc _ [(2, 200), (2, 201), (2, 202), (2, 203), (5, 40), (5, 41), (5, 42), (5, 43), (5, 44), (5, 46), (0, 37), (5, 47), (2, 204), (2, 205), (2, 206), (2, 207), (1, 39), (2, 208), (2, 209), (2, 210), (2, 211), (5, 48), (5, 49), (5, 50)] rfl
set_option maxRecDepth 20000 in
theorem hs_wsL_law_r21 : ∀ w ∈ wsL_law_r21, w ∈ lw_tbl := hs_inc _ [(5, 51), (5, 52), (5, 54), (0, 38), (5, 55), (2, 212), (2, 213), (2, 214), (2, 215), (1, 42), (1, 46), (5, 56), (5, 57), (5, 58), (5, 59), (2, 216), (2, 217), (2, 218), (2, 219), (2, 220), (2, 221), (2, 222), (2, 223), (2, 224)] rfl
set_option maxRecDepth 20000 in
theorem hs_wsL_law_r22 : ∀ w ∈ wsL_law_r22, w ∈ lw_tbl := hs_inc _ [(5, 60), (5, 61), (5, 62), (5, 63), (5, 64), (5, 65), (5, 67), (0, 39), (5, 68), (2, 225), (2, 226), (2, 227), (2, 228), (2, 229), (2, 230), (2, 231), (2, 232), (2, 234), (2, 235), (5, 69), (5, 70), (5, 71), (5, 72), (2, 236)] rfl
set_option maxRecDepth 20000 in
theorem hs_wsL_law_r23 : ∀ w ∈ wsL_law_r23, w ∈ lw_tbl := hs_inc _ [(2, 237), (2, 238), (2, 239), (3, 0), (3, 1), (3, 2), (3, 3), (3, 4), (3, 5), (1, 14), (3, 6), (5, 73), (5, 74), (5, 75), (5, 76), (3, 7), (3, 8), (3, 9), (3, 10), (5, 77), (5, 78), (5, 79), (5, 80), (5, 81)] rfl
set_option maxRecDepth 20000 in
theorem hs_wsL_law_r24 : ∀ w ∈ wsL_law_r24, w ∈ lw_tbl := hs_inc _ [(3, 11), (3, 12), (3, 13), (3, 14), (5, 82), (5, 83), (5, 84), (5, 85), (5, 86), (5, 87), (3, 15), (3, 16), (3, 17), (3, 18), (3, 19), (5, 88), (5, 89), (5, 90), (5, 91), (3, 20), (3, 21), (3, 22), (3, 23), (3, 24)] rfl
set_option maxRecDepth 20000 in
theorem hs_wsL_law_r25 : ∀ w ∈ wsL_law_r25, w ∈ lw_tbl := hs_inc _ [(3, 25), (3, 26), (3, 27), (3, 28), (3, 29), (3, 30), (3, 31), (5, 92), (5, 93), (5, 94), (5, 95), (3, 32), (3, 33), (3, 34), (3, 35), (3, 36), (3, 37), (3, 38), (3, 39), (3, 40), (3, 41), (3, 42), (3, 43), (3, 44)] rfl
set_option maxRecDepth 20000 in
theorem hs_wsL_law_r26 : ∀ w ∈ wsL_law_r26, w ∈ lw_tbl := hs_inc _ [(3, 45), (3, 46), (3, 47), (5, 96), (5, 97), (5, 98), (5, 99), (5, 100), (5, 102), (0, 40), (5, 103), (5, 104), (5, 106), (0, 41), (5, 107), (3, 48), (3, 49), (3, 50), (3, 51), (3, 52), (3, 53), (3, 54), (3, 55), (3, 56)] rfl
set_option maxRecDepth 20000 in
theorem hs_wsL_law_r27 : ∀ w ∈ wsL_law_r27, w ∈ lw_tbl := hs_inc _ [(3, 57), (3, 58), (3, 59), (3, 68), (3, 69), (3, 70), (3, 60), (3, 61), (3, 62), (3, 63), (3, 64), (3, 65), (3, 66), (3, 67), (5, 108), (5, 109), (5, 110), (5, 111), (5, 112), (5, 114), (0, 42), (5, 115), (5, 116), (5, 118)] rfl
set_option maxRecDepth 20000 in
theorem hs_wsL_law_r28 : ∀ w ∈ wsL_law_r28, w ∈ lw_tbl := hs_inc _ [(0, 43), (5, 119), (5, 120), (5, 121), (5, 122), (5, 123), (5, 125), (0, 44), (5, 126), (5, 127), (5, 129), (0, 45), (5, 130), (5, 131), (5, 132), (5, 133), (3, 71), (3, 72), (3, 73), (3, 74), (3, 75), (3, 76), (3, 77), (3, 78)] rfl
set_option maxRecDepth 20000 in
theorem hs_wsL_law_r29 : ∀ w ∈ wsL_law_r29, w ∈ lw_tbl := hs_inc _ [(3, 79), (5, 134), (5, 135), (5, 136), (5, 137), (5, 138), (5, 140), (0, 46), (5, 141), (5, 142), (5, 143), (5, 144), (3, 80), (3, 81), (3, 82), (3, 83), (3, 84), (3, 85), (1, 15), (3, 86), (3, 87), (3, 88), (3, 89), (5, 145)] rfl
set_option maxRecDepth 20000 in
theorem hs_wsL_law_r30 : ∀ w ∈ wsL_law_r30, w ∈ lw_tbl := hs_inc _ [(5, 146), (5, 147), (5, 148), (5, 149), (5, 150), (5, 151), (5, 152), (5, 153), (5, 154), (3, 90), (3, 91), (3, 92), (3, 93), (3, 94), (3, 95), (1, 16), (3, 96), (3, 99), (1, 52), (3, 97), (3, 98), (5, 155), (5, 156), (5, 157)] rfl
set_option maxRecDepth 20000 in
theorem hs_wsL_law_r31 : ∀ w ∈ wsL_law_r31, w ∈ lw_tbl := hs_inc _ [(5, 158), (5, 159), (5, 161), (0, 47), (5, 162), (5, 163), (3, 100), (3, 101), (3, 102), (3, 103), (3, 104), (3, 106), (0, 13), (3, 107), (3, 108), (3, 109), (3, 110), (3, 111), (5, 164), (5, 165), (5, 166), (5, 167), (5, 168), (5, 170)] rfl
set_option maxRecDepth 20000 in
theorem hs_wsL_law_r32 : ∀ w ∈ wsL_law_r32, w ∈ lw_tbl := hs_inc _ [(0, 48), (5, 171), (3, 112), (3, 113), (3, 114), (3, 115), (3, 116), (3, 117), (3, 118), (3, 119), (3, 120), (3, 121), (3, 122), (3, 123), (3, 124), (5, 172), (5, 173), (5, 174), (5, 175), (3, 125), (3, 126), (3, 127), (3, 128), (3, 129)] rfl
set_option maxRecDepth 20000 in
theorem hs_wsL_law_r33 : ∀ w ∈ wsL_law_r33, w ∈ lw_tbl := hs_inc _ [(3, 130), (3, 131), (3, 132), (3, 133), (3, 134), (3, 135), (3, 136), (3, 137), (3, 138), (3, 139), (3, 140), (3, 141), (3, 142), (1, 58), (1, 62), (3, 143), (5, 176), (5, 177), (5, 178), (5, 179), (5, 180), (5, 182), (0, 49), (5, 183)] rfl
set_option maxRecDepth 20000 in
theorem hs_wsL_law_r34 : ∀ w ∈ wsL_law_r34, w ∈ lw_tbl := hs_inc _ [(3, 144), (3, 145), (3, 146), (3, 147), (5, 184), (5, 185), (5, 186), (5, 187), (3, 148), (3, 149), (3, 150), (3, 151), (3, 152), (3, 153), (3, 154), (3, 155), (3, 156), (3, 157), (3, 158), (3, 159), (3, 160), (3, 161), (3, 162), (3, 163)] rfl
set_option maxRecDepth 20000 in
theorem hs_wsL_law_r35 : ∀ w ∈ wsL_law_r35, w ∈ lw_tbl := hs_inc _ [(3, 164), (3, 165), (3, 167), (0, 14), (3, 168), (5, 188), (5, 189), (5, 190), (5, 191), (3, 169), (3, 170), (3, 171), (3, 172), (3, 173), (3, 174), (3, 175), (5, 192), (5, 193), (5, 194), (5, 195), (3, 176), (3, 177), (3, 178), (3, 179)] rfl
set_option maxRecDepth 20000 in
theorem hs_wsL_law_r36 : ∀ w ∈ wsL_law_r36, w ∈ lw_tbl := hs_inc _ [(3, 184), (3, 180), (3, 182), (0, 15), (3, 183), (3, 185), (3, 186), (3, 187), (3, 188), (3, 192), (3, 189), (3, 190), (3, 191), (3, 193), (3, 194), (3, 195), (3, 196), (5, 196), (5, 197), (5, 198), (5, 199), (5, 200), (5, 201), (4, 104)] rfl
set_option maxRecDepth 20000 in
theorem hs_wsL_law_r37 : ∀ w ∈ wsL_law_r37, w ∈ lw_tbl := hs_inc _ [(4, 106), (5, 202), (5, 204), (0, 50), (5, 205), (4, 105), (5, 206), (5, 207), (5, 208), (5, 209), (5, 210), (5, 211), (3, 197), (3, 198), (3, 199), (3, 200), (3, 201), (3, 202), (3, 203), (5, 212), (5, 213), (5, 214), (5, 215), (3, 204)] rfl
set_option maxRecDepth 20000 in
theorem hs_wsL_law_r38 : ∀ w ∈ wsL_law_r38, w ∈ lw_tbl := hs_inc _ [(3, 205), (3, 206), (3, 207), (1, 77), (3, 208), (3, 209), (3, 210), (3, 211), (5, 216), (5, 217), (5, 218), (5, 219), (3, 212), (3, 213), (3, 214), (3, 215), (5, 220), (5, 221), (5, 222), (5, 223), (3, 216), (3, 217), (3, 218), (3, 219)] rfl
set_option maxRecDepth 20000 in
theorem hs_wsL_law_r39 : ∀ w ∈ wsL_law_r39, w ∈ lw_tbl := hs_inc _ [(3, 220), (3, 221), (3, 222), (3, 223), (3, 224), (5, 224), (5, 225), (5, 226), (5, 227), (5, 228), (5, 230), (0, 51), (5, 231), (3, 225), (3, 226), (3, 227), (3, 228), (5, 232), (5, 233), (5, 234), (5, 235), (3, 229), (3, 230), (3, 231)] rfl
set_option maxRecDepth 20000 in
theorem hs_wsL_law_r40 : ∀ w ∈ wsL_law_r40, w ∈ lw_tbl := hs_inc _ [(3, 232), (3, 233), (3, 234), (3, 235), (3, 236), (3, 237), (3, 238), (3, 239), (5, 236), (5, 237), (5, 238), (5, 239), (6, 0), (6, 1), (4, 0), (4, 1), (4, 2), (4, 3), (6, 2), (6, 3), (6, 4), (6, 5), (6, 6), (6, 8)] rfl
set_option maxRecDepth 20000 in
theorem hs_wsL_law_r41 : ∀ w ∈ wsL_law_r41, w ∈ lw_tbl := hs_inc _ [(0, 52), (6, 9), (4, 4), (4, 5), (4, 6), (4, 7), (6, 10), (6, 11), (6, 12), (6, 13), (4, 8), (4, 9), (4, 10), (4, 11), (4, 12), (4, 13), (4, 14), (4, 15), (4, 16), (4, 17), (4, 19), (4, 20), (4, 21), (4, 22)] rfl
set_option maxRecDepth 20000 in
theorem hs_wsL_law_r42 : ∀ w ∈ wsL_law_r42, w ∈ lw_tbl := hs_inc _ [(1, 206), (6, 14), (6, 15), (6, 16), (6, 17), (6, 18), (6, 19), (6, 20), (4, 23), (4, 24), (4, 25), (4, 26), (4, 27), (4, 28), (4, 29), (4, 30), (4, 31), (4, 32), (4, 33), (4, 34), (4, 35), (4, 36), (4, 37), (4, 38)] rfl
set_option maxRecDepth 20000 in
theorem hs_wsL_law_r43 : ∀ w ∈ wsL_law_r43, w ∈ lw_tbl := hs_inc _ [(6, 21), (6, 22), (6, 23), (6, 24), (4, 39), (4, 40), (4, 41), (4, 42), (1, 224), (4, 43), (4, 44), (4, 45), (4, 46), (4, 47), (4, 48), (4, 49), (4, 50), (4, 51), (4, 52), (6, 25), (6, 26), (6, 27), (6, 28), (6, 29)] rfl
set_option maxRecDepth 20000 in
theorem hs_wsL_law_r44 : ∀ w ∈ wsL_law_r44, w ∈ lw_tbl := hs_inc _ [(4, 110), (6, 30), (4, 53), (4, 54), (4, 55), (4, 56), (6, 31), (6, 32), (6, 33), (6, 34), (4, 57), (4, 58), (4, 59), (4, 60), (1, 207), (4, 61), (4, 63), (0, 16), (4, 64), (4, 65), (6, 35), (6, 36), (6, 37), (6, 38)] rfl
set_option maxRecDepth 20000 in
theorem hs_wsX70 : ∀ w ∈ wsX70, w ∈ lw_tbl := hs_inc _ [(1, 225), (1, 227), (1, 229), (1, 231), (1, 233), (1, 235), (1, 237), (1, 239), (2, 1), (2, 3)] rfl
set_option maxRecDepth 20000 in
theorem hs_wsX80 : ∀ w ∈ wsX80, w ∈ lw_tbl := hs_inc _ [(4, 112), (4, 114), (4, 116), (4, 118), (4, 120), (4, 122), (4, 124), (4, 126), (4, 128), (4, 130), (4, 132), (4, 134), (4, 136), (4, 138), (4, 140), (4, 142), (4, 144), (4, 146), (4, 148), (4, 150), (4, 152), (4, 154), (4, 156), (4, 158), (4, 160), (4, 162), (4, 164), (4, 166), (4, 168), (4, 170), (4, 172), (4, 174)] rfl
set_option maxRecDepth 20000 in
theorem hs_wsX60 : ∀ w ∈ wsX60, w ∈ lw_tbl := hs_inc _ [(1, 78), (1, 80), (1, 82), (1, 84), (1, 86), (1, 88), (1, 90), (1, 92), (1, 94), (1, 96), (1, 98), (1, 100), (1, 102), (1, 104), (1, 106)] rfl
set_option maxRecDepth 20000 in
theorem hs_wsX50 : ∀ w ∈ wsX50, w ∈ lw_tbl := hs_inc _ [(1, 159), (1, 161), (1, 163), (1, 165), (1, 167)] rfl
set_option maxRecDepth 20000 in
theorem hs_wsX20 : ∀ w ∈ wsX20, w ∈ lw_tbl := hs_inc _ [(1, 179), (1, 181), (1, 183)] rfl
set_option maxRecDepth 20000 in
theorem hs_wsX00 : ∀ w ∈ wsX00, w ∈ lw_tbl := hs_inc _ [(1, 193)] rfl
set_option maxRecDepth 20000 in
theorem hs_wsX30 : ∀ w ∈ wsX30, w ∈ lw_tbl := hs_inc _ [(1, 208), (1, 210), (1, 212)] rfl
set_option maxRecDepth 20000 in
theorem hs_wsX40 : ∀ w ∈ wsX40, w ∈ lw_tbl := hs_inc _ [(1, 134), (1, 136), (1, 138), (1, 140), (1, 142), (1, 144)] rfl
set_option maxRecDepth 20000 in
theorem wsL_law_in : ∀ w ∈ wsL_law, w ∈ lw_tbl := List.forall_mem_append.mpr ⟨List.forall_mem_append.mpr ⟨List.forall_mem_append.mpr ⟨List.forall_mem_append.mpr ⟨List.forall_mem_append.mpr ⟨List.forall_mem_append.mpr ⟨List.forall_mem_append.mpr ⟨List.forall_mem_append.mpr ⟨List.forall_mem_append.mpr ⟨List.forall_mem_append.mpr ⟨hs_wsL_law_r1, List.forall_mem_append.mpr ⟨hs_wsL_law_r2, List.forall_mem_append.mpr ⟨hs_wsL_law_r3, List.forall_mem_append.mpr ⟨hs_wsL_law_r4, List.forall_mem_append.mpr ⟨hs_wsL_law_r5, List.forall_mem_append.mpr ⟨hs_wsL_law_r6, List.forall_mem_append.mpr ⟨hs_wsL_law_r7, List.forall_mem_append.mpr ⟨hs_wsL_law_r8, List.forall_mem_append.mpr ⟨hs_wsL_law_r9, List.forall_mem_append.mpr ⟨hs_wsL_law_r10, List.forall_mem_append.mpr ⟨hs_wsL_law_r11, List.forall_mem_append.mpr ⟨hs_wsL_law_r12, List.forall_mem_append.mpr ⟨hs_wsL_law_r13, List.forall_mem_append.mpr ⟨hs_wsL_law_r14, List.forall_mem_append.mpr ⟨hs_wsL_law_r15, List.forall_mem_append.mpr ⟨hs_wsL_law_r16, List.forall_mem_append.mpr ⟨hs_wsL_law_r17, List.forall_mem_append.mpr ⟨hs_wsL_law_r18, List.forall_mem_append.mpr ⟨hs_wsL_law_r19, List.forall_mem_append.mpr ⟨hs_wsL_law_r20, List.forall_mem_append.mpr ⟨hs_wsL_law_r21, List.forall_mem_append.mpr ⟨hs_wsL_law_r22, List.forall_mem_append.mpr ⟨hs_wsL_law_r23, List.forall_mem_append.mpr ⟨hs_wsL_law_r24, List.forall_mem_append.mpr ⟨hs_wsL_law_r25, List.forall_mem_append.mpr ⟨hs_wsL_law_r26, List.forall_mem_append.mpr ⟨hs_wsL_law_r27, List.forall_mem_append.mpr ⟨hs_wsL_law_r28, List.forall_mem_append.mpr ⟨hs_wsL_law_r29, List.forall_mem_append.mpr ⟨hs_wsL_law_r30, List.forall_mem_append.mpr ⟨hs_wsL_law_r31, List.forall_mem_append.mpr ⟨hs_wsL_law_r32, List.forall_mem_append.mpr ⟨hs_wsL_law_r33, List.forall_mem_append.mpr ⟨hs_wsL_law_r34, List.forall_mem_append.mpr ⟨hs_wsL_law_r35, List.forall_mem_append.mpr ⟨hs_wsL_law_r36, List.forall_mem_append.mpr ⟨hs_wsL_law_r37, List.forall_mem_append.mpr ⟨hs_wsL_law_r38, List.forall_mem_append.mpr ⟨hs_wsL_law_r39, List.forall_mem_append.mpr ⟨hs_wsL_law_r40, List.forall_mem_append.mpr ⟨hs_wsL_law_r41, List.forall_mem_append.mpr ⟨hs_wsL_law_r42, List.forall_mem_append.mpr ⟨hs_wsL_law_r43, hs_wsL_law_r44⟩⟩⟩⟩⟩⟩⟩⟩⟩⟩⟩⟩⟩⟩⟩⟩⟩⟩⟩⟩⟩⟩⟩⟩⟩⟩⟩⟩⟩⟩⟩⟩⟩⟩⟩⟩⟩⟩⟩⟩⟩⟩⟩, hs_wsX70⟩, hs_wsX80⟩, hs_wsX60⟩, hs_wsX50⟩, hs_wsX20⟩, hs_wsX00⟩, hs_wsX30⟩, hs_wsX40⟩, fun _ h => absurd h List.not_mem_nil⟩
theorem inlX0 : ∀ w ∈ wsX00, w ∈ wsL_law := fun _ h => List.mem_append_left _ (List.mem_append_left _ (List.mem_append_left _ (List.mem_append_right _ h)))
theorem inX0 : ∀ w ∈ wsX00, w ∈ lw_tbl := fun w h => wsL_law_in w (inlX0 w h)
theorem inX1 : ∀ w ∈ wsX10, w ∈ lw_tbl := by decide +kernel
theorem inlX2 : ∀ w ∈ wsX20, w ∈ wsL_law := fun _ h => List.mem_append_left _ (List.mem_append_left _ (List.mem_append_left _ (List.mem_append_left _ (List.mem_append_right _ h))))
theorem inX2 : ∀ w ∈ wsX20, w ∈ lw_tbl := fun w h => wsL_law_in w (inlX2 w h)
theorem inlX3 : ∀ w ∈ wsX30, w ∈ wsL_law := fun _ h => List.mem_append_left _ (List.mem_append_left _ (List.mem_append_right _ h))
theorem inX3 : ∀ w ∈ wsX30, w ∈ lw_tbl := fun w h => wsL_law_in w (inlX3 w h)
theorem inlX4 : ∀ w ∈ wsX40, w ∈ wsL_law := fun _ h => List.mem_append_left _ (List.mem_append_right _ h)
theorem inX4 : ∀ w ∈ wsX40, w ∈ lw_tbl := fun w h => wsL_law_in w (inlX4 w h)
theorem inlX5 : ∀ w ∈ wsX50, w ∈ wsL_law := fun _ h => List.mem_append_left _ (List.mem_append_left _ (List.mem_append_left _ (List.mem_append_left _ (List.mem_append_left _ (List.mem_append_right _ h)))))
theorem inX5 : ∀ w ∈ wsX50, w ∈ lw_tbl := fun w h => wsL_law_in w (inlX5 w h)
theorem inlX6 : ∀ w ∈ wsX60, w ∈ wsL_law := fun _ h => List.mem_append_left _ (List.mem_append_left _ (List.mem_append_left _ (List.mem_append_left _ (List.mem_append_left _ (List.mem_append_left _ (List.mem_append_right _ h))))))
theorem inX6 : ∀ w ∈ wsX60, w ∈ lw_tbl := fun w h => wsL_law_in w (inlX6 w h)
theorem inlX7 : ∀ w ∈ wsX70, w ∈ wsL_law := fun _ h => List.mem_append_left _ (List.mem_append_left _ (List.mem_append_left _ (List.mem_append_left _ (List.mem_append_left _ (List.mem_append_left _ (List.mem_append_left _ (List.mem_append_left _ (List.mem_append_right _ h))))))))
theorem inX7 : ∀ w ∈ wsX70, w ∈ lw_tbl := fun w h => wsL_law_in w (inlX7 w h)
theorem inlX8 : ∀ w ∈ wsX80, w ∈ wsL_law := fun _ h => List.mem_append_left _ (List.mem_append_left _ (List.mem_append_left _ (List.mem_append_left _ (List.mem_append_left _ (List.mem_append_left _ (List.mem_append_left _ (List.mem_append_right _ h)))))))
theorem inX8 : ∀ w ∈ wsX80, w ∈ lw_tbl := fun w h => wsL_law_in w (inlX8 w h)
theorem inJ6 : ∀ w ∈ wsJ60, w ∈ lw_tbl := by decide +kernel
theorem inJ9 : ∀ w ∈ wsJ90, w ∈ lw_tbl := by decide +kernel
theorem inJ0 : ∀ w ∈ wsJ00, w ∈ lw_tbl := by decide +kernel
theorem inJ1 : ∀ w ∈ wsJ10, w ∈ lw_tbl := by decide +kernel
theorem inJ2 : ∀ w ∈ wsJ20, w ∈ lw_tbl := by decide +kernel
theorem inJ10 : ∀ w ∈ wsJ100, w ∈ lw_tbl := by decide +kernel
theorem inJ3 : ∀ w ∈ wsJ30, w ∈ lw_tbl := by decide +kernel
