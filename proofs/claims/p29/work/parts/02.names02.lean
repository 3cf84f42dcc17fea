theorem hs_inr {big : List Cond} (ws : List Cond) (ps : List Nat) (hp : ws = ps.filterMap (fun i => big[i]?)) : ∀ w ∈ ws, w ∈ big := by
  intro w hw
  rw [hp] at hw
  obtain ⟨i, -, hi⟩ := List.mem_filterMap.mp hw
  first | exact List.mem_of_getElem? hi | exact List.getElem?_mem hi
def hsCh : Nat → List Cond := fun c => match c with | 0 => k2_sels lw_privs | 1 => tables_1_1 | 2 => tables_1_2 | 3 => tables_1_3 | 4 => tables_1_4 | 5 => tables_1_5 | 6 => tables_1_6 | _ => []
theorem hsCh_in : ∀ c w, w ∈ hsCh c → w ∈ lw_tbl := by
  intro c w h
  match c, h with
  | 0, h => exact List.mem_append_left _ h
  | 1, h => exact List.mem_append_right _ (List.mem_append_left _ h)
  | 2, h => exact List.mem_append_right _ (List.mem_append_right _ (List.mem_append_left _ h))
  | 3, h => exact List.mem_append_right _ (List.mem_append_right _ (List.mem_append_right _ (List.mem_append_left _ h)))
  | 4, h => exact List.mem_append_right _ (List.mem_append_right _ (List.mem_append_right _ (List.mem_append_right _ (List.mem_append_left _ h))))
  | 5, h => exact List.mem_append_right _ (List.mem_append_right _ (List.mem_append_right _ (List.mem_append_right _ (List.mem_append_right _ (List.mem_append_left _ h)))))
  | 6, h => exact List.mem_append_right _ (List.mem_append_right _ (List.mem_append_right _ (List.mem_append_right _ (List.mem_append_right _ (List.mem_append_right _ (h))))))
  | c + 7, h => exact absurd h List.not_mem_nil
theorem hs_inc (ws : List Cond) (ps : List (Nat × Nat)) (hp : ws = ps.filterMap (fun i => (hsCh i.1)[i.2]?)) : ∀ w ∈ ws, w ∈ lw_tbl := by
  intro w hw
  rw [hp] at hw
  obtain ⟨i, -, hi⟩ := List.mem_filterMap.mp hw
  exact hsCh_in i.1 w (by first | exact List.mem_of_getElem? hi | exact List.getElem?_mem hi)
theorem hs_in1 (c i : Nat) {w : Cond} (h : (hsCh c)[i]? = some w) : w ∈ lw_tbl := hsCh_in c w (by first | exact List.mem_of_getElem? h | exact List.getElem?_mem h)
set_option maxRecDepth 20000 in
theorem hs_wsX70 : ∀ w ∈ wsX70, w ∈ lw_tbl := hs_inc _ [(1, 225), (1, 227), (1, 229), (1, 231), (1, 233), (1, 235), (1, 237), (1, 239), (2, 1), (2, 3)] rfl
set_option maxRecDepth 20000 in
theorem hs_wsX80 : ∀ w ∈ wsX80, w ∈ lw_tbl := hs_inc _ [(4, 112), (4, 114), (4, 116), (4, 118), (4, 120), (4, 122), (4, 124), (4, 126), (4, 128), (4, 130), (4, 132), (4, 134), (4, 136), (4, 138), (4, 140), (4, 142), (4, 144), (4, 146), (4, 148), (4, 150), (4, 152), (4, 154), (4, 156), (4, 158), (4, 160), (4, 162), (4, 164), (4, 166), (4, 168), (4, 170), (4, 172), (4, 174)] rfl
set_option maxRecDepth 20000 in
theorem hs_wsX60 : ∀ w ∈ wsX60, w ∈ lw_tbl := hs_inc _ [(1, 78), (1, 80), (1, 82), (1, 84), (1, 86), (1, 88), (1, 90), (1, 92), (1, 94), (1, 96), (1, 98), (1, 100), (1, 102), (1, 104), (1, 106)] rfl
set_option maxRecDepth 20000 in
theorem hs_wsX50 : ∀ w ∈ wsX50, w ∈ lw_tbl := hs_inc _ [(1, 159), (1, 161), (1, 163), (1, 165), (1, 167)] rfl
set_option maxRecDepth 20000 in
theorem hs_wsX20 : ∀ w ∈ wsX20, w ∈ lw_tbl := hs_inc _ [(1, 179), (1, 181), (1, 183)] rfl
set_option maxRecDepth 20000 in
theorem hs_wsX00 : ∀ w ∈ wsX00, w ∈ lw_tbl := hs_inc _ [(1, 193)] rfl
set_option maxRecDepth 20000 in
theorem hs_wsX30 : ∀ w ∈ wsX30, w ∈ lw_tbl := hs_inc _ [(1, 208), (1, 210), (1, 212)] rfl
set_option maxRecDepth 20000 in
theorem hs_wsX40 : ∀ w ∈ wsX40, w ∈ lw_tbl := hs_inc _ [(1, 134), (1, 136), (1, 138), (1, 140), (1, 142), (1, 144)] rfl
theorem inX0 : ∀ w ∈ wsX00, w ∈ lw_tbl := hs_wsX00
theorem inX1 : ∀ w ∈ wsX10, w ∈ lw_tbl := by decide +kernel
theorem inX2 : ∀ w ∈ wsX20, w ∈ lw_tbl := hs_wsX20
theorem inX3 : ∀ w ∈ wsX30, w ∈ lw_tbl := hs_wsX30
theorem inX4 : ∀ w ∈ wsX40, w ∈ lw_tbl := hs_wsX40
theorem inX5 : ∀ w ∈ wsX50, w ∈ lw_tbl := hs_wsX50
theorem inX6 : ∀ w ∈ wsX60, w ∈ lw_tbl := hs_wsX60
theorem inX7 : ∀ w ∈ wsX70, w ∈ lw_tbl := hs_wsX70
theorem inX8 : ∀ w ∈ wsX80, w ∈ lw_tbl := hs_wsX80
theorem inJ6 : ∀ w ∈ wsJ60, w ∈ lw_tbl := by decide +kernel
theorem inJ9 : ∀ w ∈ wsJ90, w ∈ lw_tbl := by decide +kernel
theorem inJ0 : ∀ w ∈ wsJ00, w ∈ lw_tbl := by decide +kernel
theorem inJ1 : ∀ w ∈ wsJ10, w ∈ lw_tbl := by decide +kernel
theorem inJ2 : ∀ w ∈ wsJ20, w ∈ lw_tbl := by decide +kernel
theorem inJ10 : ∀ w ∈ wsJ100, w ∈ lw_tbl := by decide +kernel
theorem inJ3 : ∀ w ∈ wsJ30, w ∈ lw_tbl := by decide +kernel

-- the words of every method: its code, then the good ones of the table
theorem hs_inG (c i : Nat) {w : Cond} (h : (hsCh c)[i]? = some w) (hg : goodWord w = true) : w ∈ hs_gd := List.mem_filter.mpr ⟨hs_in1 c i h, hg⟩
theorem hs_gw {w : Cond} (h : w ∈ hs_gd) : (w.onTables && w.keeps) = true ∨ ∃ ty, w = .arrayClass ty := good_of_word (List.mem_filter.mp h).2
theorem hs_gT {c1 : Cond} (h : c1 ∈ hs_gd) : GoodIn hs_gd (c1 :: hs_gd) := fun w hw => (List.mem_cons.mp hw).elim (fun e => by rw [e]; exact ⟨h, hs_gw h⟩) (fun h2 => ⟨h2, hs_gw h2⟩)
theorem hs_gC {c0 : Cond} {ws : List Cond} (h : GoodIn hs_gd ws) : GoodIn (c0 :: hs_gd) ws := fun w hw => ⟨List.mem_cons_of_mem _ (h w hw).1, (h w hw).2⟩
theorem hs_gLw {ws : List Cond} (h : GoodIn hs_gd ws) : GoodIn lw_tbl ws := fun w hw => ⟨(List.mem_filter.mp (h w hw).1).1, (h w hw).2⟩
theorem hs_gL (l : List Cond) {ws : List Cond} (hl : ∀ w ∈ l, w ∈ hs_gd) (h : GoodIn hs_gd ws) : GoodIn hs_gd (l ++ ws) := fun w hw => (List.mem_append.mp hw).elim (fun h2 => ⟨hl w h2, hs_gw (hl w h2)⟩) (h w)
theorem hs_l4 {a b c d : Cond} (ha : a ∈ hs_gd) (hb : b ∈ hs_gd) (hc : c ∈ hs_gd) (hd : d ∈ hs_gd) : ∀ w ∈ [a, b, c, d], w ∈ hs_gd := List.forall_mem_cons.mpr ⟨ha, List.forall_mem_cons.mpr ⟨hb, List.forall_mem_cons.mpr ⟨hc, List.forall_mem_cons.mpr ⟨hd, fun _ h => absurd h List.not_mem_nil⟩⟩⟩⟩
theorem hs_l3 {a b c : Cond} (ha : a ∈ hs_gd) (hb : b ∈ hs_gd) (hc : c ∈ hs_gd) : ∀ w ∈ [a, b, c], w ∈ hs_gd := List.forall_mem_cons.mpr ⟨ha, List.forall_mem_cons.mpr ⟨hb, List.forall_mem_cons.mpr ⟨hc, fun _ h => absurd h List.not_mem_nil⟩⟩⟩
theorem hs_gV {own : String} {idx : Nat} {C : String} {y : MethodName} {c1 : Cond} (h1 : .methodLink own idx y ∈ hs_gd) (h2 : .instanceMethod y ∈ hs_gd) (h3 : .selects C y y ∈ hs_gd) (h4 : .initialized C ∈ hs_gd) (h : c1 ∈ hs_gd) : GoodIn hs_gd (wsV own idx C y (c1 :: hs_gd)) := hs_gL _ (hs_l4 h1 h2 h3 h4) (hs_gT h)
theorem hs_gS {own : String} {idx : Nat} {y : MethodName} {c1 : Cond} (h1 : .methodLink own idx y ∈ hs_gd) (h2 : .static y ∈ hs_gd) (h3 : .initialized y.cls ∈ hs_gd) (h : c1 ∈ hs_gd) : GoodIn hs_gd (va_wsS own idx y (c1 :: hs_gd)) := hs_gL _ (hs_l3 h1 h2 h3) (hs_gT h)
theorem hs_inW (ws : List Cond) (h : ∀ w ∈ ws, w ∈ lw_tbl) (hg : ws.all goodWord = true) : ∀ w ∈ ws, w ∈ hs_gd := fun w hw => List.mem_filter.mpr ⟨h w hw, List.all_eq_true.mp hg w hw⟩

theorem igJ0 : ∀ w ∈ wsJ00, w ∈ hs_gd := hs_inW _ inJ0 (by decide +kernel)
theorem igJ1 : ∀ w ∈ wsJ10, w ∈ hs_gd := hs_inW _ inJ1 (by decide +kernel)
theorem igJ10 : ∀ w ∈ wsJ100, w ∈ hs_gd := hs_inW _ inJ10 (by decide +kernel)
theorem igJ2 : ∀ w ∈ wsJ20, w ∈ hs_gd := hs_inW _ inJ2 (by decide +kernel)
theorem igJ3 : ∀ w ∈ wsJ30, w ∈ hs_gd := hs_inW _ inJ3 (by decide +kernel)
theorem igJ6 : ∀ w ∈ wsJ60, w ∈ hs_gd := hs_inW _ inJ6 (by decide +kernel)
theorem igJ9 : ∀ w ∈ wsJ90, w ∈ hs_gd := hs_inW _ inJ9 (by decide +kernel)
theorem igX0 : ∀ w ∈ wsX00, w ∈ hs_gd := hs_inW _ inX0 (by decide +kernel)
theorem igX1 : ∀ w ∈ wsX10, w ∈ hs_gd := hs_inW _ inX1 (by decide +kernel)
theorem igX2 : ∀ w ∈ wsX20, w ∈ hs_gd := hs_inW _ inX2 (by decide +kernel)
theorem igX3 : ∀ w ∈ wsX30, w ∈ hs_gd := hs_inW _ inX3 (by decide +kernel)
theorem igX4 : ∀ w ∈ wsX40, w ∈ hs_gd := hs_inW _ inX4 (by decide +kernel)
theorem igX5 : ∀ w ∈ wsX50, w ∈ hs_gd := hs_inW _ inX5 (by decide +kernel)
theorem igX6 : ∀ w ∈ wsX60, w ∈ hs_gd := hs_inW _ inX6 (by decide +kernel)
theorem igX7 : ∀ w ∈ wsX70, w ∈ hs_gd := hs_inW _ inX7 (by decide +kernel)
theorem igX8 : ∀ w ∈ wsX80, w ∈ hs_gd := hs_inW _ inX8 (by decide +kernel)
set_option maxRecDepth 20000 in
theorem inC_X0_init : .code yX0_init cX0_init 1 none ∈ hs_gd := hs_inG 1 190 rfl rfl
set_option maxRecDepth 20000 in
theorem inC_X0_saysJust : .code yX0_saysJust cX0_saysJust 3 (some .int) ∈ hs_gd := hs_inG 3 191 rfl rfl
set_option maxRecDepth 20000 in
theorem inC_X0_lowest : .code yX0_lowest cX0_lowest 12 (some .long) ∈ hs_gd := hs_inG 3 195 rfl rfl
set_option maxRecDepth 20000 in
theorem inC_X0_majority : .code yX0_majority cX0_majority 10 (some .long) ∈ hs_gd := hs_inG 3 188 rfl rfl
set_option maxRecDepth 20000 in
theorem inC_X0_expected : .code yX0_expected cX0_expected 7 (some .long) ∈ hs_gd := hs_inG 3 203 rfl rfl
set_option maxRecDepth 20000 in
theorem inC_X6_leftOf : .code yX6_leftOf cX6_leftOf 2 (some .int) ∈ hs_gd := hs_inG 3 63 rfl rfl
set_option maxRecDepth 20000 in
theorem inC_X6_worthOfCell : .code yX6_worthOfCell cX6_worthOfCell 6 (some .int) ∈ hs_gd := hs_inG 3 47 rfl rfl
set_option maxRecDepth 20000 in
theorem inC_X6_lead : .code yX6_lead cX6_lead 6 (some .int) ∈ hs_gd := hs_inG 3 67 rfl rfl
set_option maxRecDepth 20000 in
theorem inC_X1_honestCut : .code yX1_honestCut cX1_honestCut 6 (some .int) ∈ hs_gd := hs_inG 3 96 rfl rfl
set_option maxRecDepth 20000 in
theorem inC_X6_allCells : .code yX6_allCells cX6_allCells 1 (some .int) ∈ hs_gd := hs_inG 3 39 rfl rfl
set_option maxRecDepth 20000 in
theorem inC_X1_choice : .code yX1_choice cX1_choice 4 (some .int) ∈ hs_gd := hs_inG 3 110 rfl rfl
set_option maxRecDepth 20000 in
theorem inC_X6_worthOf : .code yX6_worthOf cX6_worthOf 5 (some .int) ∈ hs_gd := hs_inG 3 43 rfl rfl
set_option maxRecDepth 20000 in
theorem inC_X1_leftOver : .code yX1_leftOver cX1_leftOver 4 (some .int) ∈ hs_gd := hs_inG 3 121 rfl rfl
set_option maxRecDepth 20000 in
theorem inC_X1_slyCut : .code yX1_slyCut cX1_slyCut 7 (some .int) ∈ hs_gd := hs_inG 3 118 rfl rfl
set_option maxRecDepth 20000 in
theorem inC_J6_bitCount_0f7a4 : .code yJ6_bitCount_0f7a4 cJ6_bitCount_0f7a4 1 (some .int) ∈ hs_gd := hs_inG 3 86 rfl rfl
set_option maxRecDepth 20000 in
theorem inC_X1_cutsOf : .code yX1_cutsOf cX1_cutsOf 3 (some .int) ∈ hs_gd := hs_inG 3 138 rfl rfl
set_option maxRecDepth 20000 in
theorem inC_X1_isJustToAll : .code yX1_isJustToAll cX1_isJustToAll 4 (some .boolean) ∈ hs_gd := hs_inG 3 142 rfl rfl
set_option maxRecDepth 20000 in
theorem inC_X1_fewestCuts : .code yX1_fewestCuts cX1_fewestCuts 6 (some .int) ∈ hs_gd := hs_inG 3 135 rfl rfl
set_option maxRecDepth 20000 in
theorem inC_X2_init : .code yX2_init cX2_init 1 none ∈ hs_gd := hs_inG 1 174 rfl rfl
set_option maxRecDepth 20000 in
theorem inC_X2_learn : .code yX2_learn cX2_learn 3 none ∈ hs_gd := hs_inG 2 167 rfl rfl
set_option maxRecDepth 20000 in
theorem inC_X2_mayCome : .code yX2_mayCome cX2_mayCome 3 (some .boolean) ∈ hs_gd := hs_inG 2 175 rfl rfl
set_option maxRecDepth 20000 in
theorem inC_X2_howMany : .code yX2_howMany cX2_howMany 6 (some .int) ∈ hs_gd := hs_inG 2 171 rfl rfl
set_option maxRecDepth 20000 in
theorem inC_X2_howManyWith : .code yX2_howManyWith cX2_howManyWith 5 (some .int) ∈ hs_gd := hs_inG 3 29 rfl rfl
set_option maxRecDepth 20000 in
theorem inC_X2_lightest : .code yX2_lightest cX2_lightest 3 (some .int) ∈ hs_gd := hs_inG 3 156 rfl rfl
set_option maxRecDepth 20000 in
theorem inC_X2_heaviest : .code yX2_heaviest cX2_heaviest 3 (some .int) ∈ hs_gd := hs_inG 3 160 rfl rfl
set_option maxRecDepth 20000 in
theorem inC_X2_leastBehind : .code yX2_leastBehind cX2_leastBehind 3 (some .int) ∈ hs_gd := hs_inG 3 168 rfl rfl
set_option maxRecDepth 20000 in
theorem inC_X2_ofFirst : .code yX2_ofFirst cX2_ofFirst 5 (some .int) ∈ hs_gd := hs_inG 3 164 rfl rfl
set_option maxRecDepth 20000 in
theorem inC_X3_init : .code yX3_init cX3_init 1 none ∈ hs_gd := hs_inG 1 202 rfl rfl
set_option maxRecDepth 20000 in
theorem inC_X7_within : .code yX7_within cX7_within 3 (some .boolean) ∈ hs_gd := hs_inG 2 12 rfl rfl
set_option maxRecDepth 20000 in
theorem inC_X3_isLane : .code yX3_isLane cX3_isLane 1 (some .boolean) ∈ hs_gd := hs_inG 4 17 rfl rfl
set_option maxRecDepth 20000 in
theorem inC_X3_isNothing : .code yX3_isNothing cX3_isNothing 1 (some .boolean) ∈ hs_gd := hs_inG 4 34 rfl rfl
set_option maxRecDepth 20000 in
theorem inC_X3_renew : .code yX3_renew cX3_renew 4 none ∈ hs_gd := hs_inG 4 22 rfl rfl
set_option maxRecDepth 20000 in
theorem inC_X3_faultAt : .code yX3_faultAt cX3_faultAt 2 (some .int) ∈ hs_gd := hs_inG 4 30 rfl rfl
set_option maxRecDepth 20000 in
theorem inC_X3_faultOfTwo : .code yX3_faultOfTwo cX3_faultOfTwo 4 (some .int) ∈ hs_gd := hs_inG 4 46 rfl rfl
set_option maxRecDepth 20000 in
theorem inC_X3_at : .code yX3_at cX3_at 2 (some .int) ∈ hs_gd := hs_inG 4 51 rfl rfl
set_option maxRecDepth 20000 in
theorem inC_X3_put : .code yX3_put cX3_put 3 none ∈ hs_gd := hs_inG 4 38 rfl rfl
set_option maxRecDepth 20000 in
theorem inC_X4_init : .code yX4_init cX4_init 1 none ∈ hs_gd := hs_inG 1 121 rfl rfl
set_option maxRecDepth 20000 in
theorem inC_X4_kindOfSign : .code yX4_kindOfSign cX4_kindOfSign 1 (some .int) ∈ hs_gd := hs_inG 2 36 rfl rfl
set_option maxRecDepth 20000 in
theorem inC_X4_isLong : .code yX4_isLong cX4_isLong 1 (some .boolean) ∈ hs_gd := hs_inG 2 40 rfl rfl
set_option maxRecDepth 20000 in
theorem inC_X4_measure : .code yX4_measure cX4_measure 2 none ∈ hs_gd := hs_inG 2 44 rfl rfl
set_option maxRecDepth 20000 in
theorem inC_X4_advance : .code yX4_advance cX4_advance 1 none ∈ hs_gd := hs_inG 2 33 rfl rfl
set_option maxRecDepth 20000 in
theorem inC_X4_restart : .code yX4_restart cX4_restart 1 none ∈ hs_gd := hs_inG 2 29 rfl rfl
set_option maxRecDepth 20000 in
theorem inC_J0_coder_7d493 : .code yJ0_coder_7d493 cJ0_coder_7d493 1 (some .byte) ∈ hs_gd := hs_inG 2 76 rfl rfl
set_option maxRecDepth 20000 in
theorem inC_J0_length_8abf5 : .code yJ0_length_8abf5 cJ0_length_8abf5 1 (some .int) ∈ hs_gd := hs_inG 2 72 rfl rfl
set_option maxRecDepth 20000 in
theorem inC_J0_isLatin1_aae02 : .code yJ0_isLatin1_aae02 cJ0_isLatin1_aae02 1 (some .boolean) ∈ hs_gd := hs_inG 2 86 rfl rfl
set_option maxRecDepth 20000 in
theorem inC_J3_checkIndex_8e157 : .code yJ3_checkIndex_8e157 cJ3_checkIndex_8e157 3 (some .int) ∈ hs_gd := hs_inG 2 97 rfl rfl
set_option maxRecDepth 20000 in
theorem inC_J0_checkIndex_df160 : .code yJ0_checkIndex_df160 cJ0_checkIndex_df160 2 none ∈ hs_gd := hs_inG 2 92 rfl rfl
set_option maxRecDepth 20000 in
theorem inC_J1_charAt_3b067 : .code yJ1_charAt_3b067 cJ1_charAt_3b067 2 (some .char) ∈ hs_gd := hs_inG 2 89 rfl rfl
set_option maxRecDepth 20000 in
theorem inC_J2_length_9d52b : .code yJ2_length_9d52b cJ2_length_9d52b 1 (some .int) ∈ hs_gd := hs_inG 2 106 rfl rfl
set_option maxRecDepth 20000 in
theorem inC_J2_checkIndex_2214a : .code yJ2_checkIndex_2214a cJ2_checkIndex_2214a 2 none ∈ hs_gd := hs_inG 2 103 rfl rfl
set_option maxRecDepth 20000 in
theorem inC_J2_getChar_3b067 : .code yJ2_getChar_3b067 cJ2_getChar_3b067 2 (some .char) ∈ hs_gd := hs_inG 2 110 rfl rfl
set_option maxRecDepth 20000 in
theorem inC_J2_charAt_3b067 : .code yJ2_charAt_3b067 cJ2_charAt_3b067 2 (some .char) ∈ hs_gd := hs_inG 2 100 rfl rfl
set_option maxRecDepth 20000 in
theorem inC_J0_charAt_5068e : .code yJ0_charAt_5068e cJ0_charAt_5068e 2 (some .char) ∈ hs_gd := hs_inG 2 82 rfl rfl
set_option maxRecDepth 20000 in
theorem inC_X4_isWord : .code yX4_isWord cX4_isWord 3 (some .boolean) ∈ hs_gd := hs_inG 2 68 rfl rfl
set_option maxRecDepth 20000 in
theorem inC_X6_begin : .code yX6_begin cX6_begin 1 none ∈ hs_gd := hs_inG 1 34 rfl rfl
set_option maxRecDepth 20000 in
theorem inC_X6_init : .code yX6_init cX6_init 1 none ∈ hs_gd := hs_inG 1 29 rfl rfl
set_option maxRecDepth 20000 in
theorem inC_X5_init : .code yX5_init cX5_init 1 none ∈ hs_gd := hs_inG 1 115 rfl rfl
set_option maxRecDepth 20000 in
theorem inC_X5_wordOf : .code yX5_wordOf cX5_wordOf 1 (some (.object "java/lang/String")) ∈ hs_gd := hs_inG 2 55 rfl rfl
set_option maxRecDepth 20000 in
theorem inC_X5_lineHere : .code yX5_lineHere cX5_lineHere 2 (some .int) ∈ hs_gd := hs_inG 2 52 rfl rfl
set_option maxRecDepth 20000 in
theorem inC_X5_blame : .code yX5_blame cX5_blame 2 none ∈ hs_gd := hs_inG 2 128 rfl rfl
set_option maxRecDepth 20000 in
theorem inC_X5_blameFor : .code yX5_blameFor cX5_blameFor 2 none ∈ hs_gd := hs_inG 2 124 rfl rfl
set_option maxRecDepth 20000 in
theorem inC_X5_checkName : .code yX5_checkName cX5_checkName 2 none ∈ hs_gd := hs_inG 2 120 rfl rfl
set_option maxRecDepth 20000 in
theorem inC_X5_takeNumber : .code yX5_takeNumber cX5_takeNumber 5 (some .int) ∈ hs_gd := hs_inG 2 137 rfl rfl
set_option maxRecDepth 20000 in
theorem inC_X5_takeCells : .code yX5_takeCells cX5_takeCells 1 none ∈ hs_gd := hs_inG 2 133 rfl rfl
set_option maxRecDepth 20000 in
theorem inC_X6_addPair : .code yX6_addPair cX6_addPair 3 none ∈ hs_gd := hs_inG 2 146 rfl rfl
set_option maxRecDepth 20000 in
theorem inC_X5_takePair : .code yX5_takePair cX5_takePair 3 none ∈ hs_gd := hs_inG 2 142 rfl rfl
set_option maxRecDepth 20000 in
theorem inC_X6_addPerson : .code yX6_addPerson cX6_addPerson 2 none ∈ hs_gd := hs_inG 2 150 rfl rfl
set_option maxRecDepth 20000 in
theorem inC_X5_takeMark : .code yX5_takeMark cX5_takeMark 1 none ∈ hs_gd := hs_inG 2 154 rfl rfl
set_option maxRecDepth 20000 in
theorem inC_X5_takeLine : .code yX5_takeLine cX5_takeLine 2 none ∈ hs_gd := hs_inG 2 48 rfl rfl
set_option maxRecDepth 20000 in
theorem inC_X6_isHalf : .code yX6_isHalf cX6_isHalf 2 (some .boolean) ∈ hs_gd := hs_inG 2 162 rfl rfl
set_option maxRecDepth 20000 in
theorem inC_X5_checkCase : .code yX5_checkCase cX5_checkCase 3 none ∈ hs_gd := hs_inG 2 158 rfl rfl
set_option maxRecDepth 20000 in
theorem inC_X5_tellAll : .code yX5_tellAll cX5_tellAll 3 (some .int) ∈ hs_gd := hs_inG 2 24 rfl rfl
set_option maxRecDepth 20000 in
theorem inC_X6_copyFrom : .code yX6_copyFrom cX6_copyFrom 2 none ∈ hs_gd := hs_inG 2 179 rfl rfl
set_option maxRecDepth 20000 in
theorem inC_X6_isCell : .code yX6_isCell cX6_isCell 2 (some .boolean) ∈ hs_gd := hs_inG 2 203 rfl rfl
set_option maxRecDepth 20000 in
theorem inC_X6_isPerson : .code yX6_isPerson cX6_isPerson 2 (some .boolean) ∈ hs_gd := hs_inG 2 211 rfl rfl
set_option maxRecDepth 20000 in
theorem inC_X6_isCut : .code yX6_isCut cX6_isCut 2 (some .boolean) ∈ hs_gd := hs_inG 3 55 rfl rfl
set_option maxRecDepth 20000 in
theorem inC_X6_canWeigh : .code yX6_canWeigh cX6_canWeigh 3 (some .boolean) ∈ hs_gd := hs_inG 2 223 rfl rfl
set_option maxRecDepth 20000 in
theorem inC_X6_allPeople : .code yX6_allPeople cX6_allPeople 1 (some .int) ∈ hs_gd := hs_inG 3 132 rfl rfl
set_option maxRecDepth 20000 in
theorem inC_X6_allWeights : .code yX6_allWeights cX6_allWeights 3 (some .int) ∈ hs_gd := hs_inG 2 195 rfl rfl
set_option maxRecDepth 20000 in
theorem inC_X7_halfUp : .code yX7_halfUp cX7_halfUp 1 (some .int) ∈ hs_gd := hs_inG 2 235 rfl rfl
set_option maxRecDepth 20000 in
theorem inC_X6_splitCell : .code yX6_splitCell cX6_splitCell 3 none ∈ hs_gd := hs_inG 2 232 rfl rfl
set_option maxRecDepth 20000 in
theorem inC_X6_joinWithNext : .code yX6_joinWithNext cX6_joinWithNext 3 none ∈ hs_gd := hs_inG 3 3 rfl rfl
set_option maxRecDepth 20000 in
theorem inC_X6_addSeen : .code yX6_addSeen cX6_addSeen 4 none ∈ hs_gd := hs_inG 3 211 rfl rfl
set_option maxRecDepth 20000 in
theorem inC_X6_verdict : .code yX6_verdict cX6_verdict 4 (some .int) ∈ hs_gd := hs_inG 3 59 rfl rfl
set_option maxRecDepth 20000 in
theorem inC_X6_justTo : .code yX6_justTo cX6_justTo 4 (some .int) ∈ hs_gd := hs_inG 3 78 rfl rfl
set_option maxRecDepth 20000 in
theorem inC_X6_justInAll : .code yX6_justInAll cX6_justInAll 5 (some .int) ∈ hs_gd := hs_inG 3 237 rfl rfl
set_option maxRecDepth 20000 in
theorem inC_X6_isAsSeen : .code yX6_isAsSeen cX6_isAsSeen 2 (some .boolean) ∈ hs_gd := hs_inG 3 223 rfl rfl
set_option maxRecDepth 20000 in
theorem inC_X7_init : .code yX7_init cX7_init 2 none ∈ hs_gd := hs_inG 1 21 rfl rfl
set_option maxRecDepth 20000 in
theorem inC_X7_feed : .code yX7_feed cX7_feed 3 (some .int) ∈ hs_gd := hs_inG 2 9 rfl rfl
set_option maxRecDepth 20000 in
theorem inC_X7_end : .code yX7_end cX7_end 4 (some .int) ∈ hs_gd := hs_inG 2 16 rfl rfl
set_option maxRecDepth 20000 in
theorem inC_X7_text : .code yX7_text cX7_text 3 (some .int) ∈ hs_gd := hs_inG 2 20 rfl rfl
set_option maxRecDepth 20000 in
theorem inC_X7_fault : .code yX7_fault cX7_fault 1 (some .int) ∈ hs_gd := hs_inG 2 187 rfl rfl
set_option maxRecDepth 20000 in
theorem inC_X7_rule : .code yX7_rule cX7_rule 2 (some .int) ∈ hs_gd := hs_inG 2 191 rfl rfl
set_option maxRecDepth 20000 in
theorem inC_X7_cell : .code yX7_cell cX7_cell 2 (some .int) ∈ hs_gd := hs_inG 2 199 rfl rfl
set_option maxRecDepth 20000 in
theorem inC_X7_person : .code yX7_person cX7_person 2 (some .int) ∈ hs_gd := hs_inG 2 207 rfl rfl
set_option maxRecDepth 20000 in
theorem inC_X7_pair : .code yX7_pair cX7_pair 2 (some .int) ∈ hs_gd := hs_inG 2 215 rfl rfl
set_option maxRecDepth 20000 in
theorem inC_X7_weigh : .code yX7_weigh cX7_weigh 4 (some .int) ∈ hs_gd := hs_inG 2 219 rfl rfl
set_option maxRecDepth 20000 in
theorem inC_X7_split : .code yX7_split cX7_split 2 (some .int) ∈ hs_gd := hs_inG 2 228 rfl rfl
set_option maxRecDepth 20000 in
theorem inC_X7_join : .code yX7_join cX7_join 2 (some .int) ∈ hs_gd := hs_inG 2 239 rfl rfl
set_option maxRecDepth 20000 in
theorem inC_X7_teach : .code yX7_teach cX7_teach 4 (some .int) ∈ hs_gd := hs_inG 3 10 rfl rfl
set_option maxRecDepth 20000 in
theorem inC_X7_set : .code yX7_set cX7_set 4 (some .int) ∈ hs_gd := hs_inG 3 14 rfl rfl
set_option maxRecDepth 20000 in
theorem inC_X7_appeal : .code yX7_appeal cX7_appeal 1 (some .int) ∈ hs_gd := hs_inG 3 18 rfl rfl
set_option maxRecDepth 20000 in
theorem inC_X7_lighter : .code yX7_lighter cX7_lighter 3 (some .int) ∈ hs_gd := hs_inG 3 23 rfl rfl
set_option maxRecDepth 20000 in
theorem inC_X7_worth : .code yX7_worth cX7_worth 3 (some .int) ∈ hs_gd := hs_inG 3 35 rfl rfl
set_option maxRecDepth 20000 in
theorem inC_X7_finds : .code yX7_finds cX7_finds 3 (some .int) ∈ hs_gd := hs_inG 3 51 rfl rfl
set_option maxRecDepth 20000 in
theorem inC_X7_just : .code yX7_just cX7_just 2 (some .int) ∈ hs_gd := hs_inG 3 74 rfl rfl
set_option maxRecDepth 20000 in
theorem inC_X7_middle : .code yX7_middle cX7_middle 6 (some .int) ∈ hs_gd := hs_inG 3 83 rfl rfl
set_option maxRecDepth 20000 in
theorem inC_X7_honest : .code yX7_honest cX7_honest 2 (some .int) ∈ hs_gd := hs_inG 3 93 rfl rfl
set_option maxRecDepth 20000 in
theorem inC_X7_areTwo : .code yX7_areTwo cX7_areTwo 3 (some .boolean) ∈ hs_gd := hs_inG 3 107 rfl rfl
set_option maxRecDepth 20000 in
theorem inC_X7_chosen : .code yX7_chosen cX7_chosen 6 (some .int) ∈ hs_gd := hs_inG 3 103 rfl rfl
set_option maxRecDepth 20000 in
theorem inC_X7_sly : .code yX7_sly cX7_sly 5 (some .int) ∈ hs_gd := hs_inG 3 115 rfl rfl
set_option maxRecDepth 20000 in
theorem inC_X7_halves : .code yX7_halves cX7_halves 4 (some .int) ∈ hs_gd := hs_inG 3 128 rfl rfl
set_option maxRecDepth 20000 in
theorem inC_X7_stop : .code yX7_stop cX7_stop 7 (some .int) ∈ hs_gd := hs_inG 3 147 rfl rfl
set_option maxRecDepth 20000 in
theorem inC_X7_orders : .code yX7_orders cX7_orders 2 (some .int) ∈ hs_gd := hs_inG 3 151 rfl rfl
set_option maxRecDepth 20000 in
theorem inC_X7_next : .code yX7_next cX7_next 7 (some .int) ∈ hs_gd := hs_inG 3 172 rfl rfl
set_option maxRecDepth 20000 in
theorem inC_X7_isTrial : .code yX7_isTrial cX7_isTrial 4 (some .boolean) ∈ hs_gd := hs_inG 3 183 rfl rfl
set_option maxRecDepth 20000 in
theorem inC_X7_luck : .code yX7_luck cX7_luck 4 (some .long) ∈ hs_gd := hs_inG 3 179 rfl rfl
set_option maxRecDepth 20000 in
theorem inC_X7_mean : .code yX7_mean cX7_mean 4 (some .long) ∈ hs_gd := hs_inG 3 200 rfl rfl
set_option maxRecDepth 20000 in
theorem inC_X7_see : .code yX7_see cX7_see 4 (some .int) ∈ hs_gd := hs_inG 3 207 rfl rfl
set_option maxRecDepth 20000 in
theorem inC_X7_forget : .code yX7_forget cX7_forget 3 (some .int) ∈ hs_gd := hs_inG 3 215 rfl rfl
set_option maxRecDepth 20000 in
theorem inC_X7_fits : .code yX7_fits cX7_fits 4 (some .int) ∈ hs_gd := hs_inG 3 219 rfl rfl
set_option maxRecDepth 20000 in
theorem inC_X7_kinds : .code yX7_kinds cX7_kinds 4 (some .int) ∈ hs_gd := hs_inG 3 228 rfl rfl
set_option maxRecDepth 20000 in
theorem inC_X7_drift : .code yX7_drift cX7_drift 8 (some .int) ∈ hs_gd := hs_inG 3 232 rfl rfl
set_option maxRecDepth 20000 in
theorem inC_X7_keep : .code yX7_keep cX7_keep 3 (some .int) ∈ hs_gd := hs_inG 4 3 rfl rfl
set_option maxRecDepth 20000 in
theorem inC_X7_back : .code yX7_back cX7_back 2 (some .int) ∈ hs_gd := hs_inG 4 7 rfl rfl
set_option maxRecDepth 20000 in
theorem inC_X7_isSheet : .code yX7_isSheet cX7_isSheet 1 (some .boolean) ∈ hs_gd := hs_inG 4 14 rfl rfl
set_option maxRecDepth 20000 in
theorem inC_X7_sheet : .code yX7_sheet cX7_sheet 4 (some .int) ∈ hs_gd := hs_inG 4 11 rfl rfl
set_option maxRecDepth 20000 in
theorem inC_X7_lay : .code yX7_lay cX7_lay 5 (some .int) ∈ hs_gd := hs_inG 4 26 rfl rfl
set_option maxRecDepth 20000 in
theorem inC_X7_read : .code yX7_read cX7_read 9 (some .int) ∈ hs_gd := hs_inG 4 42 rfl rfl
set_option maxRecDepth 20000 in
theorem inC_X7_torn : .code yX7_torn cX7_torn 1 (some .int) ∈ hs_gd := hs_inG 4 56 rfl rfl
set_option maxRecDepth 20000 in
theorem inC_X7_imagesThere : .code yX7_imagesThere cX7_imagesThere 3 (some .int) ∈ hs_gd := hs_inG 4 64 rfl rfl
set_option maxRecDepth 20000 in
theorem inC_X7_count : .code yX7_count cX7_count 2 (some .int) ∈ hs_gd := hs_inG 4 60 rfl rfl
set_option maxRecDepth 20000 in
theorem inC_X8_firstDraft : .code yX8_firstDraft cX8_firstDraft 2 none ∈ hs_gd := hs_inG 4 75 rfl rfl
set_option maxRecDepth 20000 in
theorem inC_X8_keepDraft : .code yX8_keepDraft cX8_keepDraft 2 none ∈ hs_gd := hs_inG 4 79 rfl rfl
set_option maxRecDepth 20000 in
theorem inC_X8_init : .code yX8_init cX8_init 2 none ∈ hs_gd := hs_inG 4 70 rfl rfl
set_option maxRecDepth 20000 in
theorem inC_X8_in : .code yX8_in cX8_in 6 (some .boolean) ∈ hs_gd := hs_inG 4 184 rfl rfl
set_option maxRecDepth 20000 in
theorem inC_X8_flag : .code yX8_flag cX8_flag 1 (some .int) ∈ hs_gd := hs_inG 5 144 rfl rfl
set_option maxRecDepth 20000 in
theorem inC_X8_feed : .code yX8_feed cX8_feed 2 (some .int) ∈ hs_gd := hs_inG 4 180 rfl rfl
set_option maxRecDepth 20000 in
theorem inC_X8_end : .code yX8_end cX8_end 3 (some .int) ∈ hs_gd := hs_inG 4 188 rfl rfl
set_option maxRecDepth 20000 in
theorem inC_X8_needs : .code yX8_needs cX8_needs 3 none ∈ hs_gd := hs_inG 4 208 rfl rfl
set_option maxRecDepth 20000 in
theorem inC_X8_byteAt : .code yX8_byteAt cX8_byteAt 2 (some .int) ∈ hs_gd := hs_inG 4 200 rfl rfl
set_option maxRecDepth 20000 in
theorem inC_X8_is : .code yX8_is cX8_is 5 (some .boolean) ∈ hs_gd := hs_inG 4 220 rfl rfl
set_option maxRecDepth 20000 in
theorem inC_X8_ends : .code yX8_ends cX8_ends 5 (some .boolean) ∈ hs_gd := hs_inG 4 224 rfl rfl
set_option maxRecDepth 20000 in
theorem inC_X8_lineNow : .code yX8_lineNow cX8_lineNow 1 (some .int) ∈ hs_gd := hs_inG 4 216 rfl rfl
set_option maxRecDepth 20000 in
theorem inC_X8_takes : .code yX8_takes cX8_takes 2 none ∈ hs_gd := hs_inG 4 196 rfl rfl
set_option maxRecDepth 20000 in
theorem inC_X8_looked : .code yX8_looked cX8_looked 3 (some .int) ∈ hs_gd := hs_inG 5 0 rfl rfl
set_option maxRecDepth 20000 in
theorem inC_X8_readNumber : .code yX8_readNumber cX8_readNumber 4 (some .int) ∈ hs_gd := hs_inG 4 236 rfl rfl
set_option maxRecDepth 20000 in
theorem inC_X8_readThing : .code yX8_readThing cX8_readThing 2 none ∈ hs_gd := hs_inG 5 4 rfl rfl
set_option maxRecDepth 20000 in
theorem inC_X8_readLighter : .code yX8_readLighter cX8_readLighter 3 none ∈ hs_gd := hs_inG 4 232 rfl rfl
set_option maxRecDepth 20000 in
theorem inC_X8_readLineOf : .code yX8_readLineOf cX8_readLineOf 2 none ∈ hs_gd := hs_inG 4 228 rfl rfl
set_option maxRecDepth 20000 in
theorem inC_X8_readLine : .code yX8_readLine cX8_readLine 2 none ∈ hs_gd := hs_inG 4 212 rfl rfl
set_option maxRecDepth 20000 in
theorem inC_X8_power : .code yX8_power cX8_power 4 (some .int) ∈ hs_gd := hs_inG 5 11 rfl rfl
set_option maxRecDepth 20000 in
theorem inC_X8_isOrder : .code yX8_isOrder cX8_isOrder 6 (some .boolean) ∈ hs_gd := hs_inG 5 15 rfl rfl
set_option maxRecDepth 20000 in
theorem inC_X8_placeOf : .code yX8_placeOf cX8_placeOf 5 (some .int) ∈ hs_gd := hs_inG 5 23 rfl rfl
set_option maxRecDepth 20000 in
theorem inC_X8_isTold : .code yX8_isTold cX8_isTold 4 (some .boolean) ∈ hs_gd := hs_inG 5 19 rfl rfl
set_option maxRecDepth 20000 in
theorem inC_X8_findOrders : .code yX8_findOrders cX8_findOrders 5 none ∈ hs_gd := hs_inG 5 8 rfl rfl
set_option maxRecDepth 20000 in
theorem inC_X8_text : .code yX8_text cX8_text 3 (some .int) ∈ hs_gd := hs_inG 4 192 rfl rfl
set_option maxRecDepth 20000 in
theorem inC_X8_fault : .code yX8_fault cX8_fault 1 (some .int) ∈ hs_gd := hs_inG 5 27 rfl rfl
set_option maxRecDepth 20000 in
theorem inC_X8_isCell : .code yX8_isCell cX8_isCell 2 (some .boolean) ∈ hs_gd := hs_inG 5 47 rfl rfl
set_option maxRecDepth 20000 in
theorem inC_X8_isPerson : .code yX8_isPerson cX8_isPerson 2 (some .boolean) ∈ hs_gd := hs_inG 5 55 rfl rfl
set_option maxRecDepth 20000 in
theorem inC_X8_isCut : .code yX8_isCut cX8_isCut 2 (some .boolean) ∈ hs_gd := hs_inG 5 115 rfl rfl
set_option maxRecDepth 20000 in
theorem inC_X8_isPart : .code yX8_isPart cX8_isPart 1 (some .boolean) ∈ hs_gd := hs_inG 5 151 rfl rfl
set_option maxRecDepth 20000 in
theorem inC_X8_starts : .code yX8_starts cX8_starts 2 none ∈ hs_gd := hs_inG 5 35 rfl rfl
set_option maxRecDepth 20000 in
theorem inC_X8_worthOf : .code yX8_worthOf cX8_worthOf 5 (some .int) ∈ hs_gd := hs_inG 5 107 rfl rfl
set_option maxRecDepth 20000 in
theorem inC_X8_worthOfAll : .code yX8_worthOfAll cX8_worthOfAll 5 (some .int) ∈ hs_gd := hs_inG 5 103 rfl rfl
set_option maxRecDepth 20000 in
theorem inC_X8_every : .code yX8_every cX8_every 1 (some .int) ∈ hs_gd := hs_inG 5 130 rfl rfl
set_option maxRecDepth 20000 in
theorem inC_X8_moreLeft : .code yX8_moreLeft cX8_moreLeft 3 (some .int) ∈ hs_gd := hs_inG 5 126 rfl rfl
set_option maxRecDepth 20000 in
theorem inC_X8_sizeOf : .code yX8_sizeOf cX8_sizeOf 1 (some .int) ∈ hs_gd := hs_inG 5 133 rfl rfl
set_option maxRecDepth 20000 in
theorem inC_X8_leftOf : .code yX8_leftOf cX8_leftOf 1 (some .int) ∈ hs_gd := hs_inG 5 122 rfl rfl
set_option maxRecDepth 20000 in
theorem inC_X8_findOf : .code yX8_findOf cX8_findOf 4 (some .int) ∈ hs_gd := hs_inG 5 119 rfl rfl
set_option maxRecDepth 20000 in
theorem inC_X8_justTo : .code yX8_justTo cX8_justTo 4 (some .int) ∈ hs_gd := hs_inG 5 141 rfl rfl
set_option maxRecDepth 20000 in
theorem inC_X8_bitsOf : .code yX8_bitsOf cX8_bitsOf 3 (some .int) ∈ hs_gd := hs_inG 5 154 rfl rfl
set_option maxRecDepth 20000 in
theorem inC_X8_allWeights : .code yX8_allWeights cX8_allWeights 3 (some .int) ∈ hs_gd := hs_inG 5 39 rfl rfl
set_option maxRecDepth 20000 in
theorem inC_X8_rule : .code yX8_rule cX8_rule 2 (some .int) ∈ hs_gd := hs_inG 5 31 rfl rfl
set_option maxRecDepth 20000 in
theorem inC_X8_cell : .code yX8_cell cX8_cell 2 (some .int) ∈ hs_gd := hs_inG 5 43 rfl rfl
set_option maxRecDepth 20000 in
theorem inC_X8_person : .code yX8_person cX8_person 2 (some .int) ∈ hs_gd := hs_inG 5 51 rfl rfl
set_option maxRecDepth 20000 in
theorem inC_X8_pair : .code yX8_pair cX8_pair 2 (some .int) ∈ hs_gd := hs_inG 5 59 rfl rfl
set_option maxRecDepth 20000 in
theorem inC_X8_becomes : .code yX8_becomes cX8_becomes 4 (some .int) ∈ hs_gd := hs_inG 5 68 rfl rfl
set_option maxRecDepth 20000 in
theorem inC_X8_weigh : .code yX8_weigh cX8_weigh 3 (some .int) ∈ hs_gd := hs_inG 5 63 rfl rfl
set_option maxRecDepth 20000 in
theorem inC_X8_split : .code yX8_split cX8_split 3 (some .int) ∈ hs_gd := hs_inG 5 72 rfl rfl
set_option maxRecDepth 20000 in
theorem inC_X8_join : .code yX8_join cX8_join 4 (some .int) ∈ hs_gd := hs_inG 5 76 rfl rfl
set_option maxRecDepth 20000 in
theorem inC_X8_teach : .code yX8_teach cX8_teach 3 (some .int) ∈ hs_gd := hs_inG 5 80 rfl rfl
set_option maxRecDepth 20000 in
theorem inC_X8_set : .code yX8_set cX8_set 3 (some .int) ∈ hs_gd := hs_inG 5 85 rfl rfl
set_option maxRecDepth 20000 in
theorem inC_X8_appeal : .code yX8_appeal cX8_appeal 1 (some .int) ∈ hs_gd := hs_inG 5 91 rfl rfl
set_option maxRecDepth 20000 in
theorem inC_X8_lighter : .code yX8_lighter cX8_lighter 3 (some .int) ∈ hs_gd := hs_inG 5 95 rfl rfl
set_option maxRecDepth 20000 in
theorem inC_X8_worth : .code yX8_worth cX8_worth 3 (some .int) ∈ hs_gd := hs_inG 5 99 rfl rfl
set_option maxRecDepth 20000 in
theorem inC_X8_finds : .code yX8_finds cX8_finds 3 (some .int) ∈ hs_gd := hs_inG 5 111 rfl rfl
set_option maxRecDepth 20000 in
theorem inC_X8_just : .code yX8_just cX8_just 2 (some .int) ∈ hs_gd := hs_inG 5 137 rfl rfl
set_option maxRecDepth 20000 in
theorem inC_X8_middle : .code yX8_middle cX8_middle 6 (some .int) ∈ hs_gd := hs_inG 5 148 rfl rfl
set_option maxRecDepth 20000 in
theorem inC_X8_honestCut : .code yX8_honestCut cX8_honestCut 6 (some .int) ∈ hs_gd := hs_inG 5 162 rfl rfl
set_option maxRecDepth 20000 in
theorem inC_X8_honest : .code yX8_honest cX8_honest 2 (some .int) ∈ hs_gd := hs_inG 5 158 rfl rfl
set_option maxRecDepth 20000 in
theorem inC_X8_takenBy : .code yX8_takenBy cX8_takenBy 3 (some .int) ∈ hs_gd := hs_inG 5 171 rfl rfl
set_option maxRecDepth 20000 in
theorem inC_X8_chosen : .code yX8_chosen cX8_chosen 6 (some .int) ∈ hs_gd := hs_inG 5 167 rfl rfl
set_option maxRecDepth 20000 in
theorem inC_X8_sly : .code yX8_sly cX8_sly 8 (some .int) ∈ hs_gd := hs_inG 5 175 rfl rfl
set_option maxRecDepth 20000 in
theorem inC_X8_cutsOf : .code yX8_cutsOf cX8_cutsOf 4 (some .int) ∈ hs_gd := hs_inG 5 183 rfl rfl
set_option maxRecDepth 20000 in
theorem inC_X8_halves : .code yX8_halves cX8_halves 8 (some .int) ∈ hs_gd := hs_inG 5 179 rfl rfl
set_option maxRecDepth 20000 in
theorem inC_X8_stop : .code yX8_stop cX8_stop 7 (some .int) ∈ hs_gd := hs_inG 5 187 rfl rfl
set_option maxRecDepth 20000 in
theorem inC_X8_orders : .code yX8_orders cX8_orders 2 (some .int) ∈ hs_gd := hs_inG 5 191 rfl rfl
set_option maxRecDepth 20000 in
theorem inC_X8_next : .code yX8_next cX8_next 8 (some .int) ∈ hs_gd := hs_inG 5 195 rfl rfl
set_option maxRecDepth 20000 in
theorem inC_X8_common : .code yX8_common cX8_common 10 (some .long) ∈ hs_gd := hs_inG 5 211 rfl rfl
set_option maxRecDepth 20000 in
theorem inC_X8_told : .code yX8_told cX8_told 7 (some .long) ∈ hs_gd := hs_inG 5 208 rfl rfl
set_option maxRecDepth 20000 in
theorem inC_X8_findCourt : .code yX8_findCourt cX8_findCourt 8 none ∈ hs_gd := hs_inG 5 205 rfl rfl
set_option maxRecDepth 20000 in
theorem inC_X8_luck : .code yX8_luck cX8_luck 4 (some .long) ∈ hs_gd := hs_inG 5 199 rfl rfl
set_option maxRecDepth 20000 in
theorem inC_X8_mean : .code yX8_mean cX8_mean 4 (some .long) ∈ hs_gd := hs_inG 5 215 rfl rfl
set_option maxRecDepth 20000 in
theorem inC_X8_see : .code yX8_see cX8_see 5 (some .int) ∈ hs_gd := hs_inG 5 219 rfl rfl
set_option maxRecDepth 20000 in
theorem inC_X8_forget : .code yX8_forget cX8_forget 2 (some .int) ∈ hs_gd := hs_inG 5 223 rfl rfl
set_option maxRecDepth 20000 in
theorem inC_X8_isSo : .code yX8_isSo cX8_isSo 4 (some .boolean) ∈ hs_gd := hs_inG 5 231 rfl rfl
set_option maxRecDepth 20000 in
theorem inC_X8_fits : .code yX8_fits cX8_fits 4 (some .int) ∈ hs_gd := hs_inG 5 227 rfl rfl
set_option maxRecDepth 20000 in
theorem inC_X8_kinds : .code yX8_kinds cX8_kinds 4 (some .int) ∈ hs_gd := hs_inG 5 235 rfl rfl
set_option maxRecDepth 20000 in
theorem inC_X8_drift : .code yX8_drift cX8_drift 9 (some .int) ∈ hs_gd := hs_inG 5 239 rfl rfl
set_option maxRecDepth 20000 in
theorem inC_X8_copies : .code yX8_copies cX8_copies 4 none ∈ hs_gd := hs_inG 6 9 rfl rfl
set_option maxRecDepth 20000 in
theorem inC_X8_keep : .code yX8_keep cX8_keep 3 (some .int) ∈ hs_gd := hs_inG 6 5 rfl rfl
set_option maxRecDepth 20000 in
theorem inC_X8_back : .code yX8_back cX8_back 2 (some .int) ∈ hs_gd := hs_inG 6 13 rfl rfl
set_option maxRecDepth 20000 in
theorem inC_X8_isSheet : .code yX8_isSheet cX8_isSheet 2 (some .boolean) ∈ hs_gd := hs_inG 6 20 rfl rfl
set_option maxRecDepth 20000 in
theorem inC_X8_sheet : .code yX8_sheet cX8_sheet 5 (some .int) ∈ hs_gd := hs_inG 6 17 rfl rfl
set_option maxRecDepth 20000 in
theorem inC_X8_lay : .code yX8_lay cX8_lay 4 (some .int) ∈ hs_gd := hs_inG 6 24 rfl rfl
set_option maxRecDepth 20000 in
theorem inC_X8_read : .code yX8_read cX8_read 11 (some .int) ∈ hs_gd := hs_inG 6 28 rfl rfl
set_option maxRecDepth 20000 in
theorem inC_X8_torn : .code yX8_torn cX8_torn 1 (some .int) ∈ hs_gd := hs_inG 6 34 rfl rfl
set_option maxRecDepth 20000 in
theorem inC_X8_count : .code yX8_count cX8_count 2 (some .int) ∈ hs_gd := hs_inG 6 38 rfl rfl
set_option maxRecDepth 20000 in
theorem inC_J9_abs_0f7a4 : .code yJ9_abs_0f7a4 cJ9_abs_0f7a4 1 (some .int) ∈ hs_gd := hs_inG 3 70 rfl rfl
set_option maxRecDepth 20000 in
theorem inC_J9_max_7cf53 : .code yJ9_max_7cf53 cJ9_max_7cf53 2 (some .int) ∈ hs_gd := hs_inG 3 175 rfl rfl
set_option maxRecDepth 20000 in
theorem inC_J9_min_7cf53 : .code yJ9_min_7cf53 cJ9_min_7cf53 2 (some .int) ∈ hs_gd := hs_inG 3 6 rfl rfl
