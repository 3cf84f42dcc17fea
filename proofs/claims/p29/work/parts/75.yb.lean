set_option maxHeartbeats 4000000 in
set_option maxRecDepth 100000 in
theorem gr_needs (l : Launch) (D : va_G) (k : Nat → ClassId) (sz : Nat) (mo : Nat) (mo_st : Nat) (mo_at : Nat) (mo_isKept : Nat) (mo_pe : Nat) (mo_hm : Nat) (mo_draft : Nat) (mo_dp : Nat) (mo_dh : Nat) (mo_toldLines : Int32) (mo_highest : Int32) (mo_tape : Nat) (mo_tl : Nat) (mo_ps : Nat) (mo_fr : Nat) (mo_sort : Int32) (mo_value : Int32) (mo_ft : Nat) (mo_wrongAt : Int32) (mo_row : Nat) (mo_orderMany : Int32) (mo_fo : Nat) (mo_lightest : Int32) (mo_heaviest : Int32) (mo_before : Nat) (mo_justSum : Int64) (mo_toldSum : Int64) (mo_allWays : Int64) (mo_lanes : Nat) (mo_sizes : Nat) (mo_cells : Nat) (mo_torn : Int32) (mo_had : Nat) (g : Int32) (f : Nat) (hft : mo_ft ≤ 7) (hf : 1 ≤ f ∧ f ≤ 7) : MV l yX8_needs wsX8_needs ({ frames := 0, cells := 0, slots := 0, locals := 0 }) D k [.ref mo, .int g, .int (nI f)] [oq7 mo mo_st mo_at mo_isKept (nI mo_pe) (nI mo_hm) mo_draft (nI mo_dp) (nI mo_dh) mo_toldLines mo_highest mo_tape (nI mo_tl) (nI mo_ps) (nI mo_fr) mo_sort mo_value (nI mo_ft) mo_wrongAt mo_row mo_orderMany (nI mo_fo) mo_lightest mo_heaviest mo_before mo_justSum mo_toldSum mo_allWays mo_lanes mo_sizes mo_cells mo_torn mo_had] sz (fun (u : Nat × Int32) => u.1 ≤ 7 ∧ (u.1 = 0 → mo_ft = 0) ∧ ((g : Int32) = 0 → ¬ u.1 = 0) ∧ u = hNd mo_ft mo_wrongAt mo_fr g f) (fun (u : Nat × Int32) => [oq7 mo mo_st mo_at mo_isKept (nI mo_pe) (nI mo_hm) mo_draft (nI mo_dp) (nI mo_dh) mo_toldLines mo_highest mo_tape (nI mo_tl) (nI mo_ps) (nI mo_fr) mo_sort mo_value (nI (u.1)) u.2 mo_row mo_orderMany (nI mo_fo) mo_lightest mo_heaviest mo_before mo_justSum mo_toldSum mo_allWays mo_lanes mo_sizes mo_cells mo_torn mo_had]) := by
  refine Met.ofW (cc := cX8_needs) (maxL := 3) (ret := none) hpn_X8 rfl ?_
  intro p e s m args below meth c s₁ B hml hv
  obtain ⟨rfl, hsz, hP, hK, hD0, hN⟩ := hv
  have hx := B.exec
  have hb := B.bytes
  have hr := B.returns
  have hlocks := B.notSynchronized
  have hts := atoms_spec (ws := wsX8_needs) B.pre
  have hown := findClass_of_methodNamed B.named
  have hown : s.vm.findClass RX8 = some m.cls := hown
  have hiX8 : ∀ w ∈ u_ws RX8 TX8 32, w ∈ wsX8_needs := fun w9 hw9 => List.mem_cons_of_mem _ (igX8 w9 hw9)
  have fl78 := hts (.fieldLink RX8 78 "HalfScalesModel" "fault" "I") (List.mem_cons_of_mem _ (hs_inG 4 96 rfl rfl))
  have fl81 := hts (.fieldLink RX8 81 "HalfScalesModel" "from" "I") (List.mem_cons_of_mem _ (hs_inG 4 93 rfl rfl))
  have fl84 := hts (.fieldLink RX8 84 "HalfScalesModel" "wrongAt" "I") (List.mem_cons_of_mem _ (hs_inG 4 97 rfl rfl))
  subst hsz
  have hD := hD0.self (sz := s.heap.size)
  generalize hAe : va_A [oq7 mo mo_st mo_at mo_isKept (nI mo_pe) (nI mo_hm) mo_draft (nI mo_dp) (nI mo_dh) mo_toldLines mo_highest mo_tape (nI mo_tl) (nI mo_ps) (nI mo_fr) mo_sort mo_value (nI mo_ft) mo_wrongAt mo_row mo_orderMany (nI mo_fo) mo_lightest mo_heaviest mo_before mo_justSum mo_toldSum mo_allWays mo_lanes mo_sizes mo_cells mo_torn mo_had] s.heap.size = A at hD ⊢
  have hA : ∀ q : Nat, s.heap.size ≤ q → A q := fun q h => by rw [← hAe]; exact Or.inr h
  have hS : va_S A s.heap s.heap [] := va_S.rf
  have hl := lv_entry ([.ref mo, .int g, .int (nI f)]) (n := 3) (Nat.le_of_ble_eq_true rfl)
  rw [lg_entry_eq]
  generalize (lg_sl ([.ref mo, .int g, .int (nI f)]) ++ List.replicate (3 - (lg_sl ([.ref mo, .int g, .int (nI f)])).length) Slot.unset).toArray = ls at hl ⊢
  have hl : lv_has ls 3 [(0, .ref mo), (1, .int g), (2, .int (nI f))] := hl
  have hP : va_P D vwCl [oq7 mo mo_st mo_at mo_isKept (nI mo_pe) (nI mo_hm) mo_draft (nI mo_dp) (nI mo_dh) mo_toldLines mo_highest mo_tape (nI mo_tl) (nI mo_ps) (nI mo_fr) mo_sort mo_value (nI mo_ft) mo_wrongAt mo_row mo_orderMany (nI mo_fo) mo_lightest mo_heaviest mo_before mo_justSum mo_toldSum mo_allWays mo_lanes mo_sizes mo_cells mo_torn mo_had] s.heap := hP
  refine lv_iload_n hx hb dX8_needs_0 rfl (lv_at hl 1 rfl) ?_
  refine lv_if_ne (tgt := 24) hx hb dX8_needs_1 rfl (fun c_1 => ?_) (fun c_1 => ?_)
  · exact hs_vret hx hb hr hlocks hK hP hD hS (mo_ft, mo_wrongAt) [0] rfl (hs_upnd rfl) dX8_needs_24 (⟨by (try dsimp only); omega, by (try dsimp only); omega, by (try dsimp only); first | (intro _; omega) | exact fun h => absurd h c_1, (by rw [hNd, if_neg (fun z9 => by first | (exact absurd z9.1 (by assumption)) | (have h9 := z9.2; omega))])⟩)
  · refine lv_aload_n hx hb dX8_needs_4 rfl (lv_at hl 0 rfl) ?_
    refine va_get (D := D) (ci := 7) (v := .int (nI mo_ft)) (C := RX8) (T := TX8) (N := 32) hx hb hts hiX8 hown hK hP 0 rfl rfl 16 (Nat.le_of_ble_eq_true rfl) fl78 (fun _ h9 => h9) rfl dX8_needs_5 ?_
    refine lv_if_ne (tgt := 24) hx hb dX8_needs_8 rfl (fun c_2 => ?_) (fun c_2 => ?_)
    · have nc_2 : ¬ mo_ft = 0 := fun hq9 => c_2 ((nI_eq (a := mo_ft) (b := 0) (by omega) (by omega)).mpr hq9)
      exact hs_vret hx hb hr hlocks hK hP hD hS (mo_ft, mo_wrongAt) [0] rfl (hs_upnd rfl) dX8_needs_24 (⟨by (try dsimp only); omega, by (try dsimp only); omega, by (try dsimp only); first | (intro _; omega) | exact fun h => absurd h c_1 | exact fun h => absurd h c_2, (by rw [hNd, if_neg (fun z9 => by first | (exact absurd z9.1 (by assumption)) | (have h9 := z9.2; omega))])⟩)
    · have nc_2 : mo_ft = 0 := (nI_eq (a := mo_ft) (b := 0) (by omega) (by omega)).mp c_2
      refine lv_aload_n hx hb dX8_needs_11 rfl (lv_at hl 0 rfl) ?_
      refine lv_iload_n hx hb dX8_needs_12 rfl (lv_at hl 2 rfl) ?_
      refine va_put (D := D) (ci := 7) (v := .int (nI f)) (ty := .int) (C := RX8) (T := TX8) (N := 32) hx hb hts hiX8 tyX8 tyX8_ok nmX8 hown hK hP hD hS 0 rfl rfl 16 (Nat.le_of_ble_eq_true rfl) fl78 (fun _ h9 => h9) rfl (by decide +kernel) rfl rfl (Nat.le_of_ble_eq_true rfl) dX8_needs_13 (fun H locs hP hD hS => ?_)
      have hP : va_P D vwCl [oq7 mo mo_st mo_at mo_isKept (nI mo_pe) (nI mo_hm) mo_draft (nI mo_dp) (nI mo_dh) mo_toldLines mo_highest mo_tape (nI mo_tl) (nI mo_ps) (nI mo_fr) mo_sort mo_value (nI f) mo_wrongAt mo_row mo_orderMany (nI mo_fo) mo_lightest mo_heaviest mo_before mo_justSum mo_toldSum mo_allWays mo_lanes mo_sizes mo_cells mo_torn mo_had] H := hP
      have hD : va_D A [oq7 mo mo_st mo_at mo_isKept (nI mo_pe) (nI mo_hm) mo_draft (nI mo_dp) (nI mo_dh) mo_toldLines mo_highest mo_tape (nI mo_tl) (nI mo_ps) (nI mo_fr) mo_sort mo_value (nI f) mo_wrongAt mo_row mo_orderMany (nI mo_fo) mo_lightest mo_heaviest mo_before mo_justSum mo_toldSum mo_allWays mo_lanes mo_sizes mo_cells mo_torn mo_had] := hD
      refine lv_aload_n hx hb dX8_needs_16 rfl (lv_at hl 0 rfl) ?_
      refine lv_aload_n hx hb dX8_needs_17 rfl (lv_at hl 0 rfl) ?_
      refine va_get (D := D) (ci := 7) (v := .int (nI mo_fr)) (C := RX8) (T := TX8) (N := 32) hx hb hts hiX8 hown hK hP 0 rfl rfl 13 (Nat.le_of_ble_eq_true rfl) fl81 (fun _ h9 => h9) rfl dX8_needs_18 ?_
      refine va_put (D := D) (ci := 7) (v := .int (nI mo_fr)) (ty := .int) (C := RX8) (T := TX8) (N := 32) hx hb hts hiX8 tyX8 tyX8_ok nmX8 hown hK hP hD hS 0 rfl rfl 17 (Nat.le_of_ble_eq_true rfl) fl84 (fun _ h9 => h9) rfl (by decide +kernel) rfl rfl (Nat.le_of_ble_eq_true rfl) dX8_needs_21 (fun H locs hP hD hS => ?_)
      have hP : va_P D vwCl [oq7 mo mo_st mo_at mo_isKept (nI mo_pe) (nI mo_hm) mo_draft (nI mo_dp) (nI mo_dh) mo_toldLines mo_highest mo_tape (nI mo_tl) (nI mo_ps) (nI mo_fr) mo_sort mo_value (nI f) (nI mo_fr) mo_row mo_orderMany (nI mo_fo) mo_lightest mo_heaviest mo_before mo_justSum mo_toldSum mo_allWays mo_lanes mo_sizes mo_cells mo_torn mo_had] H := hP
      have hD : va_D A [oq7 mo mo_st mo_at mo_isKept (nI mo_pe) (nI mo_hm) mo_draft (nI mo_dp) (nI mo_dh) mo_toldLines mo_highest mo_tape (nI mo_tl) (nI mo_ps) (nI mo_fr) mo_sort mo_value (nI f) (nI mo_fr) mo_row mo_orderMany (nI mo_fo) mo_lightest mo_heaviest mo_before mo_justSum mo_toldSum mo_allWays mo_lanes mo_sizes mo_cells mo_torn mo_had] := hD
      exact hs_vret hx hb hr hlocks hK hP hD hS (f, nI mo_fr) [0] rfl (hs_upnd rfl) dX8_needs_24 (⟨by (try dsimp only); omega, by (try dsimp only); omega, by (try dsimp only); first | (intro _; omega) | exact fun h => absurd h c_1 | exact fun h => absurd h c_2, (by rw [hNd, if_pos ⟨by assumption, by omega⟩])⟩)

set_option maxHeartbeats 4000000 in
set_option maxRecDepth 100000 in
theorem gr_takes (l : Launch) (D : va_G) (k : Nat → ClassId) (sz : Nat) (mo : Nat) (mo_st : Nat) (mo_at : Nat) (mo_isKept : Nat) (mo_pe : Nat) (mo_hm : Nat) (mo_draft : Nat) (mo_dp : Nat) (mo_dh : Nat) (mo_toldLines : Int32) (mo_highest : Int32) (mo_tape : Nat) (mo_tl : Nat) (mo_ps : Nat) (mo_fr : Nat) (mo_sort : Int32) (mo_value : Int32) (mo_ft : Nat) (mo_wrongAt : Int32) (mo_row : Nat) (mo_orderMany : Int32) (mo_fo : Nat) (mo_lightest : Int32) (mo_heaviest : Int32) (mo_before : Nat) (mo_justSum : Int64) (mo_toldSum : Int64) (mo_allWays : Int64) (mo_lanes : Nat) (mo_sizes : Nat) (mo_cells : Nat) (mo_torn : Int32) (mo_had : Nat) (tf : Nat → Int32) (ht : mo_tl ≤ 160) (hps : mo_ps ≤ mo_tl) (hfr : mo_fr ≤ 160) (hft : mo_ft ≤ 7) (hby : ∀ q, q < mo_tl → ¬ tf q < 0) : MV l yX8_takes wsX8_takes ({ frames := 1, cells := 0, slots := 0, locals := 25 }) D k [.ref mo] [oq7 mo mo_st mo_at mo_isKept (nI mo_pe) (nI mo_hm) mo_draft (nI mo_dp) (nI mo_dh) mo_toldLines mo_highest mo_tape (nI mo_tl) (nI mo_ps) (nI mo_fr) mo_sort mo_value (nI mo_ft) mo_wrongAt mo_row mo_orderMany (nI mo_fo) mo_lightest mo_heaviest mo_before mo_justSum mo_toldSum mo_allWays mo_lanes mo_sizes mo_cells mo_torn mo_had, oqI k mo_tape 160 (tf)] sz (fun (u : (Nat × Nat) × Int32 × Int32 × Nat × Int32) => (u.1.1 ≤ mo_tl ∧ u.1.2 ≤ 160 ∧ u.2.2.2.1 ≤ 7 ∧ (u.2.2.2.1 = 0 → (mo_ft = 0 ∧ mo_ps ≤ u.1.2 ∧ u.1.2 ≤ u.1.1 ∧ (u.2.1 = 0 ∨ u.1.2 < u.1.1)))) ∧ (mo_ft = 0 → ∀ pl : Int32, hSyU (0, pl) (htok tf mo_tl mo_ps) u) ∧ (¬ mo_ft = 0 → u = ((mo_ps, mo_fr), mo_sort, mo_value, mo_ft, mo_wrongAt))) (fun (u : (Nat × Nat) × Int32 × Int32 × Nat × Int32) => [oq7 mo mo_st mo_at mo_isKept (nI mo_pe) (nI mo_hm) mo_draft (nI mo_dp) (nI mo_dh) mo_toldLines mo_highest mo_tape (nI mo_tl) (nI (u.1.1)) (nI (u.1.2)) u.2.1 u.2.2.1 (nI (u.2.2.2.1)) u.2.2.2.2 mo_row mo_orderMany (nI mo_fo) mo_lightest mo_heaviest mo_before mo_justSum mo_toldSum mo_allWays mo_lanes mo_sizes mo_cells mo_torn mo_had, oqI k mo_tape 160 (tf)]) := by
  refine Met.ofW (cc := cX8_takes) (maxL := 2) (ret := none) hpn_X8 rfl ?_
  intro p e s m args below meth c s₁ B hml hv
  obtain ⟨rfl, hsz, hP, hK, hD0, hN⟩ := hv
  have hx := B.exec
  have hb := B.bytes
  have hr := B.returns
  have hlocks := B.notSynchronized
  have hts := atoms_spec (ws := wsX8_takes) B.pre
  have hown := findClass_of_methodNamed B.named
  have hown : s.vm.findClass RX8 = some m.cls := hown
  have hiX8 : ∀ w ∈ u_ws RX8 TX8 32, w ∈ wsX8_takes := fun w9 hw9 => List.mem_cons_of_mem _ (igX8 w9 hw9)
  have fl78 := hts (.fieldLink RX8 78 "HalfScalesModel" "fault" "I") (List.mem_cons_of_mem _ (hs_inG 4 96 rfl rfl))
  have fl87 := hts (.fieldLink RX8 87 "HalfScalesModel" "pos" "I") (List.mem_cons_of_mem _ (hs_inG 4 92 rfl rfl))
  have fl81 := hts (.fieldLink RX8 81 "HalfScalesModel" "from" "I") (List.mem_cons_of_mem _ (hs_inG 4 93 rfl rfl))
  have fl101 := hts (.fieldLink RX8 101 "HalfScalesModel" "sort" "I") (List.mem_cons_of_mem _ (hs_inG 4 94 rfl rfl))
  have fl112 := hts (.fieldLink RX8 112 "HalfScalesModel" "value" "I") (List.mem_cons_of_mem _ (hs_inG 4 95 rfl rfl))
  have kl104 := hts (.constantLong RX8 104 (97)) (List.mem_cons_of_mem _ (hs_inG 4 201 rfl rfl))
  have kl106 := hts (.constantLong RX8 106 (122)) (List.mem_cons_of_mem _ (hs_inG 4 202 rfl rfl))
  have kl108 := hts (.constantLong RX8 108 (48)) (List.mem_cons_of_mem _ (hs_inG 4 203 rfl rfl))
  have kl110 := hts (.constantLong RX8 110 (57)) (List.mem_cons_of_mem _ (hs_inG 4 204 rfl rfl))
  subst hsz
  have hD := hD0.self (sz := s.heap.size)
  generalize hAe : va_A [oq7 mo mo_st mo_at mo_isKept (nI mo_pe) (nI mo_hm) mo_draft (nI mo_dp) (nI mo_dh) mo_toldLines mo_highest mo_tape (nI mo_tl) (nI mo_ps) (nI mo_fr) mo_sort mo_value (nI mo_ft) mo_wrongAt mo_row mo_orderMany (nI mo_fo) mo_lightest mo_heaviest mo_before mo_justSum mo_toldSum mo_allWays mo_lanes mo_sizes mo_cells mo_torn mo_had, oqI k mo_tape 160 (tf)] s.heap.size = A at hD ⊢
  have hA : ∀ q : Nat, s.heap.size ≤ q → A q := fun q h => by rw [← hAe]; exact Or.inr h
  have hS : va_S A s.heap s.heap [] := va_S.rf
  have hl := lv_entry ([.ref mo]) (n := 2) (Nat.le_of_ble_eq_true rfl)
  rw [lg_entry_eq]
  generalize (lg_sl ([.ref mo]) ++ List.replicate (2 - (lg_sl ([.ref mo])).length) Slot.unset).toArray = ls at hl ⊢
  have hl : lv_has ls 2 [(0, .ref mo)] := hl
  have hP : va_P D vwCl [oq7 mo mo_st mo_at mo_isKept (nI mo_pe) (nI mo_hm) mo_draft (nI mo_dp) (nI mo_dh) mo_toldLines mo_highest mo_tape (nI mo_tl) (nI mo_ps) (nI mo_fr) mo_sort mo_value (nI mo_ft) mo_wrongAt mo_row mo_orderMany (nI mo_fo) mo_lightest mo_heaviest mo_before mo_justSum mo_toldSum mo_allWays mo_lanes mo_sizes mo_cells mo_torn mo_had, oqI k mo_tape 160 (tf)] s.heap := hP
  refine lv_aload_n hx hb dX8_takes_0 rfl (lv_at hl 0 rfl) ?_
  refine va_get (D := D) (ci := 7) (v := .int (nI mo_ft)) (C := RX8) (T := TX8) (N := 32) hx hb hts hiX8 hown hK hP 0 rfl rfl 16 (Nat.le_of_ble_eq_true rfl) fl78 (fun _ h9 => h9) rfl dX8_takes_1 ?_
  refine lv_if_le (tgt := 8) hx hb dX8_takes_4 rfl (fun c_1 => ?_) (fun c_1 => ?_)
  · have nc_1 : mo_ft ≤ 0 := (nI_leI (a := mo_ft) (b := 0) (by omega) (by omega)).mp c_1
    refine hs_while (σ := Nat) (fun x => mo_ps ≤ x ∧ x ≤ mo_tl ∧ hrun (hsp tf) mo_tl x = hrun (hsp tf) mo_tl mo_ps) (fun x => mo_tl - x) (fun x => [oq7 mo mo_st mo_at mo_isKept (nI mo_pe) (nI mo_hm) mo_draft (nI mo_dp) (nI mo_dh) mo_toldLines mo_highest mo_tape (nI mo_tl) (nI (x)) (nI mo_fr) mo_sort mo_value (nI mo_ft) mo_wrongAt mo_row mo_orderMany (nI mo_fo) mo_lightest mo_heaviest mo_before mo_justSum mo_toldSum mo_allWays mo_lanes mo_sizes mo_cells mo_torn mo_had, oqI k mo_tape 160 (tf)]) (fun x => [(0, .ref mo)]) ?_ (mo_ps) ?_ hP hD hS hl
    · intro x hI ih8 H locs ls hP hD hS hl
      obtain ⟨px, rfl⟩ : ∃ z, z = x := ⟨_, rfl⟩
      try dsimp only at hI
      have hP : va_P D vwCl [oq7 mo mo_st mo_at mo_isKept (nI mo_pe) (nI mo_hm) mo_draft (nI mo_dp) (nI mo_dh) mo_toldLines mo_highest mo_tape (nI mo_tl) (nI px) (nI mo_fr) mo_sort mo_value (nI mo_ft) mo_wrongAt mo_row mo_orderMany (nI mo_fo) mo_lightest mo_heaviest mo_before mo_justSum mo_toldSum mo_allWays mo_lanes mo_sizes mo_cells mo_torn mo_had, oqI k mo_tape 160 (tf)] H := hP
      have hD : va_D A [oq7 mo mo_st mo_at mo_isKept (nI mo_pe) (nI mo_hm) mo_draft (nI mo_dp) (nI mo_dh) mo_toldLines mo_highest mo_tape (nI mo_tl) (nI px) (nI mo_fr) mo_sort mo_value (nI mo_ft) mo_wrongAt mo_row mo_orderMany (nI mo_fo) mo_lightest mo_heaviest mo_before mo_justSum mo_toldSum mo_allWays mo_lanes mo_sizes mo_cells mo_torn mo_had, oqI k mo_tape 160 (tf)] := hD
      have hl : lv_has ls 2 [(0, .ref mo)] := hl
      refine lv_aload_n hx hb dX8_takes_8 rfl (lv_at hl 0 rfl) ?_
      refine lv_aload_n hx hb dX8_takes_9 rfl (lv_at hl 0 rfl) ?_
      refine va_get (D := D) (ci := 7) (v := .int (nI px)) (C := RX8) (T := TX8) (N := 32) hx hb hts hiX8 hown hK hP 0 rfl rfl 12 (Nat.le_of_ble_eq_true rfl) fl87 (fun _ h9 => h9) rfl dX8_takes_10 ?_
      refine hs_ciM (va_runV (As := [.int (nI px)]) (rest := []) ⟨hx, hb, hml, hown, hts⟩ (gm_byteAt l D k _ mo mo_st mo_at mo_isKept mo_pe mo_hm mo_draft mo_dp mo_dh mo_toldLines mo_highest mo_tape mo_tl px mo_fr mo_sort mo_value mo_ft mo_wrongAt mo_row mo_orderMany mo_fo mo_lightest mo_heaviest mo_before mo_justSum mo_toldSum mo_allWays mo_lanes mo_sizes mo_cells mo_torn mo_had tf px (by omega) (by omega)) (cwV 1 hts gX8_takes_X8_byteAt rfl rfl rfl ⟨rfl, hq_X8_byteAt⟩ ⟨Nat.le_of_ble_eq_true rfl, Nat.le_of_ble_eq_true rfl⟩) (hs_preV hK hN (hs_subP (w := [_, _]) hP [0, 1] rfl) (hD.sub (ws' := [_, _]) [0, 1] (hs_upnd rfl) rfl) (ci := 7) (q0 := 0) rfl rfl) rfl rfl hl.1 rfl (lv_room (Nat.le_of_ble_eq_true rfl)) dX8_takes_13 ⟨Nat.le_of_ble_eq_true rfl, Nat.le_of_ble_eq_true rfl⟩) hP hD hS hA [false, false] [] [_, _] rfl [0, 1] rfl [0, 1] (fun u_4 => [_, _]) (fun _ => rfl) (hs_upnd rfl) [false, false] (fun u_4 => [_, _]) (fun _ => rfl) (fun r_2 u_4 H locs hw_3 hP hD hS => ?_)
      refine hs_topi (if px < mo_tl then tf px else -1) hw_3 ?_
      refine lv_bipush (v := 32) hx hb dX8_takes_16 hkb_32 ?_
      refine lv_icmp_ne (tgt := 34) hx hb dX8_takes_18 rfl (fun c_5 => ?_) (fun c_5 => ?_)
      · have hS0 : htS tf mo_tl mo_ps = px := hI.2.2.symm.trans (hrun_stop (fun h9 => c_5 (by rw [if_pos h9.1]; exact of_decide_eq_true h9.2)))
        refine lv_aload_n hx hb dX8_takes_34 rfl (lv_at hl 0 rfl) ?_
        refine lv_aload_n hx hb dX8_takes_35 rfl (lv_at hl 0 rfl) ?_
        refine va_get (D := D) (ci := 7) (v := .int (nI px)) (C := RX8) (T := TX8) (N := 32) hx hb hts hiX8 hown hK hP 0 rfl rfl 12 (Nat.le_of_ble_eq_true rfl) fl87 (fun _ h9 => h9) rfl dX8_takes_36 ?_
        refine va_put (D := D) (ci := 7) (v := .int (nI px)) (ty := .int) (C := RX8) (T := TX8) (N := 32) hx hb hts hiX8 tyX8 tyX8_ok nmX8 hown hK hP hD hS 0 rfl rfl 13 (Nat.le_of_ble_eq_true rfl) fl81 (fun _ h9 => h9) rfl (by decide +kernel) rfl rfl (Nat.le_of_ble_eq_true rfl) dX8_takes_39 (fun H locs hP hD hS => ?_)
        have hP : va_P D vwCl [oq7 mo mo_st mo_at mo_isKept (nI mo_pe) (nI mo_hm) mo_draft (nI mo_dp) (nI mo_dh) mo_toldLines mo_highest mo_tape (nI mo_tl) (nI px) (nI px) mo_sort mo_value (nI mo_ft) mo_wrongAt mo_row mo_orderMany (nI mo_fo) mo_lightest mo_heaviest mo_before mo_justSum mo_toldSum mo_allWays mo_lanes mo_sizes mo_cells mo_torn mo_had, _] H := hP
        have hD : va_D A [oq7 mo mo_st mo_at mo_isKept (nI mo_pe) (nI mo_hm) mo_draft (nI mo_dp) (nI mo_dh) mo_toldLines mo_highest mo_tape (nI mo_tl) (nI px) (nI px) mo_sort mo_value (nI mo_ft) mo_wrongAt mo_row mo_orderMany (nI mo_fo) mo_lightest mo_heaviest mo_before mo_justSum mo_toldSum mo_allWays mo_lanes mo_sizes mo_cells mo_torn mo_had, _] := hD
        refine lv_aload_n hx hb dX8_takes_42 rfl (lv_at hl 0 rfl) ?_
        refine lv_aload_n hx hb dX8_takes_43 rfl (lv_at hl 0 rfl) ?_
        refine va_get (D := D) (ci := 7) (v := .int (nI px)) (C := RX8) (T := TX8) (N := 32) hx hb hts hiX8 hown hK hP 0 rfl rfl 12 (Nat.le_of_ble_eq_true rfl) fl87 (fun _ h9 => h9) rfl dX8_takes_44 ?_
        refine hs_ciM (va_runV (As := [.int (nI px)]) (rest := []) ⟨hx, hb, hml, hown, hts⟩ (gm_byteAt l D k _ mo mo_st mo_at mo_isKept mo_pe mo_hm mo_draft mo_dp mo_dh mo_toldLines mo_highest mo_tape mo_tl px px mo_sort mo_value mo_ft mo_wrongAt mo_row mo_orderMany mo_fo mo_lightest mo_heaviest mo_before mo_justSum mo_toldSum mo_allWays mo_lanes mo_sizes mo_cells mo_torn mo_had tf px (by omega) (by omega)) (cwV 1 hts gX8_takes_X8_byteAt rfl rfl rfl ⟨rfl, hq_X8_byteAt⟩ ⟨Nat.le_of_ble_eq_true rfl, Nat.le_of_ble_eq_true rfl⟩) (hs_preV hK hN (hs_subP (w := [_, _]) hP [0, 1] rfl) (hD.sub (ws' := [_, _]) [0, 1] (hs_upnd rfl) rfl) (ci := 7) (q0 := 0) rfl rfl) rfl rfl hl.1 rfl (lv_room (Nat.le_of_ble_eq_true rfl)) dX8_takes_47 ⟨Nat.le_of_ble_eq_true rfl, Nat.le_of_ble_eq_true rfl⟩) hP hD hS hA [false, false] [] [_, _] rfl [0, 1] rfl [0, 1] (fun u_8 => [_, _]) (fun _ => rfl) (hs_upnd rfl) [false, false] (fun u_8 => [_, _]) (fun _ => rfl) (fun r_6 u_8 H locs hw_7 hP hD hS => ?_)
        refine hs_topi (if px < mo_tl then tf px else -1) hw_7 ?_
        refine lv_istore_n (lv' := [(1, .int (if px < mo_tl then tf px else -1)), (0, .ref mo)]) hx hb dX8_takes_50 rfl hl (Nat.le_of_ble_eq_true rfl) rfl (fun ls hl => ?_)
        refine lv_iload_n hx hb dX8_takes_51 rfl (lv_at hl 0 rfl) ?_
        refine lv_if_ge (tgt := 63) hx hb dX8_takes_52 rfl (fun c_9 => ?_) (fun c_9 => ?_)
        · have hb2 := hs_byte0 c_9
          refine lv_iload_n hx hb dX8_takes_63 rfl (lv_at hl 0 rfl) ?_
          refine lv_i2l hx hb dX8_takes_64 rfl ?_
          refine lv_ldc2 hx hb hown kl104 dX8_takes_65 ?_
          refine lv_ldc2 hx hb hown kl106 dX8_takes_68 ?_
          refine hs_pi (va_runS (As := [.long ((((if px < mo_tl then tf px else -1)) : Int32).toInt64), .long 97, .long 122]) (rest := []) ⟨hx, hb, hml, hown, hts⟩ (gm_in l D k _ (if px < mo_tl then tf px else -1) 97 122) (va_cwS 3 hts gX8_takes_X8_in rfl rfl rfl hq_X8_in ⟨Nat.le_of_ble_eq_true rfl, Nat.le_of_ble_eq_true rfl⟩) (hs_preS hK hN (hs_subP (w := []) hP [] rfl) (hD.sub (ws' := []) [] rfl rfl)) rfl rfl hl.1 rfl (lv_room (Nat.le_of_ble_eq_true rfl)) dX8_takes_71 ⟨Nat.le_of_ble_eq_true rfl, Nat.le_of_ble_eq_true rfl⟩) hP hD hS hA (fun r_10 u_12 H locs hw_11 hP hS => ?_)
          refine hs_topi (hsb (hsin (if px < mo_tl then tf px else -1) 97 122)) hw_11 ?_
          refine lv_if_eq (tgt := 116) hx hb dX8_takes_74 rfl (fun c_13 => ?_) (fun c_13 => ?_)
          · have hnl := hs_inF hb2 (hs_n0 c_13)
            refine lv_iload_n hx hb dX8_takes_116 rfl (lv_at hl 0 rfl) ?_
            refine lv_i2l hx hb dX8_takes_117 rfl ?_
            refine lv_ldc2 hx hb hown kl108 dX8_takes_118 ?_
            refine lv_ldc2 hx hb hown kl110 dX8_takes_121 ?_
            refine hs_pi (va_runS (As := [.long ((((if px < mo_tl then tf px else -1)) : Int32).toInt64), .long 48, .long 57]) (rest := []) ⟨hx, hb, hml, hown, hts⟩ (gm_in l D k _ (if px < mo_tl then tf px else -1) 48 57) (va_cwS 3 hts gX8_takes_X8_in rfl rfl rfl hq_X8_in ⟨Nat.le_of_ble_eq_true rfl, Nat.le_of_ble_eq_true rfl⟩) (hs_preS hK hN (hs_subP (w := []) hP [] rfl) (hD.sub (ws' := []) [] rfl rfl)) rfl rfl hl.1 rfl (lv_room (Nat.le_of_ble_eq_true rfl)) dX8_takes_124 ⟨Nat.le_of_ble_eq_true rfl, Nat.le_of_ble_eq_true rfl⟩) hP hD hS hA (fun r_14 u_16 H locs hw_15 hP hS => ?_)
            refine hs_topi (hsb (hsin (if px < mo_tl then tf px else -1) 48 57)) hw_15 ?_
            refine lv_if_eq (tgt := 243) hx hb dX8_takes_127 rfl (fun c_17 => ?_) (fun c_17 => ?_)
            · have hnd := hs_inF hb2 (hs_n0 c_17)
              refine lv_aload_n hx hb dX8_takes_243 rfl (lv_at hl 1 rfl) ?_
              refine lv_iconst (v := 3) hx hb dX8_takes_244 hki_3 ?_
              refine va_put (D := D) (ci := 7) (v := .int 3) (ty := .int) (C := RX8) (T := TX8) (N := 32) hx hb hts hiX8 tyX8 tyX8_ok nmX8 hown hK hP hD hS 0 rfl rfl 14 (Nat.le_of_ble_eq_true rfl) fl101 (fun _ h9 => h9) rfl (by decide +kernel) rfl rfl (Nat.le_of_ble_eq_true rfl) dX8_takes_245 (fun H locs hP hD hS => ?_)
              have hP : va_P D vwCl [oq7 mo mo_st mo_at mo_isKept (nI mo_pe) (nI mo_hm) mo_draft (nI mo_dp) (nI mo_dh) mo_toldLines mo_highest mo_tape (nI mo_tl) (nI px) (nI px) 3 mo_value (nI mo_ft) mo_wrongAt mo_row mo_orderMany (nI mo_fo) mo_lightest mo_heaviest mo_before mo_justSum mo_toldSum mo_allWays mo_lanes mo_sizes mo_cells mo_torn mo_had, _] H := hP
              have hD : va_D A [oq7 mo mo_st mo_at mo_isKept (nI mo_pe) (nI mo_hm) mo_draft (nI mo_dp) (nI mo_dh) mo_toldLines mo_highest mo_tape (nI mo_tl) (nI px) (nI px) 3 mo_value (nI mo_ft) mo_wrongAt mo_row mo_orderMany (nI mo_fo) mo_lightest mo_heaviest mo_before mo_justSum mo_toldSum mo_allWays mo_lanes mo_sizes mo_cells mo_torn mo_had, _] := hD
              refine lv_aload_n hx hb dX8_takes_248 rfl (lv_at hl 1 rfl) ?_
              refine lv_iload_n hx hb dX8_takes_249 rfl (lv_at hl 0 rfl) ?_
              refine lv_bipush (v := 59) hx hb dX8_takes_250 hkb_59 ?_
              refine lv_icmp_ne (tgt := 259) hx hb dX8_takes_252 rfl (fun c_18 => ?_) (fun c_18 => ?_)
              · refine lv_iconst (v := 0) hx hb dX8_takes_259 hki_0 ?_
                refine lv_iconst (v := 1) hx hb dX8_takes_260 hki_1 ?_
                refine hs_cvM (va_runV (As := [.int 0, .int 1]) (rest := []) ⟨hx, hb, hml, hown, hts⟩ (gr_needs l D k _ mo mo_st mo_at mo_isKept mo_pe mo_hm mo_draft mo_dp mo_dh mo_toldLines mo_highest mo_tape mo_tl px px 3 mo_value mo_ft mo_wrongAt mo_row mo_orderMany mo_fo mo_lightest mo_heaviest mo_before mo_justSum mo_toldSum mo_allWays mo_lanes mo_sizes mo_cells mo_torn mo_had 0 1 (by omega) (by omega)) (cwV 2 hts gX8_takes_X8_needs rfl rfl rfl ⟨rfl, hq_X8_needs⟩ ⟨Nat.le_of_ble_eq_true rfl, Nat.le_of_ble_eq_true rfl⟩) (hs_preV hK hN (hs_subP (w := [_]) hP [0] rfl) (hD.sub (ws' := [_]) [0] (hs_upnd rfl) rfl) (ci := 7) (q0 := 0) rfl rfl) rfl rfl hl.1 rfl (lv_room (Nat.le_of_ble_eq_true rfl)) dX8_takes_261 ⟨Nat.le_of_ble_eq_true rfl, Nat.le_of_ble_eq_true rfl⟩) hP hD hS hA [false, true] [_] [_] rfl [0] rfl [0] (fun u_21 => [_]) (fun _ => rfl) (hs_upnd rfl) [false, true] (fun u_21 => [_, _]) (fun _ => rfl) (fun u_21 H locs hw_20 hP hD hS => ?_)
                have hw_20 : u_21.1 ≤ 7 ∧ (u_21.1 = 0 → mo_ft = 0) ∧ ((0 : Int32) = 0 → ¬ u_21.1 = 0) ∧ u_21 = hNd mo_ft mo_wrongAt px 0 1 := hw_20
                have hzhw_20 := hw_20.2.2.1 rfl
                refine lv_aload_n hx hb dX8_takes_264 rfl (lv_at hl 1 rfl) ?_
                refine lv_dup hx hb dX8_takes_265 rfl ?_
                refine va_get (D := D) (ci := 7) (v := .int (nI px)) (C := RX8) (T := TX8) (N := 32) hx hb hts hiX8 hown hK hP 0 rfl rfl 12 (Nat.le_of_ble_eq_true rfl) fl87 (fun _ h9 => h9) rfl dX8_takes_266 ?_
                refine lv_iconst (v := 1) hx hb dX8_takes_269 hki_1 ?_
                refine lv_iadd hx hb dX8_takes_270 ?_
                refine hs_topi (nI (px + 1)) (nI_add (px) (1)) ?_
                refine va_put (D := D) (ci := 7) (v := .int (nI (px + 1))) (ty := .int) (C := RX8) (T := TX8) (N := 32) hx hb hts hiX8 tyX8 tyX8_ok nmX8 hown hK hP hD hS 0 rfl rfl 12 (Nat.le_of_ble_eq_true rfl) fl87 (fun _ h9 => h9) rfl (by decide +kernel) rfl rfl (Nat.le_of_ble_eq_true rfl) dX8_takes_271 (fun H locs hP hD hS => ?_)
                have hP : va_P D vwCl [oq7 mo mo_st mo_at mo_isKept (nI mo_pe) (nI mo_hm) mo_draft (nI mo_dp) (nI mo_dh) mo_toldLines mo_highest mo_tape (nI mo_tl) (nI (px + 1)) (nI px) 3 mo_value (nI (u_21.1)) u_21.2 mo_row mo_orderMany (nI mo_fo) mo_lightest mo_heaviest mo_before mo_justSum mo_toldSum mo_allWays mo_lanes mo_sizes mo_cells mo_torn mo_had, _] H := hP
                have hD : va_D A [oq7 mo mo_st mo_at mo_isKept (nI mo_pe) (nI mo_hm) mo_draft (nI mo_dp) (nI mo_dh) mo_toldLines mo_highest mo_tape (nI mo_tl) (nI (px + 1)) (nI px) 3 mo_value (nI (u_21.1)) u_21.2 mo_row mo_orderMany (nI mo_fo) mo_lightest mo_heaviest mo_before mo_justSum mo_toldSum mo_allWays mo_lanes mo_sizes mo_cells mo_torn mo_had, _] := hD
                exact hs_vret hx hb hr hlocks hK hP hD hS ((px + 1, px), 3, mo_value, u_21.1, u_21.2) [0, 1] rfl (hs_upnd rfl) dX8_takes_274 (⟨⟨by (try dsimp only); omega, by (try dsimp only); omega, by (try dsimp only); omega, fun h => by (try dsimp only at h); have h0 := hw_20.2.1 h; exact ⟨by omega, by (try dsimp only); omega, by (try dsimp only); omega, by (try dsimp only); first | exact Or.inl rfl | exact Or.inr (by omega)⟩⟩, fun h0 pl => hSyU_oth0 h0 hS0 hb2 hnl hnd (hs_byteN c_18 hb2) hw_20.2.2.2, fun h => absurd (show mo_ft = 0 by omega) h⟩)
              · refine lv_iconst (v := 1) hx hb dX8_takes_255 hki_1 ?_
                refine lv_goto (tgt := 260) hx hb dX8_takes_256 rfl ?_
                refine lv_iconst (v := 1) hx hb dX8_takes_260 hki_1 ?_
                refine hs_cvM (va_runV (As := [.int 1, .int 1]) (rest := []) ⟨hx, hb, hml, hown, hts⟩ (gr_needs l D k _ mo mo_st mo_at mo_isKept mo_pe mo_hm mo_draft mo_dp mo_dh mo_toldLines mo_highest mo_tape mo_tl px px 3 mo_value mo_ft mo_wrongAt mo_row mo_orderMany mo_fo mo_lightest mo_heaviest mo_before mo_justSum mo_toldSum mo_allWays mo_lanes mo_sizes mo_cells mo_torn mo_had 1 1 (by omega) (by omega)) (cwV 2 hts gX8_takes_X8_needs rfl rfl rfl ⟨rfl, hq_X8_needs⟩ ⟨Nat.le_of_ble_eq_true rfl, Nat.le_of_ble_eq_true rfl⟩) (hs_preV hK hN (hs_subP (w := [_]) hP [0] rfl) (hD.sub (ws' := [_]) [0] (hs_upnd rfl) rfl) (ci := 7) (q0 := 0) rfl rfl) rfl rfl hl.1 rfl (lv_room (Nat.le_of_ble_eq_true rfl)) dX8_takes_261 ⟨Nat.le_of_ble_eq_true rfl, Nat.le_of_ble_eq_true rfl⟩) hP hD hS hA [false, true] [_] [_] rfl [0] rfl [0] (fun u_24 => [_]) (fun _ => rfl) (hs_upnd rfl) [false, true] (fun u_24 => [_, _]) (fun _ => rfl) (fun u_24 H locs hw_23 hP hD hS => ?_)
                have hw_23 : u_24.1 ≤ 7 ∧ (u_24.1 = 0 → mo_ft = 0) ∧ ((1 : Int32) = 0 → ¬ u_24.1 = 0) ∧ u_24 = hNd mo_ft mo_wrongAt px 1 1 := hw_23
                have hqhw_23 : u_24.1 = mo_ft := by rw [hw_23.2.2.2, hNd, if_neg (fun z9 => absurd z9.1 (by decide))]
                refine lv_aload_n hx hb dX8_takes_264 rfl (lv_at hl 1 rfl) ?_
                refine lv_dup hx hb dX8_takes_265 rfl ?_
                refine va_get (D := D) (ci := 7) (v := .int (nI px)) (C := RX8) (T := TX8) (N := 32) hx hb hts hiX8 hown hK hP 0 rfl rfl 12 (Nat.le_of_ble_eq_true rfl) fl87 (fun _ h9 => h9) rfl dX8_takes_266 ?_
                refine lv_iconst (v := 1) hx hb dX8_takes_269 hki_1 ?_
                refine lv_iadd hx hb dX8_takes_270 ?_
                refine hs_topi (nI (px + 1)) (nI_add (px) (1)) ?_
                refine va_put (D := D) (ci := 7) (v := .int (nI (px + 1))) (ty := .int) (C := RX8) (T := TX8) (N := 32) hx hb hts hiX8 tyX8 tyX8_ok nmX8 hown hK hP hD hS 0 rfl rfl 12 (Nat.le_of_ble_eq_true rfl) fl87 (fun _ h9 => h9) rfl (by decide +kernel) rfl rfl (Nat.le_of_ble_eq_true rfl) dX8_takes_271 (fun H locs hP hD hS => ?_)
                have hP : va_P D vwCl [oq7 mo mo_st mo_at mo_isKept (nI mo_pe) (nI mo_hm) mo_draft (nI mo_dp) (nI mo_dh) mo_toldLines mo_highest mo_tape (nI mo_tl) (nI (px + 1)) (nI px) 3 mo_value (nI (u_24.1)) u_24.2 mo_row mo_orderMany (nI mo_fo) mo_lightest mo_heaviest mo_before mo_justSum mo_toldSum mo_allWays mo_lanes mo_sizes mo_cells mo_torn mo_had, _] H := hP
                have hD : va_D A [oq7 mo mo_st mo_at mo_isKept (nI mo_pe) (nI mo_hm) mo_draft (nI mo_dp) (nI mo_dh) mo_toldLines mo_highest mo_tape (nI mo_tl) (nI (px + 1)) (nI px) 3 mo_value (nI (u_24.1)) u_24.2 mo_row mo_orderMany (nI mo_fo) mo_lightest mo_heaviest mo_before mo_justSum mo_toldSum mo_allWays mo_lanes mo_sizes mo_cells mo_torn mo_had, _] := hD
                exact hs_vret hx hb hr hlocks hK hP hD hS ((px + 1, px), 3, mo_value, u_24.1, u_24.2) [0, 1] rfl (hs_upnd rfl) dX8_takes_274 (⟨⟨by (try dsimp only); omega, by (try dsimp only); omega, by (try dsimp only); omega, fun h => by (try dsimp only at h); have h0 := hw_23.2.1 h; exact ⟨by omega, by (try dsimp only); omega, by (try dsimp only); omega, by (try dsimp only); first | exact Or.inl rfl | exact Or.inr (by omega)⟩⟩, fun h0 pl => hSyU_oth1 h0 hS0 hb2 hnl hnd (hs_byteE (by decide) c_18) hw_23.2.2.2, fun h => absurd (show mo_ft = 0 by omega) h⟩)
            · have hdig := hs_inE hb2 (hs_nb c_17)
              refine lv_aload_n hx hb dX8_takes_130 rfl (lv_at hl 1 rfl) ?_
              refine lv_iconst (v := 2) hx hb dX8_takes_131 hki_2 ?_
              refine va_put (D := D) (ci := 7) (v := .int 2) (ty := .int) (C := RX8) (T := TX8) (N := 32) hx hb hts hiX8 tyX8 tyX8_ok nmX8 hown hK hP hD hS 0 rfl rfl 14 (Nat.le_of_ble_eq_true rfl) fl101 (fun _ h9 => h9) rfl (by decide +kernel) rfl rfl (Nat.le_of_ble_eq_true rfl) dX8_takes_132 (fun H locs hP hD hS => ?_)
              have hP : va_P D vwCl [oq7 mo mo_st mo_at mo_isKept (nI mo_pe) (nI mo_hm) mo_draft (nI mo_dp) (nI mo_dh) mo_toldLines mo_highest mo_tape (nI mo_tl) (nI px) (nI px) 2 mo_value (nI mo_ft) mo_wrongAt mo_row mo_orderMany (nI mo_fo) mo_lightest mo_heaviest mo_before mo_justSum mo_toldSum mo_allWays mo_lanes mo_sizes mo_cells mo_torn mo_had, _] H := hP
              have hD : va_D A [oq7 mo mo_st mo_at mo_isKept (nI mo_pe) (nI mo_hm) mo_draft (nI mo_dp) (nI mo_dh) mo_toldLines mo_highest mo_tape (nI mo_tl) (nI px) (nI px) 2 mo_value (nI mo_ft) mo_wrongAt mo_row mo_orderMany (nI mo_fo) mo_lightest mo_heaviest mo_before mo_justSum mo_toldSum mo_allWays mo_lanes mo_sizes mo_cells mo_torn mo_had, _] := hD
              refine lv_aload_n hx hb dX8_takes_135 rfl (lv_at hl 1 rfl) ?_
              refine lv_iconst (v := 0) hx hb dX8_takes_136 hki_0 ?_
              refine va_put (D := D) (ci := 7) (v := .int 0) (ty := .int) (C := RX8) (T := TX8) (N := 32) hx hb hts hiX8 tyX8 tyX8_ok nmX8 hown hK hP hD hS 0 rfl rfl 15 (Nat.le_of_ble_eq_true rfl) fl112 (fun _ h9 => h9) rfl (by decide +kernel) rfl rfl (Nat.le_of_ble_eq_true rfl) dX8_takes_137 (fun H locs hP hD hS => ?_)
              have hP : va_P D vwCl [oq7 mo mo_st mo_at mo_isKept (nI mo_pe) (nI mo_hm) mo_draft (nI mo_dp) (nI mo_dh) mo_toldLines mo_highest mo_tape (nI mo_tl) (nI px) (nI px) 2 0 (nI mo_ft) mo_wrongAt mo_row mo_orderMany (nI mo_fo) mo_lightest mo_heaviest mo_before mo_justSum mo_toldSum mo_allWays mo_lanes mo_sizes mo_cells mo_torn mo_had, _] H := hP
              have hD : va_D A [oq7 mo mo_st mo_at mo_isKept (nI mo_pe) (nI mo_hm) mo_draft (nI mo_dp) (nI mo_dh) mo_toldLines mo_highest mo_tape (nI mo_tl) (nI px) (nI px) 2 0 (nI mo_ft) mo_wrongAt mo_row mo_orderMany (nI mo_fo) mo_lightest mo_heaviest mo_before mo_justSum mo_toldSum mo_allWays mo_lanes mo_sizes mo_cells mo_torn mo_had, _] := hD
              refine hs_while (σ := Nat × Int32) (fun x => px ≤ x.1 ∧ x.1 ≤ mo_tl ∧ (px < x.1 ∨ hsin (if x.1 < mo_tl then tf x.1 else -1) 48 57 = true) ∧ hrun (hsk tf 2) mo_tl x.1 = hrun (hsk tf 2) mo_tl px ∧ x.2 = hnv tf px (if x.1 - px < 2 then x.1 - px else 2)) (fun x => mo_tl - x.1) (fun x => [oq7 mo mo_st mo_at mo_isKept (nI mo_pe) (nI mo_hm) mo_draft (nI mo_dp) (nI mo_dh) mo_toldLines mo_highest mo_tape (nI mo_tl) (nI (x.1)) (nI px) 2 (x.2) (nI mo_ft) mo_wrongAt mo_row mo_orderMany (nI mo_fo) mo_lightest mo_heaviest mo_before mo_justSum mo_toldSum mo_allWays mo_lanes mo_sizes mo_cells mo_torn mo_had, oqI k mo_tape 160 (tf)]) (fun x => [(1, .int (if px < mo_tl then tf px else -1)), (0, .ref mo)]) ?_ (px, 0) ?_ hP hD hS hl
              · intro x hI ih140 H locs ls hP hD hS hl
                obtain ⟨p3, vx⟩ := x
                try dsimp only at hI
                have hP : va_P D vwCl [oq7 mo mo_st mo_at mo_isKept (nI mo_pe) (nI mo_hm) mo_draft (nI mo_dp) (nI mo_dh) mo_toldLines mo_highest mo_tape (nI mo_tl) (nI p3) (nI px) 2 vx (nI mo_ft) mo_wrongAt mo_row mo_orderMany (nI mo_fo) mo_lightest mo_heaviest mo_before mo_justSum mo_toldSum mo_allWays mo_lanes mo_sizes mo_cells mo_torn mo_had, _] H := hP
                have hD : va_D A [oq7 mo mo_st mo_at mo_isKept (nI mo_pe) (nI mo_hm) mo_draft (nI mo_dp) (nI mo_dh) mo_toldLines mo_highest mo_tape (nI mo_tl) (nI p3) (nI px) 2 vx (nI mo_ft) mo_wrongAt mo_row mo_orderMany (nI mo_fo) mo_lightest mo_heaviest mo_before mo_justSum mo_toldSum mo_allWays mo_lanes mo_sizes mo_cells mo_torn mo_had, _] := hD
                have hl : lv_has ls 2 [(1, .int (if px < mo_tl then tf px else -1)), (0, .ref mo)] := hl
                refine lv_aload_n hx hb dX8_takes_140 rfl (lv_at hl 1 rfl) ?_
                refine lv_aload_n hx hb dX8_takes_141 rfl (lv_at hl 1 rfl) ?_
                refine va_get (D := D) (ci := 7) (v := .int (nI p3)) (C := RX8) (T := TX8) (N := 32) hx hb hts hiX8 hown hK hP 0 rfl rfl 12 (Nat.le_of_ble_eq_true rfl) fl87 (fun _ h9 => h9) rfl dX8_takes_142 ?_
                refine hs_ciM (va_runV (As := [.int (nI p3)]) (rest := []) ⟨hx, hb, hml, hown, hts⟩ (gm_byteAt l D k _ mo mo_st mo_at mo_isKept mo_pe mo_hm mo_draft mo_dp mo_dh mo_toldLines mo_highest mo_tape mo_tl p3 px 2 vx mo_ft mo_wrongAt mo_row mo_orderMany mo_fo mo_lightest mo_heaviest mo_before mo_justSum mo_toldSum mo_allWays mo_lanes mo_sizes mo_cells mo_torn mo_had tf p3 (by omega) (by omega)) (cwV 1 hts gX8_takes_X8_byteAt rfl rfl rfl ⟨rfl, hq_X8_byteAt⟩ ⟨Nat.le_of_ble_eq_true rfl, Nat.le_of_ble_eq_true rfl⟩) (hs_preV hK hN (hs_subP (w := [_, _]) hP [0, 1] rfl) (hD.sub (ws' := [_, _]) [0, 1] (hs_upnd rfl) rfl) (ci := 7) (q0 := 0) rfl rfl) rfl rfl hl.1 rfl (lv_room (Nat.le_of_ble_eq_true rfl)) dX8_takes_145 ⟨Nat.le_of_ble_eq_true rfl, Nat.le_of_ble_eq_true rfl⟩) hP hD hS hA [false, false] [] [_, _] rfl [0, 1] rfl [0, 1] (fun u_27 => [_, _]) (fun _ => rfl) (hs_upnd rfl) [false, false] (fun u_27 => [_, _]) (fun _ => rfl) (fun r_25 u_27 H locs hw_26 hP hD hS => ?_)
                refine hs_topi (if p3 < mo_tl then tf p3 else -1) hw_26 ?_
                refine lv_i2l hx hb dX8_takes_148 rfl ?_
                refine lv_ldc2 hx hb hown kl108 dX8_takes_149 ?_
                refine lv_ldc2 hx hb hown kl110 dX8_takes_152 ?_
                refine hs_pi (va_runS (As := [.long ((((if p3 < mo_tl then tf p3 else -1)) : Int32).toInt64), .long 48, .long 57]) (rest := []) ⟨hx, hb, hml, hown, hts⟩ (gm_in l D k _ (if p3 < mo_tl then tf p3 else -1) 48 57) (va_cwS 3 hts gX8_takes_X8_in rfl rfl rfl hq_X8_in ⟨Nat.le_of_ble_eq_true rfl, Nat.le_of_ble_eq_true rfl⟩) (hs_preS hK hN (hs_subP (w := []) hP [] rfl) (hD.sub (ws' := []) [] rfl rfl)) rfl rfl hl.1 rfl (lv_room (Nat.le_of_ble_eq_true rfl)) dX8_takes_155 ⟨Nat.le_of_ble_eq_true rfl, Nat.le_of_ble_eq_true rfl⟩) hP hD hS hA (fun r_28 u_30 H locs hw_29 hP hS => ?_)
                refine hs_topi (hsb (hsin (if p3 < mo_tl then tf p3 else -1) 48 57)) hw_29 ?_
                refine lv_if_eq (tgt := 217) hx hb dX8_takes_158 rfl (fun c_31 => ?_) (fun c_31 => ?_)
                · have hB : hrun (hsk tf 2) mo_tl px = p3 := hI.2.2.2.1.symm.trans (hrun_stop (fun h9 => absurd (hks_is2 (of_decide_eq_true h9.2)) (by have h8 := hs_n0 c_31; rw [if_pos h9.1] at h8; rw [h8]; decide)))
                  refine lv_aload_n hx hb dX8_takes_217 rfl (lv_at hl 1 rfl) ?_
                  refine lv_aload_n hx hb dX8_takes_218 rfl (lv_at hl 1 rfl) ?_
                  refine va_get (D := D) (ci := 7) (v := .int (nI p3)) (C := RX8) (T := TX8) (N := 32) hx hb hts hiX8 hown hK hP 0 rfl rfl 12 (Nat.le_of_ble_eq_true rfl) fl87 (fun _ h9 => h9) rfl dX8_takes_219 ?_
                  refine lv_aload_n hx hb dX8_takes_222 rfl (lv_at hl 1 rfl) ?_
                  refine va_get (D := D) (ci := 7) (v := .int (nI px)) (C := RX8) (T := TX8) (N := 32) hx hb hts hiX8 hown hK hP 0 rfl rfl 13 (Nat.le_of_ble_eq_true rfl) fl81 (fun _ h9 => h9) rfl dX8_takes_223 ?_
                  refine lv_isub hx hb dX8_takes_226 ?_
                  refine hs_topi (nI (p3 - px)) (pk_sub (a := p3) (b := px) (by omega)) ?_
                  refine lv_iconst (v := 2) hx hb dX8_takes_227 hki_2 ?_
                  refine lv_icmp_gt (tgt := 235) hx hb dX8_takes_228 rfl (fun c_32 => ?_) (fun c_32 => ?_)
                  · have nc_32 : 2 < (p3 - px) := (nI_ltI (a := 2) (b := (p3 - px)) (by omega) (by omega)).mp c_32
                    refine lv_iconst (v := 0) hx hb dX8_takes_235 hki_0 ?_
                    refine lv_iconst (v := 1) hx hb dX8_takes_236 hki_1 ?_
                    refine hs_cvM (va_runV (As := [.int 0, .int 1]) (rest := []) ⟨hx, hb, hml, hown, hts⟩ (gr_needs l D k _ mo mo_st mo_at mo_isKept mo_pe mo_hm mo_draft mo_dp mo_dh mo_toldLines mo_highest mo_tape mo_tl p3 px 2 vx mo_ft mo_wrongAt mo_row mo_orderMany mo_fo mo_lightest mo_heaviest mo_before mo_justSum mo_toldSum mo_allWays mo_lanes mo_sizes mo_cells mo_torn mo_had 0 1 (by omega) (by omega)) (cwV 2 hts gX8_takes_X8_needs rfl rfl rfl ⟨rfl, hq_X8_needs⟩ ⟨Nat.le_of_ble_eq_true rfl, Nat.le_of_ble_eq_true rfl⟩) (hs_preV hK hN (hs_subP (w := [_]) hP [0] rfl) (hD.sub (ws' := [_]) [0] (hs_upnd rfl) rfl) (ci := 7) (q0 := 0) rfl rfl) rfl rfl hl.1 rfl (lv_room (Nat.le_of_ble_eq_true rfl)) dX8_takes_237 ⟨Nat.le_of_ble_eq_true rfl, Nat.le_of_ble_eq_true rfl⟩) hP hD hS hA [false, true] [_] [_] rfl [0] rfl [0] (fun u_35 => [_]) (fun _ => rfl) (hs_upnd rfl) [false, true] (fun u_35 => [_, _]) (fun _ => rfl) (fun u_35 H locs hw_34 hP hD hS => ?_)
                    have hw_34 : u_35.1 ≤ 7 ∧ (u_35.1 = 0 → mo_ft = 0) ∧ ((0 : Int32) = 0 → ¬ u_35.1 = 0) ∧ u_35 = hNd mo_ft mo_wrongAt px 0 1 := hw_34
                    have hzhw_34 := hw_34.2.2.1 rfl
                    refine lv_goto (tgt := 274) hx hb dX8_takes_240 rfl ?_
                    exact hs_vret hx hb hr hlocks hK hP hD hS ((p3, px), 2, vx, u_35.1, u_35.2) [0, 1] rfl (hs_upnd rfl) dX8_takes_274 (⟨⟨by (try dsimp only); omega, by (try dsimp only); omega, by (try dsimp only); omega, fun h => by (try dsimp only at h); have h0 := hw_34.2.1 h; exact ⟨by omega, by (try dsimp only); omega, by (try dsimp only); omega, by (try dsimp only); first | exact Or.inl rfl | exact Or.inr (by omega) | exact Or.inr (hI.2.2.1.resolve_right (by rw [hs_n0 c_31]; decide))⟩⟩, fun h0 pl => hSyU_dig0 h0 hS0 hb2 hdig hB (by omega) hw_34.2.2.2, fun h => absurd (show mo_ft = 0 by omega) h⟩)
                  · have nc_32 : ¬ 2 < (p3 - px) := fun hq9 => c_32 ((nI_ltI (a := 2) (b := (p3 - px)) (by omega) (by omega)).mpr hq9)
                    refine lv_iconst (v := 1) hx hb dX8_takes_231 hki_1 ?_
                    refine lv_goto (tgt := 236) hx hb dX8_takes_232 rfl ?_
                    refine lv_iconst (v := 1) hx hb dX8_takes_236 hki_1 ?_
                    refine hs_cvM (va_runV (As := [.int 1, .int 1]) (rest := []) ⟨hx, hb, hml, hown, hts⟩ (gr_needs l D k _ mo mo_st mo_at mo_isKept mo_pe mo_hm mo_draft mo_dp mo_dh mo_toldLines mo_highest mo_tape mo_tl p3 px 2 vx mo_ft mo_wrongAt mo_row mo_orderMany mo_fo mo_lightest mo_heaviest mo_before mo_justSum mo_toldSum mo_allWays mo_lanes mo_sizes mo_cells mo_torn mo_had 1 1 (by omega) (by omega)) (cwV 2 hts gX8_takes_X8_needs rfl rfl rfl ⟨rfl, hq_X8_needs⟩ ⟨Nat.le_of_ble_eq_true rfl, Nat.le_of_ble_eq_true rfl⟩) (hs_preV hK hN (hs_subP (w := [_]) hP [0] rfl) (hD.sub (ws' := [_]) [0] (hs_upnd rfl) rfl) (ci := 7) (q0 := 0) rfl rfl) rfl rfl hl.1 rfl (lv_room (Nat.le_of_ble_eq_true rfl)) dX8_takes_237 ⟨Nat.le_of_ble_eq_true rfl, Nat.le_of_ble_eq_true rfl⟩) hP hD hS hA [false, true] [_] [_] rfl [0] rfl [0] (fun u_38 => [_]) (fun _ => rfl) (hs_upnd rfl) [false, true] (fun u_38 => [_, _]) (fun _ => rfl) (fun u_38 H locs hw_37 hP hD hS => ?_)
                    have hw_37 : u_38.1 ≤ 7 ∧ (u_38.1 = 0 → mo_ft = 0) ∧ ((1 : Int32) = 0 → ¬ u_38.1 = 0) ∧ u_38 = hNd mo_ft mo_wrongAt px 1 1 := hw_37
                    have hqhw_37 : u_38.1 = mo_ft := by rw [hw_37.2.2.2, hNd, if_neg (fun z9 => absurd z9.1 (by decide))]
                    refine lv_goto (tgt := 274) hx hb dX8_takes_240 rfl ?_
                    exact hs_vret hx hb hr hlocks hK hP hD hS ((p3, px), 2, vx, u_38.1, u_38.2) [0, 1] rfl (hs_upnd rfl) dX8_takes_274 (⟨⟨by (try dsimp only); omega, by (try dsimp only); omega, by (try dsimp only); omega, fun h => by (try dsimp only at h); have h0 := hw_37.2.1 h; exact ⟨by omega, by (try dsimp only); omega, by (try dsimp only); omega, by (try dsimp only); first | exact Or.inl rfl | exact Or.inr (by omega) | exact Or.inr (hI.2.2.1.resolve_right (by rw [hs_n0 c_31]; decide))⟩⟩, fun h0 pl => hSyU_dig1 h0 hS0 hb2 hdig hB hI.2.2.2.2 (by omega) hw_37.2.2.2, fun h => absurd (show mo_ft = 0 by omega) h⟩)
                · have hb4 := hs_byteR (by decide) (hs_nb c_31)
                  refine lv_aload_n hx hb dX8_takes_161 rfl (lv_at hl 1 rfl) ?_
                  refine lv_aload_n hx hb dX8_takes_162 rfl (lv_at hl 1 rfl) ?_
                  refine va_get (D := D) (ci := 7) (v := .int (nI p3)) (C := RX8) (T := TX8) (N := 32) hx hb hts hiX8 hown hK hP 0 rfl rfl 12 (Nat.le_of_ble_eq_true rfl) fl87 (fun _ h9 => h9) rfl dX8_takes_163 ?_
                  refine lv_aload_n hx hb dX8_takes_166 rfl (lv_at hl 1 rfl) ?_
                  refine va_get (D := D) (ci := 7) (v := .int (nI px)) (C := RX8) (T := TX8) (N := 32) hx hb hts hiX8 hown hK hP 0 rfl rfl 13 (Nat.le_of_ble_eq_true rfl) fl81 (fun _ h9 => h9) rfl dX8_takes_167 ?_
                  refine lv_isub hx hb dX8_takes_170 ?_
                  refine hs_topi (nI (p3 - px)) (pk_sub (a := p3) (b := px) (by omega)) ?_
                  refine lv_iconst (v := 2) hx hb dX8_takes_171 hki_2 ?_
                  refine lv_icmp_ge (tgt := 197) hx hb dX8_takes_172 rfl (fun c_39 => ?_) (fun c_39 => ?_)
                  · have nc_39 : 2 ≤ (p3 - px) := (nI_leI (a := 2) (b := (p3 - px)) (by omega) (by omega)).mp c_39
                    refine lv_aload_n hx hb dX8_takes_197 rfl (lv_at hl 1 rfl) ?_
                    refine va_get (D := D) (ci := 7) (v := .int vx) (C := RX8) (T := TX8) (N := 32) hx hb hts hiX8 hown hK hP 0 rfl rfl 15 (Nat.le_of_ble_eq_true rfl) fl112 (fun _ h9 => h9) rfl dX8_takes_198 ?_
                    refine va_put (D := D) (ci := 7) (v := .int vx) (ty := .int) (C := RX8) (T := TX8) (N := 32) hx hb hts hiX8 tyX8 tyX8_ok nmX8 hown hK hP hD hS 0 rfl rfl 15 (Nat.le_of_ble_eq_true rfl) fl112 (fun _ h9 => h9) rfl (by decide +kernel) rfl rfl (Nat.le_of_ble_eq_true rfl) dX8_takes_201 (fun H locs hP hD hS => ?_)
                    have hP : va_P D vwCl [oq7 mo mo_st mo_at mo_isKept (nI mo_pe) (nI mo_hm) mo_draft (nI mo_dp) (nI mo_dh) mo_toldLines mo_highest mo_tape (nI mo_tl) (nI p3) (nI px) 2 vx (nI mo_ft) mo_wrongAt mo_row mo_orderMany (nI mo_fo) mo_lightest mo_heaviest mo_before mo_justSum mo_toldSum mo_allWays mo_lanes mo_sizes mo_cells mo_torn mo_had, _] H := hP
                    have hD : va_D A [oq7 mo mo_st mo_at mo_isKept (nI mo_pe) (nI mo_hm) mo_draft (nI mo_dp) (nI mo_dh) mo_toldLines mo_highest mo_tape (nI mo_tl) (nI p3) (nI px) 2 vx (nI mo_ft) mo_wrongAt mo_row mo_orderMany (nI mo_fo) mo_lightest mo_heaviest mo_before mo_justSum mo_toldSum mo_allWays mo_lanes mo_sizes mo_cells mo_torn mo_had, _] := hD
                    refine lv_aload_n hx hb dX8_takes_204 rfl (lv_at hl 1 rfl) ?_
                    refine lv_dup hx hb dX8_takes_205 rfl ?_
                    refine va_get (D := D) (ci := 7) (v := .int (nI p3)) (C := RX8) (T := TX8) (N := 32) hx hb hts hiX8 hown hK hP 0 rfl rfl 12 (Nat.le_of_ble_eq_true rfl) fl87 (fun _ h9 => h9) rfl dX8_takes_206 ?_
                    refine lv_iconst (v := 1) hx hb dX8_takes_209 hki_1 ?_
                    refine lv_iadd hx hb dX8_takes_210 ?_
                    refine hs_topi (nI (p3 + 1)) (nI_add (p3) (1)) ?_
                    refine va_put (D := D) (ci := 7) (v := .int (nI (p3 + 1))) (ty := .int) (C := RX8) (T := TX8) (N := 32) hx hb hts hiX8 tyX8 tyX8_ok nmX8 hown hK hP hD hS 0 rfl rfl 12 (Nat.le_of_ble_eq_true rfl) fl87 (fun _ h9 => h9) rfl (by decide +kernel) rfl rfl (Nat.le_of_ble_eq_true rfl) dX8_takes_211 (fun H locs hP hD hS => ?_)
                    have hP : va_P D vwCl [oq7 mo mo_st mo_at mo_isKept (nI mo_pe) (nI mo_hm) mo_draft (nI mo_dp) (nI mo_dh) mo_toldLines mo_highest mo_tape (nI mo_tl) (nI (p3 + 1)) (nI px) 2 vx (nI mo_ft) mo_wrongAt mo_row mo_orderMany (nI mo_fo) mo_lightest mo_heaviest mo_before mo_justSum mo_toldSum mo_allWays mo_lanes mo_sizes mo_cells mo_torn mo_had, _] H := hP
                    have hD : va_D A [oq7 mo mo_st mo_at mo_isKept (nI mo_pe) (nI mo_hm) mo_draft (nI mo_dp) (nI mo_dh) mo_toldLines mo_highest mo_tape (nI mo_tl) (nI (p3 + 1)) (nI px) 2 vx (nI mo_ft) mo_wrongAt mo_row mo_orderMany (nI mo_fo) mo_lightest mo_heaviest mo_before mo_justSum mo_toldSum mo_allWays mo_lanes mo_sizes mo_cells mo_torn mo_had, _] := hD
                    refine lv_goto (tgt := 140) hx hb dX8_takes_214 rfl ?_
                    exact ih140 (p3 + 1, vx) (by (try dsimp only); exact ⟨by omega, by omega, Or.inl (by omega), (hrun_step hb4 (decide_eq_true (hks_2 (hs_dig_let (hs_inE hb4 (hs_nb c_31))) (hs_inE hb4 (hs_nb c_31))))).symm.trans hI.2.2.2.1, hs_dval2 (by omega) hI.2.2.2.2⟩) (by (try dsimp only); omega) _ _ _ hP hD hS (lv_sub hl [0, 1] rfl)
                  · have nc_39 : ¬ 2 ≤ (p3 - px) := fun hq9 => c_39 ((nI_leI (a := 2) (b := (p3 - px)) (by omega) (by omega)).mpr hq9)
                    refine lv_bipush (v := 10) hx hb dX8_takes_175 hkb_10 ?_
                    refine lv_aload_n hx hb dX8_takes_177 rfl (lv_at hl 1 rfl) ?_
                    refine va_get (D := D) (ci := 7) (v := .int vx) (C := RX8) (T := TX8) (N := 32) hx hb hts hiX8 hown hK hP 0 rfl rfl 15 (Nat.le_of_ble_eq_true rfl) fl112 (fun _ h9 => h9) rfl dX8_takes_178 ?_
                    refine lv_imul hx hb dX8_takes_181 ?_
                    refine lv_aload_n hx hb dX8_takes_182 rfl (lv_at hl 1 rfl) ?_
                    refine lv_aload_n hx hb dX8_takes_183 rfl (lv_at hl 1 rfl) ?_
                    refine va_get (D := D) (ci := 7) (v := .int (nI p3)) (C := RX8) (T := TX8) (N := 32) hx hb hts hiX8 hown hK hP 0 rfl rfl 12 (Nat.le_of_ble_eq_true rfl) fl87 (fun _ h9 => h9) rfl dX8_takes_184 ?_
                    refine hs_ciM (va_runV (As := [.int (nI p3)]) (rest := [.int (10 * vx), .ref mo]) ⟨hx, hb, hml, hown, hts⟩ (gm_byteAt l D k _ mo mo_st mo_at mo_isKept mo_pe mo_hm mo_draft mo_dp mo_dh mo_toldLines mo_highest mo_tape mo_tl p3 px 2 vx mo_ft mo_wrongAt mo_row mo_orderMany mo_fo mo_lightest mo_heaviest mo_before mo_justSum mo_toldSum mo_allWays mo_lanes mo_sizes mo_cells mo_torn mo_had tf p3 (by omega) (by omega)) (cwV 1 hts gX8_takes_X8_byteAt rfl rfl rfl ⟨rfl, hq_X8_byteAt⟩ ⟨Nat.le_of_ble_eq_true rfl, Nat.le_of_ble_eq_true rfl⟩) (hs_preV hK hN (hs_subP (w := [_, _]) hP [0, 1] rfl) (hD.sub (ws' := [_, _]) [0, 1] (hs_upnd rfl) rfl) (ci := 7) (q0 := 0) rfl rfl) rfl rfl hl.1 rfl (lv_room (Nat.le_of_ble_eq_true rfl)) dX8_takes_187 ⟨Nat.le_of_ble_eq_true rfl, Nat.le_of_ble_eq_true rfl⟩) hP hD hS hA [false, false] [] [_, _] rfl [0, 1] rfl [0, 1] (fun u_42 => [_, _]) (fun _ => rfl) (hs_upnd rfl) [false, false] (fun u_42 => [_, _]) (fun _ => rfl) (fun r_40 u_42 H locs hw_41 hP hD hS => ?_)
                    refine hs_topi (if p3 < mo_tl then tf p3 else -1) hw_41 ?_
                    refine lv_iadd hx hb dX8_takes_190 ?_
                    refine lv_bipush (v := 48) hx hb dX8_takes_191 hkb_48 ?_
                    refine lv_isub hx hb dX8_takes_193 ?_
                    refine lv_goto (tgt := 201) hx hb dX8_takes_194 rfl ?_
                    refine va_put (D := D) (ci := 7) (v := .int (((10 * vx) + (if p3 < mo_tl then tf p3 else -1)) - 48)) (ty := .int) (C := RX8) (T := TX8) (N := 32) hx hb hts hiX8 tyX8 tyX8_ok nmX8 hown hK hP hD hS 0 rfl rfl 15 (Nat.le_of_ble_eq_true rfl) fl112 (fun _ h9 => h9) rfl (by decide +kernel) rfl rfl (Nat.le_of_ble_eq_true rfl) dX8_takes_201 (fun H locs hP hD hS => ?_)
                    have hP : va_P D vwCl [oq7 mo mo_st mo_at mo_isKept (nI mo_pe) (nI mo_hm) mo_draft (nI mo_dp) (nI mo_dh) mo_toldLines mo_highest mo_tape (nI mo_tl) (nI p3) (nI px) 2 (((10 * vx) + (if p3 < mo_tl then tf p3 else -1)) - 48) (nI mo_ft) mo_wrongAt mo_row mo_orderMany (nI mo_fo) mo_lightest mo_heaviest mo_before mo_justSum mo_toldSum mo_allWays mo_lanes mo_sizes mo_cells mo_torn mo_had, _] H := hP
                    have hD : va_D A [oq7 mo mo_st mo_at mo_isKept (nI mo_pe) (nI mo_hm) mo_draft (nI mo_dp) (nI mo_dh) mo_toldLines mo_highest mo_tape (nI mo_tl) (nI p3) (nI px) 2 (((10 * vx) + (if p3 < mo_tl then tf p3 else -1)) - 48) (nI mo_ft) mo_wrongAt mo_row mo_orderMany (nI mo_fo) mo_lightest mo_heaviest mo_before mo_justSum mo_toldSum mo_allWays mo_lanes mo_sizes mo_cells mo_torn mo_had, _] := hD
                    refine lv_aload_n hx hb dX8_takes_204 rfl (lv_at hl 1 rfl) ?_
                    refine lv_dup hx hb dX8_takes_205 rfl ?_
                    refine va_get (D := D) (ci := 7) (v := .int (nI p3)) (C := RX8) (T := TX8) (N := 32) hx hb hts hiX8 hown hK hP 0 rfl rfl 12 (Nat.le_of_ble_eq_true rfl) fl87 (fun _ h9 => h9) rfl dX8_takes_206 ?_
                    refine lv_iconst (v := 1) hx hb dX8_takes_209 hki_1 ?_
                    refine lv_iadd hx hb dX8_takes_210 ?_
                    refine hs_topi (nI (p3 + 1)) (nI_add (p3) (1)) ?_
                    refine va_put (D := D) (ci := 7) (v := .int (nI (p3 + 1))) (ty := .int) (C := RX8) (T := TX8) (N := 32) hx hb hts hiX8 tyX8 tyX8_ok nmX8 hown hK hP hD hS 0 rfl rfl 12 (Nat.le_of_ble_eq_true rfl) fl87 (fun _ h9 => h9) rfl (by decide +kernel) rfl rfl (Nat.le_of_ble_eq_true rfl) dX8_takes_211 (fun H locs hP hD hS => ?_)
                    have hP : va_P D vwCl [oq7 mo mo_st mo_at mo_isKept (nI mo_pe) (nI mo_hm) mo_draft (nI mo_dp) (nI mo_dh) mo_toldLines mo_highest mo_tape (nI mo_tl) (nI (p3 + 1)) (nI px) 2 (((10 * vx) + (if p3 < mo_tl then tf p3 else -1)) - 48) (nI mo_ft) mo_wrongAt mo_row mo_orderMany (nI mo_fo) mo_lightest mo_heaviest mo_before mo_justSum mo_toldSum mo_allWays mo_lanes mo_sizes mo_cells mo_torn mo_had, _] H := hP
                    have hD : va_D A [oq7 mo mo_st mo_at mo_isKept (nI mo_pe) (nI mo_hm) mo_draft (nI mo_dp) (nI mo_dh) mo_toldLines mo_highest mo_tape (nI mo_tl) (nI (p3 + 1)) (nI px) 2 (((10 * vx) + (if p3 < mo_tl then tf p3 else -1)) - 48) (nI mo_ft) mo_wrongAt mo_row mo_orderMany (nI mo_fo) mo_lightest mo_heaviest mo_before mo_justSum mo_toldSum mo_allWays mo_lanes mo_sizes mo_cells mo_torn mo_had, _] := hD
                    refine lv_goto (tgt := 140) hx hb dX8_takes_214 rfl ?_
                    exact ih140 (p3 + 1, ((10 * vx) + (if p3 < mo_tl then tf p3 else -1)) - 48) (by (try dsimp only); exact ⟨by omega, by omega, Or.inl (by omega), (hrun_step hb4 (decide_eq_true (hks_2 (hs_dig_let (hs_inE hb4 (hs_nb c_31))) (hs_inE hb4 (hs_nb c_31))))).symm.trans hI.2.2.2.1, hs_dval hb4 (by omega) (by omega) hI.2.2.2.2⟩) (by (try dsimp only); omega) _ _ _ hP hD hS (lv_sub hl [0, 1] rfl)
              · (try dsimp only); exact ⟨Nat.le_refl _, by omega, Or.inr (hs_nb c_17), rfl, by rw [Nat.sub_self]; rfl⟩
          · have hlet := hs_inE hb2 (hs_nb c_13)
            refine lv_aload_n hx hb dX8_takes_77 rfl (lv_at hl 1 rfl) ?_
            refine lv_iconst (v := 1) hx hb dX8_takes_78 hki_1 ?_
            refine va_put (D := D) (ci := 7) (v := .int 1) (ty := .int) (C := RX8) (T := TX8) (N := 32) hx hb hts hiX8 tyX8 tyX8_ok nmX8 hown hK hP hD hS 0 rfl rfl 14 (Nat.le_of_ble_eq_true rfl) fl101 (fun _ h9 => h9) rfl (by decide +kernel) rfl rfl (Nat.le_of_ble_eq_true rfl) dX8_takes_79 (fun H locs hP hD hS => ?_)
            have hP : va_P D vwCl [oq7 mo mo_st mo_at mo_isKept (nI mo_pe) (nI mo_hm) mo_draft (nI mo_dp) (nI mo_dh) mo_toldLines mo_highest mo_tape (nI mo_tl) (nI px) (nI px) 1 mo_value (nI mo_ft) mo_wrongAt mo_row mo_orderMany (nI mo_fo) mo_lightest mo_heaviest mo_before mo_justSum mo_toldSum mo_allWays mo_lanes mo_sizes mo_cells mo_torn mo_had, _] H := hP
            have hD : va_D A [oq7 mo mo_st mo_at mo_isKept (nI mo_pe) (nI mo_hm) mo_draft (nI mo_dp) (nI mo_dh) mo_toldLines mo_highest mo_tape (nI mo_tl) (nI px) (nI px) 1 mo_value (nI mo_ft) mo_wrongAt mo_row mo_orderMany (nI mo_fo) mo_lightest mo_heaviest mo_before mo_justSum mo_toldSum mo_allWays mo_lanes mo_sizes mo_cells mo_torn mo_had, _] := hD
            refine hs_while (σ := Nat) (fun x => px ≤ x ∧ x ≤ mo_tl ∧ (px < x ∨ hsin (if x < mo_tl then tf x else -1) 97 122 = true) ∧ hrun (hsk tf 1) mo_tl x = hrun (hsk tf 1) mo_tl px) (fun x => mo_tl - x) (fun x => [oq7 mo mo_st mo_at mo_isKept (nI mo_pe) (nI mo_hm) mo_draft (nI mo_dp) (nI mo_dh) mo_toldLines mo_highest mo_tape (nI mo_tl) (nI (x)) (nI px) 1 mo_value (nI mo_ft) mo_wrongAt mo_row mo_orderMany (nI mo_fo) mo_lightest mo_heaviest mo_before mo_justSum mo_toldSum mo_allWays mo_lanes mo_sizes mo_cells mo_torn mo_had, oqI k mo_tape 160 (tf)]) (fun x => [(1, .int (if px < mo_tl then tf px else -1)), (0, .ref mo)]) ?_ (px) ?_ hP hD hS hl
            · intro x hI ih82 H locs ls hP hD hS hl
              obtain ⟨p2, rfl⟩ : ∃ z, z = x := ⟨_, rfl⟩
              try dsimp only at hI
              have hP : va_P D vwCl [oq7 mo mo_st mo_at mo_isKept (nI mo_pe) (nI mo_hm) mo_draft (nI mo_dp) (nI mo_dh) mo_toldLines mo_highest mo_tape (nI mo_tl) (nI p2) (nI px) 1 mo_value (nI mo_ft) mo_wrongAt mo_row mo_orderMany (nI mo_fo) mo_lightest mo_heaviest mo_before mo_justSum mo_toldSum mo_allWays mo_lanes mo_sizes mo_cells mo_torn mo_had, _] H := hP
              have hD : va_D A [oq7 mo mo_st mo_at mo_isKept (nI mo_pe) (nI mo_hm) mo_draft (nI mo_dp) (nI mo_dh) mo_toldLines mo_highest mo_tape (nI mo_tl) (nI p2) (nI px) 1 mo_value (nI mo_ft) mo_wrongAt mo_row mo_orderMany (nI mo_fo) mo_lightest mo_heaviest mo_before mo_justSum mo_toldSum mo_allWays mo_lanes mo_sizes mo_cells mo_torn mo_had, _] := hD
              have hl : lv_has ls 2 [(1, .int (if px < mo_tl then tf px else -1)), (0, .ref mo)] := hl
              refine lv_aload_n hx hb dX8_takes_82 rfl (lv_at hl 1 rfl) ?_
              refine lv_aload_n hx hb dX8_takes_83 rfl (lv_at hl 1 rfl) ?_
              refine va_get (D := D) (ci := 7) (v := .int (nI p2)) (C := RX8) (T := TX8) (N := 32) hx hb hts hiX8 hown hK hP 0 rfl rfl 12 (Nat.le_of_ble_eq_true rfl) fl87 (fun _ h9 => h9) rfl dX8_takes_84 ?_
              refine hs_ciM (va_runV (As := [.int (nI p2)]) (rest := []) ⟨hx, hb, hml, hown, hts⟩ (gm_byteAt l D k _ mo mo_st mo_at mo_isKept mo_pe mo_hm mo_draft mo_dp mo_dh mo_toldLines mo_highest mo_tape mo_tl p2 px 1 mo_value mo_ft mo_wrongAt mo_row mo_orderMany mo_fo mo_lightest mo_heaviest mo_before mo_justSum mo_toldSum mo_allWays mo_lanes mo_sizes mo_cells mo_torn mo_had tf p2 (by omega) (by omega)) (cwV 1 hts gX8_takes_X8_byteAt rfl rfl rfl ⟨rfl, hq_X8_byteAt⟩ ⟨Nat.le_of_ble_eq_true rfl, Nat.le_of_ble_eq_true rfl⟩) (hs_preV hK hN (hs_subP (w := [_, _]) hP [0, 1] rfl) (hD.sub (ws' := [_, _]) [0, 1] (hs_upnd rfl) rfl) (ci := 7) (q0 := 0) rfl rfl) rfl rfl hl.1 rfl (lv_room (Nat.le_of_ble_eq_true rfl)) dX8_takes_87 ⟨Nat.le_of_ble_eq_true rfl, Nat.le_of_ble_eq_true rfl⟩) hP hD hS hA [false, false] [] [_, _] rfl [0, 1] rfl [0, 1] (fun u_45 => [_, _]) (fun _ => rfl) (hs_upnd rfl) [false, false] (fun u_45 => [_, _]) (fun _ => rfl) (fun r_43 u_45 H locs hw_44 hP hD hS => ?_)
              refine hs_topi (if p2 < mo_tl then tf p2 else -1) hw_44 ?_
              refine lv_i2l hx hb dX8_takes_90 rfl ?_
              refine lv_ldc2 hx hb hown kl104 dX8_takes_91 ?_
              refine lv_ldc2 hx hb hown kl106 dX8_takes_94 ?_
              refine hs_pi (va_runS (As := [.long ((((if p2 < mo_tl then tf p2 else -1)) : Int32).toInt64), .long 97, .long 122]) (rest := []) ⟨hx, hb, hml, hown, hts⟩ (gm_in l D k _ (if p2 < mo_tl then tf p2 else -1) 97 122) (va_cwS 3 hts gX8_takes_X8_in rfl rfl rfl hq_X8_in ⟨Nat.le_of_ble_eq_true rfl, Nat.le_of_ble_eq_true rfl⟩) (hs_preS hK hN (hs_subP (w := []) hP [] rfl) (hD.sub (ws' := []) [] rfl rfl)) rfl rfl hl.1 rfl (lv_room (Nat.le_of_ble_eq_true rfl)) dX8_takes_97 ⟨Nat.le_of_ble_eq_true rfl, Nat.le_of_ble_eq_true rfl⟩) hP hD hS hA (fun r_46 u_48 H locs hw_47 hP hS => ?_)
              refine hs_topi (hsb (hsin (if p2 < mo_tl then tf p2 else -1) 97 122)) hw_47 ?_
              refine lv_if_eq (tgt := 274) hx hb dX8_takes_100 rfl (fun c_49 => ?_) (fun c_49 => ?_)
              · exact hs_vret hx hb hr hlocks hK hP hD hS ((p2, px), 1, mo_value, mo_ft, mo_wrongAt) [0, 1] rfl (hs_upnd rfl) dX8_takes_274 (⟨⟨by (try dsimp only); omega, by (try dsimp only); omega, by (try dsimp only); omega, fun h => by (try dsimp only at h); exact ⟨by omega, by (try dsimp only); omega, by (try dsimp only); omega, by (try dsimp only); first | exact Or.inl rfl | exact Or.inr (by omega) | exact Or.inr (hI.2.2.1.resolve_right (by rw [hs_n0 c_49]; decide))⟩⟩, fun h0 pl => hSyU_let h0 hS0 hb2 hlet (hI.2.2.2.symm.trans (hrun_stop (fun h9 => absurd (hks_is1 (of_decide_eq_true h9.2)) (by have h8 := hs_n0 c_49; rw [if_pos h9.1] at h8; rw [h8]; decide)))), fun h => absurd (show mo_ft = 0 by omega) h⟩)
              · have hb3 := hs_byteR (by decide) (hs_nb c_49)
                refine lv_aload_n hx hb dX8_takes_103 rfl (lv_at hl 1 rfl) ?_
                refine lv_dup hx hb dX8_takes_104 rfl ?_
                refine va_get (D := D) (ci := 7) (v := .int (nI p2)) (C := RX8) (T := TX8) (N := 32) hx hb hts hiX8 hown hK hP 0 rfl rfl 12 (Nat.le_of_ble_eq_true rfl) fl87 (fun _ h9 => h9) rfl dX8_takes_105 ?_
                refine lv_iconst (v := 1) hx hb dX8_takes_108 hki_1 ?_
                refine lv_iadd hx hb dX8_takes_109 ?_
                refine hs_topi (nI (p2 + 1)) (nI_add (p2) (1)) ?_
                refine va_put (D := D) (ci := 7) (v := .int (nI (p2 + 1))) (ty := .int) (C := RX8) (T := TX8) (N := 32) hx hb hts hiX8 tyX8 tyX8_ok nmX8 hown hK hP hD hS 0 rfl rfl 12 (Nat.le_of_ble_eq_true rfl) fl87 (fun _ h9 => h9) rfl (by decide +kernel) rfl rfl (Nat.le_of_ble_eq_true rfl) dX8_takes_110 (fun H locs hP hD hS => ?_)
                have hP : va_P D vwCl [oq7 mo mo_st mo_at mo_isKept (nI mo_pe) (nI mo_hm) mo_draft (nI mo_dp) (nI mo_dh) mo_toldLines mo_highest mo_tape (nI mo_tl) (nI (p2 + 1)) (nI px) 1 mo_value (nI mo_ft) mo_wrongAt mo_row mo_orderMany (nI mo_fo) mo_lightest mo_heaviest mo_before mo_justSum mo_toldSum mo_allWays mo_lanes mo_sizes mo_cells mo_torn mo_had, _] H := hP
                have hD : va_D A [oq7 mo mo_st mo_at mo_isKept (nI mo_pe) (nI mo_hm) mo_draft (nI mo_dp) (nI mo_dh) mo_toldLines mo_highest mo_tape (nI mo_tl) (nI (p2 + 1)) (nI px) 1 mo_value (nI mo_ft) mo_wrongAt mo_row mo_orderMany (nI mo_fo) mo_lightest mo_heaviest mo_before mo_justSum mo_toldSum mo_allWays mo_lanes mo_sizes mo_cells mo_torn mo_had, _] := hD
                refine lv_goto (tgt := 82) hx hb dX8_takes_113 rfl ?_
                exact ih82 (p2 + 1) (by (try dsimp only); exact ⟨by omega, by omega, Or.inl (by omega), (hrun_step hb3 (decide_eq_true (hks_1 (hs_inE hb3 (hs_nb c_49))))).symm.trans hI.2.2.2⟩) (by (try dsimp only); omega) _ _ _ hP hD hS (lv_sub hl [0, 1] rfl)
            · (try dsimp only); exact ⟨Nat.le_refl _, by omega, Or.inr (hs_nb c_13), rfl⟩
        · refine lv_aload_n hx hb dX8_takes_55 rfl (lv_at hl 1 rfl) ?_
          refine lv_iconst (v := 0) hx hb dX8_takes_56 hki_0 ?_
          refine va_put (D := D) (ci := 7) (v := .int 0) (ty := .int) (C := RX8) (T := TX8) (N := 32) hx hb hts hiX8 tyX8 tyX8_ok nmX8 hown hK hP hD hS 0 rfl rfl 14 (Nat.le_of_ble_eq_true rfl) fl101 (fun _ h9 => h9) rfl (by decide +kernel) rfl rfl (Nat.le_of_ble_eq_true rfl) dX8_takes_57 (fun H locs hP hD hS => ?_)
          have hP : va_P D vwCl [oq7 mo mo_st mo_at mo_isKept (nI mo_pe) (nI mo_hm) mo_draft (nI mo_dp) (nI mo_dh) mo_toldLines mo_highest mo_tape (nI mo_tl) (nI px) (nI px) 0 mo_value (nI mo_ft) mo_wrongAt mo_row mo_orderMany (nI mo_fo) mo_lightest mo_heaviest mo_before mo_justSum mo_toldSum mo_allWays mo_lanes mo_sizes mo_cells mo_torn mo_had, _] H := hP
          have hD : va_D A [oq7 mo mo_st mo_at mo_isKept (nI mo_pe) (nI mo_hm) mo_draft (nI mo_dp) (nI mo_dh) mo_toldLines mo_highest mo_tape (nI mo_tl) (nI px) (nI px) 0 mo_value (nI mo_ft) mo_wrongAt mo_row mo_orderMany (nI mo_fo) mo_lightest mo_heaviest mo_before mo_justSum mo_toldSum mo_allWays mo_lanes mo_sizes mo_cells mo_torn mo_had, _] := hD
          refine lv_goto (tgt := 274) hx hb dX8_takes_60 rfl ?_
          exact hs_vret hx hb hr hlocks hK hP hD hS ((px, px), 0, mo_value, mo_ft, mo_wrongAt) [0, 1] rfl (hs_upnd rfl) dX8_takes_274 (⟨⟨by (try dsimp only); omega, by (try dsimp only); omega, by (try dsimp only); omega, fun h => by (try dsimp only at h); exact ⟨by omega, by (try dsimp only); omega, by (try dsimp only); omega, by (try dsimp only); first | exact Or.inl rfl | exact Or.inr (by omega)⟩⟩, fun h0 pl => hSyU_end h0 hS0 (fun h9 => hby px h9 (by have h8 := c_9; rw [if_pos h9] at h8; exact Int32.not_le.mp h8)), fun h => absurd (show mo_ft = 0 by omega) h⟩)
      · have hb1 := hs_byte (by decide) c_5
        refine lv_aload_n hx hb dX8_takes_21 rfl (lv_at hl 0 rfl) ?_
        refine lv_dup hx hb dX8_takes_22 rfl ?_
        refine va_get (D := D) (ci := 7) (v := .int (nI px)) (C := RX8) (T := TX8) (N := 32) hx hb hts hiX8 hown hK hP 0 rfl rfl 12 (Nat.le_of_ble_eq_true rfl) fl87 (fun _ h9 => h9) rfl dX8_takes_23 ?_
        refine lv_iconst (v := 1) hx hb dX8_takes_26 hki_1 ?_
        refine lv_iadd hx hb dX8_takes_27 ?_
        refine hs_topi (nI (px + 1)) (nI_add (px) (1)) ?_
        refine va_put (D := D) (ci := 7) (v := .int (nI (px + 1))) (ty := .int) (C := RX8) (T := TX8) (N := 32) hx hb hts hiX8 tyX8 tyX8_ok nmX8 hown hK hP hD hS 0 rfl rfl 12 (Nat.le_of_ble_eq_true rfl) fl87 (fun _ h9 => h9) rfl (by decide +kernel) rfl rfl (Nat.le_of_ble_eq_true rfl) dX8_takes_28 (fun H locs hP hD hS => ?_)
        have hP : va_P D vwCl [oq7 mo mo_st mo_at mo_isKept (nI mo_pe) (nI mo_hm) mo_draft (nI mo_dp) (nI mo_dh) mo_toldLines mo_highest mo_tape (nI mo_tl) (nI (px + 1)) (nI mo_fr) mo_sort mo_value (nI mo_ft) mo_wrongAt mo_row mo_orderMany (nI mo_fo) mo_lightest mo_heaviest mo_before mo_justSum mo_toldSum mo_allWays mo_lanes mo_sizes mo_cells mo_torn mo_had, _] H := hP
        have hD : va_D A [oq7 mo mo_st mo_at mo_isKept (nI mo_pe) (nI mo_hm) mo_draft (nI mo_dp) (nI mo_dh) mo_toldLines mo_highest mo_tape (nI mo_tl) (nI (px + 1)) (nI mo_fr) mo_sort mo_value (nI mo_ft) mo_wrongAt mo_row mo_orderMany (nI mo_fo) mo_lightest mo_heaviest mo_before mo_justSum mo_toldSum mo_allWays mo_lanes mo_sizes mo_cells mo_torn mo_had, _] := hD
        refine lv_goto (tgt := 8) hx hb dX8_takes_31 rfl ?_
        exact ih8 (px + 1) (by (try dsimp only); exact ⟨by omega, by omega, (hrun_step hb1 (decide_eq_true (hs_byteE (by decide) c_5))).symm.trans hI.2.2⟩) (by (try dsimp only); omega) _ _ _ hP hD hS (lv_sub hl [0] rfl)
    · (try dsimp only); exact ⟨Nat.le_refl _, by omega, rfl⟩
  · have nc_1 : ¬ mo_ft ≤ 0 := fun hq9 => c_1 ((nI_leI (a := mo_ft) (b := 0) (by omega) (by omega)).mpr hq9)
    exact hs_vret hx hb hr hlocks hK hP hD hS ((mo_ps, mo_fr), mo_sort, mo_value, mo_ft, mo_wrongAt) [0, 1] rfl (hs_upnd rfl) dX8_takes_7 (⟨⟨by (try dsimp only); omega, by (try dsimp only); omega, by (try dsimp only); omega, fun h => by (try dsimp only at h); exfalso; omega⟩, fun h => by exfalso; omega, fun _ => rfl⟩)
