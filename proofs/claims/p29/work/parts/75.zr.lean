set_option maxHeartbeats 4000000 in
set_option maxRecDepth 100000 in
theorem gqf_read (l : Launch) (D : va_G) (k : Nat → ClassId) (sz : Nat) (mo : Nat) (mo_st : Nat) (mo_at : Nat) (mo_isKept : Nat) (mo_pe : Nat) (mo_hm : Nat) (mo_draft : Nat) (mo_dp : Nat) (mo_dh : Nat) (mo_toldLines : Int32) (mo_highest : Int32) (mo_tape : Nat) (mo_tl : Nat) (mo_ps : Nat) (mo_fr : Nat) (mo_sort : Int32) (mo_value : Int32) (mo_ft : Nat) (mo_wrongAt : Int32) (mo_row : Nat) (mo_orderMany : Int32) (mo_fo : Nat) (mo_lightest : Int32) (mo_heaviest : Int32) (mo_before : Nat) (mo_justSum : Int64) (mo_toldSum : Int64) (mo_allWays : Int64) (mo_lanes : Nat) (mo_sizes : Nat) (mo_cells : Nat) (mo_torn : Int32) (mo_had : Nat) (sf : Nat → Int32) (c0 : Nat) (c3 : Nat) (c4 : Nat) (fi : Nat) (laf : Nat → Int32) (sif : Nat → Int32) (ce : Nat → Int32) (ha : Nat → Int32) (s_la : Nat → Int32) (s_z : Nat → Nat) (s_r : Nat → Nat → Int32) (i : Int32) (v : Int32) (f : Int32) (n : Int32) (e0 : sf 0 = nI c0) (h0 : c0 ≤ 8) (h02 : 2 ≤ c0) (e3 : sf 16 = nI c3) (h3 : c3 ≤ 8) (e4 : sf 25 = nI c4) (h4 : c4 ≤ 6) (hpe : mo_pe ≤ 4) (hm2 : 2 ≤ mo_hm) (hm5 : mo_hm ≤ 5) (ef : sf 14 = nI fi) (hfi : fi ≤ 99) (hsaw : ∀ i, i < c4 → vp_in (sf (26 + 3 * i)) 4) (hsh : rSh s_la s_z s_r laf sif ce) (hwb : ∀ j, j < c0 → vp_in (sf (1 + j)) 10) : MI l yX8_read wsX8_read ({ frames := 3, cells := 0, slots := 0, locals := 68 }) D k [.ref mo, .int i, .int v, .int f, .int n] [oq7 mo mo_st mo_at mo_isKept (nI mo_pe) (nI mo_hm) mo_draft (nI mo_dp) (nI mo_dh) mo_toldLines mo_highest mo_tape (nI mo_tl) (nI mo_ps) (nI mo_fr) mo_sort mo_value (nI mo_ft) mo_wrongAt mo_row mo_orderMany (nI mo_fo) mo_lightest mo_heaviest mo_before mo_justSum mo_toldSum mo_allWays mo_lanes mo_sizes mo_cells mo_torn mo_had, oqI k mo_st 132 (sf), oqI k mo_lanes 4 (laf), oqI k mo_sizes 4 (sif), oqI k mo_cells 160 (ce), oqI k mo_had 44 (ha)] sz (fun (r : Int32) (u : (Nat → Int32) × (Nat → Int32) × Int32) => mRd c0 s_la s_z s_r mo_torn sf i v f n r (u.1, u.2.2)) (fun (u : (Nat → Int32) × (Nat → Int32) × Int32) => [oq7 mo mo_st mo_at mo_isKept (nI mo_pe) (nI mo_hm) mo_draft (nI mo_dp) (nI mo_dh) mo_toldLines mo_highest mo_tape (nI mo_tl) (nI mo_ps) (nI mo_fr) mo_sort mo_value (nI mo_ft) mo_wrongAt mo_row mo_orderMany (nI mo_fo) mo_lightest mo_heaviest mo_before mo_justSum mo_toldSum mo_allWays mo_lanes mo_sizes mo_cells u.2.2 mo_had, oqI k mo_st 132 (u.1), oqI k mo_lanes 4 (laf), oqI k mo_sizes 4 (sif), oqI k mo_cells 160 (ce), oqI k mo_had 44 (u.2.1)]) := by
  refine Met.ofW (cc := cX8_read) (maxL := 11) (ret := (some .int)) hpn_X8 rfl ?_
  intro p e s m args below meth c s₁ B hml hv
  obtain ⟨rfl, hsz, hP, hK, hD0, hN⟩ := hv
  have hx := B.exec
  have hb := B.bytes
  have hr := B.returns
  have hlocks := B.notSynchronized
  have hts := atoms_spec (ws := wsX8_read) B.pre
  have hown := findClass_of_methodNamed B.named
  have hown : s.vm.findClass RX8 = some m.cls := hown
  have hiX8 : ∀ w ∈ u_ws RX8 TX8 32, w ∈ wsX8_read := fun w9 hw9 => List.mem_cons_of_mem _ (igX8 w9 hw9)
  have fl289 := hts (.fieldLink RX8 289 "HalfScalesModel" "torn" "I") (List.mem_cons_of_mem _ (hs_inG 4 110 rfl rfl))
  have fl38 := hts (.fieldLink RX8 38 "HalfScalesModel" "cells" "[I") (List.mem_cons_of_mem _ (hs_inG 4 109 rfl rfl))
  have fl7 := hts (.fieldLink RX8 7 "HalfScalesModel" "st" "[I") (List.mem_cons_of_mem _ (hs_inG 4 80 rfl rfl))
  have fl41 := hts (.fieldLink RX8 41 "HalfScalesModel" "had" "[I") (List.mem_cons_of_mem _ (hs_inG 4 111 rfl rfl))
  have fl32 := hts (.fieldLink RX8 32 "HalfScalesModel" "lanes" "[I") (List.mem_cons_of_mem _ (hs_inG 4 107 rfl rfl))
  have fl35 := hts (.fieldLink RX8 35 "HalfScalesModel" "sizes" "[I") (List.mem_cons_of_mem _ (hs_inG 4 108 rfl rfl))
  have kl284 := hts (.constantLong RX8 284 (20)) (List.mem_cons_of_mem _ (hs_inG 6 29 rfl rfl))
  subst hsz
  have hD := hD0.self (sz := s.heap.size)
  generalize hAe : va_A [oq7 mo mo_st mo_at mo_isKept (nI mo_pe) (nI mo_hm) mo_draft (nI mo_dp) (nI mo_dh) mo_toldLines mo_highest mo_tape (nI mo_tl) (nI mo_ps) (nI mo_fr) mo_sort mo_value (nI mo_ft) mo_wrongAt mo_row mo_orderMany (nI mo_fo) mo_lightest mo_heaviest mo_before mo_justSum mo_toldSum mo_allWays mo_lanes mo_sizes mo_cells mo_torn mo_had, oqI k mo_st 132 (sf), oqI k mo_lanes 4 (laf), oqI k mo_sizes 4 (sif), oqI k mo_cells 160 (ce), oqI k mo_had 44 (ha)] s.heap.size = A at hD ⊢
  have hA : ∀ q : Nat, s.heap.size ≤ q → A q := fun q h => by rw [← hAe]; exact Or.inr h
  have hS : va_S A s.heap s.heap [] := va_S.rf
  have hl := lv_entry ([.ref mo, .int i, .int v, .int f, .int n]) (n := 11) (Nat.le_of_ble_eq_true rfl)
  rw [lg_entry_eq]
  generalize (lg_sl ([.ref mo, .int i, .int v, .int f, .int n]) ++ List.replicate (11 - (lg_sl ([.ref mo, .int i, .int v, .int f, .int n])).length) Slot.unset).toArray = ls at hl ⊢
  have hl : lv_has ls 11 [(0, .ref mo), (1, .int i), (2, .int v), (3, .int f), (4, .int n)] := hl
  have hP : va_P D vwCl [oq7 mo mo_st mo_at mo_isKept (nI mo_pe) (nI mo_hm) mo_draft (nI mo_dp) (nI mo_dh) mo_toldLines mo_highest mo_tape (nI mo_tl) (nI mo_ps) (nI mo_fr) mo_sort mo_value (nI mo_ft) mo_wrongAt mo_row mo_orderMany (nI mo_fo) mo_lightest mo_heaviest mo_before mo_justSum mo_toldSum mo_allWays mo_lanes mo_sizes mo_cells mo_torn mo_had, oqI k mo_st 132 (sf), oqI k mo_lanes 4 (laf), oqI k mo_sizes 4 (sif), oqI k mo_cells 160 (ce), oqI k mo_had 44 (ha)] s.heap := hP
  refine lv_iload_n hx hb dX8_read_0 rfl (lv_at hl 1 rfl) ?_
  refine lv_iload_n hx hb dX8_read_1 rfl (lv_at hl 2 rfl) ?_
  refine hs_pi (va_runS (As := [.int i, .int v]) (rest := []) ⟨hx, hb, hml, hown, hts⟩ (gm_isSheet l D k _ i v) (va_cwS 2 hts gX8_read_X8_isSheet rfl rfl rfl hq_X8_isSheet ⟨Nat.le_of_ble_eq_true rfl, Nat.le_of_ble_eq_true rfl⟩) (hs_preS hK hN (hs_subP (w := []) hP [] rfl) (hD.sub (ws' := []) [] rfl rfl)) rfl rfl hl.1 rfl (lv_room (Nat.le_of_ble_eq_true rfl)) dX8_read_2 ⟨Nat.le_of_ble_eq_true rfl, Nat.le_of_ble_eq_true rfl⟩) hP hD hS hA (fun r_1 u_3 H locs hw_2 hP hS => ?_)
  refine hs_topi (hsb (hsin i 0 3 && hsin v 0 2)) hw_2 ?_
  refine lv_if_eq (tgt := 21) hx hb dX8_read_5 rfl (fun c_4 => ?_) (fun c_4 => ?_)
  · refine lv_iconst (v := (-1)) hx hb dX8_read_21 hki_m1 ?_
    exact hs_iret hx hb hr hlocks hK hP hD hS (sf, ha, mo_torn) [0, 1, 2, 3, 4, 5] rfl (hs_upnd rfl) dX8_read_22 (Or.inl ⟨(by have h9 := hs_n0 c_4; rw [h9]; rfl), rfl, rfl⟩)
  · rcases hs_v03 <| hs_and1 (hs_nb c_4) with rfl | rfl | rfl | rfl
    · refine lv_iload hx hb dX8_read_8 (lv_at hl 4 rfl) ?_
      refine lv_i2l hx hb dX8_read_10 rfl ?_
      refine lv_lconst (v := 0) hx hb dX8_read_11 (by decide) ?_
      refine lv_ldc2 hx hb hown kl284 dX8_read_12 ?_
      refine hs_pi (va_runS (As := [.long (((n) : Int32).toInt64), .long 0, .long 20]) (rest := []) ⟨hx, hb, hml, hown, hts⟩ (gm_in l D k _ n 0 20) (va_cwS 3 hts gX8_read_X8_in rfl rfl rfl hq_X8_in ⟨Nat.le_of_ble_eq_true rfl, Nat.le_of_ble_eq_true rfl⟩) (hs_preS hK hN (hs_subP (w := []) hP [] rfl) (hD.sub (ws' := []) [] rfl rfl)) rfl rfl hl.1 rfl (lv_room (Nat.le_of_ble_eq_true rfl)) dX8_read_15 ⟨Nat.le_of_ble_eq_true rfl, Nat.le_of_ble_eq_true rfl⟩) hP hD hS hA (fun r_5 u_7 H locs hw_6 hP hS => ?_)
      refine hs_topi (hsb (hsin n 0 20)) hw_6 ?_
      refine lv_if_ne (tgt := 23) hx hb dX8_read_18 rfl (fun c_8 => ?_) (fun c_8 => ?_)
      · obtain ⟨nn, hnn, hnnb, rfl⟩ := hs_rng (lo := 0) (hi := 20) (by omega) (by omega) (hs_nb c_8)
        refine lv_iconst (v := 0) hx hb dX8_read_23 hki_0 ?_
        refine lv_istore (lv' := [(5, .int 0), (0, .ref mo), (1, .int 0), (2, .int v), (3, .int f), (4, .int (nI nn))]) hx hb dX8_read_24 hl (Nat.le_of_ble_eq_true rfl) rfl (fun ls hl => ?_)
        refine hs_while (σ := Nat × (Nat → Int32)) (fun x => x.1 ≤ 44 ∧ ∀ j, j < x.1 → x.2 j = sf j) (fun x => 44 - x.1) (fun x => [oq7 mo mo_st mo_at mo_isKept (nI mo_pe) (nI mo_hm) mo_draft (nI mo_dp) (nI mo_dh) mo_toldLines mo_highest mo_tape (nI mo_tl) (nI mo_ps) (nI mo_fr) mo_sort mo_value (nI mo_ft) mo_wrongAt mo_row mo_orderMany (nI mo_fo) mo_lightest mo_heaviest mo_before mo_justSum mo_toldSum mo_allWays mo_lanes mo_sizes mo_cells mo_torn mo_had, oqI k mo_st 132 (sf), oqI k mo_lanes 4 (laf), oqI k mo_sizes 4 (sif), oqI k mo_cells 160 (ce), oqI k mo_had 44 ((x.2))]) (fun x => [(5, .int (nI (x.1))), (0, .ref mo), (1, .int 0), (2, .int v), (3, .int f), (4, .int (nI nn))]) ?_ (0, ha) ?_ hP hD hS hl
        · intro x hI ih26 H locs ls hP hD hS hl
          obtain ⟨x0, hg⟩ := x
          try dsimp only at hI
          have hP : va_P D vwCl [oq7 mo mo_st mo_at mo_isKept (nI mo_pe) (nI mo_hm) mo_draft (nI mo_dp) (nI mo_dh) mo_toldLines mo_highest mo_tape (nI mo_tl) (nI mo_ps) (nI mo_fr) mo_sort mo_value (nI mo_ft) mo_wrongAt mo_row mo_orderMany (nI mo_fo) mo_lightest mo_heaviest mo_before mo_justSum mo_toldSum mo_allWays mo_lanes mo_sizes mo_cells mo_torn mo_had, oqI k mo_st 132 (sf), oqI k mo_lanes 4 (laf), oqI k mo_sizes 4 (sif), oqI k mo_cells 160 (ce), oqI k mo_had 44 (hg)] H := hP
          have hD : va_D A [oq7 mo mo_st mo_at mo_isKept (nI mo_pe) (nI mo_hm) mo_draft (nI mo_dp) (nI mo_dh) mo_toldLines mo_highest mo_tape (nI mo_tl) (nI mo_ps) (nI mo_fr) mo_sort mo_value (nI mo_ft) mo_wrongAt mo_row mo_orderMany (nI mo_fo) mo_lightest mo_heaviest mo_before mo_justSum mo_toldSum mo_allWays mo_lanes mo_sizes mo_cells mo_torn mo_had, oqI k mo_st 132 (sf), oqI k mo_lanes 4 (laf), oqI k mo_sizes 4 (sif), oqI k mo_cells 160 (ce), oqI k mo_had 44 (hg)] := hD
          have hl : lv_has ls 11 [(5, .int (nI x0)), (0, .ref mo), (1, .int 0), (2, .int v), (3, .int f), (4, .int (nI nn))] := hl
          refine lv_iload hx hb dX8_read_26 (lv_at hl 0 rfl) ?_
          refine lv_bipush (v := 44) hx hb dX8_read_28 hkb_44 ?_
          refine lv_icmp_ge (tgt := 53) hx hb dX8_read_30 rfl (fun c_9 => ?_) (fun c_9 => ?_)
          · have nc_9 : 44 ≤ x0 := (nI_leI (a := 44) (b := x0) (by omega) (by omega)).mp c_9
            have hI26 := hI
            refine lv_iconst (v := 0) hx hb dX8_read_53 hki_0 ?_
            refine lv_istore (lv' := [(5, .int 0), (0, .ref mo), (1, .int 0), (2, .int v), (3, .int f), (4, .int (nI nn))]) hx hb dX8_read_54 hl (Nat.le_of_ble_eq_true rfl) rfl (fun ls hl => ?_)
            refine lv_iconst (v := 0) hx hb dX8_read_56 hki_0 ?_
            refine lv_istore (lv' := [(6, .int 0), (5, .int 0), (0, .ref mo), (1, .int 0), (2, .int v), (3, .int f), (4, .int (nI nn))]) hx hb dX8_read_57 hl (Nat.le_of_ble_eq_true rfl) rfl (fun ls hl => ?_)
            refine lv_iconst (v := 0) hx hb dX8_read_59 hki_0 ?_
            refine lv_istore (lv' := [(7, .int 0), (6, .int 0), (5, .int 0), (0, .ref mo), (1, .int 0), (2, .int v), (3, .int f), (4, .int (nI nn))]) hx hb dX8_read_60 hl (Nat.le_of_ble_eq_true rfl) rfl (fun ls hl => ?_)
            refine hs_while (σ := Int32 × Nat × Nat × (Nat → Int32)) (fun x => x.2.2.1 ≤ nn ∧ x.2.1 ≤ x.2.2.1 ∧ (x.1 = 0 → (x.2.1 = x.2.2.1 ∧ ∀ j, j < x.2.2.1 → okR c0 (s_la 0) (s_z 0) (s_r 0) v f j)) ∧ (¬ x.1 = 0 → (x.2.1 + 1 = x.2.2.1 ∧ (∀ j, j < x.2.1 → okR c0 (s_la 0) (s_z 0) (s_r 0) v f j) ∧ x.1 = fTw (s_la 0) (s_z 0) v (pRd f x.2.1))) ∧ x.2.2.2 = wtM (s_z 0) (s_r 0) f sf x.2.1 ∧ (∀ q, ¬ (1 ≤ q ∧ q ≤ 8) → x.2.2.2 q = sf q) ∧ ∀ j, j < c0 → vp_in (x.2.2.2 (1 + j)) 10) (fun x => nn - x.2.2.1) (fun x => [oq7 mo mo_st mo_at mo_isKept (nI mo_pe) (nI mo_hm) mo_draft (nI mo_dp) (nI mo_dh) mo_toldLines mo_highest mo_tape (nI mo_tl) (nI mo_ps) (nI mo_fr) mo_sort mo_value (nI mo_ft) mo_wrongAt mo_row mo_orderMany (nI mo_fo) mo_lightest mo_heaviest mo_before mo_justSum mo_toldSum mo_allWays mo_lanes mo_sizes mo_cells mo_torn mo_had, oqI k mo_st 132 ((x.2.2.2)), oqI k mo_lanes 4 (laf), oqI k mo_sizes 4 (sif), oqI k mo_cells 160 (ce), oqI k mo_had 44 (hg)]) (fun x => [(7, .int (nI (x.2.2.1))), (6, .int (nI (x.2.1))), (5, .int (x.1)), (0, .ref mo), (1, .int 0), (2, .int v), (3, .int f), (4, .int (nI nn))]) ?_ (0, 0, 0, sf) ?_ hP hD hS hl
            · intro x hI ih62 H locs ls hP hD hS hl
              obtain ⟨re, wh, x7, g⟩ := x
              try dsimp only at hI
              have hP : va_P D vwCl [_, oqI k mo_st 132 (g), _, _, _, _] H := hP
              have hD : va_D A [_, oqI k mo_st 132 (g), _, _, _, _] := hD
              have hl : lv_has ls 11 [(7, .int (nI x7)), (6, .int (nI wh)), (5, .int re), (0, .ref mo), (1, .int 0), (2, .int v), (3, .int f), (4, .int (nI nn))] := hl
              refine lv_iload hx hb dX8_read_62 (lv_at hl 0 rfl) ?_
              refine lv_iload hx hb dX8_read_64 (lv_at hl 7 rfl) ?_
              refine lv_icmp_ge (tgt := 250) hx hb dX8_read_66 rfl (fun c_10 => ?_) (fun c_10 => ?_)
              · have nc_10 : nn ≤ x7 := (nI_leI (a := nn) (b := x7) (by omega) (by omega)).mp c_10
                refine lv_aload_n hx hb dX8_read_250 rfl (lv_at hl 3 rfl) ?_
                refine lv_iload hx hb dX8_read_251 (lv_at hl 2 rfl) ?_
                refine va_put (D := D) (ci := 7) (v := .int re) (ty := .int) (C := RX8) (T := TX8) (N := 32) hx hb hts hiX8 tyX8 tyX8_ok nmX8 hown hK hP hD hS 0 rfl rfl 30 (Nat.le_of_ble_eq_true rfl) fl289 (fun _ h9 => h9) rfl (by decide +kernel) rfl rfl (Nat.le_of_ble_eq_true rfl) dX8_read_253 (fun H locs hP hD hS => ?_)
                have hP : va_P D vwCl [oq7 mo mo_st mo_at mo_isKept (nI mo_pe) (nI mo_hm) mo_draft (nI mo_dp) (nI mo_dh) mo_toldLines mo_highest mo_tape (nI mo_tl) (nI mo_ps) (nI mo_fr) mo_sort mo_value (nI mo_ft) mo_wrongAt mo_row mo_orderMany (nI mo_fo) mo_lightest mo_heaviest mo_before mo_justSum mo_toldSum mo_allWays mo_lanes mo_sizes mo_cells re mo_had, _, _, _, _, _] H := hP
                have hD : va_D A [oq7 mo mo_st mo_at mo_isKept (nI mo_pe) (nI mo_hm) mo_draft (nI mo_dp) (nI mo_dh) mo_toldLines mo_highest mo_tape (nI mo_tl) (nI mo_ps) (nI mo_fr) mo_sort mo_value (nI mo_ft) mo_wrongAt mo_row mo_orderMany (nI mo_fo) mo_lightest mo_heaviest mo_before mo_justSum mo_toldSum mo_allWays mo_lanes mo_sizes mo_cells re mo_had, _, _, _, _, _] := hD
                refine lv_iload hx hb dX8_read_256 (lv_at hl 1 rfl) ?_
                exact hs_iret hx hb hr hlocks hK hP hD hS (g, hg, re) [0, 1, 2, 3, 4, 5] rfl (hs_upnd rfl) dX8_read_258 (Or.inr ⟨0, nn, by decide, rfl, by omega, rfl, hs_and2 (hs_nb c_4), (if e9 : re = 0 then (by have h9 := hI.2.2.1 e9; have h2 : wh = nn := (by first | omega | exact absurd e9 (by assumption)); exact ⟨wh, by omega, fun j hj => h9.2 j (by omega), Or.inr (Or.inl ⟨h2, rfl, by (try dsimp only); rw [hI.2.2.2.2.1, e9]⟩)⟩) else (by have h9 := hI.2.2.2.1 e9; exact ⟨wh, by omega, h9.2.1, Or.inr (Or.inr ⟨by omega, by rw [← h9.2.2]; exact e9, rfl, by (try dsimp only); rw [hI.2.2.2.2.1, ← h9.2.2]⟩)⟩))⟩)
              · have nc_10 : ¬ nn ≤ x7 := fun hq9 => c_10 ((nI_leI (a := nn) (b := x7) (by omega) (by omega)).mpr hq9)
                refine lv_iload hx hb dX8_read_69 (lv_at hl 2 rfl) ?_
                refine lv_if_ne (tgt := 250) hx hb dX8_read_71 rfl (fun c_11 => ?_) (fun c_11 => ?_)
                · refine lv_aload_n hx hb dX8_read_250 rfl (lv_at hl 3 rfl) ?_
                  refine lv_iload hx hb dX8_read_251 (lv_at hl 2 rfl) ?_
                  refine va_put (D := D) (ci := 7) (v := .int re) (ty := .int) (C := RX8) (T := TX8) (N := 32) hx hb hts hiX8 tyX8 tyX8_ok nmX8 hown hK hP hD hS 0 rfl rfl 30 (Nat.le_of_ble_eq_true rfl) fl289 (fun _ h9 => h9) rfl (by decide +kernel) rfl rfl (Nat.le_of_ble_eq_true rfl) dX8_read_253 (fun H locs hP hD hS => ?_)
                  have hP : va_P D vwCl [_, _, _, _, _, _] H := hP
                  have hD : va_D A [_, _, _, _, _, _] := hD
                  refine lv_iload hx hb dX8_read_256 (lv_at hl 1 rfl) ?_
                  exact hs_iret hx hb hr hlocks hK hP hD hS (g, hg, re) [0, 1, 2, 3, 4, 5] rfl (hs_upnd rfl) dX8_read_258 (Or.inr ⟨0, nn, by decide, rfl, by omega, rfl, hs_and2 (hs_nb c_4), (if e9 : re = 0 then (by have h9 := hI.2.2.1 e9; have h2 : wh = nn := (by first | omega | exact absurd e9 (by assumption)); exact ⟨wh, by omega, fun j hj => h9.2 j (by omega), Or.inr (Or.inl ⟨h2, rfl, by (try dsimp only); rw [hI.2.2.2.2.1, e9]⟩)⟩) else (by have h9 := hI.2.2.2.1 e9; exact ⟨wh, by omega, h9.2.1, Or.inr (Or.inr ⟨by omega, by rw [← h9.2.2]; exact e9, rfl, by (try dsimp only); rw [hI.2.2.2.2.1, ← h9.2.2]⟩)⟩))⟩)
                · have hI62 := hI
                  refine lv_iconst (v := 0) hx hb dX8_read_74 hki_0 ?_
                  refine lv_istore (lv' := [(8, .int 0), (7, .int (nI x7)), (6, .int (nI wh)), (5, .int re), (0, .ref mo), (1, .int 0), (2, .int v), (3, .int f), (4, .int (nI nn))]) hx hb dX8_read_75 hl (Nat.le_of_ble_eq_true rfl) rfl (fun ls hl => ?_)
                  refine hs_while (σ := Int32 × Nat) (fun x => x.2 ≤ 2 ∧ rdI (s_la 0) (s_z 0) v (pRd f x7) x.2 x.1) (fun x => 2 - x.2) (fun x => [oq7 mo mo_st mo_at mo_isKept (nI mo_pe) (nI mo_hm) mo_draft (nI mo_dp) (nI mo_dh) mo_toldLines mo_highest mo_tape (nI mo_tl) (nI mo_ps) (nI mo_fr) mo_sort mo_value (nI mo_ft) mo_wrongAt mo_row mo_orderMany (nI mo_fo) mo_lightest mo_heaviest mo_before mo_justSum mo_toldSum mo_allWays mo_lanes mo_sizes mo_cells mo_torn mo_had, oqI k mo_st 132 (g), oqI k mo_lanes 4 (laf), oqI k mo_sizes 4 (sif), oqI k mo_cells 160 (ce), oqI k mo_had 44 (hg)]) (fun x => [(8, .int (nI (x.2))), (7, .int (nI x7)), (6, .int (nI wh)), (5, .int (x.1)), (0, .ref mo), (1, .int 0), (2, .int v), (3, .int f), (4, .int (nI nn))]) ?_ (re, 0) ?_ hP hD hS hl
                  · intro x hI ih77 H locs ls hP hD hS hl
                    obtain ⟨re2, cc⟩ := x
                    try dsimp only at hI
                    have hP : va_P D vwCl [oq7 mo mo_st mo_at mo_isKept (nI mo_pe) (nI mo_hm) mo_draft (nI mo_dp) (nI mo_dh) mo_toldLines mo_highest mo_tape (nI mo_tl) (nI mo_ps) (nI mo_fr) mo_sort mo_value (nI mo_ft) mo_wrongAt mo_row mo_orderMany (nI mo_fo) mo_lightest mo_heaviest mo_before mo_justSum mo_toldSum mo_allWays mo_lanes mo_sizes mo_cells mo_torn mo_had, _, _, _, _, _] H := hP
                    have hD : va_D A [oq7 mo mo_st mo_at mo_isKept (nI mo_pe) (nI mo_hm) mo_draft (nI mo_dp) (nI mo_dh) mo_toldLines mo_highest mo_tape (nI mo_tl) (nI mo_ps) (nI mo_fr) mo_sort mo_value (nI mo_ft) mo_wrongAt mo_row mo_orderMany (nI mo_fo) mo_lightest mo_heaviest mo_before mo_justSum mo_toldSum mo_allWays mo_lanes mo_sizes mo_cells mo_torn mo_had, _, _, _, _, _] := hD
                    have hl : lv_has ls 11 [(8, .int (nI cc)), (7, .int (nI x7)), (6, .int (nI wh)), (5, .int re2), (0, .ref mo), (1, .int 0), (2, .int v), (3, .int f), (4, .int (nI nn))] := hl
                    refine lv_iload hx hb dX8_read_77 (lv_at hl 0 rfl) ?_
                    refine lv_iconst (v := 2) hx hb dX8_read_79 hki_2 ?_
                    refine lv_icmp_ge (tgt := 164) hx hb dX8_read_80 rfl (fun c_12 => ?_) (fun c_12 => ?_)
                    · have nc_12 : 2 ≤ cc := (nI_leI (a := 2) (b := cc) (by omega) (by omega)).mp c_12
                      have hT9 : re2 = fTw (s_la 0) (s_z 0) v (pRd f x7) := rdI_end hI.2 (by omega) (Or.inl (by omega))
                      have hI77 := hI
                      refine lv_iload hx hb dX8_read_164 (lv_at hl 3 rfl) ?_
                      refine lv_if_ne (tgt := 244) hx hb dX8_read_166 rfl (fun c_13 => ?_) (fun c_13 => ?_)
                      · refine lv_iinc (v := nI (x7 + 1)) (lv' := [(7, .int (nI (x7 + 1))), (8, .int (nI cc)), (6, .int (nI wh)), (5, .int re2), (0, .ref mo), (1, .int 0), (2, .int v), (3, .int f), (4, .int (nI nn))]) hx hb dX8_read_244 hl (k := 1) rfl (nI_add (x7) 1) (Nat.le_of_ble_eq_true rfl) rfl (fun ls hl => ?_)
                        refine lv_goto (tgt := 62) hx hb dX8_read_247 rfl ?_
                        exact ih62 (re2, wh, x7 + 1, g) (by (try dsimp only); have h8 := (hI62.2.2.1 c_11); exact ⟨by omega, by omega, fun z9 => absurd z9 c_13, fun _ => ⟨by omega, fun j hj => h8.2 j (by omega), by rw [h8.1]; exact hT9⟩, hI62.2.2.2.2.1, hI62.2.2.2.2.2.1, hI62.2.2.2.2.2.2⟩) (by (try dsimp only); omega) _ _ _ hP hD hS (lv_sub hl [0, 2, 3, 4, 5, 6, 7, 8] rfl)
                      · have hf9 := fTw_0 (hT9.symm.trans c_13)
                        have hsk := rSh_la hsh (k := 0) (by decide) hf9.1
                        have hzk := hsk.2.2.2.2.1
                        have hL9 := (hs_lsum (by omega) hzk).mp hf9.2.2.1
                        obtain ⟨jj, hjj, ejj⟩ := hs_rdix (f := f) (i := x7) (c := 0) (by omega) (by decide) (by omega) (by omega)
                        have hcel := hs_rdcell (ce := ce) (w := s_r 0) (k := 0) (z := s_z 0) (i := x7) (jj := jj) (f := f) (by omega) hzk hsk.2.2.2.2.2 hf9.2.2.1 hf9.2.2.2 hjj
                        have hM9 := (hs_lsum1 (by omega) hzk hf9.2.2.1).mp hf9.2.2.2
                        have hK62 := hI62.2.2.2.2.2.1
                        refine lv_bipush (v := 40) hx hb dX8_read_169 hkb_40 ?_
                        refine lv_iload_n hx hb dX8_read_171 rfl (lv_at hl 5 rfl) ?_
                        refine lv_imul hx hb dX8_read_172 ?_
                        refine hs_topi 0 (by first | rfl | decide +kernel) ?_
                        refine lv_iload_n hx hb dX8_read_173 rfl (lv_at hl 7 rfl) ?_
                        refine lv_iadd hx hb dX8_read_174 ?_
                        refine lv_iconst (v := 2) hx hb dX8_read_175 hki_2 ?_
                        refine lv_iload hx hb dX8_read_176 (lv_at hl 1 rfl) ?_
                        refine lv_imul hx hb dX8_read_178 ?_
                        refine hs_topi (nI (2 * x7)) (pk_mul (2) (x7)) ?_
                        refine lv_iadd hx hb dX8_read_179 ?_
                        refine hs_topi (nI (0 + jj)) ejj ?_
                        refine lv_istore (lv' := [(8, .int (nI (0 + jj))), (7, .int (nI x7)), (6, .int (nI wh)), (5, .int re2), (0, .ref mo), (1, .int 0), (2, .int v), (3, .int f), (4, .int (nI nn))]) hx hb dX8_read_180 hl (Nat.le_of_ble_eq_true rfl) rfl (fun ls hl => ?_)
                        refine lv_aload_n hx hb dX8_read_182 rfl (lv_at hl 4 rfl) ?_
                        refine lv_aload_n hx hb dX8_read_183 rfl (lv_at hl 4 rfl) ?_
                        refine va_get (D := D) (ci := 7) (v := .ref mo_cells) (C := RX8) (T := TX8) (N := 32) hx hb hts hiX8 hown hK hP 0 rfl rfl 29 (Nat.le_of_ble_eq_true rfl) fl38 (fun _ h9 => h9) rfl dX8_read_184 ?_
                        refine lv_iload hx hb dX8_read_187 (lv_at hl 0 rfl) ?_
                        refine va_iald hx hb hK hP 4 0 rfl rfl (vp_in_nI (show (0 + jj) < 160 by omega) (by decide)) dX8_read_189 ?_
                        refine hs_topi (aTs (s_z 0) (s_r 0) (pRd f x7)) (by rw [nI_clamp (by omega)]; exact hcel.1) ?_
                        refine lv_aload_n hx hb dX8_read_190 rfl (lv_at hl 4 rfl) ?_
                        refine va_get (D := D) (ci := 7) (v := .ref mo_cells) (C := RX8) (T := TX8) (N := 32) hx hb hts hiX8 hown hK hP 0 rfl rfl 29 (Nat.le_of_ble_eq_true rfl) fl38 (fun _ h9 => h9) rfl dX8_read_191 ?_
                        refine lv_iload hx hb dX8_read_194 (lv_at hl 0 rfl) ?_
                        refine lv_iconst (v := 1) hx hb dX8_read_196 hki_1 ?_
                        refine lv_iadd hx hb dX8_read_197 ?_
                        refine hs_topi (nI ((0 + jj) + 1)) (nI_add ((0 + jj)) (1)) ?_
                        refine va_iald hx hb hK hP 4 0 rfl rfl (vp_in_nI (show ((0 + jj) + 1) < 160 by omega) (by decide)) dX8_read_198 ?_
                        refine hs_topi (aTs (s_z 0) (s_r 0) (pRd f x7 + 1)) (by rw [nI_clamp (by omega)]; exact hcel.2) ?_
                        refine hs_ciM (va_runV (As := [.int (aTs (s_z 0) (s_r 0) (pRd f x7)), .int (aTs (s_z 0) (s_r 0) (pRd f x7 + 1))]) (rest := []) ⟨hx, hb, hml, hown, hts⟩ (gqf_weigh l D k _ mo mo_st mo_at mo_isKept mo_pe mo_hm mo_draft mo_dp mo_dh mo_toldLines mo_highest mo_tape mo_tl mo_ps mo_fr mo_sort mo_value mo_ft mo_wrongAt mo_row mo_orderMany mo_fo mo_lightest mo_heaviest mo_before mo_justSum mo_toldSum mo_allWays mo_lanes mo_sizes mo_cells mo_torn mo_had g c0 c3 c4 fi (aTs (s_z 0) (s_r 0) (pRd f x7)) (aTs (s_z 0) (s_r 0) (pRd f x7 + 1)) ((hK62 0 (by omega)).trans e0) h0 h02 ((hK62 16 (by omega)).trans e3) h3 ((hK62 25 (by omega)).trans e4) h4 hpe hm2 hm5 ((hK62 14 (by omega)).trans ef) hfi (fun i9 h9 => by rw [hK62 (26 + 3 * i9) (by omega)]; exact hsaw i9 h9)) (cwV 2 hts gX8_read_X8_weigh rfl rfl rfl ⟨rfl, hq_X8_weigh⟩ ⟨Nat.le_of_ble_eq_true rfl, Nat.le_of_ble_eq_true rfl⟩) (hs_preV hK hN (hs_subP (w := [_, _]) hP [0, 1] rfl) (hD.sub (ws' := [_, _]) [0, 1] (hs_upnd rfl) rfl) (ci := 7) (q0 := 0) rfl rfl) rfl rfl hl.1 rfl (lv_room (Nat.le_of_ble_eq_true rfl)) dX8_read_199 ⟨Nat.le_of_ble_eq_true rfl, Nat.le_of_ble_eq_true rfl⟩) hP hD hS hA [false, false, true, true, true, true] [_, _, _, _] [_, _] rfl [0, 1] rfl [0, 1] (fun u_16 => [_, _]) (fun _ => rfl) (hs_upnd rfl) [false, false, true, true, true, true] (fun u_16 => [_, _, _, _, _, _]) (fun _ => rfl) (fun r_14 u_16 H locs hw_15 hP hD hS => ?_)
                        have hw_15 : mWg c0 g (aTs (s_z 0) (s_r 0) (pRd f x7)) (aTs (s_z 0) (s_r 0) (pRd f x7 + 1)) r_14 u_16 := hw_15
                        refine lv_if_ge (tgt := 241) hx hb dX8_read_202 rfl (fun c_17 => ?_) (fun c_17 => ?_)
                        · refine lv_iinc (v := nI (wh + 1)) (lv' := [(6, .int (nI (wh + 1))), (8, .int (nI (0 + jj))), (7, .int (nI x7)), (5, .int re2), (0, .ref mo), (1, .int 0), (2, .int v), (3, .int f), (4, .int (nI nn))]) hx hb dX8_read_241 hl (k := 2) rfl (nI_add (wh) 1) (Nat.le_of_ble_eq_true rfl) rfl (fun ls hl => ?_)
                          refine lv_iinc (v := nI (x7 + 1)) (lv' := [(7, .int (nI (x7 + 1))), (6, .int (nI (wh + 1))), (8, .int (nI (0 + jj))), (5, .int re2), (0, .ref mo), (1, .int 0), (2, .int v), (3, .int f), (4, .int (nI nn))]) hx hb dX8_read_244 hl (k := 2) rfl (nI_add (x7) 1) (Nat.le_of_ble_eq_true rfl) rfl (fun ls hl => ?_)
                          refine lv_goto (tgt := 62) hx hb dX8_read_247 rfl ?_
                          exact ih62 (re2, wh + 1, x7 + 1, u_16) (by (try dsimp only); have h8 := (hI62.2.2.1 c_11); have hok := (mWg_ge h0 hw_15 hI62.2.2.2.2.2.2).mp c_17; have hkp := mWg_kp h0 hw_15 hI62.2.2.2.2.2.2; exact ⟨by omega, by omega, fun _ => ⟨by omega, fun j hj => if e9 : j = x7 then (by subst e9; exact ⟨hT9.symm.trans c_13, hok⟩) else h8.2 j (by omega)⟩, fun z9 => absurd c_13 z9, (by rw [mWg_ok hw_15 hok, hI62.2.2.2.2.1, h8.1]; rfl), fun q hq => (hkp.1 q hq).trans (hK62 q hq), hkp.2⟩) (by (try dsimp only); omega) _ _ _ hP hD hS (lv_sub hl [0, 1, 3, 4, 5, 6, 7, 8] rfl)
                        · refine lv_iconst (v := 0) hx hb dX8_read_205 hki_0 ?_
                          refine lv_istore (lv' := [(9, .int 0), (8, .int (nI (0 + jj))), (7, .int (nI x7)), (6, .int (nI wh)), (5, .int re2), (0, .ref mo), (1, .int 0), (2, .int v), (3, .int f), (4, .int (nI nn))]) hx hb dX8_read_206 hl (Nat.le_of_ble_eq_true rfl) rfl (fun ls hl => ?_)
                          refine hs_while (σ := Nat × (Nat → Int32)) (fun x => x.1 ≤ 44 ∧ (∀ q, q < x.1 → x.2 q = sf q) ∧ ∀ q, 44 ≤ q → x.2 q = sf q) (fun x => 44 - x.1) (fun x => [oq7 mo mo_st mo_at mo_isKept (nI mo_pe) (nI mo_hm) mo_draft (nI mo_dp) (nI mo_dh) mo_toldLines mo_highest mo_tape (nI mo_tl) (nI mo_ps) (nI mo_fr) mo_sort mo_value (nI mo_ft) mo_wrongAt mo_row mo_orderMany (nI mo_fo) mo_lightest mo_heaviest mo_before mo_justSum mo_toldSum mo_allWays mo_lanes mo_sizes mo_cells mo_torn mo_had, oqI k mo_st 132 ((x.2)), oqI k mo_lanes 4 (laf), oqI k mo_sizes 4 (sif), oqI k mo_cells 160 (ce), oqI k mo_had 44 (hg)]) (fun x => [(9, .int (nI (x.1))), (8, .int (nI (0 + jj))), (7, .int (nI x7)), (6, .int (nI wh)), (5, .int re2), (0, .ref mo), (1, .int 0), (2, .int v), (3, .int f), (4, .int (nI nn))]) ?_ (0, u_16) ?_ hP hD hS hl
                          · intro x hI ih208 H locs ls hP hD hS hl
                            obtain ⟨x9, g2⟩ := x
                            try dsimp only at hI
                            have hP : va_P D vwCl [_, oqI k mo_st 132 (g2), _, _, _, _] H := hP
                            have hD : va_D A [_, oqI k mo_st 132 (g2), _, _, _, _] := hD
                            have hl : lv_has ls 11 [(9, .int (nI x9)), (8, .int (nI (0 + jj))), (7, .int (nI x7)), (6, .int (nI wh)), (5, .int re2), (0, .ref mo), (1, .int 0), (2, .int v), (3, .int f), (4, .int (nI nn))] := hl
                            refine lv_iload hx hb dX8_read_208 (lv_at hl 0 rfl) ?_
                            refine lv_bipush (v := 44) hx hb dX8_read_210 hkb_44 ?_
                            refine lv_icmp_ge (tgt := 235) hx hb dX8_read_212 rfl (fun c_18 => ?_) (fun c_18 => ?_)
                            · have nc_18 : 44 ≤ x9 := (nI_leI (a := 44) (b := x9) (by omega) (by omega)).mp c_18
                              refine lv_bipush (v := (-20)) hx hb dX8_read_235 hkb_m20 ?_
                              refine lv_iload hx hb dX8_read_237 (lv_at hl 2 rfl) ?_
                              refine lv_isub hx hb dX8_read_239 ?_
                              exact hs_iret hx hb hr hlocks hK hP hD hS (g2, hg, mo_torn) [0, 1, 2, 3, 4, 5] rfl (hs_upnd rfl) dX8_read_240 (Or.inr ⟨0, nn, by decide, rfl, by omega, rfl, hs_and2 (hs_nb c_4), x7, by omega, (hI62.2.2.1 c_11).2, Or.inl ⟨by omega, hT9.symm.trans c_13, Bool.eq_false_iff.mpr (fun z9 => c_17 ((mWg_ge h0 hw_15 hI62.2.2.2.2.2.2).mpr z9)), rfl, (by (try dsimp only); rw [show g2 = sf from funext (fun q => if e9 : q < 44 then hI.2.1 q (by omega) else hI.2.2 q (by omega))])⟩⟩)
                            · have nc_18 : ¬ 44 ≤ x9 := fun hq9 => c_18 ((nI_leI (a := 44) (b := x9) (by omega) (by omega)).mpr hq9)
                              refine lv_aload_n hx hb dX8_read_215 rfl (lv_at hl 5 rfl) ?_
                              refine va_get (D := D) (ci := 7) (v := .ref mo_st) (C := RX8) (T := TX8) (N := 32) hx hb hts hiX8 hown hK hP 0 rfl rfl 0 (Nat.le_of_ble_eq_true rfl) fl7 (fun _ h9 => h9) rfl dX8_read_216 ?_
                              refine lv_iload hx hb dX8_read_219 (lv_at hl 0 rfl) ?_
                              refine lv_aload_n hx hb dX8_read_221 rfl (lv_at hl 5 rfl) ?_
                              refine va_get (D := D) (ci := 7) (v := .ref mo_had) (C := RX8) (T := TX8) (N := 32) hx hb hts hiX8 hown hK hP 0 rfl rfl 31 (Nat.le_of_ble_eq_true rfl) fl41 (fun _ h9 => h9) rfl dX8_read_222 ?_
                              refine lv_iload hx hb dX8_read_225 (lv_at hl 0 rfl) ?_
                              refine va_iald hx hb hK hP 5 0 rfl rfl (vp_in_nI (show x9 < 44 by omega) (by decide)) dX8_read_227 ?_
                              refine va_iast hx hb hK hP hD hS 1 0 rfl rfl (vp_in_nI (show x9 < 132 by omega) (by decide)) dX8_read_228 (fun H locs hP hD hS => ?_)
                              have hP : va_P D vwCl [_, oqI k mo_st 132 (upd g2 ((nI x9).toNatClampNeg) (hg (nI x9).toNatClampNeg)), _, _, _, _] H := hP
                              have hD : va_D A [_, oqI k mo_st 132 (upd g2 ((nI x9).toNatClampNeg) (hg (nI x9).toNatClampNeg)), _, _, _, _] := hD
                              refine lv_iinc (v := nI (x9 + 1)) (lv' := [(9, .int (nI (x9 + 1))), (8, .int (nI (0 + jj))), (7, .int (nI x7)), (6, .int (nI wh)), (5, .int re2), (0, .ref mo), (1, .int 0), (2, .int v), (3, .int f), (4, .int (nI nn))]) hx hb dX8_read_229 hl (k := 0) rfl (nI_add (x9) 1) (Nat.le_of_ble_eq_true rfl) rfl (fun ls hl => ?_)
                              refine lv_goto (tgt := 208) hx hb dX8_read_232 rfl ?_
                              exact ih208 (x9 + 1, upd g2 ((nI x9).toNatClampNeg) (hg (nI x9).toNatClampNeg)) (by (try dsimp only); exact ⟨by omega, fun q hq => if e9 : q = x9 then (by subst e9; rw [hs_ue (by omega) rfl, nI_clamp (by omega)]; exact hI26.2 _ (by omega)) else (by rw [hs_uc (by omega) e9]; exact hI.2.1 q (by omega)), fun q hq => by rw [hs_uc (by omega) (by omega)]; exact hI.2.2 q hq⟩) (by (try dsimp only); omega) _ _ _ hP hD hS (lv_sub hl [0, 1, 2, 3, 4, 5, 6, 7, 8, 9] rfl)
                          · (try dsimp only); exact ⟨by omega, fun q hq => absurd hq (Nat.not_lt_zero q), fun q hq => ((mWg_kp h0 hw_15 hI62.2.2.2.2.2.2).1 q (by omega)).trans (hK62 q (by omega))⟩
                    · have nc_12 : ¬ 2 ≤ cc := fun hq9 => c_12 ((nI_leI (a := 2) (b := cc) (by omega) (by omega)).mpr hq9)
                      refine lv_iload hx hb dX8_read_83 (lv_at hl 3 rfl) ?_
                      refine lv_if_ne (tgt := 164) hx hb dX8_read_85 rfl (fun c_19 => ?_) (fun c_19 => ?_)
                      · have hT9 : re2 = fTw (s_la 0) (s_z 0) v (pRd f x7) := rdI_end hI.2 (by omega) (Or.inr c_19)
                        have hI77 := hI
                        refine lv_iload hx hb dX8_read_164 (lv_at hl 3 rfl) ?_
                        refine lv_if_ne (tgt := 244) hx hb dX8_read_166 rfl (fun c_20 => ?_) (fun c_20 => absurd c_20 c_19)
                        refine lv_iinc (v := nI (x7 + 1)) (lv' := [(7, .int (nI (x7 + 1))), (8, .int (nI cc)), (6, .int (nI wh)), (5, .int re2), (0, .ref mo), (1, .int 0), (2, .int v), (3, .int f), (4, .int (nI nn))]) hx hb dX8_read_244 hl (k := 1) rfl (nI_add (x7) 1) (Nat.le_of_ble_eq_true rfl) rfl (fun ls hl => ?_)
                        refine lv_goto (tgt := 62) hx hb dX8_read_247 rfl ?_
                        exact ih62 (re2, wh, x7 + 1, g) (by (try dsimp only); have h8 := (hI62.2.2.1 c_11); exact ⟨by omega, by omega, fun z9 => absurd z9 c_20, fun _ => ⟨by omega, fun j hj => h8.2 j (by omega), by rw [h8.1]; exact hT9⟩, hI62.2.2.2.2.1, hI62.2.2.2.2.2.1, hI62.2.2.2.2.2.2⟩) (by (try dsimp only); omega) _ _ _ hP hD hS (lv_sub hl [0, 2, 3, 4, 5, 6, 7, 8] rfl)
                      · refine lv_iload_n hx hb dX8_read_88 rfl (lv_at hl 7 rfl) ?_
                        refine lv_i2l hx hb dX8_read_89 rfl ?_
                        refine lv_iconst (v := 2) hx hb dX8_read_90 hki_2 ?_
                        refine lv_iload hx hb dX8_read_91 (lv_at hl 1 rfl) ?_
                        refine lv_imul hx hb dX8_read_93 ?_
                        refine hs_topi (nI (2 * x7)) (pk_mul (2) (x7)) ?_
                        refine lv_i2l hx hb dX8_read_94 rfl ?_
                        refine lv_ladd hx hb dX8_read_95 ?_
                        refine lv_iload hx hb dX8_read_96 (lv_at hl 0 rfl) ?_
                        refine lv_i2l hx hb dX8_read_98 rfl ?_
                        refine lv_ladd hx hb dX8_read_99 ?_
                        refine lv_lstore (lv' := [(9, .long (((((f) : Int32).toInt64) + (((nI (2 * x7)) : Int32).toInt64)) + (((nI cc) : Int32).toInt64))), (8, .int (nI cc)), (7, .int (nI x7)), (6, .int (nI wh)), (5, .int re2), (0, .ref mo), (1, .int 0), (2, .int v), (3, .int f), (4, .int (nI nn))]) hx hb dX8_read_100 hl (Nat.le_of_ble_eq_true rfl) rfl (fun ls hl => ?_)
                        refine lv_aload_n hx hb dX8_read_102 rfl (lv_at hl 5 rfl) ?_
                        refine va_get (D := D) (ci := 7) (v := .ref mo_lanes) (C := RX8) (T := TX8) (N := 32) hx hb hts hiX8 hown hK hP 0 rfl rfl 27 (Nat.le_of_ble_eq_true rfl) fl32 (fun _ h9 => h9) rfl dX8_read_103 ?_
                        refine lv_iload_n hx hb dX8_read_106 rfl (lv_at hl 6 rfl) ?_
                        refine va_iald hx hb hK hP 2 0 rfl rfl (hs_in (by decide)) dX8_read_107 ?_
                        refine hs_topi (laf 0) (by rfl) ?_
                        refine lv_bipush (v := (-4)) hx hb dX8_read_108 hkb_m4 ?_
                        refine lv_icmp_ne (tgt := 117) hx hb dX8_read_110 rfl (fun c_21 => ?_) (fun c_21 => ?_)
                        · have hsk := rSh_yes hsh (k := 0) (by decide) c_21
                          have hzk := hsk.2.2.2.2.1
                          refine lv_aload_n hx hb dX8_read_117 rfl (lv_at hl 5 rfl) ?_
                          refine va_get (D := D) (ci := 7) (v := .ref mo_lanes) (C := RX8) (T := TX8) (N := 32) hx hb hts hiX8 hown hK hP 0 rfl rfl 27 (Nat.le_of_ble_eq_true rfl) fl32 (fun _ h9 => h9) rfl dX8_read_118 ?_
                          refine lv_iload_n hx hb dX8_read_121 rfl (lv_at hl 6 rfl) ?_
                          refine va_iald hx hb hK hP 2 0 rfl rfl (hs_in (by decide)) dX8_read_122 ?_
                          refine hs_topi (laf 0) (by rfl) ?_
                          refine lv_iload_n hx hb dX8_read_123 rfl (lv_at hl 7 rfl) ?_
                          refine lv_icmp_eq (tgt := 131) hx hb dX8_read_124 rfl (fun c_22 => ?_) (fun c_22 => ?_)
                          · refine lv_lload hx hb dX8_read_131 (lv_at hl 0 rfl) ?_
                            refine lv_lconst (v := 0) hx hb dX8_read_133 (by decide) ?_
                            refine W.lcmp hx hb dX8_read_134 ?_
                            refine lv_if_lt (tgt := 151) hx hb dX8_read_135 rfl (fun c_23 => ?_) (fun c_23 => ?_)
                            · refine lv_iconst (v := 2) hx hb dX8_read_151 hki_2 ?_
                              refine lv_goto (tgt := 156) hx hb dX8_read_152 rfl ?_
                              refine lv_istore (lv' := [(5, .int 2), (9, .long (((((f) : Int32).toInt64) + (((nI (2 * x7)) : Int32).toInt64)) + (((nI cc) : Int32).toInt64))), (8, .int (nI cc)), (7, .int (nI x7)), (6, .int (nI wh)), (0, .ref mo), (1, .int 0), (2, .int v), (3, .int f), (4, .int (nI nn))]) hx hb dX8_read_156 hl (Nat.le_of_ble_eq_true rfl) rfl (fun ls hl => ?_)
                              refine lv_iinc (v := nI (cc + 1)) (lv' := [(8, .int (nI (cc + 1))), (5, .int 2), (9, .long (((((f) : Int32).toInt64) + (((nI (2 * x7)) : Int32).toInt64)) + (((nI cc) : Int32).toInt64))), (7, .int (nI x7)), (6, .int (nI wh)), (0, .ref mo), (1, .int 0), (2, .int v), (3, .int f), (4, .int (nI nn))]) hx hb dX8_read_158 hl (k := 2) rfl (nI_add (cc) 1) (Nat.le_of_ble_eq_true rfl) rfl (fun ls hl => ?_)
                              refine lv_goto (tgt := 77) hx hb dX8_read_161 rfl ?_
                              exact ih77 (2, cc + 1) (by (try dsimp only); have hsk := rSh_yes hsh (k := 0) (by decide) c_21; have hle : v = s_la 0 := c_22.symm.trans hsk.1; have hq := rd_out1 (f := f) (i := x7) (c := cc) (z := s_z 0) (by omega) (by omega) hsk.2.2.2.2.1 c_23; exact ⟨by omega, rdI_step hI.2 (by omega) c_19 (fun h8 => by rw [g0R, if_neg hsk.2.1, if_neg (fun z9 => z9 hle), if_neg (hq.1 h8)]) (fun h8 h9 => (fAt_out hsk.2.1 (hq.2 h8 (g0R_0 h9).2.2)).symm)⟩) (by (try dsimp only); omega) _ _ _ hP hD hS (lv_sub hl [0, 3, 4, 1, 5, 6, 7, 8, 9] rfl)
                            · refine lv_lload hx hb dX8_read_138 (lv_at hl 0 rfl) ?_
                              refine lv_aload_n hx hb dX8_read_140 rfl (lv_at hl 5 rfl) ?_
                              refine va_get (D := D) (ci := 7) (v := .ref mo_sizes) (C := RX8) (T := TX8) (N := 32) hx hb hts hiX8 hown hK hP 0 rfl rfl 28 (Nat.le_of_ble_eq_true rfl) fl35 (fun _ h9 => h9) rfl dX8_read_141 ?_
                              refine lv_iload_n hx hb dX8_read_144 rfl (lv_at hl 6 rfl) ?_
                              refine va_iald hx hb hK hP 3 0 rfl rfl (hs_in (by decide)) dX8_read_145 ?_
                              refine hs_topi (nI (s_z 0)) (hsk.2.2.2.1) ?_
                              refine lv_i2l hx hb dX8_read_146 rfl ?_
                              refine W.lcmp hx hb dX8_read_147 ?_
                              refine lv_if_lt (tgt := 155) hx hb dX8_read_148 rfl (fun c_24 => ?_) (fun c_24 => ?_)
                              · refine lv_iconst (v := 0) hx hb dX8_read_155 hki_0 ?_
                                refine lv_istore (lv' := [(5, .int 0), (9, .long (((((f) : Int32).toInt64) + (((nI (2 * x7)) : Int32).toInt64)) + (((nI cc) : Int32).toInt64))), (8, .int (nI cc)), (7, .int (nI x7)), (6, .int (nI wh)), (0, .ref mo), (1, .int 0), (2, .int v), (3, .int f), (4, .int (nI nn))]) hx hb dX8_read_156 hl (Nat.le_of_ble_eq_true rfl) rfl (fun ls hl => ?_)
                                refine lv_iinc (v := nI (cc + 1)) (lv' := [(8, .int (nI (cc + 1))), (5, .int 0), (9, .long (((((f) : Int32).toInt64) + (((nI (2 * x7)) : Int32).toInt64)) + (((nI cc) : Int32).toInt64))), (7, .int (nI x7)), (6, .int (nI wh)), (0, .ref mo), (1, .int 0), (2, .int v), (3, .int f), (4, .int (nI nn))]) hx hb dX8_read_158 hl (k := 2) rfl (nI_add (cc) 1) (Nat.le_of_ble_eq_true rfl) rfl (fun ls hl => ?_)
                                refine lv_goto (tgt := 77) hx hb dX8_read_161 rfl ?_
                                exact ih77 (0, cc + 1) (by (try dsimp only); have hsk := rSh_yes hsh (k := 0) (by decide) c_21; have hle : v = s_la 0 := c_22.symm.trans hsk.1; have hq := rd_in (f := f) (i := x7) (c := cc) (z := s_z 0) (by omega) (by omega) hsk.2.2.2.2.1 c_23 c_24; exact ⟨by omega, rdI_step hI.2 (by omega) c_19 (fun h8 => by rw [g0R, if_neg hsk.2.1, if_neg (fun z9 => z9 hle), if_pos (hq.1 h8)]) (fun h8 h9 => (fAt_in hsk.2.1 (hq.2 h8 (g0R_0 h9).2.2)).symm)⟩) (by (try dsimp only); omega) _ _ _ hP hD hS (lv_sub hl [0, 3, 4, 1, 5, 6, 7, 8, 9] rfl)
                              · refine lv_iconst (v := 2) hx hb dX8_read_151 hki_2 ?_
                                refine lv_goto (tgt := 156) hx hb dX8_read_152 rfl ?_
                                refine lv_istore (lv' := [(5, .int 2), (9, .long (((((f) : Int32).toInt64) + (((nI (2 * x7)) : Int32).toInt64)) + (((nI cc) : Int32).toInt64))), (8, .int (nI cc)), (7, .int (nI x7)), (6, .int (nI wh)), (0, .ref mo), (1, .int 0), (2, .int v), (3, .int f), (4, .int (nI nn))]) hx hb dX8_read_156 hl (Nat.le_of_ble_eq_true rfl) rfl (fun ls hl => ?_)
                                refine lv_iinc (v := nI (cc + 1)) (lv' := [(8, .int (nI (cc + 1))), (5, .int 2), (9, .long (((((f) : Int32).toInt64) + (((nI (2 * x7)) : Int32).toInt64)) + (((nI cc) : Int32).toInt64))), (7, .int (nI x7)), (6, .int (nI wh)), (0, .ref mo), (1, .int 0), (2, .int v), (3, .int f), (4, .int (nI nn))]) hx hb dX8_read_158 hl (k := 2) rfl (nI_add (cc) 1) (Nat.le_of_ble_eq_true rfl) rfl (fun ls hl => ?_)
                                refine lv_goto (tgt := 77) hx hb dX8_read_161 rfl ?_
                                exact ih77 (2, cc + 1) (by (try dsimp only); have hsk := rSh_yes hsh (k := 0) (by decide) c_21; have hle : v = s_la 0 := c_22.symm.trans hsk.1; have hq := rd_out2 (f := f) (i := x7) (c := cc) (z := s_z 0) (by omega) (by omega) hsk.2.2.2.2.1 c_24; exact ⟨by omega, rdI_step hI.2 (by omega) c_19 (fun h8 => by rw [g0R, if_neg hsk.2.1, if_neg (fun z9 => z9 hle), if_neg (hq.1 h8)]) (fun h8 h9 => (fAt_out hsk.2.1 (hq.2 h8 (g0R_0 h9).2.2)).symm)⟩) (by (try dsimp only); omega) _ _ _ hP hD hS (lv_sub hl [0, 3, 4, 1, 5, 6, 7, 8, 9] rfl)
                          · refine lv_iconst (v := 3) hx hb dX8_read_127 hki_3 ?_
                            refine lv_goto (tgt := 156) hx hb dX8_read_128 rfl ?_
                            refine lv_istore (lv' := [(5, .int 3), (9, .long (((((f) : Int32).toInt64) + (((nI (2 * x7)) : Int32).toInt64)) + (((nI cc) : Int32).toInt64))), (8, .int (nI cc)), (7, .int (nI x7)), (6, .int (nI wh)), (0, .ref mo), (1, .int 0), (2, .int v), (3, .int f), (4, .int (nI nn))]) hx hb dX8_read_156 hl (Nat.le_of_ble_eq_true rfl) rfl (fun ls hl => ?_)
                            refine lv_iinc (v := nI (cc + 1)) (lv' := [(8, .int (nI (cc + 1))), (5, .int 3), (9, .long (((((f) : Int32).toInt64) + (((nI (2 * x7)) : Int32).toInt64)) + (((nI cc) : Int32).toInt64))), (7, .int (nI x7)), (6, .int (nI wh)), (0, .ref mo), (1, .int 0), (2, .int v), (3, .int f), (4, .int (nI nn))]) hx hb dX8_read_158 hl (k := 2) rfl (nI_add (cc) 1) (Nat.le_of_ble_eq_true rfl) rfl (fun ls hl => ?_)
                            refine lv_goto (tgt := 77) hx hb dX8_read_161 rfl ?_
                            exact ih77 (3, cc + 1) (by (try dsimp only); have hsk := rSh_yes hsh (k := 0) (by decide) c_21; exact ⟨by omega, rdI_step hI.2 (by omega) c_19 (fun _ => by rw [g0R, if_neg hsk.2.1, if_pos (fun z9 => c_22 (hsk.1.trans z9.symm))]) (fun _ h9 => absurd (hsk.1.trans (g0R_0 h9).2.1.symm) c_22)⟩) (by (try dsimp only); omega) _ _ _ hP hD hS (lv_sub hl [0, 3, 4, 1, 5, 6, 7, 8, 9] rfl)
                        · refine lv_iconst (v := 1) hx hb dX8_read_113 hki_1 ?_
                          refine lv_goto (tgt := 156) hx hb dX8_read_114 rfl ?_
                          refine lv_istore (lv' := [(5, .int 1), (9, .long (((((f) : Int32).toInt64) + (((nI (2 * x7)) : Int32).toInt64)) + (((nI cc) : Int32).toInt64))), (8, .int (nI cc)), (7, .int (nI x7)), (6, .int (nI wh)), (0, .ref mo), (1, .int 0), (2, .int v), (3, .int f), (4, .int (nI nn))]) hx hb dX8_read_156 hl (Nat.le_of_ble_eq_true rfl) rfl (fun ls hl => ?_)
                          refine lv_iinc (v := nI (cc + 1)) (lv' := [(8, .int (nI (cc + 1))), (5, .int 1), (9, .long (((((f) : Int32).toInt64) + (((nI (2 * x7)) : Int32).toInt64)) + (((nI cc) : Int32).toInt64))), (7, .int (nI x7)), (6, .int (nI wh)), (0, .ref mo), (1, .int 0), (2, .int v), (3, .int f), (4, .int (nI nn))]) hx hb dX8_read_158 hl (k := 2) rfl (nI_add (cc) 1) (Nat.le_of_ble_eq_true rfl) rfl (fun ls hl => ?_)
                          refine lv_goto (tgt := 77) hx hb dX8_read_161 rfl ?_
                          exact ih77 (1, cc + 1) (by (try dsimp only); exact ⟨by omega, rdI_step hI.2 (by omega) c_19 (fun _ => by rw [g0R, if_pos (rSh_nul hsh (k := 0) (by decide) c_21)]) (fun _ h9 => absurd (rSh_nul hsh (k := 0) (by decide) c_21) (g0R_0 h9).1)⟩) (by (try dsimp only); omega) _ _ _ hP hD hS (lv_sub hl [0, 3, 4, 1, 5, 6, 7, 8, 9] rfl)
                  · (try dsimp only); exact ⟨by omega, fun _ => c_11, fun h => absurd h (by decide), fun h => absurd h (by decide)⟩
            · (try dsimp only); exact ⟨Nat.zero_le _, Nat.le_refl _, fun _ => ⟨rfl, fun j hj => absurd hj (Nat.not_lt_zero j)⟩, fun z9 => absurd rfl z9, rfl, fun _ _ => rfl, hwb⟩
          · have nc_9 : ¬ 44 ≤ x0 := fun hq9 => c_9 ((nI_leI (a := 44) (b := x0) (by omega) (by omega)).mpr hq9)
            refine lv_aload_n hx hb dX8_read_33 rfl (lv_at hl 1 rfl) ?_
            refine va_get (D := D) (ci := 7) (v := .ref mo_had) (C := RX8) (T := TX8) (N := 32) hx hb hts hiX8 hown hK hP 0 rfl rfl 31 (Nat.le_of_ble_eq_true rfl) fl41 (fun _ h9 => h9) rfl dX8_read_34 ?_
            refine lv_iload hx hb dX8_read_37 (lv_at hl 0 rfl) ?_
            refine lv_aload_n hx hb dX8_read_39 rfl (lv_at hl 1 rfl) ?_
            refine va_get (D := D) (ci := 7) (v := .ref mo_st) (C := RX8) (T := TX8) (N := 32) hx hb hts hiX8 hown hK hP 0 rfl rfl 0 (Nat.le_of_ble_eq_true rfl) fl7 (fun _ h9 => h9) rfl dX8_read_40 ?_
            refine lv_iload hx hb dX8_read_43 (lv_at hl 0 rfl) ?_
            refine va_iald hx hb hK hP 1 0 rfl rfl (vp_in_nI (show x0 < 132 by omega) (by decide)) dX8_read_45 ?_
            refine va_iast hx hb hK hP hD hS 5 0 rfl rfl (vp_in_nI (show x0 < 44 by omega) (by decide)) dX8_read_46 (fun H locs hP hD hS => ?_)
            have hP : va_P D vwCl [_, oqI k mo_st 132 (sf), _, _, _, oqI k mo_had 44 (upd hg ((nI x0).toNatClampNeg) (sf (nI x0).toNatClampNeg))] H := hP
            have hD : va_D A [_, oqI k mo_st 132 (sf), _, _, _, oqI k mo_had 44 (upd hg ((nI x0).toNatClampNeg) (sf (nI x0).toNatClampNeg))] := hD
            refine lv_iinc (v := nI (x0 + 1)) (lv' := [(5, .int (nI (x0 + 1))), (0, .ref mo), (1, .int 0), (2, .int v), (3, .int f), (4, .int (nI nn))]) hx hb dX8_read_47 hl (k := 0) rfl (nI_add (x0) 1) (Nat.le_of_ble_eq_true rfl) rfl (fun ls hl => ?_)
            refine lv_goto (tgt := 26) hx hb dX8_read_50 rfl ?_
            exact ih26 (x0 + 1, upd hg ((nI x0).toNatClampNeg) (sf (nI x0).toNatClampNeg)) (by (try dsimp only); exact ⟨by omega, hs_filled (by omega) hI.2⟩) (by (try dsimp only); omega) _ _ _ hP hD hS (lv_sub hl [0, 1, 2, 3, 4, 5] rfl)
        · (try dsimp only); exact ⟨by omega, fun j hj => absurd hj (by omega)⟩
      · refine lv_iconst (v := (-1)) hx hb dX8_read_21 hki_m1 ?_
        exact hs_iret hx hb hr hlocks hK hP hD hS (sf, ha, mo_torn) [0, 1, 2, 3, 4, 5] rfl (hs_upnd rfl) dX8_read_22 (Or.inl ⟨hs_rbad (Or.inr (Or.inr (hs_n0 c_8))), rfl, rfl⟩)
    · refine lv_iload hx hb dX8_read_8 (lv_at hl 4 rfl) ?_
      refine lv_i2l hx hb dX8_read_10 rfl ?_
      refine lv_lconst (v := 0) hx hb dX8_read_11 (by decide) ?_
      refine lv_ldc2 hx hb hown kl284 dX8_read_12 ?_
      refine hs_pi (va_runS (As := [.long (((n) : Int32).toInt64), .long 0, .long 20]) (rest := []) ⟨hx, hb, hml, hown, hts⟩ (gm_in l D k _ n 0 20) (va_cwS 3 hts gX8_read_X8_in rfl rfl rfl hq_X8_in ⟨Nat.le_of_ble_eq_true rfl, Nat.le_of_ble_eq_true rfl⟩) (hs_preS hK hN (hs_subP (w := []) hP [] rfl) (hD.sub (ws' := []) [] rfl rfl)) rfl rfl hl.1 rfl (lv_room (Nat.le_of_ble_eq_true rfl)) dX8_read_15 ⟨Nat.le_of_ble_eq_true rfl, Nat.le_of_ble_eq_true rfl⟩) hP hD hS hA (fun r_25 u_27 H locs hw_26 hP hS => ?_)
      refine hs_topi (hsb (hsin n 0 20)) hw_26 ?_
      refine lv_if_ne (tgt := 23) hx hb dX8_read_18 rfl (fun c_28 => ?_) (fun c_28 => ?_)
      · obtain ⟨nn, hnn, hnnb, rfl⟩ := hs_rng (lo := 0) (hi := 20) (by omega) (by omega) (hs_nb c_28)
        refine lv_iconst (v := 0) hx hb dX8_read_23 hki_0 ?_
        refine lv_istore (lv' := [(5, .int 0), (0, .ref mo), (1, .int 1), (2, .int v), (3, .int f), (4, .int (nI nn))]) hx hb dX8_read_24 hl (Nat.le_of_ble_eq_true rfl) rfl (fun ls hl => ?_)
        refine hs_while (σ := Nat × (Nat → Int32)) (fun x => x.1 ≤ 44 ∧ ∀ j, j < x.1 → x.2 j = sf j) (fun x => 44 - x.1) (fun x => [oq7 mo mo_st mo_at mo_isKept (nI mo_pe) (nI mo_hm) mo_draft (nI mo_dp) (nI mo_dh) mo_toldLines mo_highest mo_tape (nI mo_tl) (nI mo_ps) (nI mo_fr) mo_sort mo_value (nI mo_ft) mo_wrongAt mo_row mo_orderMany (nI mo_fo) mo_lightest mo_heaviest mo_before mo_justSum mo_toldSum mo_allWays mo_lanes mo_sizes mo_cells mo_torn mo_had, oqI k mo_st 132 (sf), oqI k mo_lanes 4 (laf), oqI k mo_sizes 4 (sif), oqI k mo_cells 160 (ce), oqI k mo_had 44 ((x.2))]) (fun x => [(5, .int (nI (x.1))), (0, .ref mo), (1, .int 1), (2, .int v), (3, .int f), (4, .int (nI nn))]) ?_ (0, ha) ?_ hP hD hS hl
        · intro x hI ih26 H locs ls hP hD hS hl
          obtain ⟨x0, hg⟩ := x
          try dsimp only at hI
          have hP : va_P D vwCl [_, _, _, _, _, oqI k mo_had 44 (hg)] H := hP
          have hD : va_D A [_, _, _, _, _, oqI k mo_had 44 (hg)] := hD
          have hl : lv_has ls 11 [(5, .int (nI x0)), (0, .ref mo), (1, .int 1), (2, .int v), (3, .int f), (4, .int (nI nn))] := hl
          refine lv_iload hx hb dX8_read_26 (lv_at hl 0 rfl) ?_
          refine lv_bipush (v := 44) hx hb dX8_read_28 hkb_44 ?_
          refine lv_icmp_ge (tgt := 53) hx hb dX8_read_30 rfl (fun c_29 => ?_) (fun c_29 => ?_)
          · have nc_29 : 44 ≤ x0 := (nI_leI (a := 44) (b := x0) (by omega) (by omega)).mp c_29
            have hI26 := hI
            refine lv_iconst (v := 0) hx hb dX8_read_53 hki_0 ?_
            refine lv_istore (lv' := [(5, .int 0), (0, .ref mo), (1, .int 1), (2, .int v), (3, .int f), (4, .int (nI nn))]) hx hb dX8_read_54 hl (Nat.le_of_ble_eq_true rfl) rfl (fun ls hl => ?_)
            refine lv_iconst (v := 0) hx hb dX8_read_56 hki_0 ?_
            refine lv_istore (lv' := [(6, .int 0), (5, .int 0), (0, .ref mo), (1, .int 1), (2, .int v), (3, .int f), (4, .int (nI nn))]) hx hb dX8_read_57 hl (Nat.le_of_ble_eq_true rfl) rfl (fun ls hl => ?_)
            refine lv_iconst (v := 0) hx hb dX8_read_59 hki_0 ?_
            refine lv_istore (lv' := [(7, .int 0), (6, .int 0), (5, .int 0), (0, .ref mo), (1, .int 1), (2, .int v), (3, .int f), (4, .int (nI nn))]) hx hb dX8_read_60 hl (Nat.le_of_ble_eq_true rfl) rfl (fun ls hl => ?_)
            refine hs_while (σ := Int32 × Nat × Nat × (Nat → Int32)) (fun x => x.2.2.1 ≤ nn ∧ x.2.1 ≤ x.2.2.1 ∧ (x.1 = 0 → (x.2.1 = x.2.2.1 ∧ ∀ j, j < x.2.2.1 → okR c0 (s_la 1) (s_z 1) (s_r 1) v f j)) ∧ (¬ x.1 = 0 → (x.2.1 + 1 = x.2.2.1 ∧ (∀ j, j < x.2.1 → okR c0 (s_la 1) (s_z 1) (s_r 1) v f j) ∧ x.1 = fTw (s_la 1) (s_z 1) v (pRd f x.2.1))) ∧ x.2.2.2 = wtM (s_z 1) (s_r 1) f sf x.2.1 ∧ (∀ q, ¬ (1 ≤ q ∧ q ≤ 8) → x.2.2.2 q = sf q) ∧ ∀ j, j < c0 → vp_in (x.2.2.2 (1 + j)) 10) (fun x => nn - x.2.2.1) (fun x => [oq7 mo mo_st mo_at mo_isKept (nI mo_pe) (nI mo_hm) mo_draft (nI mo_dp) (nI mo_dh) mo_toldLines mo_highest mo_tape (nI mo_tl) (nI mo_ps) (nI mo_fr) mo_sort mo_value (nI mo_ft) mo_wrongAt mo_row mo_orderMany (nI mo_fo) mo_lightest mo_heaviest mo_before mo_justSum mo_toldSum mo_allWays mo_lanes mo_sizes mo_cells mo_torn mo_had, oqI k mo_st 132 ((x.2.2.2)), oqI k mo_lanes 4 (laf), oqI k mo_sizes 4 (sif), oqI k mo_cells 160 (ce), oqI k mo_had 44 (hg)]) (fun x => [(7, .int (nI (x.2.2.1))), (6, .int (nI (x.2.1))), (5, .int (x.1)), (0, .ref mo), (1, .int 1), (2, .int v), (3, .int f), (4, .int (nI nn))]) ?_ (0, 0, 0, sf) ?_ hP hD hS hl
            · intro x hI ih62 H locs ls hP hD hS hl
              obtain ⟨re, wh, x7, g⟩ := x
              try dsimp only at hI
              have hP : va_P D vwCl [_, oqI k mo_st 132 (g), _, _, _, _] H := hP
              have hD : va_D A [_, oqI k mo_st 132 (g), _, _, _, _] := hD
              have hl : lv_has ls 11 [(7, .int (nI x7)), (6, .int (nI wh)), (5, .int re), (0, .ref mo), (1, .int 1), (2, .int v), (3, .int f), (4, .int (nI nn))] := hl
              refine lv_iload hx hb dX8_read_62 (lv_at hl 0 rfl) ?_
              refine lv_iload hx hb dX8_read_64 (lv_at hl 7 rfl) ?_
              refine lv_icmp_ge (tgt := 250) hx hb dX8_read_66 rfl (fun c_30 => ?_) (fun c_30 => ?_)
              · have nc_30 : nn ≤ x7 := (nI_leI (a := nn) (b := x7) (by omega) (by omega)).mp c_30
                refine lv_aload_n hx hb dX8_read_250 rfl (lv_at hl 3 rfl) ?_
                refine lv_iload hx hb dX8_read_251 (lv_at hl 2 rfl) ?_
                refine va_put (D := D) (ci := 7) (v := .int re) (ty := .int) (C := RX8) (T := TX8) (N := 32) hx hb hts hiX8 tyX8 tyX8_ok nmX8 hown hK hP hD hS 0 rfl rfl 30 (Nat.le_of_ble_eq_true rfl) fl289 (fun _ h9 => h9) rfl (by decide +kernel) rfl rfl (Nat.le_of_ble_eq_true rfl) dX8_read_253 (fun H locs hP hD hS => ?_)
                have hP : va_P D vwCl [oq7 mo mo_st mo_at mo_isKept (nI mo_pe) (nI mo_hm) mo_draft (nI mo_dp) (nI mo_dh) mo_toldLines mo_highest mo_tape (nI mo_tl) (nI mo_ps) (nI mo_fr) mo_sort mo_value (nI mo_ft) mo_wrongAt mo_row mo_orderMany (nI mo_fo) mo_lightest mo_heaviest mo_before mo_justSum mo_toldSum mo_allWays mo_lanes mo_sizes mo_cells re mo_had, _, _, _, _, _] H := hP
                have hD : va_D A [oq7 mo mo_st mo_at mo_isKept (nI mo_pe) (nI mo_hm) mo_draft (nI mo_dp) (nI mo_dh) mo_toldLines mo_highest mo_tape (nI mo_tl) (nI mo_ps) (nI mo_fr) mo_sort mo_value (nI mo_ft) mo_wrongAt mo_row mo_orderMany (nI mo_fo) mo_lightest mo_heaviest mo_before mo_justSum mo_toldSum mo_allWays mo_lanes mo_sizes mo_cells re mo_had, _, _, _, _, _] := hD
                refine lv_iload hx hb dX8_read_256 (lv_at hl 1 rfl) ?_
                exact hs_iret hx hb hr hlocks hK hP hD hS (g, hg, re) [0, 1, 2, 3, 4, 5] rfl (hs_upnd rfl) dX8_read_258 (Or.inr ⟨1, nn, by decide, rfl, by omega, rfl, hs_and2 (hs_nb c_4), (if e9 : re = 0 then (by have h9 := hI.2.2.1 e9; have h2 : wh = nn := (by first | omega | exact absurd e9 (by assumption)); exact ⟨wh, by omega, fun j hj => h9.2 j (by omega), Or.inr (Or.inl ⟨h2, rfl, by (try dsimp only); rw [hI.2.2.2.2.1, e9]⟩)⟩) else (by have h9 := hI.2.2.2.1 e9; exact ⟨wh, by omega, h9.2.1, Or.inr (Or.inr ⟨by omega, by rw [← h9.2.2]; exact e9, rfl, by (try dsimp only); rw [hI.2.2.2.2.1, ← h9.2.2]⟩)⟩))⟩)
              · have nc_30 : ¬ nn ≤ x7 := fun hq9 => c_30 ((nI_leI (a := nn) (b := x7) (by omega) (by omega)).mpr hq9)
                refine lv_iload hx hb dX8_read_69 (lv_at hl 2 rfl) ?_
                refine lv_if_ne (tgt := 250) hx hb dX8_read_71 rfl (fun c_31 => ?_) (fun c_31 => ?_)
                · refine lv_aload_n hx hb dX8_read_250 rfl (lv_at hl 3 rfl) ?_
                  refine lv_iload hx hb dX8_read_251 (lv_at hl 2 rfl) ?_
                  refine va_put (D := D) (ci := 7) (v := .int re) (ty := .int) (C := RX8) (T := TX8) (N := 32) hx hb hts hiX8 tyX8 tyX8_ok nmX8 hown hK hP hD hS 0 rfl rfl 30 (Nat.le_of_ble_eq_true rfl) fl289 (fun _ h9 => h9) rfl (by decide +kernel) rfl rfl (Nat.le_of_ble_eq_true rfl) dX8_read_253 (fun H locs hP hD hS => ?_)
                  have hP : va_P D vwCl [_, _, _, _, _, _] H := hP
                  have hD : va_D A [_, _, _, _, _, _] := hD
                  refine lv_iload hx hb dX8_read_256 (lv_at hl 1 rfl) ?_
                  exact hs_iret hx hb hr hlocks hK hP hD hS (g, hg, re) [0, 1, 2, 3, 4, 5] rfl (hs_upnd rfl) dX8_read_258 (Or.inr ⟨1, nn, by decide, rfl, by omega, rfl, hs_and2 (hs_nb c_4), (if e9 : re = 0 then (by have h9 := hI.2.2.1 e9; have h2 : wh = nn := (by first | omega | exact absurd e9 (by assumption)); exact ⟨wh, by omega, fun j hj => h9.2 j (by omega), Or.inr (Or.inl ⟨h2, rfl, by (try dsimp only); rw [hI.2.2.2.2.1, e9]⟩)⟩) else (by have h9 := hI.2.2.2.1 e9; exact ⟨wh, by omega, h9.2.1, Or.inr (Or.inr ⟨by omega, by rw [← h9.2.2]; exact e9, rfl, by (try dsimp only); rw [hI.2.2.2.2.1, ← h9.2.2]⟩)⟩))⟩)
                · have hI62 := hI
                  refine lv_iconst (v := 0) hx hb dX8_read_74 hki_0 ?_
                  refine lv_istore (lv' := [(8, .int 0), (7, .int (nI x7)), (6, .int (nI wh)), (5, .int re), (0, .ref mo), (1, .int 1), (2, .int v), (3, .int f), (4, .int (nI nn))]) hx hb dX8_read_75 hl (Nat.le_of_ble_eq_true rfl) rfl (fun ls hl => ?_)
                  refine hs_while (σ := Int32 × Nat) (fun x => x.2 ≤ 2 ∧ rdI (s_la 1) (s_z 1) v (pRd f x7) x.2 x.1) (fun x => 2 - x.2) (fun x => [oq7 mo mo_st mo_at mo_isKept (nI mo_pe) (nI mo_hm) mo_draft (nI mo_dp) (nI mo_dh) mo_toldLines mo_highest mo_tape (nI mo_tl) (nI mo_ps) (nI mo_fr) mo_sort mo_value (nI mo_ft) mo_wrongAt mo_row mo_orderMany (nI mo_fo) mo_lightest mo_heaviest mo_before mo_justSum mo_toldSum mo_allWays mo_lanes mo_sizes mo_cells mo_torn mo_had, oqI k mo_st 132 (g), oqI k mo_lanes 4 (laf), oqI k mo_sizes 4 (sif), oqI k mo_cells 160 (ce), oqI k mo_had 44 (hg)]) (fun x => [(8, .int (nI (x.2))), (7, .int (nI x7)), (6, .int (nI wh)), (5, .int (x.1)), (0, .ref mo), (1, .int 1), (2, .int v), (3, .int f), (4, .int (nI nn))]) ?_ (re, 0) ?_ hP hD hS hl
                  · intro x hI ih77 H locs ls hP hD hS hl
                    obtain ⟨re2, cc⟩ := x
                    try dsimp only at hI
                    have hP : va_P D vwCl [oq7 mo mo_st mo_at mo_isKept (nI mo_pe) (nI mo_hm) mo_draft (nI mo_dp) (nI mo_dh) mo_toldLines mo_highest mo_tape (nI mo_tl) (nI mo_ps) (nI mo_fr) mo_sort mo_value (nI mo_ft) mo_wrongAt mo_row mo_orderMany (nI mo_fo) mo_lightest mo_heaviest mo_before mo_justSum mo_toldSum mo_allWays mo_lanes mo_sizes mo_cells mo_torn mo_had, _, _, _, _, _] H := hP
                    have hD : va_D A [oq7 mo mo_st mo_at mo_isKept (nI mo_pe) (nI mo_hm) mo_draft (nI mo_dp) (nI mo_dh) mo_toldLines mo_highest mo_tape (nI mo_tl) (nI mo_ps) (nI mo_fr) mo_sort mo_value (nI mo_ft) mo_wrongAt mo_row mo_orderMany (nI mo_fo) mo_lightest mo_heaviest mo_before mo_justSum mo_toldSum mo_allWays mo_lanes mo_sizes mo_cells mo_torn mo_had, _, _, _, _, _] := hD
                    have hl : lv_has ls 11 [(8, .int (nI cc)), (7, .int (nI x7)), (6, .int (nI wh)), (5, .int re2), (0, .ref mo), (1, .int 1), (2, .int v), (3, .int f), (4, .int (nI nn))] := hl
                    refine lv_iload hx hb dX8_read_77 (lv_at hl 0 rfl) ?_
                    refine lv_iconst (v := 2) hx hb dX8_read_79 hki_2 ?_
                    refine lv_icmp_ge (tgt := 164) hx hb dX8_read_80 rfl (fun c_32 => ?_) (fun c_32 => ?_)
                    · have nc_32 : 2 ≤ cc := (nI_leI (a := 2) (b := cc) (by omega) (by omega)).mp c_32
                      have hT9 : re2 = fTw (s_la 1) (s_z 1) v (pRd f x7) := rdI_end hI.2 (by omega) (Or.inl (by omega))
                      have hI77 := hI
                      refine lv_iload hx hb dX8_read_164 (lv_at hl 3 rfl) ?_
                      refine lv_if_ne (tgt := 244) hx hb dX8_read_166 rfl (fun c_33 => ?_) (fun c_33 => ?_)
                      · refine lv_iinc (v := nI (x7 + 1)) (lv' := [(7, .int (nI (x7 + 1))), (8, .int (nI cc)), (6, .int (nI wh)), (5, .int re2), (0, .ref mo), (1, .int 1), (2, .int v), (3, .int f), (4, .int (nI nn))]) hx hb dX8_read_244 hl (k := 1) rfl (nI_add (x7) 1) (Nat.le_of_ble_eq_true rfl) rfl (fun ls hl => ?_)
                        refine lv_goto (tgt := 62) hx hb dX8_read_247 rfl ?_
                        exact ih62 (re2, wh, x7 + 1, g) (by (try dsimp only); have h8 := (hI62.2.2.1 c_31); exact ⟨by omega, by omega, fun z9 => absurd z9 c_33, fun _ => ⟨by omega, fun j hj => h8.2 j (by omega), by rw [h8.1]; exact hT9⟩, hI62.2.2.2.2.1, hI62.2.2.2.2.2.1, hI62.2.2.2.2.2.2⟩) (by (try dsimp only); omega) _ _ _ hP hD hS (lv_sub hl [0, 2, 3, 4, 5, 6, 7, 8] rfl)
                      · have hf9 := fTw_0 (hT9.symm.trans c_33)
                        have hsk := rSh_la hsh (k := 1) (by decide) hf9.1
                        have hzk := hsk.2.2.2.2.1
                        have hL9 := (hs_lsum (by omega) hzk).mp hf9.2.2.1
                        obtain ⟨jj, hjj, ejj⟩ := hs_rdix (f := f) (i := x7) (c := 40) (by omega) (by decide) (by omega) (by omega)
                        have hcel := hs_rdcell (ce := ce) (w := s_r 1) (k := 1) (z := s_z 1) (i := x7) (jj := jj) (f := f) (by omega) hzk hsk.2.2.2.2.2 hf9.2.2.1 hf9.2.2.2 hjj
                        have hM9 := (hs_lsum1 (by omega) hzk hf9.2.2.1).mp hf9.2.2.2
                        have hK62 := hI62.2.2.2.2.2.1
                        refine lv_bipush (v := 40) hx hb dX8_read_169 hkb_40 ?_
                        refine lv_iload_n hx hb dX8_read_171 rfl (lv_at hl 5 rfl) ?_
                        refine lv_imul hx hb dX8_read_172 ?_
                        refine hs_topi 40 (by first | rfl | decide +kernel) ?_
                        refine lv_iload_n hx hb dX8_read_173 rfl (lv_at hl 7 rfl) ?_
                        refine lv_iadd hx hb dX8_read_174 ?_
                        refine lv_iconst (v := 2) hx hb dX8_read_175 hki_2 ?_
                        refine lv_iload hx hb dX8_read_176 (lv_at hl 1 rfl) ?_
                        refine lv_imul hx hb dX8_read_178 ?_
                        refine hs_topi (nI (2 * x7)) (pk_mul (2) (x7)) ?_
                        refine lv_iadd hx hb dX8_read_179 ?_
                        refine hs_topi (nI (40 + jj)) ejj ?_
                        refine lv_istore (lv' := [(8, .int (nI (40 + jj))), (7, .int (nI x7)), (6, .int (nI wh)), (5, .int re2), (0, .ref mo), (1, .int 1), (2, .int v), (3, .int f), (4, .int (nI nn))]) hx hb dX8_read_180 hl (Nat.le_of_ble_eq_true rfl) rfl (fun ls hl => ?_)
                        refine lv_aload_n hx hb dX8_read_182 rfl (lv_at hl 4 rfl) ?_
                        refine lv_aload_n hx hb dX8_read_183 rfl (lv_at hl 4 rfl) ?_
                        refine va_get (D := D) (ci := 7) (v := .ref mo_cells) (C := RX8) (T := TX8) (N := 32) hx hb hts hiX8 hown hK hP 0 rfl rfl 29 (Nat.le_of_ble_eq_true rfl) fl38 (fun _ h9 => h9) rfl dX8_read_184 ?_
                        refine lv_iload hx hb dX8_read_187 (lv_at hl 0 rfl) ?_
                        refine va_iald hx hb hK hP 4 0 rfl rfl (vp_in_nI (show (40 + jj) < 160 by omega) (by decide)) dX8_read_189 ?_
                        refine hs_topi (aTs (s_z 1) (s_r 1) (pRd f x7)) (by rw [nI_clamp (by omega)]; exact hcel.1) ?_
                        refine lv_aload_n hx hb dX8_read_190 rfl (lv_at hl 4 rfl) ?_
                        refine va_get (D := D) (ci := 7) (v := .ref mo_cells) (C := RX8) (T := TX8) (N := 32) hx hb hts hiX8 hown hK hP 0 rfl rfl 29 (Nat.le_of_ble_eq_true rfl) fl38 (fun _ h9 => h9) rfl dX8_read_191 ?_
                        refine lv_iload hx hb dX8_read_194 (lv_at hl 0 rfl) ?_
                        refine lv_iconst (v := 1) hx hb dX8_read_196 hki_1 ?_
                        refine lv_iadd hx hb dX8_read_197 ?_
                        refine hs_topi (nI ((40 + jj) + 1)) (nI_add ((40 + jj)) (1)) ?_
                        refine va_iald hx hb hK hP 4 0 rfl rfl (vp_in_nI (show ((40 + jj) + 1) < 160 by omega) (by decide)) dX8_read_198 ?_
                        refine hs_topi (aTs (s_z 1) (s_r 1) (pRd f x7 + 1)) (by rw [nI_clamp (by omega)]; exact hcel.2) ?_
                        refine hs_ciM (va_runV (As := [.int (aTs (s_z 1) (s_r 1) (pRd f x7)), .int (aTs (s_z 1) (s_r 1) (pRd f x7 + 1))]) (rest := []) ⟨hx, hb, hml, hown, hts⟩ (gqf_weigh l D k _ mo mo_st mo_at mo_isKept mo_pe mo_hm mo_draft mo_dp mo_dh mo_toldLines mo_highest mo_tape mo_tl mo_ps mo_fr mo_sort mo_value mo_ft mo_wrongAt mo_row mo_orderMany mo_fo mo_lightest mo_heaviest mo_before mo_justSum mo_toldSum mo_allWays mo_lanes mo_sizes mo_cells mo_torn mo_had g c0 c3 c4 fi (aTs (s_z 1) (s_r 1) (pRd f x7)) (aTs (s_z 1) (s_r 1) (pRd f x7 + 1)) ((hK62 0 (by omega)).trans e0) h0 h02 ((hK62 16 (by omega)).trans e3) h3 ((hK62 25 (by omega)).trans e4) h4 hpe hm2 hm5 ((hK62 14 (by omega)).trans ef) hfi (fun i9 h9 => by rw [hK62 (26 + 3 * i9) (by omega)]; exact hsaw i9 h9)) (cwV 2 hts gX8_read_X8_weigh rfl rfl rfl ⟨rfl, hq_X8_weigh⟩ ⟨Nat.le_of_ble_eq_true rfl, Nat.le_of_ble_eq_true rfl⟩) (hs_preV hK hN (hs_subP (w := [_, _]) hP [0, 1] rfl) (hD.sub (ws' := [_, _]) [0, 1] (hs_upnd rfl) rfl) (ci := 7) (q0 := 0) rfl rfl) rfl rfl hl.1 rfl (lv_room (Nat.le_of_ble_eq_true rfl)) dX8_read_199 ⟨Nat.le_of_ble_eq_true rfl, Nat.le_of_ble_eq_true rfl⟩) hP hD hS hA [false, false, true, true, true, true] [_, _, _, _] [_, _] rfl [0, 1] rfl [0, 1] (fun u_36 => [_, _]) (fun _ => rfl) (hs_upnd rfl) [false, false, true, true, true, true] (fun u_36 => [_, _, _, _, _, _]) (fun _ => rfl) (fun r_34 u_36 H locs hw_35 hP hD hS => ?_)
                        have hw_35 : mWg c0 g (aTs (s_z 1) (s_r 1) (pRd f x7)) (aTs (s_z 1) (s_r 1) (pRd f x7 + 1)) r_34 u_36 := hw_35
                        refine lv_if_ge (tgt := 241) hx hb dX8_read_202 rfl (fun c_37 => ?_) (fun c_37 => ?_)
                        · refine lv_iinc (v := nI (wh + 1)) (lv' := [(6, .int (nI (wh + 1))), (8, .int (nI (40 + jj))), (7, .int (nI x7)), (5, .int re2), (0, .ref mo), (1, .int 1), (2, .int v), (3, .int f), (4, .int (nI nn))]) hx hb dX8_read_241 hl (k := 2) rfl (nI_add (wh) 1) (Nat.le_of_ble_eq_true rfl) rfl (fun ls hl => ?_)
                          refine lv_iinc (v := nI (x7 + 1)) (lv' := [(7, .int (nI (x7 + 1))), (6, .int (nI (wh + 1))), (8, .int (nI (40 + jj))), (5, .int re2), (0, .ref mo), (1, .int 1), (2, .int v), (3, .int f), (4, .int (nI nn))]) hx hb dX8_read_244 hl (k := 2) rfl (nI_add (x7) 1) (Nat.le_of_ble_eq_true rfl) rfl (fun ls hl => ?_)
                          refine lv_goto (tgt := 62) hx hb dX8_read_247 rfl ?_
                          exact ih62 (re2, wh + 1, x7 + 1, u_36) (by (try dsimp only); have h8 := (hI62.2.2.1 c_31); have hok := (mWg_ge h0 hw_35 hI62.2.2.2.2.2.2).mp c_37; have hkp := mWg_kp h0 hw_35 hI62.2.2.2.2.2.2; exact ⟨by omega, by omega, fun _ => ⟨by omega, fun j hj => if e9 : j = x7 then (by subst e9; exact ⟨hT9.symm.trans c_33, hok⟩) else h8.2 j (by omega)⟩, fun z9 => absurd c_33 z9, (by rw [mWg_ok hw_35 hok, hI62.2.2.2.2.1, h8.1]; rfl), fun q hq => (hkp.1 q hq).trans (hK62 q hq), hkp.2⟩) (by (try dsimp only); omega) _ _ _ hP hD hS (lv_sub hl [0, 1, 3, 4, 5, 6, 7, 8] rfl)
                        · refine lv_iconst (v := 0) hx hb dX8_read_205 hki_0 ?_
                          refine lv_istore (lv' := [(9, .int 0), (8, .int (nI (40 + jj))), (7, .int (nI x7)), (6, .int (nI wh)), (5, .int re2), (0, .ref mo), (1, .int 1), (2, .int v), (3, .int f), (4, .int (nI nn))]) hx hb dX8_read_206 hl (Nat.le_of_ble_eq_true rfl) rfl (fun ls hl => ?_)
                          refine hs_while (σ := Nat × (Nat → Int32)) (fun x => x.1 ≤ 44 ∧ (∀ q, q < x.1 → x.2 q = sf q) ∧ ∀ q, 44 ≤ q → x.2 q = sf q) (fun x => 44 - x.1) (fun x => [oq7 mo mo_st mo_at mo_isKept (nI mo_pe) (nI mo_hm) mo_draft (nI mo_dp) (nI mo_dh) mo_toldLines mo_highest mo_tape (nI mo_tl) (nI mo_ps) (nI mo_fr) mo_sort mo_value (nI mo_ft) mo_wrongAt mo_row mo_orderMany (nI mo_fo) mo_lightest mo_heaviest mo_before mo_justSum mo_toldSum mo_allWays mo_lanes mo_sizes mo_cells mo_torn mo_had, oqI k mo_st 132 ((x.2)), oqI k mo_lanes 4 (laf), oqI k mo_sizes 4 (sif), oqI k mo_cells 160 (ce), oqI k mo_had 44 (hg)]) (fun x => [(9, .int (nI (x.1))), (8, .int (nI (40 + jj))), (7, .int (nI x7)), (6, .int (nI wh)), (5, .int re2), (0, .ref mo), (1, .int 1), (2, .int v), (3, .int f), (4, .int (nI nn))]) ?_ (0, u_36) ?_ hP hD hS hl
                          · intro x hI ih208 H locs ls hP hD hS hl
                            obtain ⟨x9, g2⟩ := x
                            try dsimp only at hI
                            have hP : va_P D vwCl [_, oqI k mo_st 132 (g2), _, _, _, _] H := hP
                            have hD : va_D A [_, oqI k mo_st 132 (g2), _, _, _, _] := hD
                            have hl : lv_has ls 11 [(9, .int (nI x9)), (8, .int (nI (40 + jj))), (7, .int (nI x7)), (6, .int (nI wh)), (5, .int re2), (0, .ref mo), (1, .int 1), (2, .int v), (3, .int f), (4, .int (nI nn))] := hl
                            refine lv_iload hx hb dX8_read_208 (lv_at hl 0 rfl) ?_
                            refine lv_bipush (v := 44) hx hb dX8_read_210 hkb_44 ?_
                            refine lv_icmp_ge (tgt := 235) hx hb dX8_read_212 rfl (fun c_38 => ?_) (fun c_38 => ?_)
                            · have nc_38 : 44 ≤ x9 := (nI_leI (a := 44) (b := x9) (by omega) (by omega)).mp c_38
                              refine lv_bipush (v := (-20)) hx hb dX8_read_235 hkb_m20 ?_
                              refine lv_iload hx hb dX8_read_237 (lv_at hl 2 rfl) ?_
                              refine lv_isub hx hb dX8_read_239 ?_
                              exact hs_iret hx hb hr hlocks hK hP hD hS (g2, hg, mo_torn) [0, 1, 2, 3, 4, 5] rfl (hs_upnd rfl) dX8_read_240 (Or.inr ⟨1, nn, by decide, rfl, by omega, rfl, hs_and2 (hs_nb c_4), x7, by omega, (hI62.2.2.1 c_31).2, Or.inl ⟨by omega, hT9.symm.trans c_33, Bool.eq_false_iff.mpr (fun z9 => c_37 ((mWg_ge h0 hw_35 hI62.2.2.2.2.2.2).mpr z9)), rfl, (by (try dsimp only); rw [show g2 = sf from funext (fun q => if e9 : q < 44 then hI.2.1 q (by omega) else hI.2.2 q (by omega))])⟩⟩)
                            · have nc_38 : ¬ 44 ≤ x9 := fun hq9 => c_38 ((nI_leI (a := 44) (b := x9) (by omega) (by omega)).mpr hq9)
                              refine lv_aload_n hx hb dX8_read_215 rfl (lv_at hl 5 rfl) ?_
                              refine va_get (D := D) (ci := 7) (v := .ref mo_st) (C := RX8) (T := TX8) (N := 32) hx hb hts hiX8 hown hK hP 0 rfl rfl 0 (Nat.le_of_ble_eq_true rfl) fl7 (fun _ h9 => h9) rfl dX8_read_216 ?_
                              refine lv_iload hx hb dX8_read_219 (lv_at hl 0 rfl) ?_
                              refine lv_aload_n hx hb dX8_read_221 rfl (lv_at hl 5 rfl) ?_
                              refine va_get (D := D) (ci := 7) (v := .ref mo_had) (C := RX8) (T := TX8) (N := 32) hx hb hts hiX8 hown hK hP 0 rfl rfl 31 (Nat.le_of_ble_eq_true rfl) fl41 (fun _ h9 => h9) rfl dX8_read_222 ?_
                              refine lv_iload hx hb dX8_read_225 (lv_at hl 0 rfl) ?_
                              refine va_iald hx hb hK hP 5 0 rfl rfl (vp_in_nI (show x9 < 44 by omega) (by decide)) dX8_read_227 ?_
                              refine va_iast hx hb hK hP hD hS 1 0 rfl rfl (vp_in_nI (show x9 < 132 by omega) (by decide)) dX8_read_228 (fun H locs hP hD hS => ?_)
                              have hP : va_P D vwCl [_, oqI k mo_st 132 (upd g2 ((nI x9).toNatClampNeg) (hg (nI x9).toNatClampNeg)), _, _, _, _] H := hP
                              have hD : va_D A [_, oqI k mo_st 132 (upd g2 ((nI x9).toNatClampNeg) (hg (nI x9).toNatClampNeg)), _, _, _, _] := hD
                              refine lv_iinc (v := nI (x9 + 1)) (lv' := [(9, .int (nI (x9 + 1))), (8, .int (nI (40 + jj))), (7, .int (nI x7)), (6, .int (nI wh)), (5, .int re2), (0, .ref mo), (1, .int 1), (2, .int v), (3, .int f), (4, .int (nI nn))]) hx hb dX8_read_229 hl (k := 0) rfl (nI_add (x9) 1) (Nat.le_of_ble_eq_true rfl) rfl (fun ls hl => ?_)
                              refine lv_goto (tgt := 208) hx hb dX8_read_232 rfl ?_
                              exact ih208 (x9 + 1, upd g2 ((nI x9).toNatClampNeg) (hg (nI x9).toNatClampNeg)) (by (try dsimp only); exact ⟨by omega, fun q hq => if e9 : q = x9 then (by subst e9; rw [hs_ue (by omega) rfl, nI_clamp (by omega)]; exact hI26.2 _ (by omega)) else (by rw [hs_uc (by omega) e9]; exact hI.2.1 q (by omega)), fun q hq => by rw [hs_uc (by omega) (by omega)]; exact hI.2.2 q hq⟩) (by (try dsimp only); omega) _ _ _ hP hD hS (lv_sub hl [0, 1, 2, 3, 4, 5, 6, 7, 8, 9] rfl)
                          · (try dsimp only); exact ⟨by omega, fun q hq => absurd hq (Nat.not_lt_zero q), fun q hq => ((mWg_kp h0 hw_35 hI62.2.2.2.2.2.2).1 q (by omega)).trans (hK62 q (by omega))⟩
                    · have nc_32 : ¬ 2 ≤ cc := fun hq9 => c_32 ((nI_leI (a := 2) (b := cc) (by omega) (by omega)).mpr hq9)
                      refine lv_iload hx hb dX8_read_83 (lv_at hl 3 rfl) ?_
                      refine lv_if_ne (tgt := 164) hx hb dX8_read_85 rfl (fun c_39 => ?_) (fun c_39 => ?_)
                      · have hT9 : re2 = fTw (s_la 1) (s_z 1) v (pRd f x7) := rdI_end hI.2 (by omega) (Or.inr c_39)
                        have hI77 := hI
                        refine lv_iload hx hb dX8_read_164 (lv_at hl 3 rfl) ?_
                        refine lv_if_ne (tgt := 244) hx hb dX8_read_166 rfl (fun c_40 => ?_) (fun c_40 => absurd c_40 c_39)
                        refine lv_iinc (v := nI (x7 + 1)) (lv' := [(7, .int (nI (x7 + 1))), (8, .int (nI cc)), (6, .int (nI wh)), (5, .int re2), (0, .ref mo), (1, .int 1), (2, .int v), (3, .int f), (4, .int (nI nn))]) hx hb dX8_read_244 hl (k := 1) rfl (nI_add (x7) 1) (Nat.le_of_ble_eq_true rfl) rfl (fun ls hl => ?_)
                        refine lv_goto (tgt := 62) hx hb dX8_read_247 rfl ?_
                        exact ih62 (re2, wh, x7 + 1, g) (by (try dsimp only); have h8 := (hI62.2.2.1 c_31); exact ⟨by omega, by omega, fun z9 => absurd z9 c_40, fun _ => ⟨by omega, fun j hj => h8.2 j (by omega), by rw [h8.1]; exact hT9⟩, hI62.2.2.2.2.1, hI62.2.2.2.2.2.1, hI62.2.2.2.2.2.2⟩) (by (try dsimp only); omega) _ _ _ hP hD hS (lv_sub hl [0, 2, 3, 4, 5, 6, 7, 8] rfl)
                      · refine lv_iload_n hx hb dX8_read_88 rfl (lv_at hl 7 rfl) ?_
                        refine lv_i2l hx hb dX8_read_89 rfl ?_
                        refine lv_iconst (v := 2) hx hb dX8_read_90 hki_2 ?_
                        refine lv_iload hx hb dX8_read_91 (lv_at hl 1 rfl) ?_
                        refine lv_imul hx hb dX8_read_93 ?_
                        refine hs_topi (nI (2 * x7)) (pk_mul (2) (x7)) ?_
                        refine lv_i2l hx hb dX8_read_94 rfl ?_
                        refine lv_ladd hx hb dX8_read_95 ?_
                        refine lv_iload hx hb dX8_read_96 (lv_at hl 0 rfl) ?_
                        refine lv_i2l hx hb dX8_read_98 rfl ?_
                        refine lv_ladd hx hb dX8_read_99 ?_
                        refine lv_lstore (lv' := [(9, .long (((((f) : Int32).toInt64) + (((nI (2 * x7)) : Int32).toInt64)) + (((nI cc) : Int32).toInt64))), (8, .int (nI cc)), (7, .int (nI x7)), (6, .int (nI wh)), (5, .int re2), (0, .ref mo), (1, .int 1), (2, .int v), (3, .int f), (4, .int (nI nn))]) hx hb dX8_read_100 hl (Nat.le_of_ble_eq_true rfl) rfl (fun ls hl => ?_)
                        refine lv_aload_n hx hb dX8_read_102 rfl (lv_at hl 5 rfl) ?_
                        refine va_get (D := D) (ci := 7) (v := .ref mo_lanes) (C := RX8) (T := TX8) (N := 32) hx hb hts hiX8 hown hK hP 0 rfl rfl 27 (Nat.le_of_ble_eq_true rfl) fl32 (fun _ h9 => h9) rfl dX8_read_103 ?_
                        refine lv_iload_n hx hb dX8_read_106 rfl (lv_at hl 6 rfl) ?_
                        refine va_iald hx hb hK hP 2 0 rfl rfl (hs_in (by decide)) dX8_read_107 ?_
                        refine hs_topi (laf 1) (by rfl) ?_
                        refine lv_bipush (v := (-4)) hx hb dX8_read_108 hkb_m4 ?_
                        refine lv_icmp_ne (tgt := 117) hx hb dX8_read_110 rfl (fun c_41 => ?_) (fun c_41 => ?_)
                        · have hsk := rSh_yes hsh (k := 1) (by decide) c_41
                          have hzk := hsk.2.2.2.2.1
                          refine lv_aload_n hx hb dX8_read_117 rfl (lv_at hl 5 rfl) ?_
                          refine va_get (D := D) (ci := 7) (v := .ref mo_lanes) (C := RX8) (T := TX8) (N := 32) hx hb hts hiX8 hown hK hP 0 rfl rfl 27 (Nat.le_of_ble_eq_true rfl) fl32 (fun _ h9 => h9) rfl dX8_read_118 ?_
                          refine lv_iload_n hx hb dX8_read_121 rfl (lv_at hl 6 rfl) ?_
                          refine va_iald hx hb hK hP 2 0 rfl rfl (hs_in (by decide)) dX8_read_122 ?_
                          refine hs_topi (laf 1) (by rfl) ?_
                          refine lv_iload_n hx hb dX8_read_123 rfl (lv_at hl 7 rfl) ?_
                          refine lv_icmp_eq (tgt := 131) hx hb dX8_read_124 rfl (fun c_42 => ?_) (fun c_42 => ?_)
                          · refine lv_lload hx hb dX8_read_131 (lv_at hl 0 rfl) ?_
                            refine lv_lconst (v := 0) hx hb dX8_read_133 (by decide) ?_
                            refine W.lcmp hx hb dX8_read_134 ?_
                            refine lv_if_lt (tgt := 151) hx hb dX8_read_135 rfl (fun c_43 => ?_) (fun c_43 => ?_)
                            · refine lv_iconst (v := 2) hx hb dX8_read_151 hki_2 ?_
                              refine lv_goto (tgt := 156) hx hb dX8_read_152 rfl ?_
                              refine lv_istore (lv' := [(5, .int 2), (9, .long (((((f) : Int32).toInt64) + (((nI (2 * x7)) : Int32).toInt64)) + (((nI cc) : Int32).toInt64))), (8, .int (nI cc)), (7, .int (nI x7)), (6, .int (nI wh)), (0, .ref mo), (1, .int 1), (2, .int v), (3, .int f), (4, .int (nI nn))]) hx hb dX8_read_156 hl (Nat.le_of_ble_eq_true rfl) rfl (fun ls hl => ?_)
                              refine lv_iinc (v := nI (cc + 1)) (lv' := [(8, .int (nI (cc + 1))), (5, .int 2), (9, .long (((((f) : Int32).toInt64) + (((nI (2 * x7)) : Int32).toInt64)) + (((nI cc) : Int32).toInt64))), (7, .int (nI x7)), (6, .int (nI wh)), (0, .ref mo), (1, .int 1), (2, .int v), (3, .int f), (4, .int (nI nn))]) hx hb dX8_read_158 hl (k := 2) rfl (nI_add (cc) 1) (Nat.le_of_ble_eq_true rfl) rfl (fun ls hl => ?_)
                              refine lv_goto (tgt := 77) hx hb dX8_read_161 rfl ?_
                              exact ih77 (2, cc + 1) (by (try dsimp only); have hsk := rSh_yes hsh (k := 1) (by decide) c_41; have hle : v = s_la 1 := c_42.symm.trans hsk.1; have hq := rd_out1 (f := f) (i := x7) (c := cc) (z := s_z 1) (by omega) (by omega) hsk.2.2.2.2.1 c_43; exact ⟨by omega, rdI_step hI.2 (by omega) c_39 (fun h8 => by rw [g0R, if_neg hsk.2.1, if_neg (fun z9 => z9 hle), if_neg (hq.1 h8)]) (fun h8 h9 => (fAt_out hsk.2.1 (hq.2 h8 (g0R_0 h9).2.2)).symm)⟩) (by (try dsimp only); omega) _ _ _ hP hD hS (lv_sub hl [0, 3, 4, 1, 5, 6, 7, 8, 9] rfl)
                            · refine lv_lload hx hb dX8_read_138 (lv_at hl 0 rfl) ?_
                              refine lv_aload_n hx hb dX8_read_140 rfl (lv_at hl 5 rfl) ?_
                              refine va_get (D := D) (ci := 7) (v := .ref mo_sizes) (C := RX8) (T := TX8) (N := 32) hx hb hts hiX8 hown hK hP 0 rfl rfl 28 (Nat.le_of_ble_eq_true rfl) fl35 (fun _ h9 => h9) rfl dX8_read_141 ?_
                              refine lv_iload_n hx hb dX8_read_144 rfl (lv_at hl 6 rfl) ?_
                              refine va_iald hx hb hK hP 3 0 rfl rfl (hs_in (by decide)) dX8_read_145 ?_
                              refine hs_topi (nI (s_z 1)) (hsk.2.2.2.1) ?_
                              refine lv_i2l hx hb dX8_read_146 rfl ?_
                              refine W.lcmp hx hb dX8_read_147 ?_
                              refine lv_if_lt (tgt := 155) hx hb dX8_read_148 rfl (fun c_44 => ?_) (fun c_44 => ?_)
                              · refine lv_iconst (v := 0) hx hb dX8_read_155 hki_0 ?_
                                refine lv_istore (lv' := [(5, .int 0), (9, .long (((((f) : Int32).toInt64) + (((nI (2 * x7)) : Int32).toInt64)) + (((nI cc) : Int32).toInt64))), (8, .int (nI cc)), (7, .int (nI x7)), (6, .int (nI wh)), (0, .ref mo), (1, .int 1), (2, .int v), (3, .int f), (4, .int (nI nn))]) hx hb dX8_read_156 hl (Nat.le_of_ble_eq_true rfl) rfl (fun ls hl => ?_)
                                refine lv_iinc (v := nI (cc + 1)) (lv' := [(8, .int (nI (cc + 1))), (5, .int 0), (9, .long (((((f) : Int32).toInt64) + (((nI (2 * x7)) : Int32).toInt64)) + (((nI cc) : Int32).toInt64))), (7, .int (nI x7)), (6, .int (nI wh)), (0, .ref mo), (1, .int 1), (2, .int v), (3, .int f), (4, .int (nI nn))]) hx hb dX8_read_158 hl (k := 2) rfl (nI_add (cc) 1) (Nat.le_of_ble_eq_true rfl) rfl (fun ls hl => ?_)
                                refine lv_goto (tgt := 77) hx hb dX8_read_161 rfl ?_
                                exact ih77 (0, cc + 1) (by (try dsimp only); have hsk := rSh_yes hsh (k := 1) (by decide) c_41; have hle : v = s_la 1 := c_42.symm.trans hsk.1; have hq := rd_in (f := f) (i := x7) (c := cc) (z := s_z 1) (by omega) (by omega) hsk.2.2.2.2.1 c_43 c_44; exact ⟨by omega, rdI_step hI.2 (by omega) c_39 (fun h8 => by rw [g0R, if_neg hsk.2.1, if_neg (fun z9 => z9 hle), if_pos (hq.1 h8)]) (fun h8 h9 => (fAt_in hsk.2.1 (hq.2 h8 (g0R_0 h9).2.2)).symm)⟩) (by (try dsimp only); omega) _ _ _ hP hD hS (lv_sub hl [0, 3, 4, 1, 5, 6, 7, 8, 9] rfl)
                              · refine lv_iconst (v := 2) hx hb dX8_read_151 hki_2 ?_
                                refine lv_goto (tgt := 156) hx hb dX8_read_152 rfl ?_
                                refine lv_istore (lv' := [(5, .int 2), (9, .long (((((f) : Int32).toInt64) + (((nI (2 * x7)) : Int32).toInt64)) + (((nI cc) : Int32).toInt64))), (8, .int (nI cc)), (7, .int (nI x7)), (6, .int (nI wh)), (0, .ref mo), (1, .int 1), (2, .int v), (3, .int f), (4, .int (nI nn))]) hx hb dX8_read_156 hl (Nat.le_of_ble_eq_true rfl) rfl (fun ls hl => ?_)
                                refine lv_iinc (v := nI (cc + 1)) (lv' := [(8, .int (nI (cc + 1))), (5, .int 2), (9, .long (((((f) : Int32).toInt64) + (((nI (2 * x7)) : Int32).toInt64)) + (((nI cc) : Int32).toInt64))), (7, .int (nI x7)), (6, .int (nI wh)), (0, .ref mo), (1, .int 1), (2, .int v), (3, .int f), (4, .int (nI nn))]) hx hb dX8_read_158 hl (k := 2) rfl (nI_add (cc) 1) (Nat.le_of_ble_eq_true rfl) rfl (fun ls hl => ?_)
                                refine lv_goto (tgt := 77) hx hb dX8_read_161 rfl ?_
                                exact ih77 (2, cc + 1) (by (try dsimp only); have hsk := rSh_yes hsh (k := 1) (by decide) c_41; have hle : v = s_la 1 := c_42.symm.trans hsk.1; have hq := rd_out2 (f := f) (i := x7) (c := cc) (z := s_z 1) (by omega) (by omega) hsk.2.2.2.2.1 c_44; exact ⟨by omega, rdI_step hI.2 (by omega) c_39 (fun h8 => by rw [g0R, if_neg hsk.2.1, if_neg (fun z9 => z9 hle), if_neg (hq.1 h8)]) (fun h8 h9 => (fAt_out hsk.2.1 (hq.2 h8 (g0R_0 h9).2.2)).symm)⟩) (by (try dsimp only); omega) _ _ _ hP hD hS (lv_sub hl [0, 3, 4, 1, 5, 6, 7, 8, 9] rfl)
                          · refine lv_iconst (v := 3) hx hb dX8_read_127 hki_3 ?_
                            refine lv_goto (tgt := 156) hx hb dX8_read_128 rfl ?_
                            refine lv_istore (lv' := [(5, .int 3), (9, .long (((((f) : Int32).toInt64) + (((nI (2 * x7)) : Int32).toInt64)) + (((nI cc) : Int32).toInt64))), (8, .int (nI cc)), (7, .int (nI x7)), (6, .int (nI wh)), (0, .ref mo), (1, .int 1), (2, .int v), (3, .int f), (4, .int (nI nn))]) hx hb dX8_read_156 hl (Nat.le_of_ble_eq_true rfl) rfl (fun ls hl => ?_)
                            refine lv_iinc (v := nI (cc + 1)) (lv' := [(8, .int (nI (cc + 1))), (5, .int 3), (9, .long (((((f) : Int32).toInt64) + (((nI (2 * x7)) : Int32).toInt64)) + (((nI cc) : Int32).toInt64))), (7, .int (nI x7)), (6, .int (nI wh)), (0, .ref mo), (1, .int 1), (2, .int v), (3, .int f), (4, .int (nI nn))]) hx hb dX8_read_158 hl (k := 2) rfl (nI_add (cc) 1) (Nat.le_of_ble_eq_true rfl) rfl (fun ls hl => ?_)
                            refine lv_goto (tgt := 77) hx hb dX8_read_161 rfl ?_
                            exact ih77 (3, cc + 1) (by (try dsimp only); have hsk := rSh_yes hsh (k := 1) (by decide) c_41; exact ⟨by omega, rdI_step hI.2 (by omega) c_39 (fun _ => by rw [g0R, if_neg hsk.2.1, if_pos (fun z9 => c_42 (hsk.1.trans z9.symm))]) (fun _ h9 => absurd (hsk.1.trans (g0R_0 h9).2.1.symm) c_42)⟩) (by (try dsimp only); omega) _ _ _ hP hD hS (lv_sub hl [0, 3, 4, 1, 5, 6, 7, 8, 9] rfl)
                        · refine lv_iconst (v := 1) hx hb dX8_read_113 hki_1 ?_
                          refine lv_goto (tgt := 156) hx hb dX8_read_114 rfl ?_
                          refine lv_istore (lv' := [(5, .int 1), (9, .long (((((f) : Int32).toInt64) + (((nI (2 * x7)) : Int32).toInt64)) + (((nI cc) : Int32).toInt64))), (8, .int (nI cc)), (7, .int (nI x7)), (6, .int (nI wh)), (0, .ref mo), (1, .int 1), (2, .int v), (3, .int f), (4, .int (nI nn))]) hx hb dX8_read_156 hl (Nat.le_of_ble_eq_true rfl) rfl (fun ls hl => ?_)
                          refine lv_iinc (v := nI (cc + 1)) (lv' := [(8, .int (nI (cc + 1))), (5, .int 1), (9, .long (((((f) : Int32).toInt64) + (((nI (2 * x7)) : Int32).toInt64)) + (((nI cc) : Int32).toInt64))), (7, .int (nI x7)), (6, .int (nI wh)), (0, .ref mo), (1, .int 1), (2, .int v), (3, .int f), (4, .int (nI nn))]) hx hb dX8_read_158 hl (k := 2) rfl (nI_add (cc) 1) (Nat.le_of_ble_eq_true rfl) rfl (fun ls hl => ?_)
                          refine lv_goto (tgt := 77) hx hb dX8_read_161 rfl ?_
                          exact ih77 (1, cc + 1) (by (try dsimp only); exact ⟨by omega, rdI_step hI.2 (by omega) c_39 (fun _ => by rw [g0R, if_pos (rSh_nul hsh (k := 1) (by decide) c_41)]) (fun _ h9 => absurd (rSh_nul hsh (k := 1) (by decide) c_41) (g0R_0 h9).1)⟩) (by (try dsimp only); omega) _ _ _ hP hD hS (lv_sub hl [0, 3, 4, 1, 5, 6, 7, 8, 9] rfl)
                  · (try dsimp only); exact ⟨by omega, fun _ => c_31, fun h => absurd h (by decide), fun h => absurd h (by decide)⟩
            · (try dsimp only); exact ⟨Nat.zero_le _, Nat.le_refl _, fun _ => ⟨rfl, fun j hj => absurd hj (Nat.not_lt_zero j)⟩, fun z9 => absurd rfl z9, rfl, fun _ _ => rfl, hwb⟩
          · have nc_29 : ¬ 44 ≤ x0 := fun hq9 => c_29 ((nI_leI (a := 44) (b := x0) (by omega) (by omega)).mpr hq9)
            refine lv_aload_n hx hb dX8_read_33 rfl (lv_at hl 1 rfl) ?_
            refine va_get (D := D) (ci := 7) (v := .ref mo_had) (C := RX8) (T := TX8) (N := 32) hx hb hts hiX8 hown hK hP 0 rfl rfl 31 (Nat.le_of_ble_eq_true rfl) fl41 (fun _ h9 => h9) rfl dX8_read_34 ?_
            refine lv_iload hx hb dX8_read_37 (lv_at hl 0 rfl) ?_
            refine lv_aload_n hx hb dX8_read_39 rfl (lv_at hl 1 rfl) ?_
            refine va_get (D := D) (ci := 7) (v := .ref mo_st) (C := RX8) (T := TX8) (N := 32) hx hb hts hiX8 hown hK hP 0 rfl rfl 0 (Nat.le_of_ble_eq_true rfl) fl7 (fun _ h9 => h9) rfl dX8_read_40 ?_
            refine lv_iload hx hb dX8_read_43 (lv_at hl 0 rfl) ?_
            refine va_iald hx hb hK hP 1 0 rfl rfl (vp_in_nI (show x0 < 132 by omega) (by decide)) dX8_read_45 ?_
            refine va_iast hx hb hK hP hD hS 5 0 rfl rfl (vp_in_nI (show x0 < 44 by omega) (by decide)) dX8_read_46 (fun H locs hP hD hS => ?_)
            have hP : va_P D vwCl [_, oqI k mo_st 132 (sf), _, _, _, oqI k mo_had 44 (upd hg ((nI x0).toNatClampNeg) (sf (nI x0).toNatClampNeg))] H := hP
            have hD : va_D A [_, oqI k mo_st 132 (sf), _, _, _, oqI k mo_had 44 (upd hg ((nI x0).toNatClampNeg) (sf (nI x0).toNatClampNeg))] := hD
            refine lv_iinc (v := nI (x0 + 1)) (lv' := [(5, .int (nI (x0 + 1))), (0, .ref mo), (1, .int 1), (2, .int v), (3, .int f), (4, .int (nI nn))]) hx hb dX8_read_47 hl (k := 0) rfl (nI_add (x0) 1) (Nat.le_of_ble_eq_true rfl) rfl (fun ls hl => ?_)
            refine lv_goto (tgt := 26) hx hb dX8_read_50 rfl ?_
            exact ih26 (x0 + 1, upd hg ((nI x0).toNatClampNeg) (sf (nI x0).toNatClampNeg)) (by (try dsimp only); exact ⟨by omega, hs_filled (by omega) hI.2⟩) (by (try dsimp only); omega) _ _ _ hP hD hS (lv_sub hl [0, 1, 2, 3, 4, 5] rfl)
        · (try dsimp only); exact ⟨by omega, fun j hj => absurd hj (by omega)⟩
      · refine lv_iconst (v := (-1)) hx hb dX8_read_21 hki_m1 ?_
        exact hs_iret hx hb hr hlocks hK hP hD hS (sf, ha, mo_torn) [0, 1, 2, 3, 4, 5] rfl (hs_upnd rfl) dX8_read_22 (Or.inl ⟨hs_rbad (Or.inr (Or.inr (hs_n0 c_28))), rfl, rfl⟩)
    · refine lv_iload hx hb dX8_read_8 (lv_at hl 4 rfl) ?_
      refine lv_i2l hx hb dX8_read_10 rfl ?_
      refine lv_lconst (v := 0) hx hb dX8_read_11 (by decide) ?_
      refine lv_ldc2 hx hb hown kl284 dX8_read_12 ?_
      refine hs_pi (va_runS (As := [.long (((n) : Int32).toInt64), .long 0, .long 20]) (rest := []) ⟨hx, hb, hml, hown, hts⟩ (gm_in l D k _ n 0 20) (va_cwS 3 hts gX8_read_X8_in rfl rfl rfl hq_X8_in ⟨Nat.le_of_ble_eq_true rfl, Nat.le_of_ble_eq_true rfl⟩) (hs_preS hK hN (hs_subP (w := []) hP [] rfl) (hD.sub (ws' := []) [] rfl rfl)) rfl rfl hl.1 rfl (lv_room (Nat.le_of_ble_eq_true rfl)) dX8_read_15 ⟨Nat.le_of_ble_eq_true rfl, Nat.le_of_ble_eq_true rfl⟩) hP hD hS hA (fun r_45 u_47 H locs hw_46 hP hS => ?_)
      refine hs_topi (hsb (hsin n 0 20)) hw_46 ?_
      refine lv_if_ne (tgt := 23) hx hb dX8_read_18 rfl (fun c_48 => ?_) (fun c_48 => ?_)
      · obtain ⟨nn, hnn, hnnb, rfl⟩ := hs_rng (lo := 0) (hi := 20) (by omega) (by omega) (hs_nb c_48)
        refine lv_iconst (v := 0) hx hb dX8_read_23 hki_0 ?_
        refine lv_istore (lv' := [(5, .int 0), (0, .ref mo), (1, .int 2), (2, .int v), (3, .int f), (4, .int (nI nn))]) hx hb dX8_read_24 hl (Nat.le_of_ble_eq_true rfl) rfl (fun ls hl => ?_)
        refine hs_while (σ := Nat × (Nat → Int32)) (fun x => x.1 ≤ 44 ∧ ∀ j, j < x.1 → x.2 j = sf j) (fun x => 44 - x.1) (fun x => [oq7 mo mo_st mo_at mo_isKept (nI mo_pe) (nI mo_hm) mo_draft (nI mo_dp) (nI mo_dh) mo_toldLines mo_highest mo_tape (nI mo_tl) (nI mo_ps) (nI mo_fr) mo_sort mo_value (nI mo_ft) mo_wrongAt mo_row mo_orderMany (nI mo_fo) mo_lightest mo_heaviest mo_before mo_justSum mo_toldSum mo_allWays mo_lanes mo_sizes mo_cells mo_torn mo_had, oqI k mo_st 132 (sf), oqI k mo_lanes 4 (laf), oqI k mo_sizes 4 (sif), oqI k mo_cells 160 (ce), oqI k mo_had 44 ((x.2))]) (fun x => [(5, .int (nI (x.1))), (0, .ref mo), (1, .int 2), (2, .int v), (3, .int f), (4, .int (nI nn))]) ?_ (0, ha) ?_ hP hD hS hl
        · intro x hI ih26 H locs ls hP hD hS hl
          obtain ⟨x0, hg⟩ := x
          try dsimp only at hI
          have hP : va_P D vwCl [_, _, _, _, _, oqI k mo_had 44 (hg)] H := hP
          have hD : va_D A [_, _, _, _, _, oqI k mo_had 44 (hg)] := hD
          have hl : lv_has ls 11 [(5, .int (nI x0)), (0, .ref mo), (1, .int 2), (2, .int v), (3, .int f), (4, .int (nI nn))] := hl
          refine lv_iload hx hb dX8_read_26 (lv_at hl 0 rfl) ?_
          refine lv_bipush (v := 44) hx hb dX8_read_28 hkb_44 ?_
          refine lv_icmp_ge (tgt := 53) hx hb dX8_read_30 rfl (fun c_49 => ?_) (fun c_49 => ?_)
          · have nc_49 : 44 ≤ x0 := (nI_leI (a := 44) (b := x0) (by omega) (by omega)).mp c_49
            have hI26 := hI
            refine lv_iconst (v := 0) hx hb dX8_read_53 hki_0 ?_
            refine lv_istore (lv' := [(5, .int 0), (0, .ref mo), (1, .int 2), (2, .int v), (3, .int f), (4, .int (nI nn))]) hx hb dX8_read_54 hl (Nat.le_of_ble_eq_true rfl) rfl (fun ls hl => ?_)
            refine lv_iconst (v := 0) hx hb dX8_read_56 hki_0 ?_
            refine lv_istore (lv' := [(6, .int 0), (5, .int 0), (0, .ref mo), (1, .int 2), (2, .int v), (3, .int f), (4, .int (nI nn))]) hx hb dX8_read_57 hl (Nat.le_of_ble_eq_true rfl) rfl (fun ls hl => ?_)
            refine lv_iconst (v := 0) hx hb dX8_read_59 hki_0 ?_
            refine lv_istore (lv' := [(7, .int 0), (6, .int 0), (5, .int 0), (0, .ref mo), (1, .int 2), (2, .int v), (3, .int f), (4, .int (nI nn))]) hx hb dX8_read_60 hl (Nat.le_of_ble_eq_true rfl) rfl (fun ls hl => ?_)
            refine hs_while (σ := Int32 × Nat × Nat × (Nat → Int32)) (fun x => x.2.2.1 ≤ nn ∧ x.2.1 ≤ x.2.2.1 ∧ (x.1 = 0 → (x.2.1 = x.2.2.1 ∧ ∀ j, j < x.2.2.1 → okR c0 (s_la 2) (s_z 2) (s_r 2) v f j)) ∧ (¬ x.1 = 0 → (x.2.1 + 1 = x.2.2.1 ∧ (∀ j, j < x.2.1 → okR c0 (s_la 2) (s_z 2) (s_r 2) v f j) ∧ x.1 = fTw (s_la 2) (s_z 2) v (pRd f x.2.1))) ∧ x.2.2.2 = wtM (s_z 2) (s_r 2) f sf x.2.1 ∧ (∀ q, ¬ (1 ≤ q ∧ q ≤ 8) → x.2.2.2 q = sf q) ∧ ∀ j, j < c0 → vp_in (x.2.2.2 (1 + j)) 10) (fun x => nn - x.2.2.1) (fun x => [oq7 mo mo_st mo_at mo_isKept (nI mo_pe) (nI mo_hm) mo_draft (nI mo_dp) (nI mo_dh) mo_toldLines mo_highest mo_tape (nI mo_tl) (nI mo_ps) (nI mo_fr) mo_sort mo_value (nI mo_ft) mo_wrongAt mo_row mo_orderMany (nI mo_fo) mo_lightest mo_heaviest mo_before mo_justSum mo_toldSum mo_allWays mo_lanes mo_sizes mo_cells mo_torn mo_had, oqI k mo_st 132 ((x.2.2.2)), oqI k mo_lanes 4 (laf), oqI k mo_sizes 4 (sif), oqI k mo_cells 160 (ce), oqI k mo_had 44 (hg)]) (fun x => [(7, .int (nI (x.2.2.1))), (6, .int (nI (x.2.1))), (5, .int (x.1)), (0, .ref mo), (1, .int 2), (2, .int v), (3, .int f), (4, .int (nI nn))]) ?_ (0, 0, 0, sf) ?_ hP hD hS hl
            · intro x hI ih62 H locs ls hP hD hS hl
              obtain ⟨re, wh, x7, g⟩ := x
              try dsimp only at hI
              have hP : va_P D vwCl [_, oqI k mo_st 132 (g), _, _, _, _] H := hP
              have hD : va_D A [_, oqI k mo_st 132 (g), _, _, _, _] := hD
              have hl : lv_has ls 11 [(7, .int (nI x7)), (6, .int (nI wh)), (5, .int re), (0, .ref mo), (1, .int 2), (2, .int v), (3, .int f), (4, .int (nI nn))] := hl
              refine lv_iload hx hb dX8_read_62 (lv_at hl 0 rfl) ?_
              refine lv_iload hx hb dX8_read_64 (lv_at hl 7 rfl) ?_
              refine lv_icmp_ge (tgt := 250) hx hb dX8_read_66 rfl (fun c_50 => ?_) (fun c_50 => ?_)
              · have nc_50 : nn ≤ x7 := (nI_leI (a := nn) (b := x7) (by omega) (by omega)).mp c_50
                refine lv_aload_n hx hb dX8_read_250 rfl (lv_at hl 3 rfl) ?_
                refine lv_iload hx hb dX8_read_251 (lv_at hl 2 rfl) ?_
                refine va_put (D := D) (ci := 7) (v := .int re) (ty := .int) (C := RX8) (T := TX8) (N := 32) hx hb hts hiX8 tyX8 tyX8_ok nmX8 hown hK hP hD hS 0 rfl rfl 30 (Nat.le_of_ble_eq_true rfl) fl289 (fun _ h9 => h9) rfl (by decide +kernel) rfl rfl (Nat.le_of_ble_eq_true rfl) dX8_read_253 (fun H locs hP hD hS => ?_)
                have hP : va_P D vwCl [oq7 mo mo_st mo_at mo_isKept (nI mo_pe) (nI mo_hm) mo_draft (nI mo_dp) (nI mo_dh) mo_toldLines mo_highest mo_tape (nI mo_tl) (nI mo_ps) (nI mo_fr) mo_sort mo_value (nI mo_ft) mo_wrongAt mo_row mo_orderMany (nI mo_fo) mo_lightest mo_heaviest mo_before mo_justSum mo_toldSum mo_allWays mo_lanes mo_sizes mo_cells re mo_had, _, _, _, _, _] H := hP
                have hD : va_D A [oq7 mo mo_st mo_at mo_isKept (nI mo_pe) (nI mo_hm) mo_draft (nI mo_dp) (nI mo_dh) mo_toldLines mo_highest mo_tape (nI mo_tl) (nI mo_ps) (nI mo_fr) mo_sort mo_value (nI mo_ft) mo_wrongAt mo_row mo_orderMany (nI mo_fo) mo_lightest mo_heaviest mo_before mo_justSum mo_toldSum mo_allWays mo_lanes mo_sizes mo_cells re mo_had, _, _, _, _, _] := hD
                refine lv_iload hx hb dX8_read_256 (lv_at hl 1 rfl) ?_
                exact hs_iret hx hb hr hlocks hK hP hD hS (g, hg, re) [0, 1, 2, 3, 4, 5] rfl (hs_upnd rfl) dX8_read_258 (Or.inr ⟨2, nn, by decide, rfl, by omega, rfl, hs_and2 (hs_nb c_4), (if e9 : re = 0 then (by have h9 := hI.2.2.1 e9; have h2 : wh = nn := (by first | omega | exact absurd e9 (by assumption)); exact ⟨wh, by omega, fun j hj => h9.2 j (by omega), Or.inr (Or.inl ⟨h2, rfl, by (try dsimp only); rw [hI.2.2.2.2.1, e9]⟩)⟩) else (by have h9 := hI.2.2.2.1 e9; exact ⟨wh, by omega, h9.2.1, Or.inr (Or.inr ⟨by omega, by rw [← h9.2.2]; exact e9, rfl, by (try dsimp only); rw [hI.2.2.2.2.1, ← h9.2.2]⟩)⟩))⟩)
              · have nc_50 : ¬ nn ≤ x7 := fun hq9 => c_50 ((nI_leI (a := nn) (b := x7) (by omega) (by omega)).mpr hq9)
                refine lv_iload hx hb dX8_read_69 (lv_at hl 2 rfl) ?_
                refine lv_if_ne (tgt := 250) hx hb dX8_read_71 rfl (fun c_51 => ?_) (fun c_51 => ?_)
                · refine lv_aload_n hx hb dX8_read_250 rfl (lv_at hl 3 rfl) ?_
                  refine lv_iload hx hb dX8_read_251 (lv_at hl 2 rfl) ?_
                  refine va_put (D := D) (ci := 7) (v := .int re) (ty := .int) (C := RX8) (T := TX8) (N := 32) hx hb hts hiX8 tyX8 tyX8_ok nmX8 hown hK hP hD hS 0 rfl rfl 30 (Nat.le_of_ble_eq_true rfl) fl289 (fun _ h9 => h9) rfl (by decide +kernel) rfl rfl (Nat.le_of_ble_eq_true rfl) dX8_read_253 (fun H locs hP hD hS => ?_)
                  have hP : va_P D vwCl [_, _, _, _, _, _] H := hP
                  have hD : va_D A [_, _, _, _, _, _] := hD
                  refine lv_iload hx hb dX8_read_256 (lv_at hl 1 rfl) ?_
                  exact hs_iret hx hb hr hlocks hK hP hD hS (g, hg, re) [0, 1, 2, 3, 4, 5] rfl (hs_upnd rfl) dX8_read_258 (Or.inr ⟨2, nn, by decide, rfl, by omega, rfl, hs_and2 (hs_nb c_4), (if e9 : re = 0 then (by have h9 := hI.2.2.1 e9; have h2 : wh = nn := (by first | omega | exact absurd e9 (by assumption)); exact ⟨wh, by omega, fun j hj => h9.2 j (by omega), Or.inr (Or.inl ⟨h2, rfl, by (try dsimp only); rw [hI.2.2.2.2.1, e9]⟩)⟩) else (by have h9 := hI.2.2.2.1 e9; exact ⟨wh, by omega, h9.2.1, Or.inr (Or.inr ⟨by omega, by rw [← h9.2.2]; exact e9, rfl, by (try dsimp only); rw [hI.2.2.2.2.1, ← h9.2.2]⟩)⟩))⟩)
                · have hI62 := hI
                  refine lv_iconst (v := 0) hx hb dX8_read_74 hki_0 ?_
                  refine lv_istore (lv' := [(8, .int 0), (7, .int (nI x7)), (6, .int (nI wh)), (5, .int re), (0, .ref mo), (1, .int 2), (2, .int v), (3, .int f), (4, .int (nI nn))]) hx hb dX8_read_75 hl (Nat.le_of_ble_eq_true rfl) rfl (fun ls hl => ?_)
                  refine hs_while (σ := Int32 × Nat) (fun x => x.2 ≤ 2 ∧ rdI (s_la 2) (s_z 2) v (pRd f x7) x.2 x.1) (fun x => 2 - x.2) (fun x => [oq7 mo mo_st mo_at mo_isKept (nI mo_pe) (nI mo_hm) mo_draft (nI mo_dp) (nI mo_dh) mo_toldLines mo_highest mo_tape (nI mo_tl) (nI mo_ps) (nI mo_fr) mo_sort mo_value (nI mo_ft) mo_wrongAt mo_row mo_orderMany (nI mo_fo) mo_lightest mo_heaviest mo_before mo_justSum mo_toldSum mo_allWays mo_lanes mo_sizes mo_cells mo_torn mo_had, oqI k mo_st 132 (g), oqI k mo_lanes 4 (laf), oqI k mo_sizes 4 (sif), oqI k mo_cells 160 (ce), oqI k mo_had 44 (hg)]) (fun x => [(8, .int (nI (x.2))), (7, .int (nI x7)), (6, .int (nI wh)), (5, .int (x.1)), (0, .ref mo), (1, .int 2), (2, .int v), (3, .int f), (4, .int (nI nn))]) ?_ (re, 0) ?_ hP hD hS hl
                  · intro x hI ih77 H locs ls hP hD hS hl
                    obtain ⟨re2, cc⟩ := x
                    try dsimp only at hI
                    have hP : va_P D vwCl [oq7 mo mo_st mo_at mo_isKept (nI mo_pe) (nI mo_hm) mo_draft (nI mo_dp) (nI mo_dh) mo_toldLines mo_highest mo_tape (nI mo_tl) (nI mo_ps) (nI mo_fr) mo_sort mo_value (nI mo_ft) mo_wrongAt mo_row mo_orderMany (nI mo_fo) mo_lightest mo_heaviest mo_before mo_justSum mo_toldSum mo_allWays mo_lanes mo_sizes mo_cells mo_torn mo_had, _, _, _, _, _] H := hP
                    have hD : va_D A [oq7 mo mo_st mo_at mo_isKept (nI mo_pe) (nI mo_hm) mo_draft (nI mo_dp) (nI mo_dh) mo_toldLines mo_highest mo_tape (nI mo_tl) (nI mo_ps) (nI mo_fr) mo_sort mo_value (nI mo_ft) mo_wrongAt mo_row mo_orderMany (nI mo_fo) mo_lightest mo_heaviest mo_before mo_justSum mo_toldSum mo_allWays mo_lanes mo_sizes mo_cells mo_torn mo_had, _, _, _, _, _] := hD
                    have hl : lv_has ls 11 [(8, .int (nI cc)), (7, .int (nI x7)), (6, .int (nI wh)), (5, .int re2), (0, .ref mo), (1, .int 2), (2, .int v), (3, .int f), (4, .int (nI nn))] := hl
                    refine lv_iload hx hb dX8_read_77 (lv_at hl 0 rfl) ?_
                    refine lv_iconst (v := 2) hx hb dX8_read_79 hki_2 ?_
                    refine lv_icmp_ge (tgt := 164) hx hb dX8_read_80 rfl (fun c_52 => ?_) (fun c_52 => ?_)
                    · have nc_52 : 2 ≤ cc := (nI_leI (a := 2) (b := cc) (by omega) (by omega)).mp c_52
                      have hT9 : re2 = fTw (s_la 2) (s_z 2) v (pRd f x7) := rdI_end hI.2 (by omega) (Or.inl (by omega))
                      have hI77 := hI
                      refine lv_iload hx hb dX8_read_164 (lv_at hl 3 rfl) ?_
                      refine lv_if_ne (tgt := 244) hx hb dX8_read_166 rfl (fun c_53 => ?_) (fun c_53 => ?_)
                      · refine lv_iinc (v := nI (x7 + 1)) (lv' := [(7, .int (nI (x7 + 1))), (8, .int (nI cc)), (6, .int (nI wh)), (5, .int re2), (0, .ref mo), (1, .int 2), (2, .int v), (3, .int f), (4, .int (nI nn))]) hx hb dX8_read_244 hl (k := 1) rfl (nI_add (x7) 1) (Nat.le_of_ble_eq_true rfl) rfl (fun ls hl => ?_)
                        refine lv_goto (tgt := 62) hx hb dX8_read_247 rfl ?_
                        exact ih62 (re2, wh, x7 + 1, g) (by (try dsimp only); have h8 := (hI62.2.2.1 c_51); exact ⟨by omega, by omega, fun z9 => absurd z9 c_53, fun _ => ⟨by omega, fun j hj => h8.2 j (by omega), by rw [h8.1]; exact hT9⟩, hI62.2.2.2.2.1, hI62.2.2.2.2.2.1, hI62.2.2.2.2.2.2⟩) (by (try dsimp only); omega) _ _ _ hP hD hS (lv_sub hl [0, 2, 3, 4, 5, 6, 7, 8] rfl)
                      · have hf9 := fTw_0 (hT9.symm.trans c_53)
                        have hsk := rSh_la hsh (k := 2) (by decide) hf9.1
                        have hzk := hsk.2.2.2.2.1
                        have hL9 := (hs_lsum (by omega) hzk).mp hf9.2.2.1
                        obtain ⟨jj, hjj, ejj⟩ := hs_rdix (f := f) (i := x7) (c := 80) (by omega) (by decide) (by omega) (by omega)
                        have hcel := hs_rdcell (ce := ce) (w := s_r 2) (k := 2) (z := s_z 2) (i := x7) (jj := jj) (f := f) (by omega) hzk hsk.2.2.2.2.2 hf9.2.2.1 hf9.2.2.2 hjj
                        have hM9 := (hs_lsum1 (by omega) hzk hf9.2.2.1).mp hf9.2.2.2
                        have hK62 := hI62.2.2.2.2.2.1
                        refine lv_bipush (v := 40) hx hb dX8_read_169 hkb_40 ?_
                        refine lv_iload_n hx hb dX8_read_171 rfl (lv_at hl 5 rfl) ?_
                        refine lv_imul hx hb dX8_read_172 ?_
                        refine hs_topi 80 (by first | rfl | decide +kernel) ?_
                        refine lv_iload_n hx hb dX8_read_173 rfl (lv_at hl 7 rfl) ?_
                        refine lv_iadd hx hb dX8_read_174 ?_
                        refine lv_iconst (v := 2) hx hb dX8_read_175 hki_2 ?_
                        refine lv_iload hx hb dX8_read_176 (lv_at hl 1 rfl) ?_
                        refine lv_imul hx hb dX8_read_178 ?_
                        refine hs_topi (nI (2 * x7)) (pk_mul (2) (x7)) ?_
                        refine lv_iadd hx hb dX8_read_179 ?_
                        refine hs_topi (nI (80 + jj)) ejj ?_
                        refine lv_istore (lv' := [(8, .int (nI (80 + jj))), (7, .int (nI x7)), (6, .int (nI wh)), (5, .int re2), (0, .ref mo), (1, .int 2), (2, .int v), (3, .int f), (4, .int (nI nn))]) hx hb dX8_read_180 hl (Nat.le_of_ble_eq_true rfl) rfl (fun ls hl => ?_)
                        refine lv_aload_n hx hb dX8_read_182 rfl (lv_at hl 4 rfl) ?_
                        refine lv_aload_n hx hb dX8_read_183 rfl (lv_at hl 4 rfl) ?_
                        refine va_get (D := D) (ci := 7) (v := .ref mo_cells) (C := RX8) (T := TX8) (N := 32) hx hb hts hiX8 hown hK hP 0 rfl rfl 29 (Nat.le_of_ble_eq_true rfl) fl38 (fun _ h9 => h9) rfl dX8_read_184 ?_
                        refine lv_iload hx hb dX8_read_187 (lv_at hl 0 rfl) ?_
                        refine va_iald hx hb hK hP 4 0 rfl rfl (vp_in_nI (show (80 + jj) < 160 by omega) (by decide)) dX8_read_189 ?_
                        refine hs_topi (aTs (s_z 2) (s_r 2) (pRd f x7)) (by rw [nI_clamp (by omega)]; exact hcel.1) ?_
                        refine lv_aload_n hx hb dX8_read_190 rfl (lv_at hl 4 rfl) ?_
                        refine va_get (D := D) (ci := 7) (v := .ref mo_cells) (C := RX8) (T := TX8) (N := 32) hx hb hts hiX8 hown hK hP 0 rfl rfl 29 (Nat.le_of_ble_eq_true rfl) fl38 (fun _ h9 => h9) rfl dX8_read_191 ?_
                        refine lv_iload hx hb dX8_read_194 (lv_at hl 0 rfl) ?_
                        refine lv_iconst (v := 1) hx hb dX8_read_196 hki_1 ?_
                        refine lv_iadd hx hb dX8_read_197 ?_
                        refine hs_topi (nI ((80 + jj) + 1)) (nI_add ((80 + jj)) (1)) ?_
                        refine va_iald hx hb hK hP 4 0 rfl rfl (vp_in_nI (show ((80 + jj) + 1) < 160 by omega) (by decide)) dX8_read_198 ?_
                        refine hs_topi (aTs (s_z 2) (s_r 2) (pRd f x7 + 1)) (by rw [nI_clamp (by omega)]; exact hcel.2) ?_
                        refine hs_ciM (va_runV (As := [.int (aTs (s_z 2) (s_r 2) (pRd f x7)), .int (aTs (s_z 2) (s_r 2) (pRd f x7 + 1))]) (rest := []) ⟨hx, hb, hml, hown, hts⟩ (gqf_weigh l D k _ mo mo_st mo_at mo_isKept mo_pe mo_hm mo_draft mo_dp mo_dh mo_toldLines mo_highest mo_tape mo_tl mo_ps mo_fr mo_sort mo_value mo_ft mo_wrongAt mo_row mo_orderMany mo_fo mo_lightest mo_heaviest mo_before mo_justSum mo_toldSum mo_allWays mo_lanes mo_sizes mo_cells mo_torn mo_had g c0 c3 c4 fi (aTs (s_z 2) (s_r 2) (pRd f x7)) (aTs (s_z 2) (s_r 2) (pRd f x7 + 1)) ((hK62 0 (by omega)).trans e0) h0 h02 ((hK62 16 (by omega)).trans e3) h3 ((hK62 25 (by omega)).trans e4) h4 hpe hm2 hm5 ((hK62 14 (by omega)).trans ef) hfi (fun i9 h9 => by rw [hK62 (26 + 3 * i9) (by omega)]; exact hsaw i9 h9)) (cwV 2 hts gX8_read_X8_weigh rfl rfl rfl ⟨rfl, hq_X8_weigh⟩ ⟨Nat.le_of_ble_eq_true rfl, Nat.le_of_ble_eq_true rfl⟩) (hs_preV hK hN (hs_subP (w := [_, _]) hP [0, 1] rfl) (hD.sub (ws' := [_, _]) [0, 1] (hs_upnd rfl) rfl) (ci := 7) (q0 := 0) rfl rfl) rfl rfl hl.1 rfl (lv_room (Nat.le_of_ble_eq_true rfl)) dX8_read_199 ⟨Nat.le_of_ble_eq_true rfl, Nat.le_of_ble_eq_true rfl⟩) hP hD hS hA [false, false, true, true, true, true] [_, _, _, _] [_, _] rfl [0, 1] rfl [0, 1] (fun u_56 => [_, _]) (fun _ => rfl) (hs_upnd rfl) [false, false, true, true, true, true] (fun u_56 => [_, _, _, _, _, _]) (fun _ => rfl) (fun r_54 u_56 H locs hw_55 hP hD hS => ?_)
                        have hw_55 : mWg c0 g (aTs (s_z 2) (s_r 2) (pRd f x7)) (aTs (s_z 2) (s_r 2) (pRd f x7 + 1)) r_54 u_56 := hw_55
                        refine lv_if_ge (tgt := 241) hx hb dX8_read_202 rfl (fun c_57 => ?_) (fun c_57 => ?_)
                        · refine lv_iinc (v := nI (wh + 1)) (lv' := [(6, .int (nI (wh + 1))), (8, .int (nI (80 + jj))), (7, .int (nI x7)), (5, .int re2), (0, .ref mo), (1, .int 2), (2, .int v), (3, .int f), (4, .int (nI nn))]) hx hb dX8_read_241 hl (k := 2) rfl (nI_add (wh) 1) (Nat.le_of_ble_eq_true rfl) rfl (fun ls hl => ?_)
                          refine lv_iinc (v := nI (x7 + 1)) (lv' := [(7, .int (nI (x7 + 1))), (6, .int (nI (wh + 1))), (8, .int (nI (80 + jj))), (5, .int re2), (0, .ref mo), (1, .int 2), (2, .int v), (3, .int f), (4, .int (nI nn))]) hx hb dX8_read_244 hl (k := 2) rfl (nI_add (x7) 1) (Nat.le_of_ble_eq_true rfl) rfl (fun ls hl => ?_)
                          refine lv_goto (tgt := 62) hx hb dX8_read_247 rfl ?_
                          exact ih62 (re2, wh + 1, x7 + 1, u_56) (by (try dsimp only); have h8 := (hI62.2.2.1 c_51); have hok := (mWg_ge h0 hw_55 hI62.2.2.2.2.2.2).mp c_57; have hkp := mWg_kp h0 hw_55 hI62.2.2.2.2.2.2; exact ⟨by omega, by omega, fun _ => ⟨by omega, fun j hj => if e9 : j = x7 then (by subst e9; exact ⟨hT9.symm.trans c_53, hok⟩) else h8.2 j (by omega)⟩, fun z9 => absurd c_53 z9, (by rw [mWg_ok hw_55 hok, hI62.2.2.2.2.1, h8.1]; rfl), fun q hq => (hkp.1 q hq).trans (hK62 q hq), hkp.2⟩) (by (try dsimp only); omega) _ _ _ hP hD hS (lv_sub hl [0, 1, 3, 4, 5, 6, 7, 8] rfl)
                        · refine lv_iconst (v := 0) hx hb dX8_read_205 hki_0 ?_
                          refine lv_istore (lv' := [(9, .int 0), (8, .int (nI (80 + jj))), (7, .int (nI x7)), (6, .int (nI wh)), (5, .int re2), (0, .ref mo), (1, .int 2), (2, .int v), (3, .int f), (4, .int (nI nn))]) hx hb dX8_read_206 hl (Nat.le_of_ble_eq_true rfl) rfl (fun ls hl => ?_)
                          refine hs_while (σ := Nat × (Nat → Int32)) (fun x => x.1 ≤ 44 ∧ (∀ q, q < x.1 → x.2 q = sf q) ∧ ∀ q, 44 ≤ q → x.2 q = sf q) (fun x => 44 - x.1) (fun x => [oq7 mo mo_st mo_at mo_isKept (nI mo_pe) (nI mo_hm) mo_draft (nI mo_dp) (nI mo_dh) mo_toldLines mo_highest mo_tape (nI mo_tl) (nI mo_ps) (nI mo_fr) mo_sort mo_value (nI mo_ft) mo_wrongAt mo_row mo_orderMany (nI mo_fo) mo_lightest mo_heaviest mo_before mo_justSum mo_toldSum mo_allWays mo_lanes mo_sizes mo_cells mo_torn mo_had, oqI k mo_st 132 ((x.2)), oqI k mo_lanes 4 (laf), oqI k mo_sizes 4 (sif), oqI k mo_cells 160 (ce), oqI k mo_had 44 (hg)]) (fun x => [(9, .int (nI (x.1))), (8, .int (nI (80 + jj))), (7, .int (nI x7)), (6, .int (nI wh)), (5, .int re2), (0, .ref mo), (1, .int 2), (2, .int v), (3, .int f), (4, .int (nI nn))]) ?_ (0, u_56) ?_ hP hD hS hl
                          · intro x hI ih208 H locs ls hP hD hS hl
                            obtain ⟨x9, g2⟩ := x
                            try dsimp only at hI
                            have hP : va_P D vwCl [_, oqI k mo_st 132 (g2), _, _, _, _] H := hP
                            have hD : va_D A [_, oqI k mo_st 132 (g2), _, _, _, _] := hD
                            have hl : lv_has ls 11 [(9, .int (nI x9)), (8, .int (nI (80 + jj))), (7, .int (nI x7)), (6, .int (nI wh)), (5, .int re2), (0, .ref mo), (1, .int 2), (2, .int v), (3, .int f), (4, .int (nI nn))] := hl
                            refine lv_iload hx hb dX8_read_208 (lv_at hl 0 rfl) ?_
                            refine lv_bipush (v := 44) hx hb dX8_read_210 hkb_44 ?_
                            refine lv_icmp_ge (tgt := 235) hx hb dX8_read_212 rfl (fun c_58 => ?_) (fun c_58 => ?_)
                            · have nc_58 : 44 ≤ x9 := (nI_leI (a := 44) (b := x9) (by omega) (by omega)).mp c_58
                              refine lv_bipush (v := (-20)) hx hb dX8_read_235 hkb_m20 ?_
                              refine lv_iload hx hb dX8_read_237 (lv_at hl 2 rfl) ?_
                              refine lv_isub hx hb dX8_read_239 ?_
                              exact hs_iret hx hb hr hlocks hK hP hD hS (g2, hg, mo_torn) [0, 1, 2, 3, 4, 5] rfl (hs_upnd rfl) dX8_read_240 (Or.inr ⟨2, nn, by decide, rfl, by omega, rfl, hs_and2 (hs_nb c_4), x7, by omega, (hI62.2.2.1 c_51).2, Or.inl ⟨by omega, hT9.symm.trans c_53, Bool.eq_false_iff.mpr (fun z9 => c_57 ((mWg_ge h0 hw_55 hI62.2.2.2.2.2.2).mpr z9)), rfl, (by (try dsimp only); rw [show g2 = sf from funext (fun q => if e9 : q < 44 then hI.2.1 q (by omega) else hI.2.2 q (by omega))])⟩⟩)
                            · have nc_58 : ¬ 44 ≤ x9 := fun hq9 => c_58 ((nI_leI (a := 44) (b := x9) (by omega) (by omega)).mpr hq9)
                              refine lv_aload_n hx hb dX8_read_215 rfl (lv_at hl 5 rfl) ?_
                              refine va_get (D := D) (ci := 7) (v := .ref mo_st) (C := RX8) (T := TX8) (N := 32) hx hb hts hiX8 hown hK hP 0 rfl rfl 0 (Nat.le_of_ble_eq_true rfl) fl7 (fun _ h9 => h9) rfl dX8_read_216 ?_
                              refine lv_iload hx hb dX8_read_219 (lv_at hl 0 rfl) ?_
                              refine lv_aload_n hx hb dX8_read_221 rfl (lv_at hl 5 rfl) ?_
                              refine va_get (D := D) (ci := 7) (v := .ref mo_had) (C := RX8) (T := TX8) (N := 32) hx hb hts hiX8 hown hK hP 0 rfl rfl 31 (Nat.le_of_ble_eq_true rfl) fl41 (fun _ h9 => h9) rfl dX8_read_222 ?_
                              refine lv_iload hx hb dX8_read_225 (lv_at hl 0 rfl) ?_
                              refine va_iald hx hb hK hP 5 0 rfl rfl (vp_in_nI (show x9 < 44 by omega) (by decide)) dX8_read_227 ?_
                              refine va_iast hx hb hK hP hD hS 1 0 rfl rfl (vp_in_nI (show x9 < 132 by omega) (by decide)) dX8_read_228 (fun H locs hP hD hS => ?_)
                              have hP : va_P D vwCl [_, oqI k mo_st 132 (upd g2 ((nI x9).toNatClampNeg) (hg (nI x9).toNatClampNeg)), _, _, _, _] H := hP
                              have hD : va_D A [_, oqI k mo_st 132 (upd g2 ((nI x9).toNatClampNeg) (hg (nI x9).toNatClampNeg)), _, _, _, _] := hD
                              refine lv_iinc (v := nI (x9 + 1)) (lv' := [(9, .int (nI (x9 + 1))), (8, .int (nI (80 + jj))), (7, .int (nI x7)), (6, .int (nI wh)), (5, .int re2), (0, .ref mo), (1, .int 2), (2, .int v), (3, .int f), (4, .int (nI nn))]) hx hb dX8_read_229 hl (k := 0) rfl (nI_add (x9) 1) (Nat.le_of_ble_eq_true rfl) rfl (fun ls hl => ?_)
                              refine lv_goto (tgt := 208) hx hb dX8_read_232 rfl ?_
                              exact ih208 (x9 + 1, upd g2 ((nI x9).toNatClampNeg) (hg (nI x9).toNatClampNeg)) (by (try dsimp only); exact ⟨by omega, fun q hq => if e9 : q = x9 then (by subst e9; rw [hs_ue (by omega) rfl, nI_clamp (by omega)]; exact hI26.2 _ (by omega)) else (by rw [hs_uc (by omega) e9]; exact hI.2.1 q (by omega)), fun q hq => by rw [hs_uc (by omega) (by omega)]; exact hI.2.2 q hq⟩) (by (try dsimp only); omega) _ _ _ hP hD hS (lv_sub hl [0, 1, 2, 3, 4, 5, 6, 7, 8, 9] rfl)
                          · (try dsimp only); exact ⟨by omega, fun q hq => absurd hq (Nat.not_lt_zero q), fun q hq => ((mWg_kp h0 hw_55 hI62.2.2.2.2.2.2).1 q (by omega)).trans (hK62 q (by omega))⟩
                    · have nc_52 : ¬ 2 ≤ cc := fun hq9 => c_52 ((nI_leI (a := 2) (b := cc) (by omega) (by omega)).mpr hq9)
                      refine lv_iload hx hb dX8_read_83 (lv_at hl 3 rfl) ?_
                      refine lv_if_ne (tgt := 164) hx hb dX8_read_85 rfl (fun c_59 => ?_) (fun c_59 => ?_)
                      · have hT9 : re2 = fTw (s_la 2) (s_z 2) v (pRd f x7) := rdI_end hI.2 (by omega) (Or.inr c_59)
                        have hI77 := hI
                        refine lv_iload hx hb dX8_read_164 (lv_at hl 3 rfl) ?_
                        refine lv_if_ne (tgt := 244) hx hb dX8_read_166 rfl (fun c_60 => ?_) (fun c_60 => absurd c_60 c_59)
                        refine lv_iinc (v := nI (x7 + 1)) (lv' := [(7, .int (nI (x7 + 1))), (8, .int (nI cc)), (6, .int (nI wh)), (5, .int re2), (0, .ref mo), (1, .int 2), (2, .int v), (3, .int f), (4, .int (nI nn))]) hx hb dX8_read_244 hl (k := 1) rfl (nI_add (x7) 1) (Nat.le_of_ble_eq_true rfl) rfl (fun ls hl => ?_)
                        refine lv_goto (tgt := 62) hx hb dX8_read_247 rfl ?_
                        exact ih62 (re2, wh, x7 + 1, g) (by (try dsimp only); have h8 := (hI62.2.2.1 c_51); exact ⟨by omega, by omega, fun z9 => absurd z9 c_60, fun _ => ⟨by omega, fun j hj => h8.2 j (by omega), by rw [h8.1]; exact hT9⟩, hI62.2.2.2.2.1, hI62.2.2.2.2.2.1, hI62.2.2.2.2.2.2⟩) (by (try dsimp only); omega) _ _ _ hP hD hS (lv_sub hl [0, 2, 3, 4, 5, 6, 7, 8] rfl)
                      · refine lv_iload_n hx hb dX8_read_88 rfl (lv_at hl 7 rfl) ?_
                        refine lv_i2l hx hb dX8_read_89 rfl ?_
                        refine lv_iconst (v := 2) hx hb dX8_read_90 hki_2 ?_
                        refine lv_iload hx hb dX8_read_91 (lv_at hl 1 rfl) ?_
                        refine lv_imul hx hb dX8_read_93 ?_
                        refine hs_topi (nI (2 * x7)) (pk_mul (2) (x7)) ?_
                        refine lv_i2l hx hb dX8_read_94 rfl ?_
                        refine lv_ladd hx hb dX8_read_95 ?_
                        refine lv_iload hx hb dX8_read_96 (lv_at hl 0 rfl) ?_
                        refine lv_i2l hx hb dX8_read_98 rfl ?_
                        refine lv_ladd hx hb dX8_read_99 ?_
                        refine lv_lstore (lv' := [(9, .long (((((f) : Int32).toInt64) + (((nI (2 * x7)) : Int32).toInt64)) + (((nI cc) : Int32).toInt64))), (8, .int (nI cc)), (7, .int (nI x7)), (6, .int (nI wh)), (5, .int re2), (0, .ref mo), (1, .int 2), (2, .int v), (3, .int f), (4, .int (nI nn))]) hx hb dX8_read_100 hl (Nat.le_of_ble_eq_true rfl) rfl (fun ls hl => ?_)
                        refine lv_aload_n hx hb dX8_read_102 rfl (lv_at hl 5 rfl) ?_
                        refine va_get (D := D) (ci := 7) (v := .ref mo_lanes) (C := RX8) (T := TX8) (N := 32) hx hb hts hiX8 hown hK hP 0 rfl rfl 27 (Nat.le_of_ble_eq_true rfl) fl32 (fun _ h9 => h9) rfl dX8_read_103 ?_
                        refine lv_iload_n hx hb dX8_read_106 rfl (lv_at hl 6 rfl) ?_
                        refine va_iald hx hb hK hP 2 0 rfl rfl (hs_in (by decide)) dX8_read_107 ?_
                        refine hs_topi (laf 2) (by rfl) ?_
                        refine lv_bipush (v := (-4)) hx hb dX8_read_108 hkb_m4 ?_
                        refine lv_icmp_ne (tgt := 117) hx hb dX8_read_110 rfl (fun c_61 => ?_) (fun c_61 => ?_)
                        · have hsk := rSh_yes hsh (k := 2) (by decide) c_61
                          have hzk := hsk.2.2.2.2.1
                          refine lv_aload_n hx hb dX8_read_117 rfl (lv_at hl 5 rfl) ?_
                          refine va_get (D := D) (ci := 7) (v := .ref mo_lanes) (C := RX8) (T := TX8) (N := 32) hx hb hts hiX8 hown hK hP 0 rfl rfl 27 (Nat.le_of_ble_eq_true rfl) fl32 (fun _ h9 => h9) rfl dX8_read_118 ?_
                          refine lv_iload_n hx hb dX8_read_121 rfl (lv_at hl 6 rfl) ?_
                          refine va_iald hx hb hK hP 2 0 rfl rfl (hs_in (by decide)) dX8_read_122 ?_
                          refine hs_topi (laf 2) (by rfl) ?_
                          refine lv_iload_n hx hb dX8_read_123 rfl (lv_at hl 7 rfl) ?_
                          refine lv_icmp_eq (tgt := 131) hx hb dX8_read_124 rfl (fun c_62 => ?_) (fun c_62 => ?_)
                          · refine lv_lload hx hb dX8_read_131 (lv_at hl 0 rfl) ?_
                            refine lv_lconst (v := 0) hx hb dX8_read_133 (by decide) ?_
                            refine W.lcmp hx hb dX8_read_134 ?_
                            refine lv_if_lt (tgt := 151) hx hb dX8_read_135 rfl (fun c_63 => ?_) (fun c_63 => ?_)
                            · refine lv_iconst (v := 2) hx hb dX8_read_151 hki_2 ?_
                              refine lv_goto (tgt := 156) hx hb dX8_read_152 rfl ?_
                              refine lv_istore (lv' := [(5, .int 2), (9, .long (((((f) : Int32).toInt64) + (((nI (2 * x7)) : Int32).toInt64)) + (((nI cc) : Int32).toInt64))), (8, .int (nI cc)), (7, .int (nI x7)), (6, .int (nI wh)), (0, .ref mo), (1, .int 2), (2, .int v), (3, .int f), (4, .int (nI nn))]) hx hb dX8_read_156 hl (Nat.le_of_ble_eq_true rfl) rfl (fun ls hl => ?_)
                              refine lv_iinc (v := nI (cc + 1)) (lv' := [(8, .int (nI (cc + 1))), (5, .int 2), (9, .long (((((f) : Int32).toInt64) + (((nI (2 * x7)) : Int32).toInt64)) + (((nI cc) : Int32).toInt64))), (7, .int (nI x7)), (6, .int (nI wh)), (0, .ref mo), (1, .int 2), (2, .int v), (3, .int f), (4, .int (nI nn))]) hx hb dX8_read_158 hl (k := 2) rfl (nI_add (cc) 1) (Nat.le_of_ble_eq_true rfl) rfl (fun ls hl => ?_)
                              refine lv_goto (tgt := 77) hx hb dX8_read_161 rfl ?_
                              exact ih77 (2, cc + 1) (by (try dsimp only); have hsk := rSh_yes hsh (k := 2) (by decide) c_61; have hle : v = s_la 2 := c_62.symm.trans hsk.1; have hq := rd_out1 (f := f) (i := x7) (c := cc) (z := s_z 2) (by omega) (by omega) hsk.2.2.2.2.1 c_63; exact ⟨by omega, rdI_step hI.2 (by omega) c_59 (fun h8 => by rw [g0R, if_neg hsk.2.1, if_neg (fun z9 => z9 hle), if_neg (hq.1 h8)]) (fun h8 h9 => (fAt_out hsk.2.1 (hq.2 h8 (g0R_0 h9).2.2)).symm)⟩) (by (try dsimp only); omega) _ _ _ hP hD hS (lv_sub hl [0, 3, 4, 1, 5, 6, 7, 8, 9] rfl)
                            · refine lv_lload hx hb dX8_read_138 (lv_at hl 0 rfl) ?_
                              refine lv_aload_n hx hb dX8_read_140 rfl (lv_at hl 5 rfl) ?_
                              refine va_get (D := D) (ci := 7) (v := .ref mo_sizes) (C := RX8) (T := TX8) (N := 32) hx hb hts hiX8 hown hK hP 0 rfl rfl 28 (Nat.le_of_ble_eq_true rfl) fl35 (fun _ h9 => h9) rfl dX8_read_141 ?_
                              refine lv_iload_n hx hb dX8_read_144 rfl (lv_at hl 6 rfl) ?_
                              refine va_iald hx hb hK hP 3 0 rfl rfl (hs_in (by decide)) dX8_read_145 ?_
                              refine hs_topi (nI (s_z 2)) (hsk.2.2.2.1) ?_
                              refine lv_i2l hx hb dX8_read_146 rfl ?_
                              refine W.lcmp hx hb dX8_read_147 ?_
                              refine lv_if_lt (tgt := 155) hx hb dX8_read_148 rfl (fun c_64 => ?_) (fun c_64 => ?_)
                              · refine lv_iconst (v := 0) hx hb dX8_read_155 hki_0 ?_
                                refine lv_istore (lv' := [(5, .int 0), (9, .long (((((f) : Int32).toInt64) + (((nI (2 * x7)) : Int32).toInt64)) + (((nI cc) : Int32).toInt64))), (8, .int (nI cc)), (7, .int (nI x7)), (6, .int (nI wh)), (0, .ref mo), (1, .int 2), (2, .int v), (3, .int f), (4, .int (nI nn))]) hx hb dX8_read_156 hl (Nat.le_of_ble_eq_true rfl) rfl (fun ls hl => ?_)
                                refine lv_iinc (v := nI (cc + 1)) (lv' := [(8, .int (nI (cc + 1))), (5, .int 0), (9, .long (((((f) : Int32).toInt64) + (((nI (2 * x7)) : Int32).toInt64)) + (((nI cc) : Int32).toInt64))), (7, .int (nI x7)), (6, .int (nI wh)), (0, .ref mo), (1, .int 2), (2, .int v), (3, .int f), (4, .int (nI nn))]) hx hb dX8_read_158 hl (k := 2) rfl (nI_add (cc) 1) (Nat.le_of_ble_eq_true rfl) rfl (fun ls hl => ?_)
                                refine lv_goto (tgt := 77) hx hb dX8_read_161 rfl ?_
                                exact ih77 (0, cc + 1) (by (try dsimp only); have hsk := rSh_yes hsh (k := 2) (by decide) c_61; have hle : v = s_la 2 := c_62.symm.trans hsk.1; have hq := rd_in (f := f) (i := x7) (c := cc) (z := s_z 2) (by omega) (by omega) hsk.2.2.2.2.1 c_63 c_64; exact ⟨by omega, rdI_step hI.2 (by omega) c_59 (fun h8 => by rw [g0R, if_neg hsk.2.1, if_neg (fun z9 => z9 hle), if_pos (hq.1 h8)]) (fun h8 h9 => (fAt_in hsk.2.1 (hq.2 h8 (g0R_0 h9).2.2)).symm)⟩) (by (try dsimp only); omega) _ _ _ hP hD hS (lv_sub hl [0, 3, 4, 1, 5, 6, 7, 8, 9] rfl)
                              · refine lv_iconst (v := 2) hx hb dX8_read_151 hki_2 ?_
                                refine lv_goto (tgt := 156) hx hb dX8_read_152 rfl ?_
                                refine lv_istore (lv' := [(5, .int 2), (9, .long (((((f) : Int32).toInt64) + (((nI (2 * x7)) : Int32).toInt64)) + (((nI cc) : Int32).toInt64))), (8, .int (nI cc)), (7, .int (nI x7)), (6, .int (nI wh)), (0, .ref mo), (1, .int 2), (2, .int v), (3, .int f), (4, .int (nI nn))]) hx hb dX8_read_156 hl (Nat.le_of_ble_eq_true rfl) rfl (fun ls hl => ?_)
                                refine lv_iinc (v := nI (cc + 1)) (lv' := [(8, .int (nI (cc + 1))), (5, .int 2), (9, .long (((((f) : Int32).toInt64) + (((nI (2 * x7)) : Int32).toInt64)) + (((nI cc) : Int32).toInt64))), (7, .int (nI x7)), (6, .int (nI wh)), (0, .ref mo), (1, .int 2), (2, .int v), (3, .int f), (4, .int (nI nn))]) hx hb dX8_read_158 hl (k := 2) rfl (nI_add (cc) 1) (Nat.le_of_ble_eq_true rfl) rfl (fun ls hl => ?_)
                                refine lv_goto (tgt := 77) hx hb dX8_read_161 rfl ?_
                                exact ih77 (2, cc + 1) (by (try dsimp only); have hsk := rSh_yes hsh (k := 2) (by decide) c_61; have hle : v = s_la 2 := c_62.symm.trans hsk.1; have hq := rd_out2 (f := f) (i := x7) (c := cc) (z := s_z 2) (by omega) (by omega) hsk.2.2.2.2.1 c_64; exact ⟨by omega, rdI_step hI.2 (by omega) c_59 (fun h8 => by rw [g0R, if_neg hsk.2.1, if_neg (fun z9 => z9 hle), if_neg (hq.1 h8)]) (fun h8 h9 => (fAt_out hsk.2.1 (hq.2 h8 (g0R_0 h9).2.2)).symm)⟩) (by (try dsimp only); omega) _ _ _ hP hD hS (lv_sub hl [0, 3, 4, 1, 5, 6, 7, 8, 9] rfl)
                          · refine lv_iconst (v := 3) hx hb dX8_read_127 hki_3 ?_
                            refine lv_goto (tgt := 156) hx hb dX8_read_128 rfl ?_
                            refine lv_istore (lv' := [(5, .int 3), (9, .long (((((f) : Int32).toInt64) + (((nI (2 * x7)) : Int32).toInt64)) + (((nI cc) : Int32).toInt64))), (8, .int (nI cc)), (7, .int (nI x7)), (6, .int (nI wh)), (0, .ref mo), (1, .int 2), (2, .int v), (3, .int f), (4, .int (nI nn))]) hx hb dX8_read_156 hl (Nat.le_of_ble_eq_true rfl) rfl (fun ls hl => ?_)
                            refine lv_iinc (v := nI (cc + 1)) (lv' := [(8, .int (nI (cc + 1))), (5, .int 3), (9, .long (((((f) : Int32).toInt64) + (((nI (2 * x7)) : Int32).toInt64)) + (((nI cc) : Int32).toInt64))), (7, .int (nI x7)), (6, .int (nI wh)), (0, .ref mo), (1, .int 2), (2, .int v), (3, .int f), (4, .int (nI nn))]) hx hb dX8_read_158 hl (k := 2) rfl (nI_add (cc) 1) (Nat.le_of_ble_eq_true rfl) rfl (fun ls hl => ?_)
                            refine lv_goto (tgt := 77) hx hb dX8_read_161 rfl ?_
                            exact ih77 (3, cc + 1) (by (try dsimp only); have hsk := rSh_yes hsh (k := 2) (by decide) c_61; exact ⟨by omega, rdI_step hI.2 (by omega) c_59 (fun _ => by rw [g0R, if_neg hsk.2.1, if_pos (fun z9 => c_62 (hsk.1.trans z9.symm))]) (fun _ h9 => absurd (hsk.1.trans (g0R_0 h9).2.1.symm) c_62)⟩) (by (try dsimp only); omega) _ _ _ hP hD hS (lv_sub hl [0, 3, 4, 1, 5, 6, 7, 8, 9] rfl)
                        · refine lv_iconst (v := 1) hx hb dX8_read_113 hki_1 ?_
                          refine lv_goto (tgt := 156) hx hb dX8_read_114 rfl ?_
                          refine lv_istore (lv' := [(5, .int 1), (9, .long (((((f) : Int32).toInt64) + (((nI (2 * x7)) : Int32).toInt64)) + (((nI cc) : Int32).toInt64))), (8, .int (nI cc)), (7, .int (nI x7)), (6, .int (nI wh)), (0, .ref mo), (1, .int 2), (2, .int v), (3, .int f), (4, .int (nI nn))]) hx hb dX8_read_156 hl (Nat.le_of_ble_eq_true rfl) rfl (fun ls hl => ?_)
                          refine lv_iinc (v := nI (cc + 1)) (lv' := [(8, .int (nI (cc + 1))), (5, .int 1), (9, .long (((((f) : Int32).toInt64) + (((nI (2 * x7)) : Int32).toInt64)) + (((nI cc) : Int32).toInt64))), (7, .int (nI x7)), (6, .int (nI wh)), (0, .ref mo), (1, .int 2), (2, .int v), (3, .int f), (4, .int (nI nn))]) hx hb dX8_read_158 hl (k := 2) rfl (nI_add (cc) 1) (Nat.le_of_ble_eq_true rfl) rfl (fun ls hl => ?_)
                          refine lv_goto (tgt := 77) hx hb dX8_read_161 rfl ?_
                          exact ih77 (1, cc + 1) (by (try dsimp only); exact ⟨by omega, rdI_step hI.2 (by omega) c_59 (fun _ => by rw [g0R, if_pos (rSh_nul hsh (k := 2) (by decide) c_61)]) (fun _ h9 => absurd (rSh_nul hsh (k := 2) (by decide) c_61) (g0R_0 h9).1)⟩) (by (try dsimp only); omega) _ _ _ hP hD hS (lv_sub hl [0, 3, 4, 1, 5, 6, 7, 8, 9] rfl)
                  · (try dsimp only); exact ⟨by omega, fun _ => c_51, fun h => absurd h (by decide), fun h => absurd h (by decide)⟩
            · (try dsimp only); exact ⟨Nat.zero_le _, Nat.le_refl _, fun _ => ⟨rfl, fun j hj => absurd hj (Nat.not_lt_zero j)⟩, fun z9 => absurd rfl z9, rfl, fun _ _ => rfl, hwb⟩
          · have nc_49 : ¬ 44 ≤ x0 := fun hq9 => c_49 ((nI_leI (a := 44) (b := x0) (by omega) (by omega)).mpr hq9)
            refine lv_aload_n hx hb dX8_read_33 rfl (lv_at hl 1 rfl) ?_
            refine va_get (D := D) (ci := 7) (v := .ref mo_had) (C := RX8) (T := TX8) (N := 32) hx hb hts hiX8 hown hK hP 0 rfl rfl 31 (Nat.le_of_ble_eq_true rfl) fl41 (fun _ h9 => h9) rfl dX8_read_34 ?_
            refine lv_iload hx hb dX8_read_37 (lv_at hl 0 rfl) ?_
            refine lv_aload_n hx hb dX8_read_39 rfl (lv_at hl 1 rfl) ?_
            refine va_get (D := D) (ci := 7) (v := .ref mo_st) (C := RX8) (T := TX8) (N := 32) hx hb hts hiX8 hown hK hP 0 rfl rfl 0 (Nat.le_of_ble_eq_true rfl) fl7 (fun _ h9 => h9) rfl dX8_read_40 ?_
            refine lv_iload hx hb dX8_read_43 (lv_at hl 0 rfl) ?_
            refine va_iald hx hb hK hP 1 0 rfl rfl (vp_in_nI (show x0 < 132 by omega) (by decide)) dX8_read_45 ?_
            refine va_iast hx hb hK hP hD hS 5 0 rfl rfl (vp_in_nI (show x0 < 44 by omega) (by decide)) dX8_read_46 (fun H locs hP hD hS => ?_)
            have hP : va_P D vwCl [_, oqI k mo_st 132 (sf), _, _, _, oqI k mo_had 44 (upd hg ((nI x0).toNatClampNeg) (sf (nI x0).toNatClampNeg))] H := hP
            have hD : va_D A [_, oqI k mo_st 132 (sf), _, _, _, oqI k mo_had 44 (upd hg ((nI x0).toNatClampNeg) (sf (nI x0).toNatClampNeg))] := hD
            refine lv_iinc (v := nI (x0 + 1)) (lv' := [(5, .int (nI (x0 + 1))), (0, .ref mo), (1, .int 2), (2, .int v), (3, .int f), (4, .int (nI nn))]) hx hb dX8_read_47 hl (k := 0) rfl (nI_add (x0) 1) (Nat.le_of_ble_eq_true rfl) rfl (fun ls hl => ?_)
            refine lv_goto (tgt := 26) hx hb dX8_read_50 rfl ?_
            exact ih26 (x0 + 1, upd hg ((nI x0).toNatClampNeg) (sf (nI x0).toNatClampNeg)) (by (try dsimp only); exact ⟨by omega, hs_filled (by omega) hI.2⟩) (by (try dsimp only); omega) _ _ _ hP hD hS (lv_sub hl [0, 1, 2, 3, 4, 5] rfl)
        · (try dsimp only); exact ⟨by omega, fun j hj => absurd hj (by omega)⟩
      · refine lv_iconst (v := (-1)) hx hb dX8_read_21 hki_m1 ?_
        exact hs_iret hx hb hr hlocks hK hP hD hS (sf, ha, mo_torn) [0, 1, 2, 3, 4, 5] rfl (hs_upnd rfl) dX8_read_22 (Or.inl ⟨hs_rbad (Or.inr (Or.inr (hs_n0 c_48))), rfl, rfl⟩)
    · refine lv_iload hx hb dX8_read_8 (lv_at hl 4 rfl) ?_
      refine lv_i2l hx hb dX8_read_10 rfl ?_
      refine lv_lconst (v := 0) hx hb dX8_read_11 (by decide) ?_
      refine lv_ldc2 hx hb hown kl284 dX8_read_12 ?_
      refine hs_pi (va_runS (As := [.long (((n) : Int32).toInt64), .long 0, .long 20]) (rest := []) ⟨hx, hb, hml, hown, hts⟩ (gm_in l D k _ n 0 20) (va_cwS 3 hts gX8_read_X8_in rfl rfl rfl hq_X8_in ⟨Nat.le_of_ble_eq_true rfl, Nat.le_of_ble_eq_true rfl⟩) (hs_preS hK hN (hs_subP (w := []) hP [] rfl) (hD.sub (ws' := []) [] rfl rfl)) rfl rfl hl.1 rfl (lv_room (Nat.le_of_ble_eq_true rfl)) dX8_read_15 ⟨Nat.le_of_ble_eq_true rfl, Nat.le_of_ble_eq_true rfl⟩) hP hD hS hA (fun r_65 u_67 H locs hw_66 hP hS => ?_)
      refine hs_topi (hsb (hsin n 0 20)) hw_66 ?_
      refine lv_if_ne (tgt := 23) hx hb dX8_read_18 rfl (fun c_68 => ?_) (fun c_68 => ?_)
      · obtain ⟨nn, hnn, hnnb, rfl⟩ := hs_rng (lo := 0) (hi := 20) (by omega) (by omega) (hs_nb c_68)
        refine lv_iconst (v := 0) hx hb dX8_read_23 hki_0 ?_
        refine lv_istore (lv' := [(5, .int 0), (0, .ref mo), (1, .int 3), (2, .int v), (3, .int f), (4, .int (nI nn))]) hx hb dX8_read_24 hl (Nat.le_of_ble_eq_true rfl) rfl (fun ls hl => ?_)
        refine hs_while (σ := Nat × (Nat → Int32)) (fun x => x.1 ≤ 44 ∧ ∀ j, j < x.1 → x.2 j = sf j) (fun x => 44 - x.1) (fun x => [oq7 mo mo_st mo_at mo_isKept (nI mo_pe) (nI mo_hm) mo_draft (nI mo_dp) (nI mo_dh) mo_toldLines mo_highest mo_tape (nI mo_tl) (nI mo_ps) (nI mo_fr) mo_sort mo_value (nI mo_ft) mo_wrongAt mo_row mo_orderMany (nI mo_fo) mo_lightest mo_heaviest mo_before mo_justSum mo_toldSum mo_allWays mo_lanes mo_sizes mo_cells mo_torn mo_had, oqI k mo_st 132 (sf), oqI k mo_lanes 4 (laf), oqI k mo_sizes 4 (sif), oqI k mo_cells 160 (ce), oqI k mo_had 44 ((x.2))]) (fun x => [(5, .int (nI (x.1))), (0, .ref mo), (1, .int 3), (2, .int v), (3, .int f), (4, .int (nI nn))]) ?_ (0, ha) ?_ hP hD hS hl
        · intro x hI ih26 H locs ls hP hD hS hl
          obtain ⟨x0, hg⟩ := x
          try dsimp only at hI
          have hP : va_P D vwCl [_, _, _, _, _, oqI k mo_had 44 (hg)] H := hP
          have hD : va_D A [_, _, _, _, _, oqI k mo_had 44 (hg)] := hD
          have hl : lv_has ls 11 [(5, .int (nI x0)), (0, .ref mo), (1, .int 3), (2, .int v), (3, .int f), (4, .int (nI nn))] := hl
          refine lv_iload hx hb dX8_read_26 (lv_at hl 0 rfl) ?_
          refine lv_bipush (v := 44) hx hb dX8_read_28 hkb_44 ?_
          refine lv_icmp_ge (tgt := 53) hx hb dX8_read_30 rfl (fun c_69 => ?_) (fun c_69 => ?_)
          · have nc_69 : 44 ≤ x0 := (nI_leI (a := 44) (b := x0) (by omega) (by omega)).mp c_69
            have hI26 := hI
            refine lv_iconst (v := 0) hx hb dX8_read_53 hki_0 ?_
            refine lv_istore (lv' := [(5, .int 0), (0, .ref mo), (1, .int 3), (2, .int v), (3, .int f), (4, .int (nI nn))]) hx hb dX8_read_54 hl (Nat.le_of_ble_eq_true rfl) rfl (fun ls hl => ?_)
            refine lv_iconst (v := 0) hx hb dX8_read_56 hki_0 ?_
            refine lv_istore (lv' := [(6, .int 0), (5, .int 0), (0, .ref mo), (1, .int 3), (2, .int v), (3, .int f), (4, .int (nI nn))]) hx hb dX8_read_57 hl (Nat.le_of_ble_eq_true rfl) rfl (fun ls hl => ?_)
            refine lv_iconst (v := 0) hx hb dX8_read_59 hki_0 ?_
            refine lv_istore (lv' := [(7, .int 0), (6, .int 0), (5, .int 0), (0, .ref mo), (1, .int 3), (2, .int v), (3, .int f), (4, .int (nI nn))]) hx hb dX8_read_60 hl (Nat.le_of_ble_eq_true rfl) rfl (fun ls hl => ?_)
            refine hs_while (σ := Int32 × Nat × Nat × (Nat → Int32)) (fun x => x.2.2.1 ≤ nn ∧ x.2.1 ≤ x.2.2.1 ∧ (x.1 = 0 → (x.2.1 = x.2.2.1 ∧ ∀ j, j < x.2.2.1 → okR c0 (s_la 3) (s_z 3) (s_r 3) v f j)) ∧ (¬ x.1 = 0 → (x.2.1 + 1 = x.2.2.1 ∧ (∀ j, j < x.2.1 → okR c0 (s_la 3) (s_z 3) (s_r 3) v f j) ∧ x.1 = fTw (s_la 3) (s_z 3) v (pRd f x.2.1))) ∧ x.2.2.2 = wtM (s_z 3) (s_r 3) f sf x.2.1 ∧ (∀ q, ¬ (1 ≤ q ∧ q ≤ 8) → x.2.2.2 q = sf q) ∧ ∀ j, j < c0 → vp_in (x.2.2.2 (1 + j)) 10) (fun x => nn - x.2.2.1) (fun x => [oq7 mo mo_st mo_at mo_isKept (nI mo_pe) (nI mo_hm) mo_draft (nI mo_dp) (nI mo_dh) mo_toldLines mo_highest mo_tape (nI mo_tl) (nI mo_ps) (nI mo_fr) mo_sort mo_value (nI mo_ft) mo_wrongAt mo_row mo_orderMany (nI mo_fo) mo_lightest mo_heaviest mo_before mo_justSum mo_toldSum mo_allWays mo_lanes mo_sizes mo_cells mo_torn mo_had, oqI k mo_st 132 ((x.2.2.2)), oqI k mo_lanes 4 (laf), oqI k mo_sizes 4 (sif), oqI k mo_cells 160 (ce), oqI k mo_had 44 (hg)]) (fun x => [(7, .int (nI (x.2.2.1))), (6, .int (nI (x.2.1))), (5, .int (x.1)), (0, .ref mo), (1, .int 3), (2, .int v), (3, .int f), (4, .int (nI nn))]) ?_ (0, 0, 0, sf) ?_ hP hD hS hl
            · intro x hI ih62 H locs ls hP hD hS hl
              obtain ⟨re, wh, x7, g⟩ := x
              try dsimp only at hI
              have hP : va_P D vwCl [_, oqI k mo_st 132 (g), _, _, _, _] H := hP
              have hD : va_D A [_, oqI k mo_st 132 (g), _, _, _, _] := hD
              have hl : lv_has ls 11 [(7, .int (nI x7)), (6, .int (nI wh)), (5, .int re), (0, .ref mo), (1, .int 3), (2, .int v), (3, .int f), (4, .int (nI nn))] := hl
              refine lv_iload hx hb dX8_read_62 (lv_at hl 0 rfl) ?_
              refine lv_iload hx hb dX8_read_64 (lv_at hl 7 rfl) ?_
              refine lv_icmp_ge (tgt := 250) hx hb dX8_read_66 rfl (fun c_70 => ?_) (fun c_70 => ?_)
              · have nc_70 : nn ≤ x7 := (nI_leI (a := nn) (b := x7) (by omega) (by omega)).mp c_70
                refine lv_aload_n hx hb dX8_read_250 rfl (lv_at hl 3 rfl) ?_
                refine lv_iload hx hb dX8_read_251 (lv_at hl 2 rfl) ?_
                refine va_put (D := D) (ci := 7) (v := .int re) (ty := .int) (C := RX8) (T := TX8) (N := 32) hx hb hts hiX8 tyX8 tyX8_ok nmX8 hown hK hP hD hS 0 rfl rfl 30 (Nat.le_of_ble_eq_true rfl) fl289 (fun _ h9 => h9) rfl (by decide +kernel) rfl rfl (Nat.le_of_ble_eq_true rfl) dX8_read_253 (fun H locs hP hD hS => ?_)
                have hP : va_P D vwCl [oq7 mo mo_st mo_at mo_isKept (nI mo_pe) (nI mo_hm) mo_draft (nI mo_dp) (nI mo_dh) mo_toldLines mo_highest mo_tape (nI mo_tl) (nI mo_ps) (nI mo_fr) mo_sort mo_value (nI mo_ft) mo_wrongAt mo_row mo_orderMany (nI mo_fo) mo_lightest mo_heaviest mo_before mo_justSum mo_toldSum mo_allWays mo_lanes mo_sizes mo_cells re mo_had, _, _, _, _, _] H := hP
                have hD : va_D A [oq7 mo mo_st mo_at mo_isKept (nI mo_pe) (nI mo_hm) mo_draft (nI mo_dp) (nI mo_dh) mo_toldLines mo_highest mo_tape (nI mo_tl) (nI mo_ps) (nI mo_fr) mo_sort mo_value (nI mo_ft) mo_wrongAt mo_row mo_orderMany (nI mo_fo) mo_lightest mo_heaviest mo_before mo_justSum mo_toldSum mo_allWays mo_lanes mo_sizes mo_cells re mo_had, _, _, _, _, _] := hD
                refine lv_iload hx hb dX8_read_256 (lv_at hl 1 rfl) ?_
                exact hs_iret hx hb hr hlocks hK hP hD hS (g, hg, re) [0, 1, 2, 3, 4, 5] rfl (hs_upnd rfl) dX8_read_258 (Or.inr ⟨3, nn, by decide, rfl, by omega, rfl, hs_and2 (hs_nb c_4), (if e9 : re = 0 then (by have h9 := hI.2.2.1 e9; have h2 : wh = nn := (by first | omega | exact absurd e9 (by assumption)); exact ⟨wh, by omega, fun j hj => h9.2 j (by omega), Or.inr (Or.inl ⟨h2, rfl, by (try dsimp only); rw [hI.2.2.2.2.1, e9]⟩)⟩) else (by have h9 := hI.2.2.2.1 e9; exact ⟨wh, by omega, h9.2.1, Or.inr (Or.inr ⟨by omega, by rw [← h9.2.2]; exact e9, rfl, by (try dsimp only); rw [hI.2.2.2.2.1, ← h9.2.2]⟩)⟩))⟩)
              · have nc_70 : ¬ nn ≤ x7 := fun hq9 => c_70 ((nI_leI (a := nn) (b := x7) (by omega) (by omega)).mpr hq9)
                refine lv_iload hx hb dX8_read_69 (lv_at hl 2 rfl) ?_
                refine lv_if_ne (tgt := 250) hx hb dX8_read_71 rfl (fun c_71 => ?_) (fun c_71 => ?_)
                · refine lv_aload_n hx hb dX8_read_250 rfl (lv_at hl 3 rfl) ?_
                  refine lv_iload hx hb dX8_read_251 (lv_at hl 2 rfl) ?_
                  refine va_put (D := D) (ci := 7) (v := .int re) (ty := .int) (C := RX8) (T := TX8) (N := 32) hx hb hts hiX8 tyX8 tyX8_ok nmX8 hown hK hP hD hS 0 rfl rfl 30 (Nat.le_of_ble_eq_true rfl) fl289 (fun _ h9 => h9) rfl (by decide +kernel) rfl rfl (Nat.le_of_ble_eq_true rfl) dX8_read_253 (fun H locs hP hD hS => ?_)
                  have hP : va_P D vwCl [_, _, _, _, _, _] H := hP
                  have hD : va_D A [_, _, _, _, _, _] := hD
                  refine lv_iload hx hb dX8_read_256 (lv_at hl 1 rfl) ?_
                  exact hs_iret hx hb hr hlocks hK hP hD hS (g, hg, re) [0, 1, 2, 3, 4, 5] rfl (hs_upnd rfl) dX8_read_258 (Or.inr ⟨3, nn, by decide, rfl, by omega, rfl, hs_and2 (hs_nb c_4), (if e9 : re = 0 then (by have h9 := hI.2.2.1 e9; have h2 : wh = nn := (by first | omega | exact absurd e9 (by assumption)); exact ⟨wh, by omega, fun j hj => h9.2 j (by omega), Or.inr (Or.inl ⟨h2, rfl, by (try dsimp only); rw [hI.2.2.2.2.1, e9]⟩)⟩) else (by have h9 := hI.2.2.2.1 e9; exact ⟨wh, by omega, h9.2.1, Or.inr (Or.inr ⟨by omega, by rw [← h9.2.2]; exact e9, rfl, by (try dsimp only); rw [hI.2.2.2.2.1, ← h9.2.2]⟩)⟩))⟩)
                · have hI62 := hI
                  refine lv_iconst (v := 0) hx hb dX8_read_74 hki_0 ?_
                  refine lv_istore (lv' := [(8, .int 0), (7, .int (nI x7)), (6, .int (nI wh)), (5, .int re), (0, .ref mo), (1, .int 3), (2, .int v), (3, .int f), (4, .int (nI nn))]) hx hb dX8_read_75 hl (Nat.le_of_ble_eq_true rfl) rfl (fun ls hl => ?_)
                  refine hs_while (σ := Int32 × Nat) (fun x => x.2 ≤ 2 ∧ rdI (s_la 3) (s_z 3) v (pRd f x7) x.2 x.1) (fun x => 2 - x.2) (fun x => [oq7 mo mo_st mo_at mo_isKept (nI mo_pe) (nI mo_hm) mo_draft (nI mo_dp) (nI mo_dh) mo_toldLines mo_highest mo_tape (nI mo_tl) (nI mo_ps) (nI mo_fr) mo_sort mo_value (nI mo_ft) mo_wrongAt mo_row mo_orderMany (nI mo_fo) mo_lightest mo_heaviest mo_before mo_justSum mo_toldSum mo_allWays mo_lanes mo_sizes mo_cells mo_torn mo_had, oqI k mo_st 132 (g), oqI k mo_lanes 4 (laf), oqI k mo_sizes 4 (sif), oqI k mo_cells 160 (ce), oqI k mo_had 44 (hg)]) (fun x => [(8, .int (nI (x.2))), (7, .int (nI x7)), (6, .int (nI wh)), (5, .int (x.1)), (0, .ref mo), (1, .int 3), (2, .int v), (3, .int f), (4, .int (nI nn))]) ?_ (re, 0) ?_ hP hD hS hl
                  · intro x hI ih77 H locs ls hP hD hS hl
                    obtain ⟨re2, cc⟩ := x
                    try dsimp only at hI
                    have hP : va_P D vwCl [oq7 mo mo_st mo_at mo_isKept (nI mo_pe) (nI mo_hm) mo_draft (nI mo_dp) (nI mo_dh) mo_toldLines mo_highest mo_tape (nI mo_tl) (nI mo_ps) (nI mo_fr) mo_sort mo_value (nI mo_ft) mo_wrongAt mo_row mo_orderMany (nI mo_fo) mo_lightest mo_heaviest mo_before mo_justSum mo_toldSum mo_allWays mo_lanes mo_sizes mo_cells mo_torn mo_had, _, _, _, _, _] H := hP
                    have hD : va_D A [oq7 mo mo_st mo_at mo_isKept (nI mo_pe) (nI mo_hm) mo_draft (nI mo_dp) (nI mo_dh) mo_toldLines mo_highest mo_tape (nI mo_tl) (nI mo_ps) (nI mo_fr) mo_sort mo_value (nI mo_ft) mo_wrongAt mo_row mo_orderMany (nI mo_fo) mo_lightest mo_heaviest mo_before mo_justSum mo_toldSum mo_allWays mo_lanes mo_sizes mo_cells mo_torn mo_had, _, _, _, _, _] := hD
                    have hl : lv_has ls 11 [(8, .int (nI cc)), (7, .int (nI x7)), (6, .int (nI wh)), (5, .int re2), (0, .ref mo), (1, .int 3), (2, .int v), (3, .int f), (4, .int (nI nn))] := hl
                    refine lv_iload hx hb dX8_read_77 (lv_at hl 0 rfl) ?_
                    refine lv_iconst (v := 2) hx hb dX8_read_79 hki_2 ?_
                    refine lv_icmp_ge (tgt := 164) hx hb dX8_read_80 rfl (fun c_72 => ?_) (fun c_72 => ?_)
                    · have nc_72 : 2 ≤ cc := (nI_leI (a := 2) (b := cc) (by omega) (by omega)).mp c_72
                      have hT9 : re2 = fTw (s_la 3) (s_z 3) v (pRd f x7) := rdI_end hI.2 (by omega) (Or.inl (by omega))
                      have hI77 := hI
                      refine lv_iload hx hb dX8_read_164 (lv_at hl 3 rfl) ?_
                      refine lv_if_ne (tgt := 244) hx hb dX8_read_166 rfl (fun c_73 => ?_) (fun c_73 => ?_)
                      · refine lv_iinc (v := nI (x7 + 1)) (lv' := [(7, .int (nI (x7 + 1))), (8, .int (nI cc)), (6, .int (nI wh)), (5, .int re2), (0, .ref mo), (1, .int 3), (2, .int v), (3, .int f), (4, .int (nI nn))]) hx hb dX8_read_244 hl (k := 1) rfl (nI_add (x7) 1) (Nat.le_of_ble_eq_true rfl) rfl (fun ls hl => ?_)
                        refine lv_goto (tgt := 62) hx hb dX8_read_247 rfl ?_
                        exact ih62 (re2, wh, x7 + 1, g) (by (try dsimp only); have h8 := (hI62.2.2.1 c_71); exact ⟨by omega, by omega, fun z9 => absurd z9 c_73, fun _ => ⟨by omega, fun j hj => h8.2 j (by omega), by rw [h8.1]; exact hT9⟩, hI62.2.2.2.2.1, hI62.2.2.2.2.2.1, hI62.2.2.2.2.2.2⟩) (by (try dsimp only); omega) _ _ _ hP hD hS (lv_sub hl [0, 2, 3, 4, 5, 6, 7, 8] rfl)
                      · have hf9 := fTw_0 (hT9.symm.trans c_73)
                        have hsk := rSh_la hsh (k := 3) (by decide) hf9.1
                        have hzk := hsk.2.2.2.2.1
                        have hL9 := (hs_lsum (by omega) hzk).mp hf9.2.2.1
                        obtain ⟨jj, hjj, ejj⟩ := hs_rdix (f := f) (i := x7) (c := 120) (by omega) (by decide) (by omega) (by omega)
                        have hcel := hs_rdcell (ce := ce) (w := s_r 3) (k := 3) (z := s_z 3) (i := x7) (jj := jj) (f := f) (by omega) hzk hsk.2.2.2.2.2 hf9.2.2.1 hf9.2.2.2 hjj
                        have hM9 := (hs_lsum1 (by omega) hzk hf9.2.2.1).mp hf9.2.2.2
                        have hK62 := hI62.2.2.2.2.2.1
                        refine lv_bipush (v := 40) hx hb dX8_read_169 hkb_40 ?_
                        refine lv_iload_n hx hb dX8_read_171 rfl (lv_at hl 5 rfl) ?_
                        refine lv_imul hx hb dX8_read_172 ?_
                        refine hs_topi 120 (by first | rfl | decide +kernel) ?_
                        refine lv_iload_n hx hb dX8_read_173 rfl (lv_at hl 7 rfl) ?_
                        refine lv_iadd hx hb dX8_read_174 ?_
                        refine lv_iconst (v := 2) hx hb dX8_read_175 hki_2 ?_
                        refine lv_iload hx hb dX8_read_176 (lv_at hl 1 rfl) ?_
                        refine lv_imul hx hb dX8_read_178 ?_
                        refine hs_topi (nI (2 * x7)) (pk_mul (2) (x7)) ?_
                        refine lv_iadd hx hb dX8_read_179 ?_
                        refine hs_topi (nI (120 + jj)) ejj ?_
                        refine lv_istore (lv' := [(8, .int (nI (120 + jj))), (7, .int (nI x7)), (6, .int (nI wh)), (5, .int re2), (0, .ref mo), (1, .int 3), (2, .int v), (3, .int f), (4, .int (nI nn))]) hx hb dX8_read_180 hl (Nat.le_of_ble_eq_true rfl) rfl (fun ls hl => ?_)
                        refine lv_aload_n hx hb dX8_read_182 rfl (lv_at hl 4 rfl) ?_
                        refine lv_aload_n hx hb dX8_read_183 rfl (lv_at hl 4 rfl) ?_
                        refine va_get (D := D) (ci := 7) (v := .ref mo_cells) (C := RX8) (T := TX8) (N := 32) hx hb hts hiX8 hown hK hP 0 rfl rfl 29 (Nat.le_of_ble_eq_true rfl) fl38 (fun _ h9 => h9) rfl dX8_read_184 ?_
                        refine lv_iload hx hb dX8_read_187 (lv_at hl 0 rfl) ?_
                        refine va_iald hx hb hK hP 4 0 rfl rfl (vp_in_nI (show (120 + jj) < 160 by omega) (by decide)) dX8_read_189 ?_
                        refine hs_topi (aTs (s_z 3) (s_r 3) (pRd f x7)) (by rw [nI_clamp (by omega)]; exact hcel.1) ?_
                        refine lv_aload_n hx hb dX8_read_190 rfl (lv_at hl 4 rfl) ?_
                        refine va_get (D := D) (ci := 7) (v := .ref mo_cells) (C := RX8) (T := TX8) (N := 32) hx hb hts hiX8 hown hK hP 0 rfl rfl 29 (Nat.le_of_ble_eq_true rfl) fl38 (fun _ h9 => h9) rfl dX8_read_191 ?_
                        refine lv_iload hx hb dX8_read_194 (lv_at hl 0 rfl) ?_
                        refine lv_iconst (v := 1) hx hb dX8_read_196 hki_1 ?_
                        refine lv_iadd hx hb dX8_read_197 ?_
                        refine hs_topi (nI ((120 + jj) + 1)) (nI_add ((120 + jj)) (1)) ?_
                        refine va_iald hx hb hK hP 4 0 rfl rfl (vp_in_nI (show ((120 + jj) + 1) < 160 by omega) (by decide)) dX8_read_198 ?_
                        refine hs_topi (aTs (s_z 3) (s_r 3) (pRd f x7 + 1)) (by rw [nI_clamp (by omega)]; exact hcel.2) ?_
                        refine hs_ciM (va_runV (As := [.int (aTs (s_z 3) (s_r 3) (pRd f x7)), .int (aTs (s_z 3) (s_r 3) (pRd f x7 + 1))]) (rest := []) ⟨hx, hb, hml, hown, hts⟩ (gqf_weigh l D k _ mo mo_st mo_at mo_isKept mo_pe mo_hm mo_draft mo_dp mo_dh mo_toldLines mo_highest mo_tape mo_tl mo_ps mo_fr mo_sort mo_value mo_ft mo_wrongAt mo_row mo_orderMany mo_fo mo_lightest mo_heaviest mo_before mo_justSum mo_toldSum mo_allWays mo_lanes mo_sizes mo_cells mo_torn mo_had g c0 c3 c4 fi (aTs (s_z 3) (s_r 3) (pRd f x7)) (aTs (s_z 3) (s_r 3) (pRd f x7 + 1)) ((hK62 0 (by omega)).trans e0) h0 h02 ((hK62 16 (by omega)).trans e3) h3 ((hK62 25 (by omega)).trans e4) h4 hpe hm2 hm5 ((hK62 14 (by omega)).trans ef) hfi (fun i9 h9 => by rw [hK62 (26 + 3 * i9) (by omega)]; exact hsaw i9 h9)) (cwV 2 hts gX8_read_X8_weigh rfl rfl rfl ⟨rfl, hq_X8_weigh⟩ ⟨Nat.le_of_ble_eq_true rfl, Nat.le_of_ble_eq_true rfl⟩) (hs_preV hK hN (hs_subP (w := [_, _]) hP [0, 1] rfl) (hD.sub (ws' := [_, _]) [0, 1] (hs_upnd rfl) rfl) (ci := 7) (q0 := 0) rfl rfl) rfl rfl hl.1 rfl (lv_room (Nat.le_of_ble_eq_true rfl)) dX8_read_199 ⟨Nat.le_of_ble_eq_true rfl, Nat.le_of_ble_eq_true rfl⟩) hP hD hS hA [false, false, true, true, true, true] [_, _, _, _] [_, _] rfl [0, 1] rfl [0, 1] (fun u_76 => [_, _]) (fun _ => rfl) (hs_upnd rfl) [false, false, true, true, true, true] (fun u_76 => [_, _, _, _, _, _]) (fun _ => rfl) (fun r_74 u_76 H locs hw_75 hP hD hS => ?_)
                        have hw_75 : mWg c0 g (aTs (s_z 3) (s_r 3) (pRd f x7)) (aTs (s_z 3) (s_r 3) (pRd f x7 + 1)) r_74 u_76 := hw_75
                        refine lv_if_ge (tgt := 241) hx hb dX8_read_202 rfl (fun c_77 => ?_) (fun c_77 => ?_)
                        · refine lv_iinc (v := nI (wh + 1)) (lv' := [(6, .int (nI (wh + 1))), (8, .int (nI (120 + jj))), (7, .int (nI x7)), (5, .int re2), (0, .ref mo), (1, .int 3), (2, .int v), (3, .int f), (4, .int (nI nn))]) hx hb dX8_read_241 hl (k := 2) rfl (nI_add (wh) 1) (Nat.le_of_ble_eq_true rfl) rfl (fun ls hl => ?_)
                          refine lv_iinc (v := nI (x7 + 1)) (lv' := [(7, .int (nI (x7 + 1))), (6, .int (nI (wh + 1))), (8, .int (nI (120 + jj))), (5, .int re2), (0, .ref mo), (1, .int 3), (2, .int v), (3, .int f), (4, .int (nI nn))]) hx hb dX8_read_244 hl (k := 2) rfl (nI_add (x7) 1) (Nat.le_of_ble_eq_true rfl) rfl (fun ls hl => ?_)
                          refine lv_goto (tgt := 62) hx hb dX8_read_247 rfl ?_
                          exact ih62 (re2, wh + 1, x7 + 1, u_76) (by (try dsimp only); have h8 := (hI62.2.2.1 c_71); have hok := (mWg_ge h0 hw_75 hI62.2.2.2.2.2.2).mp c_77; have hkp := mWg_kp h0 hw_75 hI62.2.2.2.2.2.2; exact ⟨by omega, by omega, fun _ => ⟨by omega, fun j hj => if e9 : j = x7 then (by subst e9; exact ⟨hT9.symm.trans c_73, hok⟩) else h8.2 j (by omega)⟩, fun z9 => absurd c_73 z9, (by rw [mWg_ok hw_75 hok, hI62.2.2.2.2.1, h8.1]; rfl), fun q hq => (hkp.1 q hq).trans (hK62 q hq), hkp.2⟩) (by (try dsimp only); omega) _ _ _ hP hD hS (lv_sub hl [0, 1, 3, 4, 5, 6, 7, 8] rfl)
                        · refine lv_iconst (v := 0) hx hb dX8_read_205 hki_0 ?_
                          refine lv_istore (lv' := [(9, .int 0), (8, .int (nI (120 + jj))), (7, .int (nI x7)), (6, .int (nI wh)), (5, .int re2), (0, .ref mo), (1, .int 3), (2, .int v), (3, .int f), (4, .int (nI nn))]) hx hb dX8_read_206 hl (Nat.le_of_ble_eq_true rfl) rfl (fun ls hl => ?_)
                          refine hs_while (σ := Nat × (Nat → Int32)) (fun x => x.1 ≤ 44 ∧ (∀ q, q < x.1 → x.2 q = sf q) ∧ ∀ q, 44 ≤ q → x.2 q = sf q) (fun x => 44 - x.1) (fun x => [oq7 mo mo_st mo_at mo_isKept (nI mo_pe) (nI mo_hm) mo_draft (nI mo_dp) (nI mo_dh) mo_toldLines mo_highest mo_tape (nI mo_tl) (nI mo_ps) (nI mo_fr) mo_sort mo_value (nI mo_ft) mo_wrongAt mo_row mo_orderMany (nI mo_fo) mo_lightest mo_heaviest mo_before mo_justSum mo_toldSum mo_allWays mo_lanes mo_sizes mo_cells mo_torn mo_had, oqI k mo_st 132 ((x.2)), oqI k mo_lanes 4 (laf), oqI k mo_sizes 4 (sif), oqI k mo_cells 160 (ce), oqI k mo_had 44 (hg)]) (fun x => [(9, .int (nI (x.1))), (8, .int (nI (120 + jj))), (7, .int (nI x7)), (6, .int (nI wh)), (5, .int re2), (0, .ref mo), (1, .int 3), (2, .int v), (3, .int f), (4, .int (nI nn))]) ?_ (0, u_76) ?_ hP hD hS hl
                          · intro x hI ih208 H locs ls hP hD hS hl
                            obtain ⟨x9, g2⟩ := x
                            try dsimp only at hI
                            have hP : va_P D vwCl [_, oqI k mo_st 132 (g2), _, _, _, _] H := hP
                            have hD : va_D A [_, oqI k mo_st 132 (g2), _, _, _, _] := hD
                            have hl : lv_has ls 11 [(9, .int (nI x9)), (8, .int (nI (120 + jj))), (7, .int (nI x7)), (6, .int (nI wh)), (5, .int re2), (0, .ref mo), (1, .int 3), (2, .int v), (3, .int f), (4, .int (nI nn))] := hl
                            refine lv_iload hx hb dX8_read_208 (lv_at hl 0 rfl) ?_
                            refine lv_bipush (v := 44) hx hb dX8_read_210 hkb_44 ?_
                            refine lv_icmp_ge (tgt := 235) hx hb dX8_read_212 rfl (fun c_78 => ?_) (fun c_78 => ?_)
                            · have nc_78 : 44 ≤ x9 := (nI_leI (a := 44) (b := x9) (by omega) (by omega)).mp c_78
                              refine lv_bipush (v := (-20)) hx hb dX8_read_235 hkb_m20 ?_
                              refine lv_iload hx hb dX8_read_237 (lv_at hl 2 rfl) ?_
                              refine lv_isub hx hb dX8_read_239 ?_
                              exact hs_iret hx hb hr hlocks hK hP hD hS (g2, hg, mo_torn) [0, 1, 2, 3, 4, 5] rfl (hs_upnd rfl) dX8_read_240 (Or.inr ⟨3, nn, by decide, rfl, by omega, rfl, hs_and2 (hs_nb c_4), x7, by omega, (hI62.2.2.1 c_71).2, Or.inl ⟨by omega, hT9.symm.trans c_73, Bool.eq_false_iff.mpr (fun z9 => c_77 ((mWg_ge h0 hw_75 hI62.2.2.2.2.2.2).mpr z9)), rfl, (by (try dsimp only); rw [show g2 = sf from funext (fun q => if e9 : q < 44 then hI.2.1 q (by omega) else hI.2.2 q (by omega))])⟩⟩)
                            · have nc_78 : ¬ 44 ≤ x9 := fun hq9 => c_78 ((nI_leI (a := 44) (b := x9) (by omega) (by omega)).mpr hq9)
                              refine lv_aload_n hx hb dX8_read_215 rfl (lv_at hl 5 rfl) ?_
                              refine va_get (D := D) (ci := 7) (v := .ref mo_st) (C := RX8) (T := TX8) (N := 32) hx hb hts hiX8 hown hK hP 0 rfl rfl 0 (Nat.le_of_ble_eq_true rfl) fl7 (fun _ h9 => h9) rfl dX8_read_216 ?_
                              refine lv_iload hx hb dX8_read_219 (lv_at hl 0 rfl) ?_
                              refine lv_aload_n hx hb dX8_read_221 rfl (lv_at hl 5 rfl) ?_
                              refine va_get (D := D) (ci := 7) (v := .ref mo_had) (C := RX8) (T := TX8) (N := 32) hx hb hts hiX8 hown hK hP 0 rfl rfl 31 (Nat.le_of_ble_eq_true rfl) fl41 (fun _ h9 => h9) rfl dX8_read_222 ?_
                              refine lv_iload hx hb dX8_read_225 (lv_at hl 0 rfl) ?_
                              refine va_iald hx hb hK hP 5 0 rfl rfl (vp_in_nI (show x9 < 44 by omega) (by decide)) dX8_read_227 ?_
                              refine va_iast hx hb hK hP hD hS 1 0 rfl rfl (vp_in_nI (show x9 < 132 by omega) (by decide)) dX8_read_228 (fun H locs hP hD hS => ?_)
                              have hP : va_P D vwCl [_, oqI k mo_st 132 (upd g2 ((nI x9).toNatClampNeg) (hg (nI x9).toNatClampNeg)), _, _, _, _] H := hP
                              have hD : va_D A [_, oqI k mo_st 132 (upd g2 ((nI x9).toNatClampNeg) (hg (nI x9).toNatClampNeg)), _, _, _, _] := hD
                              refine lv_iinc (v := nI (x9 + 1)) (lv' := [(9, .int (nI (x9 + 1))), (8, .int (nI (120 + jj))), (7, .int (nI x7)), (6, .int (nI wh)), (5, .int re2), (0, .ref mo), (1, .int 3), (2, .int v), (3, .int f), (4, .int (nI nn))]) hx hb dX8_read_229 hl (k := 0) rfl (nI_add (x9) 1) (Nat.le_of_ble_eq_true rfl) rfl (fun ls hl => ?_)
                              refine lv_goto (tgt := 208) hx hb dX8_read_232 rfl ?_
                              exact ih208 (x9 + 1, upd g2 ((nI x9).toNatClampNeg) (hg (nI x9).toNatClampNeg)) (by (try dsimp only); exact ⟨by omega, fun q hq => if e9 : q = x9 then (by subst e9; rw [hs_ue (by omega) rfl, nI_clamp (by omega)]; exact hI26.2 _ (by omega)) else (by rw [hs_uc (by omega) e9]; exact hI.2.1 q (by omega)), fun q hq => by rw [hs_uc (by omega) (by omega)]; exact hI.2.2 q hq⟩) (by (try dsimp only); omega) _ _ _ hP hD hS (lv_sub hl [0, 1, 2, 3, 4, 5, 6, 7, 8, 9] rfl)
                          · (try dsimp only); exact ⟨by omega, fun q hq => absurd hq (Nat.not_lt_zero q), fun q hq => ((mWg_kp h0 hw_75 hI62.2.2.2.2.2.2).1 q (by omega)).trans (hK62 q (by omega))⟩
                    · have nc_72 : ¬ 2 ≤ cc := fun hq9 => c_72 ((nI_leI (a := 2) (b := cc) (by omega) (by omega)).mpr hq9)
                      refine lv_iload hx hb dX8_read_83 (lv_at hl 3 rfl) ?_
                      refine lv_if_ne (tgt := 164) hx hb dX8_read_85 rfl (fun c_79 => ?_) (fun c_79 => ?_)
                      · have hT9 : re2 = fTw (s_la 3) (s_z 3) v (pRd f x7) := rdI_end hI.2 (by omega) (Or.inr c_79)
                        have hI77 := hI
                        refine lv_iload hx hb dX8_read_164 (lv_at hl 3 rfl) ?_
                        refine lv_if_ne (tgt := 244) hx hb dX8_read_166 rfl (fun c_80 => ?_) (fun c_80 => absurd c_80 c_79)
                        refine lv_iinc (v := nI (x7 + 1)) (lv' := [(7, .int (nI (x7 + 1))), (8, .int (nI cc)), (6, .int (nI wh)), (5, .int re2), (0, .ref mo), (1, .int 3), (2, .int v), (3, .int f), (4, .int (nI nn))]) hx hb dX8_read_244 hl (k := 1) rfl (nI_add (x7) 1) (Nat.le_of_ble_eq_true rfl) rfl (fun ls hl => ?_)
                        refine lv_goto (tgt := 62) hx hb dX8_read_247 rfl ?_
                        exact ih62 (re2, wh, x7 + 1, g) (by (try dsimp only); have h8 := (hI62.2.2.1 c_71); exact ⟨by omega, by omega, fun z9 => absurd z9 c_80, fun _ => ⟨by omega, fun j hj => h8.2 j (by omega), by rw [h8.1]; exact hT9⟩, hI62.2.2.2.2.1, hI62.2.2.2.2.2.1, hI62.2.2.2.2.2.2⟩) (by (try dsimp only); omega) _ _ _ hP hD hS (lv_sub hl [0, 2, 3, 4, 5, 6, 7, 8] rfl)
                      · refine lv_iload_n hx hb dX8_read_88 rfl (lv_at hl 7 rfl) ?_
                        refine lv_i2l hx hb dX8_read_89 rfl ?_
                        refine lv_iconst (v := 2) hx hb dX8_read_90 hki_2 ?_
                        refine lv_iload hx hb dX8_read_91 (lv_at hl 1 rfl) ?_
                        refine lv_imul hx hb dX8_read_93 ?_
                        refine hs_topi (nI (2 * x7)) (pk_mul (2) (x7)) ?_
                        refine lv_i2l hx hb dX8_read_94 rfl ?_
                        refine lv_ladd hx hb dX8_read_95 ?_
                        refine lv_iload hx hb dX8_read_96 (lv_at hl 0 rfl) ?_
                        refine lv_i2l hx hb dX8_read_98 rfl ?_
                        refine lv_ladd hx hb dX8_read_99 ?_
                        refine lv_lstore (lv' := [(9, .long (((((f) : Int32).toInt64) + (((nI (2 * x7)) : Int32).toInt64)) + (((nI cc) : Int32).toInt64))), (8, .int (nI cc)), (7, .int (nI x7)), (6, .int (nI wh)), (5, .int re2), (0, .ref mo), (1, .int 3), (2, .int v), (3, .int f), (4, .int (nI nn))]) hx hb dX8_read_100 hl (Nat.le_of_ble_eq_true rfl) rfl (fun ls hl => ?_)
                        refine lv_aload_n hx hb dX8_read_102 rfl (lv_at hl 5 rfl) ?_
                        refine va_get (D := D) (ci := 7) (v := .ref mo_lanes) (C := RX8) (T := TX8) (N := 32) hx hb hts hiX8 hown hK hP 0 rfl rfl 27 (Nat.le_of_ble_eq_true rfl) fl32 (fun _ h9 => h9) rfl dX8_read_103 ?_
                        refine lv_iload_n hx hb dX8_read_106 rfl (lv_at hl 6 rfl) ?_
                        refine va_iald hx hb hK hP 2 0 rfl rfl (hs_in (by decide)) dX8_read_107 ?_
                        refine hs_topi (laf 3) (by rfl) ?_
                        refine lv_bipush (v := (-4)) hx hb dX8_read_108 hkb_m4 ?_
                        refine lv_icmp_ne (tgt := 117) hx hb dX8_read_110 rfl (fun c_81 => ?_) (fun c_81 => ?_)
                        · have hsk := rSh_yes hsh (k := 3) (by decide) c_81
                          have hzk := hsk.2.2.2.2.1
                          refine lv_aload_n hx hb dX8_read_117 rfl (lv_at hl 5 rfl) ?_
                          refine va_get (D := D) (ci := 7) (v := .ref mo_lanes) (C := RX8) (T := TX8) (N := 32) hx hb hts hiX8 hown hK hP 0 rfl rfl 27 (Nat.le_of_ble_eq_true rfl) fl32 (fun _ h9 => h9) rfl dX8_read_118 ?_
                          refine lv_iload_n hx hb dX8_read_121 rfl (lv_at hl 6 rfl) ?_
                          refine va_iald hx hb hK hP 2 0 rfl rfl (hs_in (by decide)) dX8_read_122 ?_
                          refine hs_topi (laf 3) (by rfl) ?_
                          refine lv_iload_n hx hb dX8_read_123 rfl (lv_at hl 7 rfl) ?_
                          refine lv_icmp_eq (tgt := 131) hx hb dX8_read_124 rfl (fun c_82 => ?_) (fun c_82 => ?_)
                          · refine lv_lload hx hb dX8_read_131 (lv_at hl 0 rfl) ?_
                            refine lv_lconst (v := 0) hx hb dX8_read_133 (by decide) ?_
                            refine W.lcmp hx hb dX8_read_134 ?_
                            refine lv_if_lt (tgt := 151) hx hb dX8_read_135 rfl (fun c_83 => ?_) (fun c_83 => ?_)
                            · refine lv_iconst (v := 2) hx hb dX8_read_151 hki_2 ?_
                              refine lv_goto (tgt := 156) hx hb dX8_read_152 rfl ?_
                              refine lv_istore (lv' := [(5, .int 2), (9, .long (((((f) : Int32).toInt64) + (((nI (2 * x7)) : Int32).toInt64)) + (((nI cc) : Int32).toInt64))), (8, .int (nI cc)), (7, .int (nI x7)), (6, .int (nI wh)), (0, .ref mo), (1, .int 3), (2, .int v), (3, .int f), (4, .int (nI nn))]) hx hb dX8_read_156 hl (Nat.le_of_ble_eq_true rfl) rfl (fun ls hl => ?_)
                              refine lv_iinc (v := nI (cc + 1)) (lv' := [(8, .int (nI (cc + 1))), (5, .int 2), (9, .long (((((f) : Int32).toInt64) + (((nI (2 * x7)) : Int32).toInt64)) + (((nI cc) : Int32).toInt64))), (7, .int (nI x7)), (6, .int (nI wh)), (0, .ref mo), (1, .int 3), (2, .int v), (3, .int f), (4, .int (nI nn))]) hx hb dX8_read_158 hl (k := 2) rfl (nI_add (cc) 1) (Nat.le_of_ble_eq_true rfl) rfl (fun ls hl => ?_)
                              refine lv_goto (tgt := 77) hx hb dX8_read_161 rfl ?_
                              exact ih77 (2, cc + 1) (by (try dsimp only); have hsk := rSh_yes hsh (k := 3) (by decide) c_81; have hle : v = s_la 3 := c_82.symm.trans hsk.1; have hq := rd_out1 (f := f) (i := x7) (c := cc) (z := s_z 3) (by omega) (by omega) hsk.2.2.2.2.1 c_83; exact ⟨by omega, rdI_step hI.2 (by omega) c_79 (fun h8 => by rw [g0R, if_neg hsk.2.1, if_neg (fun z9 => z9 hle), if_neg (hq.1 h8)]) (fun h8 h9 => (fAt_out hsk.2.1 (hq.2 h8 (g0R_0 h9).2.2)).symm)⟩) (by (try dsimp only); omega) _ _ _ hP hD hS (lv_sub hl [0, 3, 4, 1, 5, 6, 7, 8, 9] rfl)
                            · refine lv_lload hx hb dX8_read_138 (lv_at hl 0 rfl) ?_
                              refine lv_aload_n hx hb dX8_read_140 rfl (lv_at hl 5 rfl) ?_
                              refine va_get (D := D) (ci := 7) (v := .ref mo_sizes) (C := RX8) (T := TX8) (N := 32) hx hb hts hiX8 hown hK hP 0 rfl rfl 28 (Nat.le_of_ble_eq_true rfl) fl35 (fun _ h9 => h9) rfl dX8_read_141 ?_
                              refine lv_iload_n hx hb dX8_read_144 rfl (lv_at hl 6 rfl) ?_
                              refine va_iald hx hb hK hP 3 0 rfl rfl (hs_in (by decide)) dX8_read_145 ?_
                              refine hs_topi (nI (s_z 3)) (hsk.2.2.2.1) ?_
                              refine lv_i2l hx hb dX8_read_146 rfl ?_
                              refine W.lcmp hx hb dX8_read_147 ?_
                              refine lv_if_lt (tgt := 155) hx hb dX8_read_148 rfl (fun c_84 => ?_) (fun c_84 => ?_)
                              · refine lv_iconst (v := 0) hx hb dX8_read_155 hki_0 ?_
                                refine lv_istore (lv' := [(5, .int 0), (9, .long (((((f) : Int32).toInt64) + (((nI (2 * x7)) : Int32).toInt64)) + (((nI cc) : Int32).toInt64))), (8, .int (nI cc)), (7, .int (nI x7)), (6, .int (nI wh)), (0, .ref mo), (1, .int 3), (2, .int v), (3, .int f), (4, .int (nI nn))]) hx hb dX8_read_156 hl (Nat.le_of_ble_eq_true rfl) rfl (fun ls hl => ?_)
                                refine lv_iinc (v := nI (cc + 1)) (lv' := [(8, .int (nI (cc + 1))), (5, .int 0), (9, .long (((((f) : Int32).toInt64) + (((nI (2 * x7)) : Int32).toInt64)) + (((nI cc) : Int32).toInt64))), (7, .int (nI x7)), (6, .int (nI wh)), (0, .ref mo), (1, .int 3), (2, .int v), (3, .int f), (4, .int (nI nn))]) hx hb dX8_read_158 hl (k := 2) rfl (nI_add (cc) 1) (Nat.le_of_ble_eq_true rfl) rfl (fun ls hl => ?_)
                                refine lv_goto (tgt := 77) hx hb dX8_read_161 rfl ?_
                                exact ih77 (0, cc + 1) (by (try dsimp only); have hsk := rSh_yes hsh (k := 3) (by decide) c_81; have hle : v = s_la 3 := c_82.symm.trans hsk.1; have hq := rd_in (f := f) (i := x7) (c := cc) (z := s_z 3) (by omega) (by omega) hsk.2.2.2.2.1 c_83 c_84; exact ⟨by omega, rdI_step hI.2 (by omega) c_79 (fun h8 => by rw [g0R, if_neg hsk.2.1, if_neg (fun z9 => z9 hle), if_pos (hq.1 h8)]) (fun h8 h9 => (fAt_in hsk.2.1 (hq.2 h8 (g0R_0 h9).2.2)).symm)⟩) (by (try dsimp only); omega) _ _ _ hP hD hS (lv_sub hl [0, 3, 4, 1, 5, 6, 7, 8, 9] rfl)
                              · refine lv_iconst (v := 2) hx hb dX8_read_151 hki_2 ?_
                                refine lv_goto (tgt := 156) hx hb dX8_read_152 rfl ?_
                                refine lv_istore (lv' := [(5, .int 2), (9, .long (((((f) : Int32).toInt64) + (((nI (2 * x7)) : Int32).toInt64)) + (((nI cc) : Int32).toInt64))), (8, .int (nI cc)), (7, .int (nI x7)), (6, .int (nI wh)), (0, .ref mo), (1, .int 3), (2, .int v), (3, .int f), (4, .int (nI nn))]) hx hb dX8_read_156 hl (Nat.le_of_ble_eq_true rfl) rfl (fun ls hl => ?_)
                                refine lv_iinc (v := nI (cc + 1)) (lv' := [(8, .int (nI (cc + 1))), (5, .int 2), (9, .long (((((f) : Int32).toInt64) + (((nI (2 * x7)) : Int32).toInt64)) + (((nI cc) : Int32).toInt64))), (7, .int (nI x7)), (6, .int (nI wh)), (0, .ref mo), (1, .int 3), (2, .int v), (3, .int f), (4, .int (nI nn))]) hx hb dX8_read_158 hl (k := 2) rfl (nI_add (cc) 1) (Nat.le_of_ble_eq_true rfl) rfl (fun ls hl => ?_)
                                refine lv_goto (tgt := 77) hx hb dX8_read_161 rfl ?_
                                exact ih77 (2, cc + 1) (by (try dsimp only); have hsk := rSh_yes hsh (k := 3) (by decide) c_81; have hle : v = s_la 3 := c_82.symm.trans hsk.1; have hq := rd_out2 (f := f) (i := x7) (c := cc) (z := s_z 3) (by omega) (by omega) hsk.2.2.2.2.1 c_84; exact ⟨by omega, rdI_step hI.2 (by omega) c_79 (fun h8 => by rw [g0R, if_neg hsk.2.1, if_neg (fun z9 => z9 hle), if_neg (hq.1 h8)]) (fun h8 h9 => (fAt_out hsk.2.1 (hq.2 h8 (g0R_0 h9).2.2)).symm)⟩) (by (try dsimp only); omega) _ _ _ hP hD hS (lv_sub hl [0, 3, 4, 1, 5, 6, 7, 8, 9] rfl)
                          · refine lv_iconst (v := 3) hx hb dX8_read_127 hki_3 ?_
                            refine lv_goto (tgt := 156) hx hb dX8_read_128 rfl ?_
                            refine lv_istore (lv' := [(5, .int 3), (9, .long (((((f) : Int32).toInt64) + (((nI (2 * x7)) : Int32).toInt64)) + (((nI cc) : Int32).toInt64))), (8, .int (nI cc)), (7, .int (nI x7)), (6, .int (nI wh)), (0, .ref mo), (1, .int 3), (2, .int v), (3, .int f), (4, .int (nI nn))]) hx hb dX8_read_156 hl (Nat.le_of_ble_eq_true rfl) rfl (fun ls hl => ?_)
                            refine lv_iinc (v := nI (cc + 1)) (lv' := [(8, .int (nI (cc + 1))), (5, .int 3), (9, .long (((((f) : Int32).toInt64) + (((nI (2 * x7)) : Int32).toInt64)) + (((nI cc) : Int32).toInt64))), (7, .int (nI x7)), (6, .int (nI wh)), (0, .ref mo), (1, .int 3), (2, .int v), (3, .int f), (4, .int (nI nn))]) hx hb dX8_read_158 hl (k := 2) rfl (nI_add (cc) 1) (Nat.le_of_ble_eq_true rfl) rfl (fun ls hl => ?_)
                            refine lv_goto (tgt := 77) hx hb dX8_read_161 rfl ?_
                            exact ih77 (3, cc + 1) (by (try dsimp only); have hsk := rSh_yes hsh (k := 3) (by decide) c_81; exact ⟨by omega, rdI_step hI.2 (by omega) c_79 (fun _ => by rw [g0R, if_neg hsk.2.1, if_pos (fun z9 => c_82 (hsk.1.trans z9.symm))]) (fun _ h9 => absurd (hsk.1.trans (g0R_0 h9).2.1.symm) c_82)⟩) (by (try dsimp only); omega) _ _ _ hP hD hS (lv_sub hl [0, 3, 4, 1, 5, 6, 7, 8, 9] rfl)
                        · refine lv_iconst (v := 1) hx hb dX8_read_113 hki_1 ?_
                          refine lv_goto (tgt := 156) hx hb dX8_read_114 rfl ?_
                          refine lv_istore (lv' := [(5, .int 1), (9, .long (((((f) : Int32).toInt64) + (((nI (2 * x7)) : Int32).toInt64)) + (((nI cc) : Int32).toInt64))), (8, .int (nI cc)), (7, .int (nI x7)), (6, .int (nI wh)), (0, .ref mo), (1, .int 3), (2, .int v), (3, .int f), (4, .int (nI nn))]) hx hb dX8_read_156 hl (Nat.le_of_ble_eq_true rfl) rfl (fun ls hl => ?_)
                          refine lv_iinc (v := nI (cc + 1)) (lv' := [(8, .int (nI (cc + 1))), (5, .int 1), (9, .long (((((f) : Int32).toInt64) + (((nI (2 * x7)) : Int32).toInt64)) + (((nI cc) : Int32).toInt64))), (7, .int (nI x7)), (6, .int (nI wh)), (0, .ref mo), (1, .int 3), (2, .int v), (3, .int f), (4, .int (nI nn))]) hx hb dX8_read_158 hl (k := 2) rfl (nI_add (cc) 1) (Nat.le_of_ble_eq_true rfl) rfl (fun ls hl => ?_)
                          refine lv_goto (tgt := 77) hx hb dX8_read_161 rfl ?_
                          exact ih77 (1, cc + 1) (by (try dsimp only); exact ⟨by omega, rdI_step hI.2 (by omega) c_79 (fun _ => by rw [g0R, if_pos (rSh_nul hsh (k := 3) (by decide) c_81)]) (fun _ h9 => absurd (rSh_nul hsh (k := 3) (by decide) c_81) (g0R_0 h9).1)⟩) (by (try dsimp only); omega) _ _ _ hP hD hS (lv_sub hl [0, 3, 4, 1, 5, 6, 7, 8, 9] rfl)
                  · (try dsimp only); exact ⟨by omega, fun _ => c_71, fun h => absurd h (by decide), fun h => absurd h (by decide)⟩
            · (try dsimp only); exact ⟨Nat.zero_le _, Nat.le_refl _, fun _ => ⟨rfl, fun j hj => absurd hj (Nat.not_lt_zero j)⟩, fun z9 => absurd rfl z9, rfl, fun _ _ => rfl, hwb⟩
          · have nc_69 : ¬ 44 ≤ x0 := fun hq9 => c_69 ((nI_leI (a := 44) (b := x0) (by omega) (by omega)).mpr hq9)
            refine lv_aload_n hx hb dX8_read_33 rfl (lv_at hl 1 rfl) ?_
            refine va_get (D := D) (ci := 7) (v := .ref mo_had) (C := RX8) (T := TX8) (N := 32) hx hb hts hiX8 hown hK hP 0 rfl rfl 31 (Nat.le_of_ble_eq_true rfl) fl41 (fun _ h9 => h9) rfl dX8_read_34 ?_
            refine lv_iload hx hb dX8_read_37 (lv_at hl 0 rfl) ?_
            refine lv_aload_n hx hb dX8_read_39 rfl (lv_at hl 1 rfl) ?_
            refine va_get (D := D) (ci := 7) (v := .ref mo_st) (C := RX8) (T := TX8) (N := 32) hx hb hts hiX8 hown hK hP 0 rfl rfl 0 (Nat.le_of_ble_eq_true rfl) fl7 (fun _ h9 => h9) rfl dX8_read_40 ?_
            refine lv_iload hx hb dX8_read_43 (lv_at hl 0 rfl) ?_
            refine va_iald hx hb hK hP 1 0 rfl rfl (vp_in_nI (show x0 < 132 by omega) (by decide)) dX8_read_45 ?_
            refine va_iast hx hb hK hP hD hS 5 0 rfl rfl (vp_in_nI (show x0 < 44 by omega) (by decide)) dX8_read_46 (fun H locs hP hD hS => ?_)
            have hP : va_P D vwCl [_, oqI k mo_st 132 (sf), _, _, _, oqI k mo_had 44 (upd hg ((nI x0).toNatClampNeg) (sf (nI x0).toNatClampNeg))] H := hP
            have hD : va_D A [_, oqI k mo_st 132 (sf), _, _, _, oqI k mo_had 44 (upd hg ((nI x0).toNatClampNeg) (sf (nI x0).toNatClampNeg))] := hD
            refine lv_iinc (v := nI (x0 + 1)) (lv' := [(5, .int (nI (x0 + 1))), (0, .ref mo), (1, .int 3), (2, .int v), (3, .int f), (4, .int (nI nn))]) hx hb dX8_read_47 hl (k := 0) rfl (nI_add (x0) 1) (Nat.le_of_ble_eq_true rfl) rfl (fun ls hl => ?_)
            refine lv_goto (tgt := 26) hx hb dX8_read_50 rfl ?_
            exact ih26 (x0 + 1, upd hg ((nI x0).toNatClampNeg) (sf (nI x0).toNatClampNeg)) (by (try dsimp only); exact ⟨by omega, hs_filled (by omega) hI.2⟩) (by (try dsimp only); omega) _ _ _ hP hD hS (lv_sub hl [0, 1, 2, 3, 4, 5] rfl)
        · (try dsimp only); exact ⟨by omega, fun j hj => absurd hj (by omega)⟩
      · refine lv_iconst (v := (-1)) hx hb dX8_read_21 hki_m1 ?_
        exact hs_iret hx hb hr hlocks hK hP hD hS (sf, ha, mo_torn) [0, 1, 2, 3, 4, 5] rfl (hs_upnd rfl) dX8_read_22 (Or.inl ⟨hs_rbad (Or.inr (Or.inr (hs_n0 c_68))), rfl, rfl⟩)
