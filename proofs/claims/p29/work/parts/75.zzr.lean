set_option maxHeartbeats 4000000 in
set_option maxRecDepth 100000 in
theorem gr_bitsOf (l : Launch) (D : va_G) (k : Nat → ClassId) (sz : Nat) (v : Int32)  : MI l yX8_bitsOf wsX8_bitsOf ({ frames := 0, cells := 0, slots := 0, locals := 0 }) D k [.int v] [] sz (fun (r : Int32) (u : Unit) => r = A_bo v 8) (fun (u : Unit) => []) := by
  refine Met.ofW (cc := cX8_bitsOf) (maxL := 3) (ret := (some .int)) hpn_X8 rfl ?_
  intro p e s m args below meth c s₁ B hml hv
  obtain ⟨rfl, hsz, hP, hK, hD0, hN⟩ := hv
  have hx := B.exec
  have hb := B.bytes
  have hr := B.returns
  have hlocks := B.notSynchronized
  have hts := atoms_spec (ws := wsX8_bitsOf) B.pre
  have hown := findClass_of_methodNamed B.named
  have hown : s.vm.findClass RX8 = some m.cls := hown
  subst hsz
  have hD := hD0.self (sz := s.heap.size)
  generalize hAe : va_A [] s.heap.size = A at hD ⊢
  have hA : ∀ q : Nat, s.heap.size ≤ q → A q := fun q h => by rw [← hAe]; exact Or.inr h
  have hS : va_S A s.heap s.heap [] := va_S.rf
  have hl := lv_entry ([.int v]) (n := 3) (Nat.le_of_ble_eq_true rfl)
  rw [lg_entry_eq]
  generalize (lg_sl ([.int v]) ++ List.replicate (3 - (lg_sl ([.int v])).length) Slot.unset).toArray = ls at hl ⊢
  have hl : lv_has ls 3 [(0, .int v)] := hl
  have hP : va_P D vwCl [] s.heap := hP
  refine lv_iconst (v := 0) hx hb dX8_bitsOf_0 hki_0 ?_
  refine lv_istore_n (lv' := [(1, .int 0), (0, .int v)]) hx hb dX8_bitsOf_1 rfl hl (Nat.le_of_ble_eq_true rfl) rfl (fun ls hl => ?_)
  refine lv_iconst (v := 0) hx hb dX8_bitsOf_2 hki_0 ?_
  refine lv_istore_n (lv' := [(2, .int 0), (1, .int 0), (0, .int v)]) hx hb dX8_bitsOf_3 rfl hl (Nat.le_of_ble_eq_true rfl) rfl (fun ls hl => ?_)
  refine hs_while (σ := Int32 × Nat) (fun x => x.2 ≤ 8 ∧ x.1 = A_bo v x.2) (fun x => 8 - x.2) (fun x => []) (fun x => [(2, .int (nI (x.2))), (1, .int (x.1)), (0, .int v)]) ?_ (0, 0) ?_ hP hD hS hl
  · intro x hI ih4 H locs ls hP hD hS hl
    obtain ⟨nn, kk⟩ := x
    try dsimp only at hI
    have hP : va_P D vwCl [] H := hP
    have hD : va_D A [] := hD
    have hl : lv_has ls 3 [(2, .int (nI kk)), (1, .int nn), (0, .int v)] := hl
    refine lv_iload_n hx hb dX8_bitsOf_4 rfl (lv_at hl 0 rfl) ?_
    refine lv_bipush (v := 8) hx hb dX8_bitsOf_5 hkb_8 ?_
    refine lv_icmp_ge (tgt := 24) hx hb dX8_bitsOf_7 rfl (fun c_1 => ?_) (fun c_1 => ?_)
    · have nc_1 : 8 ≤ kk := (nI_leI (a := 8) (b := kk) (by omega) (by omega)).mp c_1
      refine lv_iload_n hx hb dX8_bitsOf_24 rfl (lv_at hl 1 rfl) ?_
      exact hs_iret hx hb hr hlocks hK hP hD hS () [] rfl (hs_upnd rfl) dX8_bitsOf_25 (by rw [hI.2, show kk = 8 by omega])
    · have nc_1 : ¬ 8 ≤ kk := fun hq9 => c_1 ((nI_leI (a := 8) (b := kk) (by omega) (by omega)).mpr hq9)
      refine lv_iload_n hx hb dX8_bitsOf_10 rfl (lv_at hl 1 rfl) ?_
      refine lv_iload_n hx hb dX8_bitsOf_11 rfl (lv_at hl 2 rfl) ?_
      refine lv_iload_n hx hb dX8_bitsOf_12 rfl (lv_at hl 0 rfl) ?_
      refine lv_ishr hx hb dX8_bitsOf_13 ?_
      refine lv_iconst (v := 1) hx hb dX8_bitsOf_14 hki_1 ?_
      refine lv_iand hx hb dX8_bitsOf_15 ?_
      refine lv_iadd hx hb dX8_bitsOf_16 ?_
      refine lv_istore_n (lv' := [(1, .int (nn + ((v >>> ((nI kk) &&& 31)) &&& 1))), (2, .int (nI kk)), (0, .int v)]) hx hb dX8_bitsOf_17 rfl hl (Nat.le_of_ble_eq_true rfl) rfl (fun ls hl => ?_)
      refine lv_iinc (v := nI (kk + 1)) (lv' := [(2, .int (nI (kk + 1))), (1, .int (nn + ((v >>> ((nI kk) &&& 31)) &&& 1))), (0, .int v)]) hx hb dX8_bitsOf_18 hl (k := 1) rfl (nI_add (kk) 1) (Nat.le_of_ble_eq_true rfl) rfl (fun ls hl => ?_)
      refine lv_goto (tgt := 4) hx hb dX8_bitsOf_21 rfl ?_
      exact ih4 (nn + ((v >>> ((nI kk) &&& 31)) &&& 1), kk + 1) (by (try dsimp only); exact ⟨by omega, by rw [A_bo, hI.2]⟩) (by (try dsimp only); omega) _ _ _ hP hD hS (lv_sub hl [0, 1, 2] rfl)
  · (try dsimp only); exact ⟨Nat.zero_le _, rfl⟩
