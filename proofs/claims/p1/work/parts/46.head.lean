set_option maxHeartbeats 4000000 in
set_option maxRecDepth 100000 in
theorem law_head {p : Program} {e : Env} {s : State} {m : MethodId} {below : List Frame} {meth : Method} {c : Code} (l : Launch) {b : Nat} {xs : Nat → Int32} {D : va_G} {k : Nat → ClassId} {L : Nat} (hL : L ≤ 5) (C0 : lw_At p s m meth c b L xs) (hK : va_K D vwCl (hsT k) s) (hN : hsN s) (h mm : Nat) (u v : Nat → Nat) (H : Heap) (locs : List Loc) (hP : va_P D vwCl (lawW k h u mm v) H) (hD : va_D (fun q : Nat => s.heap.size ≤ q) (lawW k h u mm v)) (hS : va_S (fun q : Nat => s.heap.size ≤ q) s.heap H locs) (ls : Array Slot) (hl : lv_has ls 4 [(3, .int 0), (2, .ref mm), (1, .ref h), (0, .ref b)]) : W p l e room_1 s m #[Value.ref b] below meth c H locs 72 1368 (lw_Z below #[Value.ref b] s) (F0 m 18 ls []) := by
  have C1 := C0
  obtain ⟨hx, hb, hr, hml, hown, hts0, hX, hbl, hlocks, hgv⟩ := C0
  have hts := hts0
  have hA : ∀ q : Nat, s.heap.size ≤ q → (fun q : Nat => s.heap.size ≤ q) q := fun _ h => h
  have hbA : ¬ (fun q : Nat => s.heap.size ≤ q) b := Nat.not_le.mpr hbl
  obtain rfl | rfl | rfl | rfl | rfl | rfl : L = 0 ∨ L = 1 ∨ L = 2 ∨ L = 3 ∨ L = 4 ∨ L = 5 := by omega
  · refine lv_iload_n hx hb dL_law_18 rfl (lv_at hl 0 rfl) ?_
    refine lv_aload_n hx hb dL_law_19 rfl (lv_at hl 3 rfl) ?_
    refine va_slen hx hb hX hbl hbA hS dL_law_20 ?_
    refine hs_topi 0 (by decide) ?_
    refine lv_iconst (v := 5) hx hb dL_law_21 (by decide) ?_
    refine lv_isub hx hb dL_law_22 ?_
    refine hs_topi (-5) (by first | rfl | decide +kernel) ?_
    refine lv_icmp_gt (tgt := 1366) hx hb dL_law_23 (by decide) (fun c_1 => ?_) (fun c_1 => absurd c_1 (by decide))
    refine lv_iconst (v := 1) hx hb dL_law_1366 (by decide) ?_
    refine va_forget (fun q hq => hS.2.2 q hq) ?_
    refine W.widen (k := 600000) (n := 7302250) (Nat.le_of_ble_eq_true rfl) (Nat.le_of_ble_eq_true rfl) ?_
    exact lw_ret hx hb hr hlocks dL_law_1367
  · refine lv_iload_n hx hb dL_law_18 rfl (lv_at hl 0 rfl) ?_
    refine lv_aload_n hx hb dL_law_19 rfl (lv_at hl 3 rfl) ?_
    refine va_slen hx hb hX hbl hbA hS dL_law_20 ?_
    refine hs_topi 1 (by decide) ?_
    refine lv_iconst (v := 5) hx hb dL_law_21 (by decide) ?_
    refine lv_isub hx hb dL_law_22 ?_
    refine hs_topi (-4) (by first | rfl | decide +kernel) ?_
    refine lv_icmp_gt (tgt := 1366) hx hb dL_law_23 (by decide) (fun c_1 => ?_) (fun c_1 => absurd c_1 (by decide))
    refine lv_iconst (v := 1) hx hb dL_law_1366 (by decide) ?_
    refine va_forget (fun q hq => hS.2.2 q hq) ?_
    refine W.widen (k := 600000) (n := 7302250) (Nat.le_of_ble_eq_true rfl) (Nat.le_of_ble_eq_true rfl) ?_
    exact lw_ret hx hb hr hlocks dL_law_1367
  · refine lv_iload_n hx hb dL_law_18 rfl (lv_at hl 0 rfl) ?_
    refine lv_aload_n hx hb dL_law_19 rfl (lv_at hl 3 rfl) ?_
    refine va_slen hx hb hX hbl hbA hS dL_law_20 ?_
    refine hs_topi 2 (by decide) ?_
    refine lv_iconst (v := 5) hx hb dL_law_21 (by decide) ?_
    refine lv_isub hx hb dL_law_22 ?_
    refine hs_topi (-3) (by first | rfl | decide +kernel) ?_
    refine lv_icmp_gt (tgt := 1366) hx hb dL_law_23 (by decide) (fun c_1 => ?_) (fun c_1 => absurd c_1 (by decide))
    refine lv_iconst (v := 1) hx hb dL_law_1366 (by decide) ?_
    refine va_forget (fun q hq => hS.2.2 q hq) ?_
    refine W.widen (k := 600000) (n := 7302250) (Nat.le_of_ble_eq_true rfl) (Nat.le_of_ble_eq_true rfl) ?_
    exact lw_ret hx hb hr hlocks dL_law_1367
  · refine lv_iload_n hx hb dL_law_18 rfl (lv_at hl 0 rfl) ?_
    refine lv_aload_n hx hb dL_law_19 rfl (lv_at hl 3 rfl) ?_
    refine va_slen hx hb hX hbl hbA hS dL_law_20 ?_
    refine hs_topi 3 (by decide) ?_
    refine lv_iconst (v := 5) hx hb dL_law_21 (by decide) ?_
    refine lv_isub hx hb dL_law_22 ?_
    refine hs_topi (-2) (by first | rfl | decide +kernel) ?_
    refine lv_icmp_gt (tgt := 1366) hx hb dL_law_23 (by decide) (fun c_1 => ?_) (fun c_1 => absurd c_1 (by decide))
    refine lv_iconst (v := 1) hx hb dL_law_1366 (by decide) ?_
    refine va_forget (fun q hq => hS.2.2 q hq) ?_
    refine W.widen (k := 600000) (n := 7302250) (Nat.le_of_ble_eq_true rfl) (Nat.le_of_ble_eq_true rfl) ?_
    exact lw_ret hx hb hr hlocks dL_law_1367
  · refine lv_iload_n hx hb dL_law_18 rfl (lv_at hl 0 rfl) ?_
    refine lv_aload_n hx hb dL_law_19 rfl (lv_at hl 3 rfl) ?_
    refine va_slen hx hb hX hbl hbA hS dL_law_20 ?_
    refine hs_topi 4 (by decide) ?_
    refine lv_iconst (v := 5) hx hb dL_law_21 (by decide) ?_
    refine lv_isub hx hb dL_law_22 ?_
    refine hs_topi (-1) (by first | rfl | decide +kernel) ?_
    refine lv_icmp_gt (tgt := 1366) hx hb dL_law_23 (by decide) (fun c_1 => ?_) (fun c_1 => absurd c_1 (by decide))
    refine lv_iconst (v := 1) hx hb dL_law_1366 (by decide) ?_
    refine va_forget (fun q hq => hS.2.2 q hq) ?_
    refine W.widen (k := 600000) (n := 7302250) (Nat.le_of_ble_eq_true rfl) (Nat.le_of_ble_eq_true rfl) ?_
    exact lw_ret hx hb hr hlocks dL_law_1367
  · refine lv_iload_n hx hb dL_law_18 rfl (lv_at hl 0 rfl) ?_
    refine lv_aload_n hx hb dL_law_19 rfl (lv_at hl 3 rfl) ?_
    refine va_slen hx hb hX hbl hbA hS dL_law_20 ?_
    refine hs_topi 5 (by decide) ?_
    refine lv_iconst (v := 5) hx hb dL_law_21 (by decide) ?_
    refine lv_isub hx hb dL_law_22 ?_
    refine hs_topi 0 (by first | rfl | decide +kernel) ?_
    refine lv_icmp_gt (tgt := 1366) hx hb dL_law_23 (by decide) (fun c_1 => absurd c_1 (by decide)) (fun c_1 => ?_)
    refine lv_aload_n hx hb dL_law_26 rfl (lv_at hl 3 rfl) ?_
    refine lv_iload_n hx hb dL_law_27 rfl (lv_at hl 0 rfl) ?_
    refine va_sld hx hb hX hbl hbA hS (i := 0) (hs_in (by decide)) dL_law_28 ?_
    refine hs_topi (xs 0) rfl ?_
    refine lv_bipush (v := 63) hx hb dL_law_29 (by decide) ?_
    refine lv_iand hx hb dL_law_31 ?_
    by_cases sw_0 : (xs 0) &&& 63 = 0
    · refine lv_tableIn (off := 176) (tgt := 208) hx hb dL_law_32 (by rw [sw_0]; decide) (by rw [sw_0]; decide) (by rw [sw_0]; rfl) (by decide) ?_
      exact law_case_0 l C1 hK hN h mm u v H locs hP hD hS ls hl
    by_cases sw_1 : (xs 0) &&& 63 = 1
    · refine lv_tableIn (off := 199) (tgt := 231) hx hb dL_law_32 (by rw [sw_1]; decide) (by rw [sw_1]; decide) (by rw [sw_1]; rfl) (by decide) ?_
      exact law_case_1 l C1 hK hN h mm u v H locs hP hD hS ls hl
    by_cases sw_2 : (xs 0) &&& 63 = 2
    · refine lv_tableIn (off := 222) (tgt := 254) hx hb dL_law_32 (by rw [sw_2]; decide) (by rw [sw_2]; decide) (by rw [sw_2]; rfl) (by decide) ?_
      exact law_case_2 l C1 hK hN h mm u v H locs hP hD hS ls hl
    by_cases sw_3 : (xs 0) &&& 63 = 3
    · refine lv_tableIn (off := 235) (tgt := 267) hx hb dL_law_32 (by rw [sw_3]; decide) (by rw [sw_3]; decide) (by rw [sw_3]; rfl) (by decide) ?_
      exact law_case_3 l C1 hK hN h mm u v H locs hP hD hS ls hl
    by_cases sw_4 : (xs 0) &&& 63 = 4
    · refine lv_tableIn (off := 248) (tgt := 280) hx hb dL_law_32 (by rw [sw_4]; decide) (by rw [sw_4]; decide) (by rw [sw_4]; rfl) (by decide) ?_
      exact law_case_4 l C1 hK hN h mm u v H locs hP hD hS ls hl
    by_cases sw_5 : (xs 0) &&& 63 = 5
    · refine lv_tableIn (off := 271) (tgt := 303) hx hb dL_law_32 (by rw [sw_5]; decide) (by rw [sw_5]; decide) (by rw [sw_5]; rfl) (by decide) ?_
      exact law_case_5 l C1 hK hN h mm u v H locs hP hD hS ls hl
    by_cases sw_6 : (xs 0) &&& 63 = 6
    · refine lv_tableIn (off := 294) (tgt := 326) hx hb dL_law_32 (by rw [sw_6]; decide) (by rw [sw_6]; decide) (by rw [sw_6]; rfl) (by decide) ?_
      exact law_case_6 l C1 hK hN h mm u v H locs hP hD hS ls hl
    by_cases sw_7 : (xs 0) &&& 63 = 7
    · refine lv_tableIn (off := 317) (tgt := 349) hx hb dL_law_32 (by rw [sw_7]; decide) (by rw [sw_7]; decide) (by rw [sw_7]; rfl) (by decide) ?_
      exact law_case_7 l C1 hK hN h mm u v H locs hP hD hS ls hl
    by_cases sw_8 : (xs 0) &&& 63 = 8
    · refine lv_tableIn (off := 340) (tgt := 372) hx hb dL_law_32 (by rw [sw_8]; decide) (by rw [sw_8]; decide) (by rw [sw_8]; rfl) (by decide) ?_
      exact law_case_8 l C1 hK hN h mm u v H locs hP hD hS ls hl
    by_cases sw_9 : (xs 0) &&& 63 = 9
    · refine lv_tableIn (off := 373) (tgt := 405) hx hb dL_law_32 (by rw [sw_9]; decide) (by rw [sw_9]; decide) (by rw [sw_9]; rfl) (by decide) ?_
      exact law_case_9 l C1 hK hN h mm u v H locs hP hD hS ls hl
    by_cases sw_10 : (xs 0) &&& 63 = 10
    · refine lv_tableIn (off := 396) (tgt := 428) hx hb dL_law_32 (by rw [sw_10]; decide) (by rw [sw_10]; decide) (by rw [sw_10]; rfl) (by decide) ?_
      exact law_case_10 l C1 hK hN h mm u v H locs hP hD hS ls hl
    by_cases sw_11 : (xs 0) &&& 63 = 11
    · refine lv_tableIn (off := 419) (tgt := 451) hx hb dL_law_32 (by rw [sw_11]; decide) (by rw [sw_11]; decide) (by rw [sw_11]; rfl) (by decide) ?_
      exact law_case_11 l C1 hK hN h mm u v H locs hP hD hS ls hl
    by_cases sw_12 : (xs 0) &&& 63 = 12
    · refine lv_tableIn (off := 452) (tgt := 484) hx hb dL_law_32 (by rw [sw_12]; decide) (by rw [sw_12]; decide) (by rw [sw_12]; rfl) (by decide) ?_
      exact law_case_12 l C1 hK hN h mm u v H locs hP hD hS ls hl
    by_cases sw_13 : (xs 0) &&& 63 = 13
    · refine lv_tableIn (off := 485) (tgt := 517) hx hb dL_law_32 (by rw [sw_13]; decide) (by rw [sw_13]; decide) (by rw [sw_13]; rfl) (by decide) ?_
      exact law_case_13 l C1 hK hN h mm u v H locs hP hD hS ls hl
    by_cases sw_14 : (xs 0) &&& 63 = 14
    · refine lv_tableIn (off := 498) (tgt := 530) hx hb dL_law_32 (by rw [sw_14]; decide) (by rw [sw_14]; decide) (by rw [sw_14]; rfl) (by decide) ?_
      exact law_case_14 l C1 hK hN h mm u v H locs hP hD hS ls hl
    by_cases sw_15 : (xs 0) &&& 63 = 15
    · refine lv_tableIn (off := 531) (tgt := 563) hx hb dL_law_32 (by rw [sw_15]; decide) (by rw [sw_15]; decide) (by rw [sw_15]; rfl) (by decide) ?_
      exact law_case_15 l C1 hK hN h mm u v H locs hP hD hS ls hl
    by_cases sw_16 : (xs 0) &&& 63 = 16
    · refine lv_tableIn (off := 564) (tgt := 596) hx hb dL_law_32 (by rw [sw_16]; decide) (by rw [sw_16]; decide) (by rw [sw_16]; rfl) (by decide) ?_
      exact law_case_16 l C1 hK hN h mm u v H locs hP hD hS ls hl
    by_cases sw_17 : (xs 0) &&& 63 = 17
    · refine lv_tableIn (off := 597) (tgt := 629) hx hb dL_law_32 (by rw [sw_17]; decide) (by rw [sw_17]; decide) (by rw [sw_17]; rfl) (by decide) ?_
      exact law_case_17 l C1 hK hN h mm u v H locs hP hD hS ls hl
    by_cases sw_18 : (xs 0) &&& 63 = 18
    · refine lv_tableIn (off := 620) (tgt := 652) hx hb dL_law_32 (by rw [sw_18]; decide) (by rw [sw_18]; decide) (by rw [sw_18]; rfl) (by decide) ?_
      exact law_case_18 l C1 hK hN h mm u v H locs hP hD hS ls hl
    by_cases sw_19 : (xs 0) &&& 63 = 19
    · refine lv_tableIn (off := 643) (tgt := 675) hx hb dL_law_32 (by rw [sw_19]; decide) (by rw [sw_19]; decide) (by rw [sw_19]; rfl) (by decide) ?_
      exact law_case_19 l C1 hK hN h mm u v H locs hP hD hS ls hl
    by_cases sw_20 : (xs 0) &&& 63 = 20
    · refine lv_tableIn (off := 666) (tgt := 698) hx hb dL_law_32 (by rw [sw_20]; decide) (by rw [sw_20]; decide) (by rw [sw_20]; rfl) (by decide) ?_
      exact law_case_20 l C1 hK hN h mm u v H locs hP hD hS ls hl
    by_cases sw_21 : (xs 0) &&& 63 = 21
    · refine lv_tableIn (off := 709) (tgt := 741) hx hb dL_law_32 (by rw [sw_21]; decide) (by rw [sw_21]; decide) (by rw [sw_21]; rfl) (by decide) ?_
      exact law_case_21 l C1 hK hN h mm u v H locs hP hD hS ls hl
    by_cases sw_22 : (xs 0) &&& 63 = 22
    · refine lv_tableIn (off := 752) (tgt := 784) hx hb dL_law_32 (by rw [sw_22]; decide) (by rw [sw_22]; decide) (by rw [sw_22]; rfl) (by decide) ?_
      exact law_case_22 l C1 hK hN h mm u v H locs hP hD hS ls hl
    by_cases sw_23 : (xs 0) &&& 63 = 23
    · refine lv_tableIn (off := 785) (tgt := 817) hx hb dL_law_32 (by rw [sw_23]; decide) (by rw [sw_23]; decide) (by rw [sw_23]; rfl) (by decide) ?_
      exact law_case_23 l C1 hK hN h mm u v H locs hP hD hS ls hl
    by_cases sw_24 : (xs 0) &&& 63 = 24
    · refine lv_tableIn (off := 818) (tgt := 850) hx hb dL_law_32 (by rw [sw_24]; decide) (by rw [sw_24]; decide) (by rw [sw_24]; rfl) (by decide) ?_
      exact law_case_24 l C1 hK hN h mm u v H locs hP hD hS ls hl
    by_cases sw_25 : (xs 0) &&& 63 = 25
    · refine lv_tableIn (off := 841) (tgt := 873) hx hb dL_law_32 (by rw [sw_25]; decide) (by rw [sw_25]; decide) (by rw [sw_25]; rfl) (by decide) ?_
      exact law_case_25 l C1 hK hN h mm u v H locs hP hD hS ls hl
    by_cases sw_26 : (xs 0) &&& 63 = 26
    · refine lv_tableIn (off := 864) (tgt := 896) hx hb dL_law_32 (by rw [sw_26]; decide) (by rw [sw_26]; decide) (by rw [sw_26]; rfl) (by decide) ?_
      exact law_case_26 l C1 hK hN h mm u v H locs hP hD hS ls hl
    by_cases sw_27 : (xs 0) &&& 63 = 27
    · refine lv_tableIn (off := 908) (tgt := 940) hx hb dL_law_32 (by rw [sw_27]; decide) (by rw [sw_27]; decide) (by rw [sw_27]; rfl) (by decide) ?_
      exact law_case_27 l C1 hK hN h mm u v H locs hP hD hS ls hl
    by_cases sw_28 : (xs 0) &&& 63 = 28
    · refine lv_tableIn (off := 952) (tgt := 984) hx hb dL_law_32 (by rw [sw_28]; decide) (by rw [sw_28]; decide) (by rw [sw_28]; rfl) (by decide) ?_
      exact law_case_28 l C1 hK hN h mm u v H locs hP hD hS ls hl
    by_cases sw_29 : (xs 0) &&& 63 = 29
    · refine lv_tableIn (off := 995) (tgt := 1027) hx hb dL_law_32 (by rw [sw_29]; decide) (by rw [sw_29]; decide) (by rw [sw_29]; rfl) (by decide) ?_
      exact law_case_29 l C1 hK hN h mm u v H locs hP hD hS ls hl
    by_cases sw_30 : (xs 0) &&& 63 = 30
    · refine lv_tableIn (off := 1018) (tgt := 1050) hx hb dL_law_32 (by rw [sw_30]; decide) (by rw [sw_30]; decide) (by rw [sw_30]; rfl) (by decide) ?_
      exact law_case_30 l C1 hK hN h mm u v H locs hP hD hS ls hl
    by_cases sw_31 : (xs 0) &&& 63 = 31
    · refine lv_tableIn (off := 1041) (tgt := 1073) hx hb dL_law_32 (by rw [sw_31]; decide) (by rw [sw_31]; decide) (by rw [sw_31]; rfl) (by decide) ?_
      exact law_case_31 l C1 hK hN h mm u v H locs hP hD hS ls hl
    by_cases sw_32 : (xs 0) &&& 63 = 32
    · refine lv_tableIn (off := 1064) (tgt := 1096) hx hb dL_law_32 (by rw [sw_32]; decide) (by rw [sw_32]; decide) (by rw [sw_32]; rfl) (by decide) ?_
      exact law_case_32 l C1 hK hN h mm u v H locs hP hD hS ls hl
    by_cases sw_33 : (xs 0) &&& 63 = 33
    · refine lv_tableIn (off := 1107) (tgt := 1139) hx hb dL_law_32 (by rw [sw_33]; decide) (by rw [sw_33]; decide) (by rw [sw_33]; rfl) (by decide) ?_
      exact law_case_33 l C1 hK hN h mm u v H locs hP hD hS ls hl
    by_cases sw_34 : (xs 0) &&& 63 = 34
    · refine lv_tableIn (off := 1130) (tgt := 1162) hx hb dL_law_32 (by rw [sw_34]; decide) (by rw [sw_34]; decide) (by rw [sw_34]; rfl) (by decide) ?_
      exact law_case_34 l C1 hK hN h mm u v H locs hP hD hS ls hl
    by_cases sw_35 : (xs 0) &&& 63 = 35
    · refine lv_tableIn (off := 1153) (tgt := 1185) hx hb dL_law_32 (by rw [sw_35]; decide) (by rw [sw_35]; decide) (by rw [sw_35]; rfl) (by decide) ?_
      exact law_case_35 l C1 hK hN h mm u v H locs hP hD hS ls hl
    by_cases sw_36 : (xs 0) &&& 63 = 36
    · refine lv_tableIn (off := 1196) (tgt := 1228) hx hb dL_law_32 (by rw [sw_36]; decide) (by rw [sw_36]; decide) (by rw [sw_36]; rfl) (by decide) ?_
      exact law_case_36 l C1 hK hN h mm u v H locs hP hD hS ls hl
    by_cases sw_37 : (xs 0) &&& 63 = 37
    · refine lv_tableIn (off := 1239) (tgt := 1271) hx hb dL_law_32 (by rw [sw_37]; decide) (by rw [sw_37]; decide) (by rw [sw_37]; rfl) (by decide) ?_
      exact law_case_37 l C1 hK hN h mm u v H locs hP hD hS ls hl
    by_cases sw_38 : (xs 0) &&& 63 = 38
    · refine lv_tableIn (off := 1292) (tgt := 1324) hx hb dL_law_32 (by rw [sw_38]; decide) (by rw [sw_38]; decide) (by rw [sw_38]; rfl) (by decide) ?_
      exact law_case_38 l C1 hK hN h mm u v H locs hP hD hS ls hl
    by_cases sw_39 : (xs 0) &&& 63 = 39
    · refine lv_tableIn (off := 1305) (tgt := 1337) hx hb dL_law_32 (by rw [sw_39]; decide) (by rw [sw_39]; decide) (by rw [sw_39]; rfl) (by decide) ?_
      exact law_case_39 l C1 hK hN h mm u v H locs hP hD hS ls hl
    refine lv_tableOut (tgt := 1360) hx hb dL_law_32 (by have z0 := lv_neT sw_0 (a := 0) rfl; have z1 := lv_neT sw_1 (a := 1) rfl; have z2 := lv_neT sw_2 (a := 2) rfl; have z3 := lv_neT sw_3 (a := 3) rfl; have z4 := lv_neT sw_4 (a := 4) rfl; have z5 := lv_neT sw_5 (a := 5) rfl; have z6 := lv_neT sw_6 (a := 6) rfl; have z7 := lv_neT sw_7 (a := 7) rfl; have z8 := lv_neT sw_8 (a := 8) rfl; have z9 := lv_neT sw_9 (a := 9) rfl; have z10 := lv_neT sw_10 (a := 10) rfl; have z11 := lv_neT sw_11 (a := 11) rfl; have z12 := lv_neT sw_12 (a := 12) rfl; have z13 := lv_neT sw_13 (a := 13) rfl; have z14 := lv_neT sw_14 (a := 14) rfl; have z15 := lv_neT sw_15 (a := 15) rfl; have z16 := lv_neT sw_16 (a := 16) rfl; have z17 := lv_neT sw_17 (a := 17) rfl; have z18 := lv_neT sw_18 (a := 18) rfl; have z19 := lv_neT sw_19 (a := 19) rfl; have z20 := lv_neT sw_20 (a := 20) rfl; have z21 := lv_neT sw_21 (a := 21) rfl; have z22 := lv_neT sw_22 (a := 22) rfl; have z23 := lv_neT sw_23 (a := 23) rfl; have z24 := lv_neT sw_24 (a := 24) rfl; have z25 := lv_neT sw_25 (a := 25) rfl; have z26 := lv_neT sw_26 (a := 26) rfl; have z27 := lv_neT sw_27 (a := 27) rfl; have z28 := lv_neT sw_28 (a := 28) rfl; have z29 := lv_neT sw_29 (a := 29) rfl; have z30 := lv_neT sw_30 (a := 30) rfl; have z31 := lv_neT sw_31 (a := 31) rfl; have z32 := lv_neT sw_32 (a := 32) rfl; have z33 := lv_neT sw_33 (a := 33) rfl; have z34 := lv_neT sw_34 (a := 34) rfl; have z35 := lv_neT sw_35 (a := 35) rfl; have z36 := lv_neT sw_36 (a := 36) rfl; have z37 := lv_neT sw_37 (a := 37) rfl; have z38 := lv_neT sw_38 (a := 38) rfl; have z39 := lv_neT sw_39 (a := 39) rfl; omega) (by decide) ?_
    exact law_case_40 l C1 hK hN h mm u v H locs hP hD hS ls hl
