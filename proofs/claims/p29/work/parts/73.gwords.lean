-- THE WORDS OF THE TEXT: String constants, by their places
def hsWL : List Nat := [5, 5, 5, 6, 5, 4, 4, 4, 7]
def hsWB : List (List Int32) := [[112, 108, 97, 105, 110], [99, 104, 105, 108, 100], [115, 119, 101, 101, 116], [100, 101, 97, 108, 101, 114], [116, 104, 105, 110, 103], [115, 108, 105, 112], [102, 105, 110, 101], [99, 97, 115, 101], [108, 105, 103, 104, 116, 101, 114]]
def hsWI : List Nat := [95, 97, 99, 101, 103, 105, 106, 107, 109]
def hsWX : List String := ["plain", "child", "sweet", "dealer", "thing", "slip", "fine", "case", "lighter"]
/-- how long word w is; its letter j -/
def hsln (w : Nat) : Nat := hsWL.getD w 0
def hsch (w j : Nat) : Int32 := (hsWB.getD w []).getD j 0
theorem hsln_le {w : Nat} (h : w < 9) : hsln w ≤ 7 := by
  have key : ∀ w, w < 9 → hsln w ≤ 7 := by decide
  exact key w h
theorem hsch_c {w j : Nat} (h : w < 9) (hj : j < hsln w) : ((hsch w j &&& 255).toUInt32 % 65536).toInt32 = hsch w j := by
  have key : ∀ w, w < 9 → ∀ j, j < hsln w → ((hsch w j &&& 255).toUInt32 % 65536).toInt32 = hsch w j := by decide
  exact key w h j hj
theorem hsch_n {w j : Nat} (h : w < 9) (hj : j < hsln w) : narrow .char (.int (hsch w j)) = .int (hsch w j) := by
  have key : ∀ w, w < 9 → ∀ j, j < hsln w → (hsch w j).toUInt32.toUInt16.toUInt32.toInt32 = hsch w j := by decide
  exact congrArg Value.int (key w h j hj)
theorem hs_shr0 (x : Int32) : x >>> ((0 : Int32) &&& 31) = x := by
  have e : (0 : Int32) &&& 31 = 0 := by decide
  rw [e]
  exact Int32.shiftRight_zero
/-- the words stand in the heap and nobody writes them -/
def hsS (K : (Nat → Nat) × (Nat → Nat)) (A : Nat → Prop) (U : State) (H : Heap) : Prop :=
  vk_S 9 hsWL hsWB K.1 K.2 A U H ∧ (∀ i, i < 9 → vk_R RX5 (hsWI.getD i 0) (hsWX.getD i "") (K.1 i) U) ∧ va_Z "java/lang/String" "COMPACT_STRINGS" "Z" (.int 1) A U H ∧ va_Zq "jdk/internal/util/Preconditions" "SIOOBE_FORMATTER" "Ljava/util/function/BiFunction;" A U H
theorem hsS.warm {K : (Nat → Nat) × (Nat → Nat)} {A : Nat → Prop} {s U : State} {H : Heap} (hW : s.WarmedH U.vm) (h : hsS K A s H) : hsS K A U H :=
  ⟨vk_S.moved hW.alike h.1, fun i hi => vk_R.warm hW (h.2.1 i hi), va_Z.moved hW.alike h.2.2.1, va_Zq.moved hW.alike h.2.2.2⟩
theorem hsS.same {K : (Nat → Nat) × (Nat → Nat)} {A : Nat → Prop} {u U : State} {H : Heap} (h0 : u.vm = U.vm) (h : hsS K A u H) : hsS K A U H :=
  ⟨vk_S.moved (h0 ▸ Vm.Alike.refl u.vm) h.1, fun i hi => vk_R.same h0.symm (h.2.1 i hi), va_Z.moved (h0 ▸ Vm.Alike.refl u.vm) h.2.2.1, va_Zq.moved (h0 ▸ Vm.Alike.refl u.vm) h.2.2.2⟩
theorem hsS.kept {K : (Nat → Nat) × (Nat → Nat)} {A : Nat → Prop} {U : State} {H H1 : Heap} (h : hsS K A U H) (hq : ∀ a : Nat, a < H.size → ¬ A a → H1[a]? = H[a]?) : hsS K A U H1 :=
  ⟨h.1.kept hq, h.2.1, h.2.2.1.kept hq, h.2.2.2.kept hq⟩
theorem hsS.narrow {K : (Nat → Nat) × (Nat → Nat)} {A B : Nat → Prop} {U : State} {H : Heap} (h : hsS K A U H) (hAB : ∀ q, B q → A q) : hsS K B U H :=
  ⟨h.1.narrow hAB, h.2.1, h.2.2.1.narrow hAB, h.2.2.2.narrow hAB⟩
def hsE2 (D : va_G) (k : Nat → ClassId) (K : (Nat → Nat) × (Nat → Nat)) (ws : va_W) (sz : Nat) (U : State) : Prop := hsE D k ws sz U ∧ hsS K (va_A ws sz) U U.heap
abbrev MIS (l : Launch) (y : MethodName) (wy : List Cond) (rm : Room) (D : va_G) (k : Nat → ClassId) (K : (Nat → Nat) × (Nat → Nat)) (av : List Value) (ws : va_W) (sz : Nat) {S : Type} (post : Int32 → S → Prop) (w1 : S → va_W) : Prop := Met l y wy rm (va_Pc av (hsE2 D k K ws sz)) (va_Qi post (fun u => hsB D k (va_A ws sz) (w1 u)) (va_A ws sz)) rm.cells rm.slots (va_A ws sz)
abbrev MVS (l : Launch) (y : MethodName) (wy : List Cond) (rm : Room) (D : va_G) (k : Nat → ClassId) (K : (Nat → Nat) × (Nat → Nat)) (av : List Value) (ws : va_W) (sz : Nat) {S : Type} (post : S → Prop) (w1 : S → va_W) : Prop := Met l y wy rm (va_Pc av (hsE2 D k K ws sz)) (va_Qv post (fun u => hsB D k (va_A ws sz) (w1 u)) (va_A ws sz)) rm.cells rm.slots (va_A ws sz)
abbrev MOS (l : Launch) (y : MethodName) (wy : List Cond) (rm : Room) (D : va_G) (k : Nat → ClassId) (K : (Nat → Nat) × (Nat → Nat)) (av : List Value) (ws : va_W) (sz : Nat) {S : Type} (post : Option Nat → S → Prop) (w1 : S → va_W) : Prop := Met l y wy rm (va_Pc av (hsE2 D k K ws sz)) (va_Qe K.1 post (fun u => hsB D k (va_A ws sz) (w1 u)) (va_A ws sz)) rm.cells rm.slots (va_A ws sz)
theorem hs_fb2 {av : List Value} {D : va_G} {k : Nat → ClassId} {K : (Nat → Nat) × (Nat → Nat)} {ws : va_W} {sz : Nat} : FrameBlind (va_Pc av (hsE2 D k K ws sz)) := fun a U g mk q => by
  obtain ⟨q0, ⟨q1, qP, qK, qD, qN⟩, qZ⟩ := q
  exact ⟨q0, ⟨q1, qP, va_K.moved (u := U) (U := U.calling g mk a) (Vm.Alike.refl U.vm) qK, qD, hsN.same (u := U) rfl qN⟩, hsS.same (u := U) rfl qZ⟩
theorem hs_preS2 {s : State} {H : Heap} {D : va_G} {k : Nat → ClassId} {K : (Nat → Nat) × (Nat → Nat)} {wc : va_W} {A B : Nat → Prop} {locs : List Loc} (hK : va_K D vwCl (hsT k) s) (hN : hsN s) (hP : va_P D vwCl wc H) (hD : va_D A wc) (hZ : hsS K B s s.heap) (hS : va_S B s.heap H locs) (hF : ∀ q, va_A wc H.size q → B q) {av : List Value} : PreS s H (va_Pc av (hsE2 D k K wc H.size)) av :=
  ⟨hs_fb2, fun U hU hW => ⟨rfl, ⟨by rw [hU], by rw [hU]; exact hP, va_K.moved hW.alike hK, hD.weaken (fun _ _ _ _ => trivial), hsN.warm hW hN⟩, by rw [hU]; exact ((hZ.kept hS.2.1).narrow hF).warm hW⟩⟩
theorem hs_preV2 {s : State} {H : Heap} {D : va_G} {k : Nat → ClassId} {K : (Nat → Nat) × (Nat → Nat)} {wc : va_W} {A B : Nat → Prop} {locs : List Loc} (hK : va_K D vwCl (hsT k) s) (hN : hsN s) (hP : va_P D vwCl wc H) (hD : va_D A wc) (hZ : hsS K B s s.heap) (hS : va_S B s.heap H locs) (hF : ∀ q, va_A wc H.size q → B q) {b q0 ci : Nat} {q : vw_C} {fs : List Value} (hc : vwCl[ci]? = some q) (he : wc[q0]? = some (b, .inr (ci, fs))) {As : List Value} : PreV s H q.1 b (va_Pc (.ref b :: As) (hsE2 D k K wc H.size)) As :=
  ⟨hs_fb2, va_recv hK hP hc he, fun U hU hW => ⟨rfl, ⟨by rw [hU], by rw [hU]; exact hP, va_K.moved hW.alike hK, hD.weaken (fun _ _ _ _ => trivial), hsN.warm hW hN⟩, by rw [hU]; exact ((hZ.kept hS.2.1).narrow hF).warm hW⟩⟩
theorem hs_preVS {s : State} {H : Heap} {D : va_G} {k : Nat → ClassId} {K : (Nat → Nat) × (Nat → Nat)} {wc : va_W} {A B : Nat → Prop} {locs : List Loc} (hK : va_K D vwCl (hsT k) s) (hN : hsN s) (hP : va_P D vwCl wc H) (hD : va_D A wc) (hZ : hsS K B s s.heap) (hS : va_S B s.heap H locs) (hF : ∀ q, va_A wc H.size q → B q) {i : Nat} (hi : i < 9) {As : List Value} : PreV s H "java/lang/String" (K.1 i) (va_Pc (.ref (K.1 i) :: As) (hsE2 D k K wc H.size)) As :=
  ⟨hs_fb2, vk_recv hZ.1 hi hS, fun U hU hW => ⟨rfl, ⟨by rw [hU], by rw [hU]; exact hP, va_K.moved hW.alike hK, hD.weaken (fun _ _ _ _ => trivial), hsN.warm hW hN⟩, by rw [hU]; exact ((hZ.kept hS.2.1).narrow hF).warm hW⟩⟩
section HSS
variable {p : Program} {l : Launch} {e : Env} {R : Room} {s : State} {m : MethodId} {args : Array Value} {below : List Frame} {meth : Method} {c : Code} {H : Heap} {locs : List Loc} {cells slots : Nat} {Q : State → Prop}
variable {pc : Nat} {ls : Array Slot} {rest st0 : List Value} {a : Array Value} {A : Nat → Prop} {H0 : Heap} {mc ms : Nat} {D : va_G} {k : Nat → ClassId} {ws wc : va_W}
theorem hs_pv {S : Type} {post : S → Prop} {w1 : S → va_W} (hr : va_Run p l e R s m args below meth c H locs cells slots mc ms (F0 m pc ls st0) rest (va_Qv post (fun u => hsB D k (va_A [] H.size) (w1 u)) (va_A [] H.size) a) (va_A [] H.size)) (hP : va_P D vwCl ws H) (hD : va_D A ws) (hS : va_S A H0 H locs) (hA : ∀ q, H0.size ≤ q → A q)
    (kk : ∀ (u : S) (H1 : Heap) (locs1 : List Loc), post u → va_P D vwCl ws H1 → va_S A H0 H1 locs1 → W p l e R s m args below meth c H1 locs1 (cells + mc) (slots + ms) Q (F0 m (pc + 3) ls rest)) : W p l e R s m args below meth c H locs cells slots Q (F0 m pc ls st0) := by
  have hF := va_free (wc := []) hD hS hA [] rfl
  refine va_callv hr hS (fun q _ h => hF q h) hF (fun u t H1 locs1 ht hvm hw hB hz1 hk1 hS1 => ?_)
  refine kk u H1 locs1 hw (hP.kept fun i q hq => hk1 q.1 (hP i q hq).lt ?_) hS1
  rintro (⟨i2, e2, h⟩ | h)
  · simp at h
  · exact absurd (hP i q hq).lt (by omega)
theorem hs_pe {ad : Nat → Nat} {S : Type} {post : Option Nat → S → Prop} {w1 : S → va_W} (hr : va_Run p l e R s m args below meth c H locs cells slots mc ms (F0 m pc ls st0) rest (va_Qe ad post (fun u => hsB D k (va_A [] H.size) (w1 u)) (va_A [] H.size) a) (va_A [] H.size)) (hP : va_P D vwCl ws H) (hD : va_D A ws) (hS : va_S A H0 H locs) (hA : ∀ q, H0.size ≤ q → A q)
    (kk : ∀ (r : Option Nat) (u : S) (H1 : Heap) (locs1 : List Loc), post r u → va_P D vwCl ws H1 → va_S A H0 H1 locs1 → W p l e R s m args below meth c H1 locs1 (cells + mc) (slots + ms) Q (F0 m (pc + 3) ls (va_re ad r :: rest))) : W p l e R s m args below meth c H locs cells slots Q (F0 m pc ls st0) := by
  have hF := va_free (wc := []) hD hS hA [] rfl
  refine va_calle hr hS (fun q _ h => hF q h) hF (fun r u t H1 locs1 ht hvm hw hB hz1 hk1 hS1 => ?_)
  refine kk r u H1 locs1 hw (hP.kept fun i q hq => hk1 q.1 (hP i q hq).lt ?_) hS1
  rintro (⟨i2, e2, h⟩ | h)
  · simp at h
  · exact absurd (hP i q hq).lt (by omega)
variable {cc : ByteArray}
theorem hs_nret {S : Type} {post : Int32 → S → Prop} {w1 : S → va_W} {v : Int32} {ty : FieldType} (hx : p.tables.exec = Jvm.exec) (hb : c.code = cc) (hr : meth.sig.returnType = some ty) (hlocks : meth.locks = false) (hK : va_K D vwCl (hsT k) s) (hP : va_P D vwCl ws H) (hD : va_D A ws) (hS : va_S A s.heap H locs) (u : S) (is : List Nat) (hi : is.map (fun i => ws[i]?) = (w1 u).map some) (hin : va_nd is = true) (hdg : decode cc pc = .ok (.ireturn, 1)) (hn : narrow ty (.int v) = .int v) (hp : post v u) : W p l e R s m args below meth c H locs cells slots (MQ below (va_Qi post (fun u => hsB D k A (w1 u)) A) args s cells slots A) (F0 m pc ls [.int v]) :=
  W.zret hx hb hr hn (fun t ht hW => ⟨⟨v, u, rfl, hp, by rw [ht]; exact hs_subP hP is hi, va_K.moved hW.alike hK, hD.sub is hin hi⟩, hS.F ht⟩) hS.2.2 hdg hlocks
theorem hs_aret {ad : Nat → Nat} {w : Nat} {rt : String} {S : Type} {post : Option Nat → S → Prop} {w1 : S → va_W} (hx : p.tables.exec = Jvm.exec) (hb : c.code = cc) (hr : meth.sig.returnType = some (.object rt)) (hlocks : meth.locks = false) (hK : va_K D vwCl (hsT k) s) (hP : va_P D vwCl ws H) (hD : va_D A ws) (hS : va_S A s.heap H locs) (u : S) (is : List Nat) (hi : is.map (fun i => ws[i]?) = (w1 u).map some) (hin : va_nd is = true) (hdg : decode cc pc = .ok (.areturn, 1)) (hp : post (some w) u) : W p l e R s m args below meth c H locs cells slots (MQ below (va_Qe ad post (fun u => hsB D k A (w1 u)) A) args s cells slots A) (F0 m pc ls [.ref (ad w)]) :=
  W.aret hx hb hr (Or.inl ⟨_, rfl⟩) (Or.inr ⟨_, rfl⟩) (fun t ht hW => ⟨⟨some w, u, rfl, hp, by rw [ht]; exact hs_subP hP is hi, va_K.moved hW.alike hK, hD.sub is hin hi⟩, hS.F ht⟩) hS.2.2 hdg hlocks
end HSS

set_option maxHeartbeats 4000000 in
set_option maxRecDepth 100000 in
theorem gj_coder (l : Launch) (D : va_G) (k : Nat → ClassId) (sz : Nat) (K : (Nat → Nat) × (Nat → Nat)) (w : Nat) (hw9 : w < 9) : MIS l yJ0_coder_7d493 wsJ0_coder_7d493 ({ frames := 0, cells := 0, slots := 0, locals := 0 }) D k K [.ref (K.1 w)] [] sz (fun (r : Int32) (u : Unit) => r = 0) (fun (u : Unit) => []) := by
  refine Met.ofW (cc := cJ0_coder_7d493) (maxL := 1) (ret := (some .byte)) hpn_J0 rfl ?_
  intro p e s m args below meth c s₁ B hml hv
  obtain ⟨rfl, ⟨hsz, hP, hK, hD0, hN⟩, hZ⟩ := hv
  have hx := B.exec
  have hb := B.bytes
  have hr := B.returns
  have hlocks := B.notSynchronized
  have hts := atoms_spec (ws := wsJ0_coder_7d493) B.pre
  have hown := findClass_of_methodNamed B.named
  have hown : s.vm.findClass RJ0 = some m.cls := hown
  have fl38 := hts (.fieldLink RJ0 38 "java/lang/String" "COMPACT_STRINGS" "Z") (List.mem_cons_of_mem _ (hs_inG 2 77 rfl rfl))
  have fl15 := hts (.fieldLink RJ0 15 "java/lang/String" "coder" "B") (List.mem_cons_of_mem _ (hs_inG 6 40 rfl rfl))
  subst hsz
  have hD := hD0.self (sz := s.heap.size)
  generalize hAe : va_A [] s.heap.size = A at hD hZ ⊢
  have hA : ∀ q : Nat, s.heap.size ≤ q → A q := fun q h => by rw [← hAe]; exact Or.inr h
  have hS : va_S A s.heap s.heap [] := va_S.rf
  have hl := lv_entry ([.ref (K.1 w)]) (n := 1) (Nat.le_of_ble_eq_true rfl)
  rw [lg_entry_eq]
  generalize (lg_sl ([.ref (K.1 w)]) ++ List.replicate (1 - (lg_sl ([.ref (K.1 w)])).length) Slot.unset).toArray = ls at hl ⊢
  have hl : lv_has ls 1 [(0, .ref (K.1 w))] := hl
  have hP : va_P D vwCl [] s.heap := hP
  refine va_gets hx hb hZ.2.2.1 hS hown fl38 (fun _ h9 => h9) dJ0_coder_7d493_0 ?_
  refine lv_if_eq (tgt := 13) hx hb dJ0_coder_7d493_3 rfl (fun c_1 => absurd c_1 (by decide)) (fun c_1 => ?_)
  refine lv_aload_n hx hb dJ0_coder_7d493_6 rfl (lv_at hl 0 rfl) ?_
  refine vk_getf hx hb ((hZ.1.1 w hw9).2.1) hS hown fl15 (fun _ h9 => h9) dJ0_coder_7d493_7 ?_
  refine lv_goto (tgt := 14) hx hb dJ0_coder_7d493_10 rfl ?_
  exact hs_nret hx hb hr hlocks hK hP hD hS () [] rfl (by decide) dJ0_coder_7d493_14 rfl (rfl)

set_option maxHeartbeats 4000000 in
set_option maxRecDepth 100000 in
theorem gj_length (l : Launch) (D : va_G) (k : Nat → ClassId) (sz : Nat) (K : (Nat → Nat) × (Nat → Nat)) (w : Nat) (hw9 : w < 9) : MIS l yJ0_length_8abf5 wsJ0_length_8abf5 ({ frames := 1, cells := 0, slots := 0, locals := 20 }) D k K [.ref (K.1 w)] [] sz (fun (r : Int32) (u : Unit) => r = nI (hsln w)) (fun (u : Unit) => []) := by
  refine Met.ofW (cc := cJ0_length_8abf5) (maxL := 1) (ret := (some .int)) hpn_J0 rfl ?_
  intro p e s m args below meth c s₁ B hml hv
  obtain ⟨rfl, ⟨hsz, hP, hK, hD0, hN⟩, hZ⟩ := hv
  have hx := B.exec
  have hb := B.bytes
  have hr := B.returns
  have hlocks := B.notSynchronized
  have hts := atoms_spec (ws := wsJ0_length_8abf5) B.pre
  have hown := findClass_of_methodNamed B.named
  have hown : s.vm.findClass RJ0 = some m.cls := hown
  have fl9 := hts (.fieldLink RJ0 9 "java/lang/String" "value" "[B") (List.mem_cons_of_mem _ (hs_inG 6 39 rfl rfl))
  subst hsz
  have hD := hD0.self (sz := s.heap.size)
  generalize hAe : va_A [] s.heap.size = A at hD hZ ⊢
  have hA : ∀ q : Nat, s.heap.size ≤ q → A q := fun q h => by rw [← hAe]; exact Or.inr h
  have hS : va_S A s.heap s.heap [] := va_S.rf
  have hl := lv_entry ([.ref (K.1 w)]) (n := 1) (Nat.le_of_ble_eq_true rfl)
  rw [lg_entry_eq]
  generalize (lg_sl ([.ref (K.1 w)]) ++ List.replicate (1 - (lg_sl ([.ref (K.1 w)])).length) Slot.unset).toArray = ls at hl ⊢
  have hl : lv_has ls 1 [(0, .ref (K.1 w))] := hl
  have hP : va_P D vwCl [] s.heap := hP
  refine lv_aload_n hx hb dJ0_length_8abf5_0 rfl (lv_at hl 0 rfl) ?_
  refine vk_getf hx hb ((hZ.1.1 w hw9).2.2.1) hS hown fl9 (fun _ h9 => h9) dJ0_length_8abf5_1 ?_
  refine va_tlen (v := nI (hsln w)) hx hb ((hZ.1.1 w hw9).2.2.2) hS rfl dJ0_length_8abf5_4 ?_
  refine lv_aload_n hx hb dJ0_length_8abf5_5 rfl (lv_at hl 0 rfl) ?_
  refine hs_pi (va_runV (As := []) (rest := [.int (nI (hsln w))]) ⟨hx, hb, hml, hown, hts⟩ (gj_coder l D k _ K w (by omega)) (cwV 0 hts gJ0_length_8abf5_J0_coder_7d493 rfl rfl rfl ⟨rfl, hq_J0_coder_7d493⟩ ⟨Nat.le_of_ble_eq_true rfl, Nat.le_of_ble_eq_true rfl⟩) (hs_preVS hK hN (hs_subP (w := []) hP [] rfl) (hD.sub (ws' := []) [] rfl rfl) hZ hS (va_free (wc := []) hD hS hA [] rfl) (i := w) (by omega)) rfl rfl hl.1 rfl (lv_room (Nat.le_of_ble_eq_true rfl)) dJ0_length_8abf5_6 ⟨Nat.le_of_ble_eq_true rfl, Nat.le_of_ble_eq_true rfl⟩) hP hD hS hA (fun r_1 u_3 H locs hw_2 hP hS => ?_)
  refine hs_topi 0 (hw_2.trans (by first | rfl | decide +kernel | rfl)) ?_
  refine lv_ishr hx hb dJ0_length_8abf5_9 ?_
  refine hs_topi (nI (hsln w)) (hs_shr0 _) ?_
  exact hs_iret hx hb hr hlocks hK hP hD hS () [] rfl (hs_upnd rfl) dJ0_length_8abf5_10 (rfl)

set_option maxHeartbeats 4000000 in
set_option maxRecDepth 100000 in
theorem gj_isLatin1 (l : Launch) (D : va_G) (k : Nat → ClassId) (sz : Nat) (K : (Nat → Nat) × (Nat → Nat)) (w : Nat) (hw9 : w < 9) : MIS l yJ0_isLatin1_aae02 wsJ0_isLatin1_aae02 ({ frames := 0, cells := 0, slots := 0, locals := 0 }) D k K [.ref (K.1 w)] [] sz (fun (r : Int32) (u : Unit) => r = 1) (fun (u : Unit) => []) := by
  refine Met.ofW (cc := cJ0_isLatin1_aae02) (maxL := 1) (ret := (some .boolean)) hpn_J0 rfl ?_
  intro p e s m args below meth c s₁ B hml hv
  obtain ⟨rfl, ⟨hsz, hP, hK, hD0, hN⟩, hZ⟩ := hv
  have hx := B.exec
  have hb := B.bytes
  have hr := B.returns
  have hlocks := B.notSynchronized
  have hts := atoms_spec (ws := wsJ0_isLatin1_aae02) B.pre
  have hown := findClass_of_methodNamed B.named
  have hown : s.vm.findClass RJ0 = some m.cls := hown
  have fl38 := hts (.fieldLink RJ0 38 "java/lang/String" "COMPACT_STRINGS" "Z") (List.mem_cons_of_mem _ (hs_inG 2 77 rfl rfl))
  have fl15 := hts (.fieldLink RJ0 15 "java/lang/String" "coder" "B") (List.mem_cons_of_mem _ (hs_inG 6 40 rfl rfl))
  subst hsz
  have hD := hD0.self (sz := s.heap.size)
  generalize hAe : va_A [] s.heap.size = A at hD hZ ⊢
  have hA : ∀ q : Nat, s.heap.size ≤ q → A q := fun q h => by rw [← hAe]; exact Or.inr h
  have hS : va_S A s.heap s.heap [] := va_S.rf
  have hl := lv_entry ([.ref (K.1 w)]) (n := 1) (Nat.le_of_ble_eq_true rfl)
  rw [lg_entry_eq]
  generalize (lg_sl ([.ref (K.1 w)]) ++ List.replicate (1 - (lg_sl ([.ref (K.1 w)])).length) Slot.unset).toArray = ls at hl ⊢
  have hl : lv_has ls 1 [(0, .ref (K.1 w))] := hl
  have hP : va_P D vwCl [] s.heap := hP
  refine va_gets hx hb hZ.2.2.1 hS hown fl38 (fun _ h9 => h9) dJ0_isLatin1_aae02_0 ?_
  refine lv_if_eq (tgt := 17) hx hb dJ0_isLatin1_aae02_3 rfl (fun c_1 => absurd c_1 (by decide)) (fun c_1 => ?_)
  refine lv_aload_n hx hb dJ0_isLatin1_aae02_6 rfl (lv_at hl 0 rfl) ?_
  refine vk_getf hx hb ((hZ.1.1 w hw9).2.1) hS hown fl15 (fun _ h9 => h9) dJ0_isLatin1_aae02_7 ?_
  refine lv_if_ne (tgt := 17) hx hb dJ0_isLatin1_aae02_10 rfl (fun c_2 => absurd c_2 (by decide)) (fun c_2 => ?_)
  refine lv_iconst (v := 1) hx hb dJ0_isLatin1_aae02_13 hki_1 ?_
  refine lv_goto (tgt := 18) hx hb dJ0_isLatin1_aae02_14 rfl ?_
  exact hs_zret hx hb hr hlocks hK hP hD hS () [] rfl (hs_upnd rfl) dJ0_isLatin1_aae02_18 rfl (rfl)

set_option maxHeartbeats 4000000 in
set_option maxRecDepth 100000 in
theorem gj_checkn (l : Launch) (D : va_G) (k : Nat → ClassId) (sz : Nat) (K : (Nat → Nat) × (Nat → Nat)) (i : Nat) (n : Nat) (hi : i < n) (hn : n < 2 ^ 30) : MIS l yJ3_checkIndex_8e157 wsJ3_checkIndex_8e157 ({ frames := 0, cells := 0, slots := 0, locals := 0 }) D k K [.int (nI i), .int (nI n), .null] [] sz (fun (r : Int32) (u : Unit) => r = nI i) (fun (u : Unit) => []) := by
  refine Met.ofW (cc := cJ3_checkIndex_8e157) (maxL := 3) (ret := (some .int)) hpn_J3 rfl ?_
  intro p e s m args below meth c s₁ B hml hv
  obtain ⟨rfl, ⟨hsz, hP, hK, hD0, hN⟩, hZ⟩ := hv
  have hx := B.exec
  have hb := B.bytes
  have hr := B.returns
  have hlocks := B.notSynchronized
  have hts := atoms_spec (ws := wsJ3_checkIndex_8e157) B.pre
  have hown := findClass_of_methodNamed B.named
  have hown : s.vm.findClass RJ3 = some m.cls := hown
  subst hsz
  have hD := hD0.self (sz := s.heap.size)
  generalize hAe : va_A [] s.heap.size = A at hD hZ ⊢
  have hA : ∀ q : Nat, s.heap.size ≤ q → A q := fun q h => by rw [← hAe]; exact Or.inr h
  have hS : va_S A s.heap s.heap [] := va_S.rf
  have hl := lv_entry ([.int (nI i), .int (nI n), .null]) (n := 3) (Nat.le_of_ble_eq_true rfl)
  rw [lg_entry_eq]
  generalize (lg_sl ([.int (nI i), .int (nI n), .null]) ++ List.replicate (3 - (lg_sl ([.int (nI i), .int (nI n), .null])).length) Slot.unset).toArray = ls at hl ⊢
  have hl : lv_has ls 3 [(0, .int (nI i)), (1, .int (nI n)), (2, .null)] := hl
  have hP : va_P D vwCl [] s.heap := hP
  refine lv_iload_n hx hb dJ3_checkIndex_8e157_0 rfl (lv_at hl 0 rfl) ?_
  refine lv_if_lt (tgt := 9) hx hb dJ3_checkIndex_8e157_1 rfl (fun c_1 => absurd ((nI_ltI (a := i) (b := 0) (by omega) (by omega)).mp c_1) (by omega)) (fun c_1 => ?_)
  refine lv_iload_n hx hb dJ3_checkIndex_8e157_4 rfl (lv_at hl 0 rfl) ?_
  refine lv_iload_n hx hb dJ3_checkIndex_8e157_5 rfl (lv_at hl 1 rfl) ?_
  refine lv_icmp_lt (tgt := 16) hx hb dJ3_checkIndex_8e157_6 rfl (fun c_2 => ?_) (fun c_2 => absurd ((nI_ltI (a := i) (b := n) (by omega) (by omega)).mpr hi) c_2)
  refine lv_iload_n hx hb dJ3_checkIndex_8e157_16 rfl (lv_at hl 0 rfl) ?_
  exact hs_iret hx hb hr hlocks hK hP hD hS () [] rfl (hs_upnd rfl) dJ3_checkIndex_8e157_17 (rfl)

set_option maxHeartbeats 4000000 in
set_option maxRecDepth 100000 in
theorem gj_checkr (l : Launch) (D : va_G) (k : Nat → ClassId) (sz : Nat) (K : (Nat → Nat) × (Nat → Nat)) (i : Nat) (n : Nat) (tq : Nat) (hi : i < n) (hn : n < 2 ^ 30) : MIS l yJ3_checkIndex_8e157 wsJ3_checkIndex_8e157 ({ frames := 0, cells := 0, slots := 0, locals := 0 }) D k K [.int (nI i), .int (nI n), .ref tq] [] sz (fun (r : Int32) (u : Unit) => r = nI i) (fun (u : Unit) => []) := by
  refine Met.ofW (cc := cJ3_checkIndex_8e157) (maxL := 3) (ret := (some .int)) hpn_J3 rfl ?_
  intro p e s m args below meth c s₁ B hml hv
  obtain ⟨rfl, ⟨hsz, hP, hK, hD0, hN⟩, hZ⟩ := hv
  have hx := B.exec
  have hb := B.bytes
  have hr := B.returns
  have hlocks := B.notSynchronized
  have hts := atoms_spec (ws := wsJ3_checkIndex_8e157) B.pre
  have hown := findClass_of_methodNamed B.named
  have hown : s.vm.findClass RJ3 = some m.cls := hown
  subst hsz
  have hD := hD0.self (sz := s.heap.size)
  generalize hAe : va_A [] s.heap.size = A at hD hZ ⊢
  have hA : ∀ q : Nat, s.heap.size ≤ q → A q := fun q h => by rw [← hAe]; exact Or.inr h
  have hS : va_S A s.heap s.heap [] := va_S.rf
  have hl := lv_entry ([.int (nI i), .int (nI n), .ref tq]) (n := 3) (Nat.le_of_ble_eq_true rfl)
  rw [lg_entry_eq]
  generalize (lg_sl ([.int (nI i), .int (nI n), .ref tq]) ++ List.replicate (3 - (lg_sl ([.int (nI i), .int (nI n), .ref tq])).length) Slot.unset).toArray = ls at hl ⊢
  have hl : lv_has ls 3 [(0, .int (nI i)), (1, .int (nI n)), (2, .ref tq)] := hl
  have hP : va_P D vwCl [] s.heap := hP
  refine lv_iload_n hx hb dJ3_checkIndex_8e157_0 rfl (lv_at hl 0 rfl) ?_
  refine lv_if_lt (tgt := 9) hx hb dJ3_checkIndex_8e157_1 rfl (fun c_1 => absurd ((nI_ltI (a := i) (b := 0) (by omega) (by omega)).mp c_1) (by omega)) (fun c_1 => ?_)
  refine lv_iload_n hx hb dJ3_checkIndex_8e157_4 rfl (lv_at hl 0 rfl) ?_
  refine lv_iload_n hx hb dJ3_checkIndex_8e157_5 rfl (lv_at hl 1 rfl) ?_
  refine lv_icmp_lt (tgt := 16) hx hb dJ3_checkIndex_8e157_6 rfl (fun c_2 => ?_) (fun c_2 => absurd ((nI_ltI (a := i) (b := n) (by omega) (by omega)).mpr hi) c_2)
  refine lv_iload_n hx hb dJ3_checkIndex_8e157_16 rfl (lv_at hl 0 rfl) ?_
  exact hs_iret hx hb hr hlocks hK hP hD hS () [] rfl (hs_upnd rfl) dJ3_checkIndex_8e157_17 (rfl)

set_option maxHeartbeats 4000000 in
set_option maxRecDepth 100000 in
theorem gj_checkIndex (l : Launch) (D : va_G) (k : Nat → ClassId) (sz : Nat) (K : (Nat → Nat) × (Nat → Nat)) (i : Nat) (n : Nat) (hi : i < n) (hn : n < 2 ^ 30) : MVS l yJ0_checkIndex_df160 wsJ0_checkIndex_df160 ({ frames := 1, cells := 0, slots := 0, locals := 22 }) D k K [.int (nI i), .int (nI n)] [] sz (fun (u : Unit) => True) (fun (u : Unit) => []) := by
  refine Met.ofW (cc := cJ0_checkIndex_df160) (maxL := 2) (ret := none) hpn_J0 rfl ?_
  intro p e s m args below meth c s₁ B hml hv
  obtain ⟨rfl, ⟨hsz, hP, hK, hD0, hN⟩, hZ⟩ := hv
  have hx := B.exec
  have hb := B.bytes
  have hr := B.returns
  have hlocks := B.notSynchronized
  have hts := atoms_spec (ws := wsJ0_checkIndex_df160) B.pre
  have hown := findClass_of_methodNamed B.named
  have hown : s.vm.findClass RJ0 = some m.cls := hown
  have fl1053 := hts (.fieldLink RJ0 1053 "jdk/internal/util/Preconditions" "SIOOBE_FORMATTER" "Ljava/util/function/BiFunction;") (List.mem_cons_of_mem _ (hs_inG 2 93 rfl rfl))
  subst hsz
  have hD := hD0.self (sz := s.heap.size)
  generalize hAe : va_A [] s.heap.size = A at hD hZ ⊢
  have hA : ∀ q : Nat, s.heap.size ≤ q → A q := fun q h => by rw [← hAe]; exact Or.inr h
  have hS : va_S A s.heap s.heap [] := va_S.rf
  have hl := lv_entry ([.int (nI i), .int (nI n)]) (n := 2) (Nat.le_of_ble_eq_true rfl)
  rw [lg_entry_eq]
  generalize (lg_sl ([.int (nI i), .int (nI n)]) ++ List.replicate (2 - (lg_sl ([.int (nI i), .int (nI n)])).length) Slot.unset).toArray = ls at hl ⊢
  have hl : lv_has ls 2 [(0, .int (nI i)), (1, .int (nI n))] := hl
  have hP : va_P D vwCl [] s.heap := hP
  refine lv_iload_n hx hb dJ0_checkIndex_df160_0 rfl (lv_at hl 0 rfl) ?_
  refine lv_iload_n hx hb dJ0_checkIndex_df160_1 rfl (lv_at hl 1 rfl) ?_
  rcases hZ.2.2.2 with hq | ⟨tq, hq⟩
  · refine va_gets hx hb hq hS hown fl1053 (fun _ h9 => h9) dJ0_checkIndex_df160_2 ?_
    refine hs_pi (va_runS (As := [.int (nI i), .int (nI n), .null]) (rest := []) ⟨hx, hb, hml, hown, hts⟩ (gj_checkn l D k _ K i n (by omega) (by omega)) (va_cwS 3 hts gJ0_checkIndex_df160_J3_checkIndex_8e157 rfl rfl rfl hq_J3_checkIndex_8e157 ⟨Nat.le_of_ble_eq_true rfl, Nat.le_of_ble_eq_true rfl⟩) (hs_preS2 hK hN (hs_subP (w := []) hP [] rfl) (hD.sub (ws' := []) [] rfl rfl) hZ hS (va_free (wc := []) hD hS hA [] rfl)) rfl rfl hl.1 rfl (lv_room (Nat.le_of_ble_eq_true rfl)) dJ0_checkIndex_df160_5 ⟨Nat.le_of_ble_eq_true rfl, Nat.le_of_ble_eq_true rfl⟩) hP hD hS hA (fun r_1 u_3 H locs hw_2 hP hS => ?_)
    refine hs_topi (nI i) hw_2 ?_
    refine lv_pop hx hb dJ0_checkIndex_df160_8 rfl ?_
    exact hs_vret hx hb hr hlocks hK hP hD hS () [] rfl (hs_upnd rfl) dJ0_checkIndex_df160_9 (trivial)
  · refine va_gets hx hb hq hS hown fl1053 (fun _ h9 => h9) dJ0_checkIndex_df160_2 ?_
    refine hs_pi (va_runS (As := [.int (nI i), .int (nI n), .ref tq]) (rest := []) ⟨hx, hb, hml, hown, hts⟩ (gj_checkr l D k _ K i n tq (by omega) (by omega)) (va_cwS 3 hts gJ0_checkIndex_df160_J3_checkIndex_8e157 rfl rfl rfl hq_J3_checkIndex_8e157 ⟨Nat.le_of_ble_eq_true rfl, Nat.le_of_ble_eq_true rfl⟩) (hs_preS2 hK hN (hs_subP (w := []) hP [] rfl) (hD.sub (ws' := []) [] rfl rfl) hZ hS (va_free (wc := []) hD hS hA [] rfl)) rfl rfl hl.1 rfl (lv_room (Nat.le_of_ble_eq_true rfl)) dJ0_checkIndex_df160_5 ⟨Nat.le_of_ble_eq_true rfl, Nat.le_of_ble_eq_true rfl⟩) hP hD hS hA (fun r_4 u_6 H locs hw_5 hP hS => ?_)
    refine hs_topi (nI i) hw_5 ?_
    refine lv_pop hx hb dJ0_checkIndex_df160_8 rfl ?_
    exact hs_vret hx hb hr hlocks hK hP hD hS () [] rfl (hs_upnd rfl) dJ0_checkIndex_df160_9 (trivial)

set_option maxHeartbeats 4000000 in
set_option maxRecDepth 100000 in
theorem gj_charAt1 (l : Launch) (D : va_G) (k : Nat → ClassId) (sz : Nat) (K : (Nat → Nat) × (Nat → Nat)) (w : Nat) (j : Nat) (hw9 : w < 9) (hj : j < hsln w) : MIS l yJ1_charAt_3b067 wsJ1_charAt_3b067 ({ frames := 2, cells := 0, slots := 0, locals := 43 }) D k K [.ref (K.2 w), .int (nI j)] [] sz (fun (r : Int32) (u : Unit) => r = hsch w j) (fun (u : Unit) => []) := by
  refine Met.ofW (cc := cJ1_charAt_3b067) (maxL := 2) (ret := (some .char)) hpn_J1 rfl ?_
  intro p e s m args below meth c s₁ B hml hv
  obtain ⟨rfl, ⟨hsz, hP, hK, hD0, hN⟩, hZ⟩ := hv
  have hx := B.exec
  have hb := B.bytes
  have hr := B.returns
  have hlocks := B.notSynchronized
  have hts := atoms_spec (ws := wsJ1_charAt_3b067) B.pre
  have hown := findClass_of_methodNamed B.named
  have hown : s.vm.findClass RJ1 = some m.cls := hown
  subst hsz
  have hD := hD0.self (sz := s.heap.size)
  generalize hAe : va_A [] s.heap.size = A at hD hZ ⊢
  have hA : ∀ q : Nat, s.heap.size ≤ q → A q := fun q h => by rw [← hAe]; exact Or.inr h
  have hS : va_S A s.heap s.heap [] := va_S.rf
  have hl := lv_entry ([.ref (K.2 w), .int (nI j)]) (n := 2) (Nat.le_of_ble_eq_true rfl)
  rw [lg_entry_eq]
  generalize (lg_sl ([.ref (K.2 w), .int (nI j)]) ++ List.replicate (2 - (lg_sl ([.ref (K.2 w), .int (nI j)])).length) Slot.unset).toArray = ls at hl ⊢
  have hl : lv_has ls 2 [(0, .ref (K.2 w)), (1, .int (nI j))] := hl
  have hP : va_P D vwCl [] s.heap := hP
  refine lv_iload_n hx hb dJ1_charAt_3b067_0 rfl (lv_at hl 1 rfl) ?_
  refine lv_aload_n hx hb dJ1_charAt_3b067_1 rfl (lv_at hl 0 rfl) ?_
  refine va_tlen (v := nI (hsln w)) hx hb ((hZ.1.1 w hw9).2.2.2) hS rfl dJ1_charAt_3b067_2 ?_
  refine hs_pv (va_runS (As := [.int (nI j), .int (nI (hsln w))]) (rest := []) ⟨hx, hb, hml, hown, hts⟩ (gj_checkIndex l D k _ K j (hsln w) (by have := hsln_le hw9; omega) (by have := hsln_le hw9; omega)) (va_cwS 2 hts gJ1_charAt_3b067_J0_checkIndex_df160 rfl rfl rfl hq_J0_checkIndex_df160 ⟨Nat.le_of_ble_eq_true rfl, Nat.le_of_ble_eq_true rfl⟩) (hs_preS2 hK hN (hs_subP (w := []) hP [] rfl) (hD.sub (ws' := []) [] rfl rfl) hZ hS (va_free (wc := []) hD hS hA [] rfl)) rfl rfl hl.1 rfl (lv_room (Nat.le_of_ble_eq_true rfl)) dJ1_charAt_3b067_3 ⟨Nat.le_of_ble_eq_true rfl, Nat.le_of_ble_eq_true rfl⟩) hP hD hS hA (fun u_3 H locs hw_2 hP hS => ?_)
  refine lv_aload_n hx hb dJ1_charAt_3b067_6 rfl (lv_at hl 0 rfl) ?_
  refine lv_iload_n hx hb dJ1_charAt_3b067_7 rfl (lv_at hl 1 rfl) ?_
  refine va_tb (v := .int (hsch w j)) hx hb ((hZ.1.1 w hw9).2.2.2) hS (vp_in_nI (show j < hsln w by omega) (by have := hsln_le hw9; exact Nat.lt_of_le_of_lt this (by decide))) (by rw [nI_clamp (by have := hsln_le hw9; omega)]; rfl) dJ1_charAt_3b067_8 ?_
  refine lv_sipush (v := 255) hx hb dJ1_charAt_3b067_9 hkp_255 ?_
  refine lv_iand hx hb dJ1_charAt_3b067_12 ?_
  refine lv_i2c (v := hsch w j) hx hb dJ1_charAt_3b067_13 (hsch_c hw9 hj) ?_
  exact hs_nret hx hb hr hlocks hK hP hD hS () [] rfl (by decide) dJ1_charAt_3b067_14 (hsch_n hw9 hj) (rfl)

set_option maxHeartbeats 4000000 in
set_option maxRecDepth 100000 in
theorem gj_charAt (l : Launch) (D : va_G) (k : Nat → ClassId) (sz : Nat) (K : (Nat → Nat) × (Nat → Nat)) (w : Nat) (j : Nat) (hw9 : w < 9) (hj : j < hsln w) : MIS l yJ0_charAt_5068e wsJ0_charAt_5068e ({ frames := 3, cells := 0, slots := 0, locals := 64 }) D k K [.ref (K.1 w), .int (nI j)] [] sz (fun (r : Int32) (u : Unit) => r = hsch w j) (fun (u : Unit) => []) := by
  refine Met.ofW (cc := cJ0_charAt_5068e) (maxL := 2) (ret := (some .char)) hpn_J0 rfl ?_
  intro p e s m args below meth c s₁ B hml hv
  obtain ⟨rfl, ⟨hsz, hP, hK, hD0, hN⟩, hZ⟩ := hv
  have hx := B.exec
  have hb := B.bytes
  have hr := B.returns
  have hlocks := B.notSynchronized
  have hts := atoms_spec (ws := wsJ0_charAt_5068e) B.pre
  have hown := findClass_of_methodNamed B.named
  have hown : s.vm.findClass RJ0 = some m.cls := hown
  have fl9 := hts (.fieldLink RJ0 9 "java/lang/String" "value" "[B") (List.mem_cons_of_mem _ (hs_inG 6 39 rfl rfl))
  subst hsz
  have hD := hD0.self (sz := s.heap.size)
  generalize hAe : va_A [] s.heap.size = A at hD hZ ⊢
  have hA : ∀ q : Nat, s.heap.size ≤ q → A q := fun q h => by rw [← hAe]; exact Or.inr h
  have hS : va_S A s.heap s.heap [] := va_S.rf
  have hl := lv_entry ([.ref (K.1 w), .int (nI j)]) (n := 2) (Nat.le_of_ble_eq_true rfl)
  rw [lg_entry_eq]
  generalize (lg_sl ([.ref (K.1 w), .int (nI j)]) ++ List.replicate (2 - (lg_sl ([.ref (K.1 w), .int (nI j)])).length) Slot.unset).toArray = ls at hl ⊢
  have hl : lv_has ls 2 [(0, .ref (K.1 w)), (1, .int (nI j))] := hl
  have hP : va_P D vwCl [] s.heap := hP
  refine lv_aload_n hx hb dJ0_charAt_5068e_0 rfl (lv_at hl 0 rfl) ?_
  refine hs_pi (va_runV (As := []) (rest := []) ⟨hx, hb, hml, hown, hts⟩ (gj_isLatin1 l D k _ K w (by omega)) (cwV 0 hts gJ0_charAt_5068e_J0_isLatin1_aae02 rfl rfl rfl ⟨rfl, hq_J0_isLatin1_aae02⟩ ⟨Nat.le_of_ble_eq_true rfl, Nat.le_of_ble_eq_true rfl⟩) (hs_preVS hK hN (hs_subP (w := []) hP [] rfl) (hD.sub (ws' := []) [] rfl rfl) hZ hS (va_free (wc := []) hD hS hA [] rfl) (i := w) (by omega)) rfl rfl hl.1 rfl (lv_room (Nat.le_of_ble_eq_true rfl)) dJ0_charAt_5068e_1 ⟨Nat.le_of_ble_eq_true rfl, Nat.le_of_ble_eq_true rfl⟩) hP hD hS hA (fun r_1 u_3 H locs hw_2 hP hS => ?_)
  refine hs_topi 1 (hw_2.trans (by first | rfl | decide +kernel | rfl)) ?_
  refine lv_if_eq (tgt := 16) hx hb dJ0_charAt_5068e_4 rfl (fun c_4 => absurd c_4 (by decide)) (fun c_4 => ?_)
  refine lv_aload_n hx hb dJ0_charAt_5068e_7 rfl (lv_at hl 0 rfl) ?_
  refine vk_getf hx hb ((hZ.1.1 w hw9).2.2.1) hS hown fl9 (fun _ h9 => h9) dJ0_charAt_5068e_8 ?_
  refine lv_iload_n hx hb dJ0_charAt_5068e_11 rfl (lv_at hl 1 rfl) ?_
  refine hs_pi (va_runS (As := [.ref (K.2 w), .int (nI j)]) (rest := []) ⟨hx, hb, hml, hown, hts⟩ (gj_charAt1 l D k _ K w j (by omega) (by omega)) (va_cwS 2 hts gJ0_charAt_5068e_J1_charAt_3b067 rfl rfl rfl hq_J1_charAt_3b067 ⟨Nat.le_of_ble_eq_true rfl, Nat.le_of_ble_eq_true rfl⟩) (hs_preS2 hK hN (hs_subP (w := []) hP [] rfl) (hD.sub (ws' := []) [] rfl rfl) hZ hS (va_free (wc := []) hD hS hA [] rfl)) rfl rfl hl.1 rfl (lv_room (Nat.le_of_ble_eq_true rfl)) dJ0_charAt_5068e_12 ⟨Nat.le_of_ble_eq_true rfl, Nat.le_of_ble_eq_true rfl⟩) hP hD hS hA (fun r_5 u_7 H locs hw_6 hP hS => ?_)
  refine hs_topi (hsch w j) hw_6 ?_
  exact hs_nret hx hb hr hlocks hK hP hD hS () [] rfl (by decide) dJ0_charAt_5068e_15 (hsch_n hw9 hj) (rfl)

set_option maxHeartbeats 4000000 in
set_option maxRecDepth 100000 in
theorem g_wordOf (l : Launch) (D : va_G) (k : Nat → ClassId) (sz : Nat) (K : (Nat → Nat) × (Nat → Nat)) (vv : Int32) (hk : vv = 0 ∨ vv = 1 ∨ vv = 2 ∨ vv = 3 ∨ vv = 4 ∨ vv = 5 ∨ vv = 6 ∨ vv = 7 ∨ vv = 8) : MOS l yX5_wordOf wsX5_wordOf ({ frames := 0, cells := 0, slots := 0, locals := 0 }) D k K [.int vv] [] sz (fun (r : Option Nat) (u : Unit) => r = some vv.toNatClampNeg) (fun (u : Unit) => []) := by
  refine Met.ofW (cc := cX5_wordOf) (maxL := 1) (ret := (some (.object "java/lang/String"))) hpn_X5 rfl ?_
  intro p e s m args below meth c s₁ B hml hv
  obtain ⟨rfl, ⟨hsz, hP, hK, hD0, hN⟩, hZ⟩ := hv
  have hx := B.exec
  have hb := B.bytes
  have hr := B.returns
  have hlocks := B.notSynchronized
  have hts := atoms_spec (ws := wsX5_wordOf) B.pre
  have hown := findClass_of_methodNamed B.named
  have hown : s.vm.findClass RX5 = some m.cls := hown
  subst hsz
  have hD := hD0.self (sz := s.heap.size)
  generalize hAe : va_A [] s.heap.size = A at hD hZ ⊢
  have hA : ∀ q : Nat, s.heap.size ≤ q → A q := fun q h => by rw [← hAe]; exact Or.inr h
  have hS : va_S A s.heap s.heap [] := va_S.rf
  have hl := lv_entry ([.int vv]) (n := 1) (Nat.le_of_ble_eq_true rfl)
  rw [lg_entry_eq]
  generalize (lg_sl ([.int vv]) ++ List.replicate (1 - (lg_sl ([.int vv])).length) Slot.unset).toArray = ls at hl ⊢
  have hl : lv_has ls 1 [(0, .int vv)] := hl
  have hP : va_P D vwCl [] s.heap := hP
  rcases hk with rfl | rfl | rfl | rfl | rfl | rfl | rfl | rfl | rfl
  · refine lv_iload_n hx hb dX5_wordOf_0 rfl (lv_at hl 0 rfl) ?_
    refine lv_tableIn (off := 47) (tgt := 48) hx hb dX5_wordOf_1 (by decide) (by decide) (by rfl) (by decide) ?_
    refine va_ldcS (q := K.1 0) hx hb hown (hZ.2.1 0 (by decide)) dX5_wordOf_48 ?_
    exact hs_aret hx hb hr hlocks hK hP hD hS () [] rfl (by decide) dX5_wordOf_50 (rfl)
  · refine lv_iload_n hx hb dX5_wordOf_0 rfl (lv_at hl 0 rfl) ?_
    refine lv_tableIn (off := 50) (tgt := 51) hx hb dX5_wordOf_1 (by decide) (by decide) (by rfl) (by decide) ?_
    refine va_ldcS (q := K.1 1) hx hb hown (hZ.2.1 1 (by decide)) dX5_wordOf_51 ?_
    exact hs_aret hx hb hr hlocks hK hP hD hS () [] rfl (by decide) dX5_wordOf_53 (rfl)
  · refine lv_iload_n hx hb dX5_wordOf_0 rfl (lv_at hl 0 rfl) ?_
    refine lv_tableIn (off := 53) (tgt := 54) hx hb dX5_wordOf_1 (by decide) (by decide) (by rfl) (by decide) ?_
    refine va_ldcS (q := K.1 2) hx hb hown (hZ.2.1 2 (by decide)) dX5_wordOf_54 ?_
    exact hs_aret hx hb hr hlocks hK hP hD hS () [] rfl (by decide) dX5_wordOf_56 (rfl)
  · refine lv_iload_n hx hb dX5_wordOf_0 rfl (lv_at hl 0 rfl) ?_
    refine lv_tableIn (off := 56) (tgt := 57) hx hb dX5_wordOf_1 (by decide) (by decide) (by rfl) (by decide) ?_
    refine va_ldcS (q := K.1 3) hx hb hown (hZ.2.1 3 (by decide)) dX5_wordOf_57 ?_
    exact hs_aret hx hb hr hlocks hK hP hD hS () [] rfl (by decide) dX5_wordOf_59 (rfl)
  · refine lv_iload_n hx hb dX5_wordOf_0 rfl (lv_at hl 0 rfl) ?_
    refine lv_tableIn (off := 59) (tgt := 60) hx hb dX5_wordOf_1 (by decide) (by decide) (by rfl) (by decide) ?_
    refine va_ldcS (q := K.1 4) hx hb hown (hZ.2.1 4 (by decide)) dX5_wordOf_60 ?_
    exact hs_aret hx hb hr hlocks hK hP hD hS () [] rfl (by decide) dX5_wordOf_62 (rfl)
  · refine lv_iload_n hx hb dX5_wordOf_0 rfl (lv_at hl 0 rfl) ?_
    refine lv_tableIn (off := 62) (tgt := 63) hx hb dX5_wordOf_1 (by decide) (by decide) (by rfl) (by decide) ?_
    refine va_ldcS (q := K.1 5) hx hb hown (hZ.2.1 5 (by decide)) dX5_wordOf_63 ?_
    exact hs_aret hx hb hr hlocks hK hP hD hS () [] rfl (by decide) dX5_wordOf_65 (rfl)
  · refine lv_iload_n hx hb dX5_wordOf_0 rfl (lv_at hl 0 rfl) ?_
    refine lv_tableIn (off := 65) (tgt := 66) hx hb dX5_wordOf_1 (by decide) (by decide) (by rfl) (by decide) ?_
    refine va_ldcS (q := K.1 6) hx hb hown (hZ.2.1 6 (by decide)) dX5_wordOf_66 ?_
    exact hs_aret hx hb hr hlocks hK hP hD hS () [] rfl (by decide) dX5_wordOf_68 (rfl)
  · refine lv_iload_n hx hb dX5_wordOf_0 rfl (lv_at hl 0 rfl) ?_
    refine lv_tableIn (off := 68) (tgt := 69) hx hb dX5_wordOf_1 (by decide) (by decide) (by rfl) (by decide) ?_
    refine va_ldcS (q := K.1 7) hx hb hown (hZ.2.1 7 (by decide)) dX5_wordOf_69 ?_
    exact hs_aret hx hb hr hlocks hK hP hD hS () [] rfl (by decide) dX5_wordOf_71 (rfl)
  · refine lv_iload_n hx hb dX5_wordOf_0 rfl (lv_at hl 0 rfl) ?_
    refine lv_tableOut (tgt := 72) hx hb dX5_wordOf_1 (by decide) (by decide) ?_
    refine va_ldcS (q := K.1 8) hx hb hown (hZ.2.1 8 (by decide)) dX5_wordOf_72 ?_
    exact hs_aret hx hb hr hlocks hK hP hD hS () [] rfl (by decide) dX5_wordOf_74 (rfl)
