-- THE BASE: what every contract says of the machine, in short words
/-- the kinds of array: ints, longs, booleans, sheets, things -/
abbrev hsT (k : Nat → ClassId) : List (ClassId × FieldType) := [(k 0, .int), (k 1, .long), (k 2, .boolean), (k 3, .object "HalfScales$Sheet"), (k 4, .object "HalfScales$Thing")]
/-- what the tables say beside the words of a method: the links of nest mates, arrays over the two kinds of object -/
def hsN (U : State) : Prop :=
  va_Nw (.methodLinkNest RX7 29 yX5_init RX7) U ∧ va_Nw (.methodLinkNest RX5 11 yX4_init RX7) U ∧ va_Nw (.methodLinkNest RX7 36 yX2_init RX7) U ∧ va_Nw (.methodLinkNest RX7 43 yX0_init RX7) U ∧ va_Nw (.methodLinkNest RX7 54 yX3_init RX7) U ∧ va_Nw (.methodLinkNest RX5 137 yX7_within RX7) U ∧ va_Nw (.methodLinkNest RX6 67 yX7_within RX7) U ∧ va_Nw (.methodLinkNest RX6 75 yX7_halfUp RX7) U ∧ va_Nw (.methodLinkNest RX3 17 yX7_within RX7) U ∧ va_AO "HalfScales$Thing" U ∧ va_AO "HalfScales$Sheet" U
theorem hsN.warm {s U : State} (hW : s.WarmedH U.vm) (h : hsN s) : hsN U := by
  obtain ⟨h0, h1, h2, h3, h4, h5, h6, h7, h8, h9, h10⟩ := h
  exact ⟨va_Nw.warmM hW h0, va_Nw.warmM hW h1, va_Nw.warmM hW h2, va_Nw.warmM hW h3, va_Nw.warmM hW h4, va_Nw.warmM hW h5, va_Nw.warmM hW h6, va_Nw.warmM hW h7, va_Nw.warmM hW h8, va_AO.moved hW.alike h9, va_AO.moved hW.alike h10⟩
theorem hsN.same {u U : State} (h0 : u.vm = U.vm) (h : hsN u) : hsN U := by
  obtain ⟨a0, a1, a2, a3, a4, a5, a6, a7, a8, a9, a10⟩ := h
  exact ⟨va_Nw.same rfl h0 a0, va_Nw.same rfl h0 a1, va_Nw.same rfl h0 a2, va_Nw.same rfl h0 a3, va_Nw.same rfl h0 a4, va_Nw.same rfl h0 a5, va_Nw.same rfl h0 a6, va_Nw.same rfl h0 a7, va_Nw.same rfl h0 a8, va_AO.moved (h0 ▸ Vm.Alike.refl u.vm) a9, va_AO.moved (h0 ▸ Vm.Alike.refl u.vm) a10⟩
/-- a method's start: its world ws, at a heap of sz cells -/
def hsE (D : va_G) (k : Nat → ClassId) (ws : va_W) (sz : Nat) (U : State) : Prop := U.heap.size = sz ∧ va_P D vwCl ws U.heap ∧ va_K D vwCl (hsT k) U ∧ va_D (fun _ => True) ws ∧ hsN U
/-- a method's end: its world ws -/
def hsB (D : va_G) (k : Nat → ClassId) (A : Nat → Prop) (ws : va_W) (U : State) : Prop := va_P D vwCl ws U.heap ∧ va_K D vwCl (hsT k) U ∧ va_D A ws
/-- the three contracts: an int (a boolean too), nothing, a long comes back; w1 is the world behind it -/
abbrev MI (l : Launch) (y : MethodName) (wy : List Cond) (rm : Room) (D : va_G) (k : Nat → ClassId) (av : List Value) (ws : va_W) (sz : Nat) {S : Type} (post : Int32 → S → Prop) (w1 : S → va_W) : Prop := Met l y wy rm (va_Pc av (hsE D k ws sz)) (va_Qi post (fun u => hsB D k (va_A ws sz) (w1 u)) (va_A ws sz)) rm.cells rm.slots (va_A ws sz)
abbrev MV (l : Launch) (y : MethodName) (wy : List Cond) (rm : Room) (D : va_G) (k : Nat → ClassId) (av : List Value) (ws : va_W) (sz : Nat) {S : Type} (post : S → Prop) (w1 : S → va_W) : Prop := Met l y wy rm (va_Pc av (hsE D k ws sz)) (va_Qv post (fun u => hsB D k (va_A ws sz) (w1 u)) (va_A ws sz)) rm.cells rm.slots (va_A ws sz)
abbrev ML (l : Launch) (y : MethodName) (wy : List Cond) (rm : Room) (D : va_G) (k : Nat → ClassId) (av : List Value) (ws : va_W) (sz : Nat) {S : Type} (post : Int64 → S → Prop) (w1 : S → va_W) : Prop := Met l y wy rm (va_Pc av (hsE D k ws sz)) (va_Ql post (fun u => hsB D k (va_A ws sz) (w1 u)) (va_A ws sz)) rm.cells rm.slots (va_A ws sz)
theorem hs_fb {av : List Value} {D : va_G} {k : Nat → ClassId} {ws : va_W} {sz : Nat} : FrameBlind (va_Pc av (hsE D k ws sz)) := fun a U g mk q => by
  obtain ⟨q0, q1, qP, qK, qD, qN⟩ := q
  exact ⟨q0, q1, qP, va_K.moved (u := U) (U := U.calling g mk a) (Vm.Alike.refl U.vm) qK, qD, hsN.same (u := U) rfl qN⟩
theorem hs_preS {s : State} {H : Heap} {D : va_G} {k : Nat → ClassId} {wc : va_W} {A : Nat → Prop} (hK : va_K D vwCl (hsT k) s) (hN : hsN s) (hP : va_P D vwCl wc H) (hD : va_D A wc) {av : List Value} : PreS s H (va_Pc av (hsE D k wc H.size)) av :=
  ⟨hs_fb, fun U hU hW => ⟨rfl, by rw [hU], by rw [hU]; exact hP, va_K.moved hW.alike hK, hD.weaken (fun _ _ _ _ => trivial), hsN.warm hW hN⟩⟩
theorem hs_preV {s : State} {H : Heap} {D : va_G} {k : Nat → ClassId} {wc : va_W} {A : Nat → Prop} (hK : va_K D vwCl (hsT k) s) (hN : hsN s) (hP : va_P D vwCl wc H) (hD : va_D A wc) {b q0 ci : Nat} {q : vw_C} {fs : List Value} (hc : vwCl[ci]? = some q) (he : wc[q0]? = some (b, .inr (ci, fs))) {As : List Value} : PreV s H q.1 b (va_Pc (.ref b :: As) (hsE D k wc H.size)) As :=
  ⟨hs_fb, va_recv hK hP hc he, fun U hU hW => ⟨rfl, by rw [hU], by rw [hU]; exact hP, va_K.moved hW.alike hK, hD.weaken (fun _ _ _ _ => trivial), hsN.warm hW hN⟩⟩
theorem hs_fm {α β : Type} (f : α → Option β) : ∀ (is : List α) (w : List β), is.map f = w.map some → is.filterMap f = w
  | [], [], _ => rfl
  | [], _ :: _, h => by cases h
  | _ :: _, [], h => by cases h
  | i :: is, b :: w, h => by
    have h1 : f i = some b := (List.cons.inj h).1
    have h2 : is.map f = w.map some := (List.cons.inj h).2
    rw [List.filterMap_cons_some h1, hs_fm f is w h2]
theorem hs_subP {D : va_G} {ws w : va_W} {H : Heap} (hP : va_P D vwCl ws H) (is : List Nat) (h : is.map (fun i => ws[i]?) = w.map some) : va_P D vwCl w H := hP.sub is (hs_fm _ is w h)
section HSC
variable {p : Program} {l : Launch} {e : Env} {R : Room} {s : State} {m : MethodId} {args : Array Value} {below : List Frame} {meth : Method} {c : Code} {H : Heap} {locs : List Loc} {cells slots : Nat} {Q : State → Prop}
variable {pc : Nat} {ls : Array Slot} {rest st0 : List Value} {a : Array Value} {A : Nat → Prop} {H0 : Heap} {mc ms : Nat} {D : va_G} {k : Nat → ClassId} {ws wc : va_W}
theorem hs_topi (v : Int32) {x : Int32} (h : x = v) (kk : W p l e R s m args below meth c H locs cells slots Q (F0 m pc ls (.int v :: rest))) : W p l e R s m args below meth c H locs cells slots Q (F0 m pc ls (.int x :: rest)) := by rw [h]; exact kk
theorem hs_topl (v : Int64) {x : Int64} (h : x = v) (kk : W p l e R s m args below meth c H locs cells slots Q (F0 m pc ls (.long v :: rest))) : W p l e R s m args below meth c H locs cells slots Q (F0 m pc ls (.long x :: rest)) := by rw [h]; exact kk
/-- behind a call: the callee's cells (places isC) come back as w1, the others (places isR, wr) are as they were; all in the order ip -/
theorem hs_ci {S : Type} {post : Int32 → S → Prop} {w1 : S → va_W} (hr : va_Run p l e R s m args below meth c H locs cells slots mc ms (F0 m pc ls st0) rest (va_Qi post (fun u => hsB D k (va_A wc H.size) (w1 u)) (va_A wc H.size) a) (va_A wc H.size)) (hP : va_P D vwCl ws H) (hD : va_D A ws) (hS : va_S A H0 H locs) (hA : ∀ q, H0.size ≤ q → A q)
    (isC isR : List Nat) (wr : va_W) (hC : isC.map (fun i => ws[i]?) = wc.map some) (hR : isR.map (fun i => ws[i]?) = wr.map some) (hn : va_nd isR = true) (hdis : ∀ i ∈ isR, i ∉ isC) (ip : List Nat) (w2 : S → va_W) (hi : ∀ u, ip.map (fun i => (wr ++ w1 u)[i]?) = (w2 u).map some) (hin : va_nd ip = true)
    (kk : ∀ (r : Int32) (u : S) (H1 : Heap) (locs1 : List Loc), post r u → va_P D vwCl (w2 u) H1 → va_D A (w2 u) → va_S A H0 H1 locs1 → W p l e R s m args below meth c H1 locs1 (cells + mc) (slots + ms) Q (F0 m (pc + 3) ls (.int r :: rest))) : W p l e R s m args below meth c H locs cells slots Q (F0 m pc ls st0) := by
  have hF := va_free (wc := wc) hD hS hA isC hC
  refine va_calli hr hS (fun q _ h => hF q h) hF (fun r u t H1 locs1 ht hvm hw hB hz1 hk1 hS1 => ?_)
  obtain ⟨hP1, hK1, hD1⟩ := hB
  rw [ht] at hP1
  obtain ⟨hP2, hD2⟩ := va_join (wr := wr) (w1 := w1 u) hP hD isC isR hC hR hn hdis hk1 hF hP1 hD1
  exact kk r u H1 locs1 hw (hs_subP hP2 ip (hi u)) (hD2.sub ip hin (hi u)) hS1
theorem hs_cl {S : Type} {post : Int64 → S → Prop} {w1 : S → va_W} (hr : va_Run p l e R s m args below meth c H locs cells slots mc ms (F0 m pc ls st0) rest (va_Ql post (fun u => hsB D k (va_A wc H.size) (w1 u)) (va_A wc H.size) a) (va_A wc H.size)) (hP : va_P D vwCl ws H) (hD : va_D A ws) (hS : va_S A H0 H locs) (hA : ∀ q, H0.size ≤ q → A q)
    (isC isR : List Nat) (wr : va_W) (hC : isC.map (fun i => ws[i]?) = wc.map some) (hR : isR.map (fun i => ws[i]?) = wr.map some) (hn : va_nd isR = true) (hdis : ∀ i ∈ isR, i ∉ isC) (ip : List Nat) (w2 : S → va_W) (hi : ∀ u, ip.map (fun i => (wr ++ w1 u)[i]?) = (w2 u).map some) (hin : va_nd ip = true)
    (kk : ∀ (r : Int64) (u : S) (H1 : Heap) (locs1 : List Loc), post r u → va_P D vwCl (w2 u) H1 → va_D A (w2 u) → va_S A H0 H1 locs1 → W p l e R s m args below meth c H1 locs1 (cells + mc) (slots + ms) Q (F0 m (pc + 3) ls (.long r :: rest))) : W p l e R s m args below meth c H locs cells slots Q (F0 m pc ls st0) := by
  have hF := va_free (wc := wc) hD hS hA isC hC
  refine va_calll hr hS (fun q _ h => hF q h) hF (fun r u t H1 locs1 ht hvm hw hB hz1 hk1 hS1 => ?_)
  obtain ⟨hP1, hK1, hD1⟩ := hB
  rw [ht] at hP1
  obtain ⟨hP2, hD2⟩ := va_join (wr := wr) (w1 := w1 u) hP hD isC isR hC hR hn hdis hk1 hF hP1 hD1
  exact kk r u H1 locs1 hw (hs_subP hP2 ip (hi u)) (hD2.sub ip hin (hi u)) hS1
theorem hs_cv {S : Type} {post : S → Prop} {w1 : S → va_W} (hr : va_Run p l e R s m args below meth c H locs cells slots mc ms (F0 m pc ls st0) rest (va_Qv post (fun u => hsB D k (va_A wc H.size) (w1 u)) (va_A wc H.size) a) (va_A wc H.size)) (hP : va_P D vwCl ws H) (hD : va_D A ws) (hS : va_S A H0 H locs) (hA : ∀ q, H0.size ≤ q → A q)
    (isC isR : List Nat) (wr : va_W) (hC : isC.map (fun i => ws[i]?) = wc.map some) (hR : isR.map (fun i => ws[i]?) = wr.map some) (hn : va_nd isR = true) (hdis : ∀ i ∈ isR, i ∉ isC) (ip : List Nat) (w2 : S → va_W) (hi : ∀ u, ip.map (fun i => (wr ++ w1 u)[i]?) = (w2 u).map some) (hin : va_nd ip = true)
    (kk : ∀ (u : S) (H1 : Heap) (locs1 : List Loc), post u → va_P D vwCl (w2 u) H1 → va_D A (w2 u) → va_S A H0 H1 locs1 → W p l e R s m args below meth c H1 locs1 (cells + mc) (slots + ms) Q (F0 m (pc + 3) ls rest)) : W p l e R s m args below meth c H locs cells slots Q (F0 m pc ls st0) := by
  have hF := va_free (wc := wc) hD hS hA isC hC
  refine va_callv hr hS (fun q _ h => hF q h) hF (fun u t H1 locs1 ht hvm hw hB hz1 hk1 hS1 => ?_)
  obtain ⟨hP1, hK1, hD1⟩ := hB
  rw [ht] at hP1
  obtain ⟨hP2, hD2⟩ := va_join (wr := wr) (w1 := w1 u) hP hD isC isR hC hR hn hdis hk1 hF hP1 hD1
  exact kk u H1 locs1 hw (hs_subP hP2 ip (hi u)) (hD2.sub ip hin (hi u)) hS1
/-- a call that reaches no cell -/
theorem hs_pi {S : Type} {post : Int32 → S → Prop} {w1 : S → va_W} (hr : va_Run p l e R s m args below meth c H locs cells slots mc ms (F0 m pc ls st0) rest (va_Qi post (fun u => hsB D k (va_A [] H.size) (w1 u)) (va_A [] H.size) a) (va_A [] H.size)) (hP : va_P D vwCl ws H) (hD : va_D A ws) (hS : va_S A H0 H locs) (hA : ∀ q, H0.size ≤ q → A q)
    (kk : ∀ (r : Int32) (u : S) (H1 : Heap) (locs1 : List Loc), post r u → va_P D vwCl ws H1 → va_S A H0 H1 locs1 → W p l e R s m args below meth c H1 locs1 (cells + mc) (slots + ms) Q (F0 m (pc + 3) ls (.int r :: rest))) : W p l e R s m args below meth c H locs cells slots Q (F0 m pc ls st0) := by
  have hF := va_free (wc := []) hD hS hA [] rfl
  refine va_calli hr hS (fun q _ h => hF q h) hF (fun r u t H1 locs1 ht hvm hw hB hz1 hk1 hS1 => ?_)
  refine kk r u H1 locs1 hw (hP.kept fun i q hq => hk1 q.1 (hP i q hq).lt ?_) hS1
  rintro (⟨i2, e2, h⟩ | h)
  · simp at h
  · exact absurd (hP i q hq).lt (by omega)
theorem hs_pl {S : Type} {post : Int64 → S → Prop} {w1 : S → va_W} (hr : va_Run p l e R s m args below meth c H locs cells slots mc ms (F0 m pc ls st0) rest (va_Ql post (fun u => hsB D k (va_A [] H.size) (w1 u)) (va_A [] H.size) a) (va_A [] H.size)) (hP : va_P D vwCl ws H) (hD : va_D A ws) (hS : va_S A H0 H locs) (hA : ∀ q, H0.size ≤ q → A q)
    (kk : ∀ (r : Int64) (u : S) (H1 : Heap) (locs1 : List Loc), post r u → va_P D vwCl ws H1 → va_S A H0 H1 locs1 → W p l e R s m args below meth c H1 locs1 (cells + mc) (slots + ms) Q (F0 m (pc + 3) ls (.long r :: rest))) : W p l e R s m args below meth c H locs cells slots Q (F0 m pc ls st0) := by
  have hF := va_free (wc := []) hD hS hA [] rfl
  refine va_calll hr hS (fun q _ h => hF q h) hF (fun r u t H1 locs1 ht hvm hw hB hz1 hk1 hS1 => ?_)
  refine kk r u H1 locs1 hw (hP.kept fun i q hq => hk1 q.1 (hP i q hq).lt ?_) hS1
  rintro (⟨i2, e2, h⟩ | h)
  · simp at h
  · exact absurd (hP i q hq).lt (by omega)
variable {cc : ByteArray}
/-- the end of a method: the places is hold the world behind it -/
theorem hs_iret {S : Type} {post : Int32 → S → Prop} {w1 : S → va_W} {v : Int32} (hx : p.tables.exec = Jvm.exec) (hb : c.code = cc) (hr : meth.sig.returnType = some .int) (hlocks : meth.locks = false) (hK : va_K D vwCl (hsT k) s) (hP : va_P D vwCl ws H) (hD : va_D A ws) (hS : va_S A s.heap H locs) (u : S) (is : List Nat) (hi : is.map (fun i => ws[i]?) = (w1 u).map some) (hin : va_nd is = true) (hdg : decode cc pc = .ok (.ireturn, 1)) (hp : post v u) : W p l e R s m args below meth c H locs cells slots (MQ below (va_Qi post (fun u => hsB D k A (w1 u)) A) args s cells slots A) (F0 m pc ls [.int v]) :=
  W.iret hx hb hr (fun t ht hW => ⟨⟨v, u, rfl, hp, by rw [ht]; exact hs_subP hP is hi, va_K.moved hW.alike hK, hD.sub is hin hi⟩, hS.F ht⟩) hS.2.2 hdg hlocks
theorem hs_zret {S : Type} {post : Int32 → S → Prop} {w1 : S → va_W} {v : Int32} (hx : p.tables.exec = Jvm.exec) (hb : c.code = cc) (hr : meth.sig.returnType = some .boolean) (hlocks : meth.locks = false) (hK : va_K D vwCl (hsT k) s) (hP : va_P D vwCl ws H) (hD : va_D A ws) (hS : va_S A s.heap H locs) (u : S) (is : List Nat) (hi : is.map (fun i => ws[i]?) = (w1 u).map some) (hin : va_nd is = true) (hdg : decode cc pc = .ok (.ireturn, 1)) (hn : narrow .boolean (.int v) = .int v) (hp : post v u) : W p l e R s m args below meth c H locs cells slots (MQ below (va_Qi post (fun u => hsB D k A (w1 u)) A) args s cells slots A) (F0 m pc ls [.int v]) :=
  W.zret hx hb hr hn (fun t ht hW => ⟨⟨v, u, rfl, hp, by rw [ht]; exact hs_subP hP is hi, va_K.moved hW.alike hK, hD.sub is hin hi⟩, hS.F ht⟩) hS.2.2 hdg hlocks
theorem hs_lret {S : Type} {post : Int64 → S → Prop} {w1 : S → va_W} {v : Int64} (hx : p.tables.exec = Jvm.exec) (hb : c.code = cc) (hr : meth.sig.returnType = some .long) (hlocks : meth.locks = false) (hK : va_K D vwCl (hsT k) s) (hP : va_P D vwCl ws H) (hD : va_D A ws) (hS : va_S A s.heap H locs) (u : S) (is : List Nat) (hi : is.map (fun i => ws[i]?) = (w1 u).map some) (hin : va_nd is = true) (hdg : decode cc pc = .ok (.lreturn, 1)) (hp : post v u) : W p l e R s m args below meth c H locs cells slots (MQ below (va_Ql post (fun u => hsB D k A (w1 u)) A) args s cells slots A) (F0 m pc ls [.long v]) :=
  W.lret hx hb hr (fun t ht hW => ⟨⟨v, u, rfl, hp, by rw [ht]; exact hs_subP hP is hi, va_K.moved hW.alike hK, hD.sub is hin hi⟩, hS.F ht⟩) hS.2.2 hdg hlocks
theorem hs_vret {S : Type} {post : S → Prop} {w1 : S → va_W} (hx : p.tables.exec = Jvm.exec) (hb : c.code = cc) (hr : meth.sig.returnType = none) (hlocks : meth.locks = false) (hK : va_K D vwCl (hsT k) s) (hP : va_P D vwCl ws H) (hD : va_D A ws) (hS : va_S A s.heap H locs) (u : S) (is : List Nat) (hi : is.map (fun i => ws[i]?) = (w1 u).map some) (hin : va_nd is = true) (hdg : decode cc pc = .ok (.return_, 1)) (hp : post u) : W p l e R s m args below meth c H locs cells slots (MQ below (va_Qv post (fun u => hsB D k A (w1 u)) A) args s cells slots A) (F0 m pc ls []) :=
  W.vret hx hb hr (fun t ht hW => ⟨⟨u, rfl, hp, by rw [ht]; exact hs_subP hP is hi, va_K.moved hW.alike hK, hD.sub is hin hi⟩, hS.F ht⟩) hS.2.2 hdg hlocks
end HSC
/-- a truth as an int; an int between two; the same of ints that became longs -/
def hsb (b : Bool) : Int32 := if b then 1 else 0
def hsin (v lo hi : Int32) : Bool := decide (lo ≤ v) && decide (v ≤ hi)
theorem hsb_n (b : Bool) : narrow .boolean (.int (hsb b)) = .int (hsb b) := by cases b <;> rfl
theorem hsb_0 {b : Bool} : hsb b = 0 ↔ b = false := by cases b <;> simp [hsb]
theorem hsb_1 {b : Bool} : ¬ hsb b = 0 ↔ b = true := by cases b <;> simp [hsb]
theorem hs_le64 (x y : Int32) : x.toInt64 ≤ y.toInt64 ↔ x ≤ y := by
  rw [Int64.le_iff_toInt_le, Int32.le_iff_toInt_le, Int32.toInt_toInt64, Int32.toInt_toInt64]
theorem hs_in {i : Int32} {n : Nat} (h : decide (¬ (i < 0 ∨ n ≤ i.toNatClampNeg)) = true) : vp_in i n := show ¬ (i < 0 ∨ n ≤ i.toNatClampNeg) from of_decide_eq_true h
theorem hs_cAI {D : va_G} {k : Nat → ClassId} {cA : ClassId} {s : State} (h : va_K D vwCl (hsT k ++ [(cA, .int)]) s) : cA = k 0 := by
  have a : s.vm.findClass ("[" ++ FieldType.int.toString) = some (k 0) := (h.2 0 _ rfl).2
  have b : s.vm.findClass ("[" ++ FieldType.int.toString) = some cA := (h.2 5 _ rfl).2
  exact Option.some.inj (b.symm.trans a)
theorem hs_cAJ {D : va_G} {k : Nat → ClassId} {cA : ClassId} {s : State} (h : va_K D vwCl (hsT k ++ [(cA, .long)]) s) : cA = k 1 := by
  have a : s.vm.findClass ("[" ++ FieldType.long.toString) = some (k 1) := (h.2 1 _ rfl).2
  have b : s.vm.findClass ("[" ++ FieldType.long.toString) = some cA := (h.2 5 _ rfl).2
  exact Option.some.inj (b.symm.trans a)
theorem hs_cAZ {D : va_G} {k : Nat → ClassId} {cA : ClassId} {s : State} (h : va_K D vwCl (hsT k ++ [(cA, .boolean)]) s) : cA = k 2 := by
  have a : s.vm.findClass ("[" ++ FieldType.boolean.toString) = some (k 2) := (h.2 2 _ rfl).2
  have b : s.vm.findClass ("[" ++ FieldType.boolean.toString) = some cA := (h.2 5 _ rfl).2
  exact Option.some.inj (b.symm.trans a)
theorem hs_cAS {D : va_G} {k : Nat → ClassId} {cA : ClassId} {s : State} (h : va_K D vwCl (hsT k ++ [(cA, .object RX3)]) s) : cA = k 3 := by
  obtain ⟨_, _, -, -, -, a⟩ : ∃ (kA : Class) (comp : ClassId), s.vm.classes[k 3]? = some kA ∧ kA.kind = .array comp (.object RX3) ∧ s.vm.findClass RX3 = some comp ∧ s.vm.findClass ("[" ++ (FieldType.object RX3).toString) = some (k 3) := (h.2 3 _ rfl).2
  obtain ⟨_, _, -, -, -, b⟩ : ∃ (kA : Class) (comp : ClassId), s.vm.classes[cA]? = some kA ∧ kA.kind = .array comp (.object RX3) ∧ s.vm.findClass RX3 = some comp ∧ s.vm.findClass ("[" ++ (FieldType.object RX3).toString) = some cA := (h.2 5 _ rfl).2
  exact Option.some.inj (b.symm.trans a)
theorem hs_cAT {D : va_G} {k : Nat → ClassId} {cA : ClassId} {s : State} (h : va_K D vwCl (hsT k ++ [(cA, .object RX6)]) s) : cA = k 4 := by
  obtain ⟨_, _, -, -, -, a⟩ : ∃ (kA : Class) (comp : ClassId), s.vm.classes[k 4]? = some kA ∧ kA.kind = .array comp (.object RX6) ∧ s.vm.findClass RX6 = some comp ∧ s.vm.findClass ("[" ++ (FieldType.object RX6).toString) = some (k 4) := (h.2 4 _ rfl).2
  obtain ⟨_, _, -, -, -, b⟩ : ∃ (kA : Class) (comp : ClassId), s.vm.classes[cA]? = some kA ∧ kA.kind = .array comp (.object RX6) ∧ s.vm.findClass RX6 = some comp ∧ s.vm.findClass ("[" ++ (FieldType.object RX6).toString) = some cA := (h.2 5 _ rfl).2
  exact Option.some.inj (b.symm.trans a)
def hsz : Nat → Int32 := fun _ => 0
def hszl : Nat → Int64 := fun _ => 0
/-- the first weights: 1, 1 -/
def hsw : Nat → Int32 := upd (upd hsz 0 1) 1 1
theorem hsin_t {v lo hi : Int32} (h1 : ¬ v < lo) (h2 : ¬ hi < v) : (1 : Int32) = hsb (hsin v lo hi) := by
  simp [hsb, hsin, Int32.not_lt.mp h1, Int32.not_lt.mp h2]
theorem hsin_f1 {v lo hi : Int32} (h1 : v < lo) : (0 : Int32) = hsb (hsin v lo hi) := by
  simp [hsb, hsin, Int32.not_le.mpr h1]
theorem hsin_f2 {v lo hi : Int32} (h2 : hi < v) : (0 : Int32) = hsb (hsin v lo hi) := by
  simp [hsb, hsin, Int32.not_le.mpr h2]
theorem hsin_toInt {v lo hi : Int32} (h : hsin v lo hi = true) : lo.toInt ≤ v.toInt ∧ v.toInt ≤ hi.toInt := by
  simp only [hsin, Bool.and_eq_true, decide_eq_true_eq, Int32.le_iff_toInt_le] at h
  exact h
theorem hsin_of {v lo hi : Int32} (h : lo.toInt ≤ v.toInt ∧ v.toInt ≤ hi.toInt) : hsin v lo hi = true := by
  simp only [hsin, Bool.and_eq_true, decide_eq_true_eq, Int32.le_iff_toInt_le]
  exact h
theorem hsin_no {v : Int32} : hsin v 0 (-1) = false := by
  cases h : hsin v 0 (-1) with
  | false => rfl
  | true =>
    have h1 := hsin_toInt h
    have a : (0 : Int32).toInt = 0 := rfl
    have b : (-1 : Int32).toInt = -1 := by decide
    omega
theorem hs_eq_of {v w : Int32} (h : v.toInt = w.toInt) : v = w := Int32.toInt_inj.mp h
theorem hs_v01 {v : Int32} (h : hsin v 0 1 = true) : v = 0 ∨ v = 1 := by
  have h1 := hsin_toInt h
  have a : (0 : Int32).toInt = 0 := rfl
  have b : (1 : Int32).toInt = 1 := by decide
  rcases (show v.toInt = 0 ∨ v.toInt = 1 by omega) with h2 | h2
  · exact Or.inl (hs_eq_of (by rw [h2, a]))
  · exact Or.inr (hs_eq_of (by rw [h2, b]))
theorem hs_v012 {v : Int32} (h : hsin v 0 2 = true) : v = 0 ∨ v = 1 ∨ v = 2 := by
  have h1 := hsin_toInt h
  have a : (0 : Int32).toInt = 0 := rfl
  have b : (1 : Int32).toInt = 1 := by decide
  have c : (2 : Int32).toInt = 2 := by decide
  rcases (show v.toInt = 0 ∨ v.toInt = 1 ∨ v.toInt = 2 by omega) with h2 | h2 | h2
  · exact Or.inl (hs_eq_of (by rw [h2, a]))
  · exact Or.inr (Or.inl (hs_eq_of (by rw [h2, b])))
  · exact Or.inr (Or.inr (hs_eq_of (by rw [h2, c])))
theorem hs_v03 {v : Int32} (h : hsin v 0 3 = true) : v = 0 ∨ v = 1 ∨ v = 2 ∨ v = 3 := by
  have h1 := hsin_toInt h
  have a : (0 : Int32).toInt = 0 := rfl
  have b : (1 : Int32).toInt = 1 := by decide
  have c : (2 : Int32).toInt = 2 := by decide
  have d : (3 : Int32).toInt = 3 := by decide
  rcases (show v.toInt = 0 ∨ v.toInt = 1 ∨ v.toInt = 2 ∨ v.toInt = 3 by omega) with h2 | h2 | h2 | h2
  · exact Or.inl (hs_eq_of (by rw [h2, a]))
  · exact Or.inr (Or.inl (hs_eq_of (by rw [h2, b])))
  · exact Or.inr (Or.inr (Or.inl (hs_eq_of (by rw [h2, c]))))
  · exact Or.inr (Or.inr (Or.inr (hs_eq_of (by rw [h2, d]))))
theorem hs_v23 {v : Int32} (h : hsin v 2 3 = true) : v = 2 ∨ v = 3 := by
  have h1 := hsin_toInt h
  have c : (2 : Int32).toInt = 2 := by decide
  have d : (3 : Int32).toInt = 3 := by decide
  rcases (show v.toInt = 2 ∨ v.toInt = 3 by omega) with h2 | h2
  · exact Or.inl (hs_eq_of (by rw [h2, c]))
  · exact Or.inr (hs_eq_of (by rw [h2, d]))
theorem hs_v1011 {v : Int32} (h : hsin v 10 11 = true) : v = 10 ∨ v = 11 := by
  have h1 := hsin_toInt h
  have c : (10 : Int32).toInt = 10 := by decide
  have d : (11 : Int32).toInt = 11 := by decide
  rcases (show v.toInt = 10 ∨ v.toInt = 11 by omega) with h2 | h2
  · exact Or.inl (hs_eq_of (by rw [h2, c]))
  · exact Or.inr (hs_eq_of (by rw [h2, d]))
theorem hs_one {v w : Int32} (h : hsin v w w = true) : v = w := by
  have h1 := hsin_toInt h
  exact hs_eq_of (by omega)
theorem hs_nb {b : Bool} (h : ¬ hsb b = 0) : b = true := hsb_1.mp h
theorem hs_n0 {b : Bool} (h : hsb b = 0) : b = false := hsb_0.mp h
theorem hs_uz (k : Nat) : upd hsz k 0 = hsz := by
  funext j
  by_cases h : j = k <;> simp [upd, hsz, h]
theorem hs_uzz (k : Nat) (x : Int32) : upd (upd hsz k x) k 0 = hsz := by
  funext j
  by_cases h : j = k <;> simp [upd, hsz, h]
def hsfill (f g : Nat → Int32) (i : Nat) : Nat → Int32 := fun j => if j < i then f j else g j
theorem hsfill_0 (f g : Nat → Int32) : hsfill f g 0 = g := by
  funext j
  simp [hsfill]
theorem hsfill_s (f g : Nat → Int32) (i : Nat) : upd (hsfill f g i) i (f i) = hsfill f g (i + 1) := by
  funext j
  by_cases h : j = i
  · subst h
    simp [hsfill, upd]
  · by_cases h2 : j < i
    · simp [hsfill, upd, h, h2, Nat.lt_succ_of_lt h2]
    · simp [hsfill, upd, h, h2, show ¬ j < i + 1 by omega]
theorem hsfill_all {f g : Nat → Int32} {n : Nat} (h : ∀ j, n ≤ j → g j = f j) : hsfill f g n = f := by
  funext j
  by_cases h2 : j < n
  · simp [hsfill, h2]
  · simp [hsfill, h2, h j (by omega)]
theorem hs_and1 {a b : Bool} (h : (a && b) = true) : a = true := by
  cases a
  · cases h
  · rfl
theorem hs_and2 {a b : Bool} (h : (a && b) = true) : b = true := by
  cases a
  · cases h
  · exact h
section HSL
variable {p : Program} {l : Launch} {e : Env} {R : Room} {s : State} {m : MethodId} {args : Array Value} {below : List Frame} {meth : Method} {c : Code} {H : Heap} {locs : List Loc} {cells slots : Nat} {Q : State → Prop}
variable {pc maxL : Nat} {ls : Array Slot} {A : Nat → Prop} {H0 : Heap} {D : va_G}
/-- a loop that runs i from 0 to N: the world and the locals at its head, by i -/
theorem hs_for (N : Nat) (wi : Nat → va_W) (li : Nat → List (Nat × Value))
    (step : ∀ i : Nat, i < N → (∀ (H : Heap) (locs : List Loc) (ls : Array Slot), va_P D vwCl (wi (i + 1)) H → va_D A (wi (i + 1)) → va_S A H0 H locs → lv_has ls maxL (li (i + 1)) → W p l e R s m args below meth c H locs cells slots Q (F0 m pc ls [])) → ∀ (H : Heap) (locs : List Loc) (ls : Array Slot), va_P D vwCl (wi i) H → va_D A (wi i) → va_S A H0 H locs → lv_has ls maxL (li i) → W p l e R s m args below meth c H locs cells slots Q (F0 m pc ls []))
    (exit : ∀ (H : Heap) (locs : List Loc) (ls : Array Slot), va_P D vwCl (wi N) H → va_D A (wi N) → va_S A H0 H locs → lv_has ls maxL (li N) → W p l e R s m args below meth c H locs cells slots Q (F0 m pc ls []))
    (hP : va_P D vwCl (wi 0) H) (hD : va_D A (wi 0)) (hS : va_S A H0 H locs) (hl : lv_has ls maxL (li 0)) : W p l e R s m args below meth c H locs cells slots Q (F0 m pc ls []) := by
  have key : ∀ (n i : Nat), i + n = N → ∀ (H : Heap) (locs : List Loc) (ls : Array Slot), va_P D vwCl (wi i) H → va_D A (wi i) → va_S A H0 H locs → lv_has ls maxL (li i) → W p l e R s m args below meth c H locs cells slots Q (F0 m pc ls []) := by
    intro n
    induction n with
    | zero =>
      intro i hi
      have : i = N := by omega
      subst this
      exact exit
    | succ n ih =>
      intro i hi
      exact step i (by omega) (ih (i + 1) (by omega))
  exact key N 0 (by omega) H locs ls hP hD hS hl
end HSL
theorem hsinL_t {v lo hi : Int32} (h1 : ¬ lg_cmp v.toInt64 lo.toInt64 < 0) (h2 : ¬ 0 < lg_cmp v.toInt64 hi.toInt64) : (1 : Int32) = hsb (hsin v lo hi) := by
  rw [lg_cmp_lt, Int64.not_lt, hs_le64] at h1
  rw [lg_cmp_gt, Int64.not_lt, hs_le64] at h2
  simp [hsb, hsin, h1, h2]
theorem hsinL_f1 {v lo hi : Int32} (h1 : lg_cmp v.toInt64 lo.toInt64 < 0) : (0 : Int32) = hsb (hsin v lo hi) := by
  rw [lg_cmp_lt, ← Int64.not_le, hs_le64] at h1
  simp [hsb, hsin, h1]
theorem hsinL_f2 {v lo hi : Int32} (h2 : 0 < lg_cmp v.toInt64 hi.toInt64) : (0 : Int32) = hsb (hsin v lo hi) := by
  rw [lg_cmp_gt, ← Int64.not_le, hs_le64] at h2
  simp [hsb, hsin, h2]
/-- the model's first state: two cells of weight 1; no sheet is there -/
def hst : Nat → Int32 := upd (upd (upd hsz 0 2) 1 1) 2 1
def hsl : Nat → Int32 := upd (upd (upd (upd hsz 0 (-4)) 1 (-4)) 2 (-4)) 3 (-4)
theorem hst_far : ∀ j, 44 ≤ j → hsz j = hst j := by
  intro j hj
  simp [hst, upd, show ¬ j = 0 by omega, show ¬ j = 1 by omega, show ¬ j = 2 by omega]
theorem hsfill_st : hsfill hst hsz 44 = hst := hsfill_all hst_far
theorem hsfill_z (n : Nat) : hsfill hsz hsz n = hsz := hsfill_all (fun _ _ => rfl)
theorem hsfill_tz : hsfill hsz hst 44 = hsz := hsfill_all (fun j h => (hst_far j h).symm)
theorem hsfill_tt : hsfill hst hst 44 = hst := hsfill_all (fun _ _ => rfl)
section HSL2
variable {p : Program} {l : Launch} {e : Env} {R : Room} {s : State} {m : MethodId} {args : Array Value} {below : List Frame} {meth : Method} {c : Code} {H : Heap} {locs : List Loc} {cells slots : Nat} {Q : State → Prop}
variable {pc maxL : Nat} {ls : Array Slot} {A : Nat → Prop} {H0 : Heap} {D : va_G}
/-- the same, with a row of which nothing is kept in mind -/
theorem hs_for2 (N : Nat) (wi : Nat → (Nat → Int32) → va_W) (li : Nat → List (Nat × Value))
    (step : ∀ (i : Nat) (f : Nat → Int32), i < N → (∀ (f : Nat → Int32) (H : Heap) (locs : List Loc) (ls : Array Slot), va_P D vwCl (wi (i + 1) f) H → va_D A (wi (i + 1) f) → va_S A H0 H locs → lv_has ls maxL (li (i + 1)) → W p l e R s m args below meth c H locs cells slots Q (F0 m pc ls [])) → ∀ (H : Heap) (locs : List Loc) (ls : Array Slot), va_P D vwCl (wi i f) H → va_D A (wi i f) → va_S A H0 H locs → lv_has ls maxL (li i) → W p l e R s m args below meth c H locs cells slots Q (F0 m pc ls []))
    (exit : ∀ (f : Nat → Int32) (H : Heap) (locs : List Loc) (ls : Array Slot), va_P D vwCl (wi N f) H → va_D A (wi N f) → va_S A H0 H locs → lv_has ls maxL (li N) → W p l e R s m args below meth c H locs cells slots Q (F0 m pc ls []))
    (f : Nat → Int32) (hP : va_P D vwCl (wi 0 f) H) (hD : va_D A (wi 0 f)) (hS : va_S A H0 H locs) (hl : lv_has ls maxL (li 0)) : W p l e R s m args below meth c H locs cells slots Q (F0 m pc ls []) := by
  have key : ∀ (n i : Nat), i + n = N → ∀ (f : Nat → Int32) (H : Heap) (locs : List Loc) (ls : Array Slot), va_P D vwCl (wi i f) H → va_D A (wi i f) → va_S A H0 H locs → lv_has ls maxL (li i) → W p l e R s m args below meth c H locs cells slots Q (F0 m pc ls []) := by
    intro n
    induction n with
    | zero =>
      intro i hi
      have : i = N := by omega
      subst this
      exact exit
    | succ n ih =>
      intro i hi f
      exact step i f (by omega) (ih (i + 1) (by omega))
  exact key N 0 (by omega) f H locs ls hP hD hS hl
end HSL2
theorem hs_lcmp (x : Int64) : lg_cmp x x = 0 := (lg_cmp_eq x x).mpr rfl
theorem nfX0 : ∀ j, j < 1 → defaultValue (tyX0 j) = vp_V [.null] j
  | 0, _ => rfl
  | j + 1, h => absurd h (by omega)
theorem nfX2 : ∀ j, j < 3 → defaultValue (tyX2 j) = vp_V [.null, .null, .int 0] j
  | 0, _ => rfl
  | 1, _ => rfl
  | 2, _ => rfl
  | j + 3, h => absurd h (by omega)
theorem nfX3 : ∀ j, j < 3 → defaultValue (tyX3 j) = vp_V [.null, .int 0, .int 0] j
  | 0, _ => rfl
  | 1, _ => rfl
  | 2, _ => rfl
  | j + 3, h => absurd h (by omega)
theorem nfX4 : ∀ j, j < 6 → defaultValue (tyX4 j) = vp_V [.null, .int 0, .int 0, .int 0, .int 0, .int 0] j
  | 0, _ => rfl
  | 1, _ => rfl
  | 2, _ => rfl
  | 3, _ => rfl
  | 4, _ => rfl
  | 5, _ => rfl
  | j + 6, h => absurd h (by omega)
theorem nfX5 : ∀ j, j < 5 → defaultValue (tyX5 j) = vp_V [.null, .null, .int 0, .int 0, .int 0] j
  | 0, _ => rfl
  | 1, _ => rfl
  | 2, _ => rfl
  | 3, _ => rfl
  | 4, _ => rfl
  | j + 5, h => absurd h (by omega)
theorem nfX6 : ∀ j, j < 15 → defaultValue (tyX6 j) = vp_V [.null, .null, .null, .null, .null, .null, .null, .int 0, .int 0, .int 0, .int 0, .int 0, .int 0, .int 0, .int 0] j
  | 0, _ => rfl
  | 1, _ => rfl
  | 2, _ => rfl
  | 3, _ => rfl
  | 4, _ => rfl
  | 5, _ => rfl
  | 6, _ => rfl
  | 7, _ => rfl
  | 8, _ => rfl
  | 9, _ => rfl
  | 10, _ => rfl
  | 11, _ => rfl
  | 12, _ => rfl
  | 13, _ => rfl
  | 14, _ => rfl
  | j + 15, h => absurd h (by omega)
theorem nfX7 : ∀ j, j < 10 → defaultValue (tyX7 j) = vp_V [.null, .null, .null, .null, .null, .null, .null, .null, .int 0, .int 0] j
  | 0, _ => rfl
  | 1, _ => rfl
  | 2, _ => rfl
  | 3, _ => rfl
  | 4, _ => rfl
  | 5, _ => rfl
  | 6, _ => rfl
  | 7, _ => rfl
  | 8, _ => rfl
  | 9, _ => rfl
  | j + 10, h => absurd h (by omega)
theorem nfX8 : ∀ j, j < 32 → defaultValue (tyX8 j) = vp_V [.null, .null, .null, .int 0, .int 0, .null, .int 0, .int 0, .int 0, .int 0, .null, .int 0, .int 0, .int 0, .int 0, .int 0, .int 0, .int 0, .null, .int 0, .int 0, .int 0, .int 0, .null, .long 0, .long 0, .long 0, .null, .null, .null, .int 0, .null] j
  | 0, _ => rfl
  | 1, _ => rfl
  | 2, _ => rfl
  | 3, _ => rfl
  | 4, _ => rfl
  | 5, _ => rfl
  | 6, _ => rfl
  | 7, _ => rfl
  | 8, _ => rfl
  | 9, _ => rfl
  | 10, _ => rfl
  | 11, _ => rfl
  | 12, _ => rfl
  | 13, _ => rfl
  | 14, _ => rfl
  | 15, _ => rfl
  | 16, _ => rfl
  | 17, _ => rfl
  | 18, _ => rfl
  | 19, _ => rfl
  | 20, _ => rfl
  | 21, _ => rfl
  | 22, _ => rfl
  | 23, _ => rfl
  | 24, _ => rfl
  | 25, _ => rfl
  | 26, _ => rfl
  | 27, _ => rfl
  | 28, _ => rfl
  | 29, _ => rfl
  | 30, _ => rfl
  | 31, _ => rfl
  | j + 32, h => absurd h (by omega)
-- cells of worlds by short names
def oq0 (b : Nat) (x0 : Nat) : Nat × va_E := (b, .inr (0, [.ref x0]))
def oq1 (b : Nat) (x0 : Nat) (x1 : Nat) (x2 : Int32) : Nat × va_E := (b, .inr (1, [.ref x0, .ref x1, .int x2]))
def oq2 (b : Nat) (x0 : Nat) (x1 : Int32) (x2 : Int32) : Nat × va_E := (b, .inr (2, [.ref x0, .int x1, .int x2]))
def oq3 (b : Nat) (x0 : Nat) (x1 : Int32) (x2 : Int32) (x3 : Int32) (x4 : Int32) (x5 : Int32) : Nat × va_E := (b, .inr (3, [.ref x0, .int x1, .int x2, .int x3, .int x4, .int x5]))
def oq4 (b : Nat) (x0 : Nat) (x1 : Nat) (x2 : Int32) (x3 : Int32) (x4 : Int32) : Nat × va_E := (b, .inr (4, [.ref x0, .ref x1, .int x2, .int x3, .int x4]))
def oq5 (b : Nat) (x0 : Nat) (x1 : Nat) (x2 : Nat) (x3 : Nat) (x4 : Nat) (x5 : Nat) (x6 : Nat) (x7 : Int32) (x8 : Int32) (x9 : Int32) (x10 : Int32) (x11 : Int32) (x12 : Int32) (x13 : Int32) (x14 : Int32) : Nat × va_E := (b, .inr (5, [.ref x0, .ref x1, .ref x2, .ref x3, .ref x4, .ref x5, .ref x6, .int x7, .int x8, .int x9, .int x10, .int x11, .int x12, .int x13, .int x14]))
def oq6 (b : Nat) (x0 : Nat) (x1 : Nat) (x2 : Nat) (x3 : Nat) (x4 : Nat) (x5 : Nat) (x6 : Nat) (x7 : Nat) (x8 : Int32) (x9 : Int32) : Nat × va_E := (b, .inr (6, [.ref x0, .ref x1, .ref x2, .ref x3, .ref x4, .ref x5, .ref x6, .ref x7, .int x8, .int x9]))
def oq7 (b : Nat) (x0 : Nat) (x1 : Nat) (x2 : Nat) (x3 : Int32) (x4 : Int32) (x5 : Nat) (x6 : Int32) (x7 : Int32) (x8 : Int32) (x9 : Int32) (x10 : Nat) (x11 : Int32) (x12 : Int32) (x13 : Int32) (x14 : Int32) (x15 : Int32) (x16 : Int32) (x17 : Int32) (x18 : Nat) (x19 : Int32) (x20 : Int32) (x21 : Int32) (x22 : Int32) (x23 : Nat) (x24 : Int64) (x25 : Int64) (x26 : Int64) (x27 : Nat) (x28 : Nat) (x29 : Nat) (x30 : Int32) (x31 : Nat) : Nat × va_E := (b, .inr (7, [.ref x0, .ref x1, .ref x2, .int x3, .int x4, .ref x5, .int x6, .int x7, .int x8, .int x9, .ref x10, .int x11, .int x12, .int x13, .int x14, .int x15, .int x16, .int x17, .ref x18, .int x19, .int x20, .int x21, .int x22, .ref x23, .long x24, .long x25, .long x26, .ref x27, .ref x28, .ref x29, .int x30, .ref x31]))
def oqT (b : Nat) (a : Nat → Nat) (N : Nat → Nat) (J : Nat → Int32) : Nat × va_E := (b, .inr (5, [.ref (a 0), .ref (a 1), .ref (a 2), .ref (a 3), .ref (a 4), .ref (a 5), .ref (a 6), .int (nI (N 0)), .int (nI (N 1)), .int (J 0), .int (J 1), .int (J 2), .int (nI (N 2)), .int (nI (N 3)), .int (nI (N 4))]))
def oqI (k : Nat → ClassId) (b n : Nat) (f : Nat → Int32) : Nat × va_E := (b, .inl (k 0, n, .inl f))
def oqB (k : Nat → ClassId) (b n : Nat) (f : Nat → Int32) : Nat × va_E := (b, .inl (k 2, n, .inl f))
def oqL (k : Nat → ClassId) (b n : Nat) (f : Nat → Int64) : Nat × va_E := (b, .inl (k 1, n, .inr (.inl f)))
def oqF0 (k : Nat → ClassId) (a : Nat → Nat) (F : Nat → Nat → Int32) : Nat × va_E := (a 0, .inl (k 0, 8, .inl (F 0)))
def oqF1 (k : Nat → ClassId) (a : Nat → Nat) (F : Nat → Nat → Int32) : Nat × va_E := (a 1, .inl (k 0, 4, .inl (F 1)))
def oqF2 (k : Nat → ClassId) (a : Nat → Nat) (F : Nat → Nat → Int32) : Nat × va_E := (a 2, .inl (k 0, 8, .inl (F 2)))
def oqF3 (k : Nat → ClassId) (a : Nat → Nat) (F : Nat → Nat → Int32) : Nat × va_E := (a 3, .inl (k 0, 8, .inl (F 3)))
def oqF4 (k : Nat → ClassId) (a : Nat → Nat) (F : Nat → Nat → Int32) : Nat × va_E := (a 4, .inl (k 0, 6, .inl (F 4)))
def oqF5 (k : Nat → ClassId) (a : Nat → Nat) (F : Nat → Nat → Int32) : Nat × va_E := (a 5, .inl (k 0, 6, .inl (F 5)))
def oqF6 (k : Nat → ClassId) (a : Nat → Nat) (F : Nat → Nat → Int32) : Nat × va_E := (a 6, .inl (k 0, 6, .inl (F 6)))
-- worlds by masks: a call's cells among the others, in linear time
/-- two lists into one: true takes the next of the first, false the next of the second; what is left stands behind -/
def hs_mix : List Bool → va_W → va_W → va_W
  | [], a, b => a ++ b
  | c :: m, a, b => match c with
    | true => match a with
      | x :: a' => x :: hs_mix m a' b
      | [] => hs_mix m [] b
    | false => match b with
      | y :: b' => y :: hs_mix m a b'
      | [] => hs_mix m a []
theorem hs_mix_perm : ∀ (m : List Bool) (a b : va_W), (hs_mix m a b).Perm (a ++ b)
  | [], _, _ => List.Perm.refl _
  | true :: m, x :: a, b => (hs_mix_perm m a b).cons x
  | true :: m, [], b => hs_mix_perm m [] b
  | false :: m, a, y :: b => ((hs_mix_perm m a b).cons y).trans List.perm_middle.symm
  | false :: m, a, [] => hs_mix_perm m a []
theorem hs_permP {D : va_G} {ws w : va_W} {H : Heap} (h : ws.Perm w) (hP : va_P D vwCl ws H) : va_P D vwCl w H := fun k q hk => by
  obtain ⟨i, hi⟩ := List.getElem?_of_mem (h.mem_iff.mpr (List.mem_of_getElem? hk))
  exact hP i q hi
theorem hs_dpw {A : Nat → Prop} {ws : va_W} : va_D A ws ↔ ws.Pairwise (fun p q => p.1 ≠ q.1) ∧ ∀ q ∈ ws, A q.1 := by
  constructor
  · intro h
    refine ⟨List.pairwise_iff_getElem.mpr fun i j hi hj hij e => ?_, fun q hq => ?_⟩
    · have := h.1 i j _ _ (List.getElem?_eq_getElem hi) (List.getElem?_eq_getElem hj) e
      omega
    · obtain ⟨i, hi⟩ := List.getElem?_of_mem hq
      exact h.2 i q hi
  · intro h
    have hp := List.pairwise_iff_getElem.mp h.1
    refine ⟨fun i j x y hi hj e => ?_, fun k q hk => h.2 q (List.mem_of_getElem? hk)⟩
    obtain ⟨li, vi⟩ := List.getElem?_eq_some_iff.mp hi
    obtain ⟨lj, vj⟩ := List.getElem?_eq_some_iff.mp hj
    rcases Nat.lt_trichotomy i j with hl | hl | hl
    · exact absurd (by rw [vi, vj]; exact e) (hp i j li lj hl)
    · exact hl
    · exact absurd (by rw [vi, vj]; exact e.symm) (hp j i lj li hl)
theorem hs_permD {A : Nat → Prop} {ws w : va_W} (h : ws.Perm w) (hD : va_D A ws) : va_D A w := by
  obtain ⟨h1, h2⟩ := hs_dpw.mp hD
  exact hs_dpw.mpr ⟨h.pairwise h1 (fun e => e.symm), fun q hq => h2 q (h.mem_iff.mpr hq)⟩
theorem hs_ndn : ∀ (l : List Nat), l.Nodup → va_nd l = true
  | [], _ => rfl
  | a :: l, h => by
    have h' := List.nodup_cons.mp h
    show (decide (a ∉ l) && va_nd l) = true
    rw [hs_ndn l h'.2, decide_eq_true h'.1]
    rfl
section HSM
variable {p : Program} {l : Launch} {e : Env} {R : Room} {s : State} {m : MethodId} {args : Array Value} {below : List Frame} {meth : Method} {c : Code} {H : Heap} {locs : List Loc} {cells slots : Nat} {Q : State → Prop}
variable {pc : Nat} {ls : Array Slot} {rest st0 : List Value} {a : Array Value} {A : Nat → Prop} {H0 : Heap} {mc ms : Nat} {D : va_G} {k : Nat → ClassId} {ws wc : va_W}
theorem hs_mixC {wr wf : va_W} (isC : List Nat) (hC : isC.map (fun i => wf[i]?) = wc.map some) : (isC.map (· + wr.length)).map (fun i => (wr ++ wf)[i]?) = wc.map some := by
  rw [List.map_map, ← hC]
  refine List.map_congr_left fun i _ => ?_
  show (wr ++ wf)[i + wr.length]? = wf[i]?
  rw [List.getElem?_append_right (Nat.le_add_left _ _), Nat.add_sub_cancel]
theorem hs_mixR (wr wf : va_W) : (List.range wr.length).map (fun i => (wr ++ wf)[i]?) = wr.map some := by
  refine List.ext_getElem? fun i => ?_
  rw [List.getElem?_map, List.getElem?_map]
  by_cases h : i < wr.length
  · rw [List.getElem?_range h]
    show some ((wr ++ wf)[i]?) = _
    rw [List.getElem?_append_left h, List.getElem?_eq_getElem h]
    rfl
  · rw [List.getElem?_eq_none (by rw [List.length_range]; omega), List.getElem?_eq_none (by omega)]
    rfl
theorem hs_joinM {wr wf w1 wf2 : va_W} {H1 : Heap} (hP : va_P D vwCl (wr ++ wf) H) (hD : va_D A (wr ++ wf)) (isC : List Nat) (hC : isC.map (fun i => wf[i]?) = wc.map some)
    (hk : ∀ q : Nat, q < H.size → ¬ va_A wc H.size q → H1[q]? = H[q]?) (hF : ∀ q, va_A wc H.size q → A q) (hP1 : va_P D vwCl w1 H1) (hD1 : va_D (va_A wc H.size) w1)
    (ip : List Nat) (hi : ip.map (fun i => w1[i]?) = wf2.map some) (hin : va_nd ip = true) (mk : List Bool) : va_P D vwCl (hs_mix mk wr wf2) H1 ∧ va_D A (hs_mix mk wr wf2) := by
  obtain ⟨h1, h2⟩ := va_join (wr := wr) (w1 := wf2) hP hD (isC.map (· + wr.length)) (List.range wr.length) (hs_mixC isC hC) (hs_mixR wr wf) (hs_ndn _ List.nodup_range)
    (fun i h1 h2 => by
      rw [List.mem_range] at h1
      obtain ⟨j, -, rfl⟩ := List.mem_map.mp h2
      omega) hk hF (hs_subP hP1 ip hi) (hD1.sub ip hin hi)
  exact ⟨hs_permP (hs_mix_perm mk wr wf2).symm h1, hs_permD (hs_mix_perm mk wr wf2).symm h2⟩
theorem hs_ciM {S : Type} {post : Int32 → S → Prop} {w1 : S → va_W} (hr : va_Run p l e R s m args below meth c H locs cells slots mc ms (F0 m pc ls st0) rest (va_Qi post (fun u => hsB D k (va_A wc H.size) (w1 u)) (va_A wc H.size) a) (va_A wc H.size)) (hP : va_P D vwCl ws H) (hD : va_D A ws) (hS : va_S A H0 H locs) (hA : ∀ q, H0.size ≤ q → A q)
    (mk : List Bool) (wr wf : va_W) (hm : hs_mix mk wr wf = ws) (isC : List Nat) (hC : isC.map (fun i => wf[i]?) = wc.map some) (ip : List Nat) (wf2 : S → va_W) (hi : ∀ u, ip.map (fun i => (w1 u)[i]?) = (wf2 u).map some) (hin : va_nd ip = true) (mk2 : List Bool) (w2 : S → va_W) (h2 : ∀ u, hs_mix mk2 wr (wf2 u) = w2 u)
    (kk : ∀ (r : Int32) (u : S) (H1 : Heap) (locs1 : List Loc), post r u → va_P D vwCl (w2 u) H1 → va_D A (w2 u) → va_S A H0 H1 locs1 → W p l e R s m args below meth c H1 locs1 (cells + mc) (slots + ms) Q (F0 m (pc + 3) ls (.int r :: rest))) : W p l e R s m args below meth c H locs cells slots Q (F0 m pc ls st0) := by
  subst hm
  have hP' := hs_permP (hs_mix_perm mk wr wf) hP
  have hD' := hs_permD (hs_mix_perm mk wr wf) hD
  have hF := va_free (wc := wc) hD' hS hA _ (hs_mixC isC hC)
  refine va_calli hr hS (fun q _ h => hF q h) hF (fun r u t H1 locs1 ht hvm hw hB hz1 hk1 hS1 => ?_)
  obtain ⟨hP1, hK1, hD1⟩ := hB
  rw [ht] at hP1
  obtain ⟨hP2, hD2⟩ := hs_joinM hP' hD' isC hC hk1 hF hP1 hD1 ip (hi u) hin mk2
  rw [h2 u] at hP2 hD2
  exact kk r u H1 locs1 hw hP2 hD2 hS1
theorem hs_clM {S : Type} {post : Int64 → S → Prop} {w1 : S → va_W} (hr : va_Run p l e R s m args below meth c H locs cells slots mc ms (F0 m pc ls st0) rest (va_Ql post (fun u => hsB D k (va_A wc H.size) (w1 u)) (va_A wc H.size) a) (va_A wc H.size)) (hP : va_P D vwCl ws H) (hD : va_D A ws) (hS : va_S A H0 H locs) (hA : ∀ q, H0.size ≤ q → A q)
    (mk : List Bool) (wr wf : va_W) (hm : hs_mix mk wr wf = ws) (isC : List Nat) (hC : isC.map (fun i => wf[i]?) = wc.map some) (ip : List Nat) (wf2 : S → va_W) (hi : ∀ u, ip.map (fun i => (w1 u)[i]?) = (wf2 u).map some) (hin : va_nd ip = true) (mk2 : List Bool) (w2 : S → va_W) (h2 : ∀ u, hs_mix mk2 wr (wf2 u) = w2 u)
    (kk : ∀ (r : Int64) (u : S) (H1 : Heap) (locs1 : List Loc), post r u → va_P D vwCl (w2 u) H1 → va_D A (w2 u) → va_S A H0 H1 locs1 → W p l e R s m args below meth c H1 locs1 (cells + mc) (slots + ms) Q (F0 m (pc + 3) ls (.long r :: rest))) : W p l e R s m args below meth c H locs cells slots Q (F0 m pc ls st0) := by
  subst hm
  have hP' := hs_permP (hs_mix_perm mk wr wf) hP
  have hD' := hs_permD (hs_mix_perm mk wr wf) hD
  have hF := va_free (wc := wc) hD' hS hA _ (hs_mixC isC hC)
  refine va_calll hr hS (fun q _ h => hF q h) hF (fun r u t H1 locs1 ht hvm hw hB hz1 hk1 hS1 => ?_)
  obtain ⟨hP1, hK1, hD1⟩ := hB
  rw [ht] at hP1
  obtain ⟨hP2, hD2⟩ := hs_joinM hP' hD' isC hC hk1 hF hP1 hD1 ip (hi u) hin mk2
  rw [h2 u] at hP2 hD2
  exact kk r u H1 locs1 hw hP2 hD2 hS1
theorem hs_cvM {S : Type} {post : S → Prop} {w1 : S → va_W} (hr : va_Run p l e R s m args below meth c H locs cells slots mc ms (F0 m pc ls st0) rest (va_Qv post (fun u => hsB D k (va_A wc H.size) (w1 u)) (va_A wc H.size) a) (va_A wc H.size)) (hP : va_P D vwCl ws H) (hD : va_D A ws) (hS : va_S A H0 H locs) (hA : ∀ q, H0.size ≤ q → A q)
    (mk : List Bool) (wr wf : va_W) (hm : hs_mix mk wr wf = ws) (isC : List Nat) (hC : isC.map (fun i => wf[i]?) = wc.map some) (ip : List Nat) (wf2 : S → va_W) (hi : ∀ u, ip.map (fun i => (w1 u)[i]?) = (wf2 u).map some) (hin : va_nd ip = true) (mk2 : List Bool) (w2 : S → va_W) (h2 : ∀ u, hs_mix mk2 wr (wf2 u) = w2 u)
    (kk : ∀ (u : S) (H1 : Heap) (locs1 : List Loc), post u → va_P D vwCl (w2 u) H1 → va_D A (w2 u) → va_S A H0 H1 locs1 → W p l e R s m args below meth c H1 locs1 (cells + mc) (slots + ms) Q (F0 m (pc + 3) ls rest)) : W p l e R s m args below meth c H locs cells slots Q (F0 m pc ls st0) := by
  subst hm
  have hP' := hs_permP (hs_mix_perm mk wr wf) hP
  have hD' := hs_permD (hs_mix_perm mk wr wf) hD
  have hF := va_free (wc := wc) hD' hS hA _ (hs_mixC isC hC)
  refine va_callv hr hS (fun q _ h => hF q h) hF (fun u t H1 locs1 ht hvm hw hB hz1 hk1 hS1 => ?_)
  obtain ⟨hP1, hK1, hD1⟩ := hB
  rw [ht] at hP1
  obtain ⟨hP2, hD2⟩ := hs_joinM hP' hD' isC hC hk1 hF hP1 hD1 ip (hi u) hin mk2
  rw [h2 u] at hP2 hD2
  exact kk u H1 locs1 hw hP2 hD2 hS1
end HSM
/-- places in rising order: each at most once -/
def hs_up : List Nat → Bool
  | [] => true
  | a :: l => match l with
    | [] => true
    | b :: _ => Nat.blt a b && hs_up l
theorem hs_upc {a b : Nat} {l : List Nat} (h : hs_up (a :: b :: l) = true) : a < b ∧ hs_up (b :: l) = true := by
  have h' : (Nat.blt a b && hs_up (b :: l)) = true := h
  rw [Bool.and_eq_true] at h'
  exact ⟨Nat.le_of_ble_eq_true h'.1, h'.2⟩
theorem hs_upl : ∀ (l : List Nat) (a : Nat), hs_up (a :: l) = true → ∀ x ∈ l, a < x
  | [], _, _, x, hx => absurd hx List.not_mem_nil
  | b :: l, a, h, x, hx => by
    have h' := hs_upc h
    rcases List.mem_cons.mp hx with e | e
    · rw [e]; exact h'.1
    · exact Nat.lt_trans h'.1 (hs_upl l b h'.2 x e)
theorem hs_upnd : ∀ {l : List Nat}, hs_up l = true → va_nd l = true
  | [], _ => rfl
  | [_], _ => rfl
  | a :: b :: l, h => by
    have h1 : a ∉ b :: l := fun hm => Nat.lt_irrefl a (hs_upl (b :: l) a h a hm)
    show (decide (a ∉ b :: l) && va_nd (b :: l)) = true
    rw [hs_upnd (hs_upc h).2, decide_eq_true h1]
    rfl
theorem hpn_J0 : plainName RJ0 = true := by decide +kernel
theorem hpn_J1 : plainName RJ1 = true := by decide +kernel
theorem hpn_J3 : plainName RJ3 = true := by decide +kernel
theorem hpn_J6 : plainName RJ6 = true := by decide +kernel
theorem hpn_X0 : plainName RX0 = true := by decide +kernel
theorem hpn_X1 : plainName RX1 = true := by decide +kernel
theorem hpn_X2 : plainName RX2 = true := by decide +kernel
theorem hpn_X3 : plainName RX3 = true := by decide +kernel
theorem hpn_X4 : plainName RX4 = true := by decide +kernel
theorem hpn_X5 : plainName RX5 = true := by decide +kernel
theorem hpn_X6 : plainName RX6 = true := by decide +kernel
theorem hpn_X7 : plainName RX7 = true := by decide +kernel
theorem hpn_X8 : plainName RX8 = true := by decide +kernel
theorem hqc_J0 : RJ0 ≠ "java/lang/invoke/MethodHandle" ∧ RJ0 ≠ "java/lang/invoke/VarHandle" := by decide +kernel
theorem hqc_J1 : RJ1 ≠ "java/lang/invoke/MethodHandle" ∧ RJ1 ≠ "java/lang/invoke/VarHandle" := by decide +kernel
theorem hqc_J3 : RJ3 ≠ "java/lang/invoke/MethodHandle" ∧ RJ3 ≠ "java/lang/invoke/VarHandle" := by decide +kernel
theorem hqc_J6 : RJ6 ≠ "java/lang/invoke/MethodHandle" ∧ RJ6 ≠ "java/lang/invoke/VarHandle" := by decide +kernel
theorem hqc_X0 : RX0 ≠ "java/lang/invoke/MethodHandle" ∧ RX0 ≠ "java/lang/invoke/VarHandle" := by decide +kernel
theorem hqc_X1 : RX1 ≠ "java/lang/invoke/MethodHandle" ∧ RX1 ≠ "java/lang/invoke/VarHandle" := by decide +kernel
theorem hqc_X2 : RX2 ≠ "java/lang/invoke/MethodHandle" ∧ RX2 ≠ "java/lang/invoke/VarHandle" := by decide +kernel
theorem hqc_X3 : RX3 ≠ "java/lang/invoke/MethodHandle" ∧ RX3 ≠ "java/lang/invoke/VarHandle" := by decide +kernel
theorem hqc_X4 : RX4 ≠ "java/lang/invoke/MethodHandle" ∧ RX4 ≠ "java/lang/invoke/VarHandle" := by decide +kernel
theorem hqc_X5 : RX5 ≠ "java/lang/invoke/MethodHandle" ∧ RX5 ≠ "java/lang/invoke/VarHandle" := by decide +kernel
theorem hqc_X6 : RX6 ≠ "java/lang/invoke/MethodHandle" ∧ RX6 ≠ "java/lang/invoke/VarHandle" := by decide +kernel
theorem hqc_X7 : RX7 ≠ "java/lang/invoke/MethodHandle" ∧ RX7 ≠ "java/lang/invoke/VarHandle" := by decide +kernel
theorem hqc_X8 : RX8 ≠ "java/lang/invoke/MethodHandle" ∧ RX8 ≠ "java/lang/invoke/VarHandle" := by decide +kernel
theorem hq_J0_charAt_5068e : yJ0_charAt_5068e.cls ≠ "java/lang/invoke/MethodHandle" ∧ yJ0_charAt_5068e.cls ≠ "java/lang/invoke/VarHandle" ∧ (parseMethodDescriptor yJ0_charAt_5068e.desc).map (fun d => d.parameters.length) = some 1 := ⟨hqc_J0.1, hqc_J0.2, by decide +kernel⟩
theorem hq_J0_checkIndex_df160 : yJ0_checkIndex_df160.cls ≠ "java/lang/invoke/MethodHandle" ∧ yJ0_checkIndex_df160.cls ≠ "java/lang/invoke/VarHandle" ∧ (parseMethodDescriptor yJ0_checkIndex_df160.desc).map (fun d => d.parameters.length) = some 2 := ⟨hqc_J0.1, hqc_J0.2, by decide +kernel⟩
theorem hq_J0_coder_7d493 : yJ0_coder_7d493.cls ≠ "java/lang/invoke/MethodHandle" ∧ yJ0_coder_7d493.cls ≠ "java/lang/invoke/VarHandle" ∧ (parseMethodDescriptor yJ0_coder_7d493.desc).map (fun d => d.parameters.length) = some 0 := ⟨hqc_J0.1, hqc_J0.2, by decide +kernel⟩
theorem hq_J0_isLatin1_aae02 : yJ0_isLatin1_aae02.cls ≠ "java/lang/invoke/MethodHandle" ∧ yJ0_isLatin1_aae02.cls ≠ "java/lang/invoke/VarHandle" ∧ (parseMethodDescriptor yJ0_isLatin1_aae02.desc).map (fun d => d.parameters.length) = some 0 := ⟨hqc_J0.1, hqc_J0.2, by decide +kernel⟩
theorem hq_J0_length_8abf5 : yJ0_length_8abf5.cls ≠ "java/lang/invoke/MethodHandle" ∧ yJ0_length_8abf5.cls ≠ "java/lang/invoke/VarHandle" ∧ (parseMethodDescriptor yJ0_length_8abf5.desc).map (fun d => d.parameters.length) = some 0 := ⟨hqc_J0.1, hqc_J0.2, by decide +kernel⟩
theorem hq_J1_charAt_3b067 : yJ1_charAt_3b067.cls ≠ "java/lang/invoke/MethodHandle" ∧ yJ1_charAt_3b067.cls ≠ "java/lang/invoke/VarHandle" ∧ (parseMethodDescriptor yJ1_charAt_3b067.desc).map (fun d => d.parameters.length) = some 2 := ⟨hqc_J1.1, hqc_J1.2, by decide +kernel⟩
theorem hq_J3_checkIndex_8e157 : yJ3_checkIndex_8e157.cls ≠ "java/lang/invoke/MethodHandle" ∧ yJ3_checkIndex_8e157.cls ≠ "java/lang/invoke/VarHandle" ∧ (parseMethodDescriptor yJ3_checkIndex_8e157.desc).map (fun d => d.parameters.length) = some 3 := ⟨hqc_J3.1, hqc_J3.2, by decide +kernel⟩
theorem hq_J6_bitCount_0f7a4 : yJ6_bitCount_0f7a4.cls ≠ "java/lang/invoke/MethodHandle" ∧ yJ6_bitCount_0f7a4.cls ≠ "java/lang/invoke/VarHandle" ∧ (parseMethodDescriptor yJ6_bitCount_0f7a4.desc).map (fun d => d.parameters.length) = some 1 := ⟨hqc_J6.1, hqc_J6.2, by decide +kernel⟩
theorem hq_X0_expected : yX0_expected.cls ≠ "java/lang/invoke/MethodHandle" ∧ yX0_expected.cls ≠ "java/lang/invoke/VarHandle" ∧ (parseMethodDescriptor yX0_expected.desc).map (fun d => d.parameters.length) = some 4 := ⟨hqc_X0.1, hqc_X0.2, by decide +kernel⟩
theorem hq_X0_init : yX0_init.cls ≠ "java/lang/invoke/MethodHandle" ∧ yX0_init.cls ≠ "java/lang/invoke/VarHandle" ∧ (parseMethodDescriptor yX0_init.desc).map (fun d => d.parameters.length) = some 0 := ⟨hqc_X0.1, hqc_X0.2, by decide +kernel⟩
theorem hq_X0_lowest : yX0_lowest.cls ≠ "java/lang/invoke/MethodHandle" ∧ yX0_lowest.cls ≠ "java/lang/invoke/VarHandle" ∧ (parseMethodDescriptor yX0_lowest.desc).map (fun d => d.parameters.length) = some 3 := ⟨hqc_X0.1, hqc_X0.2, by decide +kernel⟩
theorem hq_X0_majority : yX0_majority.cls ≠ "java/lang/invoke/MethodHandle" ∧ yX0_majority.cls ≠ "java/lang/invoke/VarHandle" ∧ (parseMethodDescriptor yX0_majority.desc).map (fun d => d.parameters.length) = some 4 := ⟨hqc_X0.1, hqc_X0.2, by decide +kernel⟩
theorem hq_X0_saysJust : yX0_saysJust.cls ≠ "java/lang/invoke/MethodHandle" ∧ yX0_saysJust.cls ≠ "java/lang/invoke/VarHandle" ∧ (parseMethodDescriptor yX0_saysJust.desc).map (fun d => d.parameters.length) = some 3 := ⟨hqc_X0.1, hqc_X0.2, by decide +kernel⟩
theorem hq_X1_choice : yX1_choice.cls ≠ "java/lang/invoke/MethodHandle" ∧ yX1_choice.cls ≠ "java/lang/invoke/VarHandle" ∧ (parseMethodDescriptor yX1_choice.desc).map (fun d => d.parameters.length) = some 3 := ⟨hqc_X1.1, hqc_X1.2, by decide +kernel⟩
theorem hq_X1_cutsOf : yX1_cutsOf.cls ≠ "java/lang/invoke/MethodHandle" ∧ yX1_cutsOf.cls ≠ "java/lang/invoke/VarHandle" ∧ (parseMethodDescriptor yX1_cutsOf.desc).map (fun d => d.parameters.length) = some 2 := ⟨hqc_X1.1, hqc_X1.2, by decide +kernel⟩
theorem hq_X1_fewestCuts : yX1_fewestCuts.cls ≠ "java/lang/invoke/MethodHandle" ∧ yX1_fewestCuts.cls ≠ "java/lang/invoke/VarHandle" ∧ (parseMethodDescriptor yX1_fewestCuts.desc).map (fun d => d.parameters.length) = some 2 := ⟨hqc_X1.1, hqc_X1.2, by decide +kernel⟩
theorem hq_X1_honestCut : yX1_honestCut.cls ≠ "java/lang/invoke/MethodHandle" ∧ yX1_honestCut.cls ≠ "java/lang/invoke/VarHandle" ∧ (parseMethodDescriptor yX1_honestCut.desc).map (fun d => d.parameters.length) = some 2 := ⟨hqc_X1.1, hqc_X1.2, by decide +kernel⟩
theorem hq_X1_isJustToAll : yX1_isJustToAll.cls ≠ "java/lang/invoke/MethodHandle" ∧ yX1_isJustToAll.cls ≠ "java/lang/invoke/VarHandle" ∧ (parseMethodDescriptor yX1_isJustToAll.desc).map (fun d => d.parameters.length) = some 3 := ⟨hqc_X1.1, hqc_X1.2, by decide +kernel⟩
theorem hq_X1_leftOver : yX1_leftOver.cls ≠ "java/lang/invoke/MethodHandle" ∧ yX1_leftOver.cls ≠ "java/lang/invoke/VarHandle" ∧ (parseMethodDescriptor yX1_leftOver.desc).map (fun d => d.parameters.length) = some 4 := ⟨hqc_X1.1, hqc_X1.2, by decide +kernel⟩
theorem hq_X1_slyCut : yX1_slyCut.cls ≠ "java/lang/invoke/MethodHandle" ∧ yX1_slyCut.cls ≠ "java/lang/invoke/VarHandle" ∧ (parseMethodDescriptor yX1_slyCut.desc).map (fun d => d.parameters.length) = some 3 := ⟨hqc_X1.1, hqc_X1.2, by decide +kernel⟩
theorem hq_X2_heaviest : yX2_heaviest.cls ≠ "java/lang/invoke/MethodHandle" ∧ yX2_heaviest.cls ≠ "java/lang/invoke/VarHandle" ∧ (parseMethodDescriptor yX2_heaviest.desc).map (fun d => d.parameters.length) = some 0 := ⟨hqc_X2.1, hqc_X2.2, by decide +kernel⟩
theorem hq_X2_howMany : yX2_howMany.cls ≠ "java/lang/invoke/MethodHandle" ∧ yX2_howMany.cls ≠ "java/lang/invoke/VarHandle" ∧ (parseMethodDescriptor yX2_howMany.desc).map (fun d => d.parameters.length) = some 0 := ⟨hqc_X2.1, hqc_X2.2, by decide +kernel⟩
theorem hq_X2_howManyWith : yX2_howManyWith.cls ≠ "java/lang/invoke/MethodHandle" ∧ yX2_howManyWith.cls ≠ "java/lang/invoke/VarHandle" ∧ (parseMethodDescriptor yX2_howManyWith.desc).map (fun d => d.parameters.length) = some 2 := ⟨hqc_X2.1, hqc_X2.2, by decide +kernel⟩
theorem hq_X2_init : yX2_init.cls ≠ "java/lang/invoke/MethodHandle" ∧ yX2_init.cls ≠ "java/lang/invoke/VarHandle" ∧ (parseMethodDescriptor yX2_init.desc).map (fun d => d.parameters.length) = some 0 := ⟨hqc_X2.1, hqc_X2.2, by decide +kernel⟩
theorem hq_X2_learn : yX2_learn.cls ≠ "java/lang/invoke/MethodHandle" ∧ yX2_learn.cls ≠ "java/lang/invoke/VarHandle" ∧ (parseMethodDescriptor yX2_learn.desc).map (fun d => d.parameters.length) = some 1 := ⟨hqc_X2.1, hqc_X2.2, by decide +kernel⟩
theorem hq_X2_leastBehind : yX2_leastBehind.cls ≠ "java/lang/invoke/MethodHandle" ∧ yX2_leastBehind.cls ≠ "java/lang/invoke/VarHandle" ∧ (parseMethodDescriptor yX2_leastBehind.desc).map (fun d => d.parameters.length) = some 1 := ⟨hqc_X2.1, hqc_X2.2, by decide +kernel⟩
theorem hq_X2_lightest : yX2_lightest.cls ≠ "java/lang/invoke/MethodHandle" ∧ yX2_lightest.cls ≠ "java/lang/invoke/VarHandle" ∧ (parseMethodDescriptor yX2_lightest.desc).map (fun d => d.parameters.length) = some 0 := ⟨hqc_X2.1, hqc_X2.2, by decide +kernel⟩
theorem hq_X2_mayCome : yX2_mayCome.cls ≠ "java/lang/invoke/MethodHandle" ∧ yX2_mayCome.cls ≠ "java/lang/invoke/VarHandle" ∧ (parseMethodDescriptor yX2_mayCome.desc).map (fun d => d.parameters.length) = some 2 := ⟨hqc_X2.1, hqc_X2.2, by decide +kernel⟩
theorem hq_X2_ofFirst : yX2_ofFirst.cls ≠ "java/lang/invoke/MethodHandle" ∧ yX2_ofFirst.cls ≠ "java/lang/invoke/VarHandle" ∧ (parseMethodDescriptor yX2_ofFirst.desc).map (fun d => d.parameters.length) = some 1 := ⟨hqc_X2.1, hqc_X2.2, by decide +kernel⟩
theorem hq_X3_at : yX3_at.cls ≠ "java/lang/invoke/MethodHandle" ∧ yX3_at.cls ≠ "java/lang/invoke/VarHandle" ∧ (parseMethodDescriptor yX3_at.desc).map (fun d => d.parameters.length) = some 1 := ⟨hqc_X3.1, hqc_X3.2, by decide +kernel⟩
theorem hq_X3_faultAt : yX3_faultAt.cls ≠ "java/lang/invoke/MethodHandle" ∧ yX3_faultAt.cls ≠ "java/lang/invoke/VarHandle" ∧ (parseMethodDescriptor yX3_faultAt.desc).map (fun d => d.parameters.length) = some 1 := ⟨hqc_X3.1, hqc_X3.2, by decide +kernel⟩
theorem hq_X3_faultOfTwo : yX3_faultOfTwo.cls ≠ "java/lang/invoke/MethodHandle" ∧ yX3_faultOfTwo.cls ≠ "java/lang/invoke/VarHandle" ∧ (parseMethodDescriptor yX3_faultOfTwo.desc).map (fun d => d.parameters.length) = some 2 := ⟨hqc_X3.1, hqc_X3.2, by decide +kernel⟩
theorem hq_X3_init : yX3_init.cls ≠ "java/lang/invoke/MethodHandle" ∧ yX3_init.cls ≠ "java/lang/invoke/VarHandle" ∧ (parseMethodDescriptor yX3_init.desc).map (fun d => d.parameters.length) = some 0 := ⟨hqc_X3.1, hqc_X3.2, by decide +kernel⟩
theorem hq_X3_isLane : yX3_isLane.cls ≠ "java/lang/invoke/MethodHandle" ∧ yX3_isLane.cls ≠ "java/lang/invoke/VarHandle" ∧ (parseMethodDescriptor yX3_isLane.desc).map (fun d => d.parameters.length) = some 1 := ⟨hqc_X3.1, hqc_X3.2, by decide +kernel⟩
theorem hq_X3_isNothing : yX3_isNothing.cls ≠ "java/lang/invoke/MethodHandle" ∧ yX3_isNothing.cls ≠ "java/lang/invoke/VarHandle" ∧ (parseMethodDescriptor yX3_isNothing.desc).map (fun d => d.parameters.length) = some 0 := ⟨hqc_X3.1, hqc_X3.2, by decide +kernel⟩
theorem hq_X3_put : yX3_put.cls ≠ "java/lang/invoke/MethodHandle" ∧ yX3_put.cls ≠ "java/lang/invoke/VarHandle" ∧ (parseMethodDescriptor yX3_put.desc).map (fun d => d.parameters.length) = some 2 := ⟨hqc_X3.1, hqc_X3.2, by decide +kernel⟩
theorem hq_X3_renew : yX3_renew.cls ≠ "java/lang/invoke/MethodHandle" ∧ yX3_renew.cls ≠ "java/lang/invoke/VarHandle" ∧ (parseMethodDescriptor yX3_renew.desc).map (fun d => d.parameters.length) = some 2 := ⟨hqc_X3.1, hqc_X3.2, by decide +kernel⟩
theorem hq_X4_advance : yX4_advance.cls ≠ "java/lang/invoke/MethodHandle" ∧ yX4_advance.cls ≠ "java/lang/invoke/VarHandle" ∧ (parseMethodDescriptor yX4_advance.desc).map (fun d => d.parameters.length) = some 0 := ⟨hqc_X4.1, hqc_X4.2, by decide +kernel⟩
theorem hq_X4_init : yX4_init.cls ≠ "java/lang/invoke/MethodHandle" ∧ yX4_init.cls ≠ "java/lang/invoke/VarHandle" ∧ (parseMethodDescriptor yX4_init.desc).map (fun d => d.parameters.length) = some 0 := ⟨hqc_X4.1, hqc_X4.2, by decide +kernel⟩
theorem hq_X4_isLong : yX4_isLong.cls ≠ "java/lang/invoke/MethodHandle" ∧ yX4_isLong.cls ≠ "java/lang/invoke/VarHandle" ∧ (parseMethodDescriptor yX4_isLong.desc).map (fun d => d.parameters.length) = some 0 := ⟨hqc_X4.1, hqc_X4.2, by decide +kernel⟩
theorem hq_X4_isWord : yX4_isWord.cls ≠ "java/lang/invoke/MethodHandle" ∧ yX4_isWord.cls ≠ "java/lang/invoke/VarHandle" ∧ (parseMethodDescriptor yX4_isWord.desc).map (fun d => d.parameters.length) = some 1 := ⟨hqc_X4.1, hqc_X4.2, by decide +kernel⟩
theorem hq_X4_kindOfSign : yX4_kindOfSign.cls ≠ "java/lang/invoke/MethodHandle" ∧ yX4_kindOfSign.cls ≠ "java/lang/invoke/VarHandle" ∧ (parseMethodDescriptor yX4_kindOfSign.desc).map (fun d => d.parameters.length) = some 1 := ⟨hqc_X4.1, hqc_X4.2, by decide +kernel⟩
theorem hq_X4_measure : yX4_measure.cls ≠ "java/lang/invoke/MethodHandle" ∧ yX4_measure.cls ≠ "java/lang/invoke/VarHandle" ∧ (parseMethodDescriptor yX4_measure.desc).map (fun d => d.parameters.length) = some 0 := ⟨hqc_X4.1, hqc_X4.2, by decide +kernel⟩
theorem hq_X4_restart : yX4_restart.cls ≠ "java/lang/invoke/MethodHandle" ∧ yX4_restart.cls ≠ "java/lang/invoke/VarHandle" ∧ (parseMethodDescriptor yX4_restart.desc).map (fun d => d.parameters.length) = some 0 := ⟨hqc_X4.1, hqc_X4.2, by decide +kernel⟩
theorem hq_X5_blame : yX5_blame.cls ≠ "java/lang/invoke/MethodHandle" ∧ yX5_blame.cls ≠ "java/lang/invoke/VarHandle" ∧ (parseMethodDescriptor yX5_blame.desc).map (fun d => d.parameters.length) = some 1 := ⟨hqc_X5.1, hqc_X5.2, by decide +kernel⟩
theorem hq_X5_blameFor : yX5_blameFor.cls ≠ "java/lang/invoke/MethodHandle" ∧ yX5_blameFor.cls ≠ "java/lang/invoke/VarHandle" ∧ (parseMethodDescriptor yX5_blameFor.desc).map (fun d => d.parameters.length) = some 1 := ⟨hqc_X5.1, hqc_X5.2, by decide +kernel⟩
theorem hq_X5_checkCase : yX5_checkCase.cls ≠ "java/lang/invoke/MethodHandle" ∧ yX5_checkCase.cls ≠ "java/lang/invoke/VarHandle" ∧ (parseMethodDescriptor yX5_checkCase.desc).map (fun d => d.parameters.length) = some 1 := ⟨hqc_X5.1, hqc_X5.2, by decide +kernel⟩
theorem hq_X5_checkName : yX5_checkName.cls ≠ "java/lang/invoke/MethodHandle" ∧ yX5_checkName.cls ≠ "java/lang/invoke/VarHandle" ∧ (parseMethodDescriptor yX5_checkName.desc).map (fun d => d.parameters.length) = some 1 := ⟨hqc_X5.1, hqc_X5.2, by decide +kernel⟩
theorem hq_X5_init : yX5_init.cls ≠ "java/lang/invoke/MethodHandle" ∧ yX5_init.cls ≠ "java/lang/invoke/VarHandle" ∧ (parseMethodDescriptor yX5_init.desc).map (fun d => d.parameters.length) = some 0 := ⟨hqc_X5.1, hqc_X5.2, by decide +kernel⟩
theorem hq_X5_lineHere : yX5_lineHere.cls ≠ "java/lang/invoke/MethodHandle" ∧ yX5_lineHere.cls ≠ "java/lang/invoke/VarHandle" ∧ (parseMethodDescriptor yX5_lineHere.desc).map (fun d => d.parameters.length) = some 0 := ⟨hqc_X5.1, hqc_X5.2, by decide +kernel⟩
theorem hq_X5_takeCells : yX5_takeCells.cls ≠ "java/lang/invoke/MethodHandle" ∧ yX5_takeCells.cls ≠ "java/lang/invoke/VarHandle" ∧ (parseMethodDescriptor yX5_takeCells.desc).map (fun d => d.parameters.length) = some 0 := ⟨hqc_X5.1, hqc_X5.2, by decide +kernel⟩
theorem hq_X5_takeLine : yX5_takeLine.cls ≠ "java/lang/invoke/MethodHandle" ∧ yX5_takeLine.cls ≠ "java/lang/invoke/VarHandle" ∧ (parseMethodDescriptor yX5_takeLine.desc).map (fun d => d.parameters.length) = some 0 := ⟨hqc_X5.1, hqc_X5.2, by decide +kernel⟩
theorem hq_X5_takeMark : yX5_takeMark.cls ≠ "java/lang/invoke/MethodHandle" ∧ yX5_takeMark.cls ≠ "java/lang/invoke/VarHandle" ∧ (parseMethodDescriptor yX5_takeMark.desc).map (fun d => d.parameters.length) = some 0 := ⟨hqc_X5.1, hqc_X5.2, by decide +kernel⟩
theorem hq_X5_takeNumber : yX5_takeNumber.cls ≠ "java/lang/invoke/MethodHandle" ∧ yX5_takeNumber.cls ≠ "java/lang/invoke/VarHandle" ∧ (parseMethodDescriptor yX5_takeNumber.desc).map (fun d => d.parameters.length) = some 3 := ⟨hqc_X5.1, hqc_X5.2, by decide +kernel⟩
theorem hq_X5_takePair : yX5_takePair.cls ≠ "java/lang/invoke/MethodHandle" ∧ yX5_takePair.cls ≠ "java/lang/invoke/VarHandle" ∧ (parseMethodDescriptor yX5_takePair.desc).map (fun d => d.parameters.length) = some 0 := ⟨hqc_X5.1, hqc_X5.2, by decide +kernel⟩
theorem hq_X5_tellAll : yX5_tellAll.cls ≠ "java/lang/invoke/MethodHandle" ∧ yX5_tellAll.cls ≠ "java/lang/invoke/VarHandle" ∧ (parseMethodDescriptor yX5_tellAll.desc).map (fun d => d.parameters.length) = some 1 := ⟨hqc_X5.1, hqc_X5.2, by decide +kernel⟩
theorem hq_X5_wordOf : yX5_wordOf.cls ≠ "java/lang/invoke/MethodHandle" ∧ yX5_wordOf.cls ≠ "java/lang/invoke/VarHandle" ∧ (parseMethodDescriptor yX5_wordOf.desc).map (fun d => d.parameters.length) = some 1 := ⟨hqc_X5.1, hqc_X5.2, by decide +kernel⟩
theorem hq_X6_addPair : yX6_addPair.cls ≠ "java/lang/invoke/MethodHandle" ∧ yX6_addPair.cls ≠ "java/lang/invoke/VarHandle" ∧ (parseMethodDescriptor yX6_addPair.desc).map (fun d => d.parameters.length) = some 2 := ⟨hqc_X6.1, hqc_X6.2, by decide +kernel⟩
theorem hq_X6_addPerson : yX6_addPerson.cls ≠ "java/lang/invoke/MethodHandle" ∧ yX6_addPerson.cls ≠ "java/lang/invoke/VarHandle" ∧ (parseMethodDescriptor yX6_addPerson.desc).map (fun d => d.parameters.length) = some 1 := ⟨hqc_X6.1, hqc_X6.2, by decide +kernel⟩
theorem hq_X6_addSeen : yX6_addSeen.cls ≠ "java/lang/invoke/MethodHandle" ∧ yX6_addSeen.cls ≠ "java/lang/invoke/VarHandle" ∧ (parseMethodDescriptor yX6_addSeen.desc).map (fun d => d.parameters.length) = some 3 := ⟨hqc_X6.1, hqc_X6.2, by decide +kernel⟩
theorem hq_X6_allCells : yX6_allCells.cls ≠ "java/lang/invoke/MethodHandle" ∧ yX6_allCells.cls ≠ "java/lang/invoke/VarHandle" ∧ (parseMethodDescriptor yX6_allCells.desc).map (fun d => d.parameters.length) = some 0 := ⟨hqc_X6.1, hqc_X6.2, by decide +kernel⟩
theorem hq_X6_allPeople : yX6_allPeople.cls ≠ "java/lang/invoke/MethodHandle" ∧ yX6_allPeople.cls ≠ "java/lang/invoke/VarHandle" ∧ (parseMethodDescriptor yX6_allPeople.desc).map (fun d => d.parameters.length) = some 0 := ⟨hqc_X6.1, hqc_X6.2, by decide +kernel⟩
theorem hq_X6_allWeights : yX6_allWeights.cls ≠ "java/lang/invoke/MethodHandle" ∧ yX6_allWeights.cls ≠ "java/lang/invoke/VarHandle" ∧ (parseMethodDescriptor yX6_allWeights.desc).map (fun d => d.parameters.length) = some 0 := ⟨hqc_X6.1, hqc_X6.2, by decide +kernel⟩
theorem hq_X6_begin : yX6_begin.cls ≠ "java/lang/invoke/MethodHandle" ∧ yX6_begin.cls ≠ "java/lang/invoke/VarHandle" ∧ (parseMethodDescriptor yX6_begin.desc).map (fun d => d.parameters.length) = some 0 := ⟨hqc_X6.1, hqc_X6.2, by decide +kernel⟩
theorem hq_X6_canWeigh : yX6_canWeigh.cls ≠ "java/lang/invoke/MethodHandle" ∧ yX6_canWeigh.cls ≠ "java/lang/invoke/VarHandle" ∧ (parseMethodDescriptor yX6_canWeigh.desc).map (fun d => d.parameters.length) = some 2 := ⟨hqc_X6.1, hqc_X6.2, by decide +kernel⟩
theorem hq_X6_copyFrom : yX6_copyFrom.cls ≠ "java/lang/invoke/MethodHandle" ∧ yX6_copyFrom.cls ≠ "java/lang/invoke/VarHandle" ∧ (parseMethodDescriptor yX6_copyFrom.desc).map (fun d => d.parameters.length) = some 1 := ⟨hqc_X6.1, hqc_X6.2, by decide +kernel⟩
theorem hq_X6_init : yX6_init.cls ≠ "java/lang/invoke/MethodHandle" ∧ yX6_init.cls ≠ "java/lang/invoke/VarHandle" ∧ (parseMethodDescriptor yX6_init.desc).map (fun d => d.parameters.length) = some 0 := ⟨hqc_X6.1, hqc_X6.2, by decide +kernel⟩
theorem hq_X6_isAsSeen : yX6_isAsSeen.cls ≠ "java/lang/invoke/MethodHandle" ∧ yX6_isAsSeen.cls ≠ "java/lang/invoke/VarHandle" ∧ (parseMethodDescriptor yX6_isAsSeen.desc).map (fun d => d.parameters.length) = some 0 := ⟨hqc_X6.1, hqc_X6.2, by decide +kernel⟩
theorem hq_X6_isCell : yX6_isCell.cls ≠ "java/lang/invoke/MethodHandle" ∧ yX6_isCell.cls ≠ "java/lang/invoke/VarHandle" ∧ (parseMethodDescriptor yX6_isCell.desc).map (fun d => d.parameters.length) = some 1 := ⟨hqc_X6.1, hqc_X6.2, by decide +kernel⟩
theorem hq_X6_isCut : yX6_isCut.cls ≠ "java/lang/invoke/MethodHandle" ∧ yX6_isCut.cls ≠ "java/lang/invoke/VarHandle" ∧ (parseMethodDescriptor yX6_isCut.desc).map (fun d => d.parameters.length) = some 1 := ⟨hqc_X6.1, hqc_X6.2, by decide +kernel⟩
theorem hq_X6_isHalf : yX6_isHalf.cls ≠ "java/lang/invoke/MethodHandle" ∧ yX6_isHalf.cls ≠ "java/lang/invoke/VarHandle" ∧ (parseMethodDescriptor yX6_isHalf.desc).map (fun d => d.parameters.length) = some 1 := ⟨hqc_X6.1, hqc_X6.2, by decide +kernel⟩
theorem hq_X6_isPerson : yX6_isPerson.cls ≠ "java/lang/invoke/MethodHandle" ∧ yX6_isPerson.cls ≠ "java/lang/invoke/VarHandle" ∧ (parseMethodDescriptor yX6_isPerson.desc).map (fun d => d.parameters.length) = some 1 := ⟨hqc_X6.1, hqc_X6.2, by decide +kernel⟩
theorem hq_X6_joinWithNext : yX6_joinWithNext.cls ≠ "java/lang/invoke/MethodHandle" ∧ yX6_joinWithNext.cls ≠ "java/lang/invoke/VarHandle" ∧ (parseMethodDescriptor yX6_joinWithNext.desc).map (fun d => d.parameters.length) = some 1 := ⟨hqc_X6.1, hqc_X6.2, by decide +kernel⟩
theorem hq_X6_justInAll : yX6_justInAll.cls ≠ "java/lang/invoke/MethodHandle" ∧ yX6_justInAll.cls ≠ "java/lang/invoke/VarHandle" ∧ (parseMethodDescriptor yX6_justInAll.desc).map (fun d => d.parameters.length) = some 0 := ⟨hqc_X6.1, hqc_X6.2, by decide +kernel⟩
theorem hq_X6_justTo : yX6_justTo.cls ≠ "java/lang/invoke/MethodHandle" ∧ yX6_justTo.cls ≠ "java/lang/invoke/VarHandle" ∧ (parseMethodDescriptor yX6_justTo.desc).map (fun d => d.parameters.length) = some 1 := ⟨hqc_X6.1, hqc_X6.2, by decide +kernel⟩
theorem hq_X6_lead : yX6_lead.cls ≠ "java/lang/invoke/MethodHandle" ∧ yX6_lead.cls ≠ "java/lang/invoke/VarHandle" ∧ (parseMethodDescriptor yX6_lead.desc).map (fun d => d.parameters.length) = some 2 := ⟨hqc_X6.1, hqc_X6.2, by decide +kernel⟩
theorem hq_X6_leftOf : yX6_leftOf.cls ≠ "java/lang/invoke/MethodHandle" ∧ yX6_leftOf.cls ≠ "java/lang/invoke/VarHandle" ∧ (parseMethodDescriptor yX6_leftOf.desc).map (fun d => d.parameters.length) = some 1 := ⟨hqc_X6.1, hqc_X6.2, by decide +kernel⟩
theorem hq_X6_splitCell : yX6_splitCell.cls ≠ "java/lang/invoke/MethodHandle" ∧ yX6_splitCell.cls ≠ "java/lang/invoke/VarHandle" ∧ (parseMethodDescriptor yX6_splitCell.desc).map (fun d => d.parameters.length) = some 1 := ⟨hqc_X6.1, hqc_X6.2, by decide +kernel⟩
theorem hq_X6_verdict : yX6_verdict.cls ≠ "java/lang/invoke/MethodHandle" ∧ yX6_verdict.cls ≠ "java/lang/invoke/VarHandle" ∧ (parseMethodDescriptor yX6_verdict.desc).map (fun d => d.parameters.length) = some 2 := ⟨hqc_X6.1, hqc_X6.2, by decide +kernel⟩
theorem hq_X6_worthOf : yX6_worthOf.cls ≠ "java/lang/invoke/MethodHandle" ∧ yX6_worthOf.cls ≠ "java/lang/invoke/VarHandle" ∧ (parseMethodDescriptor yX6_worthOf.desc).map (fun d => d.parameters.length) = some 2 := ⟨hqc_X6.1, hqc_X6.2, by decide +kernel⟩
theorem hq_X6_worthOfCell : yX6_worthOfCell.cls ≠ "java/lang/invoke/MethodHandle" ∧ yX6_worthOfCell.cls ≠ "java/lang/invoke/VarHandle" ∧ (parseMethodDescriptor yX6_worthOfCell.desc).map (fun d => d.parameters.length) = some 2 := ⟨hqc_X6.1, hqc_X6.2, by decide +kernel⟩
theorem hq_X7_appeal : yX7_appeal.cls ≠ "java/lang/invoke/MethodHandle" ∧ yX7_appeal.cls ≠ "java/lang/invoke/VarHandle" ∧ (parseMethodDescriptor yX7_appeal.desc).map (fun d => d.parameters.length) = some 0 := ⟨hqc_X7.1, hqc_X7.2, by decide +kernel⟩
theorem hq_X7_areTwo : yX7_areTwo.cls ≠ "java/lang/invoke/MethodHandle" ∧ yX7_areTwo.cls ≠ "java/lang/invoke/VarHandle" ∧ (parseMethodDescriptor yX7_areTwo.desc).map (fun d => d.parameters.length) = some 2 := ⟨hqc_X7.1, hqc_X7.2, by decide +kernel⟩
theorem hq_X7_back : yX7_back.cls ≠ "java/lang/invoke/MethodHandle" ∧ yX7_back.cls ≠ "java/lang/invoke/VarHandle" ∧ (parseMethodDescriptor yX7_back.desc).map (fun d => d.parameters.length) = some 1 := ⟨hqc_X7.1, hqc_X7.2, by decide +kernel⟩
theorem hq_X7_cell : yX7_cell.cls ≠ "java/lang/invoke/MethodHandle" ∧ yX7_cell.cls ≠ "java/lang/invoke/VarHandle" ∧ (parseMethodDescriptor yX7_cell.desc).map (fun d => d.parameters.length) = some 1 := ⟨hqc_X7.1, hqc_X7.2, by decide +kernel⟩
theorem hq_X7_chosen : yX7_chosen.cls ≠ "java/lang/invoke/MethodHandle" ∧ yX7_chosen.cls ≠ "java/lang/invoke/VarHandle" ∧ (parseMethodDescriptor yX7_chosen.desc).map (fun d => d.parameters.length) = some 3 := ⟨hqc_X7.1, hqc_X7.2, by decide +kernel⟩
theorem hq_X7_count : yX7_count.cls ≠ "java/lang/invoke/MethodHandle" ∧ yX7_count.cls ≠ "java/lang/invoke/VarHandle" ∧ (parseMethodDescriptor yX7_count.desc).map (fun d => d.parameters.length) = some 1 := ⟨hqc_X7.1, hqc_X7.2, by decide +kernel⟩
theorem hq_X7_drift : yX7_drift.cls ≠ "java/lang/invoke/MethodHandle" ∧ yX7_drift.cls ≠ "java/lang/invoke/VarHandle" ∧ (parseMethodDescriptor yX7_drift.desc).map (fun d => d.parameters.length) = some 3 := ⟨hqc_X7.1, hqc_X7.2, by decide +kernel⟩
theorem hq_X7_end : yX7_end.cls ≠ "java/lang/invoke/MethodHandle" ∧ yX7_end.cls ≠ "java/lang/invoke/VarHandle" ∧ (parseMethodDescriptor yX7_end.desc).map (fun d => d.parameters.length) = some 1 := ⟨hqc_X7.1, hqc_X7.2, by decide +kernel⟩
theorem hq_X7_fault : yX7_fault.cls ≠ "java/lang/invoke/MethodHandle" ∧ yX7_fault.cls ≠ "java/lang/invoke/VarHandle" ∧ (parseMethodDescriptor yX7_fault.desc).map (fun d => d.parameters.length) = some 0 := ⟨hqc_X7.1, hqc_X7.2, by decide +kernel⟩
theorem hq_X7_feed : yX7_feed.cls ≠ "java/lang/invoke/MethodHandle" ∧ yX7_feed.cls ≠ "java/lang/invoke/VarHandle" ∧ (parseMethodDescriptor yX7_feed.desc).map (fun d => d.parameters.length) = some 1 := ⟨hqc_X7.1, hqc_X7.2, by decide +kernel⟩
theorem hq_X7_finds : yX7_finds.cls ≠ "java/lang/invoke/MethodHandle" ∧ yX7_finds.cls ≠ "java/lang/invoke/VarHandle" ∧ (parseMethodDescriptor yX7_finds.desc).map (fun d => d.parameters.length) = some 2 := ⟨hqc_X7.1, hqc_X7.2, by decide +kernel⟩
theorem hq_X7_fits : yX7_fits.cls ≠ "java/lang/invoke/MethodHandle" ∧ yX7_fits.cls ≠ "java/lang/invoke/VarHandle" ∧ (parseMethodDescriptor yX7_fits.desc).map (fun d => d.parameters.length) = some 1 := ⟨hqc_X7.1, hqc_X7.2, by decide +kernel⟩
theorem hq_X7_forget : yX7_forget.cls ≠ "java/lang/invoke/MethodHandle" ∧ yX7_forget.cls ≠ "java/lang/invoke/VarHandle" ∧ (parseMethodDescriptor yX7_forget.desc).map (fun d => d.parameters.length) = some 1 := ⟨hqc_X7.1, hqc_X7.2, by decide +kernel⟩
theorem hq_X7_halfUp : yX7_halfUp.cls ≠ "java/lang/invoke/MethodHandle" ∧ yX7_halfUp.cls ≠ "java/lang/invoke/VarHandle" ∧ (parseMethodDescriptor yX7_halfUp.desc).map (fun d => d.parameters.length) = some 1 := ⟨hqc_X7.1, hqc_X7.2, by decide +kernel⟩
theorem hq_X7_halves : yX7_halves.cls ≠ "java/lang/invoke/MethodHandle" ∧ yX7_halves.cls ≠ "java/lang/invoke/VarHandle" ∧ (parseMethodDescriptor yX7_halves.desc).map (fun d => d.parameters.length) = some 2 := ⟨hqc_X7.1, hqc_X7.2, by decide +kernel⟩
theorem hq_X7_honest : yX7_honest.cls ≠ "java/lang/invoke/MethodHandle" ∧ yX7_honest.cls ≠ "java/lang/invoke/VarHandle" ∧ (parseMethodDescriptor yX7_honest.desc).map (fun d => d.parameters.length) = some 1 := ⟨hqc_X7.1, hqc_X7.2, by decide +kernel⟩
theorem hq_X7_imagesThere : yX7_imagesThere.cls ≠ "java/lang/invoke/MethodHandle" ∧ yX7_imagesThere.cls ≠ "java/lang/invoke/VarHandle" ∧ (parseMethodDescriptor yX7_imagesThere.desc).map (fun d => d.parameters.length) = some 0 := ⟨hqc_X7.1, hqc_X7.2, by decide +kernel⟩
theorem hq_X7_init : yX7_init.cls ≠ "java/lang/invoke/MethodHandle" ∧ yX7_init.cls ≠ "java/lang/invoke/VarHandle" ∧ (parseMethodDescriptor yX7_init.desc).map (fun d => d.parameters.length) = some 0 := ⟨hqc_X7.1, hqc_X7.2, by decide +kernel⟩
theorem hq_X7_isSheet : yX7_isSheet.cls ≠ "java/lang/invoke/MethodHandle" ∧ yX7_isSheet.cls ≠ "java/lang/invoke/VarHandle" ∧ (parseMethodDescriptor yX7_isSheet.desc).map (fun d => d.parameters.length) = some 1 := ⟨hqc_X7.1, hqc_X7.2, by decide +kernel⟩
theorem hq_X7_isTrial : yX7_isTrial.cls ≠ "java/lang/invoke/MethodHandle" ∧ yX7_isTrial.cls ≠ "java/lang/invoke/VarHandle" ∧ (parseMethodDescriptor yX7_isTrial.desc).map (fun d => d.parameters.length) = some 3 := ⟨hqc_X7.1, hqc_X7.2, by decide +kernel⟩
theorem hq_X7_join : yX7_join.cls ≠ "java/lang/invoke/MethodHandle" ∧ yX7_join.cls ≠ "java/lang/invoke/VarHandle" ∧ (parseMethodDescriptor yX7_join.desc).map (fun d => d.parameters.length) = some 1 := ⟨hqc_X7.1, hqc_X7.2, by decide +kernel⟩
theorem hq_X7_just : yX7_just.cls ≠ "java/lang/invoke/MethodHandle" ∧ yX7_just.cls ≠ "java/lang/invoke/VarHandle" ∧ (parseMethodDescriptor yX7_just.desc).map (fun d => d.parameters.length) = some 1 := ⟨hqc_X7.1, hqc_X7.2, by decide +kernel⟩
theorem hq_X7_keep : yX7_keep.cls ≠ "java/lang/invoke/MethodHandle" ∧ yX7_keep.cls ≠ "java/lang/invoke/VarHandle" ∧ (parseMethodDescriptor yX7_keep.desc).map (fun d => d.parameters.length) = some 1 := ⟨hqc_X7.1, hqc_X7.2, by decide +kernel⟩
theorem hq_X7_kinds : yX7_kinds.cls ≠ "java/lang/invoke/MethodHandle" ∧ yX7_kinds.cls ≠ "java/lang/invoke/VarHandle" ∧ (parseMethodDescriptor yX7_kinds.desc).map (fun d => d.parameters.length) = some 1 := ⟨hqc_X7.1, hqc_X7.2, by decide +kernel⟩
theorem hq_X7_lay : yX7_lay.cls ≠ "java/lang/invoke/MethodHandle" ∧ yX7_lay.cls ≠ "java/lang/invoke/VarHandle" ∧ (parseMethodDescriptor yX7_lay.desc).map (fun d => d.parameters.length) = some 3 := ⟨hqc_X7.1, hqc_X7.2, by decide +kernel⟩
theorem hq_X7_lighter : yX7_lighter.cls ≠ "java/lang/invoke/MethodHandle" ∧ yX7_lighter.cls ≠ "java/lang/invoke/VarHandle" ∧ (parseMethodDescriptor yX7_lighter.desc).map (fun d => d.parameters.length) = some 2 := ⟨hqc_X7.1, hqc_X7.2, by decide +kernel⟩
theorem hq_X7_luck : yX7_luck.cls ≠ "java/lang/invoke/MethodHandle" ∧ yX7_luck.cls ≠ "java/lang/invoke/VarHandle" ∧ (parseMethodDescriptor yX7_luck.desc).map (fun d => d.parameters.length) = some 3 := ⟨hqc_X7.1, hqc_X7.2, by decide +kernel⟩
theorem hq_X7_mean : yX7_mean.cls ≠ "java/lang/invoke/MethodHandle" ∧ yX7_mean.cls ≠ "java/lang/invoke/VarHandle" ∧ (parseMethodDescriptor yX7_mean.desc).map (fun d => d.parameters.length) = some 3 := ⟨hqc_X7.1, hqc_X7.2, by decide +kernel⟩
theorem hq_X7_middle : yX7_middle.cls ≠ "java/lang/invoke/MethodHandle" ∧ yX7_middle.cls ≠ "java/lang/invoke/VarHandle" ∧ (parseMethodDescriptor yX7_middle.desc).map (fun d => d.parameters.length) = some 1 := ⟨hqc_X7.1, hqc_X7.2, by decide +kernel⟩
theorem hq_X7_next : yX7_next.cls ≠ "java/lang/invoke/MethodHandle" ∧ yX7_next.cls ≠ "java/lang/invoke/VarHandle" ∧ (parseMethodDescriptor yX7_next.desc).map (fun d => d.parameters.length) = some 1 := ⟨hqc_X7.1, hqc_X7.2, by decide +kernel⟩
theorem hq_X7_orders : yX7_orders.cls ≠ "java/lang/invoke/MethodHandle" ∧ yX7_orders.cls ≠ "java/lang/invoke/VarHandle" ∧ (parseMethodDescriptor yX7_orders.desc).map (fun d => d.parameters.length) = some 1 := ⟨hqc_X7.1, hqc_X7.2, by decide +kernel⟩
theorem hq_X7_pair : yX7_pair.cls ≠ "java/lang/invoke/MethodHandle" ∧ yX7_pair.cls ≠ "java/lang/invoke/VarHandle" ∧ (parseMethodDescriptor yX7_pair.desc).map (fun d => d.parameters.length) = some 1 := ⟨hqc_X7.1, hqc_X7.2, by decide +kernel⟩
theorem hq_X7_person : yX7_person.cls ≠ "java/lang/invoke/MethodHandle" ∧ yX7_person.cls ≠ "java/lang/invoke/VarHandle" ∧ (parseMethodDescriptor yX7_person.desc).map (fun d => d.parameters.length) = some 1 := ⟨hqc_X7.1, hqc_X7.2, by decide +kernel⟩
theorem hq_X7_read : yX7_read.cls ≠ "java/lang/invoke/MethodHandle" ∧ yX7_read.cls ≠ "java/lang/invoke/VarHandle" ∧ (parseMethodDescriptor yX7_read.desc).map (fun d => d.parameters.length) = some 4 := ⟨hqc_X7.1, hqc_X7.2, by decide +kernel⟩
theorem hq_X7_rule : yX7_rule.cls ≠ "java/lang/invoke/MethodHandle" ∧ yX7_rule.cls ≠ "java/lang/invoke/VarHandle" ∧ (parseMethodDescriptor yX7_rule.desc).map (fun d => d.parameters.length) = some 1 := ⟨hqc_X7.1, hqc_X7.2, by decide +kernel⟩
theorem hq_X7_see : yX7_see.cls ≠ "java/lang/invoke/MethodHandle" ∧ yX7_see.cls ≠ "java/lang/invoke/VarHandle" ∧ (parseMethodDescriptor yX7_see.desc).map (fun d => d.parameters.length) = some 3 := ⟨hqc_X7.1, hqc_X7.2, by decide +kernel⟩
theorem hq_X7_set : yX7_set.cls ≠ "java/lang/invoke/MethodHandle" ∧ yX7_set.cls ≠ "java/lang/invoke/VarHandle" ∧ (parseMethodDescriptor yX7_set.desc).map (fun d => d.parameters.length) = some 2 := ⟨hqc_X7.1, hqc_X7.2, by decide +kernel⟩
theorem hq_X7_sheet : yX7_sheet.cls ≠ "java/lang/invoke/MethodHandle" ∧ yX7_sheet.cls ≠ "java/lang/invoke/VarHandle" ∧ (parseMethodDescriptor yX7_sheet.desc).map (fun d => d.parameters.length) = some 3 := ⟨hqc_X7.1, hqc_X7.2, by decide +kernel⟩
theorem hq_X7_sly : yX7_sly.cls ≠ "java/lang/invoke/MethodHandle" ∧ yX7_sly.cls ≠ "java/lang/invoke/VarHandle" ∧ (parseMethodDescriptor yX7_sly.desc).map (fun d => d.parameters.length) = some 3 := ⟨hqc_X7.1, hqc_X7.2, by decide +kernel⟩
theorem hq_X7_split : yX7_split.cls ≠ "java/lang/invoke/MethodHandle" ∧ yX7_split.cls ≠ "java/lang/invoke/VarHandle" ∧ (parseMethodDescriptor yX7_split.desc).map (fun d => d.parameters.length) = some 1 := ⟨hqc_X7.1, hqc_X7.2, by decide +kernel⟩
theorem hq_X7_stop : yX7_stop.cls ≠ "java/lang/invoke/MethodHandle" ∧ yX7_stop.cls ≠ "java/lang/invoke/VarHandle" ∧ (parseMethodDescriptor yX7_stop.desc).map (fun d => d.parameters.length) = some 2 := ⟨hqc_X7.1, hqc_X7.2, by decide +kernel⟩
theorem hq_X7_teach : yX7_teach.cls ≠ "java/lang/invoke/MethodHandle" ∧ yX7_teach.cls ≠ "java/lang/invoke/VarHandle" ∧ (parseMethodDescriptor yX7_teach.desc).map (fun d => d.parameters.length) = some 2 := ⟨hqc_X7.1, hqc_X7.2, by decide +kernel⟩
theorem hq_X7_text : yX7_text.cls ≠ "java/lang/invoke/MethodHandle" ∧ yX7_text.cls ≠ "java/lang/invoke/VarHandle" ∧ (parseMethodDescriptor yX7_text.desc).map (fun d => d.parameters.length) = some 0 := ⟨hqc_X7.1, hqc_X7.2, by decide +kernel⟩
theorem hq_X7_torn : yX7_torn.cls ≠ "java/lang/invoke/MethodHandle" ∧ yX7_torn.cls ≠ "java/lang/invoke/VarHandle" ∧ (parseMethodDescriptor yX7_torn.desc).map (fun d => d.parameters.length) = some 0 := ⟨hqc_X7.1, hqc_X7.2, by decide +kernel⟩
theorem hq_X7_weigh : yX7_weigh.cls ≠ "java/lang/invoke/MethodHandle" ∧ yX7_weigh.cls ≠ "java/lang/invoke/VarHandle" ∧ (parseMethodDescriptor yX7_weigh.desc).map (fun d => d.parameters.length) = some 2 := ⟨hqc_X7.1, hqc_X7.2, by decide +kernel⟩
theorem hq_X7_within : yX7_within.cls ≠ "java/lang/invoke/MethodHandle" ∧ yX7_within.cls ≠ "java/lang/invoke/VarHandle" ∧ (parseMethodDescriptor yX7_within.desc).map (fun d => d.parameters.length) = some 3 := ⟨hqc_X7.1, hqc_X7.2, by decide +kernel⟩
theorem hq_X7_worth : yX7_worth.cls ≠ "java/lang/invoke/MethodHandle" ∧ yX7_worth.cls ≠ "java/lang/invoke/VarHandle" ∧ (parseMethodDescriptor yX7_worth.desc).map (fun d => d.parameters.length) = some 2 := ⟨hqc_X7.1, hqc_X7.2, by decide +kernel⟩
theorem hq_X8_allWeights : yX8_allWeights.cls ≠ "java/lang/invoke/MethodHandle" ∧ yX8_allWeights.cls ≠ "java/lang/invoke/VarHandle" ∧ (parseMethodDescriptor yX8_allWeights.desc).map (fun d => d.parameters.length) = some 0 := ⟨hqc_X8.1, hqc_X8.2, by decide +kernel⟩
theorem hq_X8_appeal : yX8_appeal.cls ≠ "java/lang/invoke/MethodHandle" ∧ yX8_appeal.cls ≠ "java/lang/invoke/VarHandle" ∧ (parseMethodDescriptor yX8_appeal.desc).map (fun d => d.parameters.length) = some 0 := ⟨hqc_X8.1, hqc_X8.2, by decide +kernel⟩
theorem hq_X8_back : yX8_back.cls ≠ "java/lang/invoke/MethodHandle" ∧ yX8_back.cls ≠ "java/lang/invoke/VarHandle" ∧ (parseMethodDescriptor yX8_back.desc).map (fun d => d.parameters.length) = some 1 := ⟨hqc_X8.1, hqc_X8.2, by decide +kernel⟩
theorem hq_X8_becomes : yX8_becomes.cls ≠ "java/lang/invoke/MethodHandle" ∧ yX8_becomes.cls ≠ "java/lang/invoke/VarHandle" ∧ (parseMethodDescriptor yX8_becomes.desc).map (fun d => d.parameters.length) = some 2 := ⟨hqc_X8.1, hqc_X8.2, by decide +kernel⟩
theorem hq_X8_bitsOf : yX8_bitsOf.cls ≠ "java/lang/invoke/MethodHandle" ∧ yX8_bitsOf.cls ≠ "java/lang/invoke/VarHandle" ∧ (parseMethodDescriptor yX8_bitsOf.desc).map (fun d => d.parameters.length) = some 1 := ⟨hqc_X8.1, hqc_X8.2, by decide +kernel⟩
theorem hq_X8_byteAt : yX8_byteAt.cls ≠ "java/lang/invoke/MethodHandle" ∧ yX8_byteAt.cls ≠ "java/lang/invoke/VarHandle" ∧ (parseMethodDescriptor yX8_byteAt.desc).map (fun d => d.parameters.length) = some 1 := ⟨hqc_X8.1, hqc_X8.2, by decide +kernel⟩
theorem hq_X8_cell : yX8_cell.cls ≠ "java/lang/invoke/MethodHandle" ∧ yX8_cell.cls ≠ "java/lang/invoke/VarHandle" ∧ (parseMethodDescriptor yX8_cell.desc).map (fun d => d.parameters.length) = some 1 := ⟨hqc_X8.1, hqc_X8.2, by decide +kernel⟩
theorem hq_X8_chosen : yX8_chosen.cls ≠ "java/lang/invoke/MethodHandle" ∧ yX8_chosen.cls ≠ "java/lang/invoke/VarHandle" ∧ (parseMethodDescriptor yX8_chosen.desc).map (fun d => d.parameters.length) = some 3 := ⟨hqc_X8.1, hqc_X8.2, by decide +kernel⟩
theorem hq_X8_common : yX8_common.cls ≠ "java/lang/invoke/MethodHandle" ∧ yX8_common.cls ≠ "java/lang/invoke/VarHandle" ∧ (parseMethodDescriptor yX8_common.desc).map (fun d => d.parameters.length) = some 2 := ⟨hqc_X8.1, hqc_X8.2, by decide +kernel⟩
theorem hq_X8_copies : yX8_copies.cls ≠ "java/lang/invoke/MethodHandle" ∧ yX8_copies.cls ≠ "java/lang/invoke/VarHandle" ∧ (parseMethodDescriptor yX8_copies.desc).map (fun d => d.parameters.length) = some 2 := ⟨hqc_X8.1, hqc_X8.2, by decide +kernel⟩
theorem hq_X8_count : yX8_count.cls ≠ "java/lang/invoke/MethodHandle" ∧ yX8_count.cls ≠ "java/lang/invoke/VarHandle" ∧ (parseMethodDescriptor yX8_count.desc).map (fun d => d.parameters.length) = some 1 := ⟨hqc_X8.1, hqc_X8.2, by decide +kernel⟩
theorem hq_X8_cutsOf : yX8_cutsOf.cls ≠ "java/lang/invoke/MethodHandle" ∧ yX8_cutsOf.cls ≠ "java/lang/invoke/VarHandle" ∧ (parseMethodDescriptor yX8_cutsOf.desc).map (fun d => d.parameters.length) = some 1 := ⟨hqc_X8.1, hqc_X8.2, by decide +kernel⟩
theorem hq_X8_drift : yX8_drift.cls ≠ "java/lang/invoke/MethodHandle" ∧ yX8_drift.cls ≠ "java/lang/invoke/VarHandle" ∧ (parseMethodDescriptor yX8_drift.desc).map (fun d => d.parameters.length) = some 3 := ⟨hqc_X8.1, hqc_X8.2, by decide +kernel⟩
theorem hq_X8_end : yX8_end.cls ≠ "java/lang/invoke/MethodHandle" ∧ yX8_end.cls ≠ "java/lang/invoke/VarHandle" ∧ (parseMethodDescriptor yX8_end.desc).map (fun d => d.parameters.length) = some 1 := ⟨hqc_X8.1, hqc_X8.2, by decide +kernel⟩
theorem hq_X8_ends : yX8_ends.cls ≠ "java/lang/invoke/MethodHandle" ∧ yX8_ends.cls ≠ "java/lang/invoke/VarHandle" ∧ (parseMethodDescriptor yX8_ends.desc).map (fun d => d.parameters.length) = some 4 := ⟨hqc_X8.1, hqc_X8.2, by decide +kernel⟩
theorem hq_X8_every : yX8_every.cls ≠ "java/lang/invoke/MethodHandle" ∧ yX8_every.cls ≠ "java/lang/invoke/VarHandle" ∧ (parseMethodDescriptor yX8_every.desc).map (fun d => d.parameters.length) = some 0 := ⟨hqc_X8.1, hqc_X8.2, by decide +kernel⟩
theorem hq_X8_fault : yX8_fault.cls ≠ "java/lang/invoke/MethodHandle" ∧ yX8_fault.cls ≠ "java/lang/invoke/VarHandle" ∧ (parseMethodDescriptor yX8_fault.desc).map (fun d => d.parameters.length) = some 0 := ⟨hqc_X8.1, hqc_X8.2, by decide +kernel⟩
theorem hq_X8_feed : yX8_feed.cls ≠ "java/lang/invoke/MethodHandle" ∧ yX8_feed.cls ≠ "java/lang/invoke/VarHandle" ∧ (parseMethodDescriptor yX8_feed.desc).map (fun d => d.parameters.length) = some 1 := ⟨hqc_X8.1, hqc_X8.2, by decide +kernel⟩
theorem hq_X8_findCourt : yX8_findCourt.cls ≠ "java/lang/invoke/MethodHandle" ∧ yX8_findCourt.cls ≠ "java/lang/invoke/VarHandle" ∧ (parseMethodDescriptor yX8_findCourt.desc).map (fun d => d.parameters.length) = some 2 := ⟨hqc_X8.1, hqc_X8.2, by decide +kernel⟩
theorem hq_X8_findOf : yX8_findOf.cls ≠ "java/lang/invoke/MethodHandle" ∧ yX8_findOf.cls ≠ "java/lang/invoke/VarHandle" ∧ (parseMethodDescriptor yX8_findOf.desc).map (fun d => d.parameters.length) = some 2 := ⟨hqc_X8.1, hqc_X8.2, by decide +kernel⟩
theorem hq_X8_findOrders : yX8_findOrders.cls ≠ "java/lang/invoke/MethodHandle" ∧ yX8_findOrders.cls ≠ "java/lang/invoke/VarHandle" ∧ (parseMethodDescriptor yX8_findOrders.desc).map (fun d => d.parameters.length) = some 1 := ⟨hqc_X8.1, hqc_X8.2, by decide +kernel⟩
theorem hq_X8_finds : yX8_finds.cls ≠ "java/lang/invoke/MethodHandle" ∧ yX8_finds.cls ≠ "java/lang/invoke/VarHandle" ∧ (parseMethodDescriptor yX8_finds.desc).map (fun d => d.parameters.length) = some 2 := ⟨hqc_X8.1, hqc_X8.2, by decide +kernel⟩
theorem hq_X8_firstDraft : yX8_firstDraft.cls ≠ "java/lang/invoke/MethodHandle" ∧ yX8_firstDraft.cls ≠ "java/lang/invoke/VarHandle" ∧ (parseMethodDescriptor yX8_firstDraft.desc).map (fun d => d.parameters.length) = some 0 := ⟨hqc_X8.1, hqc_X8.2, by decide +kernel⟩
theorem hq_X8_fits : yX8_fits.cls ≠ "java/lang/invoke/MethodHandle" ∧ yX8_fits.cls ≠ "java/lang/invoke/VarHandle" ∧ (parseMethodDescriptor yX8_fits.desc).map (fun d => d.parameters.length) = some 1 := ⟨hqc_X8.1, hqc_X8.2, by decide +kernel⟩
theorem hq_X8_flag : yX8_flag.cls ≠ "java/lang/invoke/MethodHandle" ∧ yX8_flag.cls ≠ "java/lang/invoke/VarHandle" ∧ (parseMethodDescriptor yX8_flag.desc).map (fun d => d.parameters.length) = some 1 := ⟨hqc_X8.1, hqc_X8.2, by decide +kernel⟩
theorem hq_X8_forget : yX8_forget.cls ≠ "java/lang/invoke/MethodHandle" ∧ yX8_forget.cls ≠ "java/lang/invoke/VarHandle" ∧ (parseMethodDescriptor yX8_forget.desc).map (fun d => d.parameters.length) = some 1 := ⟨hqc_X8.1, hqc_X8.2, by decide +kernel⟩
theorem hq_X8_halves : yX8_halves.cls ≠ "java/lang/invoke/MethodHandle" ∧ yX8_halves.cls ≠ "java/lang/invoke/VarHandle" ∧ (parseMethodDescriptor yX8_halves.desc).map (fun d => d.parameters.length) = some 2 := ⟨hqc_X8.1, hqc_X8.2, by decide +kernel⟩
theorem hq_X8_honest : yX8_honest.cls ≠ "java/lang/invoke/MethodHandle" ∧ yX8_honest.cls ≠ "java/lang/invoke/VarHandle" ∧ (parseMethodDescriptor yX8_honest.desc).map (fun d => d.parameters.length) = some 1 := ⟨hqc_X8.1, hqc_X8.2, by decide +kernel⟩
theorem hq_X8_honestCut : yX8_honestCut.cls ≠ "java/lang/invoke/MethodHandle" ∧ yX8_honestCut.cls ≠ "java/lang/invoke/VarHandle" ∧ (parseMethodDescriptor yX8_honestCut.desc).map (fun d => d.parameters.length) = some 1 := ⟨hqc_X8.1, hqc_X8.2, by decide +kernel⟩
theorem hq_X8_in : yX8_in.cls ≠ "java/lang/invoke/MethodHandle" ∧ yX8_in.cls ≠ "java/lang/invoke/VarHandle" ∧ (parseMethodDescriptor yX8_in.desc).map (fun d => d.parameters.length) = some 3 := ⟨hqc_X8.1, hqc_X8.2, by decide +kernel⟩
theorem hq_X8_init : yX8_init.cls ≠ "java/lang/invoke/MethodHandle" ∧ yX8_init.cls ≠ "java/lang/invoke/VarHandle" ∧ (parseMethodDescriptor yX8_init.desc).map (fun d => d.parameters.length) = some 0 := ⟨hqc_X8.1, hqc_X8.2, by decide +kernel⟩
theorem hq_X8_is : yX8_is.cls ≠ "java/lang/invoke/MethodHandle" ∧ yX8_is.cls ≠ "java/lang/invoke/VarHandle" ∧ (parseMethodDescriptor yX8_is.desc).map (fun d => d.parameters.length) = some 4 := ⟨hqc_X8.1, hqc_X8.2, by decide +kernel⟩
theorem hq_X8_isCell : yX8_isCell.cls ≠ "java/lang/invoke/MethodHandle" ∧ yX8_isCell.cls ≠ "java/lang/invoke/VarHandle" ∧ (parseMethodDescriptor yX8_isCell.desc).map (fun d => d.parameters.length) = some 1 := ⟨hqc_X8.1, hqc_X8.2, by decide +kernel⟩
theorem hq_X8_isCut : yX8_isCut.cls ≠ "java/lang/invoke/MethodHandle" ∧ yX8_isCut.cls ≠ "java/lang/invoke/VarHandle" ∧ (parseMethodDescriptor yX8_isCut.desc).map (fun d => d.parameters.length) = some 1 := ⟨hqc_X8.1, hqc_X8.2, by decide +kernel⟩
theorem hq_X8_isOrder : yX8_isOrder.cls ≠ "java/lang/invoke/MethodHandle" ∧ yX8_isOrder.cls ≠ "java/lang/invoke/VarHandle" ∧ (parseMethodDescriptor yX8_isOrder.desc).map (fun d => d.parameters.length) = some 2 := ⟨hqc_X8.1, hqc_X8.2, by decide +kernel⟩
theorem hq_X8_isPart : yX8_isPart.cls ≠ "java/lang/invoke/MethodHandle" ∧ yX8_isPart.cls ≠ "java/lang/invoke/VarHandle" ∧ (parseMethodDescriptor yX8_isPart.desc).map (fun d => d.parameters.length) = some 1 := ⟨hqc_X8.1, hqc_X8.2, by decide +kernel⟩
theorem hq_X8_isPerson : yX8_isPerson.cls ≠ "java/lang/invoke/MethodHandle" ∧ yX8_isPerson.cls ≠ "java/lang/invoke/VarHandle" ∧ (parseMethodDescriptor yX8_isPerson.desc).map (fun d => d.parameters.length) = some 1 := ⟨hqc_X8.1, hqc_X8.2, by decide +kernel⟩
theorem hq_X8_isSheet : yX8_isSheet.cls ≠ "java/lang/invoke/MethodHandle" ∧ yX8_isSheet.cls ≠ "java/lang/invoke/VarHandle" ∧ (parseMethodDescriptor yX8_isSheet.desc).map (fun d => d.parameters.length) = some 2 := ⟨hqc_X8.1, hqc_X8.2, by decide +kernel⟩
theorem hq_X8_isSo : yX8_isSo.cls ≠ "java/lang/invoke/MethodHandle" ∧ yX8_isSo.cls ≠ "java/lang/invoke/VarHandle" ∧ (parseMethodDescriptor yX8_isSo.desc).map (fun d => d.parameters.length) = some 0 := ⟨hqc_X8.1, hqc_X8.2, by decide +kernel⟩
theorem hq_X8_isTold : yX8_isTold.cls ≠ "java/lang/invoke/MethodHandle" ∧ yX8_isTold.cls ≠ "java/lang/invoke/VarHandle" ∧ (parseMethodDescriptor yX8_isTold.desc).map (fun d => d.parameters.length) = some 1 := ⟨hqc_X8.1, hqc_X8.2, by decide +kernel⟩
theorem hq_X8_join : yX8_join.cls ≠ "java/lang/invoke/MethodHandle" ∧ yX8_join.cls ≠ "java/lang/invoke/VarHandle" ∧ (parseMethodDescriptor yX8_join.desc).map (fun d => d.parameters.length) = some 1 := ⟨hqc_X8.1, hqc_X8.2, by decide +kernel⟩
theorem hq_X8_just : yX8_just.cls ≠ "java/lang/invoke/MethodHandle" ∧ yX8_just.cls ≠ "java/lang/invoke/VarHandle" ∧ (parseMethodDescriptor yX8_just.desc).map (fun d => d.parameters.length) = some 1 := ⟨hqc_X8.1, hqc_X8.2, by decide +kernel⟩
theorem hq_X8_justTo : yX8_justTo.cls ≠ "java/lang/invoke/MethodHandle" ∧ yX8_justTo.cls ≠ "java/lang/invoke/VarHandle" ∧ (parseMethodDescriptor yX8_justTo.desc).map (fun d => d.parameters.length) = some 1 := ⟨hqc_X8.1, hqc_X8.2, by decide +kernel⟩
theorem hq_X8_keep : yX8_keep.cls ≠ "java/lang/invoke/MethodHandle" ∧ yX8_keep.cls ≠ "java/lang/invoke/VarHandle" ∧ (parseMethodDescriptor yX8_keep.desc).map (fun d => d.parameters.length) = some 1 := ⟨hqc_X8.1, hqc_X8.2, by decide +kernel⟩
theorem hq_X8_keepDraft : yX8_keepDraft.cls ≠ "java/lang/invoke/MethodHandle" ∧ yX8_keepDraft.cls ≠ "java/lang/invoke/VarHandle" ∧ (parseMethodDescriptor yX8_keepDraft.desc).map (fun d => d.parameters.length) = some 0 := ⟨hqc_X8.1, hqc_X8.2, by decide +kernel⟩
theorem hq_X8_kinds : yX8_kinds.cls ≠ "java/lang/invoke/MethodHandle" ∧ yX8_kinds.cls ≠ "java/lang/invoke/VarHandle" ∧ (parseMethodDescriptor yX8_kinds.desc).map (fun d => d.parameters.length) = some 1 := ⟨hqc_X8.1, hqc_X8.2, by decide +kernel⟩
theorem hq_X8_lay : yX8_lay.cls ≠ "java/lang/invoke/MethodHandle" ∧ yX8_lay.cls ≠ "java/lang/invoke/VarHandle" ∧ (parseMethodDescriptor yX8_lay.desc).map (fun d => d.parameters.length) = some 3 := ⟨hqc_X8.1, hqc_X8.2, by decide +kernel⟩
theorem hq_X8_leftOf : yX8_leftOf.cls ≠ "java/lang/invoke/MethodHandle" ∧ yX8_leftOf.cls ≠ "java/lang/invoke/VarHandle" ∧ (parseMethodDescriptor yX8_leftOf.desc).map (fun d => d.parameters.length) = some 1 := ⟨hqc_X8.1, hqc_X8.2, by decide +kernel⟩
theorem hq_X8_lighter : yX8_lighter.cls ≠ "java/lang/invoke/MethodHandle" ∧ yX8_lighter.cls ≠ "java/lang/invoke/VarHandle" ∧ (parseMethodDescriptor yX8_lighter.desc).map (fun d => d.parameters.length) = some 2 := ⟨hqc_X8.1, hqc_X8.2, by decide +kernel⟩
theorem hq_X8_lineNow : yX8_lineNow.cls ≠ "java/lang/invoke/MethodHandle" ∧ yX8_lineNow.cls ≠ "java/lang/invoke/VarHandle" ∧ (parseMethodDescriptor yX8_lineNow.desc).map (fun d => d.parameters.length) = some 0 := ⟨hqc_X8.1, hqc_X8.2, by decide +kernel⟩
theorem hq_X8_looked : yX8_looked.cls ≠ "java/lang/invoke/MethodHandle" ∧ yX8_looked.cls ≠ "java/lang/invoke/VarHandle" ∧ (parseMethodDescriptor yX8_looked.desc).map (fun d => d.parameters.length) = some 2 := ⟨hqc_X8.1, hqc_X8.2, by decide +kernel⟩
theorem hq_X8_luck : yX8_luck.cls ≠ "java/lang/invoke/MethodHandle" ∧ yX8_luck.cls ≠ "java/lang/invoke/VarHandle" ∧ (parseMethodDescriptor yX8_luck.desc).map (fun d => d.parameters.length) = some 3 := ⟨hqc_X8.1, hqc_X8.2, by decide +kernel⟩
theorem hq_X8_mean : yX8_mean.cls ≠ "java/lang/invoke/MethodHandle" ∧ yX8_mean.cls ≠ "java/lang/invoke/VarHandle" ∧ (parseMethodDescriptor yX8_mean.desc).map (fun d => d.parameters.length) = some 3 := ⟨hqc_X8.1, hqc_X8.2, by decide +kernel⟩
theorem hq_X8_middle : yX8_middle.cls ≠ "java/lang/invoke/MethodHandle" ∧ yX8_middle.cls ≠ "java/lang/invoke/VarHandle" ∧ (parseMethodDescriptor yX8_middle.desc).map (fun d => d.parameters.length) = some 1 := ⟨hqc_X8.1, hqc_X8.2, by decide +kernel⟩
theorem hq_X8_moreLeft : yX8_moreLeft.cls ≠ "java/lang/invoke/MethodHandle" ∧ yX8_moreLeft.cls ≠ "java/lang/invoke/VarHandle" ∧ (parseMethodDescriptor yX8_moreLeft.desc).map (fun d => d.parameters.length) = some 2 := ⟨hqc_X8.1, hqc_X8.2, by decide +kernel⟩
theorem hq_X8_needs : yX8_needs.cls ≠ "java/lang/invoke/MethodHandle" ∧ yX8_needs.cls ≠ "java/lang/invoke/VarHandle" ∧ (parseMethodDescriptor yX8_needs.desc).map (fun d => d.parameters.length) = some 2 := ⟨hqc_X8.1, hqc_X8.2, by decide +kernel⟩
theorem hq_X8_next : yX8_next.cls ≠ "java/lang/invoke/MethodHandle" ∧ yX8_next.cls ≠ "java/lang/invoke/VarHandle" ∧ (parseMethodDescriptor yX8_next.desc).map (fun d => d.parameters.length) = some 1 := ⟨hqc_X8.1, hqc_X8.2, by decide +kernel⟩
theorem hq_X8_orders : yX8_orders.cls ≠ "java/lang/invoke/MethodHandle" ∧ yX8_orders.cls ≠ "java/lang/invoke/VarHandle" ∧ (parseMethodDescriptor yX8_orders.desc).map (fun d => d.parameters.length) = some 1 := ⟨hqc_X8.1, hqc_X8.2, by decide +kernel⟩
theorem hq_X8_pair : yX8_pair.cls ≠ "java/lang/invoke/MethodHandle" ∧ yX8_pair.cls ≠ "java/lang/invoke/VarHandle" ∧ (parseMethodDescriptor yX8_pair.desc).map (fun d => d.parameters.length) = some 1 := ⟨hqc_X8.1, hqc_X8.2, by decide +kernel⟩
theorem hq_X8_person : yX8_person.cls ≠ "java/lang/invoke/MethodHandle" ∧ yX8_person.cls ≠ "java/lang/invoke/VarHandle" ∧ (parseMethodDescriptor yX8_person.desc).map (fun d => d.parameters.length) = some 1 := ⟨hqc_X8.1, hqc_X8.2, by decide +kernel⟩
theorem hq_X8_placeOf : yX8_placeOf.cls ≠ "java/lang/invoke/MethodHandle" ∧ yX8_placeOf.cls ≠ "java/lang/invoke/VarHandle" ∧ (parseMethodDescriptor yX8_placeOf.desc).map (fun d => d.parameters.length) = some 2 := ⟨hqc_X8.1, hqc_X8.2, by decide +kernel⟩
theorem hq_X8_power : yX8_power.cls ≠ "java/lang/invoke/MethodHandle" ∧ yX8_power.cls ≠ "java/lang/invoke/VarHandle" ∧ (parseMethodDescriptor yX8_power.desc).map (fun d => d.parameters.length) = some 2 := ⟨hqc_X8.1, hqc_X8.2, by decide +kernel⟩
theorem hq_X8_read : yX8_read.cls ≠ "java/lang/invoke/MethodHandle" ∧ yX8_read.cls ≠ "java/lang/invoke/VarHandle" ∧ (parseMethodDescriptor yX8_read.desc).map (fun d => d.parameters.length) = some 4 := ⟨hqc_X8.1, hqc_X8.2, by decide +kernel⟩
theorem hq_X8_readLighter : yX8_readLighter.cls ≠ "java/lang/invoke/MethodHandle" ∧ yX8_readLighter.cls ≠ "java/lang/invoke/VarHandle" ∧ (parseMethodDescriptor yX8_readLighter.desc).map (fun d => d.parameters.length) = some 0 := ⟨hqc_X8.1, hqc_X8.2, by decide +kernel⟩
theorem hq_X8_readLine : yX8_readLine.cls ≠ "java/lang/invoke/MethodHandle" ∧ yX8_readLine.cls ≠ "java/lang/invoke/VarHandle" ∧ (parseMethodDescriptor yX8_readLine.desc).map (fun d => d.parameters.length) = some 0 := ⟨hqc_X8.1, hqc_X8.2, by decide +kernel⟩
theorem hq_X8_readLineOf : yX8_readLineOf.cls ≠ "java/lang/invoke/MethodHandle" ∧ yX8_readLineOf.cls ≠ "java/lang/invoke/VarHandle" ∧ (parseMethodDescriptor yX8_readLineOf.desc).map (fun d => d.parameters.length) = some 1 := ⟨hqc_X8.1, hqc_X8.2, by decide +kernel⟩
theorem hq_X8_readNumber : yX8_readNumber.cls ≠ "java/lang/invoke/MethodHandle" ∧ yX8_readNumber.cls ≠ "java/lang/invoke/VarHandle" ∧ (parseMethodDescriptor yX8_readNumber.desc).map (fun d => d.parameters.length) = some 2 := ⟨hqc_X8.1, hqc_X8.2, by decide +kernel⟩
theorem hq_X8_readThing : yX8_readThing.cls ≠ "java/lang/invoke/MethodHandle" ∧ yX8_readThing.cls ≠ "java/lang/invoke/VarHandle" ∧ (parseMethodDescriptor yX8_readThing.desc).map (fun d => d.parameters.length) = some 0 := ⟨hqc_X8.1, hqc_X8.2, by decide +kernel⟩
theorem hq_X8_rule : yX8_rule.cls ≠ "java/lang/invoke/MethodHandle" ∧ yX8_rule.cls ≠ "java/lang/invoke/VarHandle" ∧ (parseMethodDescriptor yX8_rule.desc).map (fun d => d.parameters.length) = some 1 := ⟨hqc_X8.1, hqc_X8.2, by decide +kernel⟩
theorem hq_X8_see : yX8_see.cls ≠ "java/lang/invoke/MethodHandle" ∧ yX8_see.cls ≠ "java/lang/invoke/VarHandle" ∧ (parseMethodDescriptor yX8_see.desc).map (fun d => d.parameters.length) = some 3 := ⟨hqc_X8.1, hqc_X8.2, by decide +kernel⟩
theorem hq_X8_set : yX8_set.cls ≠ "java/lang/invoke/MethodHandle" ∧ yX8_set.cls ≠ "java/lang/invoke/VarHandle" ∧ (parseMethodDescriptor yX8_set.desc).map (fun d => d.parameters.length) = some 2 := ⟨hqc_X8.1, hqc_X8.2, by decide +kernel⟩
theorem hq_X8_sheet : yX8_sheet.cls ≠ "java/lang/invoke/MethodHandle" ∧ yX8_sheet.cls ≠ "java/lang/invoke/VarHandle" ∧ (parseMethodDescriptor yX8_sheet.desc).map (fun d => d.parameters.length) = some 3 := ⟨hqc_X8.1, hqc_X8.2, by decide +kernel⟩
theorem hq_X8_sizeOf : yX8_sizeOf.cls ≠ "java/lang/invoke/MethodHandle" ∧ yX8_sizeOf.cls ≠ "java/lang/invoke/VarHandle" ∧ (parseMethodDescriptor yX8_sizeOf.desc).map (fun d => d.parameters.length) = some 1 := ⟨hqc_X8.1, hqc_X8.2, by decide +kernel⟩
theorem hq_X8_sly : yX8_sly.cls ≠ "java/lang/invoke/MethodHandle" ∧ yX8_sly.cls ≠ "java/lang/invoke/VarHandle" ∧ (parseMethodDescriptor yX8_sly.desc).map (fun d => d.parameters.length) = some 3 := ⟨hqc_X8.1, hqc_X8.2, by decide +kernel⟩
theorem hq_X8_split : yX8_split.cls ≠ "java/lang/invoke/MethodHandle" ∧ yX8_split.cls ≠ "java/lang/invoke/VarHandle" ∧ (parseMethodDescriptor yX8_split.desc).map (fun d => d.parameters.length) = some 1 := ⟨hqc_X8.1, hqc_X8.2, by decide +kernel⟩
theorem hq_X8_starts : yX8_starts.cls ≠ "java/lang/invoke/MethodHandle" ∧ yX8_starts.cls ≠ "java/lang/invoke/VarHandle" ∧ (parseMethodDescriptor yX8_starts.desc).map (fun d => d.parameters.length) = some 0 := ⟨hqc_X8.1, hqc_X8.2, by decide +kernel⟩
theorem hq_X8_stop : yX8_stop.cls ≠ "java/lang/invoke/MethodHandle" ∧ yX8_stop.cls ≠ "java/lang/invoke/VarHandle" ∧ (parseMethodDescriptor yX8_stop.desc).map (fun d => d.parameters.length) = some 2 := ⟨hqc_X8.1, hqc_X8.2, by decide +kernel⟩
theorem hq_X8_takenBy : yX8_takenBy.cls ≠ "java/lang/invoke/MethodHandle" ∧ yX8_takenBy.cls ≠ "java/lang/invoke/VarHandle" ∧ (parseMethodDescriptor yX8_takenBy.desc).map (fun d => d.parameters.length) = some 2 := ⟨hqc_X8.1, hqc_X8.2, by decide +kernel⟩
theorem hq_X8_takes : yX8_takes.cls ≠ "java/lang/invoke/MethodHandle" ∧ yX8_takes.cls ≠ "java/lang/invoke/VarHandle" ∧ (parseMethodDescriptor yX8_takes.desc).map (fun d => d.parameters.length) = some 0 := ⟨hqc_X8.1, hqc_X8.2, by decide +kernel⟩
theorem hq_X8_teach : yX8_teach.cls ≠ "java/lang/invoke/MethodHandle" ∧ yX8_teach.cls ≠ "java/lang/invoke/VarHandle" ∧ (parseMethodDescriptor yX8_teach.desc).map (fun d => d.parameters.length) = some 2 := ⟨hqc_X8.1, hqc_X8.2, by decide +kernel⟩
theorem hq_X8_text : yX8_text.cls ≠ "java/lang/invoke/MethodHandle" ∧ yX8_text.cls ≠ "java/lang/invoke/VarHandle" ∧ (parseMethodDescriptor yX8_text.desc).map (fun d => d.parameters.length) = some 0 := ⟨hqc_X8.1, hqc_X8.2, by decide +kernel⟩
theorem hq_X8_told : yX8_told.cls ≠ "java/lang/invoke/MethodHandle" ∧ yX8_told.cls ≠ "java/lang/invoke/VarHandle" ∧ (parseMethodDescriptor yX8_told.desc).map (fun d => d.parameters.length) = some 3 := ⟨hqc_X8.1, hqc_X8.2, by decide +kernel⟩
theorem hq_X8_torn : yX8_torn.cls ≠ "java/lang/invoke/MethodHandle" ∧ yX8_torn.cls ≠ "java/lang/invoke/VarHandle" ∧ (parseMethodDescriptor yX8_torn.desc).map (fun d => d.parameters.length) = some 0 := ⟨hqc_X8.1, hqc_X8.2, by decide +kernel⟩
theorem hq_X8_weigh : yX8_weigh.cls ≠ "java/lang/invoke/MethodHandle" ∧ yX8_weigh.cls ≠ "java/lang/invoke/VarHandle" ∧ (parseMethodDescriptor yX8_weigh.desc).map (fun d => d.parameters.length) = some 2 := ⟨hqc_X8.1, hqc_X8.2, by decide +kernel⟩
theorem hq_X8_worth : yX8_worth.cls ≠ "java/lang/invoke/MethodHandle" ∧ yX8_worth.cls ≠ "java/lang/invoke/VarHandle" ∧ (parseMethodDescriptor yX8_worth.desc).map (fun d => d.parameters.length) = some 2 := ⟨hqc_X8.1, hqc_X8.2, by decide +kernel⟩
theorem hq_X8_worthOf : yX8_worthOf.cls ≠ "java/lang/invoke/MethodHandle" ∧ yX8_worthOf.cls ≠ "java/lang/invoke/VarHandle" ∧ (parseMethodDescriptor yX8_worthOf.desc).map (fun d => d.parameters.length) = some 2 := ⟨hqc_X8.1, hqc_X8.2, by decide +kernel⟩
theorem hq_X8_worthOfAll : yX8_worthOfAll.cls ≠ "java/lang/invoke/MethodHandle" ∧ yX8_worthOfAll.cls ≠ "java/lang/invoke/VarHandle" ∧ (parseMethodDescriptor yX8_worthOfAll.desc).map (fun d => d.parameters.length) = some 2 := ⟨hqc_X8.1, hqc_X8.2, by decide +kernel⟩
theorem hki_m1 : Int32.ofInt (-1) = (-1) := by decide
theorem hki_0 : Int32.ofInt 0 = 0 := by decide
theorem hki_1 : Int32.ofInt 1 = 1 := by decide
theorem hki_2 : Int32.ofInt 2 = 2 := by decide
theorem hki_3 : Int32.ofInt 3 = 3 := by decide
theorem hki_4 : Int32.ofInt 4 = 4 := by decide
theorem hki_5 : Int32.ofInt 5 = 5 := by decide
theorem hkb_m20 : (Int8.ofInt (-20)).toInt32 = (-20) := by decide
theorem hkb_m14 : (Int8.ofInt (-14)).toInt32 = (-14) := by decide
theorem hkb_m12 : (Int8.ofInt (-12)).toInt32 = (-12) := by decide
theorem hkb_m11 : (Int8.ofInt (-11)).toInt32 = (-11) := by decide
theorem hkb_m10 : (Int8.ofInt (-10)).toInt32 = (-10) := by decide
theorem hkb_m4 : (Int8.ofInt (-4)).toInt32 = (-4) := by decide
theorem hkb_m3 : (Int8.ofInt (-3)).toInt32 = (-3) := by decide
theorem hkb_m2 : (Int8.ofInt (-2)).toInt32 = (-2) := by decide
theorem hkb_6 : (Int8.ofInt 6).toInt32 = 6 := by decide
theorem hkb_7 : (Int8.ofInt 7).toInt32 = 7 := by decide
theorem hkb_8 : (Int8.ofInt 8).toInt32 = 8 := by decide
theorem hkb_9 : (Int8.ofInt 9).toInt32 = 9 := by decide
theorem hkb_10 : (Int8.ofInt 10).toInt32 = 10 := by decide
theorem hkb_13 : (Int8.ofInt 13).toInt32 = 13 := by decide
theorem hkb_14 : (Int8.ofInt 14).toInt32 = 14 := by decide
theorem hkb_15 : (Int8.ofInt 15).toInt32 = 15 := by decide
theorem hkb_16 : (Int8.ofInt 16).toInt32 = 16 := by decide
theorem hkb_17 : (Int8.ofInt 17).toInt32 = 17 := by decide
theorem hkb_20 : (Int8.ofInt 20).toInt32 = 20 := by decide
theorem hkb_25 : (Int8.ofInt 25).toInt32 = 25 := by decide
theorem hkb_26 : (Int8.ofInt 26).toInt32 = 26 := by decide
theorem hkb_32 : (Int8.ofInt 32).toInt32 = 32 := by decide
theorem hkb_40 : (Int8.ofInt 40).toInt32 = 40 := by decide
theorem hkb_44 : (Int8.ofInt 44).toInt32 = 44 := by decide
theorem hkb_48 : (Int8.ofInt 48).toInt32 = 48 := by decide
theorem hkb_57 : (Int8.ofInt 57).toInt32 = 57 := by decide
theorem hkb_59 : (Int8.ofInt 59).toInt32 = 59 := by decide
theorem hkb_60 : (Int8.ofInt 60).toInt32 = 60 := by decide
theorem hkb_63 : (Int8.ofInt 63).toInt32 = 63 := by decide
theorem hkb_97 : (Int8.ofInt 97).toInt32 = 97 := by decide
theorem hkb_99 : (Int8.ofInt 99).toInt32 = 99 := by decide
theorem hkb_100 : (Int8.ofInt 100).toInt32 = 100 := by decide
theorem hkb_101 : (Int8.ofInt 101).toInt32 = 101 := by decide
theorem hkb_102 : (Int8.ofInt 102).toInt32 = 102 := by decide
theorem hkb_103 : (Int8.ofInt 103).toInt32 = 103 := by decide
theorem hkb_104 : (Int8.ofInt 104).toInt32 = 104 := by decide
theorem hkb_105 : (Int8.ofInt 105).toInt32 = 105 := by decide
theorem hkb_108 : (Int8.ofInt 108).toInt32 = 108 := by decide
theorem hkb_110 : (Int8.ofInt 110).toInt32 = 110 := by decide
theorem hkb_112 : (Int8.ofInt 112).toInt32 = 112 := by decide
theorem hkb_114 : (Int8.ofInt 114).toInt32 = 114 := by decide
theorem hkb_115 : (Int8.ofInt 115).toInt32 = 115 := by decide
theorem hkb_116 : (Int8.ofInt 116).toInt32 = 116 := by decide
theorem hkb_119 : (Int8.ofInt 119).toInt32 = 119 := by decide
theorem hkb_122 : (Int8.ofInt 122).toInt32 = 122 := by decide
theorem hkb_127 : (Int8.ofInt 127).toInt32 = 127 := by decide
theorem hkp_132 : (Int16.ofInt 132).toInt32 = 132 := by decide
theorem hkp_160 : (Int16.ofInt 160).toInt32 = 160 := by decide
theorem hkp_255 : (Int16.ofInt 255).toInt32 = 255 := by decide
theorem hkp_12345 : (Int16.ofInt 12345).toInt32 = 12345 := by decide
theorem hkp_32767 : (Int16.ofInt 32767).toInt32 = 32767 := by decide
