-- decode rows: the bytes of a method in chunks, a rule for each opcode
/-- the byte at place p is b -/
def hs_b (c : ByteArray) (p b : Nat) : Prop := Reader.runAt (Reader.u1 : Decoder Nat) c p = .ok (b, p + 1)
theorem hs_b_of {c : ByteArray} {p b : Nat} (h : p < c.size) (e : c[p].toNat = b) : hs_b c p b := by
  show (dite (p < c.size) (fun h => (do set (p + 1); pure c[p].toNat : Decoder Nat)) (fun _ => throw (HasTruncated.truncated p)) : Decoder Nat) c p = _
  rw [dif_pos h, ← e]
  rfl
theorem dr_bind {α β : Type} (r : Decoder α) (k : α → Decoder β) {c : ByteArray} {p q : Nat} {a : α} (h : Reader.runAt r c p = .ok (a, q)) : Reader.runAt (r >>= k) c p = Reader.runAt (k a) c q := by
  show Except.bind (Reader.runAt r c p) (fun x => Reader.runAt (k x.1) c x.2) = _
  rw [h]
  rfl
theorem dr_map {α β : Type} (r : Decoder α) (g : α → β) {c : ByteArray} {p q : Nat} {a : α} (h : Reader.runAt r c p = .ok (a, q)) : Reader.runAt (g <$> r) c p = .ok (g a, q) := by
  show Except.bind (Reader.runAt r c p) (fun x => Except.ok (g x.1, x.2)) = _
  rw [h]
  rfl
theorem dr_u2 {c : ByteArray} {p x y : Nat} (h1 : hs_b c p x) (h2 : hs_b c (p + 1) y) : Reader.runAt (Reader.u2 : Decoder Nat) c p = .ok (x * 256 + y, p + 2) := by
  show Reader.runAt ((Reader.u1 : Decoder Nat) >>= fun hi => (Reader.u1 : Decoder Nat) >>= fun lo => pure (hi * 256 + lo)) c p = _
  rw [dr_bind _ _ h1, dr_bind _ _ h2]
  rfl
theorem dr_s1 {c : ByteArray} {p x : Nat} (h1 : hs_b c p x) : Reader.runAt (Reader.s1 : Decoder Int) c p = .ok (Reader.signed 8 x, p + 1) := dr_map (Reader.u1 : Decoder Nat) (Reader.signed 8) h1
theorem dr_s2 {c : ByteArray} {p x y : Nat} (h1 : hs_b c p x) (h2 : hs_b c (p + 1) y) : Reader.runAt (Reader.s2 : Decoder Int) c p = .ok (Reader.signed 16 (x * 256 + y), p + 2) := dr_map (Reader.u2 : Decoder Nat) (Reader.signed 16) (dr_u2 h1 h2)
theorem dr_dec {c : ByteArray} {p n : Nat} {i : Instr} (h : Reader.runAt (Decoder.instr p) c p = .ok (i, p + n)) : decode c p = .ok (i, n) := by
  show Except.bind (Reader.runAt (Decoder.instr p) c p) (fun x => Except.ok (x.1, x.2 - p)) = _
  rw [h]
  show Except.ok (i, p + n - p) = _
  rw [Nat.add_sub_cancel_left]
/-- a chunk of bytes: L stands at place o -/
def hs_bs (c : ByteArray) (o : Nat) (L : List Nat) : Prop := ∀ (i b : Nat), L[i]? = some b → hs_b c (o + i) b
def hs_chk : List UInt8 → List Nat → Bool
  | _, [] => true
  | [], _ :: _ => false
  | x :: r, b :: L => (x.toNat == b) && hs_chk r L
theorem hs_chk_at : ∀ (l : List UInt8) (L : List Nat), hs_chk l L = true → ∀ (i b : Nat), L[i]? = some b → ∃ x : UInt8, l[i]? = some x ∧ x.toNat = b
  | _, [], _, i, b, e => by cases i <;> cases e
  | [], _ :: _, h, _, _, _ => by cases h
  | x :: r, b0 :: L, h, i, b, e => by
    have h' : ((x.toNat == b0) && hs_chk r L) = true := h
    rw [Bool.and_eq_true, beq_iff_eq] at h'
    cases i with
    | zero =>
      have e' : some b0 = some b := e
      exact ⟨x, rfl, h'.1.trans (Option.some.inj e')⟩
    | succ j => exact hs_chk_at r L h'.2 j b e
theorem hs_bs_of (c : ByteArray) (o : Nat) (L : List Nat) (h : hs_chk (c.data.toList.drop o) L = true) : hs_bs c o L := by
  intro i b e
  obtain ⟨x, hx, hb⟩ := hs_chk_at _ _ h i b e
  rw [List.getElem?_drop] at hx
  obtain ⟨hl, hv⟩ := List.getElem?_eq_some_iff.mp hx
  have hs : o + i < c.size := hl
  refine hs_b_of hs ?_
  rw [← hb, ← hv]
  rfl
theorem hs_d0 {c : ByteArray} {o : Nat} {L r : List Nat} (H : hs_bs c o L) {i a p : Nat} (e : L.drop i = a :: r) (hp : o + i = p) : hs_b c p a := by
  rw [← hp]
  refine H i a ?_
  have h : (L.drop i)[0]? = some a := by rw [e]; rfl
  rwa [List.getElem?_drop] at h
theorem hs_d1 {c : ByteArray} {o : Nat} {L r : List Nat} (H : hs_bs c o L) {i a x p : Nat} (e : L.drop i = a :: x :: r) (hp : o + i = p) : hs_b c (p + 1) x := by
  rw [← hp, Nat.add_assoc]
  refine H (i + 1) x ?_
  have h : (L.drop i)[1]? = some x := by rw [e]; rfl
  rwa [List.getElem?_drop] at h
theorem hs_d2 {c : ByteArray} {o : Nat} {L r : List Nat} (H : hs_bs c o L) {i a x y p : Nat} (e : L.drop i = a :: x :: y :: r) (hp : o + i = p) : hs_b c (p + 1 + 1) y := by
  rw [← hp, Nat.add_assoc, Nat.add_assoc]
  refine H (i + 2) y ?_
  have h : (L.drop i)[2]? = some y := by rw [e]; rfl
  rwa [List.getElem?_drop] at h
section
variable {c : ByteArray} {o p i b : Nat} {L r : List Nat}
theorem dc_z {ins : Instr} (t : ∃ f : Nat → Decoder Instr, Decoder.instr p = ((Reader.u1 : Decoder Nat) >>= f) ∧ f b = Pure.pure ins) (H : hs_bs c o L) (e : L.drop i = b :: r) (hp : o + i = p) : decode c p = .ok (ins, 1) := by
  obtain ⟨f, e1, e2⟩ := t
  refine dr_dec ?_
  rw [e1, dr_bind _ _ (hs_d0 H e hp), e2]
  rfl
theorem dc_u1 {g : Nat → Instr} {x : Nat} (t : ∃ f : Nat → Decoder Instr, Decoder.instr p = ((Reader.u1 : Decoder Nat) >>= f) ∧ f b = ((Reader.u1 : Decoder Nat) >>= fun x => Pure.pure (g x))) (H : hs_bs c o L) (e : L.drop i = b :: x :: r) (hp : o + i = p) : decode c p = .ok (g x, 2) := by
  obtain ⟨f, e1, e2⟩ := t
  refine dr_dec ?_
  rw [e1, dr_bind _ _ (hs_d0 H e hp), e2, dr_bind _ _ (hs_d1 H e hp)]
  rfl
theorem dc_s1 {g : Int → Instr} {x : Nat} {v : Int} (t : ∃ f : Nat → Decoder Instr, Decoder.instr p = ((Reader.u1 : Decoder Nat) >>= f) ∧ f b = ((Reader.s1 : Decoder Int) >>= fun x => Pure.pure (g x))) (H : hs_bs c o L) (e : L.drop i = b :: x :: r) (hp : o + i = p) (hv : Reader.signed 8 x = v) : decode c p = .ok (g v, 2) := by
  obtain ⟨f, e1, e2⟩ := t
  refine dr_dec ?_
  rw [e1, dr_bind _ _ (hs_d0 H e hp), e2, dr_bind _ _ (dr_s1 (hs_d1 H e hp)), hv]
  rfl
theorem dc_u2 {g : Nat → Instr} {x y v : Nat} (t : ∃ f : Nat → Decoder Instr, Decoder.instr p = ((Reader.u1 : Decoder Nat) >>= f) ∧ f b = ((Reader.u2 : Decoder Nat) >>= fun x => Pure.pure (g x))) (H : hs_bs c o L) (e : L.drop i = b :: x :: y :: r) (hp : o + i = p) (hv : x * 256 + y = v) : decode c p = .ok (g v, 3) := by
  obtain ⟨f, e1, e2⟩ := t
  refine dr_dec ?_
  rw [e1, dr_bind _ _ (hs_d0 H e hp), e2, dr_bind _ _ (dr_u2 (hs_d1 H e hp) (hs_d2 H e hp)), hv]
  rfl
theorem dc_s2 {g : Int → Instr} {x y : Nat} {v : Int} (t : ∃ f : Nat → Decoder Instr, Decoder.instr p = ((Reader.u1 : Decoder Nat) >>= f) ∧ f b = ((Reader.s2 : Decoder Int) >>= fun x => Pure.pure (g x))) (H : hs_bs c o L) (e : L.drop i = b :: x :: y :: r) (hp : o + i = p) (hv : Reader.signed 16 (x * 256 + y) = v) : decode c p = .ok (g v, 3) := by
  obtain ⟨f, e1, e2⟩ := t
  refine dr_dec ?_
  rw [e1, dr_bind _ _ (hs_d0 H e hp), e2, dr_bind _ _ (dr_s2 (hs_d1 H e hp) (hs_d2 H e hp)), hv]
  rfl
theorem dc_ii {g : Nat → Int → Instr} {x y : Nat} {v : Int} (t : ∃ f : Nat → Decoder Instr, Decoder.instr p = ((Reader.u1 : Decoder Nat) >>= f) ∧ f b = ((Reader.u1 : Decoder Nat) >>= fun x => (Reader.s1 : Decoder Int) >>= fun y => Pure.pure (g x y))) (H : hs_bs c o L) (e : L.drop i = b :: x :: y :: r) (hp : o + i = p) (hv : Reader.signed 8 y = v) : decode c p = .ok (g x v, 3) := by
  obtain ⟨f, e1, e2⟩ := t
  refine dr_dec ?_
  rw [e1, dr_bind _ _ (hs_d0 H e hp), e2, dr_bind _ _ (hs_d1 H e hp), dr_bind _ _ (dr_s1 (hs_d2 H e hp)), hv]
  rfl

theorem dc2 (H : hs_bs c o L) (i : Nat) (e : L.drop i = 2 :: r) (hp : o + i = p) : decode c p = .ok (.iconst (-1), 1) := dc_z ⟨_, rfl, rfl⟩ H e hp
theorem dc3 (H : hs_bs c o L) (i : Nat) (e : L.drop i = 3 :: r) (hp : o + i = p) : decode c p = .ok (.iconst 0, 1) := dc_z ⟨_, rfl, rfl⟩ H e hp
theorem dc4 (H : hs_bs c o L) (i : Nat) (e : L.drop i = 4 :: r) (hp : o + i = p) : decode c p = .ok (.iconst 1, 1) := dc_z ⟨_, rfl, rfl⟩ H e hp
theorem dc5 (H : hs_bs c o L) (i : Nat) (e : L.drop i = 5 :: r) (hp : o + i = p) : decode c p = .ok (.iconst 2, 1) := dc_z ⟨_, rfl, rfl⟩ H e hp
theorem dc6 (H : hs_bs c o L) (i : Nat) (e : L.drop i = 6 :: r) (hp : o + i = p) : decode c p = .ok (.iconst 3, 1) := dc_z ⟨_, rfl, rfl⟩ H e hp
theorem dc7 (H : hs_bs c o L) (i : Nat) (e : L.drop i = 7 :: r) (hp : o + i = p) : decode c p = .ok (.iconst 4, 1) := dc_z ⟨_, rfl, rfl⟩ H e hp
theorem dc8 (H : hs_bs c o L) (i : Nat) (e : L.drop i = 8 :: r) (hp : o + i = p) : decode c p = .ok (.iconst 5, 1) := dc_z ⟨_, rfl, rfl⟩ H e hp
theorem dc9 (H : hs_bs c o L) (i : Nat) (e : L.drop i = 9 :: r) (hp : o + i = p) : decode c p = .ok (.lconst 0, 1) := dc_z ⟨_, rfl, rfl⟩ H e hp
theorem dc10 (H : hs_bs c o L) (i : Nat) (e : L.drop i = 10 :: r) (hp : o + i = p) : decode c p = .ok (.lconst 1, 1) := dc_z ⟨_, rfl, rfl⟩ H e hp
theorem dc26 (H : hs_bs c o L) (i : Nat) (e : L.drop i = 26 :: r) (hp : o + i = p) : decode c p = .ok (.iload_n 0, 1) := dc_z ⟨_, rfl, rfl⟩ H e hp
theorem dc27 (H : hs_bs c o L) (i : Nat) (e : L.drop i = 27 :: r) (hp : o + i = p) : decode c p = .ok (.iload_n 1, 1) := dc_z ⟨_, rfl, rfl⟩ H e hp
theorem dc28 (H : hs_bs c o L) (i : Nat) (e : L.drop i = 28 :: r) (hp : o + i = p) : decode c p = .ok (.iload_n 2, 1) := dc_z ⟨_, rfl, rfl⟩ H e hp
theorem dc29 (H : hs_bs c o L) (i : Nat) (e : L.drop i = 29 :: r) (hp : o + i = p) : decode c p = .ok (.iload_n 3, 1) := dc_z ⟨_, rfl, rfl⟩ H e hp
theorem dc30 (H : hs_bs c o L) (i : Nat) (e : L.drop i = 30 :: r) (hp : o + i = p) : decode c p = .ok (.lload_n 0, 1) := dc_z ⟨_, rfl, rfl⟩ H e hp
theorem dc32 (H : hs_bs c o L) (i : Nat) (e : L.drop i = 32 :: r) (hp : o + i = p) : decode c p = .ok (.lload_n 2, 1) := dc_z ⟨_, rfl, rfl⟩ H e hp
theorem dc42 (H : hs_bs c o L) (i : Nat) (e : L.drop i = 42 :: r) (hp : o + i = p) : decode c p = .ok (.aload_n 0, 1) := dc_z ⟨_, rfl, rfl⟩ H e hp
theorem dc43 (H : hs_bs c o L) (i : Nat) (e : L.drop i = 43 :: r) (hp : o + i = p) : decode c p = .ok (.aload_n 1, 1) := dc_z ⟨_, rfl, rfl⟩ H e hp
theorem dc44 (H : hs_bs c o L) (i : Nat) (e : L.drop i = 44 :: r) (hp : o + i = p) : decode c p = .ok (.aload_n 2, 1) := dc_z ⟨_, rfl, rfl⟩ H e hp
theorem dc59 (H : hs_bs c o L) (i : Nat) (e : L.drop i = 59 :: r) (hp : o + i = p) : decode c p = .ok (.istore_n 0, 1) := dc_z ⟨_, rfl, rfl⟩ H e hp
theorem dc60 (H : hs_bs c o L) (i : Nat) (e : L.drop i = 60 :: r) (hp : o + i = p) : decode c p = .ok (.istore_n 1, 1) := dc_z ⟨_, rfl, rfl⟩ H e hp
theorem dc61 (H : hs_bs c o L) (i : Nat) (e : L.drop i = 61 :: r) (hp : o + i = p) : decode c p = .ok (.istore_n 2, 1) := dc_z ⟨_, rfl, rfl⟩ H e hp
theorem dc62 (H : hs_bs c o L) (i : Nat) (e : L.drop i = 62 :: r) (hp : o + i = p) : decode c p = .ok (.istore_n 3, 1) := dc_z ⟨_, rfl, rfl⟩ H e hp
theorem dc76 (H : hs_bs c o L) (i : Nat) (e : L.drop i = 76 :: r) (hp : o + i = p) : decode c p = .ok (.astore_n 1, 1) := dc_z ⟨_, rfl, rfl⟩ H e hp
theorem dc77 (H : hs_bs c o L) (i : Nat) (e : L.drop i = 77 :: r) (hp : o + i = p) : decode c p = .ok (.astore_n 2, 1) := dc_z ⟨_, rfl, rfl⟩ H e hp
theorem dc46 (H : hs_bs c o L) (i : Nat) (e : L.drop i = 46 :: r) (hp : o + i = p) : decode c p = .ok (.iaload, 1) := dc_z ⟨_, rfl, rfl⟩ H e hp
theorem dc47 (H : hs_bs c o L) (i : Nat) (e : L.drop i = 47 :: r) (hp : o + i = p) : decode c p = .ok (.laload, 1) := dc_z ⟨_, rfl, rfl⟩ H e hp
theorem dc50 (H : hs_bs c o L) (i : Nat) (e : L.drop i = 50 :: r) (hp : o + i = p) : decode c p = .ok (.aaload, 1) := dc_z ⟨_, rfl, rfl⟩ H e hp
theorem dc51 (H : hs_bs c o L) (i : Nat) (e : L.drop i = 51 :: r) (hp : o + i = p) : decode c p = .ok (.baload, 1) := dc_z ⟨_, rfl, rfl⟩ H e hp
theorem dc79 (H : hs_bs c o L) (i : Nat) (e : L.drop i = 79 :: r) (hp : o + i = p) : decode c p = .ok (.iastore, 1) := dc_z ⟨_, rfl, rfl⟩ H e hp
theorem dc80 (H : hs_bs c o L) (i : Nat) (e : L.drop i = 80 :: r) (hp : o + i = p) : decode c p = .ok (.lastore, 1) := dc_z ⟨_, rfl, rfl⟩ H e hp
theorem dc83 (H : hs_bs c o L) (i : Nat) (e : L.drop i = 83 :: r) (hp : o + i = p) : decode c p = .ok (.aastore, 1) := dc_z ⟨_, rfl, rfl⟩ H e hp
theorem dc84 (H : hs_bs c o L) (i : Nat) (e : L.drop i = 84 :: r) (hp : o + i = p) : decode c p = .ok (.bastore, 1) := dc_z ⟨_, rfl, rfl⟩ H e hp
theorem dc87 (H : hs_bs c o L) (i : Nat) (e : L.drop i = 87 :: r) (hp : o + i = p) : decode c p = .ok (.pop, 1) := dc_z ⟨_, rfl, rfl⟩ H e hp
theorem dc88 (H : hs_bs c o L) (i : Nat) (e : L.drop i = 88 :: r) (hp : o + i = p) : decode c p = .ok (.pop2, 1) := dc_z ⟨_, rfl, rfl⟩ H e hp
theorem dc89 (H : hs_bs c o L) (i : Nat) (e : L.drop i = 89 :: r) (hp : o + i = p) : decode c p = .ok (.dup, 1) := dc_z ⟨_, rfl, rfl⟩ H e hp
theorem dc92 (H : hs_bs c o L) (i : Nat) (e : L.drop i = 92 :: r) (hp : o + i = p) : decode c p = .ok (.dup2, 1) := dc_z ⟨_, rfl, rfl⟩ H e hp
theorem dc96 (H : hs_bs c o L) (i : Nat) (e : L.drop i = 96 :: r) (hp : o + i = p) : decode c p = .ok (.iadd, 1) := dc_z ⟨_, rfl, rfl⟩ H e hp
theorem dc97 (H : hs_bs c o L) (i : Nat) (e : L.drop i = 97 :: r) (hp : o + i = p) : decode c p = .ok (.ladd, 1) := dc_z ⟨_, rfl, rfl⟩ H e hp
theorem dc100 (H : hs_bs c o L) (i : Nat) (e : L.drop i = 100 :: r) (hp : o + i = p) : decode c p = .ok (.isub, 1) := dc_z ⟨_, rfl, rfl⟩ H e hp
theorem dc104 (H : hs_bs c o L) (i : Nat) (e : L.drop i = 104 :: r) (hp : o + i = p) : decode c p = .ok (.imul, 1) := dc_z ⟨_, rfl, rfl⟩ H e hp
theorem dc105 (H : hs_bs c o L) (i : Nat) (e : L.drop i = 105 :: r) (hp : o + i = p) : decode c p = .ok (.lmul, 1) := dc_z ⟨_, rfl, rfl⟩ H e hp
theorem dc108 (H : hs_bs c o L) (i : Nat) (e : L.drop i = 108 :: r) (hp : o + i = p) : decode c p = .ok (.idiv, 1) := dc_z ⟨_, rfl, rfl⟩ H e hp
theorem dc109 (H : hs_bs c o L) (i : Nat) (e : L.drop i = 109 :: r) (hp : o + i = p) : decode c p = .ok (.ldiv, 1) := dc_z ⟨_, rfl, rfl⟩ H e hp
theorem dc112 (H : hs_bs c o L) (i : Nat) (e : L.drop i = 112 :: r) (hp : o + i = p) : decode c p = .ok (.irem, 1) := dc_z ⟨_, rfl, rfl⟩ H e hp
theorem dc113 (H : hs_bs c o L) (i : Nat) (e : L.drop i = 113 :: r) (hp : o + i = p) : decode c p = .ok (.lrem, 1) := dc_z ⟨_, rfl, rfl⟩ H e hp
theorem dc116 (H : hs_bs c o L) (i : Nat) (e : L.drop i = 116 :: r) (hp : o + i = p) : decode c p = .ok (.ineg, 1) := dc_z ⟨_, rfl, rfl⟩ H e hp
theorem dc120 (H : hs_bs c o L) (i : Nat) (e : L.drop i = 120 :: r) (hp : o + i = p) : decode c p = .ok (.ishl, 1) := dc_z ⟨_, rfl, rfl⟩ H e hp
theorem dc122 (H : hs_bs c o L) (i : Nat) (e : L.drop i = 122 :: r) (hp : o + i = p) : decode c p = .ok (.ishr, 1) := dc_z ⟨_, rfl, rfl⟩ H e hp
theorem dc124 (H : hs_bs c o L) (i : Nat) (e : L.drop i = 124 :: r) (hp : o + i = p) : decode c p = .ok (.iushr, 1) := dc_z ⟨_, rfl, rfl⟩ H e hp
theorem dc126 (H : hs_bs c o L) (i : Nat) (e : L.drop i = 126 :: r) (hp : o + i = p) : decode c p = .ok (.iand, 1) := dc_z ⟨_, rfl, rfl⟩ H e hp
theorem dc128 (H : hs_bs c o L) (i : Nat) (e : L.drop i = 128 :: r) (hp : o + i = p) : decode c p = .ok (.ior, 1) := dc_z ⟨_, rfl, rfl⟩ H e hp
theorem dc130 (H : hs_bs c o L) (i : Nat) (e : L.drop i = 130 :: r) (hp : o + i = p) : decode c p = .ok (.ixor, 1) := dc_z ⟨_, rfl, rfl⟩ H e hp
theorem dc133 (H : hs_bs c o L) (i : Nat) (e : L.drop i = 133 :: r) (hp : o + i = p) : decode c p = .ok (.i2l, 1) := dc_z ⟨_, rfl, rfl⟩ H e hp
theorem dc145 (H : hs_bs c o L) (i : Nat) (e : L.drop i = 145 :: r) (hp : o + i = p) : decode c p = .ok (.i2b, 1) := dc_z ⟨_, rfl, rfl⟩ H e hp
theorem dc146 (H : hs_bs c o L) (i : Nat) (e : L.drop i = 146 :: r) (hp : o + i = p) : decode c p = .ok (.i2c, 1) := dc_z ⟨_, rfl, rfl⟩ H e hp
theorem dc147 (H : hs_bs c o L) (i : Nat) (e : L.drop i = 147 :: r) (hp : o + i = p) : decode c p = .ok (.i2s, 1) := dc_z ⟨_, rfl, rfl⟩ H e hp
theorem dc148 (H : hs_bs c o L) (i : Nat) (e : L.drop i = 148 :: r) (hp : o + i = p) : decode c p = .ok (.lcmp, 1) := dc_z ⟨_, rfl, rfl⟩ H e hp
theorem dc172 (H : hs_bs c o L) (i : Nat) (e : L.drop i = 172 :: r) (hp : o + i = p) : decode c p = .ok (.ireturn, 1) := dc_z ⟨_, rfl, rfl⟩ H e hp
theorem dc173 (H : hs_bs c o L) (i : Nat) (e : L.drop i = 173 :: r) (hp : o + i = p) : decode c p = .ok (.lreturn, 1) := dc_z ⟨_, rfl, rfl⟩ H e hp
theorem dc176 (H : hs_bs c o L) (i : Nat) (e : L.drop i = 176 :: r) (hp : o + i = p) : decode c p = .ok (.areturn, 1) := dc_z ⟨_, rfl, rfl⟩ H e hp
theorem dc177 (H : hs_bs c o L) (i : Nat) (e : L.drop i = 177 :: r) (hp : o + i = p) : decode c p = .ok (.return_, 1) := dc_z ⟨_, rfl, rfl⟩ H e hp
theorem dc190 (H : hs_bs c o L) (i : Nat) (e : L.drop i = 190 :: r) (hp : o + i = p) : decode c p = .ok (.arraylength, 1) := dc_z ⟨_, rfl, rfl⟩ H e hp
theorem dc191 (H : hs_bs c o L) (i : Nat) (e : L.drop i = 191 :: r) (hp : o + i = p) : decode c p = .ok (.athrow, 1) := dc_z ⟨_, rfl, rfl⟩ H e hp
theorem dc18 {x : Nat} (H : hs_bs c o L) (i : Nat) (e : L.drop i = 18 :: x :: r) (hp : o + i = p) : decode c p = .ok (.ldc x, 2) := dc_u1 (g := fun x => .ldc x) ⟨_, rfl, rfl⟩ H e hp
theorem dc21 {x : Nat} (H : hs_bs c o L) (i : Nat) (e : L.drop i = 21 :: x :: r) (hp : o + i = p) : decode c p = .ok (.iload x, 2) := dc_u1 (g := fun x => .iload x) ⟨_, rfl, rfl⟩ H e hp
theorem dc22 {x : Nat} (H : hs_bs c o L) (i : Nat) (e : L.drop i = 22 :: x :: r) (hp : o + i = p) : decode c p = .ok (.lload x, 2) := dc_u1 (g := fun x => .lload x) ⟨_, rfl, rfl⟩ H e hp
theorem dc25 {x : Nat} (H : hs_bs c o L) (i : Nat) (e : L.drop i = 25 :: x :: r) (hp : o + i = p) : decode c p = .ok (.aload x, 2) := dc_u1 (g := fun x => .aload x) ⟨_, rfl, rfl⟩ H e hp
theorem dc54 {x : Nat} (H : hs_bs c o L) (i : Nat) (e : L.drop i = 54 :: x :: r) (hp : o + i = p) : decode c p = .ok (.istore x, 2) := dc_u1 (g := fun x => .istore x) ⟨_, rfl, rfl⟩ H e hp
theorem dc55 {x : Nat} (H : hs_bs c o L) (i : Nat) (e : L.drop i = 55 :: x :: r) (hp : o + i = p) : decode c p = .ok (.lstore x, 2) := dc_u1 (g := fun x => .lstore x) ⟨_, rfl, rfl⟩ H e hp
theorem dc58 {x : Nat} (H : hs_bs c o L) (i : Nat) (e : L.drop i = 58 :: x :: r) (hp : o + i = p) : decode c p = .ok (.astore x, 2) := dc_u1 (g := fun x => .astore x) ⟨_, rfl, rfl⟩ H e hp
theorem dc16 {x : Nat} {v : Int} (H : hs_bs c o L) (i : Nat) (e : L.drop i = 16 :: x :: r) (hp : o + i = p) (hv : Reader.signed 8 x = v) : decode c p = .ok (.bipush v, 2) := dc_s1 (g := fun x => .bipush x) ⟨_, rfl, rfl⟩ H e hp hv
theorem dc19 {x y v : Nat} (H : hs_bs c o L) (i : Nat) (e : L.drop i = 19 :: x :: y :: r) (hp : o + i = p) (hv : x * 256 + y = v) : decode c p = .ok (.ldc_w v, 3) := dc_u2 (g := fun x => .ldc_w x) ⟨_, rfl, rfl⟩ H e hp hv
theorem dc20 {x y v : Nat} (H : hs_bs c o L) (i : Nat) (e : L.drop i = 20 :: x :: y :: r) (hp : o + i = p) (hv : x * 256 + y = v) : decode c p = .ok (.ldc2_w v, 3) := dc_u2 (g := fun x => .ldc2_w x) ⟨_, rfl, rfl⟩ H e hp hv
theorem dc178 {x y v : Nat} (H : hs_bs c o L) (i : Nat) (e : L.drop i = 178 :: x :: y :: r) (hp : o + i = p) (hv : x * 256 + y = v) : decode c p = .ok (.getstatic v, 3) := dc_u2 (g := fun x => .getstatic x) ⟨_, rfl, rfl⟩ H e hp hv
theorem dc180 {x y v : Nat} (H : hs_bs c o L) (i : Nat) (e : L.drop i = 180 :: x :: y :: r) (hp : o + i = p) (hv : x * 256 + y = v) : decode c p = .ok (.getfield v, 3) := dc_u2 (g := fun x => .getfield x) ⟨_, rfl, rfl⟩ H e hp hv
theorem dc181 {x y v : Nat} (H : hs_bs c o L) (i : Nat) (e : L.drop i = 181 :: x :: y :: r) (hp : o + i = p) (hv : x * 256 + y = v) : decode c p = .ok (.putfield v, 3) := dc_u2 (g := fun x => .putfield x) ⟨_, rfl, rfl⟩ H e hp hv
theorem dc182 {x y v : Nat} (H : hs_bs c o L) (i : Nat) (e : L.drop i = 182 :: x :: y :: r) (hp : o + i = p) (hv : x * 256 + y = v) : decode c p = .ok (.invokevirtual v, 3) := dc_u2 (g := fun x => .invokevirtual x) ⟨_, rfl, rfl⟩ H e hp hv
theorem dc183 {x y v : Nat} (H : hs_bs c o L) (i : Nat) (e : L.drop i = 183 :: x :: y :: r) (hp : o + i = p) (hv : x * 256 + y = v) : decode c p = .ok (.invokespecial v, 3) := dc_u2 (g := fun x => .invokespecial x) ⟨_, rfl, rfl⟩ H e hp hv
theorem dc184 {x y v : Nat} (H : hs_bs c o L) (i : Nat) (e : L.drop i = 184 :: x :: y :: r) (hp : o + i = p) (hv : x * 256 + y = v) : decode c p = .ok (.invokestatic v, 3) := dc_u2 (g := fun x => .invokestatic x) ⟨_, rfl, rfl⟩ H e hp hv
theorem dc187 {x y v : Nat} (H : hs_bs c o L) (i : Nat) (e : L.drop i = 187 :: x :: y :: r) (hp : o + i = p) (hv : x * 256 + y = v) : decode c p = .ok (.new v, 3) := dc_u2 (g := fun x => .new x) ⟨_, rfl, rfl⟩ H e hp hv
theorem dc189 {x y v : Nat} (H : hs_bs c o L) (i : Nat) (e : L.drop i = 189 :: x :: y :: r) (hp : o + i = p) (hv : x * 256 + y = v) : decode c p = .ok (.anewarray v, 3) := dc_u2 (g := fun x => .anewarray x) ⟨_, rfl, rfl⟩ H e hp hv
theorem dc17 {x y : Nat} {v : Int} (H : hs_bs c o L) (i : Nat) (e : L.drop i = 17 :: x :: y :: r) (hp : o + i = p) (hv : Reader.signed 16 (x * 256 + y) = v) : decode c p = .ok (.sipush v, 3) := dc_s2 (g := fun x => .sipush x) ⟨_, rfl, rfl⟩ H e hp hv
theorem dc167 {x y : Nat} {v : Int} (H : hs_bs c o L) (i : Nat) (e : L.drop i = 167 :: x :: y :: r) (hp : o + i = p) (hv : Reader.signed 16 (x * 256 + y) = v) : decode c p = .ok (.goto v, 3) := dc_s2 (g := fun x => .goto x) ⟨_, rfl, rfl⟩ H e hp hv
theorem dc153 {x y : Nat} {v : Int} (H : hs_bs c o L) (i : Nat) (e : L.drop i = 153 :: x :: y :: r) (hp : o + i = p) (hv : Reader.signed 16 (x * 256 + y) = v) : decode c p = .ok (.ifCond .eq v, 3) := dc_s2 (g := fun x => .ifCond .eq x) ⟨_, rfl, rfl⟩ H e hp hv
theorem dc159 {x y : Nat} {v : Int} (H : hs_bs c o L) (i : Nat) (e : L.drop i = 159 :: x :: y :: r) (hp : o + i = p) (hv : Reader.signed 16 (x * 256 + y) = v) : decode c p = .ok (.if_icmp .eq v, 3) := dc_s2 (g := fun x => .if_icmp .eq x) ⟨_, rfl, rfl⟩ H e hp hv
theorem dc154 {x y : Nat} {v : Int} (H : hs_bs c o L) (i : Nat) (e : L.drop i = 154 :: x :: y :: r) (hp : o + i = p) (hv : Reader.signed 16 (x * 256 + y) = v) : decode c p = .ok (.ifCond .ne v, 3) := dc_s2 (g := fun x => .ifCond .ne x) ⟨_, rfl, rfl⟩ H e hp hv
theorem dc160 {x y : Nat} {v : Int} (H : hs_bs c o L) (i : Nat) (e : L.drop i = 160 :: x :: y :: r) (hp : o + i = p) (hv : Reader.signed 16 (x * 256 + y) = v) : decode c p = .ok (.if_icmp .ne v, 3) := dc_s2 (g := fun x => .if_icmp .ne x) ⟨_, rfl, rfl⟩ H e hp hv
theorem dc155 {x y : Nat} {v : Int} (H : hs_bs c o L) (i : Nat) (e : L.drop i = 155 :: x :: y :: r) (hp : o + i = p) (hv : Reader.signed 16 (x * 256 + y) = v) : decode c p = .ok (.ifCond .lt v, 3) := dc_s2 (g := fun x => .ifCond .lt x) ⟨_, rfl, rfl⟩ H e hp hv
theorem dc161 {x y : Nat} {v : Int} (H : hs_bs c o L) (i : Nat) (e : L.drop i = 161 :: x :: y :: r) (hp : o + i = p) (hv : Reader.signed 16 (x * 256 + y) = v) : decode c p = .ok (.if_icmp .lt v, 3) := dc_s2 (g := fun x => .if_icmp .lt x) ⟨_, rfl, rfl⟩ H e hp hv
theorem dc156 {x y : Nat} {v : Int} (H : hs_bs c o L) (i : Nat) (e : L.drop i = 156 :: x :: y :: r) (hp : o + i = p) (hv : Reader.signed 16 (x * 256 + y) = v) : decode c p = .ok (.ifCond .ge v, 3) := dc_s2 (g := fun x => .ifCond .ge x) ⟨_, rfl, rfl⟩ H e hp hv
theorem dc162 {x y : Nat} {v : Int} (H : hs_bs c o L) (i : Nat) (e : L.drop i = 162 :: x :: y :: r) (hp : o + i = p) (hv : Reader.signed 16 (x * 256 + y) = v) : decode c p = .ok (.if_icmp .ge v, 3) := dc_s2 (g := fun x => .if_icmp .ge x) ⟨_, rfl, rfl⟩ H e hp hv
theorem dc157 {x y : Nat} {v : Int} (H : hs_bs c o L) (i : Nat) (e : L.drop i = 157 :: x :: y :: r) (hp : o + i = p) (hv : Reader.signed 16 (x * 256 + y) = v) : decode c p = .ok (.ifCond .gt v, 3) := dc_s2 (g := fun x => .ifCond .gt x) ⟨_, rfl, rfl⟩ H e hp hv
theorem dc163 {x y : Nat} {v : Int} (H : hs_bs c o L) (i : Nat) (e : L.drop i = 163 :: x :: y :: r) (hp : o + i = p) (hv : Reader.signed 16 (x * 256 + y) = v) : decode c p = .ok (.if_icmp .gt v, 3) := dc_s2 (g := fun x => .if_icmp .gt x) ⟨_, rfl, rfl⟩ H e hp hv
theorem dc158 {x y : Nat} {v : Int} (H : hs_bs c o L) (i : Nat) (e : L.drop i = 158 :: x :: y :: r) (hp : o + i = p) (hv : Reader.signed 16 (x * 256 + y) = v) : decode c p = .ok (.ifCond .le v, 3) := dc_s2 (g := fun x => .ifCond .le x) ⟨_, rfl, rfl⟩ H e hp hv
theorem dc164 {x y : Nat} {v : Int} (H : hs_bs c o L) (i : Nat) (e : L.drop i = 164 :: x :: y :: r) (hp : o + i = p) (hv : Reader.signed 16 (x * 256 + y) = v) : decode c p = .ok (.if_icmp .le v, 3) := dc_s2 (g := fun x => .if_icmp .le x) ⟨_, rfl, rfl⟩ H e hp hv
theorem dc132 {x y : Nat} {v : Int} (H : hs_bs c o L) (i : Nat) (e : L.drop i = 132 :: x :: y :: r) (hp : o + i = p) (hv : Reader.signed 8 y = v) : decode c p = .ok (.iinc x v, 3) := dc_ii (g := fun x y => .iinc x y) ⟨_, rfl, rfl⟩ H e hp hv
end
theorem hs_tq1 {w : Cond} (h : w ∈ tables_1_1) : w ∈ tables_1 := List.mem_append_left _ h
theorem hs_tq2 {w : Cond} (h : w ∈ tables_1_2) : w ∈ tables_1 := List.mem_append_right _ (List.mem_append_left _ h)
theorem hs_tq3 {w : Cond} (h : w ∈ tables_1_3) : w ∈ tables_1 := List.mem_append_right _ (List.mem_append_right _ (List.mem_append_left _ h))
theorem hs_tq4 {w : Cond} (h : w ∈ tables_1_4) : w ∈ tables_1 := List.mem_append_right _ (List.mem_append_right _ (List.mem_append_right _ (List.mem_append_left _ h)))
theorem hs_tq5 {w : Cond} (h : w ∈ tables_1_5) : w ∈ tables_1 := List.mem_append_right _ (List.mem_append_right _ (List.mem_append_right _ (List.mem_append_right _ (List.mem_append_left _ h))))
theorem hs_tq6 {w : Cond} (h : w ∈ tables_1_6) : w ∈ tables_1 := List.mem_append_right _ (List.mem_append_right _ (List.mem_append_right _ (List.mem_append_right _ (List.mem_append_right _ (h)))))
