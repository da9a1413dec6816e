/-! decode rows: an instruction by its bytes -/
theorem dk_bind {α β : Type} {m : Decoder α} {f : α → Decoder β} {c : ByteArray} {p q : Nat} {a : α} (h : m c p = .ok (a, q)) : (m >>= f) c p = f a c q := by
  have e : (m >>= f) c p = Except.bind (m c p) (fun x => f x.1 c x.2) := rfl
  rw [e, h]
  rfl
theorem dk_map {α β : Type} {m : Decoder α} {f : α → β} {c : ByteArray} {p q : Nat} {a : α} (h : m c p = .ok (a, q)) : (f <$> m) c p = .ok (f a, q) := by
  have e : (f <$> m) c p = Except.bind (m c p) (fun x => .ok (f x.1, x.2)) := rfl
  rw [e, h]
  rfl
theorem dk_dec {c : ByteArray} {pc q n : Nat} {i : Instr} (h : Decoder.instr pc c pc = .ok (i, q)) (hq : q = pc + n) : decode c pc = .ok (i, n) := by
  have e : decode c pc = Except.bind (Decoder.instr pc c pc) (fun x => .ok (x.1, x.2 - pc)) := rfl
  rw [e, h, hq]
  show (Except.ok (i, pc + n - pc) : Except DecodeError (Instr × Nat)) = .ok (i, n)
  rw [Nat.add_sub_cancel_left]
theorem dk_u1 {c : ByteArray} {p : Nat} {a : UInt8} {r : List UInt8} (h : c.data.toList.drop p = a :: r) : (Reader.u1 : Decoder Nat) c p = .ok (a.toNat, p + 1) ∧ c.data.toList.drop (p + 1) = r := by
  have hl : p < c.data.toList.length := by
    rcases Nat.lt_or_ge p c.data.toList.length with hl | hl
    · exact hl
    · rw [List.drop_eq_nil_of_le hl] at h; cases h
  rw [List.drop_eq_getElem_cons hl] at h
  injection h with h1 h2
  refine ⟨?_, h2⟩
  have hs : p < c.size := hl
  have e : (Reader.u1 : Decoder Nat) c p = (dite (p < c.size) (fun h => (do set (p + 1); pure (c[p]'h).toNat : Decoder Nat)) (fun _ => throw (HasTruncated.truncated p))) c p := rfl
  rw [e, dif_pos hs]
  show (Except.ok ((c[p]'hs).toNat, p + 1) : Except DecodeError (Nat × Nat)) = .ok (a.toNat, p + 1)
  have e3 : c[p]'hs = c.data.toList[p]'hl := rfl
  rw [e3, h1]
theorem dk_u2 {c : ByteArray} {p q q2 : Nat} {a b : Nat} (h1 : (Reader.u1 : Decoder Nat) c p = .ok (a, q)) (h2 : (Reader.u1 : Decoder Nat) c q = .ok (b, q2)) : (Reader.u2 : Decoder Nat) c p = .ok (a * 256 + b, q2) := by
  refine (dk_bind (m := Reader.u1) h1).trans ?_
  refine (dk_bind (m := Reader.u1) h2).trans ?_
  rfl
theorem dk_and {a b : Bool} (h : (a && b) = true) : a = true ∧ b = true := Bool.and_eq_true_iff.mp h
def ck1 (c : ByteArray) (pc k : Nat) : Bool := match c.data.toList.drop pc with
  | a :: _ => Nat.beq a.toNat k
  | [] => false
def ck2 (c : ByteArray) (pc k x : Nat) : Bool := match c.data.toList.drop pc with
  | a :: b :: _ => Nat.beq a.toNat k && Nat.beq b.toNat x
  | _ => false
def ck3 (c : ByteArray) (pc k x : Nat) : Bool := match c.data.toList.drop pc with
  | a :: b :: d :: _ => Nat.beq a.toNat k && Nat.beq (b.toNat * 256 + d.toNat) x
  | _ => false
def ckT (c : ByteArray) (pc k : Nat) (y : Int) : Bool := match c.data.toList.drop pc with
  | a :: b :: _ => Nat.beq a.toNat k && decide (Reader.signed 8 b.toNat = y)
  | _ => false
def ckS (c : ByteArray) (pc k : Nat) (y : Int) : Bool := match c.data.toList.drop pc with
  | a :: b :: d :: _ => Nat.beq a.toNat k && decide (Reader.signed 16 (b.toNat * 256 + d.toNat) = y)
  | _ => false
def ckI (c : ByteArray) (pc k x : Nat) (y : Int) : Bool := match c.data.toList.drop pc with
  | a :: b :: d :: _ => Nat.beq a.toNat k && (Nat.beq b.toNat x && decide (Reader.signed 8 d.toNat = y))
  | _ => false
theorem ck1_of {c : ByteArray} {pc k : Nat} (h : ck1 c pc k = true) : (Reader.u1 : Decoder Nat) c pc = .ok (k, pc + 1) := by
  unfold ck1 at h
  cases hd : c.data.toList.drop pc with
  | nil => rw [hd] at h; cases h
  | cons a r =>
    rw [hd] at h
    have e : a.toNat = k := Nat.eq_of_beq_eq_true h
    rw [← e]
    exact (dk_u1 hd).1
theorem dk_two {c : ByteArray} {pc : Nat} {a b : UInt8} {r : List UInt8} (h : c.data.toList.drop pc = a :: b :: r) : (Reader.u1 : Decoder Nat) c pc = .ok (a.toNat, pc + 1) ∧ (Reader.u1 : Decoder Nat) c (pc + 1) = .ok (b.toNat, pc + 1 + 1) ∧ c.data.toList.drop (pc + 1 + 1) = r :=
  ⟨(dk_u1 h).1, (dk_u1 (dk_u1 h).2).1, (dk_u1 (dk_u1 h).2).2⟩
theorem ck2_of {c : ByteArray} {pc k x : Nat} (h : ck2 c pc k x = true) : (Reader.u1 : Decoder Nat) c pc = .ok (k, pc + 1) ∧ (Reader.u1 : Decoder Nat) c (pc + 1) = .ok (x, pc + 1 + 1) := by
  unfold ck2 at h
  rcases hd : c.data.toList.drop pc with - | ⟨a, - | ⟨b, r⟩⟩
  · rw [hd] at h; cases h
  · rw [hd] at h; cases h
  · rw [hd] at h
    obtain ⟨h1, h2⟩ := dk_and h
    have e1 : a.toNat = k := Nat.eq_of_beq_eq_true h1
    have e2 : b.toNat = x := Nat.eq_of_beq_eq_true h2
    rw [← e1, ← e2]
    exact ⟨(dk_two hd).1, (dk_two hd).2.1⟩
theorem ckT_of {c : ByteArray} {pc k : Nat} {y : Int} (h : ckT c pc k y = true) : (Reader.u1 : Decoder Nat) c pc = .ok (k, pc + 1) ∧ (Reader.s1 : Decoder Int) c (pc + 1) = .ok (y, pc + 1 + 1) := by
  unfold ckT at h
  rcases hd : c.data.toList.drop pc with - | ⟨a, - | ⟨b, r⟩⟩
  · rw [hd] at h; cases h
  · rw [hd] at h; cases h
  · rw [hd] at h
    obtain ⟨h1, h2⟩ := dk_and h
    have e1 : a.toNat = k := Nat.eq_of_beq_eq_true h1
    have e2 : Reader.signed 8 b.toNat = y := of_decide_eq_true h2
    rw [← e1, ← e2]
    exact ⟨(dk_two hd).1, dk_map (m := Reader.u1) (dk_two hd).2.1⟩
theorem ck3_of {c : ByteArray} {pc k x : Nat} (h : ck3 c pc k x = true) : (Reader.u1 : Decoder Nat) c pc = .ok (k, pc + 1) ∧ (Reader.u2 : Decoder Nat) c (pc + 1) = .ok (x, pc + 1 + 1 + 1) := by
  unfold ck3 at h
  rcases hd : c.data.toList.drop pc with - | ⟨a, - | ⟨b, - | ⟨d, r⟩⟩⟩
  · rw [hd] at h; cases h
  · rw [hd] at h; cases h
  · rw [hd] at h; cases h
  · rw [hd] at h
    obtain ⟨h1, h2⟩ := dk_and h
    have e1 : a.toNat = k := Nat.eq_of_beq_eq_true h1
    have e2 : b.toNat * 256 + d.toNat = x := Nat.eq_of_beq_eq_true h2
    rw [← e1, ← e2]
    exact ⟨(dk_two hd).1, dk_u2 (dk_two hd).2.1 (dk_u1 (dk_two hd).2.2).1⟩
theorem ckS_of {c : ByteArray} {pc k : Nat} {y : Int} (h : ckS c pc k y = true) : (Reader.u1 : Decoder Nat) c pc = .ok (k, pc + 1) ∧ (Reader.s2 : Decoder Int) c (pc + 1) = .ok (y, pc + 1 + 1 + 1) := by
  unfold ckS at h
  rcases hd : c.data.toList.drop pc with - | ⟨a, - | ⟨b, - | ⟨d, r⟩⟩⟩
  · rw [hd] at h; cases h
  · rw [hd] at h; cases h
  · rw [hd] at h; cases h
  · rw [hd] at h
    obtain ⟨h1, h2⟩ := dk_and h
    have e1 : a.toNat = k := Nat.eq_of_beq_eq_true h1
    have e2 : Reader.signed 16 (b.toNat * 256 + d.toNat) = y := of_decide_eq_true h2
    rw [← e1, ← e2]
    exact ⟨(dk_two hd).1, dk_map (m := Reader.u2) (dk_u2 (dk_two hd).2.1 (dk_u1 (dk_two hd).2.2).1)⟩
theorem ckI_of {c : ByteArray} {pc k x : Nat} {y : Int} (h : ckI c pc k x y = true) : (Reader.u1 : Decoder Nat) c pc = .ok (k, pc + 1) ∧ (Reader.u1 : Decoder Nat) c (pc + 1) = .ok (x, pc + 1 + 1) ∧ (Reader.s1 : Decoder Int) c (pc + 1 + 1) = .ok (y, pc + 1 + 1 + 1) := by
  unfold ckI at h
  rcases hd : c.data.toList.drop pc with - | ⟨a, - | ⟨b, - | ⟨d, r⟩⟩⟩
  · rw [hd] at h; cases h
  · rw [hd] at h; cases h
  · rw [hd] at h; cases h
  · rw [hd] at h
    obtain ⟨h1, h2⟩ := dk_and h
    obtain ⟨h2, h3⟩ := dk_and h2
    have e1 : a.toNat = k := Nat.eq_of_beq_eq_true h1
    have e2 : b.toNat = x := Nat.eq_of_beq_eq_true h2
    have e3 : Reader.signed 8 d.toNat = y := of_decide_eq_true h3
    rw [← e1, ← e2, ← e3]
    exact ⟨(dk_two hd).1, (dk_two hd).2.1, dk_map (m := Reader.u1) (dk_u1 (dk_two hd).2.2).1⟩
theorem dk_iconst_m1 {c : ByteArray} {pc : Nat} (h : ck1 c pc 2 = true) : decode c pc = .ok (.iconst (-1), 1) := by
  have h1 := ck1_of h
  refine dk_dec (q := pc + 1) ?_ rfl
  refine (dk_bind (m := Reader.u1) h1).trans ?_
  rfl
theorem dk_iconst_0 {c : ByteArray} {pc : Nat} (h : ck1 c pc 3 = true) : decode c pc = .ok (.iconst 0, 1) := by
  have h1 := ck1_of h
  refine dk_dec (q := pc + 1) ?_ rfl
  refine (dk_bind (m := Reader.u1) h1).trans ?_
  rfl
theorem dk_iconst_1 {c : ByteArray} {pc : Nat} (h : ck1 c pc 4 = true) : decode c pc = .ok (.iconst 1, 1) := by
  have h1 := ck1_of h
  refine dk_dec (q := pc + 1) ?_ rfl
  refine (dk_bind (m := Reader.u1) h1).trans ?_
  rfl
theorem dk_iconst_2 {c : ByteArray} {pc : Nat} (h : ck1 c pc 5 = true) : decode c pc = .ok (.iconst 2, 1) := by
  have h1 := ck1_of h
  refine dk_dec (q := pc + 1) ?_ rfl
  refine (dk_bind (m := Reader.u1) h1).trans ?_
  rfl
theorem dk_iconst_3 {c : ByteArray} {pc : Nat} (h : ck1 c pc 6 = true) : decode c pc = .ok (.iconst 3, 1) := by
  have h1 := ck1_of h
  refine dk_dec (q := pc + 1) ?_ rfl
  refine (dk_bind (m := Reader.u1) h1).trans ?_
  rfl
theorem dk_iconst_4 {c : ByteArray} {pc : Nat} (h : ck1 c pc 7 = true) : decode c pc = .ok (.iconst 4, 1) := by
  have h1 := ck1_of h
  refine dk_dec (q := pc + 1) ?_ rfl
  refine (dk_bind (m := Reader.u1) h1).trans ?_
  rfl
theorem dk_iconst_5 {c : ByteArray} {pc : Nat} (h : ck1 c pc 8 = true) : decode c pc = .ok (.iconst 5, 1) := by
  have h1 := ck1_of h
  refine dk_dec (q := pc + 1) ?_ rfl
  refine (dk_bind (m := Reader.u1) h1).trans ?_
  rfl
theorem dk_lconst_0 {c : ByteArray} {pc : Nat} (h : ck1 c pc 9 = true) : decode c pc = .ok (.lconst 0, 1) := by
  have h1 := ck1_of h
  refine dk_dec (q := pc + 1) ?_ rfl
  refine (dk_bind (m := Reader.u1) h1).trans ?_
  rfl
theorem dk_lconst_1 {c : ByteArray} {pc : Nat} (h : ck1 c pc 10 = true) : decode c pc = .ok (.lconst 1, 1) := by
  have h1 := ck1_of h
  refine dk_dec (q := pc + 1) ?_ rfl
  refine (dk_bind (m := Reader.u1) h1).trans ?_
  rfl
theorem dk_aconst_null {c : ByteArray} {pc : Nat} (h : ck1 c pc 1 = true) : decode c pc = .ok (.aconst_null, 1) := by
  have h1 := ck1_of h
  refine dk_dec (q := pc + 1) ?_ rfl
  refine (dk_bind (m := Reader.u1) h1).trans ?_
  rfl
theorem dk_iload_n_0 {c : ByteArray} {pc : Nat} (h : ck1 c pc 26 = true) : decode c pc = .ok (.iload_n 0, 1) := by
  have h1 := ck1_of h
  refine dk_dec (q := pc + 1) ?_ rfl
  refine (dk_bind (m := Reader.u1) h1).trans ?_
  rfl
theorem dk_iload_n_1 {c : ByteArray} {pc : Nat} (h : ck1 c pc 27 = true) : decode c pc = .ok (.iload_n 1, 1) := by
  have h1 := ck1_of h
  refine dk_dec (q := pc + 1) ?_ rfl
  refine (dk_bind (m := Reader.u1) h1).trans ?_
  rfl
theorem dk_iload_n_2 {c : ByteArray} {pc : Nat} (h : ck1 c pc 28 = true) : decode c pc = .ok (.iload_n 2, 1) := by
  have h1 := ck1_of h
  refine dk_dec (q := pc + 1) ?_ rfl
  refine (dk_bind (m := Reader.u1) h1).trans ?_
  rfl
theorem dk_iload_n_3 {c : ByteArray} {pc : Nat} (h : ck1 c pc 29 = true) : decode c pc = .ok (.iload_n 3, 1) := by
  have h1 := ck1_of h
  refine dk_dec (q := pc + 1) ?_ rfl
  refine (dk_bind (m := Reader.u1) h1).trans ?_
  rfl
theorem dk_lload_n_0 {c : ByteArray} {pc : Nat} (h : ck1 c pc 30 = true) : decode c pc = .ok (.lload_n 0, 1) := by
  have h1 := ck1_of h
  refine dk_dec (q := pc + 1) ?_ rfl
  refine (dk_bind (m := Reader.u1) h1).trans ?_
  rfl
theorem dk_lload_n_1 {c : ByteArray} {pc : Nat} (h : ck1 c pc 31 = true) : decode c pc = .ok (.lload_n 1, 1) := by
  have h1 := ck1_of h
  refine dk_dec (q := pc + 1) ?_ rfl
  refine (dk_bind (m := Reader.u1) h1).trans ?_
  rfl
theorem dk_lload_n_2 {c : ByteArray} {pc : Nat} (h : ck1 c pc 32 = true) : decode c pc = .ok (.lload_n 2, 1) := by
  have h1 := ck1_of h
  refine dk_dec (q := pc + 1) ?_ rfl
  refine (dk_bind (m := Reader.u1) h1).trans ?_
  rfl
theorem dk_lload_n_3 {c : ByteArray} {pc : Nat} (h : ck1 c pc 33 = true) : decode c pc = .ok (.lload_n 3, 1) := by
  have h1 := ck1_of h
  refine dk_dec (q := pc + 1) ?_ rfl
  refine (dk_bind (m := Reader.u1) h1).trans ?_
  rfl
theorem dk_aload_n_0 {c : ByteArray} {pc : Nat} (h : ck1 c pc 42 = true) : decode c pc = .ok (.aload_n 0, 1) := by
  have h1 := ck1_of h
  refine dk_dec (q := pc + 1) ?_ rfl
  refine (dk_bind (m := Reader.u1) h1).trans ?_
  rfl
theorem dk_aload_n_1 {c : ByteArray} {pc : Nat} (h : ck1 c pc 43 = true) : decode c pc = .ok (.aload_n 1, 1) := by
  have h1 := ck1_of h
  refine dk_dec (q := pc + 1) ?_ rfl
  refine (dk_bind (m := Reader.u1) h1).trans ?_
  rfl
theorem dk_aload_n_2 {c : ByteArray} {pc : Nat} (h : ck1 c pc 44 = true) : decode c pc = .ok (.aload_n 2, 1) := by
  have h1 := ck1_of h
  refine dk_dec (q := pc + 1) ?_ rfl
  refine (dk_bind (m := Reader.u1) h1).trans ?_
  rfl
theorem dk_aload_n_3 {c : ByteArray} {pc : Nat} (h : ck1 c pc 45 = true) : decode c pc = .ok (.aload_n 3, 1) := by
  have h1 := ck1_of h
  refine dk_dec (q := pc + 1) ?_ rfl
  refine (dk_bind (m := Reader.u1) h1).trans ?_
  rfl
theorem dk_istore_n_0 {c : ByteArray} {pc : Nat} (h : ck1 c pc 59 = true) : decode c pc = .ok (.istore_n 0, 1) := by
  have h1 := ck1_of h
  refine dk_dec (q := pc + 1) ?_ rfl
  refine (dk_bind (m := Reader.u1) h1).trans ?_
  rfl
theorem dk_istore_n_1 {c : ByteArray} {pc : Nat} (h : ck1 c pc 60 = true) : decode c pc = .ok (.istore_n 1, 1) := by
  have h1 := ck1_of h
  refine dk_dec (q := pc + 1) ?_ rfl
  refine (dk_bind (m := Reader.u1) h1).trans ?_
  rfl
theorem dk_istore_n_2 {c : ByteArray} {pc : Nat} (h : ck1 c pc 61 = true) : decode c pc = .ok (.istore_n 2, 1) := by
  have h1 := ck1_of h
  refine dk_dec (q := pc + 1) ?_ rfl
  refine (dk_bind (m := Reader.u1) h1).trans ?_
  rfl
theorem dk_istore_n_3 {c : ByteArray} {pc : Nat} (h : ck1 c pc 62 = true) : decode c pc = .ok (.istore_n 3, 1) := by
  have h1 := ck1_of h
  refine dk_dec (q := pc + 1) ?_ rfl
  refine (dk_bind (m := Reader.u1) h1).trans ?_
  rfl
theorem dk_lstore_n_0 {c : ByteArray} {pc : Nat} (h : ck1 c pc 63 = true) : decode c pc = .ok (.lstore_n 0, 1) := by
  have h1 := ck1_of h
  refine dk_dec (q := pc + 1) ?_ rfl
  refine (dk_bind (m := Reader.u1) h1).trans ?_
  rfl
theorem dk_lstore_n_1 {c : ByteArray} {pc : Nat} (h : ck1 c pc 64 = true) : decode c pc = .ok (.lstore_n 1, 1) := by
  have h1 := ck1_of h
  refine dk_dec (q := pc + 1) ?_ rfl
  refine (dk_bind (m := Reader.u1) h1).trans ?_
  rfl
theorem dk_lstore_n_2 {c : ByteArray} {pc : Nat} (h : ck1 c pc 65 = true) : decode c pc = .ok (.lstore_n 2, 1) := by
  have h1 := ck1_of h
  refine dk_dec (q := pc + 1) ?_ rfl
  refine (dk_bind (m := Reader.u1) h1).trans ?_
  rfl
theorem dk_lstore_n_3 {c : ByteArray} {pc : Nat} (h : ck1 c pc 66 = true) : decode c pc = .ok (.lstore_n 3, 1) := by
  have h1 := ck1_of h
  refine dk_dec (q := pc + 1) ?_ rfl
  refine (dk_bind (m := Reader.u1) h1).trans ?_
  rfl
theorem dk_astore_n_0 {c : ByteArray} {pc : Nat} (h : ck1 c pc 75 = true) : decode c pc = .ok (.astore_n 0, 1) := by
  have h1 := ck1_of h
  refine dk_dec (q := pc + 1) ?_ rfl
  refine (dk_bind (m := Reader.u1) h1).trans ?_
  rfl
theorem dk_astore_n_1 {c : ByteArray} {pc : Nat} (h : ck1 c pc 76 = true) : decode c pc = .ok (.astore_n 1, 1) := by
  have h1 := ck1_of h
  refine dk_dec (q := pc + 1) ?_ rfl
  refine (dk_bind (m := Reader.u1) h1).trans ?_
  rfl
theorem dk_astore_n_2 {c : ByteArray} {pc : Nat} (h : ck1 c pc 77 = true) : decode c pc = .ok (.astore_n 2, 1) := by
  have h1 := ck1_of h
  refine dk_dec (q := pc + 1) ?_ rfl
  refine (dk_bind (m := Reader.u1) h1).trans ?_
  rfl
theorem dk_astore_n_3 {c : ByteArray} {pc : Nat} (h : ck1 c pc 78 = true) : decode c pc = .ok (.astore_n 3, 1) := by
  have h1 := ck1_of h
  refine dk_dec (q := pc + 1) ?_ rfl
  refine (dk_bind (m := Reader.u1) h1).trans ?_
  rfl
theorem dk_iaload {c : ByteArray} {pc : Nat} (h : ck1 c pc 46 = true) : decode c pc = .ok (.iaload, 1) := by
  have h1 := ck1_of h
  refine dk_dec (q := pc + 1) ?_ rfl
  refine (dk_bind (m := Reader.u1) h1).trans ?_
  rfl
theorem dk_laload {c : ByteArray} {pc : Nat} (h : ck1 c pc 47 = true) : decode c pc = .ok (.laload, 1) := by
  have h1 := ck1_of h
  refine dk_dec (q := pc + 1) ?_ rfl
  refine (dk_bind (m := Reader.u1) h1).trans ?_
  rfl
theorem dk_aaload {c : ByteArray} {pc : Nat} (h : ck1 c pc 50 = true) : decode c pc = .ok (.aaload, 1) := by
  have h1 := ck1_of h
  refine dk_dec (q := pc + 1) ?_ rfl
  refine (dk_bind (m := Reader.u1) h1).trans ?_
  rfl
theorem dk_baload {c : ByteArray} {pc : Nat} (h : ck1 c pc 51 = true) : decode c pc = .ok (.baload, 1) := by
  have h1 := ck1_of h
  refine dk_dec (q := pc + 1) ?_ rfl
  refine (dk_bind (m := Reader.u1) h1).trans ?_
  rfl
theorem dk_iastore {c : ByteArray} {pc : Nat} (h : ck1 c pc 79 = true) : decode c pc = .ok (.iastore, 1) := by
  have h1 := ck1_of h
  refine dk_dec (q := pc + 1) ?_ rfl
  refine (dk_bind (m := Reader.u1) h1).trans ?_
  rfl
theorem dk_lastore {c : ByteArray} {pc : Nat} (h : ck1 c pc 80 = true) : decode c pc = .ok (.lastore, 1) := by
  have h1 := ck1_of h
  refine dk_dec (q := pc + 1) ?_ rfl
  refine (dk_bind (m := Reader.u1) h1).trans ?_
  rfl
theorem dk_aastore {c : ByteArray} {pc : Nat} (h : ck1 c pc 83 = true) : decode c pc = .ok (.aastore, 1) := by
  have h1 := ck1_of h
  refine dk_dec (q := pc + 1) ?_ rfl
  refine (dk_bind (m := Reader.u1) h1).trans ?_
  rfl
theorem dk_pop {c : ByteArray} {pc : Nat} (h : ck1 c pc 87 = true) : decode c pc = .ok (.pop, 1) := by
  have h1 := ck1_of h
  refine dk_dec (q := pc + 1) ?_ rfl
  refine (dk_bind (m := Reader.u1) h1).trans ?_
  rfl
theorem dk_pop2 {c : ByteArray} {pc : Nat} (h : ck1 c pc 88 = true) : decode c pc = .ok (.pop2, 1) := by
  have h1 := ck1_of h
  refine dk_dec (q := pc + 1) ?_ rfl
  refine (dk_bind (m := Reader.u1) h1).trans ?_
  rfl
theorem dk_dup {c : ByteArray} {pc : Nat} (h : ck1 c pc 89 = true) : decode c pc = .ok (.dup, 1) := by
  have h1 := ck1_of h
  refine dk_dec (q := pc + 1) ?_ rfl
  refine (dk_bind (m := Reader.u1) h1).trans ?_
  rfl
theorem dk_dup2 {c : ByteArray} {pc : Nat} (h : ck1 c pc 92 = true) : decode c pc = .ok (.dup2, 1) := by
  have h1 := ck1_of h
  refine dk_dec (q := pc + 1) ?_ rfl
  refine (dk_bind (m := Reader.u1) h1).trans ?_
  rfl
theorem dk_iadd {c : ByteArray} {pc : Nat} (h : ck1 c pc 96 = true) : decode c pc = .ok (.iadd, 1) := by
  have h1 := ck1_of h
  refine dk_dec (q := pc + 1) ?_ rfl
  refine (dk_bind (m := Reader.u1) h1).trans ?_
  rfl
theorem dk_ladd {c : ByteArray} {pc : Nat} (h : ck1 c pc 97 = true) : decode c pc = .ok (.ladd, 1) := by
  have h1 := ck1_of h
  refine dk_dec (q := pc + 1) ?_ rfl
  refine (dk_bind (m := Reader.u1) h1).trans ?_
  rfl
theorem dk_isub {c : ByteArray} {pc : Nat} (h : ck1 c pc 100 = true) : decode c pc = .ok (.isub, 1) := by
  have h1 := ck1_of h
  refine dk_dec (q := pc + 1) ?_ rfl
  refine (dk_bind (m := Reader.u1) h1).trans ?_
  rfl
theorem dk_lsub {c : ByteArray} {pc : Nat} (h : ck1 c pc 101 = true) : decode c pc = .ok (.lsub, 1) := by
  have h1 := ck1_of h
  refine dk_dec (q := pc + 1) ?_ rfl
  refine (dk_bind (m := Reader.u1) h1).trans ?_
  rfl
theorem dk_imul {c : ByteArray} {pc : Nat} (h : ck1 c pc 104 = true) : decode c pc = .ok (.imul, 1) := by
  have h1 := ck1_of h
  refine dk_dec (q := pc + 1) ?_ rfl
  refine (dk_bind (m := Reader.u1) h1).trans ?_
  rfl
theorem dk_lmul {c : ByteArray} {pc : Nat} (h : ck1 c pc 105 = true) : decode c pc = .ok (.lmul, 1) := by
  have h1 := ck1_of h
  refine dk_dec (q := pc + 1) ?_ rfl
  refine (dk_bind (m := Reader.u1) h1).trans ?_
  rfl
theorem dk_idiv {c : ByteArray} {pc : Nat} (h : ck1 c pc 108 = true) : decode c pc = .ok (.idiv, 1) := by
  have h1 := ck1_of h
  refine dk_dec (q := pc + 1) ?_ rfl
  refine (dk_bind (m := Reader.u1) h1).trans ?_
  rfl
theorem dk_ldiv {c : ByteArray} {pc : Nat} (h : ck1 c pc 109 = true) : decode c pc = .ok (.ldiv, 1) := by
  have h1 := ck1_of h
  refine dk_dec (q := pc + 1) ?_ rfl
  refine (dk_bind (m := Reader.u1) h1).trans ?_
  rfl
theorem dk_irem {c : ByteArray} {pc : Nat} (h : ck1 c pc 112 = true) : decode c pc = .ok (.irem, 1) := by
  have h1 := ck1_of h
  refine dk_dec (q := pc + 1) ?_ rfl
  refine (dk_bind (m := Reader.u1) h1).trans ?_
  rfl
theorem dk_lrem {c : ByteArray} {pc : Nat} (h : ck1 c pc 113 = true) : decode c pc = .ok (.lrem, 1) := by
  have h1 := ck1_of h
  refine dk_dec (q := pc + 1) ?_ rfl
  refine (dk_bind (m := Reader.u1) h1).trans ?_
  rfl
theorem dk_ineg {c : ByteArray} {pc : Nat} (h : ck1 c pc 116 = true) : decode c pc = .ok (.ineg, 1) := by
  have h1 := ck1_of h
  refine dk_dec (q := pc + 1) ?_ rfl
  refine (dk_bind (m := Reader.u1) h1).trans ?_
  rfl
theorem dk_ishl {c : ByteArray} {pc : Nat} (h : ck1 c pc 120 = true) : decode c pc = .ok (.ishl, 1) := by
  have h1 := ck1_of h
  refine dk_dec (q := pc + 1) ?_ rfl
  refine (dk_bind (m := Reader.u1) h1).trans ?_
  rfl
theorem dk_ishr {c : ByteArray} {pc : Nat} (h : ck1 c pc 122 = true) : decode c pc = .ok (.ishr, 1) := by
  have h1 := ck1_of h
  refine dk_dec (q := pc + 1) ?_ rfl
  refine (dk_bind (m := Reader.u1) h1).trans ?_
  rfl
theorem dk_iushr {c : ByteArray} {pc : Nat} (h : ck1 c pc 124 = true) : decode c pc = .ok (.iushr, 1) := by
  have h1 := ck1_of h
  refine dk_dec (q := pc + 1) ?_ rfl
  refine (dk_bind (m := Reader.u1) h1).trans ?_
  rfl
theorem dk_iand {c : ByteArray} {pc : Nat} (h : ck1 c pc 126 = true) : decode c pc = .ok (.iand, 1) := by
  have h1 := ck1_of h
  refine dk_dec (q := pc + 1) ?_ rfl
  refine (dk_bind (m := Reader.u1) h1).trans ?_
  rfl
theorem dk_ior {c : ByteArray} {pc : Nat} (h : ck1 c pc 128 = true) : decode c pc = .ok (.ior, 1) := by
  have h1 := ck1_of h
  refine dk_dec (q := pc + 1) ?_ rfl
  refine (dk_bind (m := Reader.u1) h1).trans ?_
  rfl
theorem dk_ixor {c : ByteArray} {pc : Nat} (h : ck1 c pc 130 = true) : decode c pc = .ok (.ixor, 1) := by
  have h1 := ck1_of h
  refine dk_dec (q := pc + 1) ?_ rfl
  refine (dk_bind (m := Reader.u1) h1).trans ?_
  rfl
theorem dk_i2l {c : ByteArray} {pc : Nat} (h : ck1 c pc 133 = true) : decode c pc = .ok (.i2l, 1) := by
  have h1 := ck1_of h
  refine dk_dec (q := pc + 1) ?_ rfl
  refine (dk_bind (m := Reader.u1) h1).trans ?_
  rfl
theorem dk_l2i {c : ByteArray} {pc : Nat} (h : ck1 c pc 136 = true) : decode c pc = .ok (.l2i, 1) := by
  have h1 := ck1_of h
  refine dk_dec (q := pc + 1) ?_ rfl
  refine (dk_bind (m := Reader.u1) h1).trans ?_
  rfl
theorem dk_i2b {c : ByteArray} {pc : Nat} (h : ck1 c pc 145 = true) : decode c pc = .ok (.i2b, 1) := by
  have h1 := ck1_of h
  refine dk_dec (q := pc + 1) ?_ rfl
  refine (dk_bind (m := Reader.u1) h1).trans ?_
  rfl
theorem dk_i2c {c : ByteArray} {pc : Nat} (h : ck1 c pc 146 = true) : decode c pc = .ok (.i2c, 1) := by
  have h1 := ck1_of h
  refine dk_dec (q := pc + 1) ?_ rfl
  refine (dk_bind (m := Reader.u1) h1).trans ?_
  rfl
theorem dk_lcmp {c : ByteArray} {pc : Nat} (h : ck1 c pc 148 = true) : decode c pc = .ok (.lcmp, 1) := by
  have h1 := ck1_of h
  refine dk_dec (q := pc + 1) ?_ rfl
  refine (dk_bind (m := Reader.u1) h1).trans ?_
  rfl
theorem dk_ireturn {c : ByteArray} {pc : Nat} (h : ck1 c pc 172 = true) : decode c pc = .ok (.ireturn, 1) := by
  have h1 := ck1_of h
  refine dk_dec (q := pc + 1) ?_ rfl
  refine (dk_bind (m := Reader.u1) h1).trans ?_
  rfl
theorem dk_lreturn {c : ByteArray} {pc : Nat} (h : ck1 c pc 173 = true) : decode c pc = .ok (.lreturn, 1) := by
  have h1 := ck1_of h
  refine dk_dec (q := pc + 1) ?_ rfl
  refine (dk_bind (m := Reader.u1) h1).trans ?_
  rfl
theorem dk_areturn {c : ByteArray} {pc : Nat} (h : ck1 c pc 176 = true) : decode c pc = .ok (.areturn, 1) := by
  have h1 := ck1_of h
  refine dk_dec (q := pc + 1) ?_ rfl
  refine (dk_bind (m := Reader.u1) h1).trans ?_
  rfl
theorem dk_return_ {c : ByteArray} {pc : Nat} (h : ck1 c pc 177 = true) : decode c pc = .ok (.return_, 1) := by
  have h1 := ck1_of h
  refine dk_dec (q := pc + 1) ?_ rfl
  refine (dk_bind (m := Reader.u1) h1).trans ?_
  rfl
theorem dk_arraylength {c : ByteArray} {pc : Nat} (h : ck1 c pc 190 = true) : decode c pc = .ok (.arraylength, 1) := by
  have h1 := ck1_of h
  refine dk_dec (q := pc + 1) ?_ rfl
  refine (dk_bind (m := Reader.u1) h1).trans ?_
  rfl
theorem dk_athrow {c : ByteArray} {pc : Nat} (h : ck1 c pc 191 = true) : decode c pc = .ok (.athrow, 1) := by
  have h1 := ck1_of h
  refine dk_dec (q := pc + 1) ?_ rfl
  refine (dk_bind (m := Reader.u1) h1).trans ?_
  rfl
theorem dk_ldc {c : ByteArray} {pc : Nat} {x : Nat} (h : ck2 c pc 18 x = true) : decode c pc = .ok (.ldc x, 2) := by
  obtain ⟨h1, h2⟩ := ck2_of h
  refine dk_dec (q := pc + 1 + 1) ?_ rfl
  refine (dk_bind (m := Reader.u1) h1).trans ?_
  refine (dk_bind (m := Reader.u1) h2).trans ?_
  rfl
theorem dk_iload {c : ByteArray} {pc : Nat} {x : Nat} (h : ck2 c pc 21 x = true) : decode c pc = .ok (.iload x, 2) := by
  obtain ⟨h1, h2⟩ := ck2_of h
  refine dk_dec (q := pc + 1 + 1) ?_ rfl
  refine (dk_bind (m := Reader.u1) h1).trans ?_
  refine (dk_bind (m := Reader.u1) h2).trans ?_
  rfl
theorem dk_lload {c : ByteArray} {pc : Nat} {x : Nat} (h : ck2 c pc 22 x = true) : decode c pc = .ok (.lload x, 2) := by
  obtain ⟨h1, h2⟩ := ck2_of h
  refine dk_dec (q := pc + 1 + 1) ?_ rfl
  refine (dk_bind (m := Reader.u1) h1).trans ?_
  refine (dk_bind (m := Reader.u1) h2).trans ?_
  rfl
theorem dk_aload {c : ByteArray} {pc : Nat} {x : Nat} (h : ck2 c pc 25 x = true) : decode c pc = .ok (.aload x, 2) := by
  obtain ⟨h1, h2⟩ := ck2_of h
  refine dk_dec (q := pc + 1 + 1) ?_ rfl
  refine (dk_bind (m := Reader.u1) h1).trans ?_
  refine (dk_bind (m := Reader.u1) h2).trans ?_
  rfl
theorem dk_istore {c : ByteArray} {pc : Nat} {x : Nat} (h : ck2 c pc 54 x = true) : decode c pc = .ok (.istore x, 2) := by
  obtain ⟨h1, h2⟩ := ck2_of h
  refine dk_dec (q := pc + 1 + 1) ?_ rfl
  refine (dk_bind (m := Reader.u1) h1).trans ?_
  refine (dk_bind (m := Reader.u1) h2).trans ?_
  rfl
theorem dk_lstore {c : ByteArray} {pc : Nat} {x : Nat} (h : ck2 c pc 55 x = true) : decode c pc = .ok (.lstore x, 2) := by
  obtain ⟨h1, h2⟩ := ck2_of h
  refine dk_dec (q := pc + 1 + 1) ?_ rfl
  refine (dk_bind (m := Reader.u1) h1).trans ?_
  refine (dk_bind (m := Reader.u1) h2).trans ?_
  rfl
theorem dk_astore {c : ByteArray} {pc : Nat} {x : Nat} (h : ck2 c pc 58 x = true) : decode c pc = .ok (.astore x, 2) := by
  obtain ⟨h1, h2⟩ := ck2_of h
  refine dk_dec (q := pc + 1 + 1) ?_ rfl
  refine (dk_bind (m := Reader.u1) h1).trans ?_
  refine (dk_bind (m := Reader.u1) h2).trans ?_
  rfl
theorem dk_bipush {c : ByteArray} {pc : Nat} {y : Int} (h : ckT c pc 16 y = true) : decode c pc = .ok (.bipush y, 2) := by
  obtain ⟨h1, h2⟩ := ckT_of h
  refine dk_dec (q := pc + 1 + 1) ?_ rfl
  refine (dk_bind (m := Reader.u1) h1).trans ?_
  refine (dk_bind (m := Reader.s1) h2).trans ?_
  rfl
theorem dk_ldc_w {c : ByteArray} {pc : Nat} {x : Nat} (h : ck3 c pc 19 x = true) : decode c pc = .ok (.ldc_w x, 3) := by
  obtain ⟨h1, h2⟩ := ck3_of h
  refine dk_dec (q := pc + 1 + 1 + 1) ?_ rfl
  refine (dk_bind (m := Reader.u1) h1).trans ?_
  refine (dk_bind (m := Reader.u2) h2).trans ?_
  rfl
theorem dk_ldc2_w {c : ByteArray} {pc : Nat} {x : Nat} (h : ck3 c pc 20 x = true) : decode c pc = .ok (.ldc2_w x, 3) := by
  obtain ⟨h1, h2⟩ := ck3_of h
  refine dk_dec (q := pc + 1 + 1 + 1) ?_ rfl
  refine (dk_bind (m := Reader.u1) h1).trans ?_
  refine (dk_bind (m := Reader.u2) h2).trans ?_
  rfl
theorem dk_getstatic {c : ByteArray} {pc : Nat} {x : Nat} (h : ck3 c pc 178 x = true) : decode c pc = .ok (.getstatic x, 3) := by
  obtain ⟨h1, h2⟩ := ck3_of h
  refine dk_dec (q := pc + 1 + 1 + 1) ?_ rfl
  refine (dk_bind (m := Reader.u1) h1).trans ?_
  refine (dk_bind (m := Reader.u2) h2).trans ?_
  rfl
theorem dk_putstatic {c : ByteArray} {pc : Nat} {x : Nat} (h : ck3 c pc 179 x = true) : decode c pc = .ok (.putstatic x, 3) := by
  obtain ⟨h1, h2⟩ := ck3_of h
  refine dk_dec (q := pc + 1 + 1 + 1) ?_ rfl
  refine (dk_bind (m := Reader.u1) h1).trans ?_
  refine (dk_bind (m := Reader.u2) h2).trans ?_
  rfl
theorem dk_getfield {c : ByteArray} {pc : Nat} {x : Nat} (h : ck3 c pc 180 x = true) : decode c pc = .ok (.getfield x, 3) := by
  obtain ⟨h1, h2⟩ := ck3_of h
  refine dk_dec (q := pc + 1 + 1 + 1) ?_ rfl
  refine (dk_bind (m := Reader.u1) h1).trans ?_
  refine (dk_bind (m := Reader.u2) h2).trans ?_
  rfl
theorem dk_putfield {c : ByteArray} {pc : Nat} {x : Nat} (h : ck3 c pc 181 x = true) : decode c pc = .ok (.putfield x, 3) := by
  obtain ⟨h1, h2⟩ := ck3_of h
  refine dk_dec (q := pc + 1 + 1 + 1) ?_ rfl
  refine (dk_bind (m := Reader.u1) h1).trans ?_
  refine (dk_bind (m := Reader.u2) h2).trans ?_
  rfl
theorem dk_invokevirtual {c : ByteArray} {pc : Nat} {x : Nat} (h : ck3 c pc 182 x = true) : decode c pc = .ok (.invokevirtual x, 3) := by
  obtain ⟨h1, h2⟩ := ck3_of h
  refine dk_dec (q := pc + 1 + 1 + 1) ?_ rfl
  refine (dk_bind (m := Reader.u1) h1).trans ?_
  refine (dk_bind (m := Reader.u2) h2).trans ?_
  rfl
theorem dk_invokespecial {c : ByteArray} {pc : Nat} {x : Nat} (h : ck3 c pc 183 x = true) : decode c pc = .ok (.invokespecial x, 3) := by
  obtain ⟨h1, h2⟩ := ck3_of h
  refine dk_dec (q := pc + 1 + 1 + 1) ?_ rfl
  refine (dk_bind (m := Reader.u1) h1).trans ?_
  refine (dk_bind (m := Reader.u2) h2).trans ?_
  rfl
theorem dk_invokestatic {c : ByteArray} {pc : Nat} {x : Nat} (h : ck3 c pc 184 x = true) : decode c pc = .ok (.invokestatic x, 3) := by
  obtain ⟨h1, h2⟩ := ck3_of h
  refine dk_dec (q := pc + 1 + 1 + 1) ?_ rfl
  refine (dk_bind (m := Reader.u1) h1).trans ?_
  refine (dk_bind (m := Reader.u2) h2).trans ?_
  rfl
theorem dk_new {c : ByteArray} {pc : Nat} {x : Nat} (h : ck3 c pc 187 x = true) : decode c pc = .ok (.new x, 3) := by
  obtain ⟨h1, h2⟩ := ck3_of h
  refine dk_dec (q := pc + 1 + 1 + 1) ?_ rfl
  refine (dk_bind (m := Reader.u1) h1).trans ?_
  refine (dk_bind (m := Reader.u2) h2).trans ?_
  rfl
theorem dk_anewarray {c : ByteArray} {pc : Nat} {x : Nat} (h : ck3 c pc 189 x = true) : decode c pc = .ok (.anewarray x, 3) := by
  obtain ⟨h1, h2⟩ := ck3_of h
  refine dk_dec (q := pc + 1 + 1 + 1) ?_ rfl
  refine (dk_bind (m := Reader.u1) h1).trans ?_
  refine (dk_bind (m := Reader.u2) h2).trans ?_
  rfl
theorem dk_checkcast {c : ByteArray} {pc : Nat} {x : Nat} (h : ck3 c pc 192 x = true) : decode c pc = .ok (.checkcast x, 3) := by
  obtain ⟨h1, h2⟩ := ck3_of h
  refine dk_dec (q := pc + 1 + 1 + 1) ?_ rfl
  refine (dk_bind (m := Reader.u1) h1).trans ?_
  refine (dk_bind (m := Reader.u2) h2).trans ?_
  rfl
theorem dk_instanceof {c : ByteArray} {pc : Nat} {x : Nat} (h : ck3 c pc 193 x = true) : decode c pc = .ok (.instanceof x, 3) := by
  obtain ⟨h1, h2⟩ := ck3_of h
  refine dk_dec (q := pc + 1 + 1 + 1) ?_ rfl
  refine (dk_bind (m := Reader.u1) h1).trans ?_
  refine (dk_bind (m := Reader.u2) h2).trans ?_
  rfl
theorem dk_sipush {c : ByteArray} {pc : Nat} {y : Int} (h : ckS c pc 17 y = true) : decode c pc = .ok (.sipush y, 3) := by
  obtain ⟨h1, h2⟩ := ckS_of h
  refine dk_dec (q := pc + 1 + 1 + 1) ?_ rfl
  refine (dk_bind (m := Reader.u1) h1).trans ?_
  refine (dk_bind (m := Reader.s2) h2).trans ?_
  rfl
theorem dk_goto {c : ByteArray} {pc : Nat} {y : Int} (h : ckS c pc 167 y = true) : decode c pc = .ok (.goto y, 3) := by
  obtain ⟨h1, h2⟩ := ckS_of h
  refine dk_dec (q := pc + 1 + 1 + 1) ?_ rfl
  refine (dk_bind (m := Reader.u1) h1).trans ?_
  refine (dk_bind (m := Reader.s2) h2).trans ?_
  rfl
theorem dk_ifnull {c : ByteArray} {pc : Nat} {y : Int} (h : ckS c pc 198 y = true) : decode c pc = .ok (.ifnull y, 3) := by
  obtain ⟨h1, h2⟩ := ckS_of h
  refine dk_dec (q := pc + 1 + 1 + 1) ?_ rfl
  refine (dk_bind (m := Reader.u1) h1).trans ?_
  refine (dk_bind (m := Reader.s2) h2).trans ?_
  rfl
theorem dk_ifnonnull {c : ByteArray} {pc : Nat} {y : Int} (h : ckS c pc 199 y = true) : decode c pc = .ok (.ifnonnull y, 3) := by
  obtain ⟨h1, h2⟩ := ckS_of h
  refine dk_dec (q := pc + 1 + 1 + 1) ?_ rfl
  refine (dk_bind (m := Reader.u1) h1).trans ?_
  refine (dk_bind (m := Reader.s2) h2).trans ?_
  rfl
theorem dk_ifCond_eq {c : ByteArray} {pc : Nat} {y : Int} (h : ckS c pc 153 y = true) : decode c pc = .ok (.ifCond .eq y, 3) := by
  obtain ⟨h1, h2⟩ := ckS_of h
  refine dk_dec (q := pc + 1 + 1 + 1) ?_ rfl
  refine (dk_bind (m := Reader.u1) h1).trans ?_
  refine (dk_bind (m := Reader.s2) h2).trans ?_
  rfl
theorem dk_if_icmp_eq {c : ByteArray} {pc : Nat} {y : Int} (h : ckS c pc 159 y = true) : decode c pc = .ok (.if_icmp .eq y, 3) := by
  obtain ⟨h1, h2⟩ := ckS_of h
  refine dk_dec (q := pc + 1 + 1 + 1) ?_ rfl
  refine (dk_bind (m := Reader.u1) h1).trans ?_
  refine (dk_bind (m := Reader.s2) h2).trans ?_
  rfl
theorem dk_ifCond_ne {c : ByteArray} {pc : Nat} {y : Int} (h : ckS c pc 154 y = true) : decode c pc = .ok (.ifCond .ne y, 3) := by
  obtain ⟨h1, h2⟩ := ckS_of h
  refine dk_dec (q := pc + 1 + 1 + 1) ?_ rfl
  refine (dk_bind (m := Reader.u1) h1).trans ?_
  refine (dk_bind (m := Reader.s2) h2).trans ?_
  rfl
theorem dk_if_icmp_ne {c : ByteArray} {pc : Nat} {y : Int} (h : ckS c pc 160 y = true) : decode c pc = .ok (.if_icmp .ne y, 3) := by
  obtain ⟨h1, h2⟩ := ckS_of h
  refine dk_dec (q := pc + 1 + 1 + 1) ?_ rfl
  refine (dk_bind (m := Reader.u1) h1).trans ?_
  refine (dk_bind (m := Reader.s2) h2).trans ?_
  rfl
theorem dk_ifCond_lt {c : ByteArray} {pc : Nat} {y : Int} (h : ckS c pc 155 y = true) : decode c pc = .ok (.ifCond .lt y, 3) := by
  obtain ⟨h1, h2⟩ := ckS_of h
  refine dk_dec (q := pc + 1 + 1 + 1) ?_ rfl
  refine (dk_bind (m := Reader.u1) h1).trans ?_
  refine (dk_bind (m := Reader.s2) h2).trans ?_
  rfl
theorem dk_if_icmp_lt {c : ByteArray} {pc : Nat} {y : Int} (h : ckS c pc 161 y = true) : decode c pc = .ok (.if_icmp .lt y, 3) := by
  obtain ⟨h1, h2⟩ := ckS_of h
  refine dk_dec (q := pc + 1 + 1 + 1) ?_ rfl
  refine (dk_bind (m := Reader.u1) h1).trans ?_
  refine (dk_bind (m := Reader.s2) h2).trans ?_
  rfl
theorem dk_ifCond_ge {c : ByteArray} {pc : Nat} {y : Int} (h : ckS c pc 156 y = true) : decode c pc = .ok (.ifCond .ge y, 3) := by
  obtain ⟨h1, h2⟩ := ckS_of h
  refine dk_dec (q := pc + 1 + 1 + 1) ?_ rfl
  refine (dk_bind (m := Reader.u1) h1).trans ?_
  refine (dk_bind (m := Reader.s2) h2).trans ?_
  rfl
theorem dk_if_icmp_ge {c : ByteArray} {pc : Nat} {y : Int} (h : ckS c pc 162 y = true) : decode c pc = .ok (.if_icmp .ge y, 3) := by
  obtain ⟨h1, h2⟩ := ckS_of h
  refine dk_dec (q := pc + 1 + 1 + 1) ?_ rfl
  refine (dk_bind (m := Reader.u1) h1).trans ?_
  refine (dk_bind (m := Reader.s2) h2).trans ?_
  rfl
theorem dk_ifCond_gt {c : ByteArray} {pc : Nat} {y : Int} (h : ckS c pc 157 y = true) : decode c pc = .ok (.ifCond .gt y, 3) := by
  obtain ⟨h1, h2⟩ := ckS_of h
  refine dk_dec (q := pc + 1 + 1 + 1) ?_ rfl
  refine (dk_bind (m := Reader.u1) h1).trans ?_
  refine (dk_bind (m := Reader.s2) h2).trans ?_
  rfl
theorem dk_if_icmp_gt {c : ByteArray} {pc : Nat} {y : Int} (h : ckS c pc 163 y = true) : decode c pc = .ok (.if_icmp .gt y, 3) := by
  obtain ⟨h1, h2⟩ := ckS_of h
  refine dk_dec (q := pc + 1 + 1 + 1) ?_ rfl
  refine (dk_bind (m := Reader.u1) h1).trans ?_
  refine (dk_bind (m := Reader.s2) h2).trans ?_
  rfl
theorem dk_ifCond_le {c : ByteArray} {pc : Nat} {y : Int} (h : ckS c pc 158 y = true) : decode c pc = .ok (.ifCond .le y, 3) := by
  obtain ⟨h1, h2⟩ := ckS_of h
  refine dk_dec (q := pc + 1 + 1 + 1) ?_ rfl
  refine (dk_bind (m := Reader.u1) h1).trans ?_
  refine (dk_bind (m := Reader.s2) h2).trans ?_
  rfl
theorem dk_if_icmp_le {c : ByteArray} {pc : Nat} {y : Int} (h : ckS c pc 164 y = true) : decode c pc = .ok (.if_icmp .le y, 3) := by
  obtain ⟨h1, h2⟩ := ckS_of h
  refine dk_dec (q := pc + 1 + 1 + 1) ?_ rfl
  refine (dk_bind (m := Reader.u1) h1).trans ?_
  refine (dk_bind (m := Reader.s2) h2).trans ?_
  rfl
theorem dk_if_acmp_eq {c : ByteArray} {pc : Nat} {y : Int} (h : ckS c pc 165 y = true) : decode c pc = .ok (.if_acmp .eq y, 3) := by
  obtain ⟨h1, h2⟩ := ckS_of h
  refine dk_dec (q := pc + 1 + 1 + 1) ?_ rfl
  refine (dk_bind (m := Reader.u1) h1).trans ?_
  refine (dk_bind (m := Reader.s2) h2).trans ?_
  rfl
theorem dk_if_acmp_ne {c : ByteArray} {pc : Nat} {y : Int} (h : ckS c pc 166 y = true) : decode c pc = .ok (.if_acmp .ne y, 3) := by
  obtain ⟨h1, h2⟩ := ckS_of h
  refine dk_dec (q := pc + 1 + 1 + 1) ?_ rfl
  refine (dk_bind (m := Reader.u1) h1).trans ?_
  refine (dk_bind (m := Reader.s2) h2).trans ?_
  rfl
theorem dk_iinc {c : ByteArray} {pc : Nat} {x : Nat} {y : Int} (h : ckI c pc 132 x y = true) : decode c pc = .ok (.iinc x y, 3) := by
  obtain ⟨h1, h2, h3⟩ := ckI_of h
  refine dk_dec (q := pc + 1 + 1 + 1) ?_ rfl
  refine (dk_bind (m := Reader.u1) h1).trans ?_
  refine (dk_bind (m := Reader.u1) h2).trans ?_
  refine (dk_bind (m := Reader.s1) h3).trans ?_
  rfl
theorem dk_newarray_boolean {c : ByteArray} {pc : Nat} (h : ck2 c pc 188 4 = true) : decode c pc = .ok (.newarray .boolean, 2) := by
  obtain ⟨h1, h2⟩ := ck2_of h
  refine dk_dec (q := pc + 1 + 1) ?_ rfl
  refine (dk_bind (m := Reader.u1) h1).trans ?_
  refine (dk_bind (m := Reader.u1) h2).trans ?_
  rfl
theorem dk_newarray_char {c : ByteArray} {pc : Nat} (h : ck2 c pc 188 5 = true) : decode c pc = .ok (.newarray .char, 2) := by
  obtain ⟨h1, h2⟩ := ck2_of h
  refine dk_dec (q := pc + 1 + 1) ?_ rfl
  refine (dk_bind (m := Reader.u1) h1).trans ?_
  refine (dk_bind (m := Reader.u1) h2).trans ?_
  rfl
theorem dk_newarray_byte {c : ByteArray} {pc : Nat} (h : ck2 c pc 188 8 = true) : decode c pc = .ok (.newarray .byte, 2) := by
  obtain ⟨h1, h2⟩ := ck2_of h
  refine dk_dec (q := pc + 1 + 1) ?_ rfl
  refine (dk_bind (m := Reader.u1) h1).trans ?_
  refine (dk_bind (m := Reader.u1) h2).trans ?_
  rfl
theorem dk_newarray_short {c : ByteArray} {pc : Nat} (h : ck2 c pc 188 9 = true) : decode c pc = .ok (.newarray .short, 2) := by
  obtain ⟨h1, h2⟩ := ck2_of h
  refine dk_dec (q := pc + 1 + 1) ?_ rfl
  refine (dk_bind (m := Reader.u1) h1).trans ?_
  refine (dk_bind (m := Reader.u1) h2).trans ?_
  rfl
theorem dk_newarray_int {c : ByteArray} {pc : Nat} (h : ck2 c pc 188 10 = true) : decode c pc = .ok (.newarray .int, 2) := by
  obtain ⟨h1, h2⟩ := ck2_of h
  refine dk_dec (q := pc + 1 + 1) ?_ rfl
  refine (dk_bind (m := Reader.u1) h1).trans ?_
  refine (dk_bind (m := Reader.u1) h2).trans ?_
  rfl
theorem dk_newarray_long {c : ByteArray} {pc : Nat} (h : ck2 c pc 188 11 = true) : decode c pc = .ok (.newarray .long, 2) := by
  obtain ⟨h1, h2⟩ := ck2_of h
  refine dk_dec (q := pc + 1 + 1) ?_ rfl
  refine (dk_bind (m := Reader.u1) h1).trans ?_
  refine (dk_bind (m := Reader.u1) h2).trans ?_
  rfl
def MW (cI cJ : ClassId) (M : Nat) (mr : Nat → Nat) (mi : Nat → Int32) (mf : Nat → Nat → Int32) (mg : Nat → Nat → Int64) : va_W := [(M, .inr (12, [.int (mi 0), .ref (mr 1), .ref (mr 2), .int (mi 3), .ref (mr 4), .int (mi 5), .int (mi 6), .ref (mr 7), .ref (mr 8), .ref (mr 9), .ref (mr 10), .ref (mr 11), .int (mi 12), .int (mi 13), .int (mi 14), .int (mi 15), .ref (mr 16), .int (mi 17), .ref (mr 18), .ref (mr 19), .ref (mr 20), .int (mi 21), .int (mi 22), .int (mi 23), .int (mi 24), .int (mi 25), .ref (mr 26), .ref (mr 27), .ref (mr 28), .ref (mr 29), .ref (mr 30), .ref (mr 31), .ref (mr 32), .int (mi 33), .int (mi 34), .int (mi 35), .ref (mr 36), .int (mi 37), .int (mi 38), .int (mi 39), .int (mi 40), .int (mi 41), .int (mi 42), .ref (mr 43), .int (mi 44), .ref (mr 45), .ref (mr 46), .ref (mr 47), .int (mi 48), .int (mi 49), .ref (mr 50), .ref (mr 51), .ref (mr 52), .ref (mr 53), .ref (mr 54), .ref (mr 55), .int (mi 56), .int (mi 57), .int (mi 58), .ref (mr 59), .ref (mr 60), .ref (mr 61), .ref (mr 62), .ref (mr 63), .ref (mr 64), .ref (mr 65), .int (mi 66), .int (mi 67), .int (mi 68), .ref (mr 69)])), (mr 1, .inl (cI, 66, .inl (mf 1))), (mr 2, .inl (cI, 396, .inl (mf 2))), (mr 4, .inl (cI, 66, .inl (mf 4))), (mr 7, .inl (cI, 10, .inl (mf 7))), (mr 8, .inl (cI, 10, .inl (mf 8))), (mr 9, .inl (cI, 10, .inl (mf 9))), (mr 10, .inl (cI, 10, .inl (mf 10))), (mr 11, .inl (cI, 10, .inl (mf 11))), (mr 16, .inl (cI, 900, .inl (mf 16))), (mr 18, .inl (cI, 8, .inl (mf 18))), (mr 19, .inl (cI, 8, .inl (mf 19))), (mr 20, .inl (cI, 400, .inl (mf 20))), (mr 26, .inl (cI, 154, .inl (mf 26))), (mr 27, .inl (cI, 2, .inl (mf 27))), (mr 28, .inl (cI, 48, .inl (mf 28))), (mr 29, .inl (cI, 48, .inl (mf 29))), (mr 30, .inl (cI, 48, .inl (mf 30))), (mr 31, .inl (cI, 1200, .inl (mf 31))), (mr 32, .inl (cI, 1200, .inl (mf 32))), (mr 36, .inl (cI, 40, .inl (mf 36))), (mr 43, .inl (cI, 320, .inl (mf 43))), (mr 45, .inl (cI, 100, .inl (mf 45))), (mr 46, .inl (cI, 140, .inl (mf 46))), (mr 47, .inl (cI, 140, .inl (mf 47))), (mr 50, .inl (cI, 400, .inl (mf 50))), (mr 51, .inl (cI, 4, .inl (mf 51))), (mr 52, .inl (cI, 4, .inl (mf 52))), (mr 53, .inl (cI, 10, .inl (mf 53))), (mr 54, .inl (cI, 420, .inl (mf 54))), (mr 55, .inl (cI, 100, .inl (mf 55))), (mr 59, .inl (cI, 112640, .inl (mf 59))), (mr 60, .inl (cI, 10, .inl (mf 60))), (mr 61, .inl (cI, 1024, .inl (mf 61))), (mr 62, .inl (cI, 10, .inl (mf 62))), (mr 63, .inl (cI, 10, .inl (mf 63))), (mr 64, .inl (cJ, 100, .inr (.inl (mg 64)))), (mr 65, .inl (cJ, 100, .inr (.inl (mg 65)))), (mr 69, .inl (cI, 3600, .inl (mf 69)))]
