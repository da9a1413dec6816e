/-! decode rows: an instruction by its bytes -/
theorem dk_bind {α β : Type} {m : Decoder α} {f : α → Decoder β} {c : ByteArray} {p q : Nat} {a : α} (h : m c p = .ok (a, q)) : (m >>= f) c p = f a c q := by
  have e : (m >>= f) c p = Except.bind (m c p) (fun x => f x.1 c x.2) := rfl
  rw [e, h]
  rfl
theorem dk_map {α β : Type} {m : Decoder α} {f : α → β} {c : ByteArray} {p q : Nat} {a : α} (h : m c p = .ok (a, q)) : (f <$> m) c p = .ok (f a, q) := by
  have e : (f <$> m) c p = Except.bind (m c p) (fun x => .ok (f x.1, x.2)) := rfl
  rw [e, h]
  rfl
theorem dk_dec {c : ByteArray} {pc q n : Nat} {i : Instr} (h : Decoder.instr pc c pc = .ok (i, q)) (hq : q = pc + n) : decode c pc = .ok (i, n) := by
  have e : decode c pc = Except.bind (Decoder.instr pc c pc) (fun x => .ok (x.1, x.2 - pc)) := rfl
  rw [e, h, hq]
  show (Except.ok (i, pc + n - pc) : Except DecodeError (Instr × Nat)) = .ok (i, n)
  rw [Nat.add_sub_cancel_left]
theorem dk_u1 {c : ByteArray} {p : Nat} {a : UInt8} {r : List UInt8} (h : c.data.toList.drop p = a :: r) : (Reader.u1 : Decoder Nat) c p = .ok (a.toNat, p + 1) ∧ c.data.toList.drop (p + 1) = r := by
  have hl : p < c.data.toList.length := by
    rcases Nat.lt_or_ge p c.data.toList.length with hl | hl
    · exact hl
    · rw [List.drop_eq_nil_of_le hl] at h; cases h
  rw [List.drop_eq_getElem_cons hl] at h
  injection h with h1 h2
  refine ⟨?_, h2⟩
  have hs : p < c.size := hl
  have e : (Reader.u1 : Decoder Nat) c p = (dite (p < c.size) (fun h => (do set (p + 1); pure (c[p]'h).toNat : Decoder Nat)) (fun _ => throw (HasTruncated.truncated p))) c p := rfl
  rw [e, dif_pos hs]
  show (Except.ok ((c[p]'hs).toNat, p + 1) : Except DecodeError (Nat × Nat)) = .ok (a.toNat, p + 1)
  have e3 : c[p]'hs = c.data.toList[p]'hl := rfl
  rw [e3, h1]
theorem dk_u2 {c : ByteArray} {p q q2 : Nat} {a b : Nat} (h1 : (Reader.u1 : Decoder Nat) c p = .ok (a, q)) (h2 : (Reader.u1 : Decoder Nat) c q = .ok (b, q2)) : (Reader.u2 : Decoder Nat) c p = .ok (a * 256 + b, q2) := by
  refine (dk_bind (m := Reader.u1) h1).trans ?_
  refine (dk_bind (m := Reader.u1) h2).trans ?_
  rfl
theorem dk_and {a b : Bool} (h : (a && b) = true) : a = true ∧ b = true := Bool.and_eq_true_iff.mp h
/-- the bytes of a method as one number -/
def dnB (c : ByteArray) (n N : Nat) : Prop := c.data.toList = (List.range n).map (fun i => UInt8.ofNat (N / 256 ^ i % 256))
def dnA (N p : Nat) : Nat := N / 256 ^ p % 256
theorem dn_u1 {c : ByteArray} {n N p : Nat} (hb : dnB c n N) (hp : p < n) : (Reader.u1 : Decoder Nat) c p = .ok (dnA N p, p + 1) := by
  have hl : p < c.data.toList.length := by
    have e : c.data.toList.length = n := by rw [show c.data.toList = _ from hb, List.length_map, List.length_range]
    omega
  have ha : c.data.toList[p]? = some (UInt8.ofNat (N / 256 ^ p % 256)) := by
    rw [show c.data.toList = _ from hb, List.getElem?_map, List.getElem?_range hp] <;> rfl
  rw [List.getElem?_eq_getElem hl] at ha
  injection ha with ha
  have hd : c.data.toList.drop p = UInt8.ofNat (N / 256 ^ p % 256) :: c.data.toList.drop (p + 1) := by rw [List.drop_eq_getElem_cons hl, ha]
  have q := (dk_u1 hd).1
  have e : (UInt8.ofNat (N / 256 ^ p % 256)).toNat = dnA N p := by
    rw [UInt8.toNat_ofNat']
    show N / 256 ^ p % 256 % 256 = N / 256 ^ p % 256
    rw [Nat.mod_mod]
  rw [e] at q
  exact q
def cn1 (n N pc k : Nat) : Bool := Nat.blt pc n && Nat.beq (dnA N pc) k
def cn2 (n N pc k x : Nat) : Bool := Nat.blt (pc + 1) n && (Nat.beq (dnA N pc) k && Nat.beq (dnA N (pc + 1)) x)
def cn3 (n N pc k x : Nat) : Bool := Nat.blt (pc + 2) n && (Nat.beq (dnA N pc) k && Nat.beq (dnA N (pc + 1) * 256 + dnA N (pc + 2)) x)
def cnT (n N pc k : Nat) (y : Int) : Bool := Nat.blt (pc + 1) n && (Nat.beq (dnA N pc) k && decide (Reader.signed 8 (dnA N (pc + 1)) = y))
def cnS (n N pc k : Nat) (y : Int) : Bool := Nat.blt (pc + 2) n && (Nat.beq (dnA N pc) k && decide (Reader.signed 16 (dnA N (pc + 1) * 256 + dnA N (pc + 2)) = y))
def cnI (n N pc k x : Nat) (y : Int) : Bool := Nat.blt (pc + 2) n && (Nat.beq (dnA N pc) k && (Nat.beq (dnA N (pc + 1)) x && decide (Reader.signed 8 (dnA N (pc + 2)) = y)))
theorem dn_lt {a b : Nat} (h : Nat.blt a b = true) : a < b := Nat.le_of_ble_eq_true h
section DNs
variable {c : ByteArray} {n N pc k x : Nat} {y : Int}
theorem cn1_of (hb : dnB c n N) (h : cn1 n N pc k = true) : (Reader.u1 : Decoder Nat) c pc = .ok (k, pc + 1) := by
  obtain ⟨h1, h2⟩ := dk_and h
  rw [← Nat.eq_of_beq_eq_true h2]
  exact dn_u1 hb (dn_lt h1)
theorem cn2_of (hb : dnB c n N) (h : cn2 n N pc k x = true) : (Reader.u1 : Decoder Nat) c pc = .ok (k, pc + 1) ∧ (Reader.u1 : Decoder Nat) c (pc + 1) = .ok (x, pc + 1 + 1) := by
  obtain ⟨h1, h2⟩ := dk_and h
  obtain ⟨h2, h3⟩ := dk_and h2
  have hl := dn_lt h1
  rw [← Nat.eq_of_beq_eq_true h2, ← Nat.eq_of_beq_eq_true h3]
  exact ⟨dn_u1 hb (by omega), dn_u1 hb (by omega)⟩
theorem cnT_of (hb : dnB c n N) (h : cnT n N pc k y = true) : (Reader.u1 : Decoder Nat) c pc = .ok (k, pc + 1) ∧ (Reader.s1 : Decoder Int) c (pc + 1) = .ok (y, pc + 1 + 1) := by
  obtain ⟨h1, h2⟩ := dk_and h
  obtain ⟨h2, h3⟩ := dk_and h2
  have hl := dn_lt h1
  rw [← Nat.eq_of_beq_eq_true h2, ← of_decide_eq_true h3]
  exact ⟨dn_u1 hb (by omega), dk_map (m := Reader.u1) (dn_u1 hb (by omega))⟩
theorem cn3_of (hb : dnB c n N) (h : cn3 n N pc k x = true) : (Reader.u1 : Decoder Nat) c pc = .ok (k, pc + 1) ∧ (Reader.u2 : Decoder Nat) c (pc + 1) = .ok (x, pc + 1 + 1 + 1) := by
  obtain ⟨h1, h2⟩ := dk_and h
  obtain ⟨h2, h3⟩ := dk_and h2
  have hl := dn_lt h1
  rw [← Nat.eq_of_beq_eq_true h2, ← Nat.eq_of_beq_eq_true h3]
  exact ⟨dn_u1 hb (by omega), dk_u2 (dn_u1 hb (by omega)) (dn_u1 hb (by omega))⟩
theorem cnS_of (hb : dnB c n N) (h : cnS n N pc k y = true) : (Reader.u1 : Decoder Nat) c pc = .ok (k, pc + 1) ∧ (Reader.s2 : Decoder Int) c (pc + 1) = .ok (y, pc + 1 + 1 + 1) := by
  obtain ⟨h1, h2⟩ := dk_and h
  obtain ⟨h2, h3⟩ := dk_and h2
  have hl := dn_lt h1
  rw [← Nat.eq_of_beq_eq_true h2, ← of_decide_eq_true h3]
  exact ⟨dn_u1 hb (by omega), dk_map (m := Reader.u2) (dk_u2 (dn_u1 hb (by omega)) (dn_u1 hb (by omega)))⟩
theorem cnI_of (hb : dnB c n N) (h : cnI n N pc k x y = true) : (Reader.u1 : Decoder Nat) c pc = .ok (k, pc + 1) ∧ (Reader.u1 : Decoder Nat) c (pc + 1) = .ok (x, pc + 1 + 1) ∧ (Reader.s1 : Decoder Int) c (pc + 1 + 1) = .ok (y, pc + 1 + 1 + 1) := by
  obtain ⟨h1, h2⟩ := dk_and h
  obtain ⟨h2, h3⟩ := dk_and h2
  obtain ⟨h3, h4⟩ := dk_and h3
  have hl := dn_lt h1
  rw [← Nat.eq_of_beq_eq_true h2, ← Nat.eq_of_beq_eq_true h3, ← of_decide_eq_true h4]
  exact ⟨dn_u1 hb (by omega), dn_u1 hb (by omega), dk_map (m := Reader.u1) (dn_u1 hb (by omega))⟩
end DNs
theorem dn_iconst_m1 {c : ByteArray} {n N pc : Nat} (hb : dnB c n N) (h : cn1 n N pc 2 = true) : decode c pc = .ok (.iconst (-1), 1) := by
  have h1 := cn1_of hb h
  refine dk_dec (q := pc + 1) ?_ rfl
  refine (dk_bind (m := Reader.u1) h1).trans ?_
  rfl
theorem dn_iconst_0 {c : ByteArray} {n N pc : Nat} (hb : dnB c n N) (h : cn1 n N pc 3 = true) : decode c pc = .ok (.iconst 0, 1) := by
  have h1 := cn1_of hb h
  refine dk_dec (q := pc + 1) ?_ rfl
  refine (dk_bind (m := Reader.u1) h1).trans ?_
  rfl
theorem dn_iconst_1 {c : ByteArray} {n N pc : Nat} (hb : dnB c n N) (h : cn1 n N pc 4 = true) : decode c pc = .ok (.iconst 1, 1) := by
  have h1 := cn1_of hb h
  refine dk_dec (q := pc + 1) ?_ rfl
  refine (dk_bind (m := Reader.u1) h1).trans ?_
  rfl
theorem dn_iconst_2 {c : ByteArray} {n N pc : Nat} (hb : dnB c n N) (h : cn1 n N pc 5 = true) : decode c pc = .ok (.iconst 2, 1) := by
  have h1 := cn1_of hb h
  refine dk_dec (q := pc + 1) ?_ rfl
  refine (dk_bind (m := Reader.u1) h1).trans ?_
  rfl
theorem dn_iconst_3 {c : ByteArray} {n N pc : Nat} (hb : dnB c n N) (h : cn1 n N pc 6 = true) : decode c pc = .ok (.iconst 3, 1) := by
  have h1 := cn1_of hb h
  refine dk_dec (q := pc + 1) ?_ rfl
  refine (dk_bind (m := Reader.u1) h1).trans ?_
  rfl
theorem dn_iconst_4 {c : ByteArray} {n N pc : Nat} (hb : dnB c n N) (h : cn1 n N pc 7 = true) : decode c pc = .ok (.iconst 4, 1) := by
  have h1 := cn1_of hb h
  refine dk_dec (q := pc + 1) ?_ rfl
  refine (dk_bind (m := Reader.u1) h1).trans ?_
  rfl
theorem dn_iconst_5 {c : ByteArray} {n N pc : Nat} (hb : dnB c n N) (h : cn1 n N pc 8 = true) : decode c pc = .ok (.iconst 5, 1) := by
  have h1 := cn1_of hb h
  refine dk_dec (q := pc + 1) ?_ rfl
  refine (dk_bind (m := Reader.u1) h1).trans ?_
  rfl
theorem dn_lconst_0 {c : ByteArray} {n N pc : Nat} (hb : dnB c n N) (h : cn1 n N pc 9 = true) : decode c pc = .ok (.lconst 0, 1) := by
  have h1 := cn1_of hb h
  refine dk_dec (q := pc + 1) ?_ rfl
  refine (dk_bind (m := Reader.u1) h1).trans ?_
  rfl
theorem dn_lconst_1 {c : ByteArray} {n N pc : Nat} (hb : dnB c n N) (h : cn1 n N pc 10 = true) : decode c pc = .ok (.lconst 1, 1) := by
  have h1 := cn1_of hb h
  refine dk_dec (q := pc + 1) ?_ rfl
  refine (dk_bind (m := Reader.u1) h1).trans ?_
  rfl
theorem dn_aconst_null {c : ByteArray} {n N pc : Nat} (hb : dnB c n N) (h : cn1 n N pc 1 = true) : decode c pc = .ok (.aconst_null, 1) := by
  have h1 := cn1_of hb h
  refine dk_dec (q := pc + 1) ?_ rfl
  refine (dk_bind (m := Reader.u1) h1).trans ?_
  rfl
theorem dn_iload_n_0 {c : ByteArray} {n N pc : Nat} (hb : dnB c n N) (h : cn1 n N pc 26 = true) : decode c pc = .ok (.iload_n 0, 1) := by
  have h1 := cn1_of hb h
  refine dk_dec (q := pc + 1) ?_ rfl
  refine (dk_bind (m := Reader.u1) h1).trans ?_
  rfl
theorem dn_iload_n_1 {c : ByteArray} {n N pc : Nat} (hb : dnB c n N) (h : cn1 n N pc 27 = true) : decode c pc = .ok (.iload_n 1, 1) := by
  have h1 := cn1_of hb h
  refine dk_dec (q := pc + 1) ?_ rfl
  refine (dk_bind (m := Reader.u1) h1).trans ?_
  rfl
theorem dn_iload_n_2 {c : ByteArray} {n N pc : Nat} (hb : dnB c n N) (h : cn1 n N pc 28 = true) : decode c pc = .ok (.iload_n 2, 1) := by
  have h1 := cn1_of hb h
  refine dk_dec (q := pc + 1) ?_ rfl
  refine (dk_bind (m := Reader.u1) h1).trans ?_
  rfl
theorem dn_iload_n_3 {c : ByteArray} {n N pc : Nat} (hb : dnB c n N) (h : cn1 n N pc 29 = true) : decode c pc = .ok (.iload_n 3, 1) := by
  have h1 := cn1_of hb h
  refine dk_dec (q := pc + 1) ?_ rfl
  refine (dk_bind (m := Reader.u1) h1).trans ?_
  rfl
theorem dn_lload_n_1 {c : ByteArray} {n N pc : Nat} (hb : dnB c n N) (h : cn1 n N pc 31 = true) : decode c pc = .ok (.lload_n 1, 1) := by
  have h1 := cn1_of hb h
  refine dk_dec (q := pc + 1) ?_ rfl
  refine (dk_bind (m := Reader.u1) h1).trans ?_
  rfl
theorem dn_lload_n_2 {c : ByteArray} {n N pc : Nat} (hb : dnB c n N) (h : cn1 n N pc 32 = true) : decode c pc = .ok (.lload_n 2, 1) := by
  have h1 := cn1_of hb h
  refine dk_dec (q := pc + 1) ?_ rfl
  refine (dk_bind (m := Reader.u1) h1).trans ?_
  rfl
theorem dn_lload_n_3 {c : ByteArray} {n N pc : Nat} (hb : dnB c n N) (h : cn1 n N pc 33 = true) : decode c pc = .ok (.lload_n 3, 1) := by
  have h1 := cn1_of hb h
  refine dk_dec (q := pc + 1) ?_ rfl
  refine (dk_bind (m := Reader.u1) h1).trans ?_
  rfl
theorem dn_aload_n_0 {c : ByteArray} {n N pc : Nat} (hb : dnB c n N) (h : cn1 n N pc 42 = true) : decode c pc = .ok (.aload_n 0, 1) := by
  have h1 := cn1_of hb h
  refine dk_dec (q := pc + 1) ?_ rfl
  refine (dk_bind (m := Reader.u1) h1).trans ?_
  rfl
theorem dn_aload_n_1 {c : ByteArray} {n N pc : Nat} (hb : dnB c n N) (h : cn1 n N pc 43 = true) : decode c pc = .ok (.aload_n 1, 1) := by
  have h1 := cn1_of hb h
  refine dk_dec (q := pc + 1) ?_ rfl
  refine (dk_bind (m := Reader.u1) h1).trans ?_
  rfl
theorem dn_aload_n_2 {c : ByteArray} {n N pc : Nat} (hb : dnB c n N) (h : cn1 n N pc 44 = true) : decode c pc = .ok (.aload_n 2, 1) := by
  have h1 := cn1_of hb h
  refine dk_dec (q := pc + 1) ?_ rfl
  refine (dk_bind (m := Reader.u1) h1).trans ?_
  rfl
theorem dn_aload_n_3 {c : ByteArray} {n N pc : Nat} (hb : dnB c n N) (h : cn1 n N pc 45 = true) : decode c pc = .ok (.aload_n 3, 1) := by
  have h1 := cn1_of hb h
  refine dk_dec (q := pc + 1) ?_ rfl
  refine (dk_bind (m := Reader.u1) h1).trans ?_
  rfl
theorem dn_istore_n_1 {c : ByteArray} {n N pc : Nat} (hb : dnB c n N) (h : cn1 n N pc 60 = true) : decode c pc = .ok (.istore_n 1, 1) := by
  have h1 := cn1_of hb h
  refine dk_dec (q := pc + 1) ?_ rfl
  refine (dk_bind (m := Reader.u1) h1).trans ?_
  rfl
theorem dn_istore_n_2 {c : ByteArray} {n N pc : Nat} (hb : dnB c n N) (h : cn1 n N pc 61 = true) : decode c pc = .ok (.istore_n 2, 1) := by
  have h1 := cn1_of hb h
  refine dk_dec (q := pc + 1) ?_ rfl
  refine (dk_bind (m := Reader.u1) h1).trans ?_
  rfl
theorem dn_istore_n_3 {c : ByteArray} {n N pc : Nat} (hb : dnB c n N) (h : cn1 n N pc 62 = true) : decode c pc = .ok (.istore_n 3, 1) := by
  have h1 := cn1_of hb h
  refine dk_dec (q := pc + 1) ?_ rfl
  refine (dk_bind (m := Reader.u1) h1).trans ?_
  rfl
theorem dn_lstore_n_1 {c : ByteArray} {n N pc : Nat} (hb : dnB c n N) (h : cn1 n N pc 64 = true) : decode c pc = .ok (.lstore_n 1, 1) := by
  have h1 := cn1_of hb h
  refine dk_dec (q := pc + 1) ?_ rfl
  refine (dk_bind (m := Reader.u1) h1).trans ?_
  rfl
theorem dn_lstore_n_2 {c : ByteArray} {n N pc : Nat} (hb : dnB c n N) (h : cn1 n N pc 65 = true) : decode c pc = .ok (.lstore_n 2, 1) := by
  have h1 := cn1_of hb h
  refine dk_dec (q := pc + 1) ?_ rfl
  refine (dk_bind (m := Reader.u1) h1).trans ?_
  rfl
theorem dn_lstore_n_3 {c : ByteArray} {n N pc : Nat} (hb : dnB c n N) (h : cn1 n N pc 66 = true) : decode c pc = .ok (.lstore_n 3, 1) := by
  have h1 := cn1_of hb h
  refine dk_dec (q := pc + 1) ?_ rfl
  refine (dk_bind (m := Reader.u1) h1).trans ?_
  rfl
theorem dn_astore_n_1 {c : ByteArray} {n N pc : Nat} (hb : dnB c n N) (h : cn1 n N pc 76 = true) : decode c pc = .ok (.astore_n 1, 1) := by
  have h1 := cn1_of hb h
  refine dk_dec (q := pc + 1) ?_ rfl
  refine (dk_bind (m := Reader.u1) h1).trans ?_
  rfl
theorem dn_astore_n_2 {c : ByteArray} {n N pc : Nat} (hb : dnB c n N) (h : cn1 n N pc 77 = true) : decode c pc = .ok (.astore_n 2, 1) := by
  have h1 := cn1_of hb h
  refine dk_dec (q := pc + 1) ?_ rfl
  refine (dk_bind (m := Reader.u1) h1).trans ?_
  rfl
theorem dn_astore_n_3 {c : ByteArray} {n N pc : Nat} (hb : dnB c n N) (h : cn1 n N pc 78 = true) : decode c pc = .ok (.astore_n 3, 1) := by
  have h1 := cn1_of hb h
  refine dk_dec (q := pc + 1) ?_ rfl
  refine (dk_bind (m := Reader.u1) h1).trans ?_
  rfl
theorem dn_iaload {c : ByteArray} {n N pc : Nat} (hb : dnB c n N) (h : cn1 n N pc 46 = true) : decode c pc = .ok (.iaload, 1) := by
  have h1 := cn1_of hb h
  refine dk_dec (q := pc + 1) ?_ rfl
  refine (dk_bind (m := Reader.u1) h1).trans ?_
  rfl
theorem dn_laload {c : ByteArray} {n N pc : Nat} (hb : dnB c n N) (h : cn1 n N pc 47 = true) : decode c pc = .ok (.laload, 1) := by
  have h1 := cn1_of hb h
  refine dk_dec (q := pc + 1) ?_ rfl
  refine (dk_bind (m := Reader.u1) h1).trans ?_
  rfl
theorem dn_aaload {c : ByteArray} {n N pc : Nat} (hb : dnB c n N) (h : cn1 n N pc 50 = true) : decode c pc = .ok (.aaload, 1) := by
  have h1 := cn1_of hb h
  refine dk_dec (q := pc + 1) ?_ rfl
  refine (dk_bind (m := Reader.u1) h1).trans ?_
  rfl
theorem dn_baload {c : ByteArray} {n N pc : Nat} (hb : dnB c n N) (h : cn1 n N pc 51 = true) : decode c pc = .ok (.baload, 1) := by
  have h1 := cn1_of hb h
  refine dk_dec (q := pc + 1) ?_ rfl
  refine (dk_bind (m := Reader.u1) h1).trans ?_
  rfl
theorem dn_iastore {c : ByteArray} {n N pc : Nat} (hb : dnB c n N) (h : cn1 n N pc 79 = true) : decode c pc = .ok (.iastore, 1) := by
  have h1 := cn1_of hb h
  refine dk_dec (q := pc + 1) ?_ rfl
  refine (dk_bind (m := Reader.u1) h1).trans ?_
  rfl
theorem dn_lastore {c : ByteArray} {n N pc : Nat} (hb : dnB c n N) (h : cn1 n N pc 80 = true) : decode c pc = .ok (.lastore, 1) := by
  have h1 := cn1_of hb h
  refine dk_dec (q := pc + 1) ?_ rfl
  refine (dk_bind (m := Reader.u1) h1).trans ?_
  rfl
theorem dn_aastore {c : ByteArray} {n N pc : Nat} (hb : dnB c n N) (h : cn1 n N pc 83 = true) : decode c pc = .ok (.aastore, 1) := by
  have h1 := cn1_of hb h
  refine dk_dec (q := pc + 1) ?_ rfl
  refine (dk_bind (m := Reader.u1) h1).trans ?_
  rfl
theorem dn_pop {c : ByteArray} {n N pc : Nat} (hb : dnB c n N) (h : cn1 n N pc 87 = true) : decode c pc = .ok (.pop, 1) := by
  have h1 := cn1_of hb h
  refine dk_dec (q := pc + 1) ?_ rfl
  refine (dk_bind (m := Reader.u1) h1).trans ?_
  rfl
theorem dn_pop2 {c : ByteArray} {n N pc : Nat} (hb : dnB c n N) (h : cn1 n N pc 88 = true) : decode c pc = .ok (.pop2, 1) := by
  have h1 := cn1_of hb h
  refine dk_dec (q := pc + 1) ?_ rfl
  refine (dk_bind (m := Reader.u1) h1).trans ?_
  rfl
theorem dn_dup {c : ByteArray} {n N pc : Nat} (hb : dnB c n N) (h : cn1 n N pc 89 = true) : decode c pc = .ok (.dup, 1) := by
  have h1 := cn1_of hb h
  refine dk_dec (q := pc + 1) ?_ rfl
  refine (dk_bind (m := Reader.u1) h1).trans ?_
  rfl
theorem dn_dup2 {c : ByteArray} {n N pc : Nat} (hb : dnB c n N) (h : cn1 n N pc 92 = true) : decode c pc = .ok (.dup2, 1) := by
  have h1 := cn1_of hb h
  refine dk_dec (q := pc + 1) ?_ rfl
  refine (dk_bind (m := Reader.u1) h1).trans ?_
  rfl
theorem dn_iadd {c : ByteArray} {n N pc : Nat} (hb : dnB c n N) (h : cn1 n N pc 96 = true) : decode c pc = .ok (.iadd, 1) := by
  have h1 := cn1_of hb h
  refine dk_dec (q := pc + 1) ?_ rfl
  refine (dk_bind (m := Reader.u1) h1).trans ?_
  rfl
theorem dn_ladd {c : ByteArray} {n N pc : Nat} (hb : dnB c n N) (h : cn1 n N pc 97 = true) : decode c pc = .ok (.ladd, 1) := by
  have h1 := cn1_of hb h
  refine dk_dec (q := pc + 1) ?_ rfl
  refine (dk_bind (m := Reader.u1) h1).trans ?_
  rfl
theorem dn_isub {c : ByteArray} {n N pc : Nat} (hb : dnB c n N) (h : cn1 n N pc 100 = true) : decode c pc = .ok (.isub, 1) := by
  have h1 := cn1_of hb h
  refine dk_dec (q := pc + 1) ?_ rfl
  refine (dk_bind (m := Reader.u1) h1).trans ?_
  rfl
theorem dn_lsub {c : ByteArray} {n N pc : Nat} (hb : dnB c n N) (h : cn1 n N pc 101 = true) : decode c pc = .ok (.lsub, 1) := by
  have h1 := cn1_of hb h
  refine dk_dec (q := pc + 1) ?_ rfl
  refine (dk_bind (m := Reader.u1) h1).trans ?_
  rfl
theorem dn_imul {c : ByteArray} {n N pc : Nat} (hb : dnB c n N) (h : cn1 n N pc 104 = true) : decode c pc = .ok (.imul, 1) := by
  have h1 := cn1_of hb h
  refine dk_dec (q := pc + 1) ?_ rfl
  refine (dk_bind (m := Reader.u1) h1).trans ?_
  rfl
theorem dn_lmul {c : ByteArray} {n N pc : Nat} (hb : dnB c n N) (h : cn1 n N pc 105 = true) : decode c pc = .ok (.lmul, 1) := by
  have h1 := cn1_of hb h
  refine dk_dec (q := pc + 1) ?_ rfl
  refine (dk_bind (m := Reader.u1) h1).trans ?_
  rfl
theorem dn_idiv {c : ByteArray} {n N pc : Nat} (hb : dnB c n N) (h : cn1 n N pc 108 = true) : decode c pc = .ok (.idiv, 1) := by
  have h1 := cn1_of hb h
  refine dk_dec (q := pc + 1) ?_ rfl
  refine (dk_bind (m := Reader.u1) h1).trans ?_
  rfl
theorem dn_ldiv {c : ByteArray} {n N pc : Nat} (hb : dnB c n N) (h : cn1 n N pc 109 = true) : decode c pc = .ok (.ldiv, 1) := by
  have h1 := cn1_of hb h
  refine dk_dec (q := pc + 1) ?_ rfl
  refine (dk_bind (m := Reader.u1) h1).trans ?_
  rfl
theorem dn_irem {c : ByteArray} {n N pc : Nat} (hb : dnB c n N) (h : cn1 n N pc 112 = true) : decode c pc = .ok (.irem, 1) := by
  have h1 := cn1_of hb h
  refine dk_dec (q := pc + 1) ?_ rfl
  refine (dk_bind (m := Reader.u1) h1).trans ?_
  rfl
theorem dn_lrem {c : ByteArray} {n N pc : Nat} (hb : dnB c n N) (h : cn1 n N pc 113 = true) : decode c pc = .ok (.lrem, 1) := by
  have h1 := cn1_of hb h
  refine dk_dec (q := pc + 1) ?_ rfl
  refine (dk_bind (m := Reader.u1) h1).trans ?_
  rfl
theorem dn_ineg {c : ByteArray} {n N pc : Nat} (hb : dnB c n N) (h : cn1 n N pc 116 = true) : decode c pc = .ok (.ineg, 1) := by
  have h1 := cn1_of hb h
  refine dk_dec (q := pc + 1) ?_ rfl
  refine (dk_bind (m := Reader.u1) h1).trans ?_
  rfl
theorem dn_ishl {c : ByteArray} {n N pc : Nat} (hb : dnB c n N) (h : cn1 n N pc 120 = true) : decode c pc = .ok (.ishl, 1) := by
  have h1 := cn1_of hb h
  refine dk_dec (q := pc + 1) ?_ rfl
  refine (dk_bind (m := Reader.u1) h1).trans ?_
  rfl
theorem dn_ishr {c : ByteArray} {n N pc : Nat} (hb : dnB c n N) (h : cn1 n N pc 122 = true) : decode c pc = .ok (.ishr, 1) := by
  have h1 := cn1_of hb h
  refine dk_dec (q := pc + 1) ?_ rfl
  refine (dk_bind (m := Reader.u1) h1).trans ?_
  rfl
theorem dn_iushr {c : ByteArray} {n N pc : Nat} (hb : dnB c n N) (h : cn1 n N pc 124 = true) : decode c pc = .ok (.iushr, 1) := by
  have h1 := cn1_of hb h
  refine dk_dec (q := pc + 1) ?_ rfl
  refine (dk_bind (m := Reader.u1) h1).trans ?_
  rfl
theorem dn_iand {c : ByteArray} {n N pc : Nat} (hb : dnB c n N) (h : cn1 n N pc 126 = true) : decode c pc = .ok (.iand, 1) := by
  have h1 := cn1_of hb h
  refine dk_dec (q := pc + 1) ?_ rfl
  refine (dk_bind (m := Reader.u1) h1).trans ?_
  rfl
theorem dn_ior {c : ByteArray} {n N pc : Nat} (hb : dnB c n N) (h : cn1 n N pc 128 = true) : decode c pc = .ok (.ior, 1) := by
  have h1 := cn1_of hb h
  refine dk_dec (q := pc + 1) ?_ rfl
  refine (dk_bind (m := Reader.u1) h1).trans ?_
  rfl
theorem dn_ixor {c : ByteArray} {n N pc : Nat} (hb : dnB c n N) (h : cn1 n N pc 130 = true) : decode c pc = .ok (.ixor, 1) := by
  have h1 := cn1_of hb h
  refine dk_dec (q := pc + 1) ?_ rfl
  refine (dk_bind (m := Reader.u1) h1).trans ?_
  rfl
theorem dn_i2l {c : ByteArray} {n N pc : Nat} (hb : dnB c n N) (h : cn1 n N pc 133 = true) : decode c pc = .ok (.i2l, 1) := by
  have h1 := cn1_of hb h
  refine dk_dec (q := pc + 1) ?_ rfl
  refine (dk_bind (m := Reader.u1) h1).trans ?_
  rfl
theorem dn_l2i {c : ByteArray} {n N pc : Nat} (hb : dnB c n N) (h : cn1 n N pc 136 = true) : decode c pc = .ok (.l2i, 1) := by
  have h1 := cn1_of hb h
  refine dk_dec (q := pc + 1) ?_ rfl
  refine (dk_bind (m := Reader.u1) h1).trans ?_
  rfl
theorem dn_i2b {c : ByteArray} {n N pc : Nat} (hb : dnB c n N) (h : cn1 n N pc 145 = true) : decode c pc = .ok (.i2b, 1) := by
  have h1 := cn1_of hb h
  refine dk_dec (q := pc + 1) ?_ rfl
  refine (dk_bind (m := Reader.u1) h1).trans ?_
  rfl
theorem dn_i2c {c : ByteArray} {n N pc : Nat} (hb : dnB c n N) (h : cn1 n N pc 146 = true) : decode c pc = .ok (.i2c, 1) := by
  have h1 := cn1_of hb h
  refine dk_dec (q := pc + 1) ?_ rfl
  refine (dk_bind (m := Reader.u1) h1).trans ?_
  rfl
theorem dn_lcmp {c : ByteArray} {n N pc : Nat} (hb : dnB c n N) (h : cn1 n N pc 148 = true) : decode c pc = .ok (.lcmp, 1) := by
  have h1 := cn1_of hb h
  refine dk_dec (q := pc + 1) ?_ rfl
  refine (dk_bind (m := Reader.u1) h1).trans ?_
  rfl
theorem dn_ireturn {c : ByteArray} {n N pc : Nat} (hb : dnB c n N) (h : cn1 n N pc 172 = true) : decode c pc = .ok (.ireturn, 1) := by
  have h1 := cn1_of hb h
  refine dk_dec (q := pc + 1) ?_ rfl
  refine (dk_bind (m := Reader.u1) h1).trans ?_
  rfl
theorem dn_lreturn {c : ByteArray} {n N pc : Nat} (hb : dnB c n N) (h : cn1 n N pc 173 = true) : decode c pc = .ok (.lreturn, 1) := by
  have h1 := cn1_of hb h
  refine dk_dec (q := pc + 1) ?_ rfl
  refine (dk_bind (m := Reader.u1) h1).trans ?_
  rfl
theorem dn_areturn {c : ByteArray} {n N pc : Nat} (hb : dnB c n N) (h : cn1 n N pc 176 = true) : decode c pc = .ok (.areturn, 1) := by
  have h1 := cn1_of hb h
  refine dk_dec (q := pc + 1) ?_ rfl
  refine (dk_bind (m := Reader.u1) h1).trans ?_
  rfl
theorem dn_return_ {c : ByteArray} {n N pc : Nat} (hb : dnB c n N) (h : cn1 n N pc 177 = true) : decode c pc = .ok (.return_, 1) := by
  have h1 := cn1_of hb h
  refine dk_dec (q := pc + 1) ?_ rfl
  refine (dk_bind (m := Reader.u1) h1).trans ?_
  rfl
theorem dn_arraylength {c : ByteArray} {n N pc : Nat} (hb : dnB c n N) (h : cn1 n N pc 190 = true) : decode c pc = .ok (.arraylength, 1) := by
  have h1 := cn1_of hb h
  refine dk_dec (q := pc + 1) ?_ rfl
  refine (dk_bind (m := Reader.u1) h1).trans ?_
  rfl
theorem dn_ldc {c : ByteArray} {n N pc : Nat} {x : Nat} (hb : dnB c n N) (h : cn2 n N pc 18 x = true) : decode c pc = .ok (.ldc x, 2) := by
  obtain ⟨h1, h2⟩ := cn2_of hb h
  refine dk_dec (q := pc + 1 + 1) ?_ rfl
  refine (dk_bind (m := Reader.u1) h1).trans ?_
  refine (dk_bind (m := Reader.u1) h2).trans ?_
  rfl
theorem dn_iload {c : ByteArray} {n N pc : Nat} {x : Nat} (hb : dnB c n N) (h : cn2 n N pc 21 x = true) : decode c pc = .ok (.iload x, 2) := by
  obtain ⟨h1, h2⟩ := cn2_of hb h
  refine dk_dec (q := pc + 1 + 1) ?_ rfl
  refine (dk_bind (m := Reader.u1) h1).trans ?_
  refine (dk_bind (m := Reader.u1) h2).trans ?_
  rfl
theorem dn_lload {c : ByteArray} {n N pc : Nat} {x : Nat} (hb : dnB c n N) (h : cn2 n N pc 22 x = true) : decode c pc = .ok (.lload x, 2) := by
  obtain ⟨h1, h2⟩ := cn2_of hb h
  refine dk_dec (q := pc + 1 + 1) ?_ rfl
  refine (dk_bind (m := Reader.u1) h1).trans ?_
  refine (dk_bind (m := Reader.u1) h2).trans ?_
  rfl
theorem dn_aload {c : ByteArray} {n N pc : Nat} {x : Nat} (hb : dnB c n N) (h : cn2 n N pc 25 x = true) : decode c pc = .ok (.aload x, 2) := by
  obtain ⟨h1, h2⟩ := cn2_of hb h
  refine dk_dec (q := pc + 1 + 1) ?_ rfl
  refine (dk_bind (m := Reader.u1) h1).trans ?_
  refine (dk_bind (m := Reader.u1) h2).trans ?_
  rfl
theorem dn_istore {c : ByteArray} {n N pc : Nat} {x : Nat} (hb : dnB c n N) (h : cn2 n N pc 54 x = true) : decode c pc = .ok (.istore x, 2) := by
  obtain ⟨h1, h2⟩ := cn2_of hb h
  refine dk_dec (q := pc + 1 + 1) ?_ rfl
  refine (dk_bind (m := Reader.u1) h1).trans ?_
  refine (dk_bind (m := Reader.u1) h2).trans ?_
  rfl
theorem dn_lstore {c : ByteArray} {n N pc : Nat} {x : Nat} (hb : dnB c n N) (h : cn2 n N pc 55 x = true) : decode c pc = .ok (.lstore x, 2) := by
  obtain ⟨h1, h2⟩ := cn2_of hb h
  refine dk_dec (q := pc + 1 + 1) ?_ rfl
  refine (dk_bind (m := Reader.u1) h1).trans ?_
  refine (dk_bind (m := Reader.u1) h2).trans ?_
  rfl
theorem dn_astore {c : ByteArray} {n N pc : Nat} {x : Nat} (hb : dnB c n N) (h : cn2 n N pc 58 x = true) : decode c pc = .ok (.astore x, 2) := by
  obtain ⟨h1, h2⟩ := cn2_of hb h
  refine dk_dec (q := pc + 1 + 1) ?_ rfl
  refine (dk_bind (m := Reader.u1) h1).trans ?_
  refine (dk_bind (m := Reader.u1) h2).trans ?_
  rfl
theorem dn_bipush {c : ByteArray} {n N pc : Nat} {y : Int} (hb : dnB c n N) (h : cnT n N pc 16 y = true) : decode c pc = .ok (.bipush y, 2) := by
  obtain ⟨h1, h2⟩ := cnT_of hb h
  refine dk_dec (q := pc + 1 + 1) ?_ rfl
  refine (dk_bind (m := Reader.u1) h1).trans ?_
  refine (dk_bind (m := Reader.s1) h2).trans ?_
  rfl
theorem dn_ldc_w {c : ByteArray} {n N pc : Nat} {x : Nat} (hb : dnB c n N) (h : cn3 n N pc 19 x = true) : decode c pc = .ok (.ldc_w x, 3) := by
  obtain ⟨h1, h2⟩ := cn3_of hb h
  refine dk_dec (q := pc + 1 + 1 + 1) ?_ rfl
  refine (dk_bind (m := Reader.u1) h1).trans ?_
  refine (dk_bind (m := Reader.u2) h2).trans ?_
  rfl
theorem dn_ldc2_w {c : ByteArray} {n N pc : Nat} {x : Nat} (hb : dnB c n N) (h : cn3 n N pc 20 x = true) : decode c pc = .ok (.ldc2_w x, 3) := by
  obtain ⟨h1, h2⟩ := cn3_of hb h
  refine dk_dec (q := pc + 1 + 1 + 1) ?_ rfl
  refine (dk_bind (m := Reader.u1) h1).trans ?_
  refine (dk_bind (m := Reader.u2) h2).trans ?_
  rfl
theorem dn_getstatic {c : ByteArray} {n N pc : Nat} {x : Nat} (hb : dnB c n N) (h : cn3 n N pc 178 x = true) : decode c pc = .ok (.getstatic x, 3) := by
  obtain ⟨h1, h2⟩ := cn3_of hb h
  refine dk_dec (q := pc + 1 + 1 + 1) ?_ rfl
  refine (dk_bind (m := Reader.u1) h1).trans ?_
  refine (dk_bind (m := Reader.u2) h2).trans ?_
  rfl
theorem dn_getfield {c : ByteArray} {n N pc : Nat} {x : Nat} (hb : dnB c n N) (h : cn3 n N pc 180 x = true) : decode c pc = .ok (.getfield x, 3) := by
  obtain ⟨h1, h2⟩ := cn3_of hb h
  refine dk_dec (q := pc + 1 + 1 + 1) ?_ rfl
  refine (dk_bind (m := Reader.u1) h1).trans ?_
  refine (dk_bind (m := Reader.u2) h2).trans ?_
  rfl
theorem dn_putfield {c : ByteArray} {n N pc : Nat} {x : Nat} (hb : dnB c n N) (h : cn3 n N pc 181 x = true) : decode c pc = .ok (.putfield x, 3) := by
  obtain ⟨h1, h2⟩ := cn3_of hb h
  refine dk_dec (q := pc + 1 + 1 + 1) ?_ rfl
  refine (dk_bind (m := Reader.u1) h1).trans ?_
  refine (dk_bind (m := Reader.u2) h2).trans ?_
  rfl
theorem dn_invokevirtual {c : ByteArray} {n N pc : Nat} {x : Nat} (hb : dnB c n N) (h : cn3 n N pc 182 x = true) : decode c pc = .ok (.invokevirtual x, 3) := by
  obtain ⟨h1, h2⟩ := cn3_of hb h
  refine dk_dec (q := pc + 1 + 1 + 1) ?_ rfl
  refine (dk_bind (m := Reader.u1) h1).trans ?_
  refine (dk_bind (m := Reader.u2) h2).trans ?_
  rfl
theorem dn_invokespecial {c : ByteArray} {n N pc : Nat} {x : Nat} (hb : dnB c n N) (h : cn3 n N pc 183 x = true) : decode c pc = .ok (.invokespecial x, 3) := by
  obtain ⟨h1, h2⟩ := cn3_of hb h
  refine dk_dec (q := pc + 1 + 1 + 1) ?_ rfl
  refine (dk_bind (m := Reader.u1) h1).trans ?_
  refine (dk_bind (m := Reader.u2) h2).trans ?_
  rfl
theorem dn_invokestatic {c : ByteArray} {n N pc : Nat} {x : Nat} (hb : dnB c n N) (h : cn3 n N pc 184 x = true) : decode c pc = .ok (.invokestatic x, 3) := by
  obtain ⟨h1, h2⟩ := cn3_of hb h
  refine dk_dec (q := pc + 1 + 1 + 1) ?_ rfl
  refine (dk_bind (m := Reader.u1) h1).trans ?_
  refine (dk_bind (m := Reader.u2) h2).trans ?_
  rfl
theorem dn_new {c : ByteArray} {n N pc : Nat} {x : Nat} (hb : dnB c n N) (h : cn3 n N pc 187 x = true) : decode c pc = .ok (.new x, 3) := by
  obtain ⟨h1, h2⟩ := cn3_of hb h
  refine dk_dec (q := pc + 1 + 1 + 1) ?_ rfl
  refine (dk_bind (m := Reader.u1) h1).trans ?_
  refine (dk_bind (m := Reader.u2) h2).trans ?_
  rfl
theorem dn_anewarray {c : ByteArray} {n N pc : Nat} {x : Nat} (hb : dnB c n N) (h : cn3 n N pc 189 x = true) : decode c pc = .ok (.anewarray x, 3) := by
  obtain ⟨h1, h2⟩ := cn3_of hb h
  refine dk_dec (q := pc + 1 + 1 + 1) ?_ rfl
  refine (dk_bind (m := Reader.u1) h1).trans ?_
  refine (dk_bind (m := Reader.u2) h2).trans ?_
  rfl
theorem dn_sipush {c : ByteArray} {n N pc : Nat} {y : Int} (hb : dnB c n N) (h : cnS n N pc 17 y = true) : decode c pc = .ok (.sipush y, 3) := by
  obtain ⟨h1, h2⟩ := cnS_of hb h
  refine dk_dec (q := pc + 1 + 1 + 1) ?_ rfl
  refine (dk_bind (m := Reader.u1) h1).trans ?_
  refine (dk_bind (m := Reader.s2) h2).trans ?_
  rfl
theorem dn_goto {c : ByteArray} {n N pc : Nat} {y : Int} (hb : dnB c n N) (h : cnS n N pc 167 y = true) : decode c pc = .ok (.goto y, 3) := by
  obtain ⟨h1, h2⟩ := cnS_of hb h
  refine dk_dec (q := pc + 1 + 1 + 1) ?_ rfl
  refine (dk_bind (m := Reader.u1) h1).trans ?_
  refine (dk_bind (m := Reader.s2) h2).trans ?_
  rfl
theorem dn_ifnull {c : ByteArray} {n N pc : Nat} {y : Int} (hb : dnB c n N) (h : cnS n N pc 198 y = true) : decode c pc = .ok (.ifnull y, 3) := by
  obtain ⟨h1, h2⟩ := cnS_of hb h
  refine dk_dec (q := pc + 1 + 1 + 1) ?_ rfl
  refine (dk_bind (m := Reader.u1) h1).trans ?_
  refine (dk_bind (m := Reader.s2) h2).trans ?_
  rfl
theorem dn_ifnonnull {c : ByteArray} {n N pc : Nat} {y : Int} (hb : dnB c n N) (h : cnS n N pc 199 y = true) : decode c pc = .ok (.ifnonnull y, 3) := by
  obtain ⟨h1, h2⟩ := cnS_of hb h
  refine dk_dec (q := pc + 1 + 1 + 1) ?_ rfl
  refine (dk_bind (m := Reader.u1) h1).trans ?_
  refine (dk_bind (m := Reader.s2) h2).trans ?_
  rfl
theorem dn_ifCond_eq {c : ByteArray} {n N pc : Nat} {y : Int} (hb : dnB c n N) (h : cnS n N pc 153 y = true) : decode c pc = .ok (.ifCond .eq y, 3) := by
  obtain ⟨h1, h2⟩ := cnS_of hb h
  refine dk_dec (q := pc + 1 + 1 + 1) ?_ rfl
  refine (dk_bind (m := Reader.u1) h1).trans ?_
  refine (dk_bind (m := Reader.s2) h2).trans ?_
  rfl
theorem dn_if_icmp_eq {c : ByteArray} {n N pc : Nat} {y : Int} (hb : dnB c n N) (h : cnS n N pc 159 y = true) : decode c pc = .ok (.if_icmp .eq y, 3) := by
  obtain ⟨h1, h2⟩ := cnS_of hb h
  refine dk_dec (q := pc + 1 + 1 + 1) ?_ rfl
  refine (dk_bind (m := Reader.u1) h1).trans ?_
  refine (dk_bind (m := Reader.s2) h2).trans ?_
  rfl
theorem dn_ifCond_ne {c : ByteArray} {n N pc : Nat} {y : Int} (hb : dnB c n N) (h : cnS n N pc 154 y = true) : decode c pc = .ok (.ifCond .ne y, 3) := by
  obtain ⟨h1, h2⟩ := cnS_of hb h
  refine dk_dec (q := pc + 1 + 1 + 1) ?_ rfl
  refine (dk_bind (m := Reader.u1) h1).trans ?_
  refine (dk_bind (m := Reader.s2) h2).trans ?_
  rfl
theorem dn_if_icmp_ne {c : ByteArray} {n N pc : Nat} {y : Int} (hb : dnB c n N) (h : cnS n N pc 160 y = true) : decode c pc = .ok (.if_icmp .ne y, 3) := by
  obtain ⟨h1, h2⟩ := cnS_of hb h
  refine dk_dec (q := pc + 1 + 1 + 1) ?_ rfl
  refine (dk_bind (m := Reader.u1) h1).trans ?_
  refine (dk_bind (m := Reader.s2) h2).trans ?_
  rfl
theorem dn_ifCond_lt {c : ByteArray} {n N pc : Nat} {y : Int} (hb : dnB c n N) (h : cnS n N pc 155 y = true) : decode c pc = .ok (.ifCond .lt y, 3) := by
  obtain ⟨h1, h2⟩ := cnS_of hb h
  refine dk_dec (q := pc + 1 + 1 + 1) ?_ rfl
  refine (dk_bind (m := Reader.u1) h1).trans ?_
  refine (dk_bind (m := Reader.s2) h2).trans ?_
  rfl
theorem dn_if_icmp_lt {c : ByteArray} {n N pc : Nat} {y : Int} (hb : dnB c n N) (h : cnS n N pc 161 y = true) : decode c pc = .ok (.if_icmp .lt y, 3) := by
  obtain ⟨h1, h2⟩ := cnS_of hb h
  refine dk_dec (q := pc + 1 + 1 + 1) ?_ rfl
  refine (dk_bind (m := Reader.u1) h1).trans ?_
  refine (dk_bind (m := Reader.s2) h2).trans ?_
  rfl
theorem dn_ifCond_ge {c : ByteArray} {n N pc : Nat} {y : Int} (hb : dnB c n N) (h : cnS n N pc 156 y = true) : decode c pc = .ok (.ifCond .ge y, 3) := by
  obtain ⟨h1, h2⟩ := cnS_of hb h
  refine dk_dec (q := pc + 1 + 1 + 1) ?_ rfl
  refine (dk_bind (m := Reader.u1) h1).trans ?_
  refine (dk_bind (m := Reader.s2) h2).trans ?_
  rfl
theorem dn_if_icmp_ge {c : ByteArray} {n N pc : Nat} {y : Int} (hb : dnB c n N) (h : cnS n N pc 162 y = true) : decode c pc = .ok (.if_icmp .ge y, 3) := by
  obtain ⟨h1, h2⟩ := cnS_of hb h
  refine dk_dec (q := pc + 1 + 1 + 1) ?_ rfl
  refine (dk_bind (m := Reader.u1) h1).trans ?_
  refine (dk_bind (m := Reader.s2) h2).trans ?_
  rfl
theorem dn_ifCond_gt {c : ByteArray} {n N pc : Nat} {y : Int} (hb : dnB c n N) (h : cnS n N pc 157 y = true) : decode c pc = .ok (.ifCond .gt y, 3) := by
  obtain ⟨h1, h2⟩ := cnS_of hb h
  refine dk_dec (q := pc + 1 + 1 + 1) ?_ rfl
  refine (dk_bind (m := Reader.u1) h1).trans ?_
  refine (dk_bind (m := Reader.s2) h2).trans ?_
  rfl
theorem dn_if_icmp_gt {c : ByteArray} {n N pc : Nat} {y : Int} (hb : dnB c n N) (h : cnS n N pc 163 y = true) : decode c pc = .ok (.if_icmp .gt y, 3) := by
  obtain ⟨h1, h2⟩ := cnS_of hb h
  refine dk_dec (q := pc + 1 + 1 + 1) ?_ rfl
  refine (dk_bind (m := Reader.u1) h1).trans ?_
  refine (dk_bind (m := Reader.s2) h2).trans ?_
  rfl
theorem dn_ifCond_le {c : ByteArray} {n N pc : Nat} {y : Int} (hb : dnB c n N) (h : cnS n N pc 158 y = true) : decode c pc = .ok (.ifCond .le y, 3) := by
  obtain ⟨h1, h2⟩ := cnS_of hb h
  refine dk_dec (q := pc + 1 + 1 + 1) ?_ rfl
  refine (dk_bind (m := Reader.u1) h1).trans ?_
  refine (dk_bind (m := Reader.s2) h2).trans ?_
  rfl
theorem dn_if_icmp_le {c : ByteArray} {n N pc : Nat} {y : Int} (hb : dnB c n N) (h : cnS n N pc 164 y = true) : decode c pc = .ok (.if_icmp .le y, 3) := by
  obtain ⟨h1, h2⟩ := cnS_of hb h
  refine dk_dec (q := pc + 1 + 1 + 1) ?_ rfl
  refine (dk_bind (m := Reader.u1) h1).trans ?_
  refine (dk_bind (m := Reader.s2) h2).trans ?_
  rfl
theorem dn_iinc {c : ByteArray} {n N pc : Nat} {x : Nat} {y : Int} (hb : dnB c n N) (h : cnI n N pc 132 x y = true) : decode c pc = .ok (.iinc x y, 3) := by
  obtain ⟨h1, h2, h3⟩ := cnI_of hb h
  refine dk_dec (q := pc + 1 + 1 + 1) ?_ rfl
  refine (dk_bind (m := Reader.u1) h1).trans ?_
  refine (dk_bind (m := Reader.u1) h2).trans ?_
  refine (dk_bind (m := Reader.s1) h3).trans ?_
  rfl
theorem dn_newarray_int {c : ByteArray} {n N pc : Nat} (hb : dnB c n N) (h : cn2 n N pc 188 10 = true) : decode c pc = .ok (.newarray .int, 2) := by
  obtain ⟨h1, h2⟩ := cn2_of hb h
  refine dk_dec (q := pc + 1 + 1) ?_ rfl
  refine (dk_bind (m := Reader.u1) h1).trans ?_
  refine (dk_bind (m := Reader.u1) h2).trans ?_
  rfl
theorem dn_newarray_long {c : ByteArray} {n N pc : Nat} (hb : dnB c n N) (h : cn2 n N pc 188 11 = true) : decode c pc = .ok (.newarray .long, 2) := by
  obtain ⟨h1, h2⟩ := cn2_of hb h
  refine dk_dec (q := pc + 1 + 1) ?_ rfl
  refine (dk_bind (m := Reader.u1) h1).trans ?_
  refine (dk_bind (m := Reader.u1) h2).trans ?_
  rfl
theorem inT_1 {w : Cond} (h : w ∈ tables_1_1) (hg : goodWord w = true) : w ∈ GW := List.mem_filter.mpr ⟨List.mem_append_right _ (List.mem_append_left _ h), hg⟩
theorem inT_2 {w : Cond} (h : w ∈ tables_1_2) (hg : goodWord w = true) : w ∈ GW := List.mem_filter.mpr ⟨List.mem_append_right _ (List.mem_append_right _ (List.mem_append_left _ h)), hg⟩
theorem inT_3 {w : Cond} (h : w ∈ tables_1_3) (hg : goodWord w = true) : w ∈ GW := List.mem_filter.mpr ⟨List.mem_append_right _ (List.mem_append_right _ (List.mem_append_right _ (List.mem_append_left _ h))), hg⟩
theorem inT_4 {w : Cond} (h : w ∈ tables_1_4) (hg : goodWord w = true) : w ∈ GW := List.mem_filter.mpr ⟨List.mem_append_right _ (List.mem_append_right _ (List.mem_append_right _ (List.mem_append_right _ (List.mem_append_left _ h)))), hg⟩
theorem inT_5 {w : Cond} (h : w ∈ tables_1_5) (hg : goodWord w = true) : w ∈ GW := List.mem_filter.mpr ⟨List.mem_append_right _ (List.mem_append_right _ (List.mem_append_right _ (List.mem_append_right _ (List.mem_append_right _ (List.mem_append_left _ h))))), hg⟩
theorem inT_6 {w : Cond} (h : w ∈ tables_1_6) (hg : goodWord w = true) : w ∈ GW := List.mem_filter.mpr ⟨List.mem_append_right _ (List.mem_append_right _ (List.mem_append_right _ (List.mem_append_right _ (List.mem_append_right _ (List.mem_append_right _ (List.mem_append_left _ h)))))), hg⟩
theorem inT_7 {w : Cond} (h : w ∈ tables_1_7) (hg : goodWord w = true) : w ∈ GW := List.mem_filter.mpr ⟨List.mem_append_right _ (List.mem_append_right _ (List.mem_append_right _ (List.mem_append_right _ (List.mem_append_right _ (List.mem_append_right _ (List.mem_append_right _ (List.mem_append_left _ h))))))), hg⟩
theorem inT_8 {w : Cond} (h : w ∈ tables_1_8) (hg : goodWord w = true) : w ∈ GW := List.mem_filter.mpr ⟨List.mem_append_right _ (List.mem_append_right _ (List.mem_append_right _ (List.mem_append_right _ (List.mem_append_right _ (List.mem_append_right _ (List.mem_append_right _ (List.mem_append_right _ (List.mem_append_left _ h)))))))), hg⟩
theorem inT_9 {w : Cond} (h : w ∈ tables_1_9) (hg : goodWord w = true) : w ∈ GW := List.mem_filter.mpr ⟨List.mem_append_right _ (List.mem_append_right _ (List.mem_append_right _ (List.mem_append_right _ (List.mem_append_right _ (List.mem_append_right _ (List.mem_append_right _ (List.mem_append_right _ (List.mem_append_right _ (h))))))))), hg⟩
