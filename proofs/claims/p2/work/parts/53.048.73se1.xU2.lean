/-! feed: the signs of a number -/
theorem by_sh (v : BitVec 32) (s : Nat) (hs : s ≤ 24) : (v.sshiftRight s) &&& 255#32 = (v >>> s) &&& 255#32 := by
  apply BitVec.eq_of_getLsbD_eq
  intro i hi
  rw [BitVec.getLsbD_and, BitVec.getLsbD_and]
  by_cases h8 : i < 8
  · rw [BitVec.getLsbD_sshiftRight, BitVec.getLsbD_ushiftRight]
    have h1 : decide (32 ≤ i) = false := decide_eq_false (by omega)
    rw [h1, if_pos (show s + i < 32 from by omega)]
    rfl
  · have z : ∀ j : Fin 32, 8 ≤ j.val → (255#32).getLsbD j.val = false := by decide
    have z2 : (255#32).getLsbD i = false := z ⟨i, hi⟩ (show 8 ≤ i from by omega)
    rw [z2, Bool.and_false, Bool.and_false]
theorem and255 {x w : Int32} (h : w = x &&& 255) : 0 ≤ w.toInt ∧ w.toInt ≤ 255 := by
  have e : w.toBitVec.toNat ≤ 255 := by
    rw [h]
    show (x.toBitVec &&& (255 : Int32).toBitVec).toNat ≤ 255
    rw [BitVec.toNat_and]
    exact Nat.le_trans Nat.and_le_right (by decide +kernel)
  have ht : w.toInt = if 2 * w.toBitVec.toNat < 2 ^ 32 then (w.toBitVec.toNat : Int) else (w.toBitVec.toNat : Int) - ((2 ^ 32 : Nat) : Int) := BitVec.toInt_eq_toNat_cond w.toBitVec
  rw [if_pos (by omega)] at ht
  omega
def shI : Nat → Int32
  | 0 => 24
  | 1 => 16
  | 2 => 8
  | _ => 0
def byt (v : Int32) (k : Nat) : Int32 := (v.toUInt32 >>> ((shI k).toUInt32 &&& Int32.toUInt32 31)).toInt32 &&& 255
theorem byt_0 (v : Int32) : (v >>> ((24 : Int32) &&& 31)) &&& 255 = byt v 0 := Int32.toBitVec_inj.mp (by_sh v.toBitVec 24 (by decide))
theorem byt_1 (v : Int32) : (v >>> ((16 : Int32) &&& 31)) &&& 255 = byt v 1 := Int32.toBitVec_inj.mp (by_sh v.toBitVec 16 (by decide))
theorem byt_2 (v : Int32) : (v >>> ((8 : Int32) &&& 31)) &&& 255 = byt v 2 := Int32.toBitVec_inj.mp (by_sh v.toBitVec 8 (by decide))
theorem byt_3 (v : Int32) : (v >>> ((0 : Int32) &&& 31)) &&& 255 = byt v 3 := Int32.toBitVec_inj.mp (by_sh v.toBitVec 0 (by decide))
/-- k signs of a number, from a place on -/
def APn (t : Nat → Int32) (s : Nat) (v : Int32) : Nat → Nat → Int32
  | 0 => t
  | k + 1 => upd (APn t s v k) (s + k) (byt v k)
theorem APn_0 {t : Nat → Int32} {s : Nat} {v : Int32} {k : Nat} (hk : k = 0) : t = APn t s v k := by subst hk; rfl
theorem APn_st {t g g' : Nat → Int32} {s k k' : Nat} {v w i : Int32} (h : g = APn t s v k) (eg : g' = upd g i.toNatClampNeg w) (hi : i.toInt = (s : Int) + k) (hw : w = byt v k) (hk : k' = k + 1) : g' = APn t s v k' := by
  have q := idxI (x := i) (by omega)
  subst hk
  rw [eg, show i.toNatClampNeg = s + k from by omega, hw, h]
  rfl
theorem byt_u {v x u w : Int32} {k : Nat} (eu : u = (v.toUInt32 >>> (x.toUInt32 &&& Int32.toUInt32 31)).toInt32) (ew : w = u &&& 255) (hx : x.toInt = 24 - 8 * (k : Int)) (hk : k < 4) : w = byt v k := by
  have e : x = shI k := by
    apply Int32.toInt_inj.mp
    rcases (show k = 0 ∨ k = 1 ∨ k = 2 ∨ k = 3 from by omega) with rfl | rfl | rfl | rfl
    · rw [hx]; exact (show (24 - 8 * ((0 : Nat) : Int)) = (24 : Int32).toInt from by decide +kernel)
    · rw [hx]; exact (show (24 - 8 * ((1 : Nat) : Int)) = (16 : Int32).toInt from by decide +kernel)
    · rw [hx]; exact (show (24 - 8 * ((2 : Nat) : Int)) = (8 : Int32).toInt from by decide +kernel)
    · rw [hx]; exact (show (24 - 8 * ((3 : Nat) : Int)) = (0 : Int32).toInt from by decide +kernel)
  rw [ew, eu, e]
  rfl
theorem byt_r {v x u w : Int32} {k : Nat} (eu : u = v >>> (x &&& 31)) (ew : w = u &&& 255) (hx : (x = 24 ∧ k = 0) ∨ (x = 16 ∧ k = 1) ∨ (x = 8 ∧ k = 2) ∨ (x = 0 ∧ k = 3)) : w = byt v k := by
  rcases hx with ⟨rfl, rfl⟩ | ⟨rfl, rfl⟩ | ⟨rfl, rfl⟩ | ⟨rfl, rfl⟩
  · rw [ew, eu]; exact byt_0 v
  · rw [ew, eu]; exact byt_1 v
  · rw [ew, eu]; exact byt_2 v
  · rw [ew, eu]; exact byt_3 v
def FD (t : Nat → Int32) (s : Nat) (a b c d e : Int32) : Nat → Int32 := APn (APn (APn (APn (APn t s a 4) (s + 4) b 4) (s + 8) c 4) (s + 12) d 4) (s + 16) e 4
theorem FD_of {t t1 t2 t3 t4 t5 : Nat → Int32} {s s1 s2 s3 s4 s5 : Nat} {a b c d e : Int32} (h1 : t1 = APn t s1 a 4) (h2 : t2 = APn t1 s2 b 4) (h3 : t3 = APn t2 s3 c 4) (h4 : t4 = APn t3 s4 d 4) (h5 : t5 = APn t4 s5 e 4) (e1 : s1 = s) (e2 : s2 = s + 4) (e3 : s3 = s + 8) (e4 : s4 = s + 12) (e5 : s5 = s + 16) : t5 = FD t s a b c d e := by
  subst h1 h2 h3 h4 h5 e1 e2 e3 e4 e5
  rfl
/-- a text that is read: taken or not -/
def TXO (s : Except (Int × Int) Int) (r u u' fk fp : Int) : Prop := match s with
  | .ok _ => r ≠ -1 ∧ u' = 0 ∧ fk = 0 ∧ fp = -1
  | .error e => r = -1 ∧ u' = u ∧ fk = e.1 ∧ fp = e.2
theorem TXO_no {s : Except (Int × Int) Int} {n rf rp r u u' fk fp : Int} (h : RC s n rf rp) (hn : n = -1) (hr : r = -1) (hu : u' = u) (hf : fk = rf) (hp : fp = rp) : TXO s r u u' fk fp := by
  cases s with
  | ok c => exact absurd h.2 (by omega)
  | error e => exact ⟨hr, hu, hf.trans h.2.1, hp.trans h.2.2⟩
theorem TXO_yes {s : Except (Int × Int) Int} {n rf rp r u u' fk fp : Int} (h : RC s n rf rp) (hn : n ≠ -1) (hr : r ≠ -1) (hu : u' = 0) (hf : fk = 0) (hp : fp = -1) : TXO s r u u' fk fp := by
  cases s with
  | ok c => exact ⟨hr, hu, hf, hp⟩
  | error e => exact absurd h.1 hn
