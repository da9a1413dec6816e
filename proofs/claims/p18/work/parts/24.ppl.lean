def pplOK (hs : Int) (f : Nat → Int32) : Prop := ∀ h : Nat, (h : Int) < hs → 1 ≤ (f h).toInt ∧ (f h).toInt ≤ 20
theorem pplOK_add {hs k : Int} {f g : Nat → Int32} {d x : Int32} (h : pplOK hs f) (hg : g = upd f d.toNatClampNeg x) (hd : d.toInt = hs) (h0 : 0 ≤ hs) (hx : 1 ≤ x.toInt ∧ x.toInt ≤ 20) (hk : k = hs + 1) : pplOK k g := by
  intro u hu
  have e := idxI (x := d) (by omega)
  rw [hg]
  by_cases q : u = d.toNatClampNeg
  · rw [q, pk_us]; exact hx
  · rw [pk_un q]; exact h u (by omega)
theorem pplOK_upd {hs : Int} {f g : Nat → Int32} {d : Nat} {x : Int32} (h : pplOK hs f) (hg : g = upd f d x) (hx : 1 ≤ x.toInt ∧ x.toInt ≤ 20) : pplOK hs g := by
  intro u hu
  rw [hg]
  by_cases q : u = d
  · rw [q, pk_us]; exact hx
  · rw [pk_un q]; exact h u hu
