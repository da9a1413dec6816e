/-! numbers of a part among those of the whole -/
def shf {α : Type} (a : Nat) (g : Nat → α) : Nat → α := fun j => g (a + j)
def shg {α : Type} (c a b : Nat) (g : Nat → α) : Nat → α := fun j => bif Nat.ble c j then g (b + j) else g (a + j)
def shs {α : Type} : List (Nat × Nat × Nat) → (Nat → α) → Nat → α
  | [], g, j => g j
  | (a, b, n) :: L, g, j => bif Nat.ble (a + n) j then shs L g j else g (b + (j - a))
def mgs {α : Type} : List (Nat × Nat × Nat) → (Nat → α) → (Nat → α) → Nat → α
  | [], _, g, j => g j
  | (a, b, n) :: L, f, g, j => bif Nat.ble a j then (bif Nat.ble (a + n) j then mgs L f g j else f (b + (j - a))) else g j
/-! a mask tells which cells of the whole a part has: one pass over the cells -/
def mkT {α : Type} : List Bool → List α → List α
  | true :: ms, x :: xs => x :: mkT ms xs
  | false :: ms, _ :: xs => mkT ms xs
  | _, _ => []
def mkF {α : Type} : List Bool → List α → List α
  | true :: ms, _ :: xs => mkF ms xs
  | false :: ms, x :: xs => x :: mkF ms xs
  | _, _ => []
def mkM {α : Type} : List Bool → List α → List α → List α
  | true :: ms, x :: a, b => x :: mkM ms a b
  | false :: ms, a, x :: b => x :: mkM ms a b
  | _, _, _ => []
def ixT : List Bool → Nat → List Nat
  | true :: ms, k => k :: ixT ms (k + 1)
  | false :: ms, k => ixT ms (k + 1)
  | [], _ => []
def ixF : List Bool → Nat → List Nat
  | true :: ms, k => ixF ms (k + 1)
  | false :: ms, k => k :: ixF ms (k + 1)
  | [], _ => []
def ixM : List Bool → Nat → Nat → List Nat
  | true :: ms, a, b => a :: ixM ms (a + 1) b
  | false :: ms, a, b => b :: ixM ms a (b + 1)
  | [], _, _ => []
def cT : List Bool → Nat
  | true :: ms => cT ms + 1
  | false :: ms => cT ms
  | [] => 0
def cF : List Bool → Nat
  | true :: ms => cF ms
  | false :: ms => cF ms + 1
  | [] => 0
theorem pre_at {α : Type} {pre xs : List α} {x : α} : (pre ++ x :: xs)[pre.length]? = some x := by
  have e : (pre ++ x :: xs)[pre.length]? = (x :: xs)[pre.length - pre.length]? := List.getElem?_append_right (Nat.le_refl _)
  rw [Nat.sub_self] at e
  exact e
theorem ixT_map {α : Type} (ms : List Bool) : ∀ (pre X : List α), ms.length = X.length → (ixT ms pre.length).map (fun i => (pre ++ X)[i]?) = (mkT ms X).map some := by
  induction ms with
  | nil => intro pre X _; rfl
  | cons m ms ih =>
    intro pre X h
    cases X with
    | nil => exact absurd (show ms.length + 1 = 0 from h) (Nat.succ_ne_zero _)
    | cons x xs =>
      have h' : ms.length = xs.length := Nat.succ.inj h
      have e : pre ++ x :: xs = (pre ++ [x]) ++ xs := by rw [List.append_assoc]; rfl
      have l : (pre ++ [x]).length = pre.length + 1 := by rw [List.length_append]; rfl
      have k := ih (pre ++ [x]) xs h'
      rw [l, ← e] at k
      cases m with
      | true =>
        show (pre ++ x :: xs)[pre.length]? :: (ixT ms (pre.length + 1)).map (fun i => (pre ++ x :: xs)[i]?) = some x :: (mkT ms xs).map some
        exact congr (congrArg List.cons pre_at) k
      | false => exact k
theorem ixF_map {α : Type} (ms : List Bool) : ∀ (pre X : List α), ms.length = X.length → (ixF ms pre.length).map (fun i => (pre ++ X)[i]?) = (mkF ms X).map some := by
  induction ms with
  | nil => intro pre X _; rfl
  | cons m ms ih =>
    intro pre X h
    cases X with
    | nil => exact absurd (show ms.length + 1 = 0 from h) (Nat.succ_ne_zero _)
    | cons x xs =>
      have h' : ms.length = xs.length := Nat.succ.inj h
      have e : pre ++ x :: xs = (pre ++ [x]) ++ xs := by rw [List.append_assoc]; rfl
      have l : (pre ++ [x]).length = pre.length + 1 := by rw [List.length_append]; rfl
      have k := ih (pre ++ [x]) xs h'
      rw [l, ← e] at k
      cases m with
      | true => exact k
      | false =>
        show (pre ++ x :: xs)[pre.length]? :: (ixF ms (pre.length + 1)).map (fun i => (pre ++ x :: xs)[i]?) = some x :: (mkF ms xs).map some
        exact congr (congrArg List.cons pre_at) k
theorem mkF_len {α : Type} (ms : List Bool) : ∀ (X : List α), ms.length = X.length → cF ms = (mkF ms X).length := by
  induction ms with
  | nil => intro X _; rfl
  | cons m ms ih =>
    intro X h
    cases X with
    | nil => exact absurd (show ms.length + 1 = 0 from h) (Nat.succ_ne_zero _)
    | cons x xs =>
      have k := ih xs (Nat.succ.inj h)
      cases m with
      | true => exact k
      | false => exact congrArg (· + 1) k
theorem ixM_map {α : Type} {W : List α} (ms : List Bool) : ∀ (a b : List α) (ka kb : Nat), (∀ j : Nat, j < a.length → W[ka + j]? = a[j]?) → (∀ j : Nat, j < b.length → W[kb + j]? = b[j]?) → cT ms = a.length → cF ms = b.length → (ixM ms ka kb).map (fun i => W[i]?) = (mkM ms a b).map some := by
  induction ms with
  | nil => intro a b ka kb _ _ _ _; rfl
  | cons m ms ih =>
    intro a b ka kb ha hb h1 h2
    cases m with
    | true =>
      cases a with
      | nil => exact absurd (show cT ms + 1 = 0 from h1) (Nat.succ_ne_zero _)
      | cons x a =>
        have k := ih a b (ka + 1) kb (fun j hj => by
          have q := ha (j + 1) (Nat.succ_lt_succ hj)
          rw [show ka + 1 + j = ka + (j + 1) from by omega]
          exact q) hb (Nat.succ.inj h1) h2
        show W[ka]? :: (ixM ms (ka + 1) kb).map (fun i => W[i]?) = some x :: (mkM ms a b).map some
        exact congr (congrArg List.cons (ha 0 (Nat.succ_pos _))) k
    | false =>
      cases b with
      | nil => exact absurd (show cF ms + 1 = 0 from h2) (Nat.succ_ne_zero _)
      | cons x b =>
        have k := ih a b ka (kb + 1) ha (fun j hj => by
          have q := hb (j + 1) (Nat.succ_lt_succ hj)
          rw [show kb + 1 + j = kb + (j + 1) from by omega]
          exact q) h1 (Nat.succ.inj h2)
        show W[kb]? :: (ixM ms ka (kb + 1)).map (fun i => W[i]?) = some x :: (mkM ms a b).map some
        exact congr (congrArg List.cons (hb 0 (Nat.succ_pos _))) k
theorem ixT_ge (ms : List Bool) : ∀ (k i : Nat), i ∈ ixT ms k → k ≤ i := by
  induction ms with
  | nil => intro k i h; cases h
  | cons m ms ih =>
    intro k i h
    cases m with
    | true =>
      rcases List.mem_cons.mp h with e | h
      · omega
      · have q := ih (k + 1) i h
        omega
    | false =>
      have q := ih (k + 1) i h
      omega
theorem ixF_ge (ms : List Bool) : ∀ (k i : Nat), i ∈ ixF ms k → k ≤ i := by
  induction ms with
  | nil => intro k i h; cases h
  | cons m ms ih =>
    intro k i h
    cases m with
    | true =>
      have q := ih (k + 1) i h
      omega
    | false =>
      rcases List.mem_cons.mp h with e | h
      · omega
      · have q := ih (k + 1) i h
        omega
theorem nd_cons {a : Nat} {l : List Nat} (h : a ∉ l) (k : va_nd l = true) : va_nd (a :: l) = true := Bool.and_eq_true_iff.mpr ⟨decide_eq_true h, k⟩
theorem nd_T (ms : List Bool) : ∀ k : Nat, va_nd (ixT ms k) = true := by
  induction ms with
  | nil => intro k; rfl
  | cons m ms ih =>
    intro k
    cases m with
    | true => exact nd_cons (fun h => by have q := ixT_ge ms (k + 1) k h; omega) (ih (k + 1))
    | false => exact ih (k + 1)
theorem nd_F (ms : List Bool) : ∀ k : Nat, va_nd (ixF ms k) = true := by
  induction ms with
  | nil => intro k; rfl
  | cons m ms ih =>
    intro k
    cases m with
    | true => exact ih (k + 1)
    | false => exact nd_cons (fun h => by have q := ixF_ge ms (k + 1) k h; omega) (ih (k + 1))
theorem dis_FT (ms : List Bool) : ∀ (k i : Nat), i ∈ ixF ms k → i ∉ ixT ms k := by
  induction ms with
  | nil => intro k i h; cases h
  | cons m ms ih =>
    intro k i h
    cases m with
    | true =>
      intro h2
      rcases List.mem_cons.mp h2 with e | h2
      · have q := ixF_ge ms (k + 1) i h
        omega
      · exact ih (k + 1) i h h2
    | false =>
      intro h2
      rcases List.mem_cons.mp h with e | h
      · have q := ixT_ge ms (k + 1) i h2
        omega
      · exact ih (k + 1) i h h2
theorem ixM_in (ms : List Bool) : ∀ (ka kb i : Nat), i ∈ ixM ms ka kb → ka ≤ i ∨ (kb ≤ i ∧ i < kb + cF ms) := by
  induction ms with
  | nil => intro ka kb i h; cases h
  | cons m ms ih =>
    intro ka kb i h
    cases m with
    | true =>
      show ka ≤ i ∨ (kb ≤ i ∧ i < kb + cF ms)
      rcases List.mem_cons.mp h with e | h
      · omega
      · have q := ih (ka + 1) kb i h
        omega
    | false =>
      show ka ≤ i ∨ (kb ≤ i ∧ i < kb + (cF ms + 1))
      rcases List.mem_cons.mp h with e | h
      · omega
      · have q := ih ka (kb + 1) i h
        omega
theorem nd_M (ms : List Bool) : ∀ ka kb : Nat, kb + cF ms ≤ ka → va_nd (ixM ms ka kb) = true := by
  induction ms with
  | nil => intro ka kb _; rfl
  | cons m ms ih =>
    intro ka kb h
    cases m with
    | true =>
      have h : kb + cF ms ≤ ka := h
      exact nd_cons (fun z => by have q := ixM_in ms (ka + 1) kb ka z; omega) (ih (ka + 1) kb (by omega))
    | false =>
      have h : kb + (cF ms + 1) ≤ ka := h
      exact nd_cons (fun z => by have q := ixM_in ms ka (kb + 1) kb z; omega) (ih ka (kb + 1) (by omega))
theorem emk_hp {X w1 X' : va_W} (ms : List Bool) (hl : ms.length = X.length) (h1 : cT ms = w1.length) (hp : mkM ms w1 (mkF ms X) = X') : (ixM ms (mkF ms X).length 0).map (fun i => (mkF ms X ++ w1)[i]?) = X'.map some := by
  rw [← hp]
  refine ixM_map ms w1 (mkF ms X) _ 0 (fun j _ => ?_) (fun j hj => ?_) h1 (mkF_len ms X hl)
  · have e : (mkF ms X ++ w1)[(mkF ms X).length + j]? = w1[(mkF ms X).length + j - (mkF ms X).length]? := List.getElem?_append_right (Nat.le_add_right _ _)
    rw [Nat.add_sub_cancel_left] at e
    exact e
  · rw [Nat.zero_add]
    exact List.getElem?_append_left hj
theorem restW_F {X : va_W} (ms : List Bool) (hl : ms.length = X.length) : restW X (ixF ms 0) = mkF ms X := by
  have h : (ixF ms 0).map (fun i => X[i]?) = (mkF ms X).map some := ixF_map ms [] X hl
  have e : restW X (ixF ms 0) = ((ixF ms 0).map (fun i => X[i]?)).map (fun o => o.getD (0, .inr (0, []))) := by
    rw [List.map_map]
    rfl
  rw [e, h, List.map_map]
  exact (List.map_congr_left (fun _ _ => rfl)).trans (List.map_id _)
theorem ck_C {X wc : va_W} (ms : List Bool) (hl : ms.length = X.length) (hC : mkT ms X = wc) : (ixT ms 0).map (fun i => X[i]?) = wc.map some := by
  rw [← hC]
  exact ixT_map ms [] X hl
theorem ck_R {X : va_W} (ms : List Bool) (hl : ms.length = X.length) : (ixF ms 0).map (fun i => X[i]?) = (restW X (ixF ms 0)).map some := by
  rw [restW_F ms hl]
  exact ixF_map ms [] X hl
theorem ck_P {X w1 X' : va_W} (ms : List Bool) (hl : ms.length = X.length) (h1 : cT ms = w1.length) (hp : mkM ms w1 (mkF ms X) = X') : (ixM ms (mkF ms X).length 0).map (fun i => (restW X (ixF ms 0) ++ w1)[i]?) = X'.map some := by
  rw [restW_F ms hl]
  exact emk_hp ms hl h1 hp
theorem ck_M {X : va_W} (ms : List Bool) (hl : ms.length = X.length) : va_nd (ixM ms (mkF ms X).length 0) = true := nd_M ms _ 0 (by rw [Nat.zero_add, mkF_len ms X hl]; exact Nat.le_refl _)
section XRK
variable {p : Program} {l : Launch} {e : Env} {R : Room} {s : State} {m : MethodId} {args : Array Value} {below : List Frame} {meth : Method} {c : Code} {H : Heap} {locs : List Loc} {cells slots : Nat} {Q : State → Prop}
variable {pc : Nat} {ls : Array Slot} {rest : List Value} {D : va_G} {A : Nat → Prop} {cI cJ : ClassId} {ws : va_W} {H0 : Heap}
theorem ck_v {S : Type} {post : S → Prop} {w1 ws' : S → va_W} {wc : va_W} {st : List Value} {av : Array Value} (mk : List Bool) (hw : WD D A H0 ws H locs) (hl : mk.length = ws.length)
    (hr : (ixT mk 0).map (fun i => ws[i]?) = wc.map some → va_Run p l e R s m args below meth c H locs cells slots 0 0 (F0 m pc ls st) rest (va_Qv post (fun u => QW D cI cJ (va_A wc H.size) (w1 u)) (va_A wc H.size) av) (va_A wc H.size))
    (hC : mkT mk ws = wc) (h1 : ∀ u : S, cT mk = (w1 u).length) (hp : ∀ u : S, mkM mk (w1 u) (mkF mk ws) = ws' u)
    (kk : ∀ (u : S) (H1 : Heap) (locs1 : List Loc), post u → WD D A H0 (ws' u) H1 locs1 → W p l e R s m args below meth c H1 locs1 cells slots Q (F0 m (pc + 3) ls rest)) : W p l e R s m args below meth c H locs cells slots Q (F0 m pc ls st) :=
  cq_v hw (ixT mk 0) (ixF mk 0) (ixM mk (mkF mk ws).length 0) (ck_C mk hl hC) (ck_R mk hl) (nd_F mk 0) (dis_FT mk 0) (fun u => ck_P mk hl (h1 u) (hp u)) (ck_M mk hl) (hr (ck_C mk hl hC)) kk
theorem ck_i {S : Type} {post : Int32 → S → Prop} {w1 ws' : S → va_W} {wc : va_W} {st : List Value} {av : Array Value} (mk : List Bool) (hw : WD D A H0 ws H locs) (hl : mk.length = ws.length)
    (hr : (ixT mk 0).map (fun i => ws[i]?) = wc.map some → va_Run p l e R s m args below meth c H locs cells slots 0 0 (F0 m pc ls st) rest (va_Qi post (fun u => QW D cI cJ (va_A wc H.size) (w1 u)) (va_A wc H.size) av) (va_A wc H.size))
    (hC : mkT mk ws = wc) (h1 : ∀ u : S, cT mk = (w1 u).length) (hp : ∀ u : S, mkM mk (w1 u) (mkF mk ws) = ws' u)
    (kk : ∀ (r : Int32) (u : S) (H1 : Heap) (locs1 : List Loc), post r u → WD D A H0 (ws' u) H1 locs1 → W p l e R s m args below meth c H1 locs1 cells slots Q (F0 m (pc + 3) ls (.int r :: rest))) : W p l e R s m args below meth c H locs cells slots Q (F0 m pc ls st) :=
  cq_i hw (ixT mk 0) (ixF mk 0) (ixM mk (mkF mk ws).length 0) (ck_C mk hl hC) (ck_R mk hl) (nd_F mk 0) (dis_FT mk 0) (fun u => ck_P mk hl (h1 u) (hp u)) (ck_M mk hl) (hr (ck_C mk hl hC)) kk
theorem ck_l {S : Type} {post : Int64 → S → Prop} {w1 ws' : S → va_W} {wc : va_W} {st : List Value} {av : Array Value} (mk : List Bool) (hw : WD D A H0 ws H locs) (hl : mk.length = ws.length)
    (hr : (ixT mk 0).map (fun i => ws[i]?) = wc.map some → va_Run p l e R s m args below meth c H locs cells slots 0 0 (F0 m pc ls st) rest (va_Ql post (fun u => QW D cI cJ (va_A wc H.size) (w1 u)) (va_A wc H.size) av) (va_A wc H.size))
    (hC : mkT mk ws = wc) (h1 : ∀ u : S, cT mk = (w1 u).length) (hp : ∀ u : S, mkM mk (w1 u) (mkF mk ws) = ws' u)
    (kk : ∀ (r : Int64) (u : S) (H1 : Heap) (locs1 : List Loc), post r u → WD D A H0 (ws' u) H1 locs1 → W p l e R s m args below meth c H1 locs1 cells slots Q (F0 m (pc + 3) ls (.long r :: rest))) : W p l e R s m args below meth c H locs cells slots Q (F0 m pc ls st) :=
  cq_l hw (ixT mk 0) (ixF mk 0) (ixM mk (mkF mk ws).length 0) (ck_C mk hl hC) (ck_R mk hl) (nd_F mk 0) (dis_FT mk 0) (fun u => ck_P mk hl (h1 u) (hp u)) (ck_M mk hl) (hr (ck_C mk hl hC)) kk
end XRK
