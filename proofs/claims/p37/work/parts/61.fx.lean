/-! FX: what a heap is in numbers; how values, cells, heaps are told -/
def fx_cI (c : Option cz_C) (k : Nat) : Int := match c with
  | some (.inr (_, fs)) => (match fs[k]? with
    | some (.int x) => x.toInt
    | _ => 0)
  | some (.inl (_, _, .inl f)) => (f k).toInt
  | some (.inl (_, _, .inr (.inl f))) => (f k).toInt
  | _ => 0
def fx_cR (b : Nat) (c : Option cz_C) (k : Nat) : Int := match c with
  | some (.inl (_, _, .inr (.inr (.inr (.inr f))))) => (match f k with
    | some a => (a : Int) - b
    | none => -1)
  | _ => -1
def fx_of (E : cz_E) (h : cz_H) : fx_S := (fun p i => if 0 ≤ p ∧ 0 ≤ i then fx_cI h[p.toNat]? i.toNat else 0, fun p i => if 0 ≤ p ∧ 0 ≤ i then fx_cR E.1 h[p.toNat]? i.toNat else -1, (h.length : Int))
/-- of one shape -/
def fx_sm (c c' : cz_C) : Prop := match c, c' with
  | .inr (ci, fs), .inr (cj, gs) => cj = ci ∧ gs.length = fs.length
  | .inl (t, n, _), .inl (u, m, _) => u = t ∧ m = n
  | _, _ => False
theorem fx_sm_rf (c : cz_C) : fx_sm c c := by
  rcases c with ⟨t, n, y⟩ | ⟨ci, fs⟩
  · exact ⟨rfl, rfl⟩
  · exact ⟨rfl, rfl⟩
theorem fx_sm_tr {a b c : cz_C} (h : fx_sm a b) (g : fx_sm b c) : fx_sm a c := by
  rcases a with ⟨t, n, y⟩ | ⟨ci, fs⟩ <;> rcases b with ⟨t', n', y'⟩ | ⟨ci', fs'⟩ <;> rcases c with ⟨t2, n2, y2⟩ | ⟨ci2, fs2⟩ <;> first | exact h.elim | exact g.elim | exact ⟨g.1.trans h.1, g.2.trans h.2⟩
def fx_ext (h h' : cz_H) : Prop := h.length ≤ h'.length ∧ ∀ (p : Nat) (c : cz_C), h[p]? = some c → ∃ c', h'[p]? = some c' ∧ fx_sm c c'
theorem fx_ext_rf (h : cz_H) : fx_ext h h := ⟨Nat.le_refl _, fun _ c e => ⟨c, e, fx_sm_rf c⟩⟩
theorem fx_ext_tr {a b c : cz_H} (h : fx_ext a b) (g : fx_ext b c) : fx_ext a c := by
  refine ⟨Nat.le_trans h.1 g.1, fun p x e => ?_⟩
  obtain ⟨y, e1, s1⟩ := h.2 p x e
  obtain ⟨z, e2, s2⟩ := g.2 p y e1
  exact ⟨z, e2, fx_sm_tr s1 s2⟩
theorem fx_ext_set {h : cz_H} {p : Nat} {c c' : cz_C} (e : h[p]? = some c) (s : fx_sm c c') : fx_ext h (h.set p c') := by
  have hp := (List.getElem?_eq_some_iff.mp e).1
  refine ⟨Nat.le_of_eq List.length_set.symm, fun q x hq => ?_⟩
  by_cases hpq : p = q
  · subst hpq
    cases e.symm.trans hq
    exact ⟨c', List.getElem?_set_self hp, s⟩
  · exact ⟨x, (List.getElem?_set_ne hpq).trans hq, fx_sm_rf x⟩
theorem fx_ext_app (h : cz_H) (c : cz_C) : fx_ext h (h ++ [c]) := by
  refine ⟨by rw [List.length_append]; exact Nat.le_add_right _ _, fun q x hq => ?_⟩
  have hp := (List.getElem?_eq_some_iff.mp hq).1
  exact ⟨x, (List.getElem?_append_left hp).trans hq, fx_sm_rf x⟩
/-- a row: its numbers within its type; references to whole objects -/
def fx_ar (E : cz_E) (h : cz_H) (n0 : Nat) (tc : Nat) (y : (Nat → Int32) ⊕ (Nat → Int64) ⊕ (Nat → UInt32) ⊕ (Nat → UInt64) ⊕ (Nat → Option Nat)) : Prop := match tc with
  | 0 => ∃ f, y = .inl f
  | 1 => ∃ f, y = .inl f ∧ ∀ i, -128 ≤ (f i).toInt ∧ (f i).toInt ≤ 127
  | 2 => ∃ f, y = .inr (.inl f)
  | 3 => ∃ f, y = .inl f ∧ ∀ i, 0 ≤ (f i).toInt ∧ (f i).toInt ≤ 65535
  | 4 => ∃ f, y = .inl f ∧ ∀ i, 0 ≤ (f i).toInt ∧ (f i).toInt ≤ 1
  | 5 => ∃ f, y = .inr (.inr (.inr (.inr f))) ∧ ∀ (i a : Nat), f i = some a → E.1 ≤ a ∧ a - E.1 < n0 ∧ ∃ fs, h[a - E.1]? = some (.inr (10, fs))
  | 6 => ∃ f, y = .inr (.inr (.inr (.inr f))) ∧ ∀ (i a : Nat), f i = some a → E.1 ≤ a ∧ a - E.1 < n0 ∧ ∃ fs, h[a - E.1]? = some (.inr (9, fs))
  | _ => False
def fx_shp (h : cz_H) (q kd a b : Nat) : Prop := if kd = 0 then ∃ fs, h[q]? = some (.inr (a, fs)) else ∃ y, h[q]? = some (.inl (a, b, y))
def fx_fd (E : cz_E) (h : cz_H) (n0 p ci k : Nat) (v : Value) : Prop := match fx_dl ci k with
  | none => ∃ x : Int32, v = .int x
  | some (d, kd, a, b) => cz_isA v = true ∧ (p < n0 → v = .ref (E.1 + (p + d)) ∧ p + d < n0 ∧ fx_shp h (p + d) kd a b)
def fx_cw (E : cz_E) (h : cz_H) (n0 p : Nat) (c : cz_C) : Prop := match c with
  | .inr (ci, fs) => ci < 13 ∧ fs.length = fx_nf ci ∧ ∀ (k : Nat) (v : Value), fs[k]? = some v → fx_fd E h n0 p ci k v
  | .inl (tc, _, y) => fx_ar E h n0 tc y
/-- all cells are well formed; those below n0 are whole -/
def fx_WF (E : cz_E) (n0 : Nat) (h : cz_H) : Prop := n0 ≤ h.length ∧ ∀ (p : Nat) (c : cz_C), h[p]? = some c → fx_cw E h n0 p c
theorem fx_shp_ext {h h' : cz_H} (x : fx_ext h h') {q kd a b : Nat} (s : fx_shp h q kd a b) : fx_shp h' q kd a b := by
  unfold fx_shp at s ⊢
  split
  · next e =>
    rw [if_pos e] at s
    obtain ⟨fs, hs⟩ := s
    obtain ⟨c', h1, h2⟩ := x.2 _ _ hs
    rcases c' with ⟨t, n, y⟩ | ⟨ci, gs⟩
    · exact h2.elim
    · obtain ⟨rfl, -⟩ := h2
      exact ⟨gs, h1⟩
  · next e =>
    rw [if_neg e] at s
    obtain ⟨y, hs⟩ := s
    obtain ⟨c', h1, h2⟩ := x.2 _ _ hs
    rcases c' with ⟨t, n, z⟩ | ⟨ci, gs⟩
    · obtain ⟨rfl, rfl⟩ := h2
      exact ⟨z, h1⟩
    · exact h2.elim
theorem fx_obj_ext {h h' : cz_H} (x : fx_ext h h') {q a : Nat} (s : ∃ fs, h[q]? = some (.inr (a, fs))) : ∃ fs, h'[q]? = some (.inr (a, fs)) := fx_shp_ext (kd := 0) (b := 0) x s
theorem fx_ar_ext {E : cz_E} {h h' : cz_H} {n0 n1 tc : Nat} {y : (Nat → Int32) ⊕ (Nat → Int64) ⊕ (Nat → UInt32) ⊕ (Nat → UInt64) ⊕ (Nat → Option Nat)} (x : fx_ext h h') (hn : n0 ≤ n1) (s : fx_ar E h n0 tc y) : fx_ar E h' n1 tc y := by
  match tc, s with
  | 0, s => exact s
  | 1, s => exact s
  | 2, s => exact s
  | 3, s => exact s
  | 4, s => exact s
  | 5, ⟨f, e, g⟩ => exact ⟨f, e, fun i a ha => ⟨(g i a ha).1, Nat.lt_of_lt_of_le (g i a ha).2.1 hn, fx_obj_ext x (g i a ha).2.2⟩⟩
  | 6, ⟨f, e, g⟩ => exact ⟨f, e, fun i a ha => ⟨(g i a ha).1, Nat.lt_of_lt_of_le (g i a ha).2.1 hn, fx_obj_ext x (g i a ha).2.2⟩⟩
  | n + 7, s => exact s.elim
theorem fx_cw_ext {E : cz_E} {h h' : cz_H} {n0 p : Nat} {c : cz_C} (x : fx_ext h h') (s : fx_cw E h n0 p c) : fx_cw E h' n0 p c := by
  rcases c with ⟨t, n, y⟩ | ⟨ci, fs⟩
  · exact fx_ar_ext x (Nat.le_refl _) s
  · refine ⟨s.1, s.2.1, fun k v hv => ?_⟩
    have := s.2.2 k v hv
    unfold fx_fd at this ⊢
    split
    · next e => rw [e] at this; exact this
    · next e =>
      rw [e] at this
      exact ⟨this.1, fun hp => ⟨(this.2 hp).1, (this.2 hp).2.1, fx_shp_ext x (this.2 hp).2.2⟩⟩
theorem fx_WF_set {E : cz_E} {n0 : Nat} {h : cz_H} {p : Nat} {c c' : cz_C} (w : fx_WF E n0 h) (e : h[p]? = some c) (s : fx_sm c c') (hc : fx_cw E (h.set p c') n0 p c') : fx_WF E n0 (h.set p c') := by
  have hp := (List.getElem?_eq_some_iff.mp e).1
  refine ⟨by rw [List.length_set]; exact w.1, fun q x hq => ?_⟩
  by_cases hpq : p = q
  · subst hpq
    rw [List.getElem?_set_self hp] at hq
    cases hq
    exact hc
  · rw [List.getElem?_set_ne hpq] at hq
    exact fx_cw_ext (fx_ext_set e s) (w.2 q x hq)
theorem fx_WF_app {E : cz_E} {n0 : Nat} {h : cz_H} {c : cz_C} (w : fx_WF E n0 h) (hc : fx_cw E (h ++ [c]) n0 h.length c) : fx_WF E n0 (h ++ [c]) := by
  refine ⟨by rw [List.length_append]; exact Nat.le_trans w.1 (Nat.le_add_right _ _), fun q x hq => ?_⟩
  have hq' := (List.getElem?_eq_some_iff.mp hq).1
  rw [List.length_append] at hq'
  rcases Nat.lt_or_ge q h.length with hl | hl
  · rw [List.getElem?_append_left hl] at hq
    exact fx_cw_ext (fx_ext_app h c) (w.2 q x hq)
  · have : q = h.length := Nat.le_antisymm (Nat.le_of_lt_succ hq') hl
    subst this
    rw [List.getElem?_concat_length] at hq
    cases hq
    exact hc
/-- numbers behind a change of one cell -/
theorem fx_of_set {E : cz_E} {h : cz_H} {p i : Nat} {c c' : cz_C} {x : Int} (e : h[p]? = some c) (hI : ∀ j, fx_cI (some c') j = if j = i then x else fx_cI (some c) j) (hR : ∀ j, fx_cR E.1 (some c') j = fx_cR E.1 (some c) j) : fx_of E (h.set p c') = (fx_up (fx_of E h).1 (p : Int) (i : Int) x, (fx_of E h).2) := by
  have hp := (List.getElem?_eq_some_iff.mp e).1
  unfold fx_of
  refine Prod.ext ?_ (Prod.ext ?_ ?_)
  · funext q j
    show (if 0 ≤ q ∧ 0 ≤ j then fx_cI (h.set p c')[q.toNat]? j.toNat else 0) = if q = (p : Int) ∧ j = (i : Int) then x else (if 0 ≤ q ∧ 0 ≤ j then fx_cI h[q.toNat]? j.toNat else 0)
    by_cases h0 : 0 ≤ q ∧ 0 ≤ j
    · rw [if_pos h0, if_pos h0]
      by_cases hpq : p = q.toNat
      · rw [← hpq, List.getElem?_set_self hp, hI, e]
        by_cases hji : j.toNat = i
        · rw [if_pos hji, if_pos ⟨by omega, by omega⟩]
        · rw [if_neg hji, if_neg (by omega)]
      · rw [List.getElem?_set_ne hpq, if_neg (by omega)]
    · rw [if_neg h0, if_neg h0, if_neg (by omega)]
  · funext q j
    show (if 0 ≤ q ∧ 0 ≤ j then fx_cR E.1 (h.set p c')[q.toNat]? j.toNat else -1) = (if 0 ≤ q ∧ 0 ≤ j then fx_cR E.1 h[q.toNat]? j.toNat else -1)
    by_cases h0 : 0 ≤ q ∧ 0 ≤ j
    · rw [if_pos h0, if_pos h0]
      by_cases hpq : p = q.toNat
      · rw [← hpq, List.getElem?_set_self hp, hR, e]
      · rw [List.getElem?_set_ne hpq]
    · rw [if_neg h0, if_neg h0]
  · show ((h.set p c').length : Int) = (h.length : Int)
    rw [List.length_set]
/-- behind a change of references -/
theorem fx_of_setR {E : cz_E} {h : cz_H} {p i : Nat} {c c' : cz_C} {x : Int} (e : h[p]? = some c) (hI : ∀ j, fx_cI (some c') j = fx_cI (some c) j) (hR : ∀ j, fx_cR E.1 (some c') j = if j = i then x else fx_cR E.1 (some c) j) : fx_of E (h.set p c') = ((fx_of E h).1, fx_up (fx_of E h).2.1 (p : Int) (i : Int) x, (fx_of E h).2.2) := by
  have hp := (List.getElem?_eq_some_iff.mp e).1
  unfold fx_of
  refine Prod.ext ?_ (Prod.ext ?_ ?_)
  · funext q j
    show (if 0 ≤ q ∧ 0 ≤ j then fx_cI (h.set p c')[q.toNat]? j.toNat else 0) = (if 0 ≤ q ∧ 0 ≤ j then fx_cI h[q.toNat]? j.toNat else 0)
    by_cases h0 : 0 ≤ q ∧ 0 ≤ j
    · rw [if_pos h0, if_pos h0]
      by_cases hpq : p = q.toNat
      · rw [← hpq, List.getElem?_set_self hp, hI, e]
      · rw [List.getElem?_set_ne hpq]
    · rw [if_neg h0, if_neg h0]
  · funext q j
    show (if 0 ≤ q ∧ 0 ≤ j then fx_cR E.1 (h.set p c')[q.toNat]? j.toNat else -1) = if q = (p : Int) ∧ j = (i : Int) then x else (if 0 ≤ q ∧ 0 ≤ j then fx_cR E.1 h[q.toNat]? j.toNat else -1)
    by_cases h0 : 0 ≤ q ∧ 0 ≤ j
    · rw [if_pos h0, if_pos h0]
      by_cases hpq : p = q.toNat
      · rw [← hpq, List.getElem?_set_self hp, hR, e]
        by_cases hji : j.toNat = i
        · rw [if_pos hji, if_pos ⟨by omega, by omega⟩]
        · rw [if_neg hji, if_neg (by omega)]
      · rw [List.getElem?_set_ne hpq, if_neg (by omega)]
    · rw [if_neg h0, if_neg h0, if_neg (by omega)]
  · show ((h.set p c').length : Int) = (h.length : Int)
    rw [List.length_set]
/-- behind a change that no number shows -/
theorem fx_of_set0 {E : cz_E} {h : cz_H} {p : Nat} {c c' : cz_C} (e : h[p]? = some c) (hI : ∀ j, fx_cI (some c') j = fx_cI (some c) j) (hR : ∀ j, fx_cR E.1 (some c') j = fx_cR E.1 (some c) j) : fx_of E (h.set p c') = fx_of E h := by
  have hp := (List.getElem?_eq_some_iff.mp e).1
  unfold fx_of
  refine Prod.ext ?_ (Prod.ext ?_ ?_)
  · funext q j
    show (if 0 ≤ q ∧ 0 ≤ j then fx_cI (h.set p c')[q.toNat]? j.toNat else 0) = (if 0 ≤ q ∧ 0 ≤ j then fx_cI h[q.toNat]? j.toNat else 0)
    by_cases hpq : p = q.toNat
    · rw [← hpq, List.getElem?_set_self hp, hI, e]
    · rw [List.getElem?_set_ne hpq]
  · funext q j
    show (if 0 ≤ q ∧ 0 ≤ j then fx_cR E.1 (h.set p c')[q.toNat]? j.toNat else -1) = (if 0 ≤ q ∧ 0 ≤ j then fx_cR E.1 h[q.toNat]? j.toNat else -1)
    by_cases hpq : p = q.toNat
    · rw [← hpq, List.getElem?_set_self hp, hR, e]
    · rw [List.getElem?_set_ne hpq]
  · show ((h.set p c').length : Int) = (h.length : Int)
    rw [List.length_set]
/-- behind a new cell that holds nothing yet -/
theorem fx_of_app {E : cz_E} {h : cz_H} {c : cz_C} (hI : ∀ j, fx_cI (some c) j = 0) (hR : ∀ j, fx_cR E.1 (some c) j = -1) : fx_of E (h ++ [c]) = ((fx_of E h).1, (fx_of E h).2.1, (fx_of E h).2.2 + 1) := by
  unfold fx_of
  refine Prod.ext ?_ (Prod.ext ?_ ?_)
  · funext q j
    show (if 0 ≤ q ∧ 0 ≤ j then fx_cI (h ++ [c])[q.toNat]? j.toNat else 0) = (if 0 ≤ q ∧ 0 ≤ j then fx_cI h[q.toNat]? j.toNat else 0)
    by_cases hl : q.toNat < h.length
    · rw [List.getElem?_append_left hl]
    · by_cases hq : q.toNat = h.length
      · rw [hq, List.getElem?_concat_length, hI, List.getElem?_eq_none (Nat.le_refl _)]
        rfl
      · rw [List.getElem?_eq_none (by rw [List.length_append]; show h.length + 1 ≤ _; omega), List.getElem?_eq_none (by omega)]
  · funext q j
    show (if 0 ≤ q ∧ 0 ≤ j then fx_cR E.1 (h ++ [c])[q.toNat]? j.toNat else -1) = (if 0 ≤ q ∧ 0 ≤ j then fx_cR E.1 h[q.toNat]? j.toNat else -1)
    by_cases hl : q.toNat < h.length
    · rw [List.getElem?_append_left hl]
    · by_cases hq : q.toNat = h.length
      · rw [hq, List.getElem?_concat_length, hR, List.getElem?_eq_none (Nat.le_refl _)]
        rfl
      · rw [List.getElem?_eq_none (by rw [List.length_append]; show h.length + 1 ≤ _; omega), List.getElem?_eq_none (by omega)]
  · show ((h ++ [c]).length : Int) = (h.length : Int) + 1
    rw [List.length_append]
    rfl
/-! values -/
def fx_hn (h : cz_H) (p hint : Nat) : Prop := hint = 0 ∨ ∃ tc n y, hint = 8 * n + tc + 1 ∧ tc < 7 ∧ h[p]? = some (.inl (tc, n, y))
def fx_vr (E : cz_E) (h : cz_H) (n0 : Nat) (φ : fx_O × List fx_FC) (ν : List Int) (s : fx_V) (v : Value) : Prop := s.2.1.1 ≤ ν.length ∧ match s.1 with
  | 0 => ∃ x : Int32, v = .int x ∧ x.toInt = fx_o ν s.2.1
  | 1 => ∃ x : Int64, v = .long x ∧ x.toInt = fx_o ν s.2.1
  | 2 => ∃ p : Nat, v = .ref (E.1 + p) ∧ (p : Int) = fx_o ν s.2.1 ∧ p < h.length ∧ (p < n0 ∨ fx_fr φ s.2.1 = true) ∧ fx_hn h p s.2.2
  | 3 => (v = .null ∧ fx_o ν s.2.1 = -1) ∨ ∃ p : Nat, v = .ref (E.1 + p) ∧ (p : Int) = fx_o ν s.2.1 ∧ p < h.length ∧ p < n0
  | 4 => v = .null
  | 5 => ∃ i : Nat, i < 14 ∧ v = .ref (E.2.2.1 i) ∧ (i : Int) = fx_o ν s.2.1
  | 6 => ∃ i : Nat, i < 14 ∧ v = .ref (E.2.2.2.1 i) ∧ (i : Int) = fx_o ν s.2.1
  | 7 => v = .ref E.2.1.1
  | 8 => v = E.2.2.2.2
  | _ => False
theorem fx_o_app {ν δ : List Int} {o : fx_O} (h : o.1 ≤ ν.length) : fx_o (ν ++ δ) o = fx_o ν o := by
  obtain ⟨n, k⟩ := o
  cases n with
  | zero => rfl
  | succ n =>
    have h : n < ν.length := h
    rw [fx_o_s, fx_o_s]
    rw [List.getD_eq_getElem?_getD, List.getD_eq_getElem?_getD, List.getElem?_append_left h]
theorem fx_o_new {ν : List Int} {z : Int} {n : Nat} (h : ν.length = n) : fx_o (ν ++ [z]) (n + 1, 0) = z := by
  rw [fx_o_s, List.getD_eq_getElem?_getD, ← h, List.getElem?_concat_length]
  show z + 0 = z
  omega
theorem fx_hn_ext {h h' : cz_H} (x : fx_ext h h') {p hint : Nat} (s : fx_hn h p hint) : fx_hn h' p hint := by
  rcases s with s | ⟨tc, n, y, e, ht, s⟩
  · exact .inl s
  · obtain ⟨c', h1, h2⟩ := x.2 _ _ s
    rcases c' with ⟨t, m, z⟩ | ⟨ci, gs⟩
    · obtain ⟨rfl, rfl⟩ := h2
      exact .inr ⟨_, _, z, e, ht, h1⟩
    · exact h2.elim
theorem fx_vr_ext {E : cz_E} {h h' : cz_H} {n0 n1 : Nat} {φ φ' : fx_O × List fx_FC} {ν δ : List Int} {s : fx_V} {v : Value} (x : fx_ext h h') (hn : n0 ≤ n1) (hf : ∀ o : fx_O, o.1 ≤ ν.length → fx_fr φ o = true → ∀ p : Nat, (p : Int) = fx_o ν o → p < h.length → p < n1 ∨ fx_fr φ' o = true) (r : fx_vr E h n0 φ ν s v) : fx_vr E h' n1 φ' (ν ++ δ) s v := by
  obtain ⟨t, o, w⟩ := s
  obtain ⟨l, r⟩ := r
  have l : o.1 ≤ ν.length := l
  refine ⟨by rw [List.length_append]; exact Nat.le_trans l (Nat.le_add_right _ _), ?_⟩
  have eo : fx_o (ν ++ δ) o = fx_o ν o := fx_o_app l
  match t, r with
  | 0, ⟨y, e, g⟩ => exact ⟨y, e, g.trans eo.symm⟩
  | 1, ⟨y, e, g⟩ => exact ⟨y, e, g.trans eo.symm⟩
  | 2, ⟨p, e, g, hp, ho, hh⟩ =>
    refine ⟨p, e, g.trans eo.symm, Nat.lt_of_lt_of_le hp x.1, ?_, fx_hn_ext x hh⟩
    rcases ho with ho | ho
    · exact .inl (Nat.lt_of_lt_of_le ho hn)
    · exact hf o l ho p g hp
  | 3, r =>
    rcases r with ⟨e, g⟩ | ⟨p, e, g, hp, ho⟩
    · exact .inl ⟨e, eo.trans g⟩
    · exact .inr ⟨p, e, g.trans eo.symm, Nat.lt_of_lt_of_le hp x.1, Nat.lt_of_lt_of_le ho hn⟩
  | 4, r => exact r
  | 5, ⟨i, hi, e, g⟩ => exact ⟨i, hi, e, g.trans eo.symm⟩
  | 6, ⟨i, hi, e, g⟩ => exact ⟨i, hi, e, g.trans eo.symm⟩
  | 7, r => exact r
  | 8, r => exact r
  | n + 9, r => exact r.elim
/-- stacks, locals -/
def fx_SR (P : fx_V → Value → Prop) : List fx_V → List Value → Prop
  | [], [] => True
  | s :: l, v :: r => P s v ∧ fx_SR P l r
  | _, _ => False
theorem fx_SR.imp {P Q : fx_V → Value → Prop} (h : ∀ s v, P s v → Q s v) : ∀ {l : List fx_V} {r : List Value}, fx_SR P l r → fx_SR Q l r := by
  intro l
  induction l with
  | nil => intro r; cases r <;> exact fun x => x
  | cons s l ih =>
    intro r
    cases r with
    | nil => exact fun x => x
    | cons v r => exact fun x => ⟨h s v x.1, ih x.2⟩
theorem fx_SR.cons {P : fx_V → Value → Prop} {s : fx_V} {l : List fx_V} {c : List Value} (h : fx_SR P (s :: l) c) : ∃ v r, c = v :: r ∧ P s v ∧ fx_SR P l r := by
  cases c with
  | nil => exact h.elim
  | cons v r => exact ⟨v, r, rfl, h.1, h.2⟩
theorem fx_SR.nil {P : fx_V → Value → Prop} {c : List Value} (h : fx_SR P [] c) : c = [] := by
  cases c with
  | nil => rfl
  | cons v r => exact h.elim
def fx_LR (P : fx_V → Value → Prop) (lv : fx_L) (clv : cz_LV) : Prop := ∀ (i : Nat) (s : fx_V), fx_lk lv i = some s → ∃ v, cz_lk clv i = some v ∧ P s v
theorem fx_LR.imp {P Q : fx_V → Value → Prop} (h : ∀ s v, P s v → Q s v) {lv : fx_L} {clv : cz_LV} (x : fx_LR P lv clv) : fx_LR Q lv clv := fun i s e => by
  obtain ⟨v, a, b⟩ := x i s e
  exact ⟨v, a, h s v b⟩
theorem fx_vr_cat {E : cz_E} {h : cz_H} {n0 : Nat} {φ : fx_O × List fx_FC} {ν : List Int} {s : fx_V} {v : Value} (hE : cz_isA E.2.2.2.2 = true) (r : fx_vr E h n0 φ ν s v) : (s.1 = 1 → v.category = 2) ∧ (¬ s.1 = 1 → v.category = 1) := by
  obtain ⟨t, o, w⟩ := s
  obtain ⟨-, r⟩ := r
  match t, r with
  | 0, ⟨y, e, g⟩ => subst e; exact ⟨fun h => (by cases h), fun _ => rfl⟩
  | 1, ⟨y, e, g⟩ => subst e; exact ⟨fun _ => rfl, fun h => absurd rfl h⟩
  | 2, ⟨p, e, _⟩ => subst e; exact ⟨fun h => (by cases h), fun _ => rfl⟩
  | 3, r => rcases r with ⟨e, _⟩ | ⟨p, e, _⟩ <;> subst e <;> exact ⟨fun h => (by cases h), fun _ => rfl⟩
  | 4, r => have r : v = .null := r; subst r; exact ⟨fun h => (by cases h), fun _ => rfl⟩
  | 5, ⟨i, hi, e, g⟩ => subst e; exact ⟨fun h => (by cases h), fun _ => rfl⟩
  | 6, ⟨i, hi, e, g⟩ => subst e; exact ⟨fun h => (by cases h), fun _ => rfl⟩
  | 7, r => have r : v = .ref E.2.1.1 := r; subst r; exact ⟨fun h => (by cases h), fun _ => rfl⟩
  | 8, r =>
    have r : v = E.2.2.2.2 := r
    subst r
    refine ⟨fun h => (by cases h), fun _ => ?_⟩
    rcases cz_isA_of hE with e | ⟨a, e⟩ <;> rw [e] <;> rfl
  | n + 9, r => exact r.elim
theorem fx_vr_isA {E : cz_E} {h : cz_H} {n0 : Nat} {φ : fx_O × List fx_FC} {ν : List Int} {s : fx_V} {v : Value} (hE : cz_isA E.2.2.2.2 = true) (t : 2 ≤ s.1) (r : fx_vr E h n0 φ ν s v) : cz_isA v = true := by
  obtain ⟨u, o, w⟩ := s
  obtain ⟨-, r⟩ := r
  match u, t, r with
  | 0, t, _ => exact absurd t (by show ¬ 2 ≤ 0; omega)
  | 1, t, _ => exact absurd t (by show ¬ 2 ≤ 1; omega)
  | 2, _, ⟨p, e, _⟩ => subst e; rfl
  | 3, _, r => rcases r with ⟨e, _⟩ | ⟨p, e, _⟩ <;> subst e <;> rfl
  | 4, _, r => have r : v = .null := r; subst r; rfl
  | 5, _, ⟨i, hi, e, g⟩ => subst e; rfl
  | 6, _, ⟨i, hi, e, g⟩ => subst e; rfl
  | 7, _, r => have r : v = .ref E.2.1.1 := r; subst r; rfl
  | 8, _, r => have r : v = E.2.2.2.2 := r; subst r; exact hE
  | n + 9, _, r => exact r.elim
/-! stores into locals -/
theorem fx_lk_filter {p : Nat → Bool} {i : Nat} : ∀ {lv : fx_L} {s : fx_V}, fx_lk (lv.filter fun q => p q.1) i = some s → p i = true ∧ fx_lk lv i = some s := by
  intro lv
  induction lv with
  | nil => intro s h; cases h
  | cons q l ih =>
    intro s h
    rw [List.filter_cons] at h
    split at h
    · next hp =>
      unfold fx_lk at h ⊢
      split at h
      · next e => subst e; rw [if_pos rfl]; exact ⟨hp, h⟩
      · next e => rw [if_neg e]; exact ih h
    · next hp =>
      unfold fx_lk
      obtain ⟨a, b⟩ := ih h
      rw [if_neg (fun e => hp (by rw [e]; exact a))]
      exact ⟨a, b⟩
theorem fx_clk_filter {p : Nat × Value → Bool} {i : Nat} {v : Value} : ∀ {lv : cz_LV}, cz_lk lv i = some v → p (i, v) = true → cz_lk (lv.filter p) i = some v := by
  intro lv
  induction lv with
  | nil => intro h; cases h
  | cons q l ih =>
    intro h hp
    unfold cz_lk at h
    rw [List.filter_cons]
    split at h
    · next e =>
      cases h
      subst e
      rw [if_pos hp]
      unfold cz_lk
      rw [if_pos rfl]
    · next e =>
      split
      · unfold cz_lk
        rw [if_neg e]
        exact ih h hp
      · exact ih h hp
theorem fx_LR.st1 {P : fx_V → Value → Prop} {lv : fx_L} {clv : cz_LV} {i : Nat} {s : fx_V} {v : Value} (hc : ∀ s v, P s v → ¬ s.1 = 1 → v.category = 1) (x : fx_LR P lv clv) (hs : P s v) : fx_LR P (fx_s1 lv i s) (cz_st1 clv i v) := by
  intro j t e
  unfold fx_s1 fx_lk at e
  unfold cz_st1 cz_lk
  split at e
  · next hj => rw [if_pos hj]; cases e; exact ⟨v, rfl, hs⟩
  · next hj =>
    have hj : ¬ i = j := hj
    rw [if_neg hj]
    obtain ⟨a, b⟩ := fx_lk_filter (p := fun k => !(k == i) && !(k + 1 == i && fx_lg lv i)) e
    obtain ⟨w, hw, pw⟩ := x j t b
    refine ⟨w, fx_clk_filter hw ?_, pw⟩
    show (!(j == i) && !(j + 1 == i && w.category == 2)) = true
    have h1 : (j == i) = false := by simp; omega
    rw [h1] at a ⊢
    by_cases h2 : j + 1 = i
    · have h3 : fx_lg lv i = false := by
        have h2' : (j + 1 == i) = true := by simp [h2]
        rw [h2'] at a
        simpa using a
      have h4 : ¬ t.1 = 1 := by
        intro ht
        unfold fx_lg at h3
        rw [show i - 1 = j by omega, b] at h3
        simp [ht] at h3
      rw [hc t w pw h4]
      simp
    · have h2' : (j + 1 == i) = false := by simp [h2]
      rw [h2']
      rfl
theorem fx_LR.st2 {P : fx_V → Value → Prop} {lv : fx_L} {clv : cz_LV} {i : Nat} {s : fx_V} {v : Value} (hc : ∀ s v, P s v → ¬ s.1 = 1 → v.category = 1) (x : fx_LR P lv clv) (hs : P s v) : fx_LR P (fx_s2 lv i s) (cz_st2 clv i v) := by
  intro j t e
  unfold fx_s2 fx_lk at e
  unfold cz_st2 cz_lk
  split at e
  · next hj => rw [if_pos hj]; cases e; exact ⟨v, rfl, hs⟩
  · next hj =>
    have hj : ¬ i = j := hj
    rw [if_neg hj]
    obtain ⟨a, b⟩ := fx_lk_filter (p := fun k => !(k == i) && (!(k == i + 1) && !(k + 1 == i && fx_lg lv i))) e
    obtain ⟨w, hw, pw⟩ := x j t b
    refine ⟨w, fx_clk_filter hw ?_, pw⟩
    show (!(j == i) && (!(j == i + 1) && !(j + 1 == i && w.category == 2))) = true
    have h1 : (j == i) = false := by simp; omega
    rw [h1] at a ⊢
    have h5 : (j == i + 1) = false := by
      cases h : j == i + 1 with
      | false => rfl
      | true => rw [h] at a; simp at a
    rw [h5] at a ⊢
    by_cases h2 : j + 1 = i
    · have h3 : fx_lg lv i = false := by
        have h2' : (j + 1 == i) = true := by simp [h2]
        rw [h2'] at a
        simpa using a
      have h4 : ¬ t.1 = 1 := by
        intro ht
        unfold fx_lg at h3
        rw [show i - 1 = j by omega, b] at h3
        simp [ht] at h3
      rw [hc t w pw h4]
      simp
    · have h2' : (j + 1 == i) = false := by simp [h2]
      rw [h2']
      rfl
/-! how far it has come -/
def fx_FR (E : cz_E) (h : cz_H) (n0 : Nat) (φ : fx_O × List fx_FC) (ν : List Int) : Prop := ∀ (j : Nat) (c : fx_FC), φ.2[j]? = some c → match c with
  | (0, ci, fs) => ∃ gs, h[n0 + j]? = some (.inr (ci, gs)) ∧ gs.length = fs.length ∧ ∀ (k : Nat) (s : fx_V), fx_dl ci k ≠ none → fs[k]? = some (some s) → ∃ v, gs[k]? = some v ∧ fx_vr E h n0 φ ν s v
  | (t + 1, n, _) => ∃ y, h[n0 + j]? = some (.inl (t, n, y))
def fx_J (E : cz_E) (M : fx_M) (ν0 : List Int) (S0 : fx_S) (h0 : cz_H) (σ : fx_Y) (ν : List Int) (h : cz_H) (n0 : Nat) : Prop := ν.length = σ.1 ∧ (∀ K, fx_d M σ.2.2.reverse ν0 S0 K → K ν (fx_of E h)) ∧ fx_WF E n0 h ∧ fx_ext h0 h ∧ n0 + σ.2.1.2.length = h.length ∧ (0 ≤ σ.2.1.1.2 → fx_o ν σ.2.1.1 = (n0 : Int) ∧ σ.2.1.1.1 ≤ ν.length) ∧ (σ.2.1.2 = [] ∨ 0 ≤ σ.2.1.1.2) ∧ fx_FR E h n0 σ.2.1 ν
