/-! THE CHECKER: a heap by its kinds -/
abbrev ck_G : Type := List (Nat × Nat)
/-- all fields are set -/
def ck_full (k m : Nat) : Bool := match ck_kt[k]? with
  | some (.inl o) => (List.range o.2.length).all (fun i => m.testBit i)
  | _ => true
def ck_sub1 (m m' : Nat) : Prop := ∀ j : Nat, m.testBit j = true → m'.testBit j = true
theorem ck_full_mono {k m m' : Nat} (h : ck_full k m = true) (hs : ck_sub1 m m') : ck_full k m' = true := by
  unfold ck_full at h ⊢
  split
  · next o e =>
    rw [e] at h
    exact List.all_eq_true.mpr fun i hi => hs i (List.all_eq_true.mp h i hi)
  · rfl
def ck_is (E : cz_E) (Γ : ck_G) (a k : Nat) : Prop := E.1 ≤ a ∧ ∃ m : Nat, Γ[a - E.1]? = some (k, m) ∧ ck_full k m = true
def ck_vs (E : cz_E) (B : Int) (Γ : ck_G) (s : ck_S) (v : Value) : Prop := match s.1 with
  | 0 => ∃ x : Int32, v = .int x ∧ s.2.1 ≤ x.toInt ∧ x.toInt ≤ s.2.2.1
  | 1 => ∃ x : Int64, v = .long x
  | 2 => ∃ a : Nat, v = .ref a ∧ ck_is E Γ a s.2.2.2
  | 3 => v = .null ∨ ∃ a : Nat, v = .ref a ∧ ck_is E Γ a s.2.2.2
  | 4 => ∃ x : Int32, v = .int x ∧ 0 ≤ x.toInt ∧ x.toInt ≤ B
  | _ => False
/-- an array's elements, as values; how they lie -/
def ck_el (y : (Nat → Int32) ⊕ (Nat → Int64) ⊕ (Nat → UInt32) ⊕ (Nat → UInt64) ⊕ (Nat → Option Nat)) (i : Nat) : Value := match y with
  | .inl f => .int (f i)
  | .inr (.inl f) => .long (f i)
  | .inr (.inr (.inr (.inr f))) => va_rf (f i)
  | _ => .null
def ck_sh (tc : Nat) (y : (Nat → Int32) ⊕ (Nat → Int64) ⊕ (Nat → UInt32) ⊕ (Nat → UInt64) ⊕ (Nat → Option Nat)) : Prop := match y with
  | .inl _ => tc = 0 ∨ tc = 1 ∨ tc = 3 ∨ tc = 4
  | .inr (.inl _) => tc = 2
  | .inr (.inr (.inr (.inr _))) => tc = 5 ∨ tc = 6
  | _ => False
def ck_es (t : Nat) (s : ck_S) (i : Nat) : ck_S := if t = 0 then s else (0, (ck_T t i).1, (ck_T t i).2, 0)
/-- rows of a statute: of the sort 0 a nation, of the sort 4 months -/
def ck_pair (x y : Int32) : Prop := (x.toInt = 0 → 0 ≤ y.toInt ∧ y.toInt ≤ 3) ∧ (x.toInt = 4 → 1 ≤ y.toInt ∧ y.toInt ≤ 99)
def ck_rows (f : Nat → Int32) (b : Nat) : Prop := ∀ s l : Nat, s < 10 → l < 16 → (l : Int) < (f (b + 1103 + 260 * s)).toInt → ck_pair (f (b + 1104 + 260 * s + 16 * l)) (f (b + 1105 + 260 * s + 16 * l))
def ck_rw (t : Nat) (y : (Nat → Int32) ⊕ (Nat → Int64) ⊕ (Nat → UInt32) ⊕ (Nat → UInt64) ⊕ (Nat → Option Nat)) : Prop := match y with
  | .inl f => (t = 1 → ck_rows f 0) ∧ (t = 2 → ∀ b : Nat, b < 3 → ck_rows f (8090 * b))
  | _ => True
def ck_cell (E : cz_E) (B : Int) (Γ : ck_G) (km : Nat × Nat) (c : cz_C) : Prop := match ck_kt[km.1]? with
  | some (.inl o) => ∃ vs : List Value, c = .inr (o.1, vs) ∧ vs.length = o.2.length ∧ ∀ (k : Nat) (s : ck_S) (v : Value), o.2[k]? = some s → vs[k]? = some v → km.2.testBit k = true → ck_vs E B Γ s v
  | some (.inr r) => ∃ y, c = .inl (r.1, r.2.1, y) ∧ ck_sh r.1 y ∧ ck_rw r.2.2.1 y ∧ ∀ i : Nat, i < r.2.1 → ck_vs E B Γ (ck_es r.2.2.1 r.2.2.2 i) (ck_el y i)
  | none => False
def ck_HT (E : cz_E) (B : Int) (Γ : ck_G) (h : cz_H) : Prop := Γ.length = h.length ∧ ∀ (i : Nat) (km : Nat × Nat) (c : cz_C), Γ[i]? = some km → h[i]? = some c → ck_cell E B Γ km c
/-- more cells, more fields set -/
def ck_ext (Γ Γ' : ck_G) : Prop := ∀ (i k m : Nat), Γ[i]? = some (k, m) → ∃ m' : Nat, Γ'[i]? = some (k, m') ∧ ck_sub1 m m'
theorem ck_ext.rf {Γ : ck_G} : ck_ext Γ Γ := fun _ _ m h => ⟨m, h, fun _ z => z⟩
theorem ck_ext.trans {Γ Γ' Γ2 : ck_G} (h1 : ck_ext Γ Γ') (h2 : ck_ext Γ' Γ2) : ck_ext Γ Γ2 := by
  intro i k m h
  obtain ⟨m1, e1, s1⟩ := h1 i k m h
  obtain ⟨m2, e2, s2⟩ := h2 i k m1 e1
  exact ⟨m2, e2, fun j hj => s2 j (s1 j hj)⟩
theorem ck_is.mono {E : cz_E} {Γ Γ' : ck_G} {a k : Nat} (h : ck_is E Γ a k) (hx : ck_ext Γ Γ') : ck_is E Γ' a k := by
  obtain ⟨h1, m, h2, h3⟩ := h
  obtain ⟨m', e1, s1⟩ := hx _ _ _ h2
  exact ⟨h1, m', e1, ck_full_mono h3 s1⟩
theorem ck_vs.mono {E : cz_E} {B B' : Int} {Γ Γ' : ck_G} {s : ck_S} {v : Value} (h : ck_vs E B Γ s v) (hx : ck_ext Γ Γ') (hB : B ≤ B') : ck_vs E B' Γ' s v := by
  unfold ck_vs at h ⊢
  split at h
  · exact h
  · exact h
  · obtain ⟨a, e, h⟩ := h
    exact ⟨a, e, h.mono hx⟩
  · rcases h with h | ⟨a, e, h⟩
    · exact Or.inl h
    · exact Or.inr ⟨a, e, h.mono hx⟩
  · obtain ⟨x, e, h1, h2⟩ := h
    exact ⟨x, e, h1, Int.le_trans h2 hB⟩
  · exact h.elim
theorem ck_cell.mono {E : cz_E} {B B' : Int} {Γ Γ' : ck_G} {km : Nat × Nat} {c : cz_C} (h : ck_cell E B Γ km c) (hx : ck_ext Γ Γ') (hB : B ≤ B') : ck_cell E B' Γ' km c := by
  unfold ck_cell at h ⊢
  split at h
  · obtain ⟨vs, e, h1, h2⟩ := h
    exact ⟨vs, e, h1, fun k s v a1 a2 a3 => (h2 k s v a1 a2 a3).mono hx hB⟩
  · obtain ⟨y, e, h1, h3, h2⟩ := h
    exact ⟨y, e, h1, h3, fun i hi => (h2 i hi).mono hx hB⟩
  · exact h.elim
theorem ck_HT.raise {E : cz_E} {B B' : Int} {Γ : ck_G} {h : cz_H} (t : ck_HT E B Γ h) (hB : B ≤ B') : ck_HT E B' Γ h := ⟨t.1, fun i km c a1 a2 => (t.2 i km c a1 a2).mono ck_ext.rf hB⟩
/-- a cell of a kind, found -/
theorem ck_HT.at {E : cz_E} {B : Int} {Γ : ck_G} {h : cz_H} (t : ck_HT E B Γ h) {a k m : Nat} (ha : E.1 ≤ a) (hm : Γ[a - E.1]? = some (k, m)) : ∃ c, cz_at E h a = some c ∧ ck_cell E B Γ (k, m) c := by
  have hl : a - E.1 < h.length := by rw [← t.1]; exact (List.getElem?_eq_some_iff.mp hm).1
  refine ⟨h[a - E.1], ?_, t.2 _ _ _ hm (List.getElem?_eq_getElem hl)⟩
  unfold cz_at
  rw [if_pos ha]
  exact List.getElem?_eq_getElem hl
/-- a cell is replaced by another of its kind, perhaps with more fields set -/
theorem ck_HT.put {E : cz_E} {B : Int} {Γ : ck_G} {h : cz_H} (t : ck_HT E B Γ h) {i k m m' : Nat} {c' : cz_C} (hm : Γ[i]? = some (k, m)) (hs : ck_sub1 m m') (hc : ck_cell E B (Γ.set i (k, m')) (k, m') c') : ck_HT E B (Γ.set i (k, m')) (h.set i c') ∧ ck_ext Γ (Γ.set i (k, m')) := by
  have hx : ck_ext Γ (Γ.set i (k, m')) := by
    intro j k1 m1 hj
    by_cases e : i = j
    · subst e
      cases hm.symm.trans hj
      exact ⟨m', by rw [List.getElem?_set, if_pos rfl, if_pos (List.getElem?_eq_some_iff.mp hm).1], hs⟩
    · exact ⟨m1, by rw [List.getElem?_set, if_neg e]; exact hj, fun _ z => z⟩
  refine ⟨⟨by rw [List.length_set, List.length_set]; exact t.1, fun j km c a1 a2 => ?_⟩, hx⟩
  rw [List.getElem?_set] at a1 a2
  by_cases e : i = j
  · rw [if_pos e] at a1 a2
    split at a1
    · cases a1
      split at a2
      · cases a2
        exact hc
      · cases a2
    · cases a1
  · rw [if_neg e] at a1 a2
    exact (t.2 j km c a1 a2).mono hx (Int.le_refl _)
/-- a cell more -/
theorem ck_HT.push {E : cz_E} {B : Int} {Γ : ck_G} {h : cz_H} (t : ck_HT E B Γ h) {km : Nat × Nat} {c : cz_C} (hc : ck_cell E B (Γ ++ [km]) km c) : ck_HT E B (Γ ++ [km]) (h ++ [c]) ∧ ck_ext Γ (Γ ++ [km]) := by
  have hx : ck_ext Γ (Γ ++ [km]) := fun j k m hj => ⟨m, by rw [List.getElem?_append_left (List.getElem?_eq_some_iff.mp hj).1]; exact hj, fun _ z => z⟩
  refine ⟨⟨by simp [t.1], fun j km' c' a1 a2 => ?_⟩, hx⟩
  by_cases e : j < Γ.length
  · rw [List.getElem?_append_left e] at a1
    rw [List.getElem?_append_left (by rw [← t.1]; exact e)] at a2
    exact (t.2 j km' c' a1 a2).mono hx (Int.le_refl _)
  · have hj := (List.getElem?_eq_some_iff.mp a1).1
    simp only [List.length_append, List.length_singleton] at hj
    have hj : j = Γ.length := by omega
    subst hj
    rw [List.getElem?_append_right (Nat.le_refl _), Nat.sub_self] at a1
    rw [t.1, List.getElem?_append_right (Nat.le_refl _), Nat.sub_self] at a2
    cases a1
    cases a2
    exact hc
