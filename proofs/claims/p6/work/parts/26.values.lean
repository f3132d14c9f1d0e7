/-! THE CHECKER: abstract values. Tag 0 int, 1 long, 2 what lcmp answers, 3 a cell of a kind (its root is its place), 4 such a cell or null (-1), 5 null, 6 a text (roots of its number, of its length), 7 the script (the root of its length), 8 the formatter, 9 a cell of a kind that may lack fields, 10 a text's row of bytes -/
abbrev ck_V : Type := Nat × Nat × Nat × ck_A × ck_A
def ck_vi (a : ck_A) : ck_V := (0, 0, 0, a, ck_c 0)
def ck_vl (a : ck_A) : ck_V := (1, 0, 0, a, ck_c 0)
def ck_vc (a b : ck_A) : ck_V := (2, 0, 0, a, b)
def ck_vn : ck_V := (5, 0, 0, ck_c 0, ck_c 0)
def ck_cat (v : ck_V) : Nat := if v.1 = 1 then 2 else 1
def ck_D (E : cz_E) (Γ : ck_G) (ρ : List Int) (v : ck_V) (x : Value) : Prop := match v.1 with
  | 0 => ∃ z : Int32, x = .int z ∧ z.toInt = ck_ev ρ v.2.2.2.1
  | 1 => ∃ z : Int64, x = .long z ∧ z.toInt = ck_ev ρ v.2.2.2.1
  | 2 => ∃ z w : Int64, x = .int (lg_cmp z w) ∧ z.toInt = ck_ev ρ v.2.2.2.1 ∧ w.toInt = ck_ev ρ v.2.2.2.2
  | 3 => ∃ a : Nat, x = .ref a ∧ (a : Int) = (E.1 : Int) + ρ.getD v.2.1 0 ∧ ck_is E Γ a v.2.2.1
  | 4 => (x = .null ∧ ρ.getD v.2.1 0 = -1) ∨ ∃ a : Nat, x = .ref a ∧ (a : Int) = (E.1 : Int) + ρ.getD v.2.1 0 ∧ ck_is E Γ a v.2.2.1
  | 5 => x = .null
  | 6 => ∃ k : Nat, k < 14 ∧ x = .ref (E.2.2.1 k) ∧ (k : Int) = ρ.getD v.2.1 0 ∧ ((cz_sl.getD k 0 : Nat) : Int) = ρ.getD v.2.2.1 0
  | 7 => x = .ref E.2.1.1 ∧ ((E.2.1.2.1 : Nat) : Int) = ρ.getD v.2.1 0
  | 8 => x = E.2.2.2.2 ∧ cz_isA x = true
  | 9 => ∃ a : Nat, x = .ref a ∧ (a : Int) = (E.1 : Int) + ρ.getD v.2.1 0 ∧ E.1 ≤ a ∧ ∃ m : Nat, Γ[a - E.1]? = some (v.2.2.1, m)
  | 10 => ∃ k : Nat, k < 14 ∧ x = .ref (E.2.2.2.1 k) ∧ (k : Int) = ρ.getD v.2.1 0 ∧ ((cz_sl.getD k 0 : Nat) : Int) = ρ.getD v.2.2.1 0
  | _ => False
theorem ck_D.mono {E : cz_E} {Γ Γ' : ck_G} {ρ : List Int} {v : ck_V} {x : Value} (h : ck_D E Γ ρ v x) (hx : ck_ext Γ Γ') : ck_D E Γ' ρ v x := by
  unfold ck_D at h ⊢
  split at h
  · exact h
  · exact h
  · exact h
  · obtain ⟨a, e1, e2, e3⟩ := h
    exact ⟨a, e1, e2, e3.mono hx⟩
  · rcases h with h | ⟨a, e1, e2, e3⟩
    · exact Or.inl h
    · exact Or.inr ⟨a, e1, e2, e3.mono hx⟩
  · exact h
  · exact h
  · exact h
  · exact h
  · obtain ⟨a, e1, e2, e3, m, e4⟩ := h
    obtain ⟨m', e5, -⟩ := hx _ _ _ e4
    exact ⟨a, e1, e2, e3, m', e5⟩
  · exact h
  · exact h.elim
theorem ck_D.cat {E : cz_E} {Γ : ck_G} {ρ : List Int} {v : ck_V} {x : Value} (h : ck_D E Γ ρ v x) : x.category = ck_cat v := by
  obtain ⟨t, p, k, a, b⟩ := v
  unfold ck_D at h
  simp only at h
  split at h
  · obtain ⟨z, rfl, -⟩ := h; rfl
  · obtain ⟨z, rfl, -⟩ := h; rfl
  · obtain ⟨z, w, rfl, -⟩ := h; rfl
  · obtain ⟨z, rfl, -⟩ := h; rfl
  · rcases h with ⟨rfl, -⟩ | ⟨z, rfl, -⟩ <;> rfl
  · subst h; rfl
  · obtain ⟨z, -, rfl, -⟩ := h; rfl
  · obtain ⟨rfl, -⟩ := h; rfl
  · obtain ⟨e, hi⟩ := h
    rcases cz_isA_of hi with h1 | ⟨z, h1⟩
    · rw [h1]; rfl
    · rw [h1]; rfl
  · obtain ⟨z, rfl, -⟩ := h; rfl
  · obtain ⟨z, -, rfl, -⟩ := h; rfl
  · exact h.elim
theorem ck_D_i {E : cz_E} {Γ : ck_G} {ρ : List Int} {v : ck_V} {x : Value} (h : ck_D E Γ ρ v x) (t : v.1 = 0) : ∃ z : Int32, x = .int z ∧ z.toInt = ck_ev ρ v.2.2.2.1 := by
  unfold ck_D at h
  rw [t] at h
  exact h
theorem ck_D_l {E : cz_E} {Γ : ck_G} {ρ : List Int} {v : ck_V} {x : Value} (h : ck_D E Γ ρ v x) (t : v.1 = 1) : ∃ z : Int64, x = .long z ∧ z.toInt = ck_ev ρ v.2.2.2.1 := by
  unfold ck_D at h
  rw [t] at h
  exact h
/-! rows of values -/
def ck_Ls {α β : Type} (P : α → β → Prop) : List α → List β → Prop
  | [], [] => True
  | a :: l, b :: r => P a b ∧ ck_Ls P l r
  | _, _ => False
theorem ck_Ls.imp {α β : Type} {P Q : α → β → Prop} (hpq : ∀ a b, P a b → Q a b) : ∀ {l : List α} {r : List β}, ck_Ls P l r → ck_Ls Q l r
  | [], [], _ => trivial
  | _ :: _, _ :: _, h => ⟨hpq _ _ h.1, ck_Ls.imp hpq h.2⟩
  | [], _ :: _, h => h.elim
  | _ :: _, [], h => h.elim
theorem ck_Ls.len {α β : Type} {P : α → β → Prop} : ∀ {l : List α} {r : List β}, ck_Ls P l r → l.length = r.length
  | [], [], _ => rfl
  | _ :: _, _ :: _, h => by simp [ck_Ls.len h.2]
  | [], _ :: _, h => h.elim
  | _ :: _, [], h => h.elim
/-- all of it for every longer row of roots: the same values -/
theorem ck_Ls.all {α β : Type} {P : List Int → α → β → Prop} {ρ : List Int} : ∀ {l : List α} {r : List β}, (∀ σ, ck_Ls (P (ρ ++ σ)) l r) → ck_Ls (fun a b => ∀ σ, P (ρ ++ σ) a b) l r
  | [], [], _ => trivial
  | _ :: _, _ :: _, h => ⟨fun σ => (h σ).1, ck_Ls.all fun σ => (h σ).2⟩
  | [], _ :: _, h => (h []).elim
  | _ :: _, [], h => (h []).elim
abbrev ck_LV : Type := List (Nat × ck_V)
def ck_lk (lv : ck_LV) (i : Nat) : Option ck_V := match lv with
  | [] => none
  | q :: l => if q.1 = i then some q.2 else ck_lk l i
/-- every local that is known is as it is known -/
def ck_LR (E : cz_E) (Γ : ck_G) (ρ : List Int) (lv : ck_LV) (clv : cz_LV) : Prop := ∀ (i : Nat) (v : ck_V), ck_lk lv i = some v → ∃ x, cz_lk clv i = some x ∧ ck_D E Γ ρ v x
theorem ck_lk_ok {E : cz_E} {Γ : ck_G} {ρ : List Int} {i : Nat} {v : ck_V} {lv : ck_LV} {clv : cz_LV} (h : ck_LR E Γ ρ lv clv) (e : ck_lk lv i = some v) : ∃ x, cz_lk clv i = some x ∧ ck_D E Γ ρ v x := h i v e
theorem cz_lk_filter {g : Nat × Value → Bool} {j : Nat} {x : Value} : ∀ {clv : cz_LV}, cz_lk clv j = some x → g (j, x) = true → cz_lk (clv.filter g) j = some x
  | [], e, _ => by cases e
  | q :: l, e, hg => by
    unfold cz_lk at e
    split at e
    · next e1 =>
      cases e
      have e2 : (j, q.2) = q := by rw [← e1]
      rw [e2] at hg
      rw [List.filter_cons_of_pos hg]
      unfold cz_lk
      rw [if_pos e1]
    · next e1 =>
      have ih := cz_lk_filter e hg
      by_cases h2 : g q = true
      · rw [List.filter_cons_of_pos h2]
        unfold cz_lk
        rw [if_neg e1]
        exact ih
      · rw [List.filter_cons_of_neg h2]
        exact ih
/-- a long stands just ahead -/
def ck_l1 (lv : ck_LV) (i : Nat) : Bool := match i with
  | 0 => false
  | j + 1 => match ck_lk lv j with
    | some w => ck_cat w == 2
    | none => false
def ck_st1 (lv : ck_LV) (i : Nat) (v : ck_V) : ck_LV := let b := ck_l1 lv i; (i, v) :: lv.filter (fun q => !(q.1 == i) && !(q.1 + 1 == i && b))
def ck_st2 (lv : ck_LV) (i : Nat) (v : ck_V) : ck_LV := let b := ck_l1 lv i; (i, v) :: lv.filter (fun q => !(q.1 == i) && (!(q.1 == i + 1) && !(q.1 + 1 == i && b)))
/-- some numbers are left out of a row -/
theorem ck_lk_f {P : Nat → Bool} {j : Nat} {v : ck_V} : ∀ {lv : ck_LV}, ck_lk (lv.filter fun q => P q.1) j = some v → P j = true ∧ ck_lk lv j = some v
  | [], e => by cases e
  | q :: l, e => by
    by_cases h2 : P q.1 = true
    · rw [List.filter_cons_of_pos (by exact h2)] at e
      unfold ck_lk at e ⊢
      split at e
      · next e1 =>
        cases e
        rw [if_pos e1]
        exact ⟨e1 ▸ h2, rfl⟩
      · next e1 =>
        rw [if_neg e1]
        exact ck_lk_f e
    · rw [List.filter_cons_of_neg (by exact h2)] at e
      obtain ⟨a, b⟩ := ck_lk_f e
      refine ⟨a, ?_⟩
      unfold ck_lk
      by_cases e1 : q.1 = j
      · exact absurd (e1 ▸ a) h2
      · rw [if_neg e1]
        exact b
theorem ck_l1_no {E : cz_E} {Γ : ck_G} {ρ : List Int} {j i : Nat} {v : ck_V} {x : Value} {lv : ck_LV} (e : ck_lk lv j = some v) (hv : ck_D E Γ ρ v x) (hb : (j + 1 == i && ck_l1 lv i) = false) : (j + 1 == i && x.category == 2) = false := by
  by_cases hj : j + 1 = i
  · subst hj
    have h1 : ck_l1 lv (j + 1) = false := by simpa using hb
    unfold ck_l1 at h1
    simp only [e] at h1
    rw [hv.cat, h1, Bool.and_false]
  · have : (j + 1 == i) = false := by simpa using hj
    rw [this, Bool.false_and]
theorem ck_st1_ok {E : cz_E} {Γ : ck_G} {ρ : List Int} {i : Nat} {v : ck_V} {x : Value} {lv : ck_LV} {clv : cz_LV} (h : ck_LR E Γ ρ lv clv) (hv : ck_D E Γ ρ v x) : ck_LR E Γ ρ (ck_st1 lv i v) (cz_st1 clv i x) := by
  intro j w e
  unfold ck_st1 ck_lk at e
  unfold cz_st1 cz_lk
  simp only at e ⊢
  split at e
  · next e1 =>
    cases e
    rw [if_pos e1]
    exact ⟨_, rfl, hv⟩
  · next e1 =>
    rw [if_neg e1]
    obtain ⟨hp, e2⟩ := ck_lk_f (P := fun k => !(k == i) && !(k + 1 == i && ck_l1 lv i)) e
    obtain ⟨y, e3, hy⟩ := h j w e2
    refine ⟨y, cz_lk_filter e3 ?_, hy⟩
    simp only [Bool.and_eq_true, Bool.not_eq_true'] at hp ⊢
    exact ⟨hp.1, ck_l1_no e2 hy hp.2⟩
theorem ck_st2_ok {E : cz_E} {Γ : ck_G} {ρ : List Int} {i : Nat} {v : ck_V} {x : Value} {lv : ck_LV} {clv : cz_LV} (h : ck_LR E Γ ρ lv clv) (hv : ck_D E Γ ρ v x) : ck_LR E Γ ρ (ck_st2 lv i v) (cz_st2 clv i x) := by
  intro j w e
  unfold ck_st2 ck_lk at e
  unfold cz_st2 cz_lk
  simp only at e ⊢
  split at e
  · next e1 =>
    cases e
    rw [if_pos e1]
    exact ⟨_, rfl, hv⟩
  · next e1 =>
    rw [if_neg e1]
    obtain ⟨hp, e2⟩ := ck_lk_f (P := fun k => !(k == i) && (!(k == i + 1) && !(k + 1 == i && ck_l1 lv i))) e
    obtain ⟨y, e3, hy⟩ := h j w e2
    refine ⟨y, cz_lk_filter e3 ?_, hy⟩
    simp only [Bool.and_eq_true, Bool.not_eq_true'] at hp ⊢
    exact ⟨hp.1, hp.2.1, ck_l1_no e2 hy hp.2.2⟩
/-! results of arithmetic -/
/-- n' has roots more than n; behind it v stands for x -/
def ck_Y (E : cz_E) (Γ : ck_G) (ρ : List Int) (n' : ck_N) (v : ck_V) (x : Value) : Prop := ∃ ρ2 : List Int, (ρ ++ ρ2).length = n'.1.length ∧ ∀ σ : List Int, ck_nok n' ((ρ ++ ρ2) ++ σ) ∧ ck_D E Γ ((ρ ++ ρ2) ++ σ) v x
def ck_in32 (n : ck_N) (a : ck_A) : Bool := ck_le n (ck_sub a (ck_c 2147483647)) && ck_le n (ck_sub (ck_c (-2147483648)) a)
theorem ck_in32_ok {n : ck_N} {ρ : List Int} (h : ck_nok n ρ) {a : ck_A} (e : ck_in32 n a = true) : ck_i32 (ck_ev ρ a) := by
  obtain ⟨e1, e2⟩ := Bool.and_eq_true_iff.mp e
  have h1 := ck_le_ok h e1
  have h2 := ck_le_ok h e2
  rw [ck_sub_ev, ck_ev_c] at h1 h2
  exact ⟨by omega, by omega⟩
/-- a new root with bounds -/
def ck_fr (n : ck_N) (lo hi : Int) : ck_N × ck_V := (ck_new n (lo, hi), ck_vi (ck_v n.1.length))
theorem ck_fr_ok {E : cz_E} {Γ : ck_G} {n : ck_N} {ρ : List Int} (hl : ρ.length = n.1.length) (h : ∀ σ, ck_nok n (ρ ++ σ)) {lo hi : Int} {z : Int32} (hz : lo ≤ z.toInt ∧ z.toInt ≤ hi) : ck_Y E Γ ρ (ck_fr n lo hi).1 (ck_fr n lo hi).2 (.int z) := by
  have hg : ∀ σ : List Int, ((ρ ++ [z.toInt]) ++ σ).getD n.1.length 0 = z.toInt := by
    intro σ
    rw [List.append_assoc, ← hl]
    simp [List.getD]
  refine ⟨[z.toInt], by simp [ck_fr, ck_new, hl], fun σ => ⟨ck_new_ok (by rw [List.append_assoc]; exact h _) (by rw [hg]; exact hz), ?_⟩⟩
  exact ⟨z, rfl, by show z.toInt = ck_ev _ (ck_v n.1.length); rw [ck_ev_v, hg]⟩
def ck_res (n : ck_N) (a : ck_A) : ck_N × ck_V := if ck_in32 n a = true then (n, ck_vi a) else ck_fr n (-2147483648) 2147483647
theorem ck_res_ok {E : cz_E} {Γ : ck_G} {n : ck_N} {ρ : List Int} (hl : ρ.length = n.1.length) (h : ∀ σ, ck_nok n (ρ ++ σ)) {a : ck_A} {z : Int32} (hz : ∀ σ, ck_i32 (ck_ev (ρ ++ σ) a) → z.toInt = ck_ev (ρ ++ σ) a) : ck_Y E Γ ρ (ck_res n a).1 (ck_res n a).2 (.int z) := by
  unfold ck_res
  split
  · next e =>
    refine ⟨[], by simpa using hl, fun σ => ?_⟩
    rw [List.append_nil]
    exact ⟨h σ, z, rfl, hz σ (ck_in32_ok (h σ) e)⟩
  · exact ck_fr_ok hl h (ck_range z)
