/-! THE CHECKER IS SOUND: what is known of the heap, and what it means -/
def ck_c1 (v : Value) (P : Int) : Nat := match v with
  | .int z => if z.toInt = P then 1 else 0
  | _ => 0
/-- how many of the first n are P -/
def ck_cn (g : Nat → Value) (P : Int) : Nat → Nat
  | 0 => 0
  | n + 1 => ck_cn g P n + ck_c1 (g n) P
theorem ck_c1_le (v : Value) (P : Int) : ck_c1 v P ≤ 1 := by
  unfold ck_c1
  split
  · split <;> omega
  · omega
theorem ck_cn_le (g : Nat → Value) (P : Int) (n : Nat) : ck_cn g P n ≤ n := by
  induction n with
  | zero => exact Nat.le_refl _
  | succ n ih =>
    have := ck_c1_le (g n) P
    unfold ck_cn
    omega
/-- one element is replaced -/
theorem ck_cn_set {g g' : Nat → Value} {P : Int} {i : Nat} (ho : ∀ j, j ≠ i → g' j = g j) : ∀ n : Nat, (ck_cn g' P n : Int) = ck_cn g P n + (if i < n then (ck_c1 (g' i) P : Int) - ck_c1 (g i) P else 0) := by
  intro n
  induction n with
  | zero => simp [ck_cn]
  | succ n ih =>
    unfold ck_cn
    by_cases h1 : n = i
    · subst h1
      rw [if_neg (Nat.lt_irrefl _)] at ih
      rw [if_pos (Nat.lt_succ_self _)]
      omega
    · rw [ho n h1]
      by_cases h2 : i < n
      · rw [if_pos h2] at ih
        rw [if_pos (by omega)]
        omega
      · rw [if_neg h2] at ih
        rw [if_neg (by omega)]
        omega
def ck_M (E : cz_E) (Γ : ck_G) (h : cz_H) (ρ : List Int) (q : ck_Q) : Prop := match q.1 with
  | 0 => ∃ (p : Nat) (vs : List Value) (x : Value), (p : Int) = ρ.getD q.2.1 0 ∧ h[p]? = some (.inr (q.2.2.1, vs)) ∧ vs[q.2.2.2.1]? = some x ∧ ck_D E Γ ρ q.2.2.2.2.2 x
  | 1 => ∃ (p m tc n : Nat) (y : (Nat → Int32) ⊕ (Nat → Int64) ⊕ (Nat → UInt32) ⊕ (Nat → UInt64) ⊕ (Nat → Option Nat)) (i : Nat), (p : Int) = ρ.getD q.2.1 0 ∧ Γ[p]? = some (q.2.2.1, m) ∧ h[p]? = some (.inl (tc, n, y)) ∧ (i : Int) = ck_ev ρ q.2.2.2.2.1 ∧ i < n ∧ ck_D E Γ ρ q.2.2.2.2.2 (ck_el y i)
  | 2 => ∃ i : Nat, (i : Int) = ck_ev ρ q.2.2.2.2.1 ∧ i < E.2.1.2.1 ∧ ck_D E Γ ρ q.2.2.2.2.2 (.int (E.2.1.2.2 i))
  | 3 => ∃ (p m tc n : Nat) (y : (Nat → Int32) ⊕ (Nat → Int64) ⊕ (Nat → UInt32) ⊕ (Nat → UInt64) ⊕ (Nat → Option Nat)), (p : Int) = ρ.getD q.2.1 0 ∧ Γ[p]? = some (q.2.2.1, m) ∧ h[p]? = some (.inl (tc, n, y)) ∧ ((ck_cn (ck_el y) (ck_P01 q.2.2.2.1) n : Nat) : Int) = ck_ev ρ q.2.2.2.2.1
  | 4 => ∃ (p m tc n : Nat) (f : Nat → Int32), (p : Int) = ρ.getD q.2.1 0 ∧ Γ[p]? = some (q.2.2.1, m) ∧ h[p]? = some (.inl (tc, n, .inl f)) ∧ ∀ l : Nat, l < 16 → (l : Int) < ck_ev ρ q.2.2.2.2.1 → ck_pair (f (4 + 16 * l)) (f (5 + 16 * l))
  | 6 => ∃ (p : Nat) (vs : List Value) (k s : Int32), (p : Int) = ρ.getD q.2.1 0 ∧ h[p]? = some (.inr (7, vs)) ∧ vs[6]? = some (.int k) ∧ vs[5]? = some (.int s) ∧ (k.toInt = 5 ∨ s.toInt ≤ 599)
  | 9 => ρ.getD q.2.1 0 = ck_ev ρ q.2.2.2.2.1 * ck_ev ρ q.2.2.2.2.2.2.2.2.1
  | 10 => ck_ev ρ q.2.2.2.2.2.2.2.2.1 * ρ.getD q.2.1 0 ≤ ck_ev ρ q.2.2.2.2.1 ∧ ck_ev ρ q.2.2.2.2.1 < ck_ev ρ q.2.2.2.2.2.2.2.2.1 * (ρ.getD q.2.1 0 + 1)
  | 11 => ∃ p m : Nat, (p : Int) = ρ.getD q.2.1 0 ∧ Γ[p]? = some (q.2.2.1, m) ∧ ck_sub1 q.2.2.2.1 m
  | _ => False
theorem ck_teq_ok : ∀ {a b : List (Nat × Int)}, ck_teq a b = true → a = b
  | [], [], _ => rfl
  | p :: l, q :: r, h => by
    unfold ck_teq at h
    simp only [Bool.and_eq_true, beq_iff_eq] at h
    obtain ⟨⟨h1, h2⟩, h3⟩ := h
    rw [ck_teq_ok h3, show p = q from Prod.ext h1 h2]
  | [], _ :: _, h => by cases h
  | _ :: _, [], h => by cases h
theorem ck_aeq_ok {a b : ck_A} (h : ck_aeq a b = true) : a = b := by
  unfold ck_aeq at h
  simp only [Bool.and_eq_true, beq_iff_eq] at h
  exact Prod.ext (ck_teq_ok h.2) h.1
theorem ck_f0_mem {r ci k : Nat} {w : ck_V} : ∀ {es : List ck_Q}, ck_f0 es r ci k = some w → ∃ a, ((0, r, ci, k, a, w) : ck_Q) ∈ es
  | [], h => by cases h
  | q :: l, h => by
    unfold ck_f0 at h
    split at h
    · next e =>
      simp only [Bool.and_eq_true, beq_iff_eq] at e
      obtain ⟨⟨⟨e1, e2⟩, e3⟩, e4⟩ := e
      cases h
      refine ⟨q.2.2.2.2.1, ?_⟩
      rw [← e1, ← e2, ← e3, ← e4]
      exact List.mem_cons_self
    · obtain ⟨a, ha⟩ := ck_f0_mem h
      exact ⟨a, List.mem_cons_of_mem _ ha⟩
theorem ck_f1_mem {r K : Nat} {ix : ck_A} {w : ck_V} : ∀ {es : List ck_Q}, ck_f1 es r K ix = some w → ∃ a, ((1, r, K, a, ix, w) : ck_Q) ∈ es
  | [], h => by cases h
  | q :: l, h => by
    unfold ck_f1 at h
    split at h
    · next e =>
      simp only [Bool.and_eq_true, beq_iff_eq] at e
      obtain ⟨⟨⟨e1, e2⟩, e3⟩, e4⟩ := e
      cases h
      refine ⟨q.2.2.2.1, ?_⟩
      rw [← e1, ← e2, ← e3, ← ck_aeq_ok e4]
      exact List.mem_cons_self
    · obtain ⟨a, ha⟩ := ck_f1_mem h
      exact ⟨a, List.mem_cons_of_mem _ ha⟩
theorem ck_f2_mem {ix : ck_A} {w : ck_V} : ∀ {es : List ck_Q}, ck_f2 es ix = some w → ∃ a b c, ((2, a, b, c, ix, w) : ck_Q) ∈ es
  | [], h => by cases h
  | q :: l, h => by
    unfold ck_f2 at h
    split at h
    · next e =>
      simp only [Bool.and_eq_true, beq_iff_eq] at e
      obtain ⟨e1, e4⟩ := e
      cases h
      refine ⟨q.2.1, q.2.2.1, q.2.2.2.1, ?_⟩
      rw [← e1, ← ck_aeq_ok e4]
      exact List.mem_cons_self
    · obtain ⟨a, b, c, ha⟩ := ck_f2_mem h
      exact ⟨a, b, c, List.mem_cons_of_mem _ ha⟩
theorem ck_f3_mem {t r K w : Nat} {a : ck_A} : ∀ {es : List ck_Q}, ck_f3 es t r K w = some a → ∃ v, ((t, r, K, w, a, v) : ck_Q) ∈ es
  | [], h => by cases h
  | q :: l, h => by
    unfold ck_f3 at h
    split at h
    · next e =>
      simp only [Bool.and_eq_true, beq_iff_eq] at e
      obtain ⟨⟨⟨e1, e2⟩, e3⟩, e4⟩ := e
      cases h
      refine ⟨q.2.2.2.2.2, ?_⟩
      rw [← e1, ← e2, ← e3, ← e4]
      exact List.mem_cons_self
    · obtain ⟨a, ha⟩ := ck_f3_mem h
      exact ⟨a, List.mem_cons_of_mem _ ha⟩
theorem ck_f6_mem {r : Nat} : ∀ {es : List ck_Q}, ck_f6 es r = true → ∃ x, ((6, r, x) : ck_Q) ∈ es
  | [], h => by cases h
  | q :: l, h => by
    unfold ck_f6 at h
    rcases Bool.or_eq_true_iff.mp h with h | h
    · simp only [Bool.and_eq_true, beq_iff_eq] at h
      refine ⟨q.2.2, ?_⟩
      rw [← h.1, ← h.2]
      exact List.mem_cons_self
    · obtain ⟨a, ha⟩ := ck_f6_mem h
      exact ⟨a, List.mem_cons_of_mem _ ha⟩
theorem ck_f11_mem {r k m : Nat} : ∀ {es : List ck_Q}, ck_f11 es r k = some m → ∃ x, ((11, r, k, m, x) : ck_Q) ∈ es
  | [], h => by cases h
  | q :: l, h => by
    unfold ck_f11 at h
    split at h
    · next e =>
      simp only [Bool.and_eq_true, beq_iff_eq] at e
      obtain ⟨⟨e1, e2⟩, e3⟩ := e
      cases h
      refine ⟨q.2.2.2.2, ?_⟩
      rw [← e1, ← e2, ← e3]
      exact List.mem_cons_self
    · obtain ⟨a, ha⟩ := ck_f11_mem h
      exact ⟨a, List.mem_cons_of_mem _ ha⟩
/-- what is known holds, for every longer row of roots -/
abbrev ck_Ms (E : cz_E) (Γ : ck_G) (h : cz_H) (ρ : List Int) (es : List ck_Q) : Prop := ∀ q ∈ es, ∀ σ, ck_M E Γ h (ρ ++ σ) q
abbrev ck_Ds (E : cz_E) (Γ : ck_G) (ρ : List Int) (v : ck_V) (x : Value) : Prop := ∀ σ, ck_D E Γ (ρ ++ σ) v x
section CKS
variable {E : cz_E} {Γ : ck_G} {h : cz_H} {ρ : List Int} {n : ck_N} {es : List ck_Q} {v : ck_V} {x : Value}
theorem ck_D3 (hv : ck_D E Γ ρ v x) (t : v.1 = 3) : ∃ p : Nat, x = .ref (E.1 + p) ∧ (p : Int) = ρ.getD v.2.1 0 ∧ ∃ m : Nat, Γ[p]? = some (v.2.2.1, m) ∧ ck_full v.2.2.1 m = true := by
  unfold ck_D at hv
  rw [t] at hv
  obtain ⟨a, e1, e2, h1, m, h2, h3⟩ := hv
  refine ⟨a - E.1, ?_, by omega, m, h2, h3⟩
  rw [e1, Nat.add_sub_cancel' h1]
theorem ck_D3i {r K p m : Nat} {a b : ck_A} (e1 : x = .ref (E.1 + p)) (e2 : (p : Int) = ρ.getD r 0) (e3 : Γ[p]? = some (K, m)) (e4 : ck_full K m = true) : ck_D E Γ ρ (3, r, K, a, b) x := ⟨E.1 + p, e1, by push_cast; rw [← e2], Nat.le_add_right _ _, m, by rw [Nat.add_sub_cancel_left]; exact e3, e4⟩
theorem ck_D9 (hv : ck_D E Γ ρ v x) (t : v.1 = 9) : ∃ p : Nat, x = .ref (E.1 + p) ∧ (p : Int) = ρ.getD v.2.1 0 ∧ ∃ m : Nat, Γ[p]? = some (v.2.2.1, m) := by
  unfold ck_D at hv
  rw [t] at hv
  obtain ⟨a, e1, e2, h1, m, h2⟩ := hv
  refine ⟨a - E.1, ?_, by omega, m, h2⟩
  rw [e1, Nat.add_sub_cancel' h1]
theorem ck_D4 (hv : ck_D E Γ ρ v x) (t : v.1 = 4) : (x = .null ∧ ρ.getD v.2.1 0 = -1) ∨ ∃ p : Nat, x = .ref (E.1 + p) ∧ (p : Int) = ρ.getD v.2.1 0 ∧ ∃ m : Nat, Γ[p]? = some (v.2.2.1, m) ∧ ck_full v.2.2.1 m = true := by
  unfold ck_D at hv
  rw [t] at hv
  rcases hv with hv | ⟨a, e1, e2, h1, m, h2, h3⟩
  · exact Or.inl hv
  · refine Or.inr ⟨a - E.1, ?_, by omega, m, h2, h3⟩
    rw [e1, Nat.add_sub_cancel' h1]
theorem ck_nz_ok (hn : ∀ σ, ck_nok n (ρ ++ σ)) (hm : ck_Ms E Γ h ρ es) (hv : ck_Ds E Γ ρ v x) : ck_Ds E Γ ρ (ck_nz n es v) x := by
  intro σ
  unfold ck_nz
  split
  · next t =>
    split
    · next b eb =>
      have hb := (hn σ).1 _ _ eb
      split
      · next h0 =>
        rcases ck_D4 (hv σ) t with ⟨-, e⟩ | ⟨p, e1, e2, m, e3, e4⟩
        · omega
        · exact ck_D3i e1 e2 e3 e4
      · split
        · next h0 =>
          rcases ck_D4 (hv σ) t with ⟨e, -⟩ | ⟨p, e1, e2, m, e3, e4⟩
          · exact e
          · omega
        · exact hv σ
    · exact hv σ
  · split
    · next t =>
      split
      · next m em =>
        split
        · next hf =>
          obtain ⟨y, hy⟩ := ck_f11_mem em
          obtain ⟨p', m', e1, e2, e3⟩ := hm _ hy σ
          obtain ⟨p, d1, d2, m2, d3⟩ := ck_D9 (hv σ) t
          have e1 : (p' : Int) = (ρ ++ σ).getD v.2.1 0 := e1
          have : p' = p := by omega
          subst this
          cases e2.symm.trans d3
          exact ck_D3i d1 d2 d3 (ck_full_mono hf e3)
        · exact hv σ
      · exact hv σ
    · exact hv σ
end CKS
/-- objects' kinds are their classes -/
theorem ck_kt_obj {k : Nat} {o : Nat × List ck_S} (h : ck_kt[k]? = some (.inl o)) : o.1 = k := by
  have hall : (List.range ck_kt.length).all (fun j => match ck_kt[j]? with | some (.inl o) => o.1 == j | _ => true) = true := by decide +kernel
  have hk : k < ck_kt.length := (List.getElem?_eq_some_iff.mp h).1
  have := List.all_eq_true.mp hall k (List.mem_range.mpr hk)
  rw [h] at this
  simpa using this
