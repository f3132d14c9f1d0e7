/-! THE CHECKER IS SOUND: what is known of the heap, and what it means -/
def ck_c1 (v : Value) (P : Int) : Nat := match v with
  | .int z => if z.toInt = P then 1 else 0
  | _ => 0
/-- how many of the first n are P -/
def ck_cn (g : Nat → Value) (P : Int) : Nat → Nat
  | 0 => 0
  | n + 1 => ck_cn g P n + ck_c1 (g n) P
theorem ck_c1_le (v : Value) (P : Int) : ck_c1 v P ≤ 1 := by
  unfold ck_c1
  split
  · split <;> omega
  · omega
theorem ck_cn_le (g : Nat → Value) (P : Int) (n : Nat) : ck_cn g P n ≤ n := by
  induction n with
  | zero => exact Nat.le_refl _
  | succ n ih =>
    have := ck_c1_le (g n) P
    unfold ck_cn
    omega
/-- one element is replaced -/
theorem ck_cn_set {g g' : Nat → Value} {P : Int} {i : Nat} (ho : ∀ j, j ≠ i → g' j = g j) : ∀ n : Nat, (ck_cn g' P n : Int) = ck_cn g P n + (if i < n then (ck_c1 (g' i) P : Int) - ck_c1 (g i) P else 0) := by
  intro n
  induction n with
  | zero => simp [ck_cn]
  | succ n ih =>
    unfold ck_cn
    by_cases h1 : n = i
    · subst h1
      rw [if_neg (Nat.lt_irrefl _)] at ih
      rw [if_pos (Nat.lt_succ_self _)]
      omega
    · rw [ho n h1]
      by_cases h2 : i < n
      · rw [if_pos h2] at ih
        rw [if_pos (by omega)]
        omega
      · rw [if_neg h2] at ih
        rw [if_neg (by omega)]
        omega
/-! images beside the reference's rows -/
def ck_fd (h : cz_H) (p ci k : Nat) : Option Value := match h[p]? with
  | some (.inr o) => if o.1 = ci then o.2[k]? else none
  | _ => none
def ck_rp (E : cz_E) (v : Option Value) : Option Nat := match v with
  | some (.ref a) => if E.1 ≤ a then some (a - E.1) else none
  | _ => none
/-- a part of what lies at t -/
def ck_po (E : cz_E) (h : cz_H) (t f : Nat) : Option Nat := if f = 0 then some t else ck_rp E (ck_fd h t 10 f)
def ck_X18 (E : cz_E) (h : cz_H) (t : Nat) (bd : Option Int) (md : Nat) (exc : Int) (g : Nat → Option Nat) (f2 : Nat → Int32) (T : Nat → Nat) (I : Nat → Nat → Nat) : Prop :=
  (∀ b, bd = some b → b ≤ (h.length : Int)) ∧
  (∀ f ∈ ck_pfs, ck_po E h t f = some (T f) ∧ T f < h.length ∧ ∀ b, bd = some b → (T f : Int) < b) ∧
  ∀ i : Nat, i < 3 → ∀ a : Nat, g i = some a → E.1 ≤ a ∧
    (∀ f ∈ ck_pfs, ck_po E h (a - E.1) f = some (I i f) ∧ I i f < h.length ∧ (∀ b, bd = some b → (I i f : Int) < b) ∧ I i f ≠ T f ∧ ∀ j : Nat, j < 3 → j ≠ i → g j ≠ none → I j f ≠ I i f) ∧
    (md = 0 ∨ (i : Int) ≠ exc → ∀ L ∈ ck_lks, ck_fd h (I i L.1) L.2.1 L.2.2.1 = some (.int (f2 (8090 * i + L.2.2.2))))
def ck_bo (ρ : List Int) (a : ck_A) : Option Int := if ck_aeq a (ck_c 0) = true then none else some (ck_ev ρ a)
def ck_M (E : cz_E) (Γ : ck_G) (h : cz_H) (ρ : List Int) (q : ck_Q) : Prop := match q.1 with
  | 0 => ∃ (p : Nat) (vs : List Value) (x : Value), (p : Int) = ρ.getD q.2.1 0 ∧ h[p]? = some (.inr (q.2.2.1, vs)) ∧ vs[q.2.2.2.1]? = some x ∧ ck_D E Γ ρ q.2.2.2.2.2 x
  | 1 => ∃ (p m tc n : Nat) (y : (Nat → Int32) ⊕ (Nat → Int64) ⊕ (Nat → UInt32) ⊕ (Nat → UInt64) ⊕ (Nat → Option Nat)) (i : Nat), (p : Int) = ρ.getD q.2.1 0 ∧ Γ[p]? = some (q.2.2.1, m) ∧ h[p]? = some (.inl (tc, n, y)) ∧ (i : Int) = ck_ev ρ q.2.2.2.2.1 ∧ i < n ∧ ck_D E Γ ρ q.2.2.2.2.2 (ck_el y i)
  | 2 => ∃ i : Nat, (i : Int) = ck_ev ρ q.2.2.2.2.1 ∧ i < E.2.1.2.1 ∧ ck_D E Γ ρ q.2.2.2.2.2 (.int (E.2.1.2.2 i))
  | 3 => ∃ (p m tc n : Nat) (y : (Nat → Int32) ⊕ (Nat → Int64) ⊕ (Nat → UInt32) ⊕ (Nat → UInt64) ⊕ (Nat → Option Nat)), (p : Int) = ρ.getD q.2.1 0 ∧ Γ[p]? = some (q.2.2.1, m) ∧ h[p]? = some (.inl (tc, n, y)) ∧ ((ck_cn (ck_el y) (ck_P01 q.2.2.2.1) n : Nat) : Int) = ck_ev ρ q.2.2.2.2.1
  | 4 => ∃ (p m tc n : Nat) (f : Nat → Int32), (p : Int) = ρ.getD q.2.1 0 ∧ Γ[p]? = some (q.2.2.1, m) ∧ h[p]? = some (.inl (tc, n, .inl f)) ∧ ∀ l : Nat, l < 16 → (l : Int) < ck_ev ρ q.2.2.2.2.1 → ck_pair (f (4 + 16 * l)) (f (5 + 16 * l))
  | 6 => ∃ (p : Nat) (vs : List Value) (k s : Int32), (p : Int) = ρ.getD q.2.1 0 ∧ h[p]? = some (.inr (7, vs)) ∧ vs[6]? = some (.int k) ∧ vs[5]? = some (.int s) ∧ (k.toInt = 5 ∨ s.toInt ≤ 599)
  | 9 => ρ.getD q.2.1 0 = ck_ev ρ q.2.2.2.2.1 * ck_ev ρ q.2.2.2.2.2.2.2.2.1
  | 10 => ck_ev ρ q.2.2.2.2.2.2.2.2.1 * ρ.getD q.2.1 0 ≤ ck_ev ρ q.2.2.2.2.1 ∧ ck_ev ρ q.2.2.2.2.1 < ck_ev ρ q.2.2.2.2.2.2.2.2.1 * (ρ.getD q.2.1 0 + 1)
  | 11 => ∃ p m : Nat, (p : Int) = ρ.getD q.2.1 0 ∧ Γ[p]? = some (q.2.2.1, m) ∧ ck_sub1 q.2.2.2.1 m
  | 14 => ∃ (p m tc n : Nat) (f : Nat → Int32) (p2 m2 tc2 : Nat) (f2 : Nat → Int32), (p : Int) = ρ.getD q.2.1 0 ∧ Γ[p]? = some (q.2.2.1, m) ∧ h[p]? = some (.inl (tc, n, .inl f)) ∧ (p2 : Int) = ρ.getD q.2.2.2.2.2.2.1 0 ∧ Γ[p2]? = some (q.2.2.2.1, m2) ∧ h[p2]? = some (.inl (tc2, n, .inl f2)) ∧ ∀ i : Nat, i < n → f i = f2 i
  | 15 => ∃ (p m tc n : Nat) (f : Nat → Int32) (p2 m2 tc2 : Nat) (f2 : Nat → Int32), (p : Int) = ρ.getD q.2.1 0 ∧ Γ[p]? = some (q.2.2.1, m) ∧ h[p]? = some (.inl (tc, n, .inl f)) ∧ (p2 : Int) = ρ.getD q.2.2.2.2.2.2.1 0 ∧ Γ[p2]? = some (q.2.2.2.1, m2) ∧ h[p2]? = some (.inl (tc2, n, .inl f2)) ∧ ∀ i : Nat, i < n → (i : Int) ≠ ck_ev ρ q.2.2.2.2.1 → f i = f2 i
  | 16 => ∃ (p m tc n : Nat) (g : Nat → Option Nat) (p2 m2 tc2 : Nat) (f2 : Nat → Int32), (p : Int) = ρ.getD q.2.1 0 ∧ Γ[p]? = some (q.2.2.1, m) ∧ h[p]? = some (.inl (tc, n, .inr (.inr (.inr (.inr g))))) ∧ (p2 : Int) = ρ.getD q.2.2.2.2.2.2.1 0 ∧ Γ[p2]? = some (q.2.2.2.1, m2) ∧ h[p2]? = some (.inl (tc2, n, .inl f2)) ∧ ∀ i : Nat, i < n → (g i = none ↔ f2 i = 0)
  | 17 => ∃ (p m tc n : Nat) (g : Nat → Option Nat) (p2 m2 tc2 : Nat) (f2 : Nat → Int32), (p : Int) = ρ.getD q.2.1 0 ∧ Γ[p]? = some (q.2.2.1, m) ∧ h[p]? = some (.inl (tc, n, .inr (.inr (.inr (.inr g))))) ∧ (p2 : Int) = ρ.getD q.2.2.2.2.2.2.1 0 ∧ Γ[p2]? = some (q.2.2.2.1, m2) ∧ h[p2]? = some (.inl (tc2, n, .inl f2)) ∧ ∀ i : Nat, i < n → ((i : Int) ≠ ck_ev ρ q.2.2.2.2.1 → (g i = none ↔ f2 i = 0)) ∧ ((i : Int) = ck_ev ρ q.2.2.2.2.1 → g i ≠ none)
  | 18 => ∃ (p m tc n : Nat) (g : Nat → Option Nat) (p2 m2 tc2 n2 : Nat) (f2 : Nat → Int32) (t : Nat) (T : Nat → Nat) (I : Nat → Nat → Nat), (p : Int) = ρ.getD q.2.1 0 ∧ Γ[p]? = some (71, m) ∧ h[p]? = some (.inl (tc, n, .inr (.inr (.inr (.inr g))))) ∧ (p2 : Int) = ρ.getD q.2.2.2.2.2.2.1 0 ∧ Γ[p2]? = some (78, m2) ∧ h[p2]? = some (.inl (tc2, n2, .inl f2)) ∧ (t : Int) = ck_ev ρ q.2.2.2.2.2.2.2.2.1 ∧ ck_X18 E h t (ck_bo ρ q.2.2.2.2.2.2.2.2.2) q.2.2.2.1 (ck_ev ρ q.2.2.2.2.1) g f2 T I
  | _ => False
theorem ck_teq_ok : ∀ {a b : List (Nat × Int)}, ck_teq a b = true → a = b
  | [], [], _ => rfl
  | p :: l, q :: r, h => by
    unfold ck_teq at h
    simp only [Bool.and_eq_true, beq_iff_eq] at h
    obtain ⟨⟨h1, h2⟩, h3⟩ := h
    rw [ck_teq_ok h3, show p = q from Prod.ext h1 h2]
  | [], _ :: _, h => by cases h
  | _ :: _, [], h => by cases h
theorem ck_aeq_ok {a b : ck_A} (h : ck_aeq a b = true) : a = b := by
  unfold ck_aeq at h
  simp only [Bool.and_eq_true, beq_iff_eq] at h
  exact Prod.ext (ck_teq_ok h.2) h.1
theorem ck_f0_mem {r ci k : Nat} {w : ck_V} : ∀ {es : List ck_Q}, ck_f0 es r ci k = some w → ∃ a, ((0, r, ci, k, a, w) : ck_Q) ∈ es
  | [], h => by cases h
  | q :: l, h => by
    unfold ck_f0 at h
    split at h
    · next e =>
      simp only [Bool.and_eq_true, beq_iff_eq] at e
      obtain ⟨⟨⟨e1, e2⟩, e3⟩, e4⟩ := e
      cases h
      refine ⟨q.2.2.2.2.1, ?_⟩
      rw [← e1, ← e2, ← e3, ← e4]
      exact List.mem_cons_self
    · obtain ⟨a, ha⟩ := ck_f0_mem h
      exact ⟨a, List.mem_cons_of_mem _ ha⟩
theorem ck_f1_mem {r K : Nat} {ix : ck_A} {w : ck_V} : ∀ {es : List ck_Q}, ck_f1 es r K ix = some w → ∃ a, ((1, r, K, a, ix, w) : ck_Q) ∈ es
  | [], h => by cases h
  | q :: l, h => by
    unfold ck_f1 at h
    split at h
    · next e =>
      simp only [Bool.and_eq_true, beq_iff_eq] at e
      obtain ⟨⟨⟨e1, e2⟩, e3⟩, e4⟩ := e
      cases h
      refine ⟨q.2.2.2.1, ?_⟩
      rw [← e1, ← e2, ← e3, ← ck_aeq_ok e4]
      exact List.mem_cons_self
    · obtain ⟨a, ha⟩ := ck_f1_mem h
      exact ⟨a, List.mem_cons_of_mem _ ha⟩
theorem ck_f2_mem {ix : ck_A} {w : ck_V} : ∀ {es : List ck_Q}, ck_f2 es ix = some w → ∃ a b c, ((2, a, b, c, ix, w) : ck_Q) ∈ es
  | [], h => by cases h
  | q :: l, h => by
    unfold ck_f2 at h
    split at h
    · next e =>
      simp only [Bool.and_eq_true, beq_iff_eq] at e
      obtain ⟨e1, e4⟩ := e
      cases h
      refine ⟨q.2.1, q.2.2.1, q.2.2.2.1, ?_⟩
      rw [← e1, ← ck_aeq_ok e4]
      exact List.mem_cons_self
    · obtain ⟨a, b, c, ha⟩ := ck_f2_mem h
      exact ⟨a, b, c, List.mem_cons_of_mem _ ha⟩
theorem ck_f3_mem {t r K w : Nat} {a : ck_A} : ∀ {es : List ck_Q}, ck_f3 es t r K w = some a → ∃ v, ((t, r, K, w, a, v) : ck_Q) ∈ es
  | [], h => by cases h
  | q :: l, h => by
    unfold ck_f3 at h
    split at h
    · next e =>
      simp only [Bool.and_eq_true, beq_iff_eq] at e
      obtain ⟨⟨⟨e1, e2⟩, e3⟩, e4⟩ := e
      cases h
      refine ⟨q.2.2.2.2.2, ?_⟩
      rw [← e1, ← e2, ← e3, ← e4]
      exact List.mem_cons_self
    · obtain ⟨a, ha⟩ := ck_f3_mem h
      exact ⟨a, List.mem_cons_of_mem _ ha⟩
theorem ck_f6_mem {r : Nat} : ∀ {es : List ck_Q}, ck_f6 es r = true → ∃ x, ((6, r, x) : ck_Q) ∈ es
  | [], h => by cases h
  | q :: l, h => by
    unfold ck_f6 at h
    rcases Bool.or_eq_true_iff.mp h with h | h
    · simp only [Bool.and_eq_true, beq_iff_eq] at h
      refine ⟨q.2.2, ?_⟩
      rw [← h.1, ← h.2]
      exact List.mem_cons_self
    · obtain ⟨a, ha⟩ := ck_f6_mem h
      exact ⟨a, List.mem_cons_of_mem _ ha⟩
theorem ck_f11_mem {r k m : Nat} : ∀ {es : List ck_Q}, ck_f11 es r k = some m → ∃ x, ((11, r, k, m, x) : ck_Q) ∈ es
  | [], h => by cases h
  | q :: l, h => by
    unfold ck_f11 at h
    split at h
    · next e =>
      simp only [Bool.and_eq_true, beq_iff_eq] at e
      obtain ⟨⟨e1, e2⟩, e3⟩ := e
      cases h
      refine ⟨q.2.2.2.2, ?_⟩
      rw [← e1, ← e2, ← e3]
      exact List.mem_cons_self
    · obtain ⟨a, ha⟩ := ck_f11_mem h
      exact ⟨a, List.mem_cons_of_mem _ ha⟩
/-- what is known holds, for every longer row of roots -/
abbrev ck_Ms (E : cz_E) (Γ : ck_G) (h : cz_H) (ρ : List Int) (es : List ck_Q) : Prop := ∀ q ∈ es, ∀ σ, ck_M E Γ h (ρ ++ σ) q
abbrev ck_Ds (E : cz_E) (Γ : ck_G) (ρ : List Int) (v : ck_V) (x : Value) : Prop := ∀ σ, ck_D E Γ (ρ ++ σ) v x
section CKS
variable {E : cz_E} {Γ : ck_G} {h : cz_H} {ρ : List Int} {n : ck_N} {es : List ck_Q} {v : ck_V} {x : Value}
theorem ck_D3 (hv : ck_D E Γ ρ v x) (t : v.1 = 3) : ∃ p : Nat, x = .ref (E.1 + p) ∧ (p : Int) = ρ.getD v.2.1 0 ∧ ∃ m : Nat, Γ[p]? = some (v.2.2.1, m) ∧ ck_full v.2.2.1 m = true := by
  unfold ck_D at hv
  rw [t] at hv
  obtain ⟨a, e1, e2, h1, m, h2, h3⟩ := hv
  refine ⟨a - E.1, ?_, by omega, m, h2, h3⟩
  rw [e1, Nat.add_sub_cancel' h1]
theorem ck_D3i {r K p m : Nat} {a b : ck_A} (e1 : x = .ref (E.1 + p)) (e2 : (p : Int) = ρ.getD r 0) (e3 : Γ[p]? = some (K, m)) (e4 : ck_full K m = true) : ck_D E Γ ρ (3, r, K, a, b) x := ⟨E.1 + p, e1, by push_cast; rw [← e2], Nat.le_add_right _ _, m, by rw [Nat.add_sub_cancel_left]; exact e3, e4⟩
theorem ck_D9 (hv : ck_D E Γ ρ v x) (t : v.1 = 9) : ∃ p : Nat, x = .ref (E.1 + p) ∧ (p : Int) = ρ.getD v.2.1 0 ∧ ∃ m : Nat, Γ[p]? = some (v.2.2.1, m) := by
  unfold ck_D at hv
  rw [t] at hv
  obtain ⟨a, e1, e2, h1, m, h2⟩ := hv
  refine ⟨a - E.1, ?_, by omega, m, h2⟩
  rw [e1, Nat.add_sub_cancel' h1]
theorem ck_D4 (hv : ck_D E Γ ρ v x) (t : v.1 = 4) : (x = .null ∧ ρ.getD v.2.1 0 = -1) ∨ ∃ p : Nat, x = .ref (E.1 + p) ∧ (p : Int) = ρ.getD v.2.1 0 ∧ ∃ m : Nat, Γ[p]? = some (v.2.2.1, m) ∧ ck_full v.2.2.1 m = true := by
  unfold ck_D at hv
  rw [t] at hv
  rcases hv with hv | ⟨a, e1, e2, h1, m, h2, h3⟩
  · exact Or.inl hv
  · refine Or.inr ⟨a - E.1, ?_, by omega, m, h2, h3⟩
    rw [e1, Nat.add_sub_cancel' h1]
theorem ck_nz_ok (hn : ∀ σ, ck_nok n (ρ ++ σ)) (hm : ck_Ms E Γ h ρ es) (hv : ck_Ds E Γ ρ v x) : ck_Ds E Γ ρ (ck_nz n es v) x := by
  intro σ
  unfold ck_nz
  split
  · next t =>
    split
    · next b eb =>
      have hb := (hn σ).1 _ _ eb
      split
      · next h0 =>
        rcases ck_D4 (hv σ) t with ⟨-, e⟩ | ⟨p, e1, e2, m, e3, e4⟩
        · omega
        · exact ck_D3i e1 e2 e3 e4
      · split
        · next h0 =>
          rcases ck_D4 (hv σ) t with ⟨e, -⟩ | ⟨p, e1, e2, m, e3, e4⟩
          · exact e
          · omega
        · exact hv σ
    · exact hv σ
  · split
    · next t =>
      split
      · next m em =>
        split
        · next hf =>
          obtain ⟨y, hy⟩ := ck_f11_mem em
          obtain ⟨p', m', e1, e2, e3⟩ := hm _ hy σ
          obtain ⟨p, d1, d2, m2, d3⟩ := ck_D9 (hv σ) t
          have e1 : (p' : Int) = (ρ ++ σ).getD v.2.1 0 := e1
          have : p' = p := by omega
          subst this
          cases e2.symm.trans d3
          exact ck_D3i d1 d2 d3 (ck_full_mono hf e3)
        · exact hv σ
      · exact hv σ
    · exact hv σ
end CKS
/-- objects' kinds are their classes -/
theorem ck_kt_obj {k : Nat} {o : Nat × List ck_S} (h : ck_kt[k]? = some (.inl o)) : o.1 = k := by
  have hall : (List.range ck_kt.length).all (fun j => match ck_kt[j]? with | some (.inl o) => o.1 == j | _ => true) = true := by decide +kernel
  have hk : k < ck_kt.length := (List.getElem?_eq_some_iff.mp h).1
  have := List.all_eq_true.mp hall k (List.mem_range.mpr hk)
  rw [h] at this
  simpa using this
