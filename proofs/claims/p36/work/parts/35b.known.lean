/-! THE CHECKER IS SOUND: what is known, looked up -/
theorem ck_rt_ok : ∀ {a : ck_A} {r : Nat}, ck_rt a = some r → ∀ ρ : List Int, ck_ev ρ a = ρ.getD r 0
  | ([q], c), r, e, ρ => by
    have e : (if q.2 = 1 ∧ c = 0 then some q.1 else none) = some r := e
    split at e
    · next h =>
      cases e
      show (q.2 * ρ.getD q.1 0 + 0) + c = _
      rw [h.1, h.2]
      omega
    · cases e
  | ([], c), r, e, _ => by cases e
  | (_ :: _ :: _, c), r, e, _ => by cases e
theorem ck_dv_ok {k : Int} {a b : ck_A} (e : ck_dv k a = some b) (ρ : List Int) : ck_ev ρ a = k * ck_ev ρ b := by
  unfold ck_dv at e
  split at e
  · next hc =>
    simp only [Bool.and_eq_true, beq_iff_eq] at hc
    cases e
    have e1 : ∀ t : List (Nat × Int), (t.all fun q => q.2 % k == 0) = true → ck_tv ρ t = k * ck_tv ρ (t.map fun q => (q.1, q.2 / k)) := by
      intro t
      induction t with
      | nil => intro _; show (0 : Int) = k * 0; omega
      | cons q l ih =>
        intro ha
        simp only [List.all_cons, Bool.and_eq_true, beq_iff_eq] at ha
        show q.2 * ρ.getD q.1 0 + ck_tv ρ l = k * (q.2 / k * ρ.getD q.1 0 + ck_tv ρ (l.map fun q => (q.1, q.2 / k)))
        rw [Int.mul_add, ← Int.mul_assoc, Int.mul_ediv_cancel_of_emod_eq_zero ha.1, ih ha.2]
    have e2 := e1 a.1 hc.1
    have e3 : k * (a.2 / k) = a.2 := Int.mul_ediv_cancel_of_emod_eq_zero hc.2
    show ck_tv ρ a.1 + a.2 = k * (ck_tv ρ (a.1.map fun q => (q.1, q.2 / k)) + a.2 / k)
    rw [Int.mul_add, e3, e2]
  · cases e
theorem ck_inr_ok {n : ck_N} {ρ : List Int} {a l : ck_A} (hn : ck_nok n ρ) (e : ck_inr n a l = true) : 0 ≤ ck_ev ρ a ∧ ck_ev ρ a < ck_ev ρ l := by
  obtain ⟨e1, e2⟩ := Bool.and_eq_true_iff.mp e
  have h1 := ck_le_ok hn e1
  have h2 := ck_le_ok hn e2
  rw [ck_mul_ev] at h1
  rw [ck_sub_ev, ck_add_ev, ck_ev_c] at h2
  omega
section CKX0
variable {E : cz_E} {Γ : ck_G} {B : Int} {ρ : List Int} {n n' : ck_N} {st st' : List ck_V} {es es' : List ck_Q} {cst : List Value} {h : cz_H} {v w : ck_V} {x : Value}
theorem ck_D39 (hv : ck_Ds E Γ ρ v x) (t : v.1 = 3 ∨ v.1 = 9) : ∃ p : Nat, x = .ref (E.1 + p) ∧ (∀ σ, (p : Int) = (ρ ++ σ).getD v.2.1 0) ∧ ∃ m : Nat, Γ[p]? = some (v.2.2.1, m) ∧ (v.1 = 3 → ck_full v.2.2.1 m = true) := by
  have one : ∀ σ, ∃ p : Nat, x = .ref (E.1 + p) ∧ (p : Int) = (ρ ++ σ).getD v.2.1 0 ∧ ∃ m : Nat, Γ[p]? = some (v.2.2.1, m) ∧ (v.1 = 3 → ck_full v.2.2.1 m = true) := by
    intro σ
    rcases t with t | t
    · obtain ⟨p, e1, e2, m, e3, e4⟩ := ck_D3 (hv σ) t
      exact ⟨p, e1, e2, m, e3, fun _ => e4⟩
    · obtain ⟨p, e1, e2, m, e3⟩ := ck_D9 (hv σ) t
      exact ⟨p, e1, e2, m, e3, fun z => by omega⟩
  obtain ⟨p, e1, -, e3⟩ := one []
  refine ⟨p, e1, fun σ => ?_, e3⟩
  obtain ⟨p', d1, d2, -⟩ := one σ
  have : E.1 + p = E.1 + p' := by
    have := e1.symm.trans d1
    injection this
  have : p = p' := by omega
  subst this
  exact d2
theorem ck_f0_ok (hm : ck_Ms E Γ h ρ es) {r ci k p : Nat} (e : ck_f0 es r ci k = some w) (hp : ∀ σ, (p : Int) = (ρ ++ σ).getD r 0) : ∃ vs y, h[p]? = some (.inr (ci, vs)) ∧ vs[k]? = some y ∧ ck_Ds E Γ ρ w y := by
  obtain ⟨a, ha⟩ := ck_f0_mem e
  have one : ∀ σ, ∃ vs y, h[p]? = some (.inr (ci, vs)) ∧ vs[k]? = some y ∧ ck_D E Γ (ρ ++ σ) w y := by
    intro σ
    obtain ⟨p', vs, y, e1, e2, e3, e4⟩ := hm _ ha σ
    have e1 : (p' : Int) = (ρ ++ σ).getD r 0 := e1
    have := hp σ
    have : p' = p := by omega
    subst this
    exact ⟨vs, y, e2, e3, e4⟩
  obtain ⟨vs, y, e1, e2, -⟩ := one []
  refine ⟨vs, y, e1, e2, fun σ => ?_⟩
  obtain ⟨vs', y', d1, d2, d3⟩ := one σ
  cases e1.symm.trans d1
  cases e2.symm.trans d2
  exact d3
theorem ck_f1_ok (hm : ck_Ms E Γ h ρ es) {r K p i : Nat} {ix : ck_A} (e : ck_f1 es r K ix = some w) (hp : ∀ σ, (p : Int) = (ρ ++ σ).getD r 0) (hi : ∀ σ, (i : Int) = ck_ev (ρ ++ σ) ix) : ∃ tc len y, h[p]? = some (.inl (tc, len, y)) ∧ i < len ∧ ck_Ds E Γ ρ w (ck_el y i) ∧ ∃ m, Γ[p]? = some (K, m) := by
  obtain ⟨a, ha⟩ := ck_f1_mem e
  have one : ∀ σ, ∃ tc len y, h[p]? = some (.inl (tc, len, y)) ∧ i < len ∧ ck_D E Γ (ρ ++ σ) w (ck_el y i) ∧ ∃ m, Γ[p]? = some (K, m) := by
    intro σ
    obtain ⟨p', m, tc, len, y, i', e1, e2, e3, e4, e5, e6⟩ := hm _ ha σ
    have e1 : (p' : Int) = (ρ ++ σ).getD r 0 := e1
    have e4 : (i' : Int) = ck_ev (ρ ++ σ) ix := e4
    have := hp σ
    have := hi σ
    have : p' = p := by omega
    subst this
    have : i' = i := by omega
    subst this
    exact ⟨tc, len, y, e3, e5, e6, m, e2⟩
  obtain ⟨tc, len, y, e1, e2, -, e3⟩ := one []
  refine ⟨tc, len, y, e1, e2, fun σ => ?_, e3⟩
  obtain ⟨tc', len', y', d1, -, d3, -⟩ := one σ
  cases e1.symm.trans d1
  exact d3
end CKX0
