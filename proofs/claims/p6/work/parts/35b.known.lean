/-! THE CHECKER IS SOUND: what is known, looked up -/
theorem ck_rt_ok : ∀ {a : ck_A} {r : Nat}, ck_rt a = some r → ∀ ρ : List Int, ck_ev ρ a = ρ.getD r 0
  | ([q], c), r, e, ρ => by
    have e : (if q.2 = 1 ∧ c = 0 then some q.1 else none) = some r := e
    split at e
    · next h =>
      cases e
      show (q.2 * ρ.getD q.1 0 + 0) + c = _
      rw [h.1, h.2]
      omega
    · cases e
  | ([], c), r, e, _ => by cases e
  | (_ :: _ :: _, c), r, e, _ => by cases e
section CKX0
variable {E : cz_E} {Γ : ck_G} {B : Int} {ρ : List Int} {n n' : ck_N} {st st' : List ck_V} {es es' : List ck_Q} {cst : List Value} {h : cz_H} {v w : ck_V} {x : Value}
theorem ck_D39 (hv : ck_Ds E Γ ρ v x) (t : v.1 = 3 ∨ v.1 = 9) : ∃ p : Nat, x = .ref (E.1 + p) ∧ (∀ σ, (p : Int) = (ρ ++ σ).getD v.2.1 0) ∧ ∃ m : Nat, Γ[p]? = some (v.2.2.1, m) ∧ (v.1 = 3 → ck_full v.2.2.1 m = true) := by
  have one : ∀ σ, ∃ p : Nat, x = .ref (E.1 + p) ∧ (p : Int) = (ρ ++ σ).getD v.2.1 0 ∧ ∃ m : Nat, Γ[p]? = some (v.2.2.1, m) ∧ (v.1 = 3 → ck_full v.2.2.1 m = true) := by
    intro σ
    rcases t with t | t
    · obtain ⟨p, e1, e2, m, e3, e4⟩ := ck_D3 (hv σ) t
      exact ⟨p, e1, e2, m, e3, fun _ => e4⟩
    · obtain ⟨p, e1, e2, m, e3⟩ := ck_D9 (hv σ) t
      exact ⟨p, e1, e2, m, e3, fun z => by omega⟩
  obtain ⟨p, e1, -, e3⟩ := one []
  refine ⟨p, e1, fun σ => ?_, e3⟩
  obtain ⟨p', d1, d2, -⟩ := one σ
  have : E.1 + p = E.1 + p' := by
    have := e1.symm.trans d1
    injection this
  have : p = p' := by omega
  subst this
  exact d2
theorem ck_f0_ok (hm : ck_Ms E Γ h ρ es) {r ci k p : Nat} (e : ck_f0 es r ci k = some w) (hp : ∀ σ, (p : Int) = (ρ ++ σ).getD r 0) : ∃ vs y, h[p]? = some (.inr (ci, vs)) ∧ vs[k]? = some y ∧ ck_Ds E Γ ρ w y := by
  obtain ⟨a, ha⟩ := ck_f0_mem e
  have one : ∀ σ, ∃ vs y, h[p]? = some (.inr (ci, vs)) ∧ vs[k]? = some y ∧ ck_D E Γ (ρ ++ σ) w y := by
    intro σ
    obtain ⟨p', vs, y, e1, e2, e3, e4⟩ := hm _ ha σ
    have e1 : (p' : Int) = (ρ ++ σ).getD r 0 := e1
    have := hp σ
    have : p' = p := by omega
    subst this
    exact ⟨vs, y, e2, e3, e4⟩
  obtain ⟨vs, y, e1, e2, -⟩ := one []
  refine ⟨vs, y, e1, e2, fun σ => ?_⟩
  obtain ⟨vs', y', d1, d2, d3⟩ := one σ
  cases e1.symm.trans d1
  cases e2.symm.trans d2
  exact d3
theorem ck_f1_ok (hm : ck_Ms E Γ h ρ es) {r K p i : Nat} {ix : ck_A} (e : ck_f1 es r K ix = some w) (hp : ∀ σ, (p : Int) = (ρ ++ σ).getD r 0) (hi : ∀ σ, (i : Int) = ck_ev (ρ ++ σ) ix) : ∃ tc len y, h[p]? = some (.inl (tc, len, y)) ∧ i < len ∧ ck_Ds E Γ ρ w (ck_el y i) ∧ ∃ m, Γ[p]? = some (K, m) := by
  obtain ⟨a, ha⟩ := ck_f1_mem e
  have one : ∀ σ, ∃ tc len y, h[p]? = some (.inl (tc, len, y)) ∧ i < len ∧ ck_D E Γ (ρ ++ σ) w (ck_el y i) ∧ ∃ m, Γ[p]? = some (K, m) := by
    intro σ
    obtain ⟨p', m, tc, len, y, i', e1, e2, e3, e4, e5, e6⟩ := hm _ ha σ
    have e1 : (p' : Int) = (ρ ++ σ).getD r 0 := e1
    have e4 : (i' : Int) = ck_ev (ρ ++ σ) ix := e4
    have := hp σ
    have := hi σ
    have : p' = p := by omega
    subst this
    have : i' = i := by omega
    subst this
    exact ⟨tc, len, y, e3, e5, e6, m, e2⟩
  obtain ⟨tc, len, y, e1, e2, -, e3⟩ := one []
  refine ⟨tc, len, y, e1, e2, fun σ => ?_, e3⟩
  obtain ⟨tc', len', y', d1, -, d3, -⟩ := one σ
  cases e1.symm.trans d1
  exact d3
end CKX0
