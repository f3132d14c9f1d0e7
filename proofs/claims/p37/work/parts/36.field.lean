/-! THE CHECKER IS SOUND: fields -/
section CKX
variable {E : cz_E} {Γ : ck_G} {B : Int} {ρ : List Int} {n n' : ck_N} {st st' : List ck_V} {es es' : List ck_Q} {cst : List Value} {h : cz_H} {v w : ck_V} {x : Value}
theorem ck_D39 (hv : ck_Ds E Γ ρ v x) (t : v.1 = 3 ∨ v.1 = 9) : ∃ p : Nat, x = .ref (E.1 + p) ∧ (∀ σ, (p : Int) = (ρ ++ σ).getD v.2.1 0) ∧ ∃ m : Nat, Γ[p]? = some (v.2.2.1, m) ∧ (v.1 = 3 → ck_full v.2.2.1 m = true) := by
  have one : ∀ σ, ∃ p : Nat, x = .ref (E.1 + p) ∧ (p : Int) = (ρ ++ σ).getD v.2.1 0 ∧ ∃ m : Nat, Γ[p]? = some (v.2.2.1, m) ∧ (v.1 = 3 → ck_full v.2.2.1 m = true) := by
    intro σ
    rcases t with t | t
    · obtain ⟨p, e1, e2, m, e3, e4⟩ := ck_D3 (hv σ) t
      exact ⟨p, e1, e2, m, e3, fun _ => e4⟩
    · obtain ⟨p, e1, e2, m, e3⟩ := ck_D9 (hv σ) t
      exact ⟨p, e1, e2, m, e3, fun z => by omega⟩
  obtain ⟨p, e1, -, e3⟩ := one []
  refine ⟨p, e1, fun σ => ?_, e3⟩
  obtain ⟨p', d1, d2, -⟩ := one σ
  have : E.1 + p = E.1 + p' := by
    have := e1.symm.trans d1
    injection this
  have : p = p' := by omega
  subst this
  exact d2
theorem ck_f0_ok (hm : ck_Ms E Γ h ρ es) {r ci k p : Nat} (e : ck_f0 es r ci k = some w) (hp : ∀ σ, (p : Int) = (ρ ++ σ).getD r 0) : ∃ vs y, h[p]? = some (.inr (ci, vs)) ∧ vs[k]? = some y ∧ ck_Ds E Γ ρ w y := by
  obtain ⟨a, ha⟩ := ck_f0_mem e
  have one : ∀ σ, ∃ vs y, h[p]? = some (.inr (ci, vs)) ∧ vs[k]? = some y ∧ ck_D E Γ (ρ ++ σ) w y := by
    intro σ
    obtain ⟨p', vs, y, e1, e2, e3, e4⟩ := hm _ ha σ
    have e1 : (p' : Int) = (ρ ++ σ).getD r 0 := e1
    have := hp σ
    have : p' = p := by omega
    subst this
    exact ⟨vs, y, e2, e3, e4⟩
  obtain ⟨vs, y, e1, e2, -⟩ := one []
  refine ⟨vs, y, e1, e2, fun σ => ?_⟩
  obtain ⟨vs', y', d1, d2, d3⟩ := one σ
  cases e1.symm.trans d1
  cases e2.symm.trans d2
  exact d3
theorem ck_f1_ok (hm : ck_Ms E Γ h ρ es) {r K p i : Nat} {ix : ck_A} (e : ck_f1 es r K ix = some w) (hp : ∀ σ, (p : Int) = (ρ ++ σ).getD r 0) (hi : ∀ σ, (i : Int) = ck_ev (ρ ++ σ) ix) : ∃ tc len y, h[p]? = some (.inl (tc, len, y)) ∧ i < len ∧ ck_Ds E Γ ρ w (ck_el y i) ∧ ∃ m, Γ[p]? = some (K, m) := by
  obtain ⟨a, ha⟩ := ck_f1_mem e
  have one : ∀ σ, ∃ tc len y, h[p]? = some (.inl (tc, len, y)) ∧ i < len ∧ ck_D E Γ (ρ ++ σ) w (ck_el y i) ∧ ∃ m, Γ[p]? = some (K, m) := by
    intro σ
    obtain ⟨p', m, tc, len, y, i', e1, e2, e3, e4, e5, e6⟩ := hm _ ha σ
    have e1 : (p' : Int) = (ρ ++ σ).getD r 0 := e1
    have e4 : (i' : Int) = ck_ev (ρ ++ σ) ix := e4
    have := hp σ
    have := hi σ
    have : p' = p := by omega
    subst this
    have : i' = i := by omega
    subst this
    exact ⟨tc, len, y, e3, e5, e6, m, e2⟩
  obtain ⟨tc, len, y, e1, e2, -, e3⟩ := one []
  refine ⟨tc, len, y, e1, e2, fun σ => ?_, e3⟩
  obtain ⟨tc', len', y', d1, -, d3, -⟩ := one σ
  cases e1.symm.trans d1
  exact d3
/-- a value more on the stack -/
theorem ck_J.push {r : List ck_V} {cr : List Value} (t : ck_HT E B Γ h) (hr : ck_Ls (ck_Ds E Γ ρ) r cr) (hm : ck_Ms E Γ h ρ es) (Y : ck_Y E Γ ρ n' v x) {new : List ck_Q} (hq : ∀ ρ2, ck_Ds E Γ (ρ ++ ρ2) v x → ck_Ms E Γ h (ρ ++ ρ2) new) : ∃ ρ2, ck_J E Γ B (ρ ++ ρ2) n' (v :: r) (new ++ es) (x :: cr) h := by
  obtain ⟨ρ2, h1, h2⟩ := Y
  have hv : ck_Ds E Γ (ρ ++ ρ2) v x := fun σ => (h2 σ).2
  refine ⟨ρ2, h1, t, fun σ => (h2 σ).1, ⟨hv, ck_Ls.imp (fun _ _ z => ck_Ds_app ρ2 z) hr⟩, fun q hq2 => ?_⟩
  rcases List.mem_append.mp hq2 with hq2 | hq2
  · exact hq ρ2 hv q hq2
  · exact ck_Ms_app ρ2 hm q hq2
theorem ck_Ms_nil : ck_Ms E Γ h ρ [] := fun _ z => by cases z
theorem ck_fs75 : ck_fs 7 5 = some (0, 0, 600, 0) := by decide +kernel
theorem ck_gf_ok {i pc xa : Nat} {xb : Int} (hE : cz_Eok E) (hB : B ≤ ck_BM) (hH : (Γ.length : Int) ≤ ck_HM) (J : ck_J E Γ B ρ n st es cst h) (e : ck_gf (pc, .getfield i, 3, xa, xb) n st es = some (n', st', es')) : ∃ ρ2 cst', cz_s2 E (pc, .getfield i, 3, xa, xb) cst h = some (pc + 3, cst', h) ∧ ck_J E Γ B (ρ ++ ρ2) n' st' es' cst' h := by
  obtain ⟨hl, t, hn, hs, hm⟩ := J
  unfold ck_gf at e
  obtain ⟨v0, r, rfl, e⟩ := ck_qv_some e
  obtain ⟨x0, cr, rfl, hx0, hr⟩ := ck_Ls.cons hs
  simp only at e
  split at e
  · next h100 =>
    subst h100
    obtain ⟨t6, e⟩ := cz_if_some e
    have t6 : v0.1 = 6 := by simpa using t6
    have one : ∀ σ, ∃ k : Nat, k < 14 ∧ x0 = .ref (E.2.2.1 k) ∧ (k : Int) = (ρ ++ σ).getD v0.2.1 0 ∧ ((cz_sl.getD k 0 : Nat) : Int) = (ρ ++ σ).getD v0.2.2.1 0 := by
      intro σ
      have := hx0 σ
      unfold ck_D at this
      rw [t6] at this
      exact this
    obtain ⟨k, k1, k2, -⟩ := one []
    have all : ∀ σ, (k : Int) = (ρ ++ σ).getD v0.2.1 0 ∧ ((cz_sl.getD k 0 : Nat) : Int) = (ρ ++ σ).getD v0.2.2.1 0 := by
      intro σ
      obtain ⟨k', d1, d2, d3, d4⟩ := one σ
      have : k = k' := hE.2.2.1 k k' k1 d1 (by have := k2.symm.trans d2; injection this)
      subst this
      exact ⟨d3, d4⟩
    have hks : cz_ks E (E.2.2.1 k) = some k := cz_fd_of k1 hE.2.2.1
    cases e
    subst k2
    refine ⟨[], (if xb = 0 then Value.ref (E.2.2.2.1 k) else Value.int 0) :: cr, ?_, ?_⟩
    · show cz_n 3 3 (cz_so (cz_ks E (E.2.2.1 k)) _) = _
      rw [hks]
      rfl
    · rw [List.append_nil]
      refine ⟨hl, t, hn, ⟨fun σ => ?_, hr⟩, hm⟩
      split
      · exact ⟨k, k1, rfl, (all σ).1, (all σ).2⟩
      · exact ⟨0, rfl, by show _ = ck_ev _ (ck_c 0); rw [ck_ev_c]; rfl⟩
  · next h100 =>
    obtain ⟨ht, e⟩ := cz_if_some e
    simp only [Bool.and_eq_true, Bool.or_eq_true, beq_iff_eq] at ht
    obtain ⟨ht1, ht2⟩ := ht
    have hv := ck_nz_ok hn hm hx0
    generalize ck_nz n es v0 = v at e ht1 ht2 hv
    obtain ⟨p, rfl, hp, m, hg, hf⟩ := ck_D39 hv ht1
    rw [ht2] at hg hf
    have step : ∀ {vs : List Value} {y : Value}, h[p]? = some (.inr (xa, vs)) → vs[xb.toNat]? = some y → cz_s2 E (pc, .getfield i, 3, xa, xb) (.ref (E.1 + p) :: cr) h = some (pc + 3, y :: cr, h) := by
      intro vs y h1 h2
      show cz_n 3 3 (if xa = 100 then _ else cz_ob (cz_at E h (E.1 + p)) fun ci fs => cz_if (ci == xa) (cz_so fs[xb.toNat]? fun v => some (pc + 3, v :: cr, h))) = _
      rw [if_neg h100, cz_at_add, h1]
      show cz_n 3 3 (cz_if (xa == xa) (cz_so vs[xb.toNat]? fun v => some (pc + 3, v :: cr, h))) = _
      rw [h2, beq_self_eq_true]
      rfl
    split at e
    · next w hw =>
      obtain ⟨vs, y, h1, h2, h3⟩ := ck_f0_ok hm hw hp
      cases e
      exact ⟨[], y :: cr, step h1 h2, by rw [List.append_nil]; exact ⟨hl, t, hn, ⟨h3, hr⟩, hm⟩⟩
    · obtain ⟨hbit, e⟩ := cz_if_some e
      obtain ⟨s, hs1, e⟩ := cz_so_some e
      obtain ⟨pp, hs2, e⟩ := cz_so_some e
      cases e
      obtain ⟨vs, y, h1, h2, h3, -⟩ := ck_obj t hg hs1
      have hbit : m.testBit xb.toNat = true := by
        rcases Bool.or_eq_true_iff.mp hbit with z | z
        · exact ck_full_bit hs1 (hf (by simpa using z))
        · unfold ck_bit at z
          split at z
          · next m' em =>
            obtain ⟨y', hy'⟩ := ck_f11_mem em
            obtain ⟨p', m2, d1, d2, d3⟩ := hm _ hy' []
            have d1 : (p' : Int) = (ρ ++ []).getD v.2.1 0 := d1
            have := hp []
            have : p' = p := by omega
            subst this
            cases hg.symm.trans d2
            exact d3 _ z
          · cases z
      have h3 := h3 hbit
      have Y : ck_Y E Γ ρ pp.1 pp.2 y := by
        refine ck_sv_ok hl hn hB hH hs2 ?_
        split
        · next hc =>
          simp only [Bool.and_eq_true, beq_iff_eq] at hc
          obtain ⟨⟨⟨c1, c2⟩, c3⟩, c4⟩ := hc
          obtain ⟨z6, hz6⟩ := ck_f6_mem c3
          obtain ⟨p', vs', kk, ss, d1, d2, d3, d4, d5⟩ := hm _ hz6 []
          have d1 : (p' : Int) = (ρ ++ []).getD v.2.1 0 := d1
          have := hp []
          have : p' = p := by omega
          subst this
          subst c1
          cases h1.symm.trans d2
          rw [c2, d4] at h2
          cases h2
          unfold ck_k4 at c4
          split at c4
          · next k2 hk2 =>
            simp only [Bool.and_eq_true, beq_iff_eq] at c4
            obtain ⟨vs2, y2, g1, g2, g3⟩ := ck_f0_ok hm hk2 hp
            cases h1.symm.trans g1
            cases d3.symm.trans g2
            obtain ⟨z, f1, f2⟩ := ck_D_i (g3 []) c4.1
            have f1 : kk = z := by injection f1
            subst f1
            have := ck_le_ok (hn []) c4.2
            rw [ck_sub_ev, ck_ev_c] at this
            have h4 := h3
            rw [c2, ck_fs75] at hs1
            cases hs1
            obtain ⟨z2, q1, q2, q3⟩ := h4
            have q1 : ss = z2 := by injection q1
            subst q1
            exact ⟨ss, rfl, q2, show ss.toInt ≤ 599 by omega⟩
          · cases c4
        · exact h3
      obtain ⟨ρ2, J2⟩ := ck_J.push (B := B) (new := [(0, v.2.1, xa, xb.toNat, ck_c 0, pp.2)]) t hr hm Y (by
        intro ρ2 hy q hq σ
        rw [List.mem_singleton.mp hq]
        exact ⟨p, vs, y, by rw [List.append_assoc]; exact hp _, h1, h2, hy σ⟩)
      exact ⟨ρ2, y :: cr, step h1 h2, J2⟩
end CKX
