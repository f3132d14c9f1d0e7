/-! THE CHECKER IS SOUND: what stays known, what is left alone -/
theorem ck_D_ext {E : cz_E} {Γ Γ' : ck_G} {ρ : List Int} {v : ck_V} {x : Value} (h : ck_Ds E Γ ρ v x) (hx : ck_ext Γ Γ') : ck_Ds E Γ' ρ v x := fun σ => (h σ).mono hx
/-! links: what is read of objects -/
theorem ck_fd_some {h : cz_H} {p ci k : Nat} {v : Value} (e : ck_fd h p ci k = some v) : ∃ vs : List Value, h[p]? = some (.inr (ci, vs)) ∧ vs[k]? = some v := by
  unfold ck_fd at e
  split at e
  · next o ho =>
    split at e
    · next ec => exact ⟨o.2, by rw [ho, ← ec], e⟩
    · cases e
  · cases e
theorem ck_fd_of {h : cz_H} {p ci k : Nat} {vs : List Value} {v : Value} (hp : h[p]? = some (.inr (ci, vs))) (hv : vs[k]? = some v) : ck_fd h p ci k = some v := by
  unfold ck_fd
  rw [hp]
  show (if ci = ci then vs[k]? else none) = some v
  rw [if_pos rfl]
  exact hv
theorem ck_r18_pf {f : Nat} (hf : f ∈ ck_pfs) (h0 : f ≠ 0) : ck_r18 10 f = true := by
  unfold ck_r18
  rw [Bool.or_eq_true]
  left
  rw [Bool.and_eq_true]
  refine ⟨rfl, List.any_eq_true.mpr ⟨f, hf, ?_⟩⟩
  rw [Bool.and_eq_true, Bool.not_eq_true', beq_eq_false_iff_ne, beq_iff_eq]
  exact ⟨h0, rfl⟩
theorem ck_r18_lk {L : Nat × Nat × Nat × Nat} (hL : L ∈ ck_lks) : ck_r18 L.2.1 L.2.2.1 = true := by
  unfold ck_r18
  rw [Bool.or_eq_true]
  right
  refine List.any_eq_true.mpr ⟨L, hL, ?_⟩
  rw [Bool.and_eq_true, beq_iff_eq, beq_iff_eq]
  exact ⟨rfl, rfl⟩
theorem ck_po_to {E : cz_E} {h h' : cz_H} {t f o : Nat} (e : ck_po E h t f = some o) (hv : ∀ v, f ≠ 0 → ck_fd h t 10 f = some v → ck_fd h' t 10 f = some v) : ck_po E h' t f = some o := by
  unfold ck_po at e ⊢
  split at e
  · next h0 =>
    rw [if_pos h0]
    exact e
  · next h0 =>
    rw [if_neg h0]
    cases hq : ck_fd h t 10 f with
    | none =>
      rw [hq] at e
      cases e
    | some v =>
      rw [hq] at e
      rw [hv v h0 hq]
      exact e
theorem ck_X18_same {E : cz_E} {h h' : cz_H} {t md : Nat} {bd : Option Int} {exc : Int} {g : Nat → Option Nat} {f2 : Nat → Int32} {T : Nat → Nat} {I : Nat → Nat → Nat} (X : ck_X18 E h t bd md exc g f2 T I) (hl : h.length ≤ h'.length) (hf : ∀ (p ci k : Nat) (v : Value), ck_r18 ci k = true → ck_fd h p ci k = some v → ck_fd h' p ci k = some v) : ck_X18 E h' t bd md exc g f2 T I := by
  obtain ⟨x1, x2, x3⟩ := X
  refine ⟨fun b hb => Int.le_trans (x1 b hb) (Int.ofNat_le.mpr hl), fun f hf0 => ?_, fun i hi a ha => ?_⟩
  · obtain ⟨a1, a2, a3⟩ := x2 f hf0
    exact ⟨ck_po_to a1 fun v h0 => hf _ _ _ v (ck_r18_pf hf0 h0), Nat.lt_of_lt_of_le a2 hl, a3⟩
  · obtain ⟨b0, b1, b2⟩ := x3 i hi a ha
    refine ⟨b0, fun f hf0 => ?_, fun hm L hL => ?_⟩
    · obtain ⟨c1, c2, c3⟩ := b1 f hf0
      exact ⟨ck_po_to c1 fun v h0 => hf _ _ _ v (ck_r18_pf hf0 h0), Nat.lt_of_lt_of_le c2 hl, c3⟩
    · exact hf _ _ _ _ (ck_r18_lk hL) (b2 hm L hL)
theorem ck_M18_to {E : cz_E} {Γ Γ' : ck_G} {h h' : cz_H} {ρ : List Int} {q : ck_Q} (t : q.1 = 18) (M : ck_M E Γ h ρ q) (hx : ck_ext Γ Γ') (hl : h.length ≤ h'.length) (hs : ∀ (p m : Nat) (x : Nat × vp_A), (Γ[p]? = some (71, m) ∨ Γ[p]? = some (78, m)) → h[p]? = some (.inl x) → h'[p]? = some (.inl x)) (hf : ∀ (p ci k : Nat) (v : Value), ck_r18 ci k = true → ck_fd h p ci k = some v → ck_fd h' p ci k = some v) : ck_M E Γ' h' ρ q := by
  unfold ck_M at M ⊢
  rw [t] at M ⊢
  obtain ⟨p, m, tc, n, g, p2, m2, tc2, n2, f2, t, T, I, e1, e2, e3, e4, e5, e6, e7, e8⟩ := M
  obtain ⟨m', g1, -⟩ := hx _ _ _ e2
  obtain ⟨m2', g2, -⟩ := hx _ _ _ e5
  exact ⟨p, m', tc, n, g, p2, m2', tc2, n2, f2, t, T, I, e1, g1, hs p m _ (Or.inl e2) e3, e4, g2, hs p2 m2 _ (Or.inr e5) e6, e7, ck_X18_same e8 hl hf⟩
theorem ck_fd_arr {h : cz_H} {p : Nat} {x : Nat × vp_A} {c' : cz_C} (hp : h[p]? = some (.inl x)) {p' ci k : Nat} {v : Value} (e : ck_fd h p' ci k = some v) : ck_fd (h.set p c') p' ci k = some v := by
  obtain ⟨vs, e1, e2⟩ := ck_fd_some e
  refine ck_fd_of (vs := vs) ?_ e2
  rw [List.getElem?_set, if_neg]
  · exact e1
  · intro z
    subst z
    cases hp.symm.trans e1
theorem ck_fd_app {h : cz_H} {c : cz_C} {p ci k : Nat} {v : Value} (e : ck_fd h p ci k = some v) : ck_fd (h ++ [c]) p ci k = some v := by
  obtain ⟨vs, e1, e2⟩ := ck_fd_some e
  refine ck_fd_of (vs := vs) ?_ e2
  rw [List.getElem?_append_left (List.getElem?_eq_some_iff.mp e1).1]
  exact e1
/-- the cell at its place is as it was -/
theorem ck_M_same {E : cz_E} {Γ Γ' : ck_G} {h h' : cz_H} {ρ : List Int} {q : ck_Q} (M : ck_M E Γ h ρ q) (hx : ck_ext Γ Γ') (t : ¬ (q.1 = 14 ∨ q.1 = 15 ∨ q.1 = 16 ∨ q.1 = 17)) (h18 : q.1 ≠ 18) (hs : ∀ (p : Nat) (c : cz_C), (p : Int) = ρ.getD q.2.1 0 → h[p]? = some c → h'[p]? = some c) : ck_M E Γ' h' ρ q := by
  unfold ck_M at M ⊢
  split at M
  · obtain ⟨p, vs, x, e1, e2, e3, e4⟩ := M
    exact ⟨p, vs, x, e1, hs p _ e1 e2, e3, e4.mono hx⟩
  · obtain ⟨p, m, tc, n, y, i, e1, e2, e3, e4, e5, e6⟩ := M
    obtain ⟨m', g1, -⟩ := hx _ _ _ e2
    exact ⟨p, m', tc, n, y, i, e1, g1, hs p _ e1 e3, e4, e5, e6.mono hx⟩
  · obtain ⟨i, e1, e2, e3⟩ := M
    exact ⟨i, e1, e2, e3.mono hx⟩
  · obtain ⟨p, m, tc, n, y, e1, e2, e3, e4⟩ := M
    obtain ⟨m', g1, -⟩ := hx _ _ _ e2
    exact ⟨p, m', tc, n, y, e1, g1, hs p _ e1 e3, e4⟩
  · obtain ⟨p, m, tc, n, f, e1, e2, e3, e4⟩ := M
    obtain ⟨m', g1, -⟩ := hx _ _ _ e2
    exact ⟨p, m', tc, n, f, e1, g1, hs p _ e1 e3, e4⟩
  · obtain ⟨p, vs, k, s, e1, e2, e3⟩ := M
    exact ⟨p, vs, k, s, e1, hs p _ e1 e2, e3⟩
  · exact M
  · exact M
  · obtain ⟨p, m, e1, e2, e3⟩ := M
    obtain ⟨m', g1, g2⟩ := hx _ _ _ e2
    exact ⟨p, m', e1, g1, fun j hj => g2 j (e3 j hj)⟩
  · next t14 => exact absurd (Or.inl t14) t
  · next t15 => exact absurd (Or.inr (Or.inl t15)) t
  · next t16 => exact absurd (Or.inr (Or.inr (Or.inl t16))) t
  · next t17 => exact absurd (Or.inr (Or.inr (Or.inr t17))) t
  · next t18 => exact absurd t18 h18
  · exact M.elim
theorem ck_M_two {E : cz_E} {Γ Γ' : ck_G} {h h' : cz_H} {ρ : List Int} {q : ck_Q} (t : q.1 = 14 ∨ q.1 = 15 ∨ q.1 = 16 ∨ q.1 = 17) (M : ck_M E Γ h ρ q) (hx : ck_ext Γ Γ') (hs : ∀ (p m : Nat) (x : Nat × vp_A), (Γ[p]? = some (q.2.2.1, m) ∨ Γ[p]? = some (q.2.2.2.1, m)) → h[p]? = some (.inl x) → h'[p]? = some (.inl x)) : ck_M E Γ' h' ρ q := by
  unfold ck_M at M ⊢
  rcases t with t | t | t | t
  · rw [t] at M ⊢
    obtain ⟨p, m, tc, n, f, p2, m2, tc2, f2, e1, e2, e3, e4, e5, e6, e7⟩ := M
    obtain ⟨m', g1, -⟩ := hx _ _ _ e2
    obtain ⟨m2', g2, -⟩ := hx _ _ _ e5
    exact ⟨p, m', tc, n, f, p2, m2', tc2, f2, e1, g1, hs p m _ (Or.inl e2) e3, e4, g2, hs p2 m2 _ (Or.inr e5) e6, e7⟩
  · rw [t] at M ⊢
    obtain ⟨p, m, tc, n, f, p2, m2, tc2, f2, e1, e2, e3, e4, e5, e6, e7⟩ := M
    obtain ⟨m', g1, -⟩ := hx _ _ _ e2
    obtain ⟨m2', g2, -⟩ := hx _ _ _ e5
    exact ⟨p, m', tc, n, f, p2, m2', tc2, f2, e1, g1, hs p m _ (Or.inl e2) e3, e4, g2, hs p2 m2 _ (Or.inr e5) e6, e7⟩
  · rw [t] at M ⊢
    obtain ⟨p, m, tc, n, f, p2, m2, tc2, f2, e1, e2, e3, e4, e5, e6, e7⟩ := M
    obtain ⟨m', g1, -⟩ := hx _ _ _ e2
    obtain ⟨m2', g2, -⟩ := hx _ _ _ e5
    exact ⟨p, m', tc, n, f, p2, m2', tc2, f2, e1, g1, hs p m _ (Or.inl e2) e3, e4, g2, hs p2 m2 _ (Or.inr e5) e6, e7⟩
  · rw [t] at M ⊢
    obtain ⟨p, m, tc, n, f, p2, m2, tc2, f2, e1, e2, e3, e4, e5, e6, e7⟩ := M
    obtain ⟨m', g1, -⟩ := hx _ _ _ e2
    obtain ⟨m2', g2, -⟩ := hx _ _ _ e5
    exact ⟨p, m', tc, n, f, p2, m2', tc2, f2, e1, g1, hs p m _ (Or.inl e2) e3, e4, g2, hs p2 m2 _ (Or.inr e5) e6, e7⟩
theorem ck_set_ne {h : cz_H} {p p' : Nat} {c c' : cz_C} (hp : p ≠ p') (e : h[p']? = some c) : (h.set p c')[p']? = some c := by
  rw [List.getElem?_set, if_neg hp]
  exact e
theorem ck_set_eq {h : cz_H} {p : Nat} {c c' : cz_C} (e : h[p]? = some c) : (h.set p c')[p]? = some c' := by
  rw [List.getElem?_set, if_pos rfl, if_pos (List.getElem?_eq_some_iff.mp e).1]
/-- a field's write -/
theorem ck_kf_ok {E : cz_E} {Γ Γ' : ck_G} {h : cz_H} {ρ : List Int} {q : ck_Q} {p ci k : Nat} {vs : List Value} {v : Value} {n : ck_N} {es : List ck_Q} {o : Nat} (M : ck_M E Γ h ρ q) (hn : ck_nok n ρ) (ho : (p : Int) = ρ.getD o 0) (hsep : ck_sep n es ci k q.2.1 o = true → (p : Int) ≠ ρ.getD q.2.1 0) (hx : ck_ext Γ Γ') (hp : h[p]? = some (.inr (ci, vs))) (hk : ck_kf n es ci k o q = true) : ck_M E Γ' (h.set p (.inr (ci, vs.set k v))) ρ q := by
  have h18 : q.1 ≠ 18 := fun z => by
    unfold ck_kf at hk
    rw [z] at hk
    have hk : false = true := hk
    cases hk
  by_cases hq : q.1 = 14 ∨ q.1 = 15 ∨ q.1 = 16 ∨ q.1 = 17
  · refine ck_M_two hq M hx fun p0 m0 x _ e2 => ck_set_ne (fun z => ?_) e2
    subst z
    cases hp.symm.trans e2
  by_cases hpp : (p : Int) = ρ.getD q.2.1 0
  · obtain ⟨t, r, K, w, a, u⟩ := q
    unfold ck_M at M ⊢
    unfold ck_kf at hk
    simp only at M hk hpp ⊢
    split at M
    · obtain ⟨p0, vs0, x, e1, e2, e3, e4⟩ := M
      have : p0 = p := by omega
      subst this
      cases hp.symm.trans e2
      refine ⟨p0, _, x, e1, ck_set_eq hp, ?_, e4.mono hx⟩
      rw [List.getElem?_set, if_neg]
      · exact e3
      · intro z
        subst z
        simp only [BEq.rfl, Bool.and_self, Bool.not_true, Bool.false_or] at hk
        rcases Bool.or_eq_true_iff.mp hk with hk | hk
        · unfold ck_apt at hk
          rcases Bool.or_eq_true_iff.mp hk with hk | hk
          · have := ck_le_ok hn hk
            rw [ck_add_ev, ck_sub_ev, ck_ev_c, ck_ev_v, ck_ev_v] at this
            omega
          · have := ck_le_ok hn hk
            rw [ck_add_ev, ck_sub_ev, ck_ev_c, ck_ev_v, ck_ev_v] at this
            omega
        · exact hsep hk hpp
    · obtain ⟨p0, m, tc, nn, y, i, e1, e2, e3, -⟩ := M
      have : p0 = p := by omega
      subst this
      cases hp.symm.trans e3
    · obtain ⟨i, e1, e2, e3⟩ := M
      exact ⟨i, e1, e2, e3.mono hx⟩
    · obtain ⟨p0, m, tc, nn, y, e1, e2, e3, -⟩ := M
      have : p0 = p := by omega
      subst this
      cases hp.symm.trans e3
    · obtain ⟨p0, m, tc, nn, y, e1, e2, e3, -⟩ := M
      have : p0 = p := by omega
      subst this
      cases hp.symm.trans e3
    · obtain ⟨p0, vs0, k0, s0, e1, e2, e3, e4, e5⟩ := M
      have : p0 = p := by omega
      subst this
      cases hp.symm.trans e2
      have h5 : ¬ k = 5 := by
        intro z
        subst z
        simp at hk
      have h6 : ¬ k = 6 := by
        intro z
        subst z
        simp at hk
      refine ⟨p0, _, k0, s0, e1, ck_set_eq hp, ?_, ?_, e5⟩
      · rw [List.getElem?_set, if_neg h6]
        exact e3
      · rw [List.getElem?_set, if_neg h5]
        exact e4
    · exact M
    · exact M
    · obtain ⟨p0, m, e1, e2, e3⟩ := M
      obtain ⟨m', g1, g2⟩ := hx _ _ _ e2
      exact ⟨p0, m', e1, g1, fun j hj => g2 j (e3 j hj)⟩
    · exact absurd (Or.inl rfl) hq
    · exact absurd (Or.inr (Or.inl rfl)) hq
    · exact absurd (Or.inr (Or.inr (Or.inl rfl))) hq
    · exact absurd (Or.inr (Or.inr (Or.inr rfl))) hq
    · exact absurd rfl h18
    · exact M.elim
  · refine ck_M_same M hx hq h18 fun p0 c e1 e2 => ?_
    exact ck_set_ne (by omega) e2
/-- an element's write -/
theorem ck_ka_ok {E : cz_E} {Γ : ck_G} {h : cz_H} {ρ : List Int} {n : ck_N} {q : ck_Q} {p m K r tc len i : Nat} {ix : ck_A} {y y' : (Nat → Int32) ⊕ (Nat → Int64) ⊕ (Nat → UInt32) ⊕ (Nat → UInt64) ⊕ (Nat → Option Nat)} (M : ck_M E Γ h ρ q) (hn : ck_nok n ρ) (hg : Γ[p]? = some (K, m)) (hp : h[p]? = some (.inl (tc, len, y))) (hi : (i : Int) = ck_ev ρ ix) (ho : ∀ j, j ≠ i → ck_el y' j = ck_el y j) (hf : ∀ f, y = .inl f → ∃ f', y' = .inl f' ∧ ∀ j, j ≠ i → f' j = f j) (hk : ck_ka n K r ix q = true) (hr : (p : Int) = ρ.getD r 0) : ck_M E Γ (h.set p (.inl (tc, len, y'))) ρ q := by
  have h18 : q.1 ≠ 18 := fun z => by
    unfold ck_ka at hk
    rw [z] at hk
    have hk : false = true := hk
    cases hk
  by_cases hq : q.1 = 14 ∨ q.1 = 15 ∨ q.1 = 16 ∨ q.1 = 17
  · have hk2 : (!(q.2.2.1 == K) && !(q.2.2.2.1 == K)) = true := by
      unfold ck_ka at hk
      rcases hq with t | t | t | t <;> (rw [t] at hk; exact hk)
    simp only [Bool.and_eq_true, Bool.not_eq_true', beq_eq_false_iff_ne] at hk2
    refine ck_M_two hq M ck_ext.rf fun p0 m0 x e1 e2 => ck_set_ne (fun z => ?_) e2
    subst z
    rcases e1 with e1 | e1
    · have := Option.some.inj (hg.symm.trans e1)
      exact hk2.1 (congrArg Prod.fst this).symm
    · have := Option.some.inj (hg.symm.trans e1)
      exact hk2.2 (congrArg Prod.fst this).symm
  by_cases hpp : (p : Int) = ρ.getD q.2.1 0
  · obtain ⟨t, r0, K0, w, a, u⟩ := q
    unfold ck_M at M ⊢
    unfold ck_ka at hk
    simp only at M hk hpp ⊢
    split at M
    · obtain ⟨p0, vs0, x, e1, e2, -⟩ := M
      have : p0 = p := by omega
      subst this
      cases hp.symm.trans e2
    · obtain ⟨p0, m0, tc0, n0, y0, i0, e1, e2, e3, e4, e5, e6⟩ := M
      have : p0 = p := by omega
      subst this
      cases hg.symm.trans e2
      cases hp.symm.trans e3
      simp only [BEq.rfl, Bool.not_true, Bool.false_or, Bool.and_eq_true] at hk
      have hne : i0 ≠ i := by
        intro z
        subst z
        unfold ck_apt at hk
        rcases Bool.or_eq_true_iff.mp hk.2 with z | z
        · have := ck_le_ok hn z
          rw [ck_add_ev, ck_sub_ev, ck_ev_c] at this
          omega
        · have := ck_le_ok hn z
          rw [ck_add_ev, ck_sub_ev, ck_ev_c] at this
          omega
      exact ⟨p0, m, tc, len, y', i0, e1, hg, ck_set_eq hp, e4, e5, by rw [ho i0 hne]; exact e6⟩
    · exact M
    · obtain ⟨p0, m0, tc0, n0, y0, e1, e2, e3, -⟩ := M
      have : p0 = p := by omega
      subst this
      cases hg.symm.trans e2
      simp at hk
    · obtain ⟨p0, m0, tc0, n0, f, e1, e2, e3, e4⟩ := M
      have : p0 = p := by omega
      subst this
      cases hg.symm.trans e2
      cases hp.symm.trans e3
      obtain ⟨f', e5, e6⟩ := hf f rfl
      subst e5
      refine ⟨p0, m, tc, len, f', e1, hg, ck_set_eq hp, fun l hl hl2 => ?_⟩
      simp only [BEq.rfl, Bool.not_true, Bool.false_or] at hk
      have hne : 4 + 16 * l ≠ i ∧ 5 + 16 * l ≠ i := by
        rcases Bool.or_eq_true_iff.mp hk with z | z
        · have := ck_le_ok hn z
          rw [ck_sub_ev, ck_add_ev, ck_mul_ev, ck_ev_c] at this
          omega
        · have := ck_btw_ok hn z
          have e7 : ck_ev ρ (ix.1.filter (fun q => !(q.2 % 16 == 0)), (ix.2 - 4) % 16) % 16 = (ck_ev ρ ix - 4) % 16 := by
            unfold ck_ev
            simp only
            have e8 : ∀ t : List (Nat × Int), (ck_tv ρ (t.filter (fun q => !(q.2 % 16 == 0)))) % 16 = ck_tv ρ t % 16 := by
              intro t
              induction t with
              | nil => rfl
              | cons q l ih =>
                by_cases hq : q.2 % 16 = 0
                · rw [List.filter_cons_of_neg (by simp [hq]), ih]
                  unfold ck_tv
                  obtain ⟨z, hz⟩ : ∃ z, q.2 = 16 * z := ⟨q.2 / 16, by omega⟩
                  rw [hz, Int.mul_assoc]
                  conv => rhs; unfold ck_tv
                  omega
                · rw [List.filter_cons_of_pos (by simp [hq])]
                  unfold ck_tv
                  omega
            have := e8 ix.1
            omega
          omega
      rw [e6 _ hne.1, e6 _ hne.2]
      exact e4 l hl hl2
    · obtain ⟨p0, vs0, k0, s0, e1, e2, -⟩ := M
      have : p0 = p := by omega
      subst this
      cases hp.symm.trans e2
    · exact M
    · exact M
    · exact M
    · exact absurd (Or.inl rfl) hq
    · exact absurd (Or.inr (Or.inl rfl)) hq
    · exact absurd (Or.inr (Or.inr (Or.inl rfl))) hq
    · exact absurd (Or.inr (Or.inr (Or.inr rfl))) hq
    · exact absurd rfl h18
    · exact M.elim
  · refine ck_M_same M ck_ext.rf hq h18 fun p0 c e1 e2 => ?_
    exact ck_set_ne (by omega) e2
/-- a row's write -/
theorem ck_kc_ok {E : cz_E} {Γ : ck_G} {h : cz_H} {ρ : List Int} {q : ck_Q} {p m K tc len : Nat} {c' : cz_C} {y : (Nat → Int32) ⊕ (Nat → Int64) ⊕ (Nat → UInt32) ⊕ (Nat → UInt64) ⊕ (Nat → Option Nat)} (M : ck_M E Γ h ρ q) (hg : Γ[p]? = some (K, m)) (hp : h[p]? = some (.inl (tc, len, y))) (hk : ck_kc K q = true) : ck_M E Γ (h.set p c') ρ q := by
  by_cases h18 : q.1 = 18
  · have hk2 : (!(K == 71) && !(K == 78)) = true := by
      unfold ck_kc at hk
      rw [h18] at hk
      exact hk
    simp only [Bool.and_eq_true, Bool.not_eq_true', beq_eq_false_iff_ne] at hk2
    refine ck_M18_to h18 M ck_ext.rf (by rw [List.length_set]; exact Nat.le_refl _) (fun p0 m0 x e1 e2 => ck_set_ne (fun z => ?_) e2) (fun p0 ci0 k0 v0 _ e => ck_fd_arr hp e)
    subst z
    rcases e1 with e1 | e1
    · have := Option.some.inj (hg.symm.trans e1)
      exact hk2.1 (congrArg Prod.fst this)
    · have := Option.some.inj (hg.symm.trans e1)
      exact hk2.2 (congrArg Prod.fst this)
  by_cases hq : q.1 = 14 ∨ q.1 = 15 ∨ q.1 = 16 ∨ q.1 = 17
  · have hk2 : (!(q.2.2.1 == K) && !(q.2.2.2.1 == K)) = true := by
      unfold ck_kc at hk
      rcases hq with t | t | t | t <;> (rw [t] at hk; exact hk)
    simp only [Bool.and_eq_true, Bool.not_eq_true', beq_eq_false_iff_ne] at hk2
    refine ck_M_two hq M ck_ext.rf fun p0 m0 x e1 e2 => ck_set_ne (fun z => ?_) e2
    subst z
    rcases e1 with e1 | e1
    · have := Option.some.inj (hg.symm.trans e1)
      exact hk2.1 (congrArg Prod.fst this).symm
    · have := Option.some.inj (hg.symm.trans e1)
      exact hk2.2 (congrArg Prod.fst this).symm
  by_cases hpp : (p : Int) = ρ.getD q.2.1 0
  · obtain ⟨t, r0, K0, w, a, u⟩ := q
    unfold ck_M at M ⊢
    unfold ck_kc at hk
    simp only at M hk hpp ⊢
    split at M
    · obtain ⟨p0, vs0, x, e1, e2, -⟩ := M
      have : p0 = p := by omega
      subst this
      cases hp.symm.trans e2
    · obtain ⟨p0, m0, tc0, n0, y0, i0, e1, e2, -⟩ := M
      have : p0 = p := by omega
      subst this
      cases hg.symm.trans e2
      simp at hk
    · exact M
    · obtain ⟨p0, m0, tc0, n0, y0, e1, e2, -⟩ := M
      have : p0 = p := by omega
      subst this
      cases hg.symm.trans e2
      simp at hk
    · obtain ⟨p0, m0, tc0, n0, y0, e1, e2, -⟩ := M
      have : p0 = p := by omega
      subst this
      cases hg.symm.trans e2
      simp at hk
    · obtain ⟨p0, vs0, k0, s0, e1, e2, -⟩ := M
      have : p0 = p := by omega
      subst this
      cases hp.symm.trans e2
    · exact M
    · exact M
    · exact M
    · exact absurd (Or.inl rfl) hq
    · exact absurd (Or.inr (Or.inl rfl)) hq
    · exact absurd (Or.inr (Or.inr (Or.inl rfl))) hq
    · exact absurd (Or.inr (Or.inr (Or.inr rfl))) hq
    · exact absurd rfl h18
    · exact M.elim
  · refine ck_M_same M ck_ext.rf hq h18 fun p0 c e1 e2 => ?_
    exact ck_set_ne (by omega) e2
/-- a cell more -/
theorem ck_push_ok {E : cz_E} {Γ : ck_G} {h : cz_H} {ρ : List Int} {q : ck_Q} {km : Nat × Nat} {c : cz_C} (M : ck_M E Γ h ρ q) (hx : ck_ext Γ (Γ ++ [km])) : ck_M E (Γ ++ [km]) (h ++ [c]) ρ q := by
  by_cases h18 : q.1 = 18
  · exact ck_M18_to h18 M hx (by rw [List.length_append]; exact Nat.le_add_right _ _) (fun p _ x _ e2 => by rw [List.getElem?_append_left (List.getElem?_eq_some_iff.mp e2).1]; exact e2) (fun p0 ci0 k0 v0 _ e => ck_fd_app e)
  by_cases hq : q.1 = 14 ∨ q.1 = 15 ∨ q.1 = 16 ∨ q.1 = 17
  · exact ck_M_two hq M hx fun p _ x _ e2 => by rw [List.getElem?_append_left (List.getElem?_eq_some_iff.mp e2).1]; exact e2
  · exact ck_M_same M hx hq h18 fun p _ _ e2 => by rw [List.getElem?_append_left (List.getElem?_eq_some_iff.mp e2).1]; exact e2
/-! what is left alone -/
def ck_Fr (W : List (Nat × Nat)) (Γ : ck_G) (h h' : cz_H) : Prop := ∀ (p k m : Nat), Γ[p]? = some (k, m) →
  (∀ x, h[p]? = some (.inl x) → ck_wfr W k = true → h'[p]? = some (.inl x)) ∧
  (∀ ci vs, h[p]? = some (.inr (ci, vs)) → ∃ vs', h'[p]? = some (.inr (ci, vs')) ∧ ∀ j : Nat, ck_win W k j = false → vs'[j]? = vs[j]?) ∧
  (k = 77 → ∀ (tc n : Nat) (y : ((Nat → Int32) ⊕ (Nat → Int64) ⊕ (Nat → UInt32) ⊕ (Nat → UInt64) ⊕ (Nat → Option Nat))), h[p]? = some (.inl (tc, n, y)) → ∃ y', h'[p]? = some (.inl (tc, n, y')) ∧ ∀ i : Nat, ck_win W 77 (ck_reg i) = false → ck_el y' i = ck_el y i)
theorem ck_Fr.rf {W : List (Nat × Nat)} {Γ : ck_G} {h : cz_H} : ck_Fr W Γ h h := fun _ _ _ _ => ⟨fun _ e _ => e, fun _ vs e => ⟨vs, e, fun _ _ => rfl⟩, fun _ _ _ y e => ⟨y, e, fun _ _ => rfl⟩⟩
theorem ck_Fr.trans {W : List (Nat × Nat)} {Γ Γ1 : ck_G} {h h1 h2 : cz_H} (a : ck_Fr W Γ h h1) (hx : ck_ext Γ Γ1) (b : ck_Fr W Γ1 h1 h2) : ck_Fr W Γ h h2 := by
  intro p k m hg
  obtain ⟨m1, hg1, -⟩ := hx _ _ _ hg
  obtain ⟨a1, a2, a3⟩ := a p k m hg
  obtain ⟨b1, b2, b3⟩ := b p k m1 hg1
  refine ⟨fun x e w => b1 x (a1 x e w) w, fun ci vs e => ?_, fun hk tc n y e => ?_⟩
  · obtain ⟨vs1, e1, f1⟩ := a2 ci vs e
    obtain ⟨vs2, e2, f2⟩ := b2 ci vs1 e1
    exact ⟨vs2, e2, fun j w => (f2 j w).trans (f1 j w)⟩
  · obtain ⟨y1, e1, f1⟩ := a3 hk tc n y e
    obtain ⟨y2, e2, f2⟩ := b3 hk tc n y1 e1
    exact ⟨y2, e2, fun i w => (f2 i w).trans (f1 i w)⟩
theorem ck_win_mem : ∀ {W : List (Nat × Nat)} {a b : Nat}, ck_win W a b = true ↔ (a, b) ∈ W
  | [], a, b => by simp [ck_win]
  | q :: l, a, b => by
    unfold ck_win
    rw [Bool.or_eq_true, Bool.and_eq_true, beq_iff_eq, beq_iff_eq, ck_win_mem (W := l), List.mem_cons]
    constructor
    · rintro (⟨h1, h2⟩ | h)
      · exact Or.inl (Prod.ext h1.symm h2.symm)
      · exact Or.inr h
    · rintro (h | h)
      · exact Or.inl ⟨by rw [← h], by rw [← h]⟩
      · exact Or.inr h
theorem ck_sbw_ok {W W2 : List (Nat × Nat)} (h : ck_sbw W W2 = true) {a b : Nat} (e : ck_win W a b = false) : ck_win W2 a b = false := by
  cases e2 : ck_win W2 a b with
  | false => rfl
  | true =>
    have := List.all_eq_true.mp h _ (ck_win_mem.mp e2)
    simp only at this
    rw [this] at e
    cases e
theorem ck_ext_len {E : cz_E} {B B' : Int} {Γ Γ' : ck_G} {h h' : cz_H} (t : ck_HT E B Γ h) (t' : ck_HT E B' Γ' h') (hx : ck_ext Γ Γ') : h.length ≤ h'.length := by
  rw [← t.1, ← t'.1]
  by_cases h0 : Γ.length = 0
  · omega
  · have hl : Γ.length - 1 < Γ.length := by omega
    obtain ⟨m', e, -⟩ := hx _ _ _ (List.getElem?_eq_getElem hl)
    have := (List.getElem?_eq_some_iff.mp e).1
    omega
theorem ck_wfr_sb {W W2 : List (Nat × Nat)} (h : ck_sbw W W2 = true) {K : Nat} (e : ck_wfr W K = true) : ck_wfr W2 K = true := by
  unfold ck_wfr at e ⊢
  split at e
  · next hK =>
    rw [if_pos hK]
    refine List.all_eq_true.mpr fun q hq => ?_
    have hw := List.all_eq_true.mp h q hq
    exact List.all_eq_true.mp e _ (ck_win_mem.mp hw)
  · next hK =>
    rw [if_neg hK]
    rw [Bool.not_eq_true'] at e ⊢
    exact ck_sbw_ok h e
/-- some region may be written -/
theorem ck_wfr_no {W : List (Nat × Nat)} {K r : Nat} (h77 : K = 77 → ck_win W 77 r = true) (h0 : K ≠ 77 → ck_win W K 0 = true) : ck_wfr W K = false := by
  unfold ck_wfr
  split
  · next hK =>
    cases e : W.all (fun q => !(q.1 == 77)) with
    | false => rfl
    | true =>
      have := List.all_eq_true.mp e _ (ck_win_mem.mp (h77 hK))
      cases this
  · next hK =>
    rw [h0 hK]
    rfl
theorem ck_wst_ok {W : List (Nat × Nat)} {n : ck_N} {K i : Nat} {ix : ck_A} {ρ : List Int} (hn : ck_nok n ρ) (hi : (i : Int) = ck_ev ρ ix) (hb : ck_ev ρ ix ≤ 2147483647) (e : ck_wst W n K ix = true) : (K = 77 → ck_win W 77 (ck_reg i) = true) ∧ (K ≠ 77 → ck_win W K 0 = true) := by
  unfold ck_wst at e
  split at e
  · next hK =>
    refine ⟨fun _ => ?_, fun z => absurd hK z⟩
    try dsimp only at e
    obtain ⟨e1, e2⟩ := Bool.and_eq_true_iff.mp e
    have b1 := ck_hi_ok hn (a := ix) hb
    have b2 := ck_lw_ok hn (a := ix) (by omega)
    unfold ck_reg
    split
    · next h20 =>
      have := List.all_eq_true.mp e1 i (List.mem_range.mpr h20)
      rcases Bool.or_eq_true_iff.mp this with q | q
      · have q := of_decide_eq_true q
        omega
      · rcases Bool.or_eq_true_iff.mp q with q | q
        · have q := of_decide_eq_true q
          omega
        · exact q
    · next h20 =>
      rcases Bool.or_eq_true_iff.mp e2 with q | q
      · have q := of_decide_eq_true q
        omega
      · exact q
  · next hK => exact ⟨fun z => absurd z hK, fun _ => e⟩
theorem ck_wall_ok {W : List (Nat × Nat)} (e : ck_wall W = true) (i : Nat) : ck_win W 77 (ck_reg i) = true := by
  have h : ck_reg i < 21 := by
    unfold ck_reg
    split <;> omega
  exact List.all_eq_true.mp e _ (List.mem_range.mpr h)
theorem ck_Fr.mono {W W2 : List (Nat × Nat)} {Γ : ck_G} {h h' : cz_H} (a : ck_Fr W2 Γ h h') (hs : ck_sbw W W2 = true) : ck_Fr W Γ h h' := fun p k m hg => ⟨fun x e w => (a p k m hg).1 x e (ck_wfr_sb hs w), (fun ci vs e => by
  obtain ⟨vs', e1, f1⟩ := (a p k m hg).2.1 ci vs e
  exact ⟨vs', e1, fun j w => f1 j (ck_sbw_ok hs w)⟩), (fun hk tc n y e => by
  obtain ⟨y', e1, f1⟩ := (a p k m hg).2.2 hk tc n y e
  exact ⟨y', e1, fun i w => f1 i (ck_sbw_ok hs w)⟩)⟩
/-- behind a call -/
theorem ck_kw_ok {E : cz_E} {B : Int} {W : List (Nat × Nat)} {Γ Γ' : ck_G} {h h' : cz_H} {ρ : List Int} {q : ck_Q} (M : ck_M E Γ h ρ q) (t : ck_HT E B Γ h) (hx : ck_ext Γ Γ') (fr : ck_Fr W Γ h h') (hlen : h.length ≤ h'.length) (hk : ck_kw W q = true) : ck_M E Γ' h' ρ q := by
  have ob : ∀ {p ci : Nat} {vs : List Value}, h[p]? = some (.inr (ci, vs)) → ∃ m, Γ[p]? = some (ci, m) := by
    intro p ci vs hp
    have hl : p < Γ.length := by rw [t.1]; exact (List.getElem?_eq_some_iff.mp hp).1
    obtain ⟨⟨k, m⟩, hg⟩ : ∃ km, Γ[p]? = some km := ⟨_, List.getElem?_eq_getElem hl⟩
    have hc := t.2 p _ _ hg hp
    unfold ck_cell at hc
    split at hc
    · next o ho =>
      obtain ⟨vs', e, -⟩ := hc
      have e5 : o.1 = k := ck_kt_obj ho
      cases e
      exact ⟨m, by rw [hg, e5]⟩
    · obtain ⟨y, e, -⟩ := hc
      cases e
    · exact hc.elim
  obtain ⟨tg, r0, K0, w, a, u⟩ := q
  unfold ck_M at M ⊢
  unfold ck_kw at hk
  simp only at M hk ⊢
  split at M
  · obtain ⟨p, vs, x, e1, e2, e3, e4⟩ := M
    obtain ⟨m, hg⟩ := ob e2
    obtain ⟨vs', g1, g2⟩ := (fr p _ m hg).2.1 _ _ e2
    exact ⟨p, vs', x, e1, g1, by rw [g2 _ (by simpa using hk)]; exact e3, e4.mono hx⟩
  · obtain ⟨p, m, tc, n, y, i, e1, e2, e3, e4, e5, e6⟩ := M
    obtain ⟨m', g1, -⟩ := hx _ _ _ e2
    have hk1 : (if K0 = 77 ∧ a.1.isEmpty = true then !(ck_win W 77 (ck_reg a.2.toNat)) else ck_wfr W K0) = true := hk
    clear hk
    split at hk1
    · next hc =>
      obtain ⟨hK, hc⟩ := hc
      subst hK
      obtain ⟨y', f1, f2⟩ := (fr p _ m e2).2.2 rfl _ _ _ e3
      have hi : i = a.2.toNat := by
        obtain ⟨al, ac⟩ := a
        cases al with
        | nil =>
          have e4 : (i : Int) = 0 + ac := e4
          show i = ac.toNat
          omega
        | cons _ _ => cases hc
      refine ⟨p, m', tc, n, y', i, e1, g1, f1, e4, e5, ?_⟩
      rw [f2 i (by rw [hi]; simpa using hk1)]
      exact e6.mono hx
    · exact ⟨p, m', tc, n, y, i, e1, g1, (fr p _ m e2).1 _ e3 hk1, e4, e5, e6.mono hx⟩
  · obtain ⟨i, e1, e2, e3⟩ := M
    exact ⟨i, e1, e2, e3.mono hx⟩
  · obtain ⟨p, m, tc, n, y, e1, e2, e3, e4⟩ := M
    obtain ⟨m', g1, -⟩ := hx _ _ _ e2
    exact ⟨p, m', tc, n, y, e1, g1, (fr p _ m e2).1 _ e3 hk, e4⟩
  · obtain ⟨p, m, tc, n, f, e1, e2, e3, e4⟩ := M
    obtain ⟨m', g1, -⟩ := hx _ _ _ e2
    exact ⟨p, m', tc, n, f, e1, g1, (fr p _ m e2).1 _ e3 hk, e4⟩
  · obtain ⟨p, vs, k, s, e1, e2, e3, e4, e5⟩ := M
    obtain ⟨m, hg⟩ := ob e2
    obtain ⟨vs', g1, g2⟩ := (fr p _ m hg).2.1 _ _ e2
    simp only [Bool.and_eq_true, Bool.not_eq_true'] at hk
    exact ⟨p, vs', k, s, e1, g1, by rw [g2 _ hk.2]; exact e3, by rw [g2 _ hk.1]; exact e4, e5⟩
  · exact M
  · exact M
  · obtain ⟨p, m, e1, e2, e3⟩ := M
    obtain ⟨m', g1, g2⟩ := hx _ _ _ e2
    exact ⟨p, m', e1, g1, fun j hj => g2 j (e3 j hj)⟩
  · obtain ⟨p, m, tc, n, f, p2, m2, tc2, f2, e1, e2, e3, e4, e5, e6, e7⟩ := M
    obtain ⟨m', g1, -⟩ := hx _ _ _ e2
    obtain ⟨m2', g2, -⟩ := hx _ _ _ e5
    simp only [Bool.and_eq_true, Bool.not_eq_true'] at hk
    exact ⟨p, m', tc, n, f, p2, m2', tc2, f2, e1, g1, (fr p _ m e2).1 _ e3 hk.1, e4, g2, (fr p2 _ m2 e5).1 _ e6 hk.2, e7⟩
  · obtain ⟨p, m, tc, n, f, p2, m2, tc2, f2, e1, e2, e3, e4, e5, e6, e7⟩ := M
    obtain ⟨m', g1, -⟩ := hx _ _ _ e2
    obtain ⟨m2', g2, -⟩ := hx _ _ _ e5
    simp only [Bool.and_eq_true, Bool.not_eq_true'] at hk
    exact ⟨p, m', tc, n, f, p2, m2', tc2, f2, e1, g1, (fr p _ m e2).1 _ e3 hk.1, e4, g2, (fr p2 _ m2 e5).1 _ e6 hk.2, e7⟩
  · obtain ⟨p, m, tc, n, f, p2, m2, tc2, f2, e1, e2, e3, e4, e5, e6, e7⟩ := M
    obtain ⟨m', g1, -⟩ := hx _ _ _ e2
    obtain ⟨m2', g2, -⟩ := hx _ _ _ e5
    simp only [Bool.and_eq_true, Bool.not_eq_true'] at hk
    exact ⟨p, m', tc, n, f, p2, m2', tc2, f2, e1, g1, (fr p _ m e2).1 _ e3 hk.1, e4, g2, (fr p2 _ m2 e5).1 _ e6 hk.2, e7⟩
  · obtain ⟨p, m, tc, n, f, p2, m2, tc2, f2, e1, e2, e3, e4, e5, e6, e7⟩ := M
    obtain ⟨m', g1, -⟩ := hx _ _ _ e2
    obtain ⟨m2', g2, -⟩ := hx _ _ _ e5
    simp only [Bool.and_eq_true, Bool.not_eq_true'] at hk
    exact ⟨p, m', tc, n, f, p2, m2', tc2, f2, e1, g1, (fr p _ m e2).1 _ e3 hk.1, e4, g2, (fr p2 _ m2 e5).1 _ e6 hk.2, e7⟩
  · obtain ⟨p, m, tc, n, g, p2, m2, tc2, n2, f2, t0, T, I, e1, e2, e3, e4, e5, e6, e7, e8⟩ := M
    obtain ⟨m', g1, -⟩ := hx _ _ _ e2
    obtain ⟨m2', g2, -⟩ := hx _ _ _ e5
    simp only [Bool.and_eq_true] at hk
    obtain ⟨⟨⟨k1, k2⟩, k3⟩, k4⟩ := hk
    refine ⟨p, m', tc, n, g, p2, m2', tc2, n2, f2, t0, T, I, e1, g1, (fr p _ m e2).1 _ e3 k1, e4, g2, (fr p2 _ m2 e5).1 _ e6 k2, e7, ck_X18_same e8 hlen fun p0 ci0 j0 v0 hr e => ?_⟩
    obtain ⟨vs, e9, e10⟩ := ck_fd_some e
    obtain ⟨m0, hg0⟩ := ob e9
    obtain ⟨vs', f1, f3⟩ := (fr p0 _ m0 hg0).2.1 _ _ e9
    refine ck_fd_of f1 ?_
    rw [f3 j0 ?_]
    · exact e10
    · unfold ck_r18 at hr
      rcases Bool.or_eq_true_iff.mp hr with hr | hr
      · obtain ⟨r1, r2⟩ := Bool.and_eq_true_iff.mp hr
        obtain ⟨f, hf, r2⟩ := List.any_eq_true.mp r2
        obtain ⟨r2, r3⟩ := Bool.and_eq_true_iff.mp r2
        have r1 : ci0 = 10 := by simpa using r1
        have r3 : f = j0 := by simpa using r3
        subst r1
        subst r3
        have := List.all_eq_true.mp k3 f hf
        rcases Bool.or_eq_true_iff.mp this with z | z
        · rw [z] at r2
          cases r2
        · simpa using z
      · obtain ⟨L, hL, r2⟩ := List.any_eq_true.mp hr
        obtain ⟨r1, r2⟩ := Bool.and_eq_true_iff.mp r2
        have r1 : L.2.1 = ci0 := by simpa using r1
        have r2 : L.2.2.1 = j0 := by simpa using r2
        have := List.all_eq_true.mp k4 L hL
        rw [r1, r2] at this
        simpa using this
  · exact M.elim
