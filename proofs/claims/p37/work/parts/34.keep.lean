/-! THE CHECKER IS SOUND: what stays known, what is left alone -/
theorem ck_D_ext {E : cz_E} {Γ Γ' : ck_G} {ρ : List Int} {v : ck_V} {x : Value} (h : ck_Ds E Γ ρ v x) (hx : ck_ext Γ Γ') : ck_Ds E Γ' ρ v x := fun σ => (h σ).mono hx
/-- the cell at its place is as it was -/
theorem ck_M_same {E : cz_E} {Γ Γ' : ck_G} {h h' : cz_H} {ρ : List Int} {q : ck_Q} (M : ck_M E Γ h ρ q) (hx : ck_ext Γ Γ') (hs : ∀ (p : Nat) (c : cz_C), (p : Int) = ρ.getD q.2.1 0 → h[p]? = some c → h'[p]? = some c) : ck_M E Γ' h' ρ q := by
  unfold ck_M at M ⊢
  split at M
  · obtain ⟨p, vs, x, e1, e2, e3, e4⟩ := M
    exact ⟨p, vs, x, e1, hs p _ e1 e2, e3, e4.mono hx⟩
  · obtain ⟨p, m, tc, n, y, i, e1, e2, e3, e4, e5, e6⟩ := M
    obtain ⟨m', g1, -⟩ := hx _ _ _ e2
    exact ⟨p, m', tc, n, y, i, e1, g1, hs p _ e1 e3, e4, e5, e6.mono hx⟩
  · obtain ⟨i, e1, e2, e3⟩ := M
    exact ⟨i, e1, e2, e3.mono hx⟩
  · obtain ⟨p, m, tc, n, y, e1, e2, e3, e4⟩ := M
    obtain ⟨m', g1, -⟩ := hx _ _ _ e2
    exact ⟨p, m', tc, n, y, e1, g1, hs p _ e1 e3, e4⟩
  · obtain ⟨p, m, tc, n, f, e1, e2, e3, e4⟩ := M
    obtain ⟨m', g1, -⟩ := hx _ _ _ e2
    exact ⟨p, m', tc, n, f, e1, g1, hs p _ e1 e3, e4⟩
  · obtain ⟨p, vs, k, s, e1, e2, e3⟩ := M
    exact ⟨p, vs, k, s, e1, hs p _ e1 e2, e3⟩
  · exact M
  · exact M
  · obtain ⟨p, m, e1, e2, e3⟩ := M
    obtain ⟨m', g1, g2⟩ := hx _ _ _ e2
    exact ⟨p, m', e1, g1, fun j hj => g2 j (e3 j hj)⟩
  · exact M.elim
theorem ck_set_ne {h : cz_H} {p p' : Nat} {c c' : cz_C} (hp : p ≠ p') (e : h[p']? = some c) : (h.set p c')[p']? = some c := by
  rw [List.getElem?_set, if_neg hp]
  exact e
theorem ck_set_eq {h : cz_H} {p : Nat} {c c' : cz_C} (e : h[p]? = some c) : (h.set p c')[p]? = some c' := by
  rw [List.getElem?_set, if_pos rfl, if_pos (List.getElem?_eq_some_iff.mp e).1]
/-- a field's write -/
theorem ck_kf_ok {E : cz_E} {Γ Γ' : ck_G} {h : cz_H} {ρ : List Int} {q : ck_Q} {p ci k : Nat} {vs : List Value} {v : Value} (M : ck_M E Γ h ρ q) (hx : ck_ext Γ Γ') (hp : h[p]? = some (.inr (ci, vs))) (hk : ck_kf ci k q = true) : ck_M E Γ' (h.set p (.inr (ci, vs.set k v))) ρ q := by
  by_cases hpp : (p : Int) = ρ.getD q.2.1 0
  · obtain ⟨t, r, K, w, a, u⟩ := q
    unfold ck_M at M ⊢
    unfold ck_kf at hk
    simp only at M hk hpp ⊢
    split at M
    · obtain ⟨p0, vs0, x, e1, e2, e3, e4⟩ := M
      have : p0 = p := by omega
      subst this
      cases hp.symm.trans e2
      refine ⟨p0, _, x, e1, ck_set_eq hp, ?_, e4.mono hx⟩
      rw [List.getElem?_set, if_neg]
      · exact e3
      · intro z
        rw [z] at hk
        simp at hk
    · obtain ⟨p0, m, tc, n, y, i, e1, e2, e3, -⟩ := M
      have : p0 = p := by omega
      subst this
      cases hp.symm.trans e3
    · obtain ⟨i, e1, e2, e3⟩ := M
      exact ⟨i, e1, e2, e3.mono hx⟩
    · obtain ⟨p0, m, tc, n, y, e1, e2, e3, -⟩ := M
      have : p0 = p := by omega
      subst this
      cases hp.symm.trans e3
    · obtain ⟨p0, m, tc, n, y, e1, e2, e3, -⟩ := M
      have : p0 = p := by omega
      subst this
      cases hp.symm.trans e3
    · obtain ⟨p0, vs0, k0, s0, e1, e2, e3, e4, e5⟩ := M
      have : p0 = p := by omega
      subst this
      cases hp.symm.trans e2
      have h5 : ¬ k = 5 := by
        intro z
        subst z
        simp at hk
      have h6 : ¬ k = 6 := by
        intro z
        subst z
        simp at hk
      refine ⟨p0, _, k0, s0, e1, ck_set_eq hp, ?_, ?_, e5⟩
      · rw [List.getElem?_set, if_neg h6]
        exact e3
      · rw [List.getElem?_set, if_neg h5]
        exact e4
    · exact M
    · exact M
    · obtain ⟨p0, m, e1, e2, e3⟩ := M
      obtain ⟨m', g1, g2⟩ := hx _ _ _ e2
      exact ⟨p0, m', e1, g1, fun j hj => g2 j (e3 j hj)⟩
    · exact M.elim
  · refine ck_M_same M hx fun p0 c e1 e2 => ?_
    exact ck_set_ne (by omega) e2
/-- an element's write -/
theorem ck_ka_ok {E : cz_E} {Γ : ck_G} {h : cz_H} {ρ : List Int} {n : ck_N} {q : ck_Q} {p m K r tc len i : Nat} {ix : ck_A} {y y' : (Nat → Int32) ⊕ (Nat → Int64) ⊕ (Nat → UInt32) ⊕ (Nat → UInt64) ⊕ (Nat → Option Nat)} (M : ck_M E Γ h ρ q) (hn : ck_nok n ρ) (hg : Γ[p]? = some (K, m)) (hp : h[p]? = some (.inl (tc, len, y))) (hi : (i : Int) = ck_ev ρ ix) (ho : ∀ j, j ≠ i → ck_el y' j = ck_el y j) (hf : ∀ f, y = .inl f → ∃ f', y' = .inl f' ∧ ∀ j, j ≠ i → f' j = f j) (hk : ck_ka n K r ix q = true) (hr : (p : Int) = ρ.getD r 0) : ck_M E Γ (h.set p (.inl (tc, len, y'))) ρ q := by
  by_cases hpp : (p : Int) = ρ.getD q.2.1 0
  · obtain ⟨t, r0, K0, w, a, u⟩ := q
    unfold ck_M at M ⊢
    unfold ck_ka at hk
    simp only at M hk hpp ⊢
    split at M
    · obtain ⟨p0, vs0, x, e1, e2, -⟩ := M
      have : p0 = p := by omega
      subst this
      cases hp.symm.trans e2
    · obtain ⟨p0, m0, tc0, n0, y0, i0, e1, e2, e3, e4, e5, e6⟩ := M
      have : p0 = p := by omega
      subst this
      cases hg.symm.trans e2
      cases hp.symm.trans e3
      simp only [BEq.rfl, Bool.not_true, Bool.false_or, Bool.and_eq_true] at hk
      have hne : i0 ≠ i := by
        intro z
        subst z
        unfold ck_apt at hk
        rcases Bool.or_eq_true_iff.mp hk.2 with z | z
        · have := ck_le_ok hn z
          rw [ck_add_ev, ck_sub_ev, ck_ev_c] at this
          omega
        · have := ck_le_ok hn z
          rw [ck_add_ev, ck_sub_ev, ck_ev_c] at this
          omega
      exact ⟨p0, m, tc, len, y', i0, e1, hg, ck_set_eq hp, e4, e5, by rw [ho i0 hne]; exact e6⟩
    · exact M
    · obtain ⟨p0, m0, tc0, n0, y0, e1, e2, e3, -⟩ := M
      have : p0 = p := by omega
      subst this
      cases hg.symm.trans e2
      simp at hk
    · obtain ⟨p0, m0, tc0, n0, f, e1, e2, e3, e4⟩ := M
      have : p0 = p := by omega
      subst this
      cases hg.symm.trans e2
      cases hp.symm.trans e3
      obtain ⟨f', e5, e6⟩ := hf f rfl
      subst e5
      refine ⟨p0, m, tc, len, f', e1, hg, ck_set_eq hp, fun l hl hl2 => ?_⟩
      simp only [BEq.rfl, Bool.not_true, Bool.false_or] at hk
      have hne : 4 + 16 * l ≠ i ∧ 5 + 16 * l ≠ i := by
        rcases Bool.or_eq_true_iff.mp hk with z | z
        · have := ck_le_ok hn z
          rw [ck_sub_ev, ck_add_ev, ck_mul_ev, ck_ev_c] at this
          omega
        · have := ck_btw_ok hn z
          have e7 : ck_ev ρ (ix.1.filter (fun q => !(q.2 % 16 == 0)), (ix.2 - 4) % 16) % 16 = (ck_ev ρ ix - 4) % 16 := by
            unfold ck_ev
            simp only
            have e8 : ∀ t : List (Nat × Int), (ck_tv ρ (t.filter (fun q => !(q.2 % 16 == 0)))) % 16 = ck_tv ρ t % 16 := by
              intro t
              induction t with
              | nil => rfl
              | cons q l ih =>
                by_cases hq : q.2 % 16 = 0
                · rw [List.filter_cons_of_neg (by simp [hq]), ih]
                  unfold ck_tv
                  obtain ⟨z, hz⟩ : ∃ z, q.2 = 16 * z := ⟨q.2 / 16, by omega⟩
                  rw [hz, Int.mul_assoc]
                  conv => rhs; unfold ck_tv
                  omega
                · rw [List.filter_cons_of_pos (by simp [hq])]
                  unfold ck_tv
                  omega
            have := e8 ix.1
            omega
          omega
      rw [e6 _ hne.1, e6 _ hne.2]
      exact e4 l hl hl2
    · obtain ⟨p0, vs0, k0, s0, e1, e2, -⟩ := M
      have : p0 = p := by omega
      subst this
      cases hp.symm.trans e2
    · exact M
    · exact M
    · exact M
    · exact M.elim
  · refine ck_M_same M ck_ext.rf fun p0 c e1 e2 => ?_
    exact ck_set_ne (by omega) e2
/-- a row's write -/
theorem ck_kc_ok {E : cz_E} {Γ : ck_G} {h : cz_H} {ρ : List Int} {q : ck_Q} {p m K tc len : Nat} {c' : cz_C} {y : (Nat → Int32) ⊕ (Nat → Int64) ⊕ (Nat → UInt32) ⊕ (Nat → UInt64) ⊕ (Nat → Option Nat)} (M : ck_M E Γ h ρ q) (hg : Γ[p]? = some (K, m)) (hp : h[p]? = some (.inl (tc, len, y))) (hk : ck_kc K q = true) : ck_M E Γ (h.set p c') ρ q := by
  by_cases hpp : (p : Int) = ρ.getD q.2.1 0
  · obtain ⟨t, r0, K0, w, a, u⟩ := q
    unfold ck_M at M ⊢
    unfold ck_kc at hk
    simp only at M hk hpp ⊢
    split at M
    · obtain ⟨p0, vs0, x, e1, e2, -⟩ := M
      have : p0 = p := by omega
      subst this
      cases hp.symm.trans e2
    · obtain ⟨p0, m0, tc0, n0, y0, i0, e1, e2, -⟩ := M
      have : p0 = p := by omega
      subst this
      cases hg.symm.trans e2
      simp at hk
    · exact M
    · obtain ⟨p0, m0, tc0, n0, y0, e1, e2, -⟩ := M
      have : p0 = p := by omega
      subst this
      cases hg.symm.trans e2
      simp at hk
    · obtain ⟨p0, m0, tc0, n0, y0, e1, e2, -⟩ := M
      have : p0 = p := by omega
      subst this
      cases hg.symm.trans e2
      simp at hk
    · obtain ⟨p0, vs0, k0, s0, e1, e2, -⟩ := M
      have : p0 = p := by omega
      subst this
      cases hp.symm.trans e2
    · exact M
    · exact M
    · exact M
    · exact M.elim
  · refine ck_M_same M ck_ext.rf fun p0 c e1 e2 => ?_
    exact ck_set_ne (by omega) e2
/-- a cell more -/
theorem ck_push_ok {E : cz_E} {Γ : ck_G} {h : cz_H} {ρ : List Int} {q : ck_Q} {km : Nat × Nat} {c : cz_C} (M : ck_M E Γ h ρ q) (hx : ck_ext Γ (Γ ++ [km])) : ck_M E (Γ ++ [km]) (h ++ [c]) ρ q :=
  ck_M_same M hx fun p _ _ e2 => by rw [List.getElem?_append_left (List.getElem?_eq_some_iff.mp e2).1]; exact e2
/-! what is left alone -/
def ck_Fr (W : List (Nat × Nat)) (Γ : ck_G) (h h' : cz_H) : Prop := ∀ (p k m : Nat), Γ[p]? = some (k, m) →
  (∀ x, h[p]? = some (.inl x) → ck_win W k 0 = false → h'[p]? = some (.inl x)) ∧
  (∀ ci vs, h[p]? = some (.inr (ci, vs)) → ∃ vs', h'[p]? = some (.inr (ci, vs')) ∧ ∀ j : Nat, ck_win W k j = false → vs'[j]? = vs[j]?)
theorem ck_Fr.rf {W : List (Nat × Nat)} {Γ : ck_G} {h : cz_H} : ck_Fr W Γ h h := fun _ _ _ _ => ⟨fun _ e _ => e, fun _ vs e => ⟨vs, e, fun _ _ => rfl⟩⟩
theorem ck_Fr.trans {W : List (Nat × Nat)} {Γ Γ1 : ck_G} {h h1 h2 : cz_H} (a : ck_Fr W Γ h h1) (hx : ck_ext Γ Γ1) (b : ck_Fr W Γ1 h1 h2) : ck_Fr W Γ h h2 := by
  intro p k m hg
  obtain ⟨m1, hg1, -⟩ := hx _ _ _ hg
  obtain ⟨a1, a2⟩ := a p k m hg
  obtain ⟨b1, b2⟩ := b p k m1 hg1
  refine ⟨fun x e w => b1 x (a1 x e w) w, fun ci vs e => ?_⟩
  obtain ⟨vs1, e1, f1⟩ := a2 ci vs e
  obtain ⟨vs2, e2, f2⟩ := b2 ci vs1 e1
  exact ⟨vs2, e2, fun j w => (f2 j w).trans (f1 j w)⟩
theorem ck_win_mem : ∀ {W : List (Nat × Nat)} {a b : Nat}, ck_win W a b = true ↔ (a, b) ∈ W
  | [], a, b => by simp [ck_win]
  | q :: l, a, b => by
    unfold ck_win
    rw [Bool.or_eq_true, Bool.and_eq_true, beq_iff_eq, beq_iff_eq, ck_win_mem (W := l), List.mem_cons]
    constructor
    · rintro (⟨h1, h2⟩ | h)
      · exact Or.inl (Prod.ext h1.symm h2.symm)
      · exact Or.inr h
    · rintro (h | h)
      · exact Or.inl ⟨by rw [← h], by rw [← h]⟩
      · exact Or.inr h
theorem ck_sbw_ok {W W2 : List (Nat × Nat)} (h : ck_sbw W W2 = true) {a b : Nat} (e : ck_win W a b = false) : ck_win W2 a b = false := by
  cases e2 : ck_win W2 a b with
  | false => rfl
  | true =>
    have := List.all_eq_true.mp h _ (ck_win_mem.mp e2)
    simp only at this
    rw [this] at e
    cases e
theorem ck_Fr.mono {W W2 : List (Nat × Nat)} {Γ : ck_G} {h h' : cz_H} (a : ck_Fr W2 Γ h h') (hs : ck_sbw W W2 = true) : ck_Fr W Γ h h' := fun p k m hg => ⟨fun x e w => (a p k m hg).1 x e (ck_sbw_ok hs w), fun ci vs e => by
  obtain ⟨vs', e1, f1⟩ := (a p k m hg).2 ci vs e
  exact ⟨vs', e1, fun j w => f1 j (ck_sbw_ok hs w)⟩⟩
/-- behind a call -/
theorem ck_kw_ok {E : cz_E} {B : Int} {W : List (Nat × Nat)} {Γ Γ' : ck_G} {h h' : cz_H} {ρ : List Int} {q : ck_Q} (M : ck_M E Γ h ρ q) (t : ck_HT E B Γ h) (hx : ck_ext Γ Γ') (fr : ck_Fr W Γ h h') (hk : ck_kw W q = true) : ck_M E Γ' h' ρ q := by
  have ob : ∀ {p ci : Nat} {vs : List Value}, h[p]? = some (.inr (ci, vs)) → ∃ m, Γ[p]? = some (ci, m) := by
    intro p ci vs hp
    have hl : p < Γ.length := by rw [t.1]; exact (List.getElem?_eq_some_iff.mp hp).1
    obtain ⟨⟨k, m⟩, hg⟩ : ∃ km, Γ[p]? = some km := ⟨_, List.getElem?_eq_getElem hl⟩
    have hc := t.2 p _ _ hg hp
    unfold ck_cell at hc
    split at hc
    · next o ho =>
      obtain ⟨vs', e, -⟩ := hc
      have e5 : o.1 = k := ck_kt_obj ho
      cases e
      exact ⟨m, by rw [hg, e5]⟩
    · obtain ⟨y, e, -⟩ := hc
      cases e
    · exact hc.elim
  obtain ⟨tg, r0, K0, w, a, u⟩ := q
  unfold ck_M at M ⊢
  unfold ck_kw at hk
  simp only at M hk ⊢
  split at M
  · obtain ⟨p, vs, x, e1, e2, e3, e4⟩ := M
    obtain ⟨m, hg⟩ := ob e2
    obtain ⟨vs', g1, g2⟩ := (fr p _ m hg).2 _ _ e2
    exact ⟨p, vs', x, e1, g1, by rw [g2 _ (by simpa using hk)]; exact e3, e4.mono hx⟩
  · obtain ⟨p, m, tc, n, y, i, e1, e2, e3, e4, e5, e6⟩ := M
    obtain ⟨m', g1, -⟩ := hx _ _ _ e2
    exact ⟨p, m', tc, n, y, i, e1, g1, (fr p _ m e2).1 _ e3 (by simpa using hk), e4, e5, e6.mono hx⟩
  · obtain ⟨i, e1, e2, e3⟩ := M
    exact ⟨i, e1, e2, e3.mono hx⟩
  · obtain ⟨p, m, tc, n, y, e1, e2, e3, e4⟩ := M
    obtain ⟨m', g1, -⟩ := hx _ _ _ e2
    exact ⟨p, m', tc, n, y, e1, g1, (fr p _ m e2).1 _ e3 (by simpa using hk), e4⟩
  · obtain ⟨p, m, tc, n, f, e1, e2, e3, e4⟩ := M
    obtain ⟨m', g1, -⟩ := hx _ _ _ e2
    exact ⟨p, m', tc, n, f, e1, g1, (fr p _ m e2).1 _ e3 (by simpa using hk), e4⟩
  · obtain ⟨p, vs, k, s, e1, e2, e3, e4, e5⟩ := M
    obtain ⟨m, hg⟩ := ob e2
    obtain ⟨vs', g1, g2⟩ := (fr p _ m hg).2 _ _ e2
    simp only [Bool.and_eq_true, Bool.not_eq_true'] at hk
    exact ⟨p, vs', k, s, e1, g1, by rw [g2 _ hk.2]; exact e3, by rw [g2 _ hk.1]; exact e4, e5⟩
  · exact M
  · exact M
  · obtain ⟨p, m, e1, e2, e3⟩ := M
    obtain ⟨m', g1, g2⟩ := hx _ _ _ e2
    exact ⟨p, m', e1, g1, fun j hj => g2 j (e3 j hj)⟩
  · exact M.elim
