/-! THE CHECKER IS SOUND: new rows, rows that are copied -/
def ck_y0 (tc : Nat) : (Nat → Int32) ⊕ (Nat → Int64) ⊕ (Nat → UInt32) ⊕ (Nat → UInt64) ⊕ (Nat → Option Nat) := match tc with
  | 2 => .inr (.inl fun _ => 0)
  | 5 => .inr (.inr (.inr (.inr fun _ => none)))
  | 6 => .inr (.inr (.inr (.inr fun _ => none)))
  | _ => .inl fun _ => 0
theorem ck_rows0 (b : Nat) : ck_rows (fun _ => 0) b := by
  intro s l _ _ hl
  have hl : (l : Int) < (0 : Int32).toInt := hl
  have e0 : (0 : Int32).toInt = 0 := rfl
  omega
section CKC
variable {E : cz_E} {Γ : ck_G} {B : Int} {ρ : List Int} {n n' : ck_N} {st st' : List ck_V} {es es' : List ck_Q} {cst : List Value} {h : cz_H} {W : List (Nat × Nat)}
theorem ck_cell0 {K m : Nat} {k : Nat × Nat × Nat × ck_S} (hB : 0 ≤ B) (hk : ck_ak K = some k) (hz : (decide (0 < k.2.2.1) || ck_z0 k.2.2.2) = true) : ck_cell E B Γ (K, m) (.inl (k.1, k.2.1, ck_y0 k.1)) := by
  have hok := ck_ak_ok hk
  unfold ck_akok at hok
  obtain ⟨-, hok⟩ := Bool.and_eq_true_iff.mp hok
  unfold ck_ak at hk
  split at hk
  · next r hr =>
    cases hk
    obtain ⟨tc, len, tt, s⟩ := k
    unfold ck_cell
    simp only [hr]
    have i0 : ∀ {j : Nat}, (0 < tt ∨ s.1 = 0 ∨ s.1 = 4) → ck_vs E B Γ (ck_es tt s j) (.int 0) := by
      intro j hs
      have e0 : (0 : Int32).toInt = 0 := rfl
      unfold ck_es
      by_cases h0 : tt = 0
      · rw [if_pos h0]
        subst h0
        have hz : ck_z0 s = true := by simpa using hz
        unfold ck_z0 at hz
        unfold ck_vs
        rcases hs with q | q | q
        · omega
        · rw [q] at hz ⊢
          simp only [Bool.and_eq_true, decide_eq_true_eq] at hz
          exact ⟨0, rfl, by rw [e0]; exact hz.1, by rw [e0]; exact hz.2⟩
        · rw [q]
          exact ⟨0, rfl, by rw [e0]; exact Int.le_refl _, by rw [e0]; exact hB⟩
      · rw [if_neg h0]
        have := ck_T_bd tt j
        exact ⟨0, rfl, by rw [e0]; exact this.1.2, by rw [e0]; exact this.2.1⟩
    simp only at hok
    split at hok
    · next e =>
      simp only [Bool.or_eq_true, decide_eq_true_eq, beq_iff_eq] at hok
      exact ⟨_, rfl, Or.inl rfl, ⟨fun _ => ck_rows0 0, fun _ b _ => ck_rows0 _⟩, fun j _ => i0 (by omega)⟩
    · next e =>
      simp only [Bool.and_eq_true, beq_iff_eq] at hok
      exact ⟨_, rfl, Or.inr (Or.inl rfl), ⟨fun _ => ck_rows0 0, fun _ b _ => ck_rows0 _⟩, fun j _ => i0 (by omega)⟩
    · next e =>
      simp only [Bool.and_eq_true, beq_iff_eq] at hok
      refine ⟨_, rfl, rfl, trivial, fun j _ => ?_⟩
      unfold ck_es
      rw [if_pos hok.1]
      unfold ck_vs
      rw [hok.2]
      exact ⟨0, rfl⟩
    · next e =>
      simp only [Bool.and_eq_true, beq_iff_eq] at hok
      exact ⟨_, rfl, Or.inr (Or.inr (Or.inl rfl)), ⟨fun _ => ck_rows0 0, fun _ b _ => ck_rows0 _⟩, fun j _ => i0 (by omega)⟩
    · next e =>
      simp only [Bool.and_eq_true, beq_iff_eq] at hok
      exact ⟨_, rfl, Or.inr (Or.inr (Or.inr rfl)), ⟨fun _ => ck_rows0 0, fun _ b _ => ck_rows0 _⟩, fun j _ => i0 (by omega)⟩
    · next e =>
      simp only [Bool.and_eq_true, beq_iff_eq] at hok
      refine ⟨_, rfl, Or.inl rfl, trivial, fun j _ => ?_⟩
      unfold ck_es
      rw [if_pos hok.1]
      unfold ck_vs
      rw [hok.2]
      exact Or.inl rfl
    · next e =>
      simp only [Bool.and_eq_true, beq_iff_eq] at hok
      refine ⟨_, rfl, Or.inr rfl, trivial, fun j _ => ?_⟩
      unfold ck_es
      rw [if_pos hok.1]
      unfold ck_vs
      rw [hok.2]
      exact Or.inl rfl
    · cases hok
  · cases hk
theorem ck_nwa_ok {tc K c : Nat} (hB : 0 ≤ B) (hH : (h.length : Int) + 1 ≤ ck_HM) (J : ck_J E Γ B ρ n st es cst h) (e : ck_nwa tc K n st es = some (n', st', es', c)) : ∃ (z : Int32) (cr : List Value) (ρ2 : List Int) (Γ' : ck_G), cst = .int z :: cr ∧ z.toInt = (c : Int) ∧ c ≤ 100000 ∧ ck_ext Γ Γ' ∧ ck_J E Γ' B (ρ ++ ρ2) n' st' es' (.ref (E.1 + h.length) :: cr) (h ++ [.inl (tc, c, ck_y0 tc)]) ∧ ck_Fr W Γ h (h ++ [.inl (tc, c, ck_y0 tc)]) ∧ cz_sz (h ++ [.inl (tc, c, ck_y0 tc)]) = cz_sz h + c := by
  obtain ⟨hl, t, hn, hs, hm⟩ := J
  unfold ck_nwa at e
  obtain ⟨a0, r, rfl, t0, e1⟩ := ck_qi_some e
  obtain ⟨k, hk, e2⟩ := cz_so_some e1
  obtain ⟨hc, e3⟩ := cz_if_some e2
  clear e e1 e2
  simp only [Bool.and_eq_true, beq_iff_eq, decide_eq_true_eq] at hc
  obtain ⟨⟨⟨⟨c1, c2⟩, c3⟩, c4⟩, -⟩ := hc
  cases e3
  subst c1
  obtain ⟨x0, cr, rfl, hx0, hr⟩ := ck_Ls.cons hs
  obtain ⟨z, rfl, hz⟩ := ck_int hx0 t0
  have hx : ck_ext Γ (Γ ++ [(K, 0)]) := fun j k m hj => ⟨m, by rw [List.getElem?_append_left (List.getElem?_eq_some_iff.mp hj).1]; exact hj, fun _ z => z⟩
  obtain ⟨t', -⟩ := ck_HT.push (km := (K, 0)) t (ck_cell0 (E := E) hB hk c4)
  have hgp : (Γ ++ [(K, 0)])[h.length]? = some (K, 0) := by
    rw [← t.1, List.getElem?_append_right (Nat.le_refl _), Nat.sub_self]
    rfl
  have hfull : ck_full K 0 = true := by
    unfold ck_full
    unfold ck_ak at hk
    split at hk
    · next rr hrr =>
      rw [hrr]
    · cases hk
  obtain ⟨g1, g2⟩ := ck_newroot (b := (0, ck_HM)) (w := (h.length : Int)) hl hn ⟨by omega, by show (h.length : Int) ≤ ck_HM; omega⟩
  refine ⟨z, cr, [(h.length : Int)], Γ ++ [(K, 0)], rfl, ?_, c3, hx, ⟨g1, t', fun σ => (g2 σ).1, ⟨fun σ => ck_D3i rfl (g2 σ).2.symm hgp hfull, ck_Ls.imp (fun _ _ z => ck_Ds_app _ (ck_D_ext z hx)) hr⟩, fun q hq σ => ck_push_ok (ck_Ms_app _ hm q hq σ) hx⟩, ?_, by rw [cz_sz_push]; rfl⟩
  · rw [hz [], ck_aeq_ok c2, ck_ev_c]
  · intro p' k' m' hg'
    have hp' : p' < h.length := by rw [← t.1]; exact (List.getElem?_eq_some_iff.mp hg').1
    exact ⟨fun x e1 _ => by rw [List.getElem?_append_left hp']; exact e1, fun c0 vs0 e1 => ⟨vs0, by rw [List.getElem?_append_left hp']; exact e1, fun _ _ => rfl⟩⟩
theorem ck_sum_ok : ∀ {r : List ck_V} {cr : List Value}, ck_Ls (ck_Ds E Γ ρ) r cr → cz_sum cr = ck_sum r
  | [], [], _ => rfl
  | v :: l, x :: s, hs => by
    have ih := ck_sum_ok hs.2
    unfold cz_sum ck_sum at ih ⊢
    simp only [List.map_cons, List.sum_cons]
    rw [ih, (hs.1 []).cat]
  | [], _ :: _, hs => hs.elim
  | _ :: _, [], hs => hs.elim
/-- numbers of one row may stand in another -/
theorem ck_cps_ok {k0 k1 : Nat × Nat × Nat × ck_S} {x : Value} (hc : ck_cps k0 k1 = true) (hk : ck_akok k0 = true) {i j : Nat} (hv : ck_vs E B Γ (ck_es k0.2.2.1 k0.2.2.2 i) x) : ck_vs E B Γ (ck_es k1.2.2.1 k1.2.2.2 j) x := by
  unfold ck_cps at hc
  simp only [Bool.and_eq_true, beq_iff_eq, decide_eq_true_eq] at hc
  obtain ⟨⟨⟨⟨⟨⟨c1, c2⟩, c3⟩, c4⟩, c5⟩, c6⟩, c7⟩ := hc
  unfold ck_es at hv ⊢
  rw [if_pos c2] at hv
  rw [if_pos c3]
  unfold ck_vs at hv ⊢
  rw [← c5]
  split at hv
  · obtain ⟨z, e1, e2, e3⟩ := hv
    exact ⟨z, e1, by omega, by omega⟩
  · exact hv
  · next e =>
    exfalso
    unfold ck_akok at hk
    simp only [Bool.and_eq_true] at hk
    split at c4
    · next e9 => rw [e9] at hk; simp only [Bool.or_eq_true, decide_eq_true_eq, beq_iff_eq] at hk; omega
    · next e9 => rw [e9] at hk; simp only [Bool.and_eq_true, beq_iff_eq] at hk; omega
    · next e9 => rw [e9] at hk; simp only [Bool.and_eq_true, beq_iff_eq] at hk; omega
    · cases c4
  · next e =>
    exfalso
    unfold ck_akok at hk
    simp only [Bool.and_eq_true] at hk
    split at c4
    · next e9 => rw [e9] at hk; simp only [Bool.or_eq_true, decide_eq_true_eq, beq_iff_eq] at hk; omega
    · next e9 => rw [e9] at hk; simp only [Bool.and_eq_true, beq_iff_eq] at hk; omega
    · next e9 => rw [e9] at hk; simp only [Bool.and_eq_true, beq_iff_eq] at hk; omega
    · cases c4
  · exact hv
  · exact hv.elim
end CKC
