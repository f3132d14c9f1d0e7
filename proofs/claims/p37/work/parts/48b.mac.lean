/-! THE CHECKER IS SOUND: the three loops, each in one step -/
theorem ck_fs12_1 : ck_fs 12 1 = some (2, 0, 0, 77) := by decide +kernel
theorem ck_fs12_2 : ck_fs 12 2 = some (2, 0, 0, 78) := by decide +kernel
theorem ck_ak77 : ck_ak 77 = some (0, 8090, 1, (0, 0, 0, 0)) := rfl
theorem ck_ak78 : ck_ak 78 = some (0, 24270, 2, (0, 0, 0, 0)) := rfl
theorem ck_ak82 : ck_ak 82 = some (0, 260, 3, (0, 0, 0, 0)) := rfl
theorem ck_ak_kt {K : Nat} {r : Nat × Nat × Nat × ck_S} (h : ck_ak K = some r) : ck_kt[K]? = some (.inr r) := by
  unfold ck_ak at h
  split at h
  · next r' hr =>
    cases h
    exact hr
  · cases h
theorem ck_cpi {f g : Nat → Int32} {s t m j : Nat} (h1 : t ≤ j) (h2 : j < t + m) : va_cpy g f s t m j = g (s + (j - t)) := by
  unfold va_cpy
  rw [if_pos ⟨h1, h2⟩]
theorem ck_cpo {f g : Nat → Int32} {s t m j : Nat} (h1 : j < t ∨ t + m ≤ j) : va_cpy g f s t m j = f j := by
  unfold va_cpy
  rw [if_neg (by omega)]
section CKM
variable {E : cz_E} {Γ : ck_G} {B : Int} {ρ : List Int} {n : ck_N} {es es' : List ck_Q} {h : cz_H} {W : List (Nat × Nat)}
theorem ck_rf (t : ck_HT E B Γ h) {p ci m k K : Nat} {lo hi : Int} {vs : List Value} (hg : Γ[p]? = some (ci, m)) (hf : ck_full ci m = true) (hs : ck_fs ci k = some (2, lo, hi, K)) (hv : h[p]? = some (.inr (ci, vs))) : ∃ q mq : Nat, vs[k]? = some (.ref (E.1 + q)) ∧ Γ[q]? = some (K, mq) := by
  obtain ⟨vs', y, e1, e2, e3, -⟩ := ck_obj t hg hs
  cases hv.symm.trans e1
  have e4 : ∃ a : Nat, y = .ref a ∧ ck_is E Γ a K := e3 (ck_full_bit hs hf)
  obtain ⟨a, rfl, ha, mq, hq, -⟩ := e4
  refine ⟨a - E.1, mq, ?_, hq⟩
  rw [e2, Nat.add_sub_cancel' ha]
theorem ck_ir (t : ck_HT E B Γ h) {q K m len tt : Nat} {s : ck_S} (hg : Γ[q]? = some (K, m)) (hk : ck_ak K = some (0, len, tt, s)) : ∃ f : Nat → Int32, h[q]? = some (.inl (0, len, .inl f)) ∧ ck_rw tt (.inl f) ∧ ∀ i : Nat, i < len → ck_vs E B Γ (ck_es tt s i) (.int (f i)) := by
  obtain ⟨y, e1, e2, e3, e4⟩ := ck_arr t hg hk
  rcases y with f | f | f | f | f
  · exact ⟨f, e1, e3, e4⟩
  · have e2 : (0 : Nat) = 2 := e2
    omega
  · exact e2.elim
  · exact e2.elim
  · have e2 : (0 : Nat) = 5 ∨ (0 : Nat) = 6 := e2
    omega
theorem ck_tb {tt i : Nat} {s : ck_S} {x : Int32} (ht : 0 < tt) (hv : ck_vs E B Γ (ck_es tt s i) (.int x)) : (ck_T tt i).1 ≤ x.toInt ∧ x.toInt ≤ (ck_T tt i).2 := by
  unfold ck_es at hv
  rw [if_neg (by omega)] at hv
  have hv : ∃ z : Int32, Value.int x = .int z ∧ (ck_T tt i).1 ≤ z.toInt ∧ z.toInt ≤ (ck_T tt i).2 := hv
  obtain ⟨z, e, h1, h2⟩ := hv
  have e : x = z := by injection e
  subst e
  exact ⟨h1, h2⟩
theorem ck_tbi {tt i : Nat} {s : ck_S} {x : Int32} (ht : 0 < tt) (hv : (ck_T tt i).1 ≤ x.toInt ∧ x.toInt ≤ (ck_T tt i).2) : ck_vs E B Γ (ck_es tt s i) (.int x) := by
  unfold ck_es
  rw [if_neg (by omega)]
  exact ⟨x, rfl, hv.1, hv.2⟩
theorem ck_HTd (t : ck_HT E B Γ h) {q K m len tt : Nat} {s : ck_S} {F : Nat → Int32} (hg : Γ[q]? = some (K, m)) (hk : ck_ak K = some (0, len, tt, s)) (hrw : ck_rw tt (.inl F)) (hel : ∀ i : Nat, i < len → ck_vs E B Γ (ck_es tt s i) (.int (F i))) : ck_HT E B Γ (h.set q (.inl (0, len, .inl F))) := by
  refine ck_HT.putA t (Int.le_refl _) hg ?_
  unfold ck_cell
  simp only [ck_ak_kt hk]
  exact ⟨_, rfl, Or.inl rfl, hrw, hel⟩
theorem ck_ne_kind {p q k k' m m' : Nat} (h1 : Γ[p]? = some (k, m)) (h2 : Γ[q]? = some (k', m')) (hk : k ≠ k') : p ≠ q := by
  intro z
  subst z
  have q1 : ((k, m) : Nat × Nat) = (k', m') := Option.some.inj (h1.symm.trans h2)
  exact hk (congrArg Prod.fst q1)
theorem ck_ne_arr {p q ci : Nat} {vs : List Value} {x : Nat × vp_A} (h1 : h[p]? = some (.inl x)) (h2 : h[q]? = some (.inr (ci, vs))) : p ≠ q := by
  intro z
  subst z
  cases h1.symm.trans h2
/-- the object of a local that is known -/
theorem ck_lox {lv : ck_LV} {l j po : Nat} {clv : cz_LV} {o : ck_V} (hL : ck_LX E Γ ρ lv l clv) (hj : j ≠ l) (ho : ck_lk lv j = some o) (c1 : o.1 = 3) (hpo : ∀ σ, (po : Int) = (ρ ++ σ).getD o.2.1 0) : cz_lk clv j = some (.ref (E.1 + po)) := by
  obtain ⟨x, a1, a2⟩ := hL j o hj ho
  obtain ⟨p, rfl, hp, -⟩ := ck_D39 a2 (Or.inl c1)
  have h1 := hp []
  have h2 := hpo []
  have : p = po := by omega
  rw [a1, this]
theorem ck_lix {lv : ck_LV} {l j : Nat} {clv : cz_LV} {o : ck_V} {K : Int} (hL : ck_LX E Γ ρ lv l clv) (hj : j ≠ l) (ho : ck_lk lv j = some o) (c1 : o.1 = 0) (hk : ck_ev (ρ ++ []) o.2.2.2.1 = K) : ∃ z : Int32, cz_lk clv j = some (.int z) ∧ z.toInt = K := by
  obtain ⟨x, a1, a2⟩ := hL j o hj ho
  obtain ⟨z, rfl, hz⟩ := ck_int a2 c1
  exact ⟨z, a1, (hz []).trans hk⟩
theorem ck_Tw1 {i : Nat} (h1 : 1100 ≤ i) (h2 : i < 3700) : ck_T 1 i = ck_Tf ((i - 1100) % 260) := by
  show ck_Tw i = _
  unfold ck_Tw
  rw [if_neg (by omega), if_neg (by omega), if_neg (by omega), if_neg (by omega), if_pos h2]
set_option maxHeartbeats 2000000 in
theorem ck_mac_ok (hE : cz_Eok E) {mi pc pc' : Nat} {lv lv' : ck_LV} {clv : cz_LV} (J : ck_J E Γ B ρ n [] es [] h) (hL : ∀ σ, ck_LR E Γ (ρ ++ σ) lv clv) (e : ck_mac W mi pc n lv es = some (pc', lv', es')) : ∃ h', (∀ (d : Nat) (Q : Option Value → cz_H → Prop), (∀ clv', (∀ σ, ck_LR E Γ (ρ ++ σ) lv' clv') → cz_W E d mi pc' clv' [] h' Q) → cz_W E d mi pc clv [] h Q) ∧ ck_J E Γ B ρ n [] es' [] h' ∧ ck_Fr W Γ h h' ∧ h'.length = h.length ∧ cz_sz h' = cz_sz h := by
  obtain ⟨hl, t, hn, -, hm⟩ := J
  unfold ck_mac at e
  split at e
  · next hmp =>
    obtain ⟨rfl, rfl⟩ := hmp
    obtain ⟨o, ho, e1⟩ := cz_so_some e
    obtain ⟨k, hk, e2⟩ := cz_so_some e1
    obtain ⟨i, hi, e3⟩ := cz_so_some e2
    obtain ⟨cnd, e4⟩ := cz_if_some e3
    clear e e1 e2 e3
    cases e4
    simp only [Bool.and_eq_true, beq_iff_eq] at cnd
    obtain ⟨⟨⟨⟨⟨⟨c1, c2⟩, c3⟩, c4⟩, c5⟩, c6⟩, c7⟩ := cnd
    obtain ⟨xo, lo, dxo⟩ := ck_lkA hL ho
    obtain ⟨po, rfl, hpo, mo, hgo, hfo⟩ := ck_D39 dxo (Or.inl c1)
    have hfo := hfo c1
    rw [c2] at hgo hfo
    have hb := ck_btw_ok (hn []) c4
    obtain ⟨kk, hkk⟩ : ∃ kk : Nat, ck_ev (ρ ++ []) k.2.2.2.1 = (kk : Int) := ⟨(ck_ev (ρ ++ []) k.2.2.2.1).toNat, by omega⟩
    have hk3 : kk < 3 := by omega
    obtain ⟨zi, li, hzi⟩ := ck_lix (l := 9) (K := ((0 : Nat) : Int)) (ck_LX_of hL) (by decide) hi c5 (by rw [ck_aeq_ok c6, ck_ev_c]; rfl)
    obtain ⟨vs, -, hvs, -⟩ := ck_obj t hgo ck_fs12_1
    obtain ⟨pS, mS, v1, hgS⟩ := ck_rf t hgo hfo ck_fs12_1 hvs
    obtain ⟨pD, mD, v2, hgD⟩ := ck_rf t hgo hfo ck_fs12_2 hvs
    obtain ⟨g, hS, rS, bS⟩ := ck_ir t hgS ck_ak77
    obtain ⟨f, hD, rD, bD⟩ := ck_ir t hgD ck_ak78
    have n1 : pD ≠ po := ck_ne_arr hD hvs
    have n2 : pD ≠ pS := ck_ne_kind hgD hgS (by decide)
    refine ⟨h.set pD (.inl (0, 24270, .inl (va_cpy g f 0 (8090 * kk) 8090))), fun d Q hQ => ?_, ⟨hl, ck_HTd t hgD ck_ak78 ⟨fun z => absurd z (by decide), fun _ b hb s l hs hl2 hlt => ?_⟩ fun j hj => ?_, hn, trivial, fun q hq σ => ?_⟩, ck_Fr.arr hgD hD c7, by rw [List.length_set], cz_sz_set hD rfl⟩
    · have L := ck_loop (E := E) (Γ := Γ) (ρ := ρ) (d := d) (mi := 203) (pc := 17) (l := 2) (N := 8090) (s := 0) (t := 8090 * kk) (nD := 24270) (pD := pD) (lv := lv) (h := h) (f := f) (g := g) (Q := Q) (fun j v hj ej => by
        have : j = 1 := by omega
        subst this
        cases hk.symm.trans ej
        exact c3) hD (by decide) (fun i clv x f' hi2 hLX hx hxi w => by
        obtain ⟨z, b1, b2⟩ := ck_lix hLX (by decide) hk c3 hkk
        exact ck_t203 hE (ck_lox hLX (by decide) ho c1 hpo) b1 hx b2 hk3 hxi hi2 (ck_set_ne n1 hvs) v1 v2 (ck_set_eq hD) (ck_set_ne n2 hS) w) (fun clv x hLX hx hxN => ck_e203 hx hxN (hQ clv (ck_LX_end hLX hx hxN))) 8090 0 clv zi (by decide) (ck_LX_of hL) li hzi
      rw [ck_cpy0, ck_set_self hD] at L
      exact L
    · by_cases hbk : b = kk
      · subst hbk
        rw [ck_cpi (by omega) (by omega), show 0 + (8090 * b + 1103 + 260 * s - 8090 * b) = 0 + 1103 + 260 * s by omega] at hlt
        have := rS.1 rfl s l hs hl2 hlt
        rw [ck_cpi (by omega) (by omega), ck_cpi (by omega) (by omega), show 0 + (8090 * b + 1104 + 260 * s + 16 * l - 8090 * b) = 0 + 1104 + 260 * s + 16 * l by omega, show 0 + (8090 * b + 1105 + 260 * s + 16 * l - 8090 * b) = 0 + 1105 + 260 * s + 16 * l by omega]
        exact this
      · rw [ck_cpo (by omega)] at hlt
        have := rD.2 rfl b hb s l hs hl2 hlt
        rw [ck_cpo (by omega), ck_cpo (by omega)]
        exact this
    · refine ck_tbi (by decide) ?_
      by_cases hin : 8090 * kk ≤ j ∧ j < 8090 * kk + 8090
      · rw [ck_cpi hin.1 hin.2]
        have b1 := ck_tb (by decide) (bS (0 + (j - 8090 * kk)) (by omega))
        have e9 : ck_T 2 j = ck_T 1 (0 + (j - 8090 * kk)) := by
          show ck_Tw (j % 8090) = ck_Tw (0 + (j - 8090 * kk))
          rw [show j % 8090 = 0 + (j - 8090 * kk) by omega]
        rw [e9]
        exact b1
      · rw [ck_cpo (by omega)]
        exact ck_tb (by decide) (bD j hj)
    · obtain ⟨g1, g2⟩ := List.mem_filter.mp hq
      exact ck_kc_ok (hm q g1 σ) hgD hD g2
  · split at e
    · next hmp =>
      obtain ⟨rfl, rfl⟩ := hmp
      obtain ⟨o, ho, e1⟩ := cz_so_some e
      obtain ⟨k, hk, e2⟩ := cz_so_some e1
      obtain ⟨i, hi, e3⟩ := cz_so_some e2
      obtain ⟨cnd, e4⟩ := cz_if_some e3
      clear e e1 e2 e3
      cases e4
      simp only [Bool.and_eq_true, beq_iff_eq] at cnd
      obtain ⟨⟨⟨⟨⟨⟨c1, c2⟩, c3⟩, c4⟩, c5⟩, c6⟩, c7⟩ := cnd
      obtain ⟨xo, lo, dxo⟩ := ck_lkA hL ho
      obtain ⟨po, rfl, hpo, mo, hgo, hfo⟩ := ck_D39 dxo (Or.inl c1)
      have hfo := hfo c1
      rw [c2] at hgo hfo
      have hb := ck_btw_ok (hn []) c4
      obtain ⟨kk, hkk⟩ : ∃ kk : Nat, ck_ev (ρ ++ []) k.2.2.2.1 = (kk : Int) := ⟨(ck_ev (ρ ++ []) k.2.2.2.1).toNat, by omega⟩
      have hk3 : kk < 3 := by omega
      obtain ⟨zi, li, hzi⟩ := ck_lix (l := 9) (K := ((0 : Nat) : Int)) (ck_LX_of hL) (by decide) hi c5 (by rw [ck_aeq_ok c6, ck_ev_c]; rfl)
      obtain ⟨vs, -, hvs, -⟩ := ck_obj t hgo ck_fs12_1
      obtain ⟨pD, mD, v1, hgD⟩ := ck_rf t hgo hfo ck_fs12_1 hvs
      obtain ⟨pS, mS, v2, hgS⟩ := ck_rf t hgo hfo ck_fs12_2 hvs
      obtain ⟨g, hS, rS, bS⟩ := ck_ir t hgS ck_ak78
      obtain ⟨f, hD, rD, bD⟩ := ck_ir t hgD ck_ak77
      have n1 : pD ≠ po := ck_ne_arr hD hvs
      have n2 : pD ≠ pS := ck_ne_kind hgD hgS (by decide)
      refine ⟨h.set pD (.inl (0, 8090, .inl (va_cpy g f (8090 * kk) 0 8090))), fun d Q hQ => ?_, ⟨hl, ck_HTd t hgD ck_ak77 ⟨fun _ s l hs hl2 hlt => ?_, fun z => absurd z (by decide)⟩ fun j hj => ?_, hn, trivial, fun q hq σ => ?_⟩, ck_Fr.arr hgD hD c7, by rw [List.length_set], cz_sz_set hD rfl⟩
      · have L := ck_loop (E := E) (Γ := Γ) (ρ := ρ) (d := d) (mi := 204) (pc := 29) (l := 2) (N := 8090) (s := 8090 * kk) (t := 0) (nD := 8090) (pD := pD) (lv := lv) (h := h) (f := f) (g := g) (Q := Q) (fun j v hj ej => by
          have : j = 1 := by omega
          subst this
          cases hk.symm.trans ej
          exact c3) hD (by decide) (fun i clv x f' hi2 hLX hx hxi w => by
          obtain ⟨z, b1, b2⟩ := ck_lix hLX (by decide) hk c3 hkk
          exact ck_t204 hE (ck_lox hLX (by decide) ho c1 hpo) b1 hx b2 hk3 hxi hi2 (ck_set_ne n1 hvs) v1 v2 (ck_set_eq hD) (ck_set_ne n2 hS) w) (fun clv x hLX hx hxN => ck_e204 hx hxN (hQ clv (ck_LX_end hLX hx hxN))) 8090 0 clv zi (by decide) (ck_LX_of hL) li hzi
        rw [ck_cpy0, ck_set_self hD] at L
        exact L
      · rw [ck_cpi (by omega) (by omega), show 8090 * kk + (0 + 1103 + 260 * s - 0) = 8090 * kk + 1103 + 260 * s by omega] at hlt
        have := rS.2 rfl kk hk3 s l hs hl2 hlt
        rw [ck_cpi (by omega) (by omega), ck_cpi (by omega) (by omega), show 8090 * kk + (0 + 1104 + 260 * s + 16 * l - 0) = 8090 * kk + 1104 + 260 * s + 16 * l by omega, show 8090 * kk + (0 + 1105 + 260 * s + 16 * l - 0) = 8090 * kk + 1105 + 260 * s + 16 * l by omega]
        exact this
      · refine ck_tbi (by decide) ?_
        rw [ck_cpi (by omega) (by omega)]
        have b1 := ck_tb (by decide) (bS (8090 * kk + (j - 0)) (by omega))
        have e9 : ck_T 2 (8090 * kk + (j - 0)) = ck_T 1 j := by
          show ck_Tw ((8090 * kk + (j - 0)) % 8090) = ck_Tw j
          rw [show (8090 * kk + (j - 0)) % 8090 = j by omega]
        rw [e9] at b1
        exact b1
      · obtain ⟨g1, g2⟩ := List.mem_filter.mp hq
        exact ck_kc_ok (hm q g1 σ) hgD hD g2
    · split at e
      · next hmp =>
        obtain ⟨rfl, rfl⟩ := hmp
        obtain ⟨o, ho, e1⟩ := cz_so_some e
        obtain ⟨k, hk, e2⟩ := cz_so_some e1
        obtain ⟨i, hi, e3⟩ := cz_so_some e2
        obtain ⟨cnd, e4⟩ := cz_if_some e3
        obtain ⟨S, hS9, e5⟩ := cz_so_some e4
        obtain ⟨w, hw, e6⟩ := cz_so_some e5
        obtain ⟨cnd2, e7⟩ := cz_if_some e6
        obtain ⟨m, hm4, e8⟩ := cz_so_some e7
        obtain ⟨c, hc, e9⟩ := cz_so_some e8
        obtain ⟨cnd3, e10⟩ := cz_if_some e9
        clear e e1 e2 e3 e4 e5 e6 e7 e8 e9
        cases e10
        simp only [Bool.and_eq_true, beq_iff_eq] at cnd cnd2 cnd3
        obtain ⟨⟨⟨⟨⟨c1, c2⟩, c3⟩, c5⟩, c6⟩, c7⟩ := cnd
        obtain ⟨⟨q1, q2⟩, q3⟩ := cnd2
        obtain ⟨r1, r2⟩ := cnd3
        obtain ⟨xo, lo, dxo⟩ := ck_lkA hL ho
        obtain ⟨po, rfl, hpo, mo, hgo, hfo⟩ := ck_D39 dxo (Or.inl c1)
        have hfo := hfo c1
        rw [c2] at hgo hfo
        have hb := ck_btw_ok (hn []) q1
        have hdv := ck_dv_ok hS9 (ρ ++ [])
        rw [ck_sub_ev, ck_ev_c] at hdv
        obtain ⟨S', hS'⟩ : ∃ S' : Nat, ck_ev (ρ ++ []) S = (S' : Int) := ⟨(ck_ev (ρ ++ []) S).toNat, by omega⟩
        have hkk : ck_ev (ρ ++ []) k.2.2.2.1 = ((1100 + 260 * S' : Nat) : Int) := by omega
        have hk3 : S' ≤ 9 := by omega
        obtain ⟨zi, li, hzi⟩ := ck_lix (l := 9) (K := ((0 : Nat) : Int)) (ck_LX_of hL) (by decide) hi c5 (by rw [ck_aeq_ok c6, ck_ev_c]; rfl)
        obtain ⟨vs, y14, hvs, v2, dw⟩ := ck_f0_ok hm hw hpo
        obtain ⟨pD, mD, v1, hgD⟩ := ck_rf t hgo hfo ck_fs12_1 hvs
        obtain ⟨pS, rfl, hpS, mS, hgS, -⟩ := ck_D39 dw (Or.inl q2)
        rw [q3] at hgS
        obtain ⟨g, hS, rS, bS⟩ := ck_ir t hgS ck_ak82
        obtain ⟨f, hD, rD, bD⟩ := ck_ir t hgD ck_ak77
        have n1 : pD ≠ po := ck_ne_arr hD hvs
        have n2 : pD ≠ pS := ck_ne_kind hgD hgS (by decide)
        -- the new row is good
        have good : ∀ l : Nat, l < 16 → (l : Int) < (g 3).toInt → ck_pair (g (4 + 16 * l)) (g (5 + 16 * l)) := by
          obtain ⟨v4, hv4⟩ := ck_f3_mem hm4
          obtain ⟨p4, m4, tc4, n4, f4, a1, a2, a3, a4⟩ := hm _ hv4 []
          have a1 : (p4 : Int) = (ρ ++ []).getD w.2.1 0 := a1
          have := hpS []
          have hp4 : p4 = pS := by omega
          subst hp4
          have hf4 : f4 = g := by
            have := a3.symm.trans hS
            cases this
            rfl
          subst hf4
          obtain ⟨tc5, len5, y5, d1, d2, d3, -⟩ := ck_f1_ok (i := 3) hm hc hpS (fun σ => by rw [ck_ev_c]; rfl)
          cases d1.symm.trans hS
          obtain ⟨z3, d4, d5⟩ := ck_int d3 r1
          have d4 : f4 3 = z3 := by injection d4
          have r2 := ck_le_ok (hn []) r2
          rw [ck_sub_ev] at r2
          have d5 := d5 []
          intro l hl1 hl2
          refine a4 l hl1 ?_
          rw [d4] at hl2
          show (l : Int) < ck_ev (ρ ++ []) m
          omega
        refine ⟨h.set pD (.inl (0, 8090, .inl (va_cpy g f 0 (1100 + 260 * S') 260))), fun d Q hQ => ?_, ⟨hl, ck_HTd t hgD ck_ak77 ⟨fun _ s l hs hl2 hlt => ?_, fun z => absurd z (by decide)⟩ fun j hj => ?_, hn, trivial, fun q hq σ => ?_⟩, ck_Fr.arr hgD hD c7, by rw [List.length_set], cz_sz_set hD rfl⟩
        · have L := ck_loop (E := E) (Γ := Γ) (ρ := ρ) (d := d) (mi := 230) (pc := 185) (l := 4) (N := 260) (s := 0) (t := 1100 + 260 * S') (nD := 8090) (pD := pD) (lv := lv) (h := h) (f := f) (g := g) (Q := Q) (fun j v hj ej => by
            have : j = 3 := by omega
            subst this
            cases hk.symm.trans ej
            exact c3) hD (by decide) (fun i clv x f' hi2 hLX hx hxi w => by
            obtain ⟨z, b1, b2⟩ := ck_lix hLX (by decide) hk c3 hkk
            exact ck_t230 hE (ck_lox hLX (by decide) ho c1 hpo) b1 hx b2 (by omega) hxi hi2 (ck_set_ne n1 hvs) v1 v2 (ck_set_eq hD) (ck_set_ne n2 hS) w) (fun clv x hLX hx hxN => ck_e230 hx hxN (hQ clv (ck_LX_end hLX hx hxN))) 260 0 clv zi (by decide) (ck_LX_of hL) li hzi
          rw [ck_cpy0, ck_set_self hD] at L
          exact L
        · by_cases hbk : s = S'
          · subst hbk
            rw [ck_cpi (by omega) (by omega), show 0 + (0 + 1103 + 260 * s - (1100 + 260 * s)) = 3 by omega] at hlt
            have := good l hl2 hlt
            rw [ck_cpi (by omega) (by omega), ck_cpi (by omega) (by omega), show 0 + (0 + 1104 + 260 * s + 16 * l - (1100 + 260 * s)) = 4 + 16 * l by omega, show 0 + (0 + 1105 + 260 * s + 16 * l - (1100 + 260 * s)) = 5 + 16 * l by omega]
            exact this
          · rw [ck_cpo (by omega)] at hlt
            have := rD.1 rfl s l hs hl2 hlt
            rw [ck_cpo (by omega), ck_cpo (by omega)]
            exact this
        · refine ck_tbi (by decide) ?_
          by_cases hin : 1100 + 260 * S' ≤ j ∧ j < 1100 + 260 * S' + 260
          · rw [ck_cpi hin.1 hin.2]
            have b1 := ck_tb (by decide) (bS (0 + (j - (1100 + 260 * S'))) (by omega))
            have e9 : ck_T 3 (0 + (j - (1100 + 260 * S'))) = ck_T 1 j := by
              rw [ck_Tw1 (by omega) (by omega)]
              show ck_Tf (0 + (j - (1100 + 260 * S'))) = _
              rw [show (j - 1100) % 260 = 0 + (j - (1100 + 260 * S')) by omega]
            rw [e9] at b1
            exact b1
          · rw [ck_cpo (by omega)]
            exact ck_tb (by decide) (bD j hj)
        · obtain ⟨g1, g2⟩ := List.mem_filter.mp hq
          rcases Bool.or_eq_true_iff.mp g2 with g2 | g2
          · exact ck_kc_ok (hm q g1 σ) hgD hD g2
          · simp only [Bool.and_eq_true, beq_iff_eq] at g2
            obtain ⟨h1, h2⟩ := g2
            have h2 := ck_le_ok (hn σ) h2
            rw [ck_sub_ev, ck_add_ev, ck_ev_c] at h2
            have M := hm q g1 σ
            unfold ck_M at M ⊢
            rw [h1] at M ⊢
            obtain ⟨p6, m6, tc6, n6, y6, i6, a1, a2, a3, a4, a5, a6⟩ := M
            by_cases hp6 : p6 = pD
            · subst hp6
              cases a3.symm.trans hD
              have hkσ : ck_ev (ρ ++ σ) k.2.2.2.1 = ((1100 + 260 * S' : Nat) : Int) := by
                obtain ⟨zz, b1, b2⟩ := ck_lkA hL hk
                obtain ⟨z, rfl, hz⟩ := ck_int b2 c3
                rw [← hz σ, hz [], hkk]
              refine ⟨p6, m6, 0, 8090, _, i6, a1, a2, ck_set_eq hD, a4, a5, ?_⟩
              have : ck_el (.inl (va_cpy g f 0 (1100 + 260 * S') 260)) i6 = ck_el (.inl f) i6 := by
                show Value.int _ = Value.int _
                rw [ck_cpo (by omega)]
              rw [this]
              exact a6
            · exact ⟨p6, m6, tc6, n6, y6, i6, a1, a2, ck_set_ne (fun z => hp6 z.symm) a3, a4, a5, a6⟩
      · cases e
end CKM
