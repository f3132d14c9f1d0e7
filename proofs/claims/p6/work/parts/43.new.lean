/-! THE CHECKER IS SOUND: lengths, new cells, rows that are copied -/
/-- an array's type and what it holds go together; it isn't long -/
def ck_akok (k : Nat × Nat × Nat × ck_S) : Bool := decide (k.2.1 ≤ 100000) && (match k.1 with
  | 0 => decide (0 < k.2.2.1) || k.2.2.2.1 == 0 || k.2.2.2.1 == 4
  | 1 => k.2.2.1 == 0 && k.2.2.2.1 == 0
  | 2 => k.2.2.1 == 0 && k.2.2.2.1 == 1
  | 3 => k.2.2.1 == 0 && k.2.2.2.1 == 0
  | 4 => k.2.2.1 == 0 && k.2.2.2.1 == 0
  | 5 => k.2.2.1 == 0 && k.2.2.2.1 == 3
  | 6 => k.2.2.1 == 0 && k.2.2.2.1 == 3
  | _ => false)
theorem ck_ak_ok {K : Nat} {k : Nat × Nat × Nat × ck_S} (h : ck_ak K = some k) : ck_akok k = true := by
  have hall : (List.range ck_kt.length).all (fun j => match ck_ak j with | some k => ck_akok k | none => true) = true := by decide +kernel
  have hK : K < ck_kt.length := by
    unfold ck_ak at h
    split at h
    · next r hr => exact (List.getElem?_eq_some_iff.mp hr).1
    · cases h
  have := List.all_eq_true.mp hall K (List.mem_range.mpr hK)
  rw [h] at this
  exact this
theorem ck_ofNat {m : Nat} (h : m ≤ 100000) : (Int32.ofNat m).toInt = (m : Int) := Int32.toInt_ofNat_of_lt (by omega)
section CKN
variable {E : cz_E} {Γ : ck_G} {B : Int} {ρ : List Int} {n n' : ck_N} {st st' : List ck_V} {es es' : List ck_Q} {cst : List Value} {h : cz_H} {W : List (Nat × Nat)}
theorem ck_len_ok {pc xa : Nat} {xb : Int} (hE : cz_Eok E) (J : ck_J E Γ B ρ n st es cst h) (e : ck_len n st es = some st') : ∃ cst', cz_s2 E (pc, .arraylength, 1, xa, xb) cst h = some (pc + 1, cst', h) ∧ ck_J E Γ B ρ n st' es cst' h := by
  obtain ⟨hl, t, hn, hs, hm⟩ := J
  unfold ck_len at e
  obtain ⟨a0, r, rfl, e1⟩ := ck_qv_some e
  clear e
  obtain ⟨x0, cr, rfl, hx0, hr⟩ := ck_Ls.cons hs
  simp only at e1
  have hv := ck_nz_ok hn hm hx0
  generalize ck_nz n es a0 = a at e1 hv
  split at e1
  · next t7 =>
    cases e1
    have h7 : ∀ σ, x0 = .ref E.2.1.1 ∧ ((E.2.1.2.1 : Nat) : Int) = (ρ ++ σ).getD a.2.1 0 := by
      intro σ
      have := hv σ
      unfold ck_D at this
      rw [t7] at this
      exact this
    refine ⟨.int (Int32.ofNat E.2.1.2.1) :: cr, ?_, hl, t, hn, ⟨fun σ => ⟨_, rfl, ?_⟩, hr⟩, hm⟩
    · rw [(h7 []).1]
      show cz_n 1 1 (if E.2.1.1 = E.2.1.1 ∧ E.2.1.1 < E.1 then some (pc + 1, .int (Int32.ofNat E.2.1.2.1) :: cr, h) else _) = _
      rw [if_pos ⟨rfl, hE.1⟩]
      rfl
    · show (Int32.ofNat E.2.1.2.1).toInt = ck_ev (ρ ++ σ) (ck_v a.2.1)
      rw [ck_ev_v, ← (h7 σ).2]
      have := hE.2.1
      exact ck_ofNat (by omega)
  · next t10 =>
    cases e1
    have one : ∀ σ, ∃ k : Nat, k < 14 ∧ x0 = .ref (E.2.2.2.1 k) ∧ (k : Int) = (ρ ++ σ).getD a.2.1 0 ∧ ((cz_sl.getD k 0 : Nat) : Int) = (ρ ++ σ).getD a.2.2.1 0 := by
      intro σ
      have := hv σ
      unfold ck_D at this
      rw [t10] at this
      exact this
    obtain ⟨k, k1, k2, -⟩ := one []
    have all : ∀ σ, ((cz_sl.getD k 0 : Nat) : Int) = (ρ ++ σ).getD a.2.2.1 0 := by
      intro σ
      obtain ⟨k', d1, d2, d3, d4⟩ := one σ
      have : k = k' := hE.2.2.2.1 k k' k1 d1 (by have := k2.symm.trans d2; injection this)
      subst this
      exact d4
    have hvs : cz_vs E (E.2.2.2.1 k) = some k := cz_fd_of k1 hE.2.2.2.1
    subst k2
    refine ⟨.int (Int32.ofNat (cz_sl.getD k 0)) :: cr, ?_, hl, t, hn, ⟨fun σ => ⟨_, rfl, ?_⟩, hr⟩, hm⟩
    · show cz_n 1 1 (if E.2.2.2.1 k = E.2.1.1 ∧ E.2.2.2.1 k < E.1 then _ else match cz_vs E (E.2.2.2.1 k) with
        | some k => some (pc + 1, .int (Int32.ofNat (cz_sl.getD k 0)) :: cr, h)
        | none => _) = _
      rw [if_neg (fun q => (hE.2.2.2.2.1 k k1).2.2 q.1), hvs]
      rfl
    · show (Int32.ofNat (cz_sl.getD k 0)).toInt = ck_ev (ρ ++ σ) (ck_v a.2.2.1)
      rw [ck_ev_v, ← all σ]
      have := cz_n9 k k1
      exact ck_ofNat (by omega)
  · next t3 =>
    obtain ⟨k, hk, e2⟩ := cz_so_some e1
    cases e2
    obtain ⟨p, rfl, hp, m, hg, -⟩ := ck_D39 hv (Or.inl t3)
    obtain ⟨y, ha, hsh, -, -⟩ := ck_arr t hg hk
    obtain ⟨o1, o2⟩ := ck_own hE p
    have hok := ck_ak_ok hk
    unfold ck_akok at hok
    obtain ⟨h1, -⟩ := Bool.and_eq_true_iff.mp hok
    have h1 : k.2.1 ≤ 100000 := of_decide_eq_true h1
    have h7 : decide (k.1 < 7) = true := by
      apply decide_eq_true
      rcases y with f | g | g | g | g
      · have hsh : k.1 = 0 ∨ k.1 = 1 ∨ k.1 = 3 ∨ k.1 = 4 := hsh
        omega
      · have hsh : k.1 = 2 := hsh
        omega
      · exact hsh.elim
      · exact hsh.elim
      · have hsh : k.1 = 5 ∨ k.1 = 6 := hsh
        omega
    refine ⟨.int (Int32.ofNat k.2.1) :: cr, ?_, hl, t, hn, ⟨fun σ => ⟨_, rfl, ?_⟩, hr⟩, hm⟩
    · show cz_n 1 1 (if E.1 + p = E.2.1.1 ∧ E.1 + p < E.1 then _ else match cz_vs E (E.1 + p) with
        | some k => _
        | none => cz_an (cz_at E h (E.1 + p)) fun tc x => cz_if (decide (tc < 7)) (some (pc + 1, .int (Int32.ofNat x.1) :: cr, h))) = _
      rw [if_neg o1, o2]
      show cz_n 1 1 (cz_an (cz_at E h (E.1 + p)) fun tc x => cz_if (decide (tc < 7)) (some (pc + 1, .int (Int32.ofNat x.1) :: cr, h))) = _
      rw [cz_at_add, ha]
      show cz_n 1 1 (cz_if (decide (k.1 < 7)) (some (pc + 1, .int (Int32.ofNat k.2.1) :: cr, h))) = _
      rw [h7]
      rfl
    · show (Int32.ofNat k.2.1).toInt = ck_ev (ρ ++ σ) (ck_c (k.2.1 : Int))
      rw [ck_ev_c]
      exact ck_ofNat h1
  · cases e1
theorem ck_n18_ok {c : cz_C} {Γ' : ck_G} {m ci : Nat} (hx : ck_ext Γ Γ') (hg : ∀ (p : Nat) (x : cz_C), h[p]? = some x → (h ++ [c])[p]? = some x) (hroot : ∀ σ, (ρ ++ σ).getD m 0 = (h.length : Int)) : ∀ {l : List ck_Q} {n : ck_N}, (∀ σ, ck_nok n (ρ ++ σ)) → (∀ q ∈ l, ∀ σ, ck_M E Γ' (h ++ [c]) (ρ ++ σ) q) → (∀ q ∈ l, q.1 = 18 → ∀ σ, ck_M E Γ h (ρ ++ σ) q) → (∀ σ, ck_nok (ck_n18 m ci n l).1 (ρ ++ σ)) ∧ (ck_n18 m ci n l).1.1 = n.1 ∧ ck_Ms E Γ' (h ++ [c]) ρ (ck_n18 m ci n l).2
  | [], n, hn, _, _ => ⟨hn, rfl, fun q hq => by cases hq⟩
  | q :: l, n, hn, h1, h2 => by
    have rest : ∀ {n1 : ck_N} {q1 : ck_Q}, n1.1 = n.1 → (∀ σ, ck_nok n1 (ρ ++ σ)) → (∀ σ, ck_M E Γ' (h ++ [c]) (ρ ++ σ) q1) → (∀ σ, ck_nok (ck_n18 m ci n1 l).1 (ρ ++ σ)) ∧ (ck_n18 m ci n1 l).1.1 = n.1 ∧ ck_Ms E Γ' (h ++ [c]) ρ (q1 :: (ck_n18 m ci n1 l).2) := by
      intro n1 q1 hn1 hn2 hq1
      obtain ⟨r1, r2, r3⟩ := ck_n18_ok (m := m) (ci := ci) (l := l) hx hg hroot hn2 (fun q' hq' => h1 q' (List.mem_cons_of_mem _ hq')) (fun q' hq' => h2 q' (List.mem_cons_of_mem _ hq'))
      refine ⟨r1, r2.trans hn1, fun q' hq' σ => ?_⟩
      rcases List.mem_cons.mp hq' with rfl | hq'
      · exact hq1 σ
      · exact r3 q' hq' σ
    have hq0 := h1 q List.mem_cons_self
    unfold ck_n18
    split
    · next t =>
      have hold := h2 q List.mem_cons_self t
      split
      · next hb0 =>
        split
        · next hci =>
          refine rest rfl (fun σ => ck_fact_ok (hn σ) ?_) (fun σ => ?_)
          · have M := hold σ
            unfold ck_M at M
            rw [t] at M
            obtain ⟨p1, m1, tc, nn, g, p2, m2, tc2, n2, f2, t0, T, I, a1, a2, a3, a4, a5, a6, a7, X⟩ := M
            have := (X.2.1 0 ck_pfs0).2.1
            rw [(ck_X18_T0 X).1] at this
            rw [ck_sub_ev, ck_add_ev, ck_ev_c, ck_ev_v, hroot]
            omega
          · have M := hold σ
            unfold ck_M at M
            rw [t] at M
            obtain ⟨p1, m1, tc, nn, g, p2, m2, tc2, n2, f2, t0, T, I, a1, a2, a3, a4, a5, a6, a7, x1, x2, x3⟩ := M
            obtain ⟨m1', g1, -⟩ := hx _ _ _ a2
            obtain ⟨m2', g2, -⟩ := hx _ _ _ a5
            have hb : ck_bo (ρ ++ σ) (ck_v m) = some (h.length : Int) := by
              unfold ck_bo
              rw [if_neg (by intro z; have z := ck_aeq_ok z; cases z), ck_ev_v, hroot]
            have hl : (h ++ [c]).length = h.length + 1 := by rw [List.length_append]; rfl
            refine ⟨p1, m1', tc, nn, g, p2, m2', tc2, n2, f2, t0, T, I, a1, g1, hg _ _ a3, a4, g2, hg _ _ a6, a7, ?_⟩
            show ck_X18 E (h ++ [c]) t0 (ck_bo (ρ ++ σ) (ck_v m)) q.2.2.2.1 (ck_ev (ρ ++ σ) q.2.2.2.2.1) g f2 T I
            rw [hb]
            refine ⟨fun b e => ?_, fun f hf => ?_, fun i hi a ha => ?_⟩
            · cases e
              rw [hl]
              push_cast
              omega
            · obtain ⟨e1, e2, e3⟩ := x2 f hf
              exact ⟨ck_po_to e1 fun v _ e => ck_fd_app e, by omega, fun b e => by cases e; omega⟩
            · obtain ⟨y1, y2, y3⟩ := x3 i hi a ha
              refine ⟨y1, fun f hf => ?_, fun hmd L hL => ck_fd_app (y3 hmd L hL)⟩
              obtain ⟨e1, e2, e3, e4⟩ := y2 f hf
              exact ⟨ck_po_to e1 fun v _ e => ck_fd_app e, by omega, fun b e => by cases e; omega, e4⟩
        · exact rest rfl hn hq0
      · next hb0 =>
        refine rest rfl (fun σ => ck_fact_ok (hn σ) ?_) hq0
        have M := hold σ
        unfold ck_M at M
        rw [t] at M
        obtain ⟨p1, m1, tc, nn, g, p2, m2, tc2, n2, f2, t0, T, I, a1, a2, a3, a4, a5, a6, a7, x1, x2, x3⟩ := M
        have := x1 _ (ck_bo_some (by simpa using hb0))
        rw [ck_sub_ev, ck_ev_v, hroot]
        omega
    · exact rest rfl hn hq0
/-- a new object's fields -/
def ck_dmok (ci : Nat) : Bool := match ck_kt[ci]? with
  | some (.inl o) => (List.range o.2.length).all fun k => !((ck_dm ci).testBit k) || (match o.2[k]? with
    | some s => ck_z0 s && ck_fto (cz_fty ci k) s
    | none => true)
  | _ => true
theorem ck_dmok_all : ∀ ci, ci < 13 → ck_dmok ci = true := by decide +kernel
theorem ck_z0_ok {s : ck_S} {ty : FieldType} (hB : 0 ≤ B) (h1 : ck_z0 s = true) (h2 : ck_fto ty s = true) : ck_vs E B Γ s (defaultValue ty) := by
  unfold ck_fto at h2
  unfold ck_z0 at h1
  unfold ck_vs
  split at h2
  · have t : s.1 = 0 := by simpa using h2
    rw [t] at h1 ⊢
    simp only [Bool.and_eq_true, decide_eq_true_eq] at h1
    exact ⟨0, rfl, h1.1, h1.2⟩
  · simp only [Bool.and_eq_true, beq_iff_eq] at h2
    have t : s.1 = 0 := h2.1.1
    rw [t] at h1 ⊢
    simp only [Bool.and_eq_true, decide_eq_true_eq] at h1
    exact ⟨0, rfl, h1.1, h1.2⟩
  · have t : s.1 = 1 := by simpa using h2
    rw [t]
    exact ⟨0, rfl⟩
  · simp only [Bool.or_eq_true, beq_iff_eq] at h2
    rcases h2 with t | t
    · rw [t] at h1
      cases h1
    · rw [t]
      exact Or.inl rfl
  · simp only [Bool.or_eq_true, beq_iff_eq] at h2
    rcases h2 with t | t
    · rw [t] at h1
      cases h1
    · rw [t]
      exact Or.inl rfl
  · cases h2
theorem ck_nwo_ok {i pc ci c : Nat} (hB : 0 ≤ B) (hH : (h.length : Int) + 1 ≤ ck_HM) (hci : ci < 13) (J : ck_J E Γ B ρ n st es cst h) (e : ck_nwo ci n st es = some (n', st', es', c)) : ∃ ρ2 cst' h' Γ', cz_s2 E (pc, .new i, 3, ci, 0) cst h = some (pc + 3, cst', h') ∧ ck_ext Γ Γ' ∧ ck_J E Γ' B (ρ ++ ρ2) n' st' es' cst' h' ∧ ck_Fr W Γ h h' ∧ h'.length = h.length + 1 ∧ cz_sz h' = cz_sz h + c := by
  obtain ⟨hl, t, hn, hs, hm⟩ := J
  unfold ck_nwo at e
  split at e
  · next o ho =>
    obtain ⟨hc, e1⟩ := cz_if_some e
    simp only [Bool.and_eq_true, beq_iff_eq] at hc
    obtain ⟨hc1, hc2⟩ := hc
    try dsimp only at e1
    cases e1
    have hx : ck_ext Γ (Γ ++ [(ci, ck_dm ci)]) := fun j k m hj => ⟨m, by rw [List.getElem?_append_left (List.getElem?_eq_some_iff.mp hj).1]; exact hj, fun _ z => z⟩
    have hcell : ck_cell E B (Γ ++ [(ci, ck_dm ci)]) (ci, ck_dm ci) (.inr (ci, cz_df ci)) := by
      unfold ck_cell
      simp only [ho]
      refine ⟨cz_df ci, by rw [hc1], hc2.symm, fun k s v a1 a2 a3 => ?_⟩
      have hk := (List.getElem?_eq_some_iff.mp a1).1
      have hd := ck_dmok_all ci hci
      unfold ck_dmok at hd
      simp only [ho] at hd
      have := List.all_eq_true.mp hd k (List.mem_range.mpr hk)
      rw [a3, a1] at this
      simp only [Bool.not_true, Bool.false_or, Bool.and_eq_true] at this
      have hdv : v = defaultValue (cz_fty ci k) := by
        unfold cz_df at a2
        rw [List.getElem?_map] at a2
        cases hr : (List.range (cz_nf.getD ci 0))[k]? with
        | none => rw [hr] at a2; cases a2
        | some j =>
          rw [hr] at a2
          have hj : j = k := by
            have := (List.getElem?_eq_some_iff.mp hr).2
            rw [List.getElem_range] at this
            exact this.symm
          subst hj
          cases a2
          rfl
      rw [hdv]
      exact ck_z0_ok hB this.1 this.2
    obtain ⟨t', -⟩ := ck_HT.push t hcell
    have hgp : (Γ ++ [(ci, ck_dm ci)])[h.length]? = some (ci, ck_dm ci) := by
      rw [← t.1, List.getElem?_append_right (Nat.le_refl _), Nat.sub_self]
      rfl
    have hhp : (h ++ [(Sum.inr (ci, cz_df ci) : cz_C)])[h.length]? = some (.inr (ci, cz_df ci)) := by
      rw [List.getElem?_append_right (Nat.le_refl _), Nat.sub_self]
      rfl
    obtain ⟨g1, g2⟩ := ck_newroot (b := (0, ck_HM)) (w := (h.length : Int)) hl hn ⟨by omega, by show (h.length : Int) ≤ ck_HM; omega⟩
    have hMs : ck_Ms E (Γ ++ [(ci, ck_dm ci)]) (h ++ [.inr (ci, cz_df ci)]) (ρ ++ [(h.length : Int)]) (ck_zo n.1.length ci ++ ((if ci = 7 then [(6, n.1.length, 7, 0, ck_c 0, ck_vn)] else []) ++ (11, n.1.length, ci, ck_dm ci, ck_c 0, ck_vn) :: es)) := by
      intro q hq σ
      rcases List.mem_append.mp hq with hq0 | hq
      · unfold ck_zo at hq0
        obtain ⟨L, hL, rfl⟩ := List.mem_map.mp hq0
        obtain ⟨hL1, hL2⟩ := List.mem_filter.mp hL
        have hL2 : L.2.1 = ci := by simpa using hL2
        have hk := (ck_lks_ok L hL1).2.2
        rw [hL2] at hk
        refine ⟨h.length, cz_df ci, .int 0, (g2 σ).2.symm, hhp, hk, 0, rfl, ?_⟩
        show _ = ck_ev _ (ck_c 0)
        rw [ck_ev_c]
        rfl
      rcases List.mem_append.mp hq with hq1 | hq1
      · clear hq
        split at hq1
        · next h7 =>
          subst h7
          rw [List.mem_singleton.mp hq1]
          exact ⟨h.length, cz_df 7, 0, 0, (g2 σ).2.symm, hhp, by decide +kernel, by decide +kernel, Or.inr (by decide)⟩
        · cases hq1
      · rcases List.mem_cons.mp hq1 with rfl | hq2
        · exact ⟨h.length, ck_dm ci, (g2 σ).2.symm, hgp, fun _ z => z⟩
        · exact ck_push_ok (ck_Ms_app _ hm q hq2 σ) hx
    have hM18 : ∀ q ∈ ck_zo n.1.length ci ++ ((if ci = 7 then [(6, n.1.length, 7, 0, ck_c 0, ck_vn)] else []) ++ (11, n.1.length, ci, ck_dm ci, ck_c 0, ck_vn) :: es), q.1 = 18 → ∀ σ, ck_M E Γ h ((ρ ++ [(h.length : Int)]) ++ σ) q := by
      intro q hq t σ
      rcases List.mem_append.mp hq with hq0 | hq
      · unfold ck_zo at hq0
        obtain ⟨L, hL, rfl⟩ := List.mem_map.mp hq0
        cases t
      rcases List.mem_append.mp hq with hq1 | hq1
      · clear hq
        split at hq1
        · rw [List.mem_singleton.mp hq1] at t
          cases t
        · cases hq1
      · rcases List.mem_cons.mp hq1 with rfl | hq2
        · cases t
        · exact ck_Ms_app _ hm q hq2 σ
    have hz : (∀ σ, ck_nok (ck_n18g n.1.length ci (ck_new n (0, ck_HM)) (ck_zo n.1.length ci ++ ((if ci = 7 then [(6, n.1.length, 7, 0, ck_c 0, ck_vn)] else []) ++ (11, n.1.length, ci, ck_dm ci, ck_c 0, ck_vn) :: es))).1 ((ρ ++ [(h.length : Int)]) ++ σ)) ∧ (ck_n18g n.1.length ci (ck_new n (0, ck_HM)) (ck_zo n.1.length ci ++ ((if ci = 7 then [(6, n.1.length, 7, 0, ck_c 0, ck_vn)] else []) ++ (11, n.1.length, ci, ck_dm ci, ck_c 0, ck_vn) :: es))).1.1 = (ck_new n (0, ck_HM)).1 ∧ ck_Ms E (Γ ++ [(ci, ck_dm ci)]) (h ++ [.inr (ci, cz_df ci)]) (ρ ++ [(h.length : Int)]) (ck_n18g n.1.length ci (ck_new n (0, ck_HM)) (ck_zo n.1.length ci ++ ((if ci = 7 then [(6, n.1.length, 7, 0, ck_c 0, ck_vn)] else []) ++ (11, n.1.length, ci, ck_dm ci, ck_c 0, ck_vn) :: es))).2 := by
      unfold ck_n18g
      split
      · exact ck_n18_ok hx (fun p x e => by rw [List.getElem?_append_left (List.getElem?_eq_some_iff.mp e).1]; exact e) (fun σ => (g2 σ).2) (fun σ => (g2 σ).1) hMs hM18
      · exact ⟨fun σ => (g2 σ).1, rfl, hMs⟩
    refine ⟨[(h.length : Int)], .ref (E.1 + h.length) :: cst, h ++ [.inr (ci, cz_df ci)], Γ ++ [(ci, ck_dm ci)], ?_, hx, ⟨by rw [hz.2.1]; exact g1, t', hz.1, ⟨fun σ => ?_, ck_Ls.imp (fun _ _ z => ck_Ds_app _ (ck_D_ext z hx)) hs⟩, hz.2.2⟩, ?_, by simp, by rw [cz_sz_push]; show _ = _ + o.2.length; rw [hc2]; rfl⟩
    · show cz_n 3 3 (cz_if ((0 : Int) == 0 && decide (ci < 13)) (some (pc + 3, .ref (E.1 + h.length) :: cst, h ++ [.inr (ci, cz_df ci)]))) = _
      rw [decide_eq_true hci]
      rfl
    · refine ⟨E.1 + h.length, rfl, ?_, Nat.le_add_right _ _, ck_dm ci, ?_⟩
      · show ((E.1 + h.length : Nat) : Int) = (E.1 : Int) + List.getD _ n.1.length 0
        rw [(g2 σ).2]
        push_cast
        rfl
      · rw [Nat.add_sub_cancel_left]
        exact hgp
    · intro p' k' m' hg'
      have hp' : p' < h.length := by rw [← t.1]; exact (List.getElem?_eq_some_iff.mp hg').1
      exact ⟨fun x e1 _ => by rw [List.getElem?_append_left hp']; exact e1, fun c0 vs0 e1 => ⟨vs0, by rw [List.getElem?_append_left hp']; exact e1, fun _ _ => rfl⟩, fun _ _ _ y0 e1 => ⟨y0, by rw [List.getElem?_append_left hp']; exact e1, fun _ _ => rfl⟩⟩
  · cases e
end CKN
