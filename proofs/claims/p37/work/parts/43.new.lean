/-! THE CHECKER IS SOUND: lengths, new cells, rows that are copied -/
/-- an array's type and what it holds go together; it isn't long -/
def ck_akok (k : Nat × Nat × Nat × ck_S) : Bool := decide (k.2.1 ≤ 100000) && (match k.1 with
  | 0 => decide (0 < k.2.2.1) || k.2.2.2.1 == 0 || k.2.2.2.1 == 4
  | 1 => k.2.2.1 == 0 && k.2.2.2.1 == 0
  | 2 => k.2.2.1 == 0 && k.2.2.2.1 == 1
  | 3 => k.2.2.1 == 0 && k.2.2.2.1 == 0
  | 4 => k.2.2.1 == 0 && k.2.2.2.1 == 0
  | 5 => k.2.2.1 == 0 && k.2.2.2.1 == 3
  | 6 => k.2.2.1 == 0 && k.2.2.2.1 == 3
  | _ => false)
theorem ck_ak_ok {K : Nat} {k : Nat × Nat × Nat × ck_S} (h : ck_ak K = some k) : ck_akok k = true := by
  have hall : (List.range ck_kt.length).all (fun j => match ck_ak j with | some k => ck_akok k | none => true) = true := by decide +kernel
  have hK : K < ck_kt.length := by
    unfold ck_ak at h
    split at h
    · next r hr => exact (List.getElem?_eq_some_iff.mp hr).1
    · cases h
  have := List.all_eq_true.mp hall K (List.mem_range.mpr hK)
  rw [h] at this
  exact this
theorem ck_ofNat {m : Nat} (h : m ≤ 100000) : (Int32.ofNat m).toInt = (m : Int) := Int32.toInt_ofNat_of_lt (by omega)
section CKN
variable {E : cz_E} {Γ : ck_G} {B : Int} {ρ : List Int} {n n' : ck_N} {st st' : List ck_V} {es es' : List ck_Q} {cst : List Value} {h : cz_H} {W : List (Nat × Nat)}
theorem ck_len_ok {pc xa : Nat} {xb : Int} (hE : cz_Eok E) (J : ck_J E Γ B ρ n st es cst h) (e : ck_len n st es = some st') : ∃ cst', cz_s2 E (pc, .arraylength, 1, xa, xb) cst h = some (pc + 1, cst', h) ∧ ck_J E Γ B ρ n st' es cst' h := by
  obtain ⟨hl, t, hn, hs, hm⟩ := J
  unfold ck_len at e
  obtain ⟨a0, r, rfl, e1⟩ := ck_qv_some e
  clear e
  obtain ⟨x0, cr, rfl, hx0, hr⟩ := ck_Ls.cons hs
  simp only at e1
  have hv := ck_nz_ok hn hm hx0
  generalize ck_nz n es a0 = a at e1 hv
  split at e1
  · next t7 =>
    cases e1
    have h7 : ∀ σ, x0 = .ref E.2.1.1 ∧ ((E.2.1.2.1 : Nat) : Int) = (ρ ++ σ).getD a.2.1 0 := by
      intro σ
      have := hv σ
      unfold ck_D at this
      rw [t7] at this
      exact this
    refine ⟨.int (Int32.ofNat E.2.1.2.1) :: cr, ?_, hl, t, hn, ⟨fun σ => ⟨_, rfl, ?_⟩, hr⟩, hm⟩
    · rw [(h7 []).1]
      show cz_n 1 1 (if E.2.1.1 = E.2.1.1 ∧ E.2.1.1 < E.1 then some (pc + 1, .int (Int32.ofNat E.2.1.2.1) :: cr, h) else _) = _
      rw [if_pos ⟨rfl, hE.1⟩]
      rfl
    · show (Int32.ofNat E.2.1.2.1).toInt = ck_ev (ρ ++ σ) (ck_v a.2.1)
      rw [ck_ev_v, ← (h7 σ).2]
      have := hE.2.1
      exact ck_ofNat (by omega)
  · next t10 =>
    cases e1
    have one : ∀ σ, ∃ k : Nat, k < 14 ∧ x0 = .ref (E.2.2.2.1 k) ∧ (k : Int) = (ρ ++ σ).getD a.2.1 0 ∧ ((cz_sl.getD k 0 : Nat) : Int) = (ρ ++ σ).getD a.2.2.1 0 := by
      intro σ
      have := hv σ
      unfold ck_D at this
      rw [t10] at this
      exact this
    obtain ⟨k, k1, k2, -⟩ := one []
    have all : ∀ σ, ((cz_sl.getD k 0 : Nat) : Int) = (ρ ++ σ).getD a.2.2.1 0 := by
      intro σ
      obtain ⟨k', d1, d2, d3, d4⟩ := one σ
      have : k = k' := hE.2.2.2.1 k k' k1 d1 (by have := k2.symm.trans d2; injection this)
      subst this
      exact d4
    have hvs : cz_vs E (E.2.2.2.1 k) = some k := cz_fd_of k1 hE.2.2.2.1
    subst k2
    refine ⟨.int (Int32.ofNat (cz_sl.getD k 0)) :: cr, ?_, hl, t, hn, ⟨fun σ => ⟨_, rfl, ?_⟩, hr⟩, hm⟩
    · show cz_n 1 1 (if E.2.2.2.1 k = E.2.1.1 ∧ E.2.2.2.1 k < E.1 then _ else match cz_vs E (E.2.2.2.1 k) with
        | some k => some (pc + 1, .int (Int32.ofNat (cz_sl.getD k 0)) :: cr, h)
        | none => _) = _
      rw [if_neg (fun q => (hE.2.2.2.2.1 k k1).2.2 q.1), hvs]
      rfl
    · show (Int32.ofNat (cz_sl.getD k 0)).toInt = ck_ev (ρ ++ σ) (ck_v a.2.2.1)
      rw [ck_ev_v, ← all σ]
      have := cz_n9 k k1
      exact ck_ofNat (by omega)
  · next t3 =>
    obtain ⟨k, hk, e2⟩ := cz_so_some e1
    cases e2
    obtain ⟨p, rfl, hp, m, hg, -⟩ := ck_D39 hv (Or.inl t3)
    obtain ⟨y, ha, hsh, -, -⟩ := ck_arr t hg hk
    obtain ⟨o1, o2⟩ := ck_own hE p
    have hok := ck_ak_ok hk
    unfold ck_akok at hok
    obtain ⟨h1, -⟩ := Bool.and_eq_true_iff.mp hok
    have h1 : k.2.1 ≤ 100000 := of_decide_eq_true h1
    have h7 : decide (k.1 < 7) = true := by
      apply decide_eq_true
      rcases y with f | g | g | g | g
      · have hsh : k.1 = 0 ∨ k.1 = 1 ∨ k.1 = 3 ∨ k.1 = 4 := hsh
        omega
      · have hsh : k.1 = 2 := hsh
        omega
      · exact hsh.elim
      · exact hsh.elim
      · have hsh : k.1 = 5 ∨ k.1 = 6 := hsh
        omega
    refine ⟨.int (Int32.ofNat k.2.1) :: cr, ?_, hl, t, hn, ⟨fun σ => ⟨_, rfl, ?_⟩, hr⟩, hm⟩
    · show cz_n 1 1 (if E.1 + p = E.2.1.1 ∧ E.1 + p < E.1 then _ else match cz_vs E (E.1 + p) with
        | some k => _
        | none => cz_an (cz_at E h (E.1 + p)) fun tc x => cz_if (decide (tc < 7)) (some (pc + 1, .int (Int32.ofNat x.1) :: cr, h))) = _
      rw [if_neg o1, o2]
      show cz_n 1 1 (cz_an (cz_at E h (E.1 + p)) fun tc x => cz_if (decide (tc < 7)) (some (pc + 1, .int (Int32.ofNat x.1) :: cr, h))) = _
      rw [cz_at_add, ha]
      show cz_n 1 1 (cz_if (decide (k.1 < 7)) (some (pc + 1, .int (Int32.ofNat k.2.1) :: cr, h))) = _
      rw [h7]
      rfl
    · show (Int32.ofNat k.2.1).toInt = ck_ev (ρ ++ σ) (ck_c (k.2.1 : Int))
      rw [ck_ev_c]
      exact ck_ofNat h1
  · cases e1
/-- a new object's fields -/
def ck_dmok (ci : Nat) : Bool := match ck_kt[ci]? with
  | some (.inl o) => (List.range o.2.length).all fun k => !((ck_dm ci).testBit k) || (match o.2[k]? with
    | some s => ck_z0 s && ck_fto (cz_fty ci k) s
    | none => true)
  | _ => true
theorem ck_dmok_all : ∀ ci, ci < 13 → ck_dmok ci = true := by decide +kernel
theorem ck_z0_ok {s : ck_S} {ty : FieldType} (hB : 0 ≤ B) (h1 : ck_z0 s = true) (h2 : ck_fto ty s = true) : ck_vs E B Γ s (defaultValue ty) := by
  unfold ck_fto at h2
  unfold ck_z0 at h1
  unfold ck_vs
  split at h2
  · have t : s.1 = 0 := by simpa using h2
    rw [t] at h1 ⊢
    simp only [Bool.and_eq_true, decide_eq_true_eq] at h1
    exact ⟨0, rfl, h1.1, h1.2⟩
  · simp only [Bool.and_eq_true, beq_iff_eq] at h2
    have t : s.1 = 0 := h2.1.1
    rw [t] at h1 ⊢
    simp only [Bool.and_eq_true, decide_eq_true_eq] at h1
    exact ⟨0, rfl, h1.1, h1.2⟩
  · have t : s.1 = 1 := by simpa using h2
    rw [t]
    exact ⟨0, rfl⟩
  · simp only [Bool.or_eq_true, beq_iff_eq] at h2
    rcases h2 with t | t
    · rw [t] at h1
      cases h1
    · rw [t]
      exact Or.inl rfl
  · simp only [Bool.or_eq_true, beq_iff_eq] at h2
    rcases h2 with t | t
    · rw [t] at h1
      cases h1
    · rw [t]
      exact Or.inl rfl
  · cases h2
theorem ck_nwo_ok {i pc ci c : Nat} (hB : 0 ≤ B) (hH : (h.length : Int) + 1 ≤ ck_HM) (hci : ci < 13) (J : ck_J E Γ B ρ n st es cst h) (e : ck_nwo ci n st es = some (n', st', es', c)) : ∃ ρ2 cst' h' Γ', cz_s2 E (pc, .new i, 3, ci, 0) cst h = some (pc + 3, cst', h') ∧ ck_ext Γ Γ' ∧ ck_J E Γ' B (ρ ++ ρ2) n' st' es' cst' h' ∧ ck_Fr W Γ h h' ∧ h'.length = h.length + 1 ∧ cz_sz h' = cz_sz h + c := by
  obtain ⟨hl, t, hn, hs, hm⟩ := J
  unfold ck_nwo at e
  split at e
  · next o ho =>
    obtain ⟨hc, e1⟩ := cz_if_some e
    simp only [Bool.and_eq_true, beq_iff_eq] at hc
    obtain ⟨hc1, hc2⟩ := hc
    cases e1
    have hx : ck_ext Γ (Γ ++ [(ci, ck_dm ci)]) := fun j k m hj => ⟨m, by rw [List.getElem?_append_left (List.getElem?_eq_some_iff.mp hj).1]; exact hj, fun _ z => z⟩
    have hcell : ck_cell E B (Γ ++ [(ci, ck_dm ci)]) (ci, ck_dm ci) (.inr (ci, cz_df ci)) := by
      unfold ck_cell
      simp only [ho]
      refine ⟨cz_df ci, by rw [hc1], hc2.symm, fun k s v a1 a2 a3 => ?_⟩
      have hk := (List.getElem?_eq_some_iff.mp a1).1
      have hd := ck_dmok_all ci hci
      unfold ck_dmok at hd
      simp only [ho] at hd
      have := List.all_eq_true.mp hd k (List.mem_range.mpr hk)
      rw [a3, a1] at this
      simp only [Bool.not_true, Bool.false_or, Bool.and_eq_true] at this
      have hdv : v = defaultValue (cz_fty ci k) := by
        unfold cz_df at a2
        rw [List.getElem?_map] at a2
        cases hr : (List.range (cz_nf.getD ci 0))[k]? with
        | none => rw [hr] at a2; cases a2
        | some j =>
          rw [hr] at a2
          have hj : j = k := by
            have := (List.getElem?_eq_some_iff.mp hr).2
            rw [List.getElem_range] at this
            exact this.symm
          subst hj
          cases a2
          rfl
      rw [hdv]
      exact ck_z0_ok hB this.1 this.2
    obtain ⟨t', -⟩ := ck_HT.push t hcell
    have hgp : (Γ ++ [(ci, ck_dm ci)])[h.length]? = some (ci, ck_dm ci) := by
      rw [← t.1, List.getElem?_append_right (Nat.le_refl _), Nat.sub_self]
      rfl
    have hhp : (h ++ [(Sum.inr (ci, cz_df ci) : cz_C)])[h.length]? = some (.inr (ci, cz_df ci)) := by
      rw [List.getElem?_append_right (Nat.le_refl _), Nat.sub_self]
      rfl
    obtain ⟨g1, g2⟩ := ck_newroot (b := (0, ck_HM)) (w := (h.length : Int)) hl hn ⟨by omega, by show (h.length : Int) ≤ ck_HM; omega⟩
    refine ⟨[(h.length : Int)], .ref (E.1 + h.length) :: cst, h ++ [.inr (ci, cz_df ci)], Γ ++ [(ci, ck_dm ci)], ?_, hx, ⟨g1, t', fun σ => (g2 σ).1, ⟨fun σ => ?_, ck_Ls.imp (fun _ _ z => ck_Ds_app _ (ck_D_ext z hx)) hs⟩, ?_⟩, ?_, by simp, by rw [cz_sz_push]; show _ = _ + o.2.length; rw [hc2]; rfl⟩
    · show cz_n 3 3 (cz_if ((0 : Int) == 0 && decide (ci < 13)) (some (pc + 3, .ref (E.1 + h.length) :: cst, h ++ [.inr (ci, cz_df ci)]))) = _
      rw [decide_eq_true hci]
      rfl
    · refine ⟨E.1 + h.length, rfl, ?_, Nat.le_add_right _ _, ck_dm ci, ?_⟩
      · show ((E.1 + h.length : Nat) : Int) = (E.1 : Int) + List.getD _ n.1.length 0
        rw [(g2 σ).2]
        push_cast
        rfl
      · rw [Nat.add_sub_cancel_left]
        exact hgp
    · intro q hq σ
      rcases List.mem_append.mp hq with hq1 | hq1
      · clear hq
        split at hq1
        · next h7 =>
          subst h7
          rw [List.mem_singleton.mp hq1]
          exact ⟨h.length, cz_df 7, 0, 0, (g2 σ).2.symm, hhp, by decide +kernel, by decide +kernel, Or.inr (by decide)⟩
        · cases hq1
      · rcases List.mem_cons.mp hq1 with rfl | hq2
        · exact ⟨h.length, ck_dm ci, (g2 σ).2.symm, hgp, fun _ z => z⟩
        · exact ck_push_ok (ck_Ms_app _ hm q hq2 σ) hx
    · intro p' k' m' hg'
      have hp' : p' < h.length := by rw [← t.1]; exact (List.getElem?_eq_some_iff.mp hg').1
      exact ⟨fun x e1 _ => by rw [List.getElem?_append_left hp']; exact e1, fun c0 vs0 e1 => ⟨vs0, by rw [List.getElem?_append_left hp']; exact e1, fun _ _ => rfl⟩⟩
  · cases e
end CKN
