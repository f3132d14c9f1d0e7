/-! THE CHECKER IS SOUND: fields are written -/
theorem ck_or_l (m k : Nat) : ck_sub1 m (m ||| 2 ^ k) := fun j hj => by rw [Nat.testBit_or, hj, Bool.true_or]
theorem ck_or_bit {m k j : Nat} (h : (m ||| 2 ^ k).testBit j = true) (hj : j ≠ k) : m.testBit j = true := by
  rw [Nat.testBit_or, Nat.testBit_two_pow] at h
  have : decide (k = j) = false := decide_eq_false (fun z => hj z.symm)
  rw [this, Bool.or_false] at h
  exact h
section CKP
variable {E : cz_E} {Γ : ck_G} {B : Int} {ρ : List Int} {n n' : ck_N} {st st' : List ck_V} {es es' : List ck_Q} {cst : List Value} {h : cz_H} {W : List (Nat × Nat)}
theorem ck_cl_ok {ci k r p : Nat} {l : List ck_Q} (hn : ∀ σ, ck_nok n (ρ ++ σ)) (hm : ck_Ms E Γ h ρ l) (hp : ∀ σ, (p : Int) = (ρ ++ σ).getD r 0) : ck_Ms E Γ h ρ (ck_cl n ci k r l) := by
  unfold ck_cl
  split
  · split
    · next x y hx hy =>
      split
      · next hc =>
        obtain ⟨c1, c2, c3⟩ := hc
        intro q hq σ
        rcases List.mem_cons.mp hq with rfl | hq
        · obtain ⟨vs, a, d1, d2, d3⟩ := ck_f0_ok hm hx hp
          obtain ⟨vs', b, e1, e2, e3⟩ := ck_f0_ok hm hy hp
          cases d1.symm.trans e1
          obtain ⟨z, rfl, f1⟩ := ck_D_i (d3 σ) c1
          obtain ⟨z2, rfl, f2⟩ := ck_D_i (e3 σ) c2
          refine ⟨p, vs, z, z2, hp σ, d1, d2, e2, ?_⟩
          rcases c3 with c3 | c3
          · have := ck_btw_ok (hn σ) c3
            left
            omega
          · have := ck_le_ok (hn σ) c3
            rw [ck_sub_ev, ck_ev_c] at this
            right
            omega
        · exact hm q hq σ
      · exact hm
    · exact hm
  · exact hm
theorem ck_pf_ok {i pc xa : Nat} {xb : Int} (J : ck_J E Γ B ρ n st es cst h) (e : ck_pf W (pc, .putfield i, 3, xa, xb) n st es = some (n', st', es')) : ∃ Γ' cst' h', cz_s2 E (pc, .putfield i, 3, xa, xb) cst h = some (pc + 3, cst', h') ∧ ck_ext Γ Γ' ∧ Γ'.length = Γ.length ∧ ck_J E Γ' B ρ n' st' es' cst' h' ∧ ck_Fr W Γ h h' ∧ cz_sz h' = cz_sz h := by
  obtain ⟨hl, t, hn, hs, hm⟩ := J
  unfold ck_pf at e
  obtain ⟨v0, r0, rfl, e3⟩ := ck_qv_some e
  obtain ⟨o0, r, rfl, e4⟩ := ck_qv_some e3
  clear e e3
  obtain ⟨xv, cr0, rfl, hx0, hr0⟩ := ck_Ls.cons hs
  obtain ⟨xo, cr, rfl, ho0, hr⟩ := ck_Ls.cons hr0
  simp only at e4
  obtain ⟨ht, e⟩ := cz_if_some e4
  clear e4
  simp only [Bool.and_eq_true, Bool.or_eq_true, beq_iff_eq] at ht
  obtain ⟨⟨ht1, ht2⟩, hw⟩ := ht
  obtain ⟨s, hs1, e⟩ := cz_so_some e
  obtain ⟨hft, e⟩ := cz_if_some e
  obtain ⟨hfit, hfto⟩ := Bool.and_eq_true_iff.mp hft
  have hv := ck_nz_ok hn hm hx0
  have ho := ck_nz_ok hn hm ho0
  generalize ck_nz n es v0 = v at e hfit hv
  generalize ck_nz n es o0 = o at e ht1 ht2 ho
  cases e
  obtain ⟨p, rfl, hp, m, hg, -⟩ := ck_D39 ho ht1
  rw [ht2] at hg
  generalize hk : xb.toNat = k at hw hs1 hfto
  obtain ⟨vs, y, h1, h2, -, ok, hok, hok2, hlen, htyp⟩ := ck_obj t hg hs1
  have hvs : ck_vs E B Γ s xv := ck_fit_ok (hn []) (hv []) hfit
  obtain ⟨hnar, hfits⟩ := ck_fto_ok hfto hvs
  have hkl : k < vs.length := (List.getElem?_eq_some_iff.mp h2).1
  have hx : ck_ext Γ (Γ.set p (xa, m ||| 2 ^ k)) := by
    intro j k1 m1 hj
    by_cases ej : p = j
    · subst ej
      cases hg.symm.trans hj
      exact ⟨m ||| 2 ^ k, by rw [List.getElem?_set, if_pos rfl, if_pos (List.getElem?_eq_some_iff.mp hg).1], ck_or_l m k⟩
    · exact ⟨m1, by rw [List.getElem?_set, if_neg ej]; exact hj, fun _ z => z⟩
  have hcell : ck_cell E B (Γ.set p (xa, m ||| 2 ^ k)) (xa, m ||| 2 ^ k) (.inr (xa, vs.set k xv)) := by
    unfold ck_cell
    simp only [hok]
    refine ⟨vs.set k xv, by rw [ck_kt_obj hok], by rw [List.length_set]; exact hlen, fun j s' v' a1 a2 a3 => ?_⟩
    rw [List.getElem?_set] at a2
    by_cases hj : k = j
    · subst hj
      rw [if_pos rfl, if_pos hkl] at a2
      cases a2
      cases hok2.symm.trans a1
      exact hvs.mono hx (Int.le_refl _)
    · rw [if_neg hj] at a2
      exact (htyp j s' v' a1 a2 (ck_or_bit a3 (fun z => hj z.symm))).mono hx (Int.le_refl _)
  obtain ⟨t', -⟩ := ck_HT.put t hg (ck_or_l m k) hcell
  have hgp : (Γ.set p (xa, m ||| 2 ^ k))[p]? = some (xa, m ||| 2 ^ k) := by rw [List.getElem?_set, if_pos rfl, if_pos (List.getElem?_eq_some_iff.mp hg).1]
  have he1 : ck_Ms E (Γ.set p (xa, m ||| 2 ^ k)) (h.set p (.inr (xa, vs.set k xv))) ρ ((0, o.2.1, xa, k, ck_c 0, v) :: es.filter (ck_kf xa k)) := by
    intro q hq σ
    rcases List.mem_cons.mp hq with rfl | hq
    · exact ⟨p, vs.set k xv, xv, hp σ, ck_set_eq h1, by rw [List.getElem?_set, if_pos rfl, if_pos hkl], (hv σ).mono hx⟩
    · obtain ⟨q1, q2⟩ := List.mem_filter.mp hq
      exact ck_kf_ok (hm q q1 σ) hx h1 q2
  have he2 : ck_Ms E (Γ.set p (xa, m ||| 2 ^ k)) (h.set p (.inr (xa, vs.set k xv))) ρ (if o.1 == 9 then ck_ms o.2.1 xa k ((0, o.2.1, xa, k, ck_c 0, v) :: es.filter (ck_kf xa k)) else (0, o.2.1, xa, k, ck_c 0, v) :: es.filter (ck_kf xa k)) := by
    split
    · unfold ck_ms
      intro q hq σ
      rcases List.mem_cons.mp hq with rfl | hq
      · refine ⟨p, m ||| 2 ^ k, hp σ, hgp, fun j hj => ?_⟩
        show (m ||| 2 ^ k).testBit j = true
        have hj : (((ck_f11 ((0, o.2.1, xa, k, ck_c 0, v) :: es.filter (ck_kf xa k)) o.2.1 xa).getD 0) ||| 2 ^ k).testBit j = true := hj
        by_cases ej : j = k
        · subst ej
          rw [Nat.testBit_or, Nat.testBit_two_pow]
          simp
        · have hj := ck_or_bit hj ej
          cases ef : ck_f11 ((0, o.2.1, xa, k, ck_c 0, v) :: es.filter (ck_kf xa k)) o.2.1 xa with
          | none =>
            rw [ef] at hj
            simp at hj
          | some m0 =>
            rw [ef] at hj
            obtain ⟨y', hy'⟩ := ck_f11_mem ef
            obtain ⟨p', m2, d1, d2, d3⟩ := he1 _ hy' []
            have d1 : (p' : Int) = (ρ ++ []).getD o.2.1 0 := d1
            have := hp []
            have : p' = p := by omega
            subst this
            cases hgp.symm.trans d2
            exact d3 _ hj
      · exact he1 q (List.mem_filter.mp hq).1 σ
    · exact he1
  refine ⟨Γ.set p (xa, m ||| 2 ^ k), cr, h.set p (.inr (xa, vs.set k xv)), ?_, hx, by rw [List.length_set], ⟨hl, t', hn, ck_Ls.imp (fun _ _ z => ck_D_ext z hx) hr, ?_⟩, ?_, ?_⟩
  · show cz_n 3 3 (cz_ob (cz_at E h (E.1 + p)) fun ci fs => cz_if (ci == xa && decide (xb.toNat < fs.length) && decide (narrow (cz_fty ci xb.toNat) xv = xv) && fits (cz_fty ci xb.toNat) xv) (some (pc + 3, cr, h.set (E.1 + p - E.1) (.inr (ci, fs.set xb.toNat xv))))) = _
    rw [cz_at_add, h1, hk]
    show cz_n 3 3 (cz_if (xa == xa && decide (k < vs.length) && decide (narrow (cz_fty xa k) xv = xv) && fits (cz_fty xa k) xv) (some (pc + 3, cr, h.set (E.1 + p - E.1) (.inr (xa, vs.set k xv))))) = _
    rw [beq_self_eq_true, decide_eq_true hkl, decide_eq_true hnar, hfits, Nat.add_sub_cancel_left]
    rfl
  · subst hk
    exact ck_cl_ok hn he2 hp
  · intro p' k' m' hg'
    by_cases ep : p = p'
    · subst ep
      cases hg.symm.trans hg'
      refine ⟨fun x e1 => ?_, fun ci vs0 e1 => ?_⟩
      · cases h1.symm.trans e1
      · cases h1.symm.trans e1
        refine ⟨vs.set k xv, ck_set_eq h1, fun j hj => ?_⟩
        rw [List.getElem?_set, if_neg]
        intro z
        subst z
        rw [hw] at hj
        cases hj
    · exact ⟨fun x e1 _ => ck_set_ne ep e1, fun ci vs0 e1 => ⟨vs0, ck_set_ne ep e1, fun _ _ => rfl⟩⟩
  · exact cz_sz_set h1 (by simp [cz_cz])
end CKP
