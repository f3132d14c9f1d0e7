/-! THE CHECKER IS SOUND: elements are read -/
theorem ck_in_of {z : Int32} {len : Nat} (h0 : 0 ≤ z.toInt) (h1 : z.toInt < len) : cz_in z len = true ∧ ((z.toNatClampNeg : Nat) : Int) = z.toInt := by
  have e : ((z.toNatClampNeg : Nat) : Int) = z.toInt := by
    show ((z.toInt.toNat : Nat) : Int) = z.toInt
    omega
  refine ⟨?_, e⟩
  unfold cz_in
  rw [Bool.and_eq_true, decide_eq_true_eq, decide_eq_true_eq]
  refine ⟨fun hz => ?_, by omega⟩
  have := Int32.lt_iff_toInt_lt.mp hz
  have e0 : (0 : Int32).toInt = 0 := rfl
  omega
theorem ck_inr_ok {n : ck_N} {ρ : List Int} {a l : ck_A} (hn : ck_nok n ρ) (e : ck_inr n a l = true) : 0 ≤ ck_ev ρ a ∧ ck_ev ρ a < ck_ev ρ l := by
  obtain ⟨e1, e2⟩ := Bool.and_eq_true_iff.mp e
  have h1 := ck_le_ok hn e1
  have h2 := ck_le_ok hn e2
  rw [ck_mul_ev] at h1
  rw [ck_sub_ev, ck_add_ev, ck_ev_c] at h2
  omega
section CKL
variable {E : cz_E} {Γ : ck_G} {B : Int} {ρ : List Int} {n n' : ck_N} {st st' : List ck_V} {es es' : List ck_Q} {cst : List Value} {h : cz_H}
/-- a cell of one's own is neither the script nor a text's row -/
theorem ck_own (hE : cz_Eok E) (p : Nat) : ¬ (E.1 + p = E.2.1.1 ∧ E.1 + p < E.1) ∧ cz_vs E (E.1 + p) = none := by
  refine ⟨fun z => by omega, cz_fd_no fun i hi z => ?_⟩
  have := (hE.2.2.2.2.1 i hi).2.1
  omega
theorem ck_el_load {ins : Instr} {pc xa tc len p : Nat} {xb : Int} {z : Int32} {cr : List Value} {y : (Nat → Int32) ⊕ (Nat → Int64) ⊕ (Nat → UInt32) ⊕ (Nat → UInt64) ⊕ (Nat → Option Nat)} (hE : cz_Eok E) (htc : ck_tcl ins tc = true) (hsh : ck_sh tc y) (ha : h[p]? = some (.inl (tc, len, y))) (hz : cz_in z len = true) : cz_s2 E (pc, ins, 1, xa, xb) (.int z :: .ref (E.1 + p) :: cr) h = some (pc + 1, ck_el y z.toNatClampNeg :: cr, h) := by
  obtain ⟨o1, o2⟩ := ck_own hE p
  unfold ck_tcl at htc
  split at htc
  · have htc : tc = 0 := by simpa using htc
    subst htc
    show cz_n 1 1 (if E.1 + p = E.2.1.1 ∧ E.1 + p < E.1 then _ else cz_ai (cz_at E h (E.1 + p)) fun tc n f => cz_if (tc == 0 && cz_in z n) (some (pc + 1, .int (f z.toNatClampNeg) :: cr, h))) = _
    rw [if_neg o1, cz_at_add, ha]
    rcases y with f | g | g | g | g
    · show cz_n 1 1 (cz_if (0 == 0 && cz_in z len) _) = _
      rw [hz]
      rfl
    · cases hsh
    · exact hsh.elim
    · exact hsh.elim
    · rcases hsh with c | c <;> cases c
  · have htc : tc = 1 ∨ tc = 4 := by simpa using htc
    show cz_n 1 1 (match cz_vs E (E.1 + p) with
      | some k => cz_if (cz_in z (cz_sl.getD k 0)) (some (pc + 1, .int ((cz_sb.getD k []).getD z.toNatClampNeg 0) :: cr, h))
      | none => cz_ai (cz_at E h (E.1 + p)) fun tc n f => cz_if ((tc == 1 || tc == 4) && cz_in z n) (some (pc + 1, .int (f z.toNatClampNeg) :: cr, h))) = _
    rw [o2]
    simp only
    rw [cz_at_add, ha]
    rcases y with f | g | g | g | g
    · show cz_n 1 1 (cz_if ((tc == 1 || tc == 4) && cz_in z len) _) = _
      rw [hz]
      rcases htc with rfl | rfl <;> rfl
    · rcases htc with rfl | rfl <;> cases hsh
    · exact hsh.elim
    · exact hsh.elim
    · rcases htc with rfl | rfl <;> rcases hsh with c | c <;> cases c
  · have htc : tc = 3 := by simpa using htc
    subst htc
    show cz_n 1 1 (cz_ai (cz_at E h (E.1 + p)) fun tc n f => cz_if (tc == 3 && cz_in z n) (some (pc + 1, .int (f z.toNatClampNeg) :: cr, h))) = _
    rw [cz_at_add, ha]
    rcases y with f | g | g | g | g
    · show cz_n 1 1 (cz_if (3 == 3 && cz_in z len) _) = _
      rw [hz]
      rfl
    · cases hsh
    · exact hsh.elim
    · exact hsh.elim
    · rcases hsh with c | c <;> cases c
  · have htc : tc = 2 := by simpa using htc
    subst htc
    show cz_n 1 1 (cz_al (cz_at E h (E.1 + p)) fun tc n f => cz_if (tc == 2 && cz_in z n) (some (pc + 1, .long (f z.toNatClampNeg) :: cr, h))) = _
    rw [cz_at_add, ha]
    rcases y with f | g | g | g | g
    · rcases hsh with c | c | c | c <;> cases c
    · show cz_n 1 1 (cz_if (2 == 2 && cz_in z len) _) = _
      rw [hz]
      rfl
    · exact hsh.elim
    · exact hsh.elim
    · rcases hsh with c | c <;> cases c
  · have htc : tc = 5 ∨ tc = 6 := by simpa using htc
    show cz_n 1 1 (cz_aq (cz_at E h (E.1 + p)) fun tc n f => cz_if ((tc == 5 || tc == 6) && cz_in z n) (some (pc + 1, va_rf (f z.toNatClampNeg) :: cr, h))) = _
    rw [cz_at_add, ha]
    rcases y with f | g | g | g | g
    · rcases htc with rfl | rfl <;> rcases hsh with c | c | c | c <;> cases c
    · rcases htc with rfl | rfl <;> cases hsh
    · exact hsh.elim
    · exact hsh.elim
    · show cz_n 1 1 (cz_if ((tc == 5 || tc == 6) && cz_in z len) _) = _
      rw [hz]
      rcases htc with rfl | rfl <;> rfl
  · cases htc
theorem ck_al_ok {ins : Instr} {pc xa : Nat} {xb : Int} (hE : cz_Eok E) (hB : B ≤ ck_BM) (hH : (Γ.length : Int) ≤ ck_HM) (J : ck_J E Γ B ρ n st es cst h) (e : ck_al (pc, ins, 1, xa, xb) n st es = some (n', st', es')) : ∃ ρ2 cst', cz_s2 E (pc, ins, 1, xa, xb) cst h = some (pc + 1, cst', h) ∧ ck_J E Γ B (ρ ++ ρ2) n' st' es' cst' h := by
  obtain ⟨hl, t, hn, hs, hm⟩ := J
  unfold ck_al at e
  obtain ⟨i0, r0, rfl, t0, e1⟩ := ck_qi_some e
  obtain ⟨a0, r, rfl, e2⟩ := ck_qv_some e1
  clear e e1
  obtain ⟨xi, cr0, rfl, hi0, hr0⟩ := ck_Ls.cons hs
  obtain ⟨xa0, cr, rfl, ha0, hr⟩ := ck_Ls.cons hr0
  obtain ⟨z, rfl, hz⟩ := ck_int hi0 t0
  generalize i0.2.2.2.1 = ix at e2 hz
  simp only at e2
  have hv := ck_nz_ok hn hm ha0
  generalize ck_nz n es a0 = a at e2 hv
  split at e2
  · next t7 =>
    obtain ⟨c, e3⟩ := cz_if_some e2
    obtain ⟨c1, c2⟩ := Bool.and_eq_true_iff.mp c
    have hins : ins = .iaload := by
      unfold ck_ia at c1
      split at c1
      · rfl
      · cases c1
    subst hins
    have h7 : ∀ σ, xa0 = .ref E.2.1.1 ∧ ((E.2.1.2.1 : Nat) : Int) = (ρ ++ σ).getD a.2.1 0 := by
      intro σ
      have := hv σ
      unfold ck_D at this
      rw [t7] at this
      exact this
    have b1 := ck_inr_ok (hn []) c2
    rw [ck_ev_v, ← (h7 []).2, ← hz []] at b1
    obtain ⟨z1, z2⟩ := ck_in_of b1.1 b1.2
    have step : cz_s2 E (pc, .iaload, 1, xa, xb) (.int z :: xa0 :: cr) h = some (pc + 1, .int (E.2.1.2.2 z.toNatClampNeg) :: cr, h) := by
      rw [(h7 []).1]
      show cz_n 1 1 (if E.2.1.1 = E.2.1.1 ∧ E.2.1.1 < E.1 then cz_if (cz_in z E.2.1.2.1) (some (pc + 1, .int (E.2.1.2.2 z.toNatClampNeg) :: cr, h)) else _) = _
      rw [if_pos ⟨rfl, hE.1⟩, z1]
      rfl
    have hzi : ∀ σ, ((z.toNatClampNeg : Nat) : Int) = ck_ev (ρ ++ σ) ix := fun σ => by rw [z2, hz σ]
    split at e3
    · next w hw =>
      cases e3
      refine ⟨[], _, step, ?_⟩
      rw [List.append_nil]
      refine ⟨hl, t, hn, ⟨fun σ => ?_, hr⟩, hm⟩
      obtain ⟨b, c, d, hq⟩ := ck_f2_mem hw
      obtain ⟨i, d1, d2, d3⟩ := hm _ hq σ
      have d1 : (i : Int) = ck_ev (ρ ++ σ) ix := d1
      have := hzi σ
      have : i = z.toNatClampNeg := by omega
      subst this
      exact d3
    · cases e3
      obtain ⟨ρ2, J2⟩ := ck_J.push (B := B) (new := [(2, 0, 0, 0, ix, (ck_fr n (-2147483648) 2147483647).2)]) t hr hm (ck_full_ok hl hn (E.2.1.2.2 z.toNatClampNeg)) (by
        intro ρ2 hy q hq σ
        rw [List.mem_singleton.mp hq]
        exact ⟨z.toNatClampNeg, by rw [List.append_assoc]; exact hzi _, by omega, hy σ⟩)
      exact ⟨ρ2, _, step, J2⟩
  · next t10 =>
    obtain ⟨c, e3⟩ := cz_if_some e2
    obtain ⟨c1, c2⟩ := Bool.and_eq_true_iff.mp c
    have hins : ins = .baload := by
      unfold ck_ba at c1
      split at c1
      · rfl
      · cases c1
    subst hins
    have h10 := hv []
    unfold ck_D at h10
    rw [t10] at h10
    obtain ⟨k, k1, rfl, k3, k4⟩ := h10
    have b1 := ck_inr_ok (hn []) c2
    rw [ck_ev_v, ← k4, ← hz []] at b1
    obtain ⟨z1, z2⟩ := ck_in_of b1.1 b1.2
    have hvs : cz_vs E (E.2.2.2.1 k) = some k := cz_fd_of k1 hE.2.2.2.1
    cases e3
    have hb : -128 ≤ ((cz_sb.getD k []).getD z.toNatClampNeg 0).toInt ∧ ((cz_sb.getD k []).getD z.toNatClampNeg 0).toInt ≤ 127 := by
      have hall : ∀ k, k < 14 → ∀ i, i < 8 → -128 ≤ ((cz_sb.getD k []).getD i 0).toInt ∧ ((cz_sb.getD k []).getD i 0).toInt ≤ 127 := by decide +kernel
      have := cz_n9 k k1
      exact hall k k1 _ (by omega)
    obtain ⟨ρ2, J2⟩ := ck_J.push (B := B) (new := []) t hr hm (ck_fr_ok hl hn hb) (fun _ _ _ hq => by cases hq)
    refine ⟨ρ2, _, ?_, J2⟩
    show cz_n 1 1 (match cz_vs E (E.2.2.2.1 k) with
      | some k => cz_if (cz_in z (cz_sl.getD k 0)) (some (pc + 1, .int ((cz_sb.getD k []).getD z.toNatClampNeg 0) :: cr, h))
      | none => _) = _
    rw [hvs]
    simp only
    rw [z1]
    rfl
  · next t3 =>
    obtain ⟨k, hk, e3⟩ := cz_so_some e2
    obtain ⟨c, e4⟩ := cz_if_some e3
    obtain ⟨c1, c2⟩ := Bool.and_eq_true_iff.mp c
    obtain ⟨p, rfl, hp, m, hg, -⟩ := ck_D39 hv (Or.inl t3)
    obtain ⟨y, ha, hsh, hrw, hty⟩ := ck_arr t hg hk
    have b1 := ck_inr_ok (hn []) c2
    rw [ck_ev_c, ← hz []] at b1
    obtain ⟨z1, z2⟩ := ck_in_of b1.1 b1.2
    have hzi : ∀ σ, ((z.toNatClampNeg : Nat) : Int) = ck_ev (ρ ++ σ) ix := fun σ => by rw [z2, hz σ]
    have hzl : z.toNatClampNeg < k.2.1 := by omega
    have step := ck_el_load (pc := pc) (xa := xa) (xb := xb) (cr := cr) hE c1 hsh ha z1
    split at e4
    · next w hw =>
      cases e4
      obtain ⟨tc2, len2, y2, d1, d2, d3, -⟩ := ck_f1_ok hm hw hp hzi
      cases ha.symm.trans d1
      refine ⟨[], _, step, ?_⟩
      rw [List.append_nil]
      exact ⟨hl, t, hn, ⟨d3, hr⟩, hm⟩
    · obtain ⟨pp, hs2, e5⟩ := cz_so_some e4
      cases e5
      have Y : ck_Y E Γ ρ pp.1 pp.2 (ck_el y z.toNatClampNeg) := ck_sv_ok hl hn hB hH hs2 (ck_esp_ok (hn []) hm (hp []) hg ha (hzi []) hrw (hty _ hzl))
      obtain ⟨ρ2, J2⟩ := ck_J.push (B := B) (new := [(1, a.2.1, a.2.2.1, 0, ix, pp.2)]) t hr hm Y (by
        intro ρ2 hy q hq σ
        rw [List.mem_singleton.mp hq]
        exact ⟨p, m, k.1, k.2.1, y, z.toNatClampNeg, by rw [List.append_assoc]; exact hp _, hg, ha, by rw [List.append_assoc]; exact hzi _, hzl, hy σ⟩)
      exact ⟨ρ2, _, step, J2⟩
  · cases e2
end CKL
