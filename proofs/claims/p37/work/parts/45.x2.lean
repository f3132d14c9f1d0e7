/-! THE CHECKER IS SOUND: a row is copied; all instructions of the heap -/
section CKY
variable {E : cz_E} {Γ : ck_G} {B : Int} {ρ : List Int} {n n' : ck_N} {st st' : List ck_V} {es es' : List ck_Q} {cst : List Value} {h : cz_H} {W : List (Nat × Nat)}
theorem ck_nlt {z : Int32} (h0 : 0 ≤ z.toInt) : decide (¬ z < 0) = true ∧ ((z.toNatClampNeg : Nat) : Int) = z.toInt := by
  refine ⟨decide_eq_true fun hz => ?_, ?_⟩
  · have := Int32.lt_iff_toInt_lt.mp hz
    have e0 : (0 : Int32).toInt = 0 := rfl
    omega
  · show ((z.toInt.toNat : Nat) : Int) = z.toInt
    omega
theorem ck_acp_ok {i pc xa : Nat} (J : ck_J E Γ B ρ n st es cst h) (e : ck_acp W n st es = some (st', es')) : ∃ cst' h', cz_s2 E (pc, .invokestatic i, 3, xa, -5) cst h = some (pc + 3, cst', h') ∧ h'.length = h.length ∧ ck_J E Γ B ρ n st' es' cst' h' ∧ ck_Fr W Γ h h' ∧ cz_sz h' = cz_sz h := by
  obtain ⟨hl, t, hn, hs, hm⟩ := J
  unfold ck_acp at e
  obtain ⟨c0, r0, rfl, tc0, e1⟩ := ck_qi_some e
  obtain ⟨d0, r1, rfl, td0, e2⟩ := ck_qi_some e1
  obtain ⟨b0, r2, rfl, e3⟩ := ck_qv_some e2
  obtain ⟨s0, r3, rfl, ts0, e4⟩ := ck_qi_some e3
  obtain ⟨a0, r, rfl, e5⟩ := ck_qv_some e4
  clear e e1 e2 e3 e4
  obtain ⟨xc, w0, rfl, hxc, hs0⟩ := ck_Ls.cons hs
  obtain ⟨xd, w1, rfl, hxd, hs1⟩ := ck_Ls.cons hs0
  obtain ⟨xb, w2, rfl, hxb, hs2⟩ := ck_Ls.cons hs1
  obtain ⟨xs, w3, rfl, hxs, hs3⟩ := ck_Ls.cons hs2
  obtain ⟨xa0, cr, rfl, hxa, hr⟩ := ck_Ls.cons hs3
  obtain ⟨zc, rfl, hzc⟩ := ck_int hxc tc0
  obtain ⟨zd, rfl, hzd⟩ := ck_int hxd td0
  obtain ⟨zs, rfl, hzs⟩ := ck_int hxs ts0
  simp only at e5
  have hva := ck_nz_ok hn hm hxa
  have hvb := ck_nz_ok hn hm hxb
  generalize ck_nz n es a0 = a at e5 hva
  generalize ck_nz n es b0 = b at e5 hvb
  obtain ⟨tt, e6⟩ := cz_if_some e5
  simp only [Bool.and_eq_true, beq_iff_eq] at tt
  obtain ⟨k0, hk0, e7⟩ := cz_so_some e6
  obtain ⟨k1, hk1, e8⟩ := cz_so_some e7
  obtain ⟨cnd, e9⟩ := cz_if_some e8
  clear e5 e6 e7 e8
  cases e9
  simp only [Bool.and_eq_true, decide_eq_true_eq] at cnd
  obtain ⟨⟨⟨⟨⟨⟨⟨hcps, hw⟩, q1⟩, q2⟩, q3⟩, q4⟩, q5⟩, q6⟩ := cnd
  have q1 := ck_le_ok (hn []) q1
  have q2 := ck_le_ok (hn []) q2
  have q3 := ck_le_ok (hn []) q3
  have q4 := ck_le_ok (hn []) q4
  have q5 := ck_le_ok (hn []) q5
  rw [ck_mul_ev] at q1 q2 q3
  rw [ck_sub_ev, ck_add_ev, ck_ev_c] at q4 q5
  rw [← hzc []] at q1 q4 q5
  rw [← hzd []] at q2 q5
  rw [← hzs []] at q3 q4
  obtain ⟨pa, rfl, hpa, ma, hga, -⟩ := ck_D39 hva (Or.inl tt.1)
  obtain ⟨pb, rfl, hpb, mb, hgb, -⟩ := ck_D39 hvb (Or.inl tt.2)
  obtain ⟨ya, haa, hsha, -, htya⟩ := ck_arr t hga hk0
  obtain ⟨yb, hab, hshb, -, htyb⟩ := ck_arr t hgb hk1
  obtain ⟨c1, c2⟩ := ck_nlt (z := zc) (by omega)
  obtain ⟨d1, d2⟩ := ck_nlt (z := zd) (by omega)
  obtain ⟨s1, s2⟩ := ck_nlt (z := zs) (by omega)
  have hsum : decide (cz_sum cr ≤ 8) = true := decide_eq_true (by rw [ck_sum_ok hr]; exact q6)
  generalize hNc : zc.toNatClampNeg = Nc at c2
  generalize hNd : zd.toNatClampNeg = Nd at d2
  generalize hNs : zs.toNatClampNeg = Ns at s2
  have h0 : Ns + Nc ≤ k0.2.1 := by omega
  have h1 : Nd + Nc ≤ k1.2.1 := by omega
  have hok0 := ck_ak_ok hk0
  have hcps2 := hcps
  unfold ck_cps at hcps2
  simp only [Bool.and_eq_true, beq_iff_eq, decide_eq_true_eq] at hcps2
  obtain ⟨⟨⟨⟨⟨⟨e01, e02⟩, e03⟩, e04⟩, e05⟩, e06⟩, e07⟩ := hcps2
  have fin : ∀ {y' : (Nat → Int32) ⊕ (Nat → Int64) ⊕ (Nat → UInt32) ⊕ (Nat → UInt64) ⊕ (Nat → Option Nat)}, ck_sh k1.1 y' → (∀ j, ck_el y' j = if Nd ≤ j ∧ j < Nd + Nc then ck_el ya (Ns + (j - Nd)) else ck_el yb j) → ck_J E Γ B ρ n st' (es.filter (ck_kc b.2.2.1)) cr (h.set pb (.inl (k1.1, k1.2.1, y'))) ∧ ck_Fr W Γ h (h.set pb (.inl (k1.1, k1.2.1, y'))) ∧ cz_sz (h.set pb (.inl (k1.1, k1.2.1, y'))) = cz_sz h := by
    intro y' f1 f2
    have hcell : ck_cell E B Γ (b.2.2.1, mb) (.inl (k1.1, k1.2.1, y')) := by
      have hk1' := hk1
      unfold ck_ak at hk1'
      split at hk1'
      · next rr hrr =>
        cases hk1'
        unfold ck_cell
        simp only [hrr]
        refine ⟨y', rfl, f1, ?_, fun j hj => ?_⟩
        · unfold ck_rw
          split
          · exact ⟨fun q => by omega, fun q => by omega⟩
          · trivial
        · rw [f2 j]
          split
          · next hj2 => exact ck_cps_ok hcps hok0 (htya _ (by omega))
          · exact htyb j hj
      · cases hk1'
    refine ⟨⟨hl, ck_HT.putA t (Int.le_refl _) hgb hcell, hn, hr, fun q hq σ => ?_⟩, ck_Fr.arr hgb hab hw, cz_sz_set hab rfl⟩
    obtain ⟨g1, g2⟩ := List.mem_filter.mp hq
    exact ck_kc_ok (hm q g1 σ) hgb hab g2
  rcases ya with f | f | f | f | f
  · rcases yb with g | g | g | g | g
    · have ht0 : k0.1 = 0 ∨ k0.1 = 1 ∨ k0.1 = 3 ∨ k0.1 = 4 := hsha
      obtain ⟨g1, g2, g3⟩ := fin (y' := .inl (va_cpy f g Ns Nd Nc)) hshb (fun j => by
        show Value.int (va_cpy f g Ns Nd Nc j) = _
        unfold va_cpy
        split <;> rfl)
      have hfits : ((List.range Nc).all fun i => fits (cz_ty k0.1) (.int (f (Ns + i)))) = true := by
        refine List.all_eq_true.mpr fun i hi => ?_
        have hi := List.mem_range.mp hi
        rcases ht0 with q | q | q | q
        · rw [q]; rfl
        · rw [q]
          have hv := htya (Ns + i) (by omega)
          unfold ck_es at hv
          rw [if_pos e02] at hv
          rw [q] at e04
          simp only [Bool.and_eq_true, beq_iff_eq, decide_eq_true_eq] at e04
          unfold ck_vs at hv
          rw [e04.1.1] at hv
          obtain ⟨z, z1, z2, z3⟩ := hv
          have z1 : f (Ns + i) = z := by injection z1
          show ((-128 : Int32) ≤ f (Ns + i) && f (Ns + i) ≤ (127 : Int32)) = true
          have k1 : (-128 : Int32).toInt = -128 := by decide
          have k2 : (127 : Int32).toInt = 127 := by decide
          rw [z1, Bool.and_eq_true, decide_eq_true_eq, decide_eq_true_eq, Int32.le_iff_toInt_le, Int32.le_iff_toInt_le, k1, k2]
          omega
        · rw [q] at e04; cases e04
        · rw [q] at e04; cases e04
      have ht : (k0.1 == k1.1 && (k0.1 == 0 || k0.1 == 1 || k0.1 == 3 || k0.1 == 4)) = true := by
        simp only [Bool.and_eq_true, Bool.or_eq_true, beq_iff_eq]
        omega
      refine ⟨cr, _, ?_, by rw [List.length_set], g1, g2, g3⟩
      show cz_n 3 3 (cz_if ((-5 : Int) == -5) (cz_if (decide (¬ zs < 0) && decide (¬ zd < 0) && decide (¬ zc < 0) && decide (cz_sum cr ≤ 8)) (match cz_at E h (E.1 + pa) with
        | some (.inl (t0, n0, .inl f)) => cz_ai (cz_at E h (E.1 + pb)) fun t1 n1 g => cz_if (t0 == t1 && (t0 == 0 || t0 == 1 || t0 == 3 || t0 == 4) && decide (zs.toNatClampNeg + zc.toNatClampNeg ≤ n0) && decide (zd.toNatClampNeg + zc.toNatClampNeg ≤ n1) && (List.range zc.toNatClampNeg).all (fun i => fits (cz_ty t0) (.int (f (zs.toNatClampNeg + i))))) (some (pc + 3, cr, h.set (E.1 + pb - E.1) (.inl (t1, n1, .inl (va_cpy f g zs.toNatClampNeg zd.toNatClampNeg zc.toNatClampNeg)))))
        | some (.inl (t0, n0, .inr (.inl f))) => cz_al (cz_at E h (E.1 + pb)) fun t1 n1 g => cz_if (t0 == 2 && t1 == 2 && decide (zs.toNatClampNeg + zc.toNatClampNeg ≤ n0) && decide (zd.toNatClampNeg + zc.toNatClampNeg ≤ n1)) (some (pc + 3, cr, h.set (E.1 + pb - E.1) (.inl (t1, n1, .inr (.inl (va_cpy f g zs.toNatClampNeg zd.toNatClampNeg zc.toNatClampNeg))))))
        | _ => none))) = _
      rw [cz_at_add, cz_at_add, haa, hab, s1, d1, c1, hsum, hNc, hNd, hNs]
      show cz_n 3 3 (cz_if true (cz_if true (cz_if (k0.1 == k1.1 && (k0.1 == 0 || k0.1 == 1 || k0.1 == 3 || k0.1 == 4) && decide (Ns + Nc ≤ k0.2.1) && decide (Nd + Nc ≤ k1.2.1) && (List.range Nc).all (fun i => fits (cz_ty k0.1) (.int (f (Ns + i))))) (some (pc + 3, cr, h.set (E.1 + pb - E.1) (.inl (k1.1, k1.2.1, .inl (va_cpy f g Ns Nd Nc)))))))) = _
      rw [ht, decide_eq_true h0, decide_eq_true h1, hfits, Nat.add_sub_cancel_left]
      rfl
    · exfalso
      have : k1.1 = 2 := hshb
      have : k0.1 = 0 ∨ k0.1 = 1 ∨ k0.1 = 3 ∨ k0.1 = 4 := hsha
      omega
    · exact hshb.elim
    · exact hshb.elim
    · exfalso
      have : k1.1 = 5 ∨ k1.1 = 6 := hshb
      have : k0.1 = 0 ∨ k0.1 = 1 ∨ k0.1 = 3 ∨ k0.1 = 4 := hsha
      omega
  · have ht0 : k0.1 = 2 := hsha
    rcases yb with g | g | g | g | g
    · exfalso
      have : k1.1 = 0 ∨ k1.1 = 1 ∨ k1.1 = 3 ∨ k1.1 = 4 := hshb
      omega
    · obtain ⟨g1, g2, g3⟩ := fin (y' := .inr (.inl (va_cpy f g Ns Nd Nc))) hshb (fun j => by
        show Value.long (va_cpy f g Ns Nd Nc j) = _
        unfold va_cpy
        split <;> rfl)
      have ht : (k0.1 == 2 && k1.1 == 2) = true := by
        simp only [Bool.and_eq_true, beq_iff_eq]
        omega
      refine ⟨cr, _, ?_, by rw [List.length_set], g1, g2, g3⟩
      show cz_n 3 3 (cz_if ((-5 : Int) == -5) (cz_if (decide (¬ zs < 0) && decide (¬ zd < 0) && decide (¬ zc < 0) && decide (cz_sum cr ≤ 8)) (match cz_at E h (E.1 + pa) with
        | some (.inl (t0, n0, .inl f)) => cz_ai (cz_at E h (E.1 + pb)) fun t1 n1 g => cz_if (t0 == t1 && (t0 == 0 || t0 == 1 || t0 == 3 || t0 == 4) && decide (zs.toNatClampNeg + zc.toNatClampNeg ≤ n0) && decide (zd.toNatClampNeg + zc.toNatClampNeg ≤ n1) && (List.range zc.toNatClampNeg).all (fun i => fits (cz_ty t0) (.int (f (zs.toNatClampNeg + i))))) (some (pc + 3, cr, h.set (E.1 + pb - E.1) (.inl (t1, n1, .inl (va_cpy f g zs.toNatClampNeg zd.toNatClampNeg zc.toNatClampNeg)))))
        | some (.inl (t0, n0, .inr (.inl f))) => cz_al (cz_at E h (E.1 + pb)) fun t1 n1 g => cz_if (t0 == 2 && t1 == 2 && decide (zs.toNatClampNeg + zc.toNatClampNeg ≤ n0) && decide (zd.toNatClampNeg + zc.toNatClampNeg ≤ n1)) (some (pc + 3, cr, h.set (E.1 + pb - E.1) (.inl (t1, n1, .inr (.inl (va_cpy f g zs.toNatClampNeg zd.toNatClampNeg zc.toNatClampNeg))))))
        | _ => none))) = _
      rw [cz_at_add, cz_at_add, haa, hab, s1, d1, c1, hsum, hNc, hNd, hNs]
      show cz_n 3 3 (cz_if true (cz_if true (cz_if (k0.1 == 2 && k1.1 == 2 && decide (Ns + Nc ≤ k0.2.1) && decide (Nd + Nc ≤ k1.2.1)) (some (pc + 3, cr, h.set (E.1 + pb - E.1) (.inl (k1.1, k1.2.1, .inr (.inl (va_cpy f g Ns Nd Nc))))))))) = _
      rw [ht, decide_eq_true h0, decide_eq_true h1, Nat.add_sub_cancel_left]
      rfl
    · exact hshb.elim
    · exact hshb.elim
    · exfalso
      have : k1.1 = 5 ∨ k1.1 = 6 := hshb
      omega
  · exact hsha.elim
  · exact hsha.elim
  · exfalso
    have ht0 : k0.1 = 5 ∨ k0.1 = 6 := hsha
    split at e04
    · omega
    · omega
    · omega
    · cases e04
end CKY
