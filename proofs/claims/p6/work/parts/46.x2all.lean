/-! THE CHECKER IS SOUND: every instruction of the heap -/
set_option maxHeartbeats 2000000 in
theorem ck_x2_ok {E : cz_E} {Γ : ck_G} {B : Int} {ρ : List Int} {cst : List Value} {h : cz_H} {S : List (Nat × Nat × Nat)} {W : List (Nat × Nat)} {t1 t3 mi pc' : Nat} {q : cz_I} {u u' : ck_U} {H0 Z0 B0 : Int} (hE : cz_Eok E) (hH : H0 + t1 ≤ ck_HM) (hB3 : B0 + t3 ≤ ck_BM) (hB : 0 ≤ B) (hu1 : u.2.2.2.1 ≤ t1) (hu3 : u.2.2.2.2.2 ≤ t3) (k1 : (h.length : Int) ≤ H0 + u.2.2.2.1) (k2 : (cz_sz h : Int) ≤ Z0 + u.2.2.2.2.1) (k3 : B ≤ B0 + u.2.2.2.2.2) (J : ck_J E Γ B ρ u.1 u.2.1 u.2.2.1 cst h) (e : ck_x2 S W t1 t3 mi q u = some (pc', u')) :
    ∃ (ρ2 : List Int) (Γ' : ck_G) (B' : Int) (cst' : List Value) (h' : cz_H), (∀ nL clv, cz_s1 E nL q clv cst = none) ∧ cz_s2 E q cst h = some (pc', cst', h') ∧ ck_ext Γ Γ' ∧ ck_J E Γ' B' (ρ ++ ρ2) u'.1 u'.2.1 u'.2.2.1 cst' h' ∧ ck_Fr W Γ h h' ∧ B ≤ B' ∧ u'.2.2.2.1 ≤ t1 ∧ u'.2.2.2.2.2 ≤ t3 ∧ (h'.length : Int) ≤ H0 + u'.2.2.2.1 ∧ (cz_sz h' : Int) ≤ Z0 + u'.2.2.2.2.1 ∧ B' ≤ B0 + u'.2.2.2.2.2 := by
  obtain ⟨n, st, es, c1, c2, c3⟩ := u
  obtain ⟨pc, ins, len, xa, xb⟩ := q
  have hu1 : c1 ≤ t1 := hu1
  have hu3 : c3 ≤ t3 := hu3
  have k1 : (h.length : Int) ≤ H0 + c1 := k1
  have k2 : (cz_sz h : Int) ≤ Z0 + c2 := k2
  have k3 : B ≤ B0 + c3 := k3
  have J : ck_J E Γ B ρ n st es cst h := J
  have hBM : B ≤ ck_BM := by omega
  have hHl : (Γ.length : Int) ≤ ck_HM := by rw [J.2.1.1]; omega
  -- an instruction that only reads
  have rd : ∀ {ρ2 : List Int} {n' : ck_N} {st' : List ck_V} {es' : List ck_Q} {cst' : List Value}, (∀ nL clv, cz_s1 E nL (pc, ins, len, xa, xb) clv cst = none) → cz_s2 E (pc, ins, len, xa, xb) cst h = some (pc', cst', h) → ck_J E Γ B (ρ ++ ρ2) n' st' es' cst' h → u' = (n', st', es', c1, c2, c3) → ∃ (ρ2 : List Int) (Γ' : ck_G) (B' : Int) (cst' : List Value) (h' : cz_H), (∀ nL clv, cz_s1 E nL (pc, ins, len, xa, xb) clv cst = none) ∧ cz_s2 E (pc, ins, len, xa, xb) cst h = some (pc', cst', h') ∧ ck_ext Γ Γ' ∧ ck_J E Γ' B' (ρ ++ ρ2) u'.1 u'.2.1 u'.2.2.1 cst' h' ∧ ck_Fr W Γ h h' ∧ B ≤ B' ∧ u'.2.2.2.1 ≤ t1 ∧ u'.2.2.2.2.2 ≤ t3 ∧ (h'.length : Int) ≤ H0 + u'.2.2.2.1 ∧ (cz_sz h' : Int) ≤ Z0 + u'.2.2.2.2.1 ∧ B' ≤ B0 + u'.2.2.2.2.2 := by
    intro ρ2 n' st' es' cst' f1 f2 f3 f4
    subst f4
    exact ⟨ρ2, Γ, B, cst', h, f1, f2, ck_ext.rf, f3, ck_Fr.rf, Int.le_refl _, hu1, hu3, k1, k2, k3⟩
  cases ins
  case getfield i =>
    obtain ⟨e0, e1⟩ := cz_n_some e
    have e0 : len = 3 := e0
    subst e0
    obtain ⟨⟨n', st', es'⟩, e2, e3⟩ := cz_so_some e1
    cases e3
    obtain ⟨ρ2, cst', s, J'⟩ := ck_gf_ok hE hBM hHl J e2
    exact rd (fun _ _ => rfl) s J' rfl
  case putfield i =>
    obtain ⟨e0, e1⟩ := cz_n_some e
    have e0 : len = 3 := e0
    subst e0
    obtain ⟨⟨n', st', es'⟩, e2, e3⟩ := cz_so_some e1
    cases e3
    obtain ⟨Γ', cst', h', s, hx, hgl, J', fr, hz⟩ := ck_pf_ok J e2
    have hlen : h'.length = h.length := by rw [← J'.2.1.1, hgl, J.2.1.1]
    refine ⟨[], Γ', B, cst', h', fun _ _ => rfl, s, hx, by rw [List.append_nil]; exact J', fr, Int.le_refl _, hu1, hu3, ?_, ?_, k3⟩
    · rw [hlen]; exact k1
    · rw [hz]; exact k2
  case arraylength =>
    obtain ⟨e0, e1⟩ := cz_n_some e
    have e0 : len = 1 := e0
    subst e0
    obtain ⟨st', e2, e3⟩ := cz_so_some e1
    cases e3
    obtain ⟨cst', s, J'⟩ := ck_len_ok (pc := pc) (xa := xa) (xb := xb) hE J e2
    exact rd (ρ2 := []) (fun _ _ => rfl) s (by rw [List.append_nil]; exact J') rfl
  case new i =>
    obtain ⟨e0, e1⟩ := cz_n_some e
    have e0 : len = 3 := e0
    subst e0
    obtain ⟨hc, e2⟩ := cz_if_some e1
    simp only [Bool.and_eq_true, beq_iff_eq, decide_eq_true_eq] at hc
    obtain ⟨⟨hc1, hc2⟩, hc3⟩ := hc
    obtain ⟨⟨n', st', es', c⟩, e3, e4⟩ := cz_so_some e2
    cases e4
    subst hc1
    obtain ⟨ρ2, cst', h', Γ', s, hx, J', fr, hlen, hz⟩ := ck_nwo_ok (W := W) (i := i) (pc := pc) hB (by omega) hc2 J e3
    refine ⟨ρ2, Γ', B, cst', h', fun _ _ => rfl, s, hx, J', fr, Int.le_refl _, hc3, hu3, ?_, ?_, k3⟩
    · show (h'.length : Int) ≤ H0 + ((c1 + 1 : Nat) : Int)
      rw [hlen]; push_cast; omega
    · show (cz_sz h' : Int) ≤ Z0 + ((c2 + c : Nat) : Int)
      rw [hz]; push_cast; omega
  case newarray ty =>
    obtain ⟨e0, e1⟩ := cz_n_some e
    have e0 : len = 2 := e0
    subst e0
    obtain ⟨hc, e2⟩ := cz_if_some e1
    have hc : c1 + 1 ≤ t1 := of_decide_eq_true hc
    obtain ⟨K, -, e3⟩ := cz_so_some e2
    obtain ⟨hty, e4⟩ := cz_if_some e3
    obtain ⟨⟨n', st', es', c⟩, e5, e6⟩ := cz_so_some e4
    cases e6
    obtain ⟨z, cr, ρ2, Γ', rfl, hz1, hz2, hx, J', fr, hz⟩ := ck_nwa_ok (W := W) hB (by omega) J e5
    obtain ⟨z3, z4⟩ := ck_nlt (z := z) (by omega)
    have z5 : z.toNatClampNeg = c := by omega
    refine ⟨ρ2, Γ', B, _, _, fun _ _ => rfl, ?_, hx, J', fr, Int.le_refl _, hc, hu3, ?_, ?_, k3⟩
    · show cz_n 2 2 (cz_if (decide (¬ z < 0) && decide (z.toNatClampNeg ≤ 100000) && true) (cz_so (cz_na ty z.toNatClampNeg) fun c => some (pc + 2, .ref (E.1 + h.length) :: cr, h ++ [c]))) = _
      rw [z3, z5, decide_eq_true hz2]
      cases ty <;> first | rfl | exact absurd (show (9 : Nat) ≤ 4 from of_decide_eq_true hty) (by decide)
    · show ((h ++ [_] : cz_H).length : Int) ≤ H0 + ((c1 + 1 : Nat) : Int)
      rw [List.length_append]; push_cast; simp only [List.length_singleton]; omega
    · show (cz_sz (h ++ [_]) : Int) ≤ Z0 + ((c2 + c : Nat) : Int)
      rw [hz]; push_cast; omega
  case anewarray i =>
    obtain ⟨e0, e1⟩ := cz_n_some e
    have e0 : len = 3 := e0
    subst e0
    obtain ⟨hc, e2⟩ := cz_if_some e1
    simp only [Bool.and_eq_true, Bool.or_eq_true, beq_iff_eq, decide_eq_true_eq] at hc
    obtain ⟨hc, hty⟩ := hc
    obtain ⟨K, -, e3⟩ := cz_so_some e2
    obtain ⟨⟨n', st', es', c⟩, e5, e6⟩ := cz_so_some e3
    cases e6
    obtain ⟨z, cr, ρ2, Γ', rfl, hz1, hz2, hx, J', fr, hz⟩ := ck_nwa_ok (W := W) hB (by omega) J e5
    obtain ⟨z3, z4⟩ := ck_nlt (z := z) (by omega)
    have z5 : z.toNatClampNeg = c := by omega
    refine ⟨ρ2, Γ', B, _, _, fun _ _ => rfl, ?_, hx, J', fr, Int.le_refl _, hc, hu3, ?_, ?_, k3⟩
    · show cz_n 3 3 (cz_if (decide (¬ z < 0) && decide (z.toNatClampNeg ≤ 100000) && (xa == 5 || xa == 6)) (some (pc + 3, .ref (E.1 + h.length) :: cr, h ++ [.inl (xa, z.toNatClampNeg, .inr (.inr (.inr (.inr fun _ => none))))]))) = _
      rw [z3, z5, decide_eq_true hz2]
      rcases hty with rfl | rfl <;> rfl
    · show ((h ++ [_] : cz_H).length : Int) ≤ H0 + ((c1 + 1 : Nat) : Int)
      rw [List.length_append]; push_cast; simp only [List.length_singleton]; omega
    · show (cz_sz (h ++ [_]) : Int) ≤ Z0 + ((c2 + c : Nat) : Int)
      rw [hz]; push_cast; omega
  case invokespecial i =>
    obtain ⟨e0, e1⟩ := cz_n_some e
    have e0 : len = 3 := e0
    subst e0
    obtain ⟨hc, e2⟩ := cz_if_some e1
    have hc : xb = -4 := by simpa using hc
    subst hc
    obtain ⟨hl, t, hn, hs, hm⟩ := J
    have e2 : ck_qv st (fun v r => cz_if ((v.1 == 3 || v.1 == 9) && decide (ck_sum r ≤ 8)) (some (pc + 3, n, r, es, c1, c2, c3))) = some (pc', u') := e2
    obtain ⟨v, r, rfl, e3⟩ := ck_qv_some e2
    obtain ⟨hv, e4⟩ := cz_if_some e3
    simp only [Bool.and_eq_true, Bool.or_eq_true, beq_iff_eq, decide_eq_true_eq] at hv
    obtain ⟨x, cr, rfl, hx0, hr⟩ := ck_Ls.cons hs
    obtain ⟨p, rfl, -⟩ := ck_D39 hx0 hv.1
    cases e4
    refine rd (ρ2 := []) (cst' := cr) (fun _ _ => rfl) ?_ (by rw [List.append_nil]; exact ⟨hl, t, hn, hr, hm⟩) rfl
    show cz_n 3 3 (cz_if ((-4 : Int) == -4) (cz_if (decide (cz_sum cr ≤ 8)) (some (pc + 3, cr, h)))) = _
    rw [ck_sum_ok hr, decide_eq_true hv.2]
    rfl
  case invokestatic i =>
    obtain ⟨e0, e1⟩ := cz_n_some e
    have e0 : len = 3 := e0
    subst e0
    obtain ⟨hc, e2⟩ := cz_if_some e1
    have hc : xb = -5 := by simpa using hc
    subst hc
    obtain ⟨⟨st', es'⟩, e3, e4⟩ := cz_so_some e2
    cases e4
    obtain ⟨cst', h', s, hlen, J', fr, hz⟩ := ck_acp_ok (i := i) (pc := pc) (xa := xa) J e3
    refine ⟨[], Γ, B, cst', h', fun _ _ => rfl, s, ck_ext.rf, by rw [List.append_nil]; exact J', fr, Int.le_refl _, hu1, hu3, ?_, ?_, k3⟩
    · rw [hlen]; exact k1
    · rw [hz]; exact k2
  case getstatic i =>
    obtain ⟨e0, e1⟩ := cz_n_some e
    have e0 : len = 3 := e0
    subst e0
    obtain ⟨hl, t, hn, hs, hm⟩ := J
    have e1 : (if xa = 0 then some (pc + 3, n, ck_vi (ck_c 1) :: st, es, c1, c2, c3) else cz_if (xa == 1) (some (pc + 3, n, ((8, 0, 0, ck_c 0, ck_c 0) : ck_V) :: st, es, c1, c2, c3))) = some (pc', u') := e1
    by_cases h0 : xa = 0
    · rw [if_pos h0] at e1
      cases e1
      subst h0
      refine rd (ρ2 := []) (cst' := .int 1 :: cst) (fun _ _ => rfl) rfl (by
        rw [List.append_nil]
        exact ⟨hl, t, hn, ⟨fun σ => ⟨1, rfl, by show _ = ck_ev _ (ck_c 1); rw [ck_ev_c]; rfl⟩, hs⟩, hm⟩) rfl
    · rw [if_neg h0] at e1
      obtain ⟨h1, e2⟩ := cz_if_some e1
      have h1 : xa = 1 := by simpa using h1
      subst h1
      cases e2
      exact rd (ρ2 := []) (cst' := E.2.2.2.2 :: cst) (fun _ _ => rfl) rfl (by
        rw [List.append_nil]
        exact ⟨hl, t, hn, ⟨fun σ => ⟨rfl, hE.2.2.2.2.2⟩, hs⟩, hm⟩) rfl
  case iaload =>
    obtain ⟨e0, e1⟩ := cz_n_some e
    have e0 : len = 1 := e0
    subst e0
    obtain ⟨⟨n', st', es'⟩, e2, e3⟩ := cz_so_some e1
    cases e3
    obtain ⟨ρ2, cst', s, J'⟩ := ck_al_ok hE hBM hHl J e2
    exact rd (fun _ _ => rfl) s J' rfl
  case baload =>
    obtain ⟨e0, e1⟩ := cz_n_some e
    have e0 : len = 1 := e0
    subst e0
    obtain ⟨⟨n', st', es'⟩, e2, e3⟩ := cz_so_some e1
    cases e3
    obtain ⟨ρ2, cst', s, J'⟩ := ck_al_ok hE hBM hHl J e2
    exact rd (fun _ _ => rfl) s J' rfl
  case caload =>
    obtain ⟨e0, e1⟩ := cz_n_some e
    have e0 : len = 1 := e0
    subst e0
    obtain ⟨⟨n', st', es'⟩, e2, e3⟩ := cz_so_some e1
    cases e3
    obtain ⟨ρ2, cst', s, J'⟩ := ck_al_ok hE hBM hHl J e2
    exact rd (fun _ _ => rfl) s J' rfl
  case laload =>
    obtain ⟨e0, e1⟩ := cz_n_some e
    have e0 : len = 1 := e0
    subst e0
    obtain ⟨⟨n', st', es'⟩, e2, e3⟩ := cz_so_some e1
    cases e3
    obtain ⟨ρ2, cst', s, J'⟩ := ck_al_ok hE hBM hHl J e2
    exact rd (fun _ _ => rfl) s J' rfl
  case aaload =>
    obtain ⟨e0, e1⟩ := cz_n_some e
    have e0 : len = 1 := e0
    subst e0
    obtain ⟨⟨n', st', es'⟩, e2, e3⟩ := cz_so_some e1
    cases e3
    obtain ⟨ρ2, cst', s, J'⟩ := ck_al_ok hE hBM hHl J e2
    exact rd (fun _ _ => rfl) s J' rfl
  case iastore =>
    obtain ⟨e0, e1⟩ := cz_n_some e
    have e0 : len = 1 := e0
    subst e0
    obtain ⟨⟨n', st', es', c⟩, e2, e3⟩ := cz_so_some e1
    obtain ⟨hc, e4⟩ := cz_if_some e3
    have hc : c3 + c ≤ t3 := of_decide_eq_true hc
    cases e4
    obtain ⟨ρ2, cst', h', s, hlen, J', fr, hz⟩ := ck_as_ok hB J e2
    refine ⟨ρ2, Γ, B + c, cst', h', fun _ _ => rfl, s, ck_ext.rf, J', fr, by omega, hu1, hc, ?_, ?_, ?_⟩
    · rw [hlen]; exact k1
    · rw [hz]; exact k2
    · show B + (c : Int) ≤ B0 + ((c3 + c : Nat) : Int)
      push_cast; omega
  case bastore =>
    obtain ⟨e0, e1⟩ := cz_n_some e
    have e0 : len = 1 := e0
    subst e0
    obtain ⟨⟨n', st', es', c⟩, e2, e3⟩ := cz_so_some e1
    obtain ⟨hc, e4⟩ := cz_if_some e3
    have hc : c3 + c ≤ t3 := of_decide_eq_true hc
    cases e4
    obtain ⟨ρ2, cst', h', s, hlen, J', fr, hz⟩ := ck_as_ok hB J e2
    refine ⟨ρ2, Γ, B + c, cst', h', fun _ _ => rfl, s, ck_ext.rf, J', fr, by omega, hu1, hc, ?_, ?_, ?_⟩
    · rw [hlen]; exact k1
    · rw [hz]; exact k2
    · show B + (c : Int) ≤ B0 + ((c3 + c : Nat) : Int)
      push_cast; omega
  case castore =>
    obtain ⟨e0, e1⟩ := cz_n_some e
    have e0 : len = 1 := e0
    subst e0
    obtain ⟨⟨n', st', es', c⟩, e2, e3⟩ := cz_so_some e1
    obtain ⟨hc, e4⟩ := cz_if_some e3
    have hc : c3 + c ≤ t3 := of_decide_eq_true hc
    cases e4
    obtain ⟨ρ2, cst', h', s, hlen, J', fr, hz⟩ := ck_as_ok hB J e2
    refine ⟨ρ2, Γ, B + c, cst', h', fun _ _ => rfl, s, ck_ext.rf, J', fr, by omega, hu1, hc, ?_, ?_, ?_⟩
    · rw [hlen]; exact k1
    · rw [hz]; exact k2
    · show B + (c : Int) ≤ B0 + ((c3 + c : Nat) : Int)
      push_cast; omega
  case lastore =>
    obtain ⟨e0, e1⟩ := cz_n_some e
    have e0 : len = 1 := e0
    subst e0
    obtain ⟨⟨n', st', es', c⟩, e2, e3⟩ := cz_so_some e1
    obtain ⟨hc, e4⟩ := cz_if_some e3
    have hc : c3 + c ≤ t3 := of_decide_eq_true hc
    cases e4
    obtain ⟨ρ2, cst', h', s, hlen, J', fr, hz⟩ := ck_as_ok hB J e2
    refine ⟨ρ2, Γ, B + c, cst', h', fun _ _ => rfl, s, ck_ext.rf, J', fr, by omega, hu1, hc, ?_, ?_, ?_⟩
    · rw [hlen]; exact k1
    · rw [hz]; exact k2
    · show B + (c : Int) ≤ B0 + ((c3 + c : Nat) : Int)
      push_cast; omega
  case aastore =>
    obtain ⟨e0, e1⟩ := cz_n_some e
    have e0 : len = 1 := e0
    subst e0
    obtain ⟨⟨n', st', es', c⟩, e2, e3⟩ := cz_so_some e1
    obtain ⟨hc, e4⟩ := cz_if_some e3
    have hc : c3 + c ≤ t3 := of_decide_eq_true hc
    cases e4
    obtain ⟨ρ2, cst', h', s, hlen, J', fr, hz⟩ := ck_as_ok hB J e2
    refine ⟨ρ2, Γ, B + c, cst', h', fun _ _ => rfl, s, ck_ext.rf, J', fr, by omega, hu1, hc, ?_, ?_, ?_⟩
    · rw [hlen]; exact k1
    · rw [hz]; exact k2
    · show B + (c : Int) ≤ B0 + ((c3 + c : Nat) : Int)
      push_cast; omega
  all_goals cases e
