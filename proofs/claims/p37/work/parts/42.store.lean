/-! THE CHECKER IS SOUND: an element is written, the instructions -/
theorem ck_upd_ne {f : Nat → Int32} {i : Nat} {x : Int32} (j : Nat) (hj : j ≠ i) : ck_el (.inl (upd f i x)) j = ck_el (.inl f) j := by
  show Value.int (upd f i x j) = Value.int (f j)
  unfold upd
  rw [if_neg hj]
theorem ck_upd_eq {f : Nat → Int32} {i : Nat} {x : Int32} : ck_el (.inl (upd f i x)) i = .int x := by
  show Value.int (upd f i x i) = Value.int x
  unfold upd
  rw [if_pos rfl]
theorem ck_upd_ex {f : Nat → Int32} {i : Nat} {x : Int32} (f0 : Nat → Int32) (e : (Sum.inl f : (Nat → Int32) ⊕ (Nat → Int64) ⊕ (Nat → UInt32) ⊕ (Nat → UInt64) ⊕ (Nat → Option Nat)) = .inl f0) : ∃ f', (Sum.inl (upd f i x) : (Nat → Int32) ⊕ (Nat → Int64) ⊕ (Nat → UInt32) ⊕ (Nat → UInt64) ⊕ (Nat → Option Nat)) = .inl f' ∧ ∀ j, j ≠ i → f' j = f0 j := by
  cases e
  refine ⟨_, rfl, fun j hj => ?_⟩
  unfold upd
  rw [if_neg hj]
section CKS3
variable {E : cz_E} {Γ : ck_G} {B : Int} {ρ : List Int} {n n' : ck_N} {st st' : List ck_V} {es es' : List ck_Q} {cst : List Value} {h : cz_H} {W : List (Nat × Nat)}
set_option maxHeartbeats 1000000 in
theorem ck_as_ok {ins : Instr} {pc xa c : Nat} {xb : Int} (hB : 0 ≤ B) (J : ck_J E Γ B ρ n st es cst h) (e : ck_as W (pc, ins, 1, xa, xb) n st es = some (n', st', es', c)) : ∃ ρ2 cst' h', cz_s2 E (pc, ins, 1, xa, xb) cst h = some (pc + 1, cst', h') ∧ h'.length = h.length ∧ ck_J E Γ (B + c) (ρ ++ ρ2) n' st' es' cst' h' ∧ ck_Fr W Γ h h' ∧ cz_sz h' = cz_sz h := by
  obtain ⟨hl, t, hn, hs, hm⟩ := J
  unfold ck_as at e
  obtain ⟨v0, r0, rfl, e1⟩ := ck_qv_some e
  obtain ⟨i0, r1, rfl, t0, e2⟩ := ck_qi_some e1
  obtain ⟨a0, r, rfl, e3⟩ := ck_qv_some e2
  clear e e1 e2
  obtain ⟨x, cr0, rfl, hx0, hr0⟩ := ck_Ls.cons hs
  obtain ⟨xi, cr1, rfl, hi0, hr1⟩ := ck_Ls.cons hr0
  obtain ⟨xa0, cr, rfl, ha0, hr⟩ := ck_Ls.cons hr1
  obtain ⟨z, rfl, hz⟩ := ck_int hi0 t0
  generalize i0.2.2.2.1 = ix at e3 hz
  simp only at e3
  have hva := ck_nz_ok hn hm ha0
  have hvx := ck_nz_ok hn hm hx0
  generalize ck_nz n es a0 = a at e3 hva
  generalize ck_nz n es v0 = v at e3 hvx
  obtain ⟨t3, e4⟩ := cz_if_some e3
  have t3 : a.1 = 3 := by simpa using t3
  obtain ⟨k, hk, e5⟩ := cz_so_some e4
  obtain ⟨cnd, e6⟩ := cz_if_some e5
  obtain ⟨cnd, hw⟩ := Bool.and_eq_true_iff.mp cnd
  obtain ⟨htc, hin⟩ := Bool.and_eq_true_iff.mp cnd
  obtain ⟨c', hst, e7⟩ := cz_so_some e6
  injection e7 with e7
  injection e7 with a1 a2
  injection a2 with a2 a3
  injection a3 with a3 a4
  subst a4
  subst a1
  subst a2
  subst a3
  clear e3 e4 e5 e6
  obtain ⟨p, rfl, hp, m, hg, -⟩ := ck_D39 hva (Or.inl t3)
  obtain ⟨y, ha, hsh, hrw, hty⟩ := ck_arr t hg hk
  have b1 := ck_inr_ok (hn []) hin
  rw [ck_ev_c, ← hz []] at b1
  obtain ⟨z1, z2⟩ := ck_in_of b1.1 b1.2
  have hzi : ∀ σ, ((z.toNatClampNeg : Nat) : Int) = ck_ev (ρ ++ σ) ix := fun σ => by rw [z2, hz σ]
  have hzl : z.toNatClampNeg < k.2.1 := by omega
  generalize hzn : z.toNatClampNeg = i at hzi hzl
  -- all by the core, once the new row is known
  have fin : ∀ {ρ2 : List Int} {x' : Value} {y' : (Nat → Int32) ⊕ (Nat → Int64) ⊕ (Nat → UInt32) ⊕ (Nat → UInt64) ⊕ (Nat → Option Nat)}, (ρ ++ ρ2).length = (ck_nar n k.1 v).1.1.length → (∀ σ, ck_nok (ck_nar n k.1 v).1 ((ρ ++ ρ2) ++ σ)) → ck_Ds E Γ (ρ ++ ρ2) (ck_nar n k.1 v).2 x' → cz_s2 E (pc, ins, 1, xa, xb) (x :: .int z :: .ref (E.1 + p) :: cr) h = some (pc + 1, cr, h.set p (.inl (k.1, k.2.1, y'))) → ck_sh k.1 y' → (∀ j, j ≠ i → ck_el y' j = ck_el y j) → ck_el y' i = x' → (∀ f, y = .inl f → ∃ f', y' = .inl f' ∧ ∀ j, j ≠ i → f' j = f j) → (∀ f', y' = .inl f' → ∃ f, y = .inl f) → ∃ ρ2 cst' h', cz_s2 E (pc, ins, 1, xa, xb) (x :: .int z :: .ref (E.1 + p) :: cr) h = some (pc + 1, cst', h') ∧ h'.length = h.length ∧ ck_J E Γ (B + c') (ρ ++ ρ2) (ck_rc3 k.2.1 (ck_nar n k.1 v).1 (ck_cnt (ck_nar n k.1 v).1 es a.2.2.1 a.2.1 ix (ck_nar n k.1 v).2 0 (ck_cnt (ck_nar n k.1 v).1 es a.2.2.1 a.2.1 ix (ck_nar n k.1 v).2 1 ((1, a.2.1, a.2.2.1, 0, ix, (ck_nar n k.1 v).2) :: es.filter (ck_ka (ck_nar n k.1 v).1 a.2.2.1 a.2.1 ix))))) r (if k.2.2.1 = 3 then ck_pre4 (ck_nar n k.1 v).1 a.2.1 a.2.2.1 (ck_cnt (ck_nar n k.1 v).1 es a.2.2.1 a.2.1 ix (ck_nar n k.1 v).2 0 (ck_cnt (ck_nar n k.1 v).1 es a.2.2.1 a.2.1 ix (ck_nar n k.1 v).2 1 ((1, a.2.1, a.2.2.1, 0, ix, (ck_nar n k.1 v).2) :: es.filter (ck_ka (ck_nar n k.1 v).1 a.2.2.1 a.2.1 ix)))) else ck_cnt (ck_nar n k.1 v).1 es a.2.2.1 a.2.1 ix (ck_nar n k.1 v).2 0 (ck_cnt (ck_nar n k.1 v).1 es a.2.2.1 a.2.1 ix (ck_nar n k.1 v).2 1 ((1, a.2.1, a.2.2.1, 0, ix, (ck_nar n k.1 v).2) :: es.filter (ck_ka (ck_nar n k.1 v).1 a.2.2.1 a.2.1 ix)))) cst' h' ∧ ck_Fr W Γ h h' ∧ cz_sz h' = cz_sz h := by
    intro ρ2 x' y' f1 f2 f3 f4 f5 f6 f7 f8 f9
    obtain ⟨g1, g2, g3⟩ := ck_as_core (W := W) hB f1 t f2 (ck_Ls.imp (fun _ _ z => ck_Ds_app ρ2 z) hr) (ck_Ms_app ρ2 hm) (fun σ => by rw [List.append_assoc]; exact hp _) hg hk ha hrw hty (fun σ => by rw [List.append_assoc]; exact hzi _) hzl f3 hst hw f5 f6 f7 f8 f9
    exact ⟨ρ2, cr, _, f4, by rw [List.length_set], g1, g2, g3⟩
  have zero : (ρ ++ []).length = n.1.length ∧ (∀ σ, ck_nok n ((ρ ++ []) ++ σ)) := by
    rw [List.append_nil]
    exact ⟨hl, hn⟩
  obtain ⟨tc, len, tt, sp⟩ := k
  unfold ck_tcs at htc
  split at htc
  · simp only [Bool.and_eq_true, Bool.or_eq_true, beq_iff_eq, decide_eq_true_eq] at htc
    obtain ⟨k0, ks⟩ := htc
    subst k0
    have hnar : ck_nar n 0 v = (n, v) := by
      unfold ck_nar
      rw [if_neg (by omega)]
    have hst2 := hst
    simp only [hnar] at hst2
    have tv : v.1 = 0 := ck_stv_int hst2 (by simp only; omega)
    obtain ⟨zx, rfl, hzx⟩ := ck_int hvx tv
    rcases y with f | g | g | g | g
    · refine fin (ρ2 := []) (x' := .int zx) (y' := .inl (upd f i zx)) (by simp only [hnar]; exact zero.1) (by simp only [hnar]; exact zero.2) (by simp only [hnar]; exact ck_Ds_app [] hvx) ?_ hsh ck_upd_ne ck_upd_eq ck_upd_ex (fun _ _ => ⟨f, rfl⟩)
      show cz_n 1 1 (cz_ai (cz_at E h (E.1 + p)) fun tc n f => cz_if (tc == 0 && cz_in z n) (some (pc + 1, cr, h.set (E.1 + p - E.1) (.inl (0, n, .inl (upd f z.toNatClampNeg zx)))))) = _
      rw [cz_at_add, ha]
      show cz_n 1 1 (cz_if (0 == 0 && cz_in z len) (some (pc + 1, cr, h.set (E.1 + p - E.1) (.inl (0, len, .inl (upd f z.toNatClampNeg zx)))))) = _
      rw [z1, Nat.add_sub_cancel_left, hzn]
      rfl
    · cases hsh
    · exact hsh.elim
    · exact hsh.elim
    · rcases hsh with q | q <;> cases q
  · simp only [Bool.and_eq_true, Bool.or_eq_true, beq_iff_eq, decide_eq_true_eq] at htc
    obtain ⟨⟨kt, ks⟩, kk⟩ := htc
    subst kt
    rcases kk with kk | ⟨⟨kk, klo⟩, khi⟩
    · subst kk
      by_cases hb : v.1 = 0 ∧ ck_btw n v.2.2.2.1 (-128) 127 = false
      · have hnar : ck_nar n 1 v = ck_fr n (-128) 127 := by
          unfold ck_nar
          rw [if_pos ⟨rfl, hb⟩]
        obtain ⟨zx, rfl, hzx⟩ := ck_int hvx hb.1
        obtain ⟨ρ2, g1, g2⟩ := ck_fr_ok (E := E) (Γ := Γ) (z := zx.toInt8.toInt32) hl hn (ck_i2b zx)
        rcases y with f | g | g | g | g
        · refine fin (ρ2 := ρ2) (x' := .int zx.toInt8.toInt32) (y' := .inl (upd f i zx.toInt8.toInt32)) (by simp only [hnar]; exact g1) (by simp only [hnar]; exact fun σ => (g2 σ).1) (by simp only [hnar]; exact fun σ => (g2 σ).2) ?_ hsh ck_upd_ne ck_upd_eq ck_upd_ex (fun _ _ => ⟨f, rfl⟩)
          show cz_n 1 1 (cz_ai (cz_at E h (E.1 + p)) fun tc n f => cz_if ((tc == 1 || tc == 4) && cz_in z n) (some (pc + 1, cr, h.set (E.1 + p - E.1) (.inl (tc, n, .inl (upd f z.toNatClampNeg (vp_nar (cz_ty tc) zx))))))) = _
          rw [cz_at_add, ha]
          show cz_n 1 1 (cz_if ((1 == 1 || 1 == 4) && cz_in z len) (some (pc + 1, cr, h.set (E.1 + p - E.1) (.inl (1, len, .inl (upd f z.toNatClampNeg zx.toInt8.toInt32)))))) = _
          rw [z1, Nat.add_sub_cancel_left, hzn]
          rfl
        · cases hsh
        · exact hsh.elim
        · exact hsh.elim
        · rcases hsh with q | q <;> cases q
      · have hnar : ck_nar n 1 v = (n, v) := by
          unfold ck_nar
          rw [if_neg (fun q => hb q.2)]
        have hst2 := hst
        simp only [hnar] at hst2
        have tv : v.1 = 0 := ck_stv_int hst2 (Or.inr (Or.inl ks))
        have hbt : ck_btw n v.2.2.2.1 (-128) 127 = true := by
          cases q : ck_btw n v.2.2.2.1 (-128) 127 with
          | true => rfl
          | false => exact absurd ⟨tv, q⟩ hb
        obtain ⟨zx, rfl, hzx⟩ := ck_int hvx tv
        have hd : ck_Ds E Γ ρ v (.int zx.toInt8.toInt32) := by
          intro σ
          have b := ck_btw_ok (hn σ) hbt
          rw [← hzx σ] at b
          unfold ck_D
          rw [tv]
          exact ⟨_, rfl, (ck_i2b_id b.1 b.2).trans (hzx σ)⟩
        rcases y with f | g | g | g | g
        · refine fin (ρ2 := []) (x' := .int zx.toInt8.toInt32) (y' := .inl (upd f i zx.toInt8.toInt32)) (by simp only [hnar]; exact zero.1) (by simp only [hnar]; exact zero.2) (by simp only [hnar]; exact ck_Ds_app [] hd) ?_ hsh ck_upd_ne ck_upd_eq ck_upd_ex (fun _ _ => ⟨f, rfl⟩)
          show cz_n 1 1 (cz_ai (cz_at E h (E.1 + p)) fun tc n f => cz_if ((tc == 1 || tc == 4) && cz_in z n) (some (pc + 1, cr, h.set (E.1 + p - E.1) (.inl (tc, n, .inl (upd f z.toNatClampNeg (vp_nar (cz_ty tc) zx))))))) = _
          rw [cz_at_add, ha]
          show cz_n 1 1 (cz_if ((1 == 1 || 1 == 4) && cz_in z len) (some (pc + 1, cr, h.set (E.1 + p - E.1) (.inl (1, len, .inl (upd f z.toNatClampNeg zx.toInt8.toInt32)))))) = _
          rw [z1, Nat.add_sub_cancel_left, hzn]
          rfl
        · cases hsh
        · exact hsh.elim
        · exact hsh.elim
        · rcases hsh with q | q <;> cases q
    · subst kk
      have hnar : ck_nar n 4 v = (n, v) := by
        unfold ck_nar
        rw [if_neg (by omega)]
      have hst2 := hst
      simp only [hnar] at hst2
      have tv : v.1 = 0 := ck_stv_int hst2 (Or.inr (Or.inl ks))
      have hfit := ck_fit_ok (B := B) (hn []) (hvx []) (ck_stv_fit hst2 rfl (by rw [ks]; decide))
      obtain ⟨zx, rfl, hzx⟩ := ck_int hvx tv
      unfold ck_vs at hfit
      simp only [ks] at hfit
      obtain ⟨zz, q1, q2, q3⟩ := hfit
      have q1 : zx = zz := by injection q1
      subst q1
      have hb : vp_nar .boolean zx = zx := by
        rcases ck_01 (z := zx) (by omega) (by omega) with q | q
        · subst q; rfl
        · subst q; rfl
      rcases y with f | g | g | g | g
      · refine fin (ρ2 := []) (x' := .int zx) (y' := .inl (upd f i zx)) (by simp only [hnar]; exact zero.1) (by simp only [hnar]; exact zero.2) (by simp only [hnar]; exact ck_Ds_app [] hvx) ?_ hsh ck_upd_ne ck_upd_eq ck_upd_ex (fun _ _ => ⟨f, rfl⟩)
        show cz_n 1 1 (cz_ai (cz_at E h (E.1 + p)) fun tc n f => cz_if ((tc == 1 || tc == 4) && cz_in z n) (some (pc + 1, cr, h.set (E.1 + p - E.1) (.inl (tc, n, .inl (upd f z.toNatClampNeg (vp_nar (cz_ty tc) zx))))))) = _
        rw [cz_at_add, ha]
        show cz_n 1 1 (cz_if ((4 == 1 || 4 == 4) && cz_in z len) (some (pc + 1, cr, h.set (E.1 + p - E.1) (.inl (4, len, .inl (upd f z.toNatClampNeg (vp_nar .boolean zx))))))) = _
        rw [z1, Nat.add_sub_cancel_left, hzn, hb]
        rfl
      · cases hsh
      · exact hsh.elim
      · exact hsh.elim
      · rcases hsh with q | q <;> cases q
  · simp only [Bool.and_eq_true, beq_iff_eq, decide_eq_true_eq] at htc
    obtain ⟨⟨⟨⟨kt, ks⟩, kk⟩, klo⟩, khi⟩ := htc
    subst kt
    subst kk
    have hnar : ck_nar n 3 v = (n, v) := by
      unfold ck_nar
      rw [if_neg (by omega)]
    have hst2 := hst
    simp only [hnar] at hst2
    have tv : v.1 = 0 := ck_stv_int hst2 (Or.inr (Or.inl ks))
    have hfit := ck_fit_ok (B := B) (hn []) (hvx []) (ck_stv_fit hst2 rfl (by rw [ks]; decide))
    obtain ⟨zx, rfl, hzx⟩ := ck_int hvx tv
    unfold ck_vs at hfit
    simp only [ks] at hfit
    obtain ⟨zz, q1, q2, q3⟩ := hfit
    have q1 : zx = zz := by injection q1
    subst q1
    have hb : vp_nar .char zx = zx := ck_nar_char (by omega) (by omega)
    rcases y with f | g | g | g | g
    · refine fin (ρ2 := []) (x' := .int zx) (y' := .inl (upd f i zx)) (by simp only [hnar]; exact zero.1) (by simp only [hnar]; exact zero.2) (by simp only [hnar]; exact ck_Ds_app [] hvx) ?_ hsh ck_upd_ne ck_upd_eq ck_upd_ex (fun _ _ => ⟨f, rfl⟩)
      show cz_n 1 1 (cz_ai (cz_at E h (E.1 + p)) fun tc n f => cz_if (tc == 3 && cz_in z n) (some (pc + 1, cr, h.set (E.1 + p - E.1) (.inl (3, n, .inl (upd f z.toNatClampNeg (vp_nar .char zx))))))) = _
      rw [cz_at_add, ha]
      show cz_n 1 1 (cz_if (3 == 3 && cz_in z len) (some (pc + 1, cr, h.set (E.1 + p - E.1) (.inl (3, len, .inl (upd f z.toNatClampNeg (vp_nar .char zx))))))) = _
      rw [z1, Nat.add_sub_cancel_left, hzn, hb]
      rfl
    · cases hsh
    · exact hsh.elim
    · exact hsh.elim
    · rcases hsh with q | q <;> cases q
  · simp only [Bool.and_eq_true, beq_iff_eq] at htc
    obtain ⟨⟨kt, ks⟩, kk⟩ := htc
    subst kt
    subst kk
    have hnar : ck_nar n 2 v = (n, v) := by
      unfold ck_nar
      rw [if_neg (by omega)]
    have hst2 := hst
    simp only [hnar] at hst2
    have hfit := ck_fit_ok (B := B) (hn []) (hvx []) (ck_stv_fit hst2 rfl (by rw [ks]; decide))
    unfold ck_vs at hfit
    simp only [ks] at hfit
    obtain ⟨zx, rfl⟩ := hfit
    rcases y with f | g | g | g | g
    · rcases hsh with q | q | q | q <;> cases q
    · refine fin (ρ2 := []) (x' := .long zx) (y' := .inr (.inl (vp_updL g i zx))) (by simp only [hnar]; exact zero.1) (by simp only [hnar]; exact zero.2) (by simp only [hnar]; exact ck_Ds_app [] hvx) ?_ hsh (fun j hj => by show Value.long (vp_updL g i zx j) = Value.long (g j); unfold vp_updL; rw [if_neg hj]) (by show Value.long (vp_updL g i zx i) = Value.long zx; unfold vp_updL; rw [if_pos rfl]) (fun _ q => by cases q) (fun _ q => by cases q)
      show cz_n 1 1 (cz_al (cz_at E h (E.1 + p)) fun tc n f => cz_if (tc == 2 && cz_in z n) (some (pc + 1, cr, h.set (E.1 + p - E.1) (.inl (2, n, .inr (.inl (vp_updL f z.toNatClampNeg zx))))))) = _
      rw [cz_at_add, ha]
      show cz_n 1 1 (cz_if (2 == 2 && cz_in z len) (some (pc + 1, cr, h.set (E.1 + p - E.1) (.inl (2, len, .inr (.inl (vp_updL g z.toNatClampNeg zx))))))) = _
      rw [z1, Nat.add_sub_cancel_left, hzn]
      rfl
    · exact hsh.elim
    · exact hsh.elim
    · rcases hsh with q | q <;> cases q
  · simp only [Bool.and_eq_true, Bool.or_eq_true, beq_iff_eq] at htc
    obtain ⟨kt, kk⟩ := htc
    subst kt
    have hk1 : tc ≠ 1 := by omega
    have hnar : ck_nar n tc v = (n, v) := by
      unfold ck_nar
      rw [if_neg (fun q => hk1 q.1)]
    have ks : sp.1 = 3 := by omega
    have hst2 := hst
    simp only [hnar] at hst2
    have hfit := ck_fit_ok (B := B) (hn []) (hvx []) (ck_stv_fit hst2 rfl (by rw [ks]; decide))
    unfold ck_vs at hfit
    simp only [ks] at hfit
    have htc2 : (tc == 5 || tc == 6) = true := by
      simp only [Bool.or_eq_true, beq_iff_eq]
      omega
    rcases y with f | g | g | g | g
    · rcases hsh with q | q | q | q <;> omega
    · have hsh : tc = 2 := hsh
      omega
    · exact hsh.elim
    · exact hsh.elim
    · have put : ∀ {w : Option Nat}, va_rf w = x → cz_s2 E (pc, .aastore, 1, xa, xb) (x :: .int z :: .ref (E.1 + p) :: cr) h = some (pc + 1, cr, h.set p (.inl (tc, len, .inr (.inr (.inr (.inr (va_up g i w))))))) → _ := fun {w} hw2 stp => fin (ρ2 := []) (x' := x) (y' := .inr (.inr (.inr (.inr (va_up g i w))))) (by simp only [hnar]; exact zero.1) (by simp only [hnar]; exact zero.2) (by simp only [hnar]; exact ck_Ds_app [] hvx) stp hsh (fun j hj => by show va_rf (va_up g i w j) = va_rf (g j); rw [va_up_ne g w hj]) (by show va_rf (va_up g i w i) = x; rw [va_up_self]; exact hw2) (fun _ q => by cases q) (fun _ q => by cases q)
      rcases hfit with rfl | ⟨o, rfl, ho1, m2, ho2, ho3⟩
      · refine put (w := none) rfl ?_
        show cz_n 1 1 (cz_aq (cz_at E h (E.1 + p)) fun tc n f => cz_if ((tc == 5 || tc == 6) && cz_in z n) (some (pc + 1, cr, h.set (E.1 + p - E.1) (.inl (tc, n, .inr (.inr (.inr (.inr (va_up f z.toNatClampNeg none))))))))) = _
        rw [cz_at_add, ha]
        show cz_n 1 1 (cz_if ((tc == 5 || tc == 6) && cz_in z len) (some (pc + 1, cr, h.set (E.1 + p - E.1) (.inl (tc, len, .inr (.inr (.inr (.inr (va_up g z.toNatClampNeg none))))))))) = _
        rw [htc2, z1, Nat.add_sub_cancel_left, hzn]
        rfl
      · obtain ⟨c2, d1, d2⟩ := t.at ho1 ho2
        have hcell : ∃ vs, c2 = .inr (sp.2.2.2, vs) := by
          unfold ck_cell at d2
          split at d2
          · next o2 ho2 =>
            obtain ⟨vs, q1, -⟩ := d2
            exact ⟨vs, by rw [q1, ck_kt_obj ho2]⟩
          · next r2 hr2 =>
            exfalso
            have e9 : ck_kt[(sp.2.2.2, m2).1]? = some (.inr r2) := hr2
            have h9 : ∀ q : Nat, (q = 9 ∨ q = 10) → ∀ r2, ck_kt[q]? ≠ some (.inr r2) := by
              intro q hq r2
              rcases hq with rfl | rfl
              · show ck_kt[9]? ≠ _
                intro z9
                have : (match ck_kt[9]? with | some (.inl _) => true | _ => false) = true := by decide +kernel
                rw [z9] at this
                cases this
              · show ck_kt[10]? ≠ _
                intro z9
                have : (match ck_kt[10]? with | some (.inl _) => true | _ => false) = true := by decide +kernel
                rw [z9] at this
                cases this
            exact h9 _ (show sp.2.2.2 = 9 ∨ sp.2.2.2 = 10 by omega) _ e9
          · exact d2.elim
        obtain ⟨vs, rfl⟩ := hcell
        have hkind : ((tc == 5 && sp.2.2.2 == 10) || (tc == 6 && sp.2.2.2 == 9)) = true := by
          simp only [Bool.or_eq_true, Bool.and_eq_true, beq_iff_eq]
          omega
        refine put (w := some o) rfl ?_
        show cz_n 1 1 (cz_aq (cz_at E h (E.1 + p)) fun tc n f => cz_if ((tc == 5 || tc == 6) && cz_in z n) (cz_ob (cz_at E h o) fun ci _ => cz_if ((tc == 5 && ci == 10) || (tc == 6 && ci == 9)) (some (pc + 1, cr, h.set (E.1 + p - E.1) (.inl (tc, n, .inr (.inr (.inr (.inr (va_up f z.toNatClampNeg (some o)))))))))))  = _
        rw [cz_at_add, ha]
        show cz_n 1 1 (cz_if ((tc == 5 || tc == 6) && cz_in z len) (cz_ob (cz_at E h o) fun ci _ => cz_if ((tc == 5 && ci == 10) || (tc == 6 && ci == 9)) (some (pc + 1, cr, h.set (E.1 + p - E.1) (.inl (tc, len, .inr (.inr (.inr (.inr (va_up g z.toNatClampNeg (some o))))))))))) = _
        rw [htc2, z1, d1]
        show cz_n 1 1 (cz_if ((tc == 5 && sp.2.2.2 == 10) || (tc == 6 && sp.2.2.2 == 9)) (some (pc + 1, cr, h.set (E.1 + p - E.1) (.inl (tc, len, .inr (.inr (.inr (.inr (va_up g z.toNatClampNeg (some o)))))))))) = _
        rw [hkind, Nat.add_sub_cancel_left, hzn]
        rfl
  · cases htc
end CKS3
