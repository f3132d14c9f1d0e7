/-! THE CHECKER: a step without the heap is sound -/
theorem ck_qv_some {α : Type} {st : List ck_V} {k : ck_V → List ck_V → Option α} {r : α} (h : ck_qv st k = some r) : ∃ v rest, st = v :: rest ∧ k v rest = some r := by
  unfold ck_qv at h
  split at h
  · exact ⟨_, _, rfl, h⟩
  · cases h
theorem ck_qi_some {α : Type} {st : List ck_V} {k : ck_A → List ck_V → Option α} {r : α} (h : ck_qi st k = some r) : ∃ v rest, st = v :: rest ∧ v.1 = 0 ∧ k v.2.2.2.1 rest = some r := by
  unfold ck_qi at h
  split at h
  · split at h
    · exact ⟨_, _, rfl, by assumption, h⟩
    · cases h
  · cases h
theorem ck_ql_some {α : Type} {st : List ck_V} {k : ck_A → List ck_V → Option α} {r : α} (h : ck_ql st k = some r) : ∃ v rest, st = v :: rest ∧ v.1 = 1 ∧ k v.2.2.2.1 rest = some r := by
  unfold ck_ql at h
  split at h
  · split at h
    · exact ⟨_, _, rfl, by assumption, h⟩
    · cases h
  · cases h
theorem ck_qj_some {α : Type} {st : List ck_V} {k : ck_A → ck_A → List ck_V → Option α} {r : α} (h : ck_qj st k = some r) : ∃ y x rest, st = y :: x :: rest ∧ y.1 = 0 ∧ x.1 = 0 ∧ k x.2.2.2.1 y.2.2.2.1 rest = some r := by
  unfold ck_qj at h
  split at h
  · split at h
    · next e => exact ⟨_, _, _, rfl, e.1, e.2, h⟩
    · cases h
  · cases h
theorem ck_qk_some {α : Type} {st : List ck_V} {k : ck_A → ck_A → List ck_V → Option α} {r : α} (h : ck_qk st k = some r) : ∃ y x rest, st = y :: x :: rest ∧ y.1 = 1 ∧ x.1 = 1 ∧ k x.2.2.2.1 y.2.2.2.1 rest = some r := by
  unfold ck_qk at h
  split at h
  · split at h
    · next e => exact ⟨_, _, _, rfl, e.1, e.2, h⟩
    · cases h
  · cases h
theorem ck_lon_some {α : Type} {st : List ck_V} {k : ck_A → ck_A → List ck_V → Option α} {r : α} (h : ck_lon st k = some r) : ∃ y x rest, st = y :: x :: rest ∧ y.1 = 0 ∧ x.1 = 1 ∧ k x.2.2.2.1 y.2.2.2.1 rest = some r := by
  unfold ck_lon at h
  split at h
  · split at h
    · next e => exact ⟨_, _, _, rfl, e.1, e.2, h⟩
    · cases h
  · cases h
theorem ck_lo_some {α : Type} {v : Option ck_V} {k : ck_V → Option α} {r : α} (h : ck_lo v k = some r) : ∃ x, v = some x ∧ k x = some r := by
  unfold ck_lo at h
  split at h
  · exact ⟨_, rfl, h⟩
  · cases h
theorem ck_Ls.cons {α β : Type} {P : α → β → Prop} {a : α} {l : List α} {r : List β} (h : ck_Ls P (a :: l) r) : ∃ b s, r = b :: s ∧ P a b ∧ ck_Ls P l s := by
  cases r with
  | nil => exact h.elim
  | cons b s => exact ⟨b, s, rfl, h.1, h.2⟩
section CKB
variable {E : cz_E} {Γ : ck_G} {ρ : List Int}
theorem ck_int {v : ck_V} {x : Value} (h : ∀ σ, ck_D E Γ (ρ ++ σ) v x) (t : v.1 = 0) : ∃ z : Int32, x = .int z ∧ ∀ σ, z.toInt = ck_ev (ρ ++ σ) v.2.2.2.1 := by
  obtain ⟨z, rfl, -⟩ := ck_D_i (h []) t
  refine ⟨z, rfl, fun σ => ?_⟩
  obtain ⟨z', e, h'⟩ := ck_D_i (h σ) t
  cases e
  exact h'
theorem ck_lng {v : ck_V} {x : Value} (h : ∀ σ, ck_D E Γ (ρ ++ σ) v x) (t : v.1 = 1) : ∃ z : Int64, x = .long z ∧ ∀ σ, z.toInt = ck_ev (ρ ++ σ) v.2.2.2.1 := by
  obtain ⟨z, rfl, -⟩ := ck_D_l (h []) t
  refine ⟨z, rfl, fun σ => ?_⟩
  obtain ⟨z', e, h'⟩ := ck_D_l (h σ) t
  cases e
  exact h'
theorem ck_isa {v : ck_V} {x : Value} (h : ck_D E Γ ρ v x) (t : 3 ≤ v.1) : cz_isA x = true := by
  obtain ⟨t0, p, k, a, b⟩ := v
  unfold ck_D at h
  simp only at h t
  split at h
  · omega
  · omega
  · omega
  · obtain ⟨z, rfl, -⟩ := h; rfl
  · rcases h with ⟨rfl, -⟩ | ⟨z, rfl, -⟩ <;> rfl
  · subst h; rfl
  · obtain ⟨z, -, rfl, -⟩ := h; rfl
  · obtain ⟨rfl, -⟩ := h; rfl
  · exact h.2
  · obtain ⟨z, rfl, -⟩ := h; rfl
  · obtain ⟨z, -, rfl, -⟩ := h; rfl
  · exact h.elim
theorem ck_lkA {lv : ck_LV} {clv : cz_LV} {i : Nat} {v : ck_V} (h : ∀ σ, ck_LR E Γ (ρ ++ σ) lv clv) (e : ck_lk lv i = some v) : ∃ x, cz_lk clv i = some x ∧ ∀ σ, ck_D E Γ (ρ ++ σ) v x := by
  obtain ⟨x, e1, -⟩ := ck_lk_ok (h []) e
  refine ⟨x, e1, fun σ => ?_⟩
  obtain ⟨x', e2, h2⟩ := ck_lk_ok (h σ) e
  cases e1.symm.trans e2
  exact h2
theorem ck_cst {n : ck_N} {k : Int} {z : Int32} (hl : ρ.length = n.1.length) (hn : ∀ σ, ck_nok n (ρ ++ σ)) (hz : z.toInt = k) : ck_Y E Γ ρ n (ck_vi (ck_c k)) (.int z) := ck_Y.same hl hn fun σ => ⟨z, rfl, by show z.toInt = ck_ev _ (ck_c k); rw [ck_ev_c]; exact hz⟩
theorem ck_cstL {n : ck_N} {k : Int} {z : Int64} (hl : ρ.length = n.1.length) (hn : ∀ σ, ck_nok n (ρ ++ σ)) (hz : z.toInt = k) : ck_Y E Γ ρ n (ck_vl (ck_c k)) (.long z) := ck_Y.same hl hn fun σ => ⟨z, rfl, by show z.toInt = ck_ev _ (ck_c k); rw [ck_ev_c]; exact hz⟩
theorem ck_k32_ok {k : Int} (h : ck_k32 k = true) : (Int32.ofInt k).toInt = k := by
  simp only [ck_k32, Bool.and_eq_true, decide_eq_true_eq] at h
  rw [Int32.toInt_ofInt]
  exact ck_bm h
theorem ck_k64_ok {k : Int} (h : ck_k64 k = true) : (Int64.ofInt k).toInt = k := by
  simp only [ck_k64, Bool.and_eq_true, decide_eq_true_eq] at h
  rw [Int64.toInt_ofInt]
  exact ck_bmL h
set_option maxHeartbeats 4000000 in
theorem ck_x1_ok {nL : Nat} {q : cz_I} {n : ck_N} {lv : ck_LV} {st : List ck_V} {s : ck_S1} {clv : cz_LV} {cst : List Value} (h : ck_x1 nL q n lv st = some s) (hR : ck_Q1 E Γ ρ (n, q.1, lv, st) clv cst) : ∃ ρ2 clv' cst', cz_s1 E nL q clv cst = some (s.2.1, clv', cst') ∧ ck_Q1 E Γ (ρ ++ ρ2) s clv' cst' := by
  obtain ⟨hl, hA⟩ := hR
  have hl : ρ.length = n.1.length := hl
  have hn : ∀ σ, ck_nok n (ρ ++ σ) := fun σ => (hA σ).1
  have hv : ∀ σ, ck_LR E Γ (ρ ++ σ) lv clv := fun σ => (hA σ).2.1
  have hs0 : ∀ σ, ck_Ls (ck_D E Γ (ρ ++ σ)) st cst := fun σ => (hA σ).2.2
  have hs := ck_Ls.all hs0
  clear hA
  have back : ∀ {l : List ck_V} {r : List Value}, ck_Ls (fun a b => ∀ σ, ck_D E Γ (ρ ++ σ) a b) l r → ∀ σ, ck_Ls (ck_D E Γ (ρ ++ σ)) l r := fun z σ => ck_Ls.imp (fun a b hab => hab σ) z
  have pu : ∀ {p : ck_N × ck_V} {pc : Nat} {r : List ck_V} {x : Value} {cr : List Value}, ck_pu p pc lv r = some s → ck_Y E Γ ρ p.1 p.2 x → (∀ σ, ck_Ls (ck_D E Γ (ρ ++ σ)) r cr) → cz_s1 E nL q clv cst = some (pc, clv, x :: cr) → ∃ ρ2 clv' cst', cz_s1 E nL q clv cst = some (s.2.1, clv', cst') ∧ ck_Q1 E Γ (ρ ++ ρ2) s clv' cst' := by
    intro p pc r x cr e Y hr e2
    obtain ⟨ρ2, h2⟩ := ck_Q1.push (pc := pc) hv hr Y
    cases e
    exact ⟨ρ2, clv, _, e2, h2⟩
  obtain ⟨pc, ins, len, xa, xb⟩ := q
  cases ins
  case iconst k =>
    obtain ⟨e0, h1⟩ := cz_n_some h
    have e0 : len = 1 := e0
    subst e0
    obtain ⟨e1, h2⟩ := cz_if_some h1
    exact pu h2 (ck_cst hl hn (ck_k32_ok e1)) hs0 rfl
  case bipush k =>
    obtain ⟨e0, h1⟩ := cz_n_some h
    have e0 : len = 2 := e0
    subst e0
    obtain ⟨e1, h2⟩ := cz_if_some h1
    simp only [Bool.and_eq_true, decide_eq_true_eq] at e1
    refine pu h2 (ck_cst hl hn ?_) hs0 rfl
    rw [Int8.toInt_toInt32, Int8.toInt_ofInt]
    apply Int.bmod_eq_of_le
    · show -(((2 ^ 8 : Nat) : Int) / 2) ≤ k; omega
    · show k < (((2 ^ 8 : Nat) : Int) + 1) / 2; omega
  case sipush k =>
    obtain ⟨e0, h1⟩ := cz_n_some h
    have e0 : len = 3 := e0
    subst e0
    obtain ⟨e1, h2⟩ := cz_if_some h1
    simp only [Bool.and_eq_true, decide_eq_true_eq] at e1
    refine pu h2 (ck_cst hl hn ?_) hs0 rfl
    rw [Int16.toInt_toInt32, Int16.toInt_ofInt]
    apply Int.bmod_eq_of_le
    · show -(((2 ^ 16 : Nat) : Int) / 2) ≤ k; omega
    · show k < (((2 ^ 16 : Nat) : Int) + 1) / 2; omega
  case lconst k =>
    obtain ⟨e0, h1⟩ := cz_n_some h
    have e0 : len = 1 := e0
    subst e0
    obtain ⟨e1, h2⟩ := cz_if_some h1
    have e1 : (k : Nat) ≤ 1 := of_decide_eq_true e1
    refine pu h2 (ck_cstL hl hn ?_) hs0 rfl
    rcases (show (k : Nat) = 0 ∨ (k : Nat) = 1 by omega) with e2 | e2 <;> rw [e2] <;> rfl
  case aconst_null =>
    obtain ⟨e0, h1⟩ := cz_n_some h
    have e0 : len = 1 := e0
    subst e0
    exact pu h1 (ck_Y.same hl hn fun σ => rfl) hs0 rfl
  case ldc i =>
    obtain ⟨e0, h1⟩ := cz_n_some h
    have e0 : len = 2 := e0
    subst e0
    have h1 : (if xa = 0 then cz_if (ck_k32 xb) (ck_pu (n, ck_vi (ck_c xb)) (pc + 2) lv st) else cz_if (xa == 1 && decide (xb.toNat < 14)) (ck_pu (ck_tx n xb.toNat) (pc + 2) lv st)) = some s := h1
    by_cases h0 : xa = 0
    · rw [if_pos h0] at h1
      obtain ⟨e1, h2⟩ := cz_if_some h1
      subst h0
      exact pu h2 (ck_cst hl hn (ck_k32_ok e1)) hs0 rfl
    · rw [if_neg h0] at h1
      obtain ⟨e1, h2⟩ := cz_if_some h1
      simp only [Bool.and_eq_true, beq_iff_eq, decide_eq_true_eq] at e1
      obtain ⟨e2, e3⟩ := e1
      subst e2
      exact pu h2 (ck_tx_ok hl hn e3) hs0 rfl
  case ldc_w i =>
    obtain ⟨e0, h1⟩ := cz_n_some h
    have e0 : len = 3 := e0
    subst e0
    obtain ⟨e1, h2⟩ := cz_if_some h1
    obtain ⟨e2, e3⟩ := Bool.and_eq_true_iff.mp e1
    have e2 : xa = 0 := by simpa using e2
    subst e2
    exact pu h2 (ck_cst hl hn (ck_k32_ok e3)) hs0 rfl
  case ldc2_w i =>
    obtain ⟨e0, h1⟩ := cz_n_some h
    have e0 : len = 3 := e0
    subst e0
    obtain ⟨e1, h2⟩ := cz_if_some h1
    exact pu h2 (ck_cstL hl hn (ck_k64_ok e1)) hs0 rfl
  case iload_n k =>
    obtain ⟨e0, h1⟩ := cz_n_some h
    have e0 : len = 1 := e0
    subst e0
    obtain ⟨v, e1, h2⟩ := ck_lo_some h1
    obtain ⟨e2, h3⟩ := cz_if_some h2
    obtain ⟨x, e3, hx⟩ := ck_lkA hv e1
    have e2 : v.1 = 0 := by simpa using e2
    obtain ⟨z, rfl, -⟩ := ck_int hx e2
    refine pu h3 (ck_Y.same hl hn hx) hs0 ?_
    show cz_n 1 1 (cz_ki (cz_lk clv _) fun x => some (pc + 1, clv, .int x :: cst)) = _
    rw [e3]
    rfl
  case iload k =>
    obtain ⟨e0, h1⟩ := cz_n_some h
    have e0 : len = 2 := e0
    subst e0
    obtain ⟨v, e1, h2⟩ := ck_lo_some h1
    obtain ⟨e2, h3⟩ := cz_if_some h2
    obtain ⟨x, e3, hx⟩ := ck_lkA hv e1
    have e2 : v.1 = 0 := by simpa using e2
    obtain ⟨z, rfl, -⟩ := ck_int hx e2
    refine pu h3 (ck_Y.same hl hn hx) hs0 ?_
    show cz_n 2 2 (cz_ki (cz_lk clv _) fun x => some (pc + 2, clv, .int x :: cst)) = _
    rw [e3]
    rfl
  case lload_n k =>
    obtain ⟨e0, h1⟩ := cz_n_some h
    have e0 : len = 1 := e0
    subst e0
    obtain ⟨v, e1, h2⟩ := ck_lo_some h1
    obtain ⟨e2, h3⟩ := cz_if_some h2
    obtain ⟨x, e3, hx⟩ := ck_lkA hv e1
    have e2 : v.1 = 1 := by simpa using e2
    obtain ⟨z, rfl, -⟩ := ck_lng hx e2
    refine pu h3 (ck_Y.same hl hn hx) hs0 ?_
    show cz_n 1 1 (cz_kl (cz_lk clv _) fun x => some (pc + 1, clv, .long x :: cst)) = _
    rw [e3]
    rfl
  case lload k =>
    obtain ⟨e0, h1⟩ := cz_n_some h
    have e0 : len = 2 := e0
    subst e0
    obtain ⟨v, e1, h2⟩ := ck_lo_some h1
    obtain ⟨e2, h3⟩ := cz_if_some h2
    obtain ⟨x, e3, hx⟩ := ck_lkA hv e1
    have e2 : v.1 = 1 := by simpa using e2
    obtain ⟨z, rfl, -⟩ := ck_lng hx e2
    refine pu h3 (ck_Y.same hl hn hx) hs0 ?_
    show cz_n 2 2 (cz_kl (cz_lk clv _) fun x => some (pc + 2, clv, .long x :: cst)) = _
    rw [e3]
    rfl
  case aload_n k =>
    obtain ⟨e0, h1⟩ := cz_n_some h
    have e0 : len = 1 := e0
    subst e0
    obtain ⟨v, e1, h2⟩ := ck_lo_some h1
    obtain ⟨e2, h3⟩ := cz_if_some h2
    obtain ⟨x, e3, hx⟩ := ck_lkA hv e1
    have e2 : 3 ≤ v.1 := of_decide_eq_true e2
    have ha := ck_isa (hx []) e2
    refine pu h3 (ck_Y.same hl hn hx) hs0 ?_
    show cz_n 1 1 (cz_ka (cz_lk clv _) fun x => some (pc + 1, clv, x :: cst)) = _
    rw [e3]
    show cz_n 1 1 (cz_if (cz_isA x) _) = _
    rw [ha]
    rfl
  case aload k =>
    obtain ⟨e0, h1⟩ := cz_n_some h
    have e0 : len = 2 := e0
    subst e0
    obtain ⟨v, e1, h2⟩ := ck_lo_some h1
    obtain ⟨e2, h3⟩ := cz_if_some h2
    obtain ⟨x, e3, hx⟩ := ck_lkA hv e1
    have e2 : 3 ≤ v.1 := of_decide_eq_true e2
    have ha := ck_isa (hx []) e2
    refine pu h3 (ck_Y.same hl hn hx) hs0 ?_
    show cz_n 2 2 (cz_ka (cz_lk clv _) fun x => some (pc + 2, clv, x :: cst)) = _
    rw [e3]
    show cz_n 2 2 (cz_if (cz_isA x) _) = _
    rw [ha]
    rfl
  case istore_n k =>
    obtain ⟨e0, h1⟩ := cz_n_some h
    have e0 : len = 1 := e0
    subst e0
    obtain ⟨v, r, rfl, t1, h2⟩ := ck_qi_some h1
    obtain ⟨e2, h3⟩ := cz_if_some h2
    obtain ⟨x, cr, rfl, hx, hr⟩ := ck_Ls.cons hs
    obtain ⟨z, rfl, hz⟩ := ck_int hx t1
    obtain ⟨ρ2, h4⟩ := ck_Q1.store (n' := n) (pc := pc + 1) (i := (k : Nat)) (v := ck_vi v.2.2.2.1) (x := .int z) hv (back hr) (ck_Y.same hl hn fun σ => ⟨z, rfl, hz σ⟩)
    cases h3
    refine ⟨ρ2, _, _, ?_, h4⟩
    show cz_n 1 1 (cz_if _ _) = _
    simp only [cz_n, cz_if, if_true]
    rw [if_pos e2]
  case istore k =>
    obtain ⟨e0, h1⟩ := cz_n_some h
    have e0 : len = 2 := e0
    subst e0
    obtain ⟨v, r, rfl, t1, h2⟩ := ck_qi_some h1
    obtain ⟨e2, h3⟩ := cz_if_some h2
    obtain ⟨x, cr, rfl, hx, hr⟩ := ck_Ls.cons hs
    obtain ⟨z, rfl, hz⟩ := ck_int hx t1
    obtain ⟨ρ2, h4⟩ := ck_Q1.store (n' := n) (pc := pc + 2) (i := k) (v := ck_vi v.2.2.2.1) (x := .int z) hv (back hr) (ck_Y.same hl hn fun σ => ⟨z, rfl, hz σ⟩)
    cases h3
    refine ⟨ρ2, _, _, ?_, h4⟩
    show cz_n 2 2 (cz_if _ _) = _
    simp only [cz_n, cz_if, if_true]
    rw [if_pos e2]
  case lstore k =>
    obtain ⟨e0, h1⟩ := cz_n_some h
    have e0 : len = 2 := e0
    subst e0
    obtain ⟨v, r, rfl, t1, h2⟩ := ck_ql_some h1
    obtain ⟨e2, h3⟩ := cz_if_some h2
    obtain ⟨x, cr, rfl, hx, hr⟩ := ck_Ls.cons hs
    obtain ⟨z, rfl, hz⟩ := ck_lng hx t1
    cases h3
    refine ⟨[], cz_st2 clv k (.long z), cr, ?_, by simpa using hl, fun σ => ⟨by rw [List.append_nil]; exact hn σ, ?_, by rw [List.append_nil]; exact back hr σ⟩⟩
    · show cz_n 2 2 (cz_if _ _) = _
      simp only [cz_n, cz_if, if_true]
      rw [if_pos e2]
    · rw [List.append_nil]
      exact ck_st2_ok (hv σ) ⟨z, rfl, hz σ⟩
  case astore_n k =>
    obtain ⟨e0, h1⟩ := cz_n_some h
    have e0 : len = 1 := e0
    subst e0
    obtain ⟨v, r, rfl, h2⟩ := ck_qv_some h1
    obtain ⟨e2, h3⟩ := cz_if_some h2
    obtain ⟨e3, e4⟩ := Bool.and_eq_true_iff.mp e2
    have e3 : 3 ≤ v.1 := of_decide_eq_true e3
    obtain ⟨x, cr, rfl, hx, hr⟩ := ck_Ls.cons hs
    have ha := ck_isa (hx []) e3
    obtain ⟨ρ2, h4⟩ := ck_Q1.store (n' := n) (pc := pc + 1) (i := (k : Nat)) (v := v) (x := x) hv (back hr) (ck_Y.same hl hn hx)
    cases h3
    refine ⟨ρ2, _, _, ?_, h4⟩
    show cz_n 1 1 (cz_if (cz_isA x && decide _) _) = _
    rw [ha, e4]
    rfl
  case astore k =>
    obtain ⟨e0, h1⟩ := cz_n_some h
    have e0 : len = 2 := e0
    subst e0
    obtain ⟨v, r, rfl, h2⟩ := ck_qv_some h1
    obtain ⟨e2, h3⟩ := cz_if_some h2
    obtain ⟨e3, e4⟩ := Bool.and_eq_true_iff.mp e2
    have e3 : 3 ≤ v.1 := of_decide_eq_true e3
    obtain ⟨x, cr, rfl, hx, hr⟩ := ck_Ls.cons hs
    have ha := ck_isa (hx []) e3
    obtain ⟨ρ2, h4⟩ := ck_Q1.store (n' := n) (pc := pc + 2) (i := k) (v := v) (x := x) hv (back hr) (ck_Y.same hl hn hx)
    cases h3
    refine ⟨ρ2, _, _, ?_, h4⟩
    show cz_n 2 2 (cz_if (cz_isA x && decide _) _) = _
    rw [ha, e4]
    rfl
  case iinc k d =>
    obtain ⟨e0, h1⟩ := cz_if_some h
    obtain ⟨v, e1, h2⟩ := ck_lo_some h1
    obtain ⟨e2, h3⟩ := cz_if_some h2
    simp only [Bool.and_eq_true, beq_iff_eq, decide_eq_true_eq] at e2
    obtain ⟨⟨t1, e4⟩, e5⟩ := e2
    obtain ⟨x, e3, hx⟩ := ck_lkA hv e1
    obtain ⟨z, rfl, hz⟩ := ck_int hx t1
    have Y : ck_Y E Γ ρ (ck_res n (ck_add v.2.2.2.1 (ck_c d))).1 (ck_res n (ck_add v.2.2.2.1 (ck_c d))).2 (.int (z + Int32.ofInt d)) := by
      refine ck_res_ok hl hn fun σ hb => ?_
      rw [ck_add_ev, ck_ev_c, ← hz σ] at hb ⊢
      have e6 := ck_k32_ok e5
      have h7 := ck_iadd (x := z) (y := Int32.ofInt d) (by rw [e6]; exact hb)
      rw [e6] at h7
      exact h7
    obtain ⟨ρ2, h4⟩ := ck_Q1.store (pc := pc + len) (i := k) hv hs0 Y
    cases h3
    refine ⟨ρ2, _, _, ?_, h4⟩
    show cz_if (len == 3 || len == 6) (cz_ki (cz_lk clv k) fun x => cz_if (decide (k < nL)) (some (pc + len, cz_st1 clv k (.int (x + Int32.ofInt d)), cst))) = _
    rw [e3]
    have e0 : (len == 3 || len == 6) = true := e0
    rw [e0]
    show cz_if true (cz_if (decide (k < nL)) _) = _
    rw [decide_eq_true e4]
    rfl
  case iadd =>
    obtain ⟨e0, h1⟩ := cz_n_some h
    have e0 : len = 1 := e0
    subst e0
    obtain ⟨y, x, r, rfl, ty, tx, h2⟩ := ck_qj_some h1
    obtain ⟨cy, cr0, rfl, hy, hs1⟩ := ck_Ls.cons hs
    obtain ⟨cx, cr, rfl, hx, hr⟩ := ck_Ls.cons hs1
    obtain ⟨zy, rfl, hzy⟩ := ck_int hy ty
    obtain ⟨zx, rfl, hzx⟩ := ck_int hx tx
    refine pu h2 (ck_res_ok hl hn fun σ hb => ?_) (back hr) rfl
    rw [ck_add_ev, ← hzx σ, ← hzy σ] at hb ⊢
    exact ck_iadd hb
  case isub =>
    obtain ⟨e0, h1⟩ := cz_n_some h
    have e0 : len = 1 := e0
    subst e0
    obtain ⟨y, x, r, rfl, ty, tx, h2⟩ := ck_qj_some h1
    obtain ⟨cy, cr0, rfl, hy, hs1⟩ := ck_Ls.cons hs
    obtain ⟨cx, cr, rfl, hx, hr⟩ := ck_Ls.cons hs1
    obtain ⟨zy, rfl, hzy⟩ := ck_int hy ty
    obtain ⟨zx, rfl, hzx⟩ := ck_int hx tx
    refine pu h2 (ck_res_ok hl hn fun σ hb => ?_) (back hr) rfl
    rw [ck_sub_ev, ← hzx σ, ← hzy σ] at hb ⊢
    exact ck_isub hb
  case imul =>
    obtain ⟨e0, h1⟩ := cz_n_some h
    have e0 : len = 1 := e0
    subst e0
    obtain ⟨y, x, r, rfl, ty, tx, h2⟩ := ck_qj_some h1
    obtain ⟨cy, cr0, rfl, hy, hs1⟩ := ck_Ls.cons hs
    obtain ⟨cx, cr, rfl, hx, hr⟩ := ck_Ls.cons hs1
    obtain ⟨zy, rfl, hzy⟩ := ck_int hy ty
    obtain ⟨zx, rfl, hzx⟩ := ck_int hx tx
    exact pu h2 (ck_prd_ok hl hn hzx hzy) (back hr) rfl
  case iand =>
    obtain ⟨e0, h1⟩ := cz_n_some h
    have e0 : len = 1 := e0
    subst e0
    obtain ⟨y, x, r, rfl, ty, tx, h2⟩ := ck_qj_some h1
    obtain ⟨cy, cr0, rfl, hy, hs1⟩ := ck_Ls.cons hs
    obtain ⟨cx, cr, rfl, hx, hr⟩ := ck_Ls.cons hs1
    obtain ⟨zy, rfl, hzy⟩ := ck_int hy ty
    obtain ⟨zx, rfl, hzx⟩ := ck_int hx tx
    exact pu h2 (ck_and_ok hl hn hzx hzy) (back hr) rfl
  case ior =>
    obtain ⟨e0, h1⟩ := cz_n_some h
    have e0 : len = 1 := e0
    subst e0
    obtain ⟨y, x, r, rfl, ty, tx, h2⟩ := ck_qj_some h1
    obtain ⟨cy, cr0, rfl, hy, hs1⟩ := ck_Ls.cons hs
    obtain ⟨cx, cr, rfl, hx, hr⟩ := ck_Ls.cons hs1
    obtain ⟨zy, rfl, hzy⟩ := ck_int hy ty
    obtain ⟨zx, rfl, hzx⟩ := ck_int hx tx
    exact pu h2 (ck_or_ok hl hn hzx hzy) (back hr) rfl
  case ishl =>
    obtain ⟨e0, h1⟩ := cz_n_some h
    have e0 : len = 1 := e0
    subst e0
    obtain ⟨y, x, r, rfl, ty, tx, h2⟩ := ck_qj_some h1
    obtain ⟨cy, cr0, rfl, hy, hs1⟩ := ck_Ls.cons hs
    obtain ⟨cx, cr, rfl, hx, hr⟩ := ck_Ls.cons hs1
    obtain ⟨zy, rfl, hzy⟩ := ck_int hy ty
    obtain ⟨zx, rfl, hzx⟩ := ck_int hx tx
    exact pu h2 (ck_shl_ok hl hn hzx hzy) (back hr) rfl
  case ishr =>
    obtain ⟨e0, h1⟩ := cz_n_some h
    have e0 : len = 1 := e0
    subst e0
    obtain ⟨y, x, r, rfl, ty, tx, h2⟩ := ck_qj_some h1
    obtain ⟨cy, cr0, rfl, hy, hs1⟩ := ck_Ls.cons hs
    obtain ⟨cx, cr, rfl, hx, hr⟩ := ck_Ls.cons hs1
    obtain ⟨zy, rfl, hzy⟩ := ck_int hy ty
    obtain ⟨zx, rfl, hzx⟩ := ck_int hx tx
    exact pu h2 (ck_shr_ok hl hn hzx hzy) (back hr) rfl
  case iushr =>
    obtain ⟨e0, h1⟩ := cz_n_some h
    have e0 : len = 1 := e0
    subst e0
    obtain ⟨y, x, r, rfl, ty, tx, h2⟩ := ck_qj_some h1
    obtain ⟨cy, cr0, rfl, hy, hs1⟩ := ck_Ls.cons hs
    obtain ⟨cx, cr, rfl, hx, hr⟩ := ck_Ls.cons hs1
    obtain ⟨zy, rfl, hzy⟩ := ck_int hy ty
    obtain ⟨zx, rfl, hzx⟩ := ck_int hx tx
    exact pu h2 (ck_shu_ok hl hn hzx _) (back hr) rfl
  case idiv =>
    obtain ⟨e0, h1⟩ := cz_n_some h
    have e0 : len = 1 := e0
    subst e0
    obtain ⟨y, x, r, rfl, ty, tx, h2⟩ := ck_qj_some h1
    obtain ⟨cy, cr0, rfl, hy, hs1⟩ := ck_Ls.cons hs
    obtain ⟨cx, cr, rfl, hx, hr⟩ := ck_Ls.cons hs1
    obtain ⟨zy, rfl, hzy⟩ := ck_int hy ty
    obtain ⟨zx, rfl, hzx⟩ := ck_int hx tx
    obtain ⟨p, e1, h3⟩ := cz_so_some h2
    obtain ⟨hne, Y⟩ := ck_quo_ok (E := E) (Γ := Γ) hl hn hzx hzy e1
    refine pu h3 Y (back hr) ?_
    show cz_n 1 1 (cz_if (decide (¬ zy = 0)) _) = _
    rw [decide_eq_true hne]
    rfl
  case irem =>
    obtain ⟨e0, h1⟩ := cz_n_some h
    have e0 : len = 1 := e0
    subst e0
    obtain ⟨y, x, r, rfl, ty, tx, h2⟩ := ck_qj_some h1
    obtain ⟨cy, cr0, rfl, hy, hs1⟩ := ck_Ls.cons hs
    obtain ⟨cx, cr, rfl, hx, hr⟩ := ck_Ls.cons hs1
    obtain ⟨zy, rfl, hzy⟩ := ck_int hy ty
    obtain ⟨zx, rfl, hzx⟩ := ck_int hx tx
    obtain ⟨p, e1, h3⟩ := cz_so_some h2
    obtain ⟨hne, Y⟩ := ck_rst_ok (E := E) (Γ := Γ) hl hn hzx hzy e1
    refine pu h3 Y (back hr) ?_
    show cz_n 1 1 (cz_if (decide (¬ zy = 0)) _) = _
    rw [decide_eq_true hne]
    rfl
  case ineg =>
    obtain ⟨e0, h1⟩ := cz_n_some h
    have e0 : len = 1 := e0
    subst e0
    obtain ⟨x, r, rfl, tx, h2⟩ := ck_qi_some h1
    obtain ⟨cx, cr, rfl, hx, hr⟩ := ck_Ls.cons hs
    obtain ⟨zx, rfl, hzx⟩ := ck_int hx tx
    refine pu h2 (ck_res_ok hl hn fun σ hb => ?_) (back hr) rfl
    rw [ck_mul_ev, ← hzx σ] at hb ⊢
    have e : -1 * zx.toInt = -zx.toInt := by omega
    rw [e] at hb ⊢
    exact ck_ineg hb
  case i2l =>
    obtain ⟨e0, h1⟩ := cz_n_some h
    have e0 : len = 1 := e0
    subst e0
    obtain ⟨x, r, rfl, tx, h2⟩ := ck_qi_some h1
    obtain ⟨cx, cr, rfl, hx, hr⟩ := ck_Ls.cons hs
    obtain ⟨zx, rfl, hzx⟩ := ck_int hx tx
    exact pu h2 (ck_Y.same hl hn fun σ => ⟨zx.toInt64, rfl, (ck_i2l zx).trans (hzx σ)⟩) (back hr) rfl
  case l2i =>
    obtain ⟨e0, h1⟩ := cz_n_some h
    have e0 : len = 1 := e0
    subst e0
    obtain ⟨x, r, rfl, tx, h2⟩ := ck_ql_some h1
    obtain ⟨cx, cr, rfl, hx, hr⟩ := ck_Ls.cons hs
    obtain ⟨zx, rfl, hzx⟩ := ck_lng hx tx
    refine pu h2 ?_ (back hr) rfl
    split
    · next e => exact ck_Y.same hl hn fun σ => ⟨zx.toInt32, rfl, (ck_l2i (by rw [hzx σ]; exact ck_in32_ok (hn σ) e)).trans (hzx σ)⟩
    · exact ck_full_ok hl hn _
  case i2b =>
    obtain ⟨e0, h1⟩ := cz_n_some h
    have e0 : len = 1 := e0
    subst e0
    obtain ⟨x, r, rfl, tx, h2⟩ := ck_qi_some h1
    obtain ⟨cx, cr, rfl, hx, hr⟩ := ck_Ls.cons hs
    obtain ⟨zx, rfl, hzx⟩ := ck_int hx tx
    refine pu h2 ?_ (back hr) rfl
    split
    · next e => exact ck_Y.same hl hn fun σ => ⟨zx.toInt8.toInt32, rfl, (ck_i2b_id (by rw [hzx σ]; exact (ck_btw_ok (hn σ) e).1) (by rw [hzx σ]; exact (ck_btw_ok (hn σ) e).2)).trans (hzx σ)⟩
    · exact ck_fr_ok hl hn (ck_i2b zx)
  case i2c =>
    obtain ⟨e0, h1⟩ := cz_n_some h
    have e0 : len = 1 := e0
    subst e0
    obtain ⟨x, r, rfl, tx, h2⟩ := ck_qi_some h1
    obtain ⟨cx, cr, rfl, hx, hr⟩ := ck_Ls.cons hs
    obtain ⟨zx, rfl, hzx⟩ := ck_int hx tx
    refine pu h2 ?_ (back hr) rfl
    split
    · next e => exact ck_Y.same hl hn fun σ => ⟨(zx.toUInt32 % 65536).toInt32, rfl, (ck_i2c_id (by rw [hzx σ]; exact (ck_btw_ok (hn σ) e).1) (by rw [hzx σ]; exact (ck_btw_ok (hn σ) e).2)).trans (hzx σ)⟩
    · exact ck_fr_ok hl hn (ck_i2c zx)
  case lshl =>
    obtain ⟨e0, h1⟩ := cz_n_some h
    have e0 : len = 1 := e0
    subst e0
    obtain ⟨y, x, r, rfl, ty, tx, h2⟩ := ck_lon_some h1
    obtain ⟨cy, cr0, rfl, hy, hs1⟩ := ck_Ls.cons hs
    obtain ⟨cx, cr, rfl, hx, hr⟩ := ck_Ls.cons hs1
    obtain ⟨zy, rfl, hzy⟩ := ck_int hy ty
    obtain ⟨zx, rfl, hzx⟩ := ck_lng hx tx
    exact pu h2 (ck_frl_ok hl hn _) (back hr) rfl
  case lshr =>
    obtain ⟨e0, h1⟩ := cz_n_some h
    have e0 : len = 1 := e0
    subst e0
    obtain ⟨y, x, r, rfl, ty, tx, h2⟩ := ck_lon_some h1
    obtain ⟨cy, cr0, rfl, hy, hs1⟩ := ck_Ls.cons hs
    obtain ⟨cx, cr, rfl, hx, hr⟩ := ck_Ls.cons hs1
    obtain ⟨zy, rfl, hzy⟩ := ck_int hy ty
    obtain ⟨zx, rfl, hzx⟩ := ck_lng hx tx
    exact pu h2 (ck_frl_ok hl hn _) (back hr) rfl
  case ladd =>
    obtain ⟨e0, h1⟩ := cz_n_some h
    have e0 : len = 1 := e0
    subst e0
    obtain ⟨y, x, r, rfl, ty, tx, h2⟩ := ck_qk_some h1
    obtain ⟨cy, cr0, rfl, hy, hs1⟩ := ck_Ls.cons hs
    obtain ⟨cx, cr, rfl, hx, hr⟩ := ck_Ls.cons hs1
    obtain ⟨zy, rfl, hzy⟩ := ck_lng hy ty
    obtain ⟨zx, rfl, hzx⟩ := ck_lng hx tx
    refine pu h2 ?_ (back hr) rfl
    split
    · next e =>
      refine ck_Y.same hl hn fun σ => ⟨zx + zy, rfl, ?_⟩
      obtain ⟨e1, e2⟩ := Bool.and_eq_true_iff.mp e
      have b1 := ck_le_ok (hn σ) e1
      have b2 := ck_le_ok (hn σ) e2
      show (zx + zy).toInt = ck_ev _ (ck_add _ _)
      rw [ck_sub_ev, ck_ev_c, ck_add_ev, ← hzx σ, ← hzy σ] at b1 b2
      rw [ck_add_ev, ← hzx σ, ← hzy σ]
      exact ck_ladd ⟨by omega, by omega⟩
    · exact ck_frl_ok hl hn _
  case land =>
    obtain ⟨e0, h1⟩ := cz_n_some h
    have e0 : len = 1 := e0
    subst e0
    obtain ⟨y, x, r, rfl, ty, tx, h2⟩ := ck_qk_some h1
    obtain ⟨cy, cr0, rfl, hy, hs1⟩ := ck_Ls.cons hs
    obtain ⟨cx, cr, rfl, hx, hr⟩ := ck_Ls.cons hs1
    obtain ⟨zy, rfl, hzy⟩ := ck_lng hy ty
    obtain ⟨zx, rfl, hzx⟩ := ck_lng hx tx
    exact pu h2 (ck_frl_ok hl hn _) (back hr) rfl
  case lor =>
    obtain ⟨e0, h1⟩ := cz_n_some h
    have e0 : len = 1 := e0
    subst e0
    obtain ⟨y, x, r, rfl, ty, tx, h2⟩ := ck_qk_some h1
    obtain ⟨cy, cr0, rfl, hy, hs1⟩ := ck_Ls.cons hs
    obtain ⟨cx, cr, rfl, hx, hr⟩ := ck_Ls.cons hs1
    obtain ⟨zy, rfl, hzy⟩ := ck_lng hy ty
    obtain ⟨zx, rfl, hzx⟩ := ck_lng hx tx
    exact pu h2 (ck_frl_ok hl hn _) (back hr) rfl
  case lcmp =>
    obtain ⟨e0, h1⟩ := cz_n_some h
    have e0 : len = 1 := e0
    subst e0
    obtain ⟨y, x, r, rfl, ty, tx, h2⟩ := ck_qk_some h1
    obtain ⟨cy, cr0, rfl, hy, hs1⟩ := ck_Ls.cons hs
    obtain ⟨cx, cr, rfl, hx, hr⟩ := ck_Ls.cons hs1
    obtain ⟨zy, rfl, hzy⟩ := ck_lng hy ty
    obtain ⟨zx, rfl, hzx⟩ := ck_lng hx tx
    exact pu h2 (ck_Y.same hl hn fun σ => ⟨zx, zy, rfl, hzx σ, hzy σ⟩) (back hr) rfl
  case dup =>
    obtain ⟨e0, h1⟩ := cz_n_some h
    have e0 : len = 1 := e0
    subst e0
    obtain ⟨v, r, rfl, h2⟩ := ck_qv_some h1
    obtain ⟨e2, h3⟩ := cz_if_some h2
    have e2 : ck_cat v = 1 := by simpa using e2
    obtain ⟨x, cr, rfl, hx, hr⟩ := ck_Ls.cons hs
    cases h3
    refine ⟨[], clv, x :: x :: cr, ?_, by simpa using hl, fun σ => ⟨by rw [List.append_nil]; exact hn σ, by rw [List.append_nil]; exact hv σ, ?_⟩⟩
    · show cz_n 1 1 (cz_if (x.category == 1) _) = _
      rw [(hx []).cat, e2]
      rfl
    · rw [List.append_nil]
      exact ⟨hx σ, hx σ, back hr σ⟩
  case dup2 =>
    obtain ⟨e0, h1⟩ := cz_n_some h
    have e0 : len = 1 := e0
    subst e0
    obtain ⟨v, r0, rfl, h2⟩ := ck_qv_some h1
    obtain ⟨w, r, rfl, h3⟩ := ck_qv_some h2
    obtain ⟨e2, h4⟩ := cz_if_some h3
    simp only [Bool.and_eq_true, beq_iff_eq] at e2
    obtain ⟨x, cr0, rfl, hx, hs1⟩ := ck_Ls.cons hs
    obtain ⟨y, cr, rfl, hy, hr⟩ := ck_Ls.cons hs1
    cases h4
    refine ⟨[], clv, x :: y :: x :: y :: cr, ?_, by simpa using hl, fun σ => ⟨by rw [List.append_nil]; exact hn σ, by rw [List.append_nil]; exact hv σ, ?_⟩⟩
    · show cz_n 1 1 (cz_if (x.category == 1 && y.category == 1) _) = _
      rw [(hx []).cat, (hy []).cat, e2.1, e2.2]
      rfl
    · rw [List.append_nil]
      exact ⟨hx σ, hy σ, hx σ, hy σ, back hr σ⟩
  case pop =>
    obtain ⟨e0, h1⟩ := cz_n_some h
    have e0 : len = 1 := e0
    subst e0
    obtain ⟨v, r, rfl, h2⟩ := ck_qv_some h1
    obtain ⟨e2, h3⟩ := cz_if_some h2
    have e2 : ck_cat v = 1 := by simpa using e2
    obtain ⟨x, cr, rfl, hx, hr⟩ := ck_Ls.cons hs
    cases h3
    refine ⟨[], clv, cr, ?_, by simpa using hl, fun σ => ⟨by rw [List.append_nil]; exact hn σ, by rw [List.append_nil]; exact hv σ, by rw [List.append_nil]; exact back hr σ⟩⟩
    show cz_n 1 1 (cz_if (x.category == 1) _) = _
    rw [(hx []).cat, e2]
    rfl
  case goto off =>
    obtain ⟨e0, h1⟩ := cz_n_some h
    have e0 : len = 3 := e0
    subst e0
    have h1 : cz_j pc off (fun t => some (n, t, lv, st)) = some s := h1
    unfold cz_j at h1
    split at h1
    · next e =>
      cases h1
      refine ⟨[], clv, cst, ?_, by simpa using hl, fun σ => ⟨by rw [List.append_nil]; exact hn σ, by rw [List.append_nil]; exact hv σ, by rw [List.append_nil]; exact hs0 σ⟩⟩
      show cz_n 3 3 (cz_j pc off fun t => some (t, clv, cst)) = _
      unfold cz_j
      rw [if_pos e]
      rfl
    · cases h1
  all_goals cases h
end CKB
