/-! THE CHECKER: one instruction without the heap, one state behind it -/
def ck_frl (n : ck_N) : ck_N × ck_V := (ck_new n (-9223372036854775808, 9223372036854775807), ck_vl (ck_v n.1.length))
def ck_in64 (n : ck_N) (a : ck_A) : Bool := ck_le n (ck_sub a (ck_c 9223372036854775807)) && ck_le n (ck_sub (ck_c (-9223372036854775808)) a)
def ck_btw (n : ck_N) (a : ck_A) (lo hi : Int) : Bool := ck_le n (ck_sub a (ck_c hi)) && ck_le n (ck_sub (ck_c lo) a)
theorem ck_btw_ok {n : ck_N} {ρ : List Int} (h : ck_nok n ρ) {a : ck_A} {lo hi : Int} (e : ck_btw n a lo hi = true) : lo ≤ ck_ev ρ a ∧ ck_ev ρ a ≤ hi := by
  obtain ⟨e1, e2⟩ := Bool.and_eq_true_iff.mp e
  have h1 := ck_le_ok h e1
  have h2 := ck_le_ok h e2
  rw [ck_sub_ev, ck_ev_c] at h1 h2
  exact ⟨by omega, by omega⟩
theorem ck_frl_ok {E : cz_E} {Γ : ck_G} {n : ck_N} {ρ : List Int} (hl : ρ.length = n.1.length) (h : ∀ σ, ck_nok n (ρ ++ σ)) (z : Int64) : ck_Y E Γ ρ (ck_frl n).1 (ck_frl n).2 (.long z) := by
  have hg : ∀ σ : List Int, ((ρ ++ [z.toInt]) ++ σ).getD n.1.length 0 = z.toInt := by
    intro σ
    rw [List.append_assoc, ← hl]
    simp [List.getD]
  refine ⟨[z.toInt], by simp [ck_frl, ck_new, hl], fun σ => ⟨ck_new_ok (by rw [List.append_assoc]; exact h _) (by rw [hg]; exact ck_rangeL z), ?_⟩⟩
  exact ⟨z, rfl, by show z.toInt = ck_ev _ (ck_v n.1.length); rw [ck_ev_v, hg]⟩
/-- the text number k -/
def ck_tx (n : ck_N) (k : Nat) : ck_N × ck_V := (ck_new (ck_new n ((k : Int), (k : Int))) (((cz_sl.getD k 0 : Nat) : Int), ((cz_sl.getD k 0 : Nat) : Int)), (6, n.1.length, n.1.length + 1, ck_c 0, ck_c 0))
theorem ck_tx_ok {E : cz_E} {Γ : ck_G} {n : ck_N} {ρ : List Int} {k : Nat} (hl : ρ.length = n.1.length) (h : ∀ σ, ck_nok n (ρ ++ σ)) (hk : k < 14) : ck_Y E Γ ρ (ck_tx n k).1 (ck_tx n k).2 (.ref (E.2.2.1 k)) := by
  have g1 : ∀ σ : List Int, ((ρ ++ [(k : Int), ((cz_sl.getD k 0 : Nat) : Int)]) ++ σ).getD n.1.length 0 = (k : Int) := by
    intro σ
    rw [List.append_assoc, ← hl]
    simp [List.getD]
  have g2 : ∀ σ : List Int, ((ρ ++ [(k : Int), ((cz_sl.getD k 0 : Nat) : Int)]) ++ σ).getD (n.1.length + 1) 0 = ((cz_sl.getD k 0 : Nat) : Int) := by
    intro σ
    rw [List.append_assoc, ← hl]
    simp [List.getD]
  refine ⟨[(k : Int), ((cz_sl.getD k 0 : Nat) : Int)], by simp [ck_tx, ck_new, hl], fun σ => ⟨?_, ?_⟩⟩
  · refine ck_new_ok (ck_new_ok (by rw [List.append_assoc]; exact h _) (by rw [g1]; exact ⟨Int.le_refl _, Int.le_refl _⟩)) ?_
    have e : (ck_new n ((k : Int), (k : Int))).1.length = n.1.length + 1 := by simp [ck_new]
    rw [e, g2]
    exact ⟨Int.le_refl _, Int.le_refl _⟩
  · exact ⟨k, hk, rfl, (g1 σ).symm, (g2 σ).symm⟩
def ck_lon {α : Type} (st : List ck_V) (k : ck_A → ck_A → List ck_V → Option α) : Option α := match st with
  | y :: x :: r => if y.1 = 0 ∧ x.1 = 1 then k x.2.2.2.1 y.2.2.2.1 r else none
  | _ => none
def ck_pu (p : ck_N × ck_V) (pc : Nat) (lv : ck_LV) (r : List ck_V) : Option ck_S1 := some (p.1, pc, lv, p.2 :: r)
def ck_x1 (nL : Nat) (q : cz_I) (n : ck_N) (lv : ck_LV) (st : List ck_V) : Option ck_S1 := match q.2.1 with
  | .iconst k => cz_n q.2.2.1 1 (cz_if (ck_k32 k) (ck_pu (n, ck_vi (ck_c k)) (q.1 + 1) lv st))
  | .bipush k => cz_n q.2.2.1 2 (cz_if (decide (-128 ≤ k) && decide (k ≤ 127)) (ck_pu (n, ck_vi (ck_c k)) (q.1 + 2) lv st))
  | .sipush k => cz_n q.2.2.1 3 (cz_if (decide (-32768 ≤ k) && decide (k ≤ 32767)) (ck_pu (n, ck_vi (ck_c k)) (q.1 + 3) lv st))
  | .lconst k => cz_n q.2.2.1 1 (cz_if (decide ((k : Nat) ≤ 1)) (ck_pu (n, ck_vl (ck_c ((k : Nat) : Int))) (q.1 + 1) lv st))
  | .aconst_null => cz_n q.2.2.1 1 (ck_pu (n, ck_vn) (q.1 + 1) lv st)
  | .ldc _ => cz_n q.2.2.1 2 (if q.2.2.2.1 = 0 then cz_if (ck_k32 q.2.2.2.2) (ck_pu (n, ck_vi (ck_c q.2.2.2.2)) (q.1 + 2) lv st) else cz_if (q.2.2.2.1 == 1 && decide (q.2.2.2.2.toNat < 14)) (ck_pu (ck_tx n q.2.2.2.2.toNat) (q.1 + 2) lv st))
  | .ldc_w _ => cz_n q.2.2.1 3 (cz_if (q.2.2.2.1 == 0 && ck_k32 q.2.2.2.2) (ck_pu (n, ck_vi (ck_c q.2.2.2.2)) (q.1 + 3) lv st))
  | .ldc2_w _ => cz_n q.2.2.1 3 (cz_if (ck_k64 q.2.2.2.2) (ck_pu (n, ck_vl (ck_c q.2.2.2.2)) (q.1 + 3) lv st))
  | .iload_n k => cz_n q.2.2.1 1 (ck_lo (ck_lk lv k) fun v => cz_if (v.1 == 0) (ck_pu (n, v) (q.1 + 1) lv st))
  | .iload k => cz_n q.2.2.1 2 (ck_lo (ck_lk lv k) fun v => cz_if (v.1 == 0) (ck_pu (n, v) (q.1 + 2) lv st))
  | .lload_n k => cz_n q.2.2.1 1 (ck_lo (ck_lk lv k) fun v => cz_if (v.1 == 1) (ck_pu (n, v) (q.1 + 1) lv st))
  | .lload k => cz_n q.2.2.1 2 (ck_lo (ck_lk lv k) fun v => cz_if (v.1 == 1) (ck_pu (n, v) (q.1 + 2) lv st))
  | .aload_n k => cz_n q.2.2.1 1 (ck_lo (ck_lk lv k) fun v => cz_if (decide (3 ≤ v.1)) (ck_pu (n, v) (q.1 + 1) lv st))
  | .aload k => cz_n q.2.2.1 2 (ck_lo (ck_lk lv k) fun v => cz_if (decide (3 ≤ v.1)) (ck_pu (n, v) (q.1 + 2) lv st))
  | .istore_n k => cz_n q.2.2.1 1 (ck_qi st fun a r => cz_if (decide ((k : Nat) < nL)) (some (n, q.1 + 1, ck_st1 lv k (ck_vi a), r)))
  | .istore k => cz_n q.2.2.1 2 (ck_qi st fun a r => cz_if (decide (k < nL)) (some (n, q.1 + 2, ck_st1 lv k (ck_vi a), r)))
  | .lstore k => cz_n q.2.2.1 2 (ck_ql st fun a r => cz_if (decide (k + 1 < nL)) (some (n, q.1 + 2, ck_st2 lv k (ck_vl a), r)))
  | .astore_n k => cz_n q.2.2.1 1 (ck_qv st fun v r => cz_if (decide (3 ≤ v.1) && decide ((k : Nat) < nL)) (some (n, q.1 + 1, ck_st1 lv k v, r)))
  | .astore k => cz_n q.2.2.1 2 (ck_qv st fun v r => cz_if (decide (3 ≤ v.1) && decide (k < nL)) (some (n, q.1 + 2, ck_st1 lv k v, r)))
  | .iinc k d => cz_if (q.2.2.1 == 3 || q.2.2.1 == 6) (ck_lo (ck_lk lv k) fun v => cz_if (v.1 == 0 && decide (k < nL) && ck_k32 d) (some ((ck_res n (ck_add v.2.2.2.1 (ck_c d))).1, q.1 + q.2.2.1, ck_st1 lv k (ck_res n (ck_add v.2.2.2.1 (ck_c d))).2, st)))
  | .iadd => cz_n q.2.2.1 1 (ck_qj st fun a b r => ck_pu (ck_res n (ck_add a b)) (q.1 + 1) lv r)
  | .isub => cz_n q.2.2.1 1 (ck_qj st fun a b r => ck_pu (ck_res n (ck_sub a b)) (q.1 + 1) lv r)
  | .imul => cz_n q.2.2.1 1 (ck_qj st fun a b r => ck_pu (ck_prd n a b) (q.1 + 1) lv r)
  | .iand => cz_n q.2.2.1 1 (ck_qj st fun a b r => ck_pu (ck_and n a b) (q.1 + 1) lv r)
  | .ior => cz_n q.2.2.1 1 (ck_qj st fun a b r => ck_pu (ck_or n a b) (q.1 + 1) lv r)
  | .idiv => cz_n q.2.2.1 1 (ck_qj st fun a b r => cz_so (ck_quo n a b) fun p => ck_pu p (q.1 + 1) lv r)
  | .irem => cz_n q.2.2.1 1 (ck_qj st fun a b r => cz_so (ck_rst n a b) fun p => ck_pu p (q.1 + 1) lv r)
  | .ineg => cz_n q.2.2.1 1 (ck_qi st fun a r => ck_pu (ck_res n (ck_mul (-1) a)) (q.1 + 1) lv r)
  | .ishl => cz_n q.2.2.1 1 (ck_qj st fun a b r => ck_pu (ck_shl n a b) (q.1 + 1) lv r)
  | .ishr => cz_n q.2.2.1 1 (ck_qj st fun a b r => ck_pu (ck_shr n a b) (q.1 + 1) lv r)
  | .iushr => cz_n q.2.2.1 1 (ck_qj st fun a _ r => ck_pu (ck_shu n a) (q.1 + 1) lv r)
  | .i2l => cz_n q.2.2.1 1 (ck_qi st fun a r => ck_pu (n, ck_vl a) (q.1 + 1) lv r)
  | .l2i => cz_n q.2.2.1 1 (ck_ql st fun a r => ck_pu (if ck_in32 n a = true then (n, ck_vi a) else ck_fr n (-2147483648) 2147483647) (q.1 + 1) lv r)
  | .i2b => cz_n q.2.2.1 1 (ck_qi st fun a r => ck_pu (if ck_btw n a (-128) 127 = true then (n, ck_vi a) else ck_fr n (-128) 127) (q.1 + 1) lv r)
  | .i2c => cz_n q.2.2.1 1 (ck_qi st fun a r => ck_pu (if ck_btw n a 0 65535 = true then (n, ck_vi a) else ck_fr n 0 65535) (q.1 + 1) lv r)
  | .lshl => cz_n q.2.2.1 1 (ck_lon st fun _ _ r => ck_pu (ck_frl n) (q.1 + 1) lv r)
  | .lshr => cz_n q.2.2.1 1 (ck_lon st fun _ _ r => ck_pu (ck_frl n) (q.1 + 1) lv r)
  | .ladd => cz_n q.2.2.1 1 (ck_qk st fun a b r => ck_pu (if ck_in64 n (ck_add a b) = true then (n, ck_vl (ck_add a b)) else ck_frl n) (q.1 + 1) lv r)
  | .land => cz_n q.2.2.1 1 (ck_qk st fun _ _ r => ck_pu (ck_frl n) (q.1 + 1) lv r)
  | .lor => cz_n q.2.2.1 1 (ck_qk st fun _ _ r => ck_pu (ck_frl n) (q.1 + 1) lv r)
  | .lcmp => cz_n q.2.2.1 1 (ck_qk st fun a b r => ck_pu (n, ck_vc a b) (q.1 + 1) lv r)
  | .dup => cz_n q.2.2.1 1 (ck_qv st fun v r => cz_if (ck_cat v == 1) (some (n, q.1 + 1, lv, v :: v :: r)))
  | .dup2 => cz_n q.2.2.1 1 (ck_qv st fun v r => ck_qv r fun w r2 => cz_if (ck_cat v == 1 && ck_cat w == 1) (some (n, q.1 + 1, lv, v :: w :: v :: w :: r2)))
  | .pop => cz_n q.2.2.1 1 (ck_qv st fun v r => cz_if (ck_cat v == 1) (some (n, q.1 + 1, lv, r)))
  | .goto off => cz_n q.2.2.1 3 (cz_j q.1 off fun t => some (n, t, lv, st))
  | _ => none
