/-! THE CHECKER IS SOUND: returns, calls, contracts used -/
section CKL
variable {E : cz_E} {Γ : ck_G} {B : Int} {ρ τ : List Int} {θ : List ck_A} {n : ck_N} {es : List ck_Q} {h : cz_H} {st : List ck_V} {cst : List Value}
/-- what is answered -/
def ck_VR (E : cz_E) (Γ : ck_G) (ρ : List Int) (v : Option ck_V) (x : Option Value) : Prop := match v, x with
  | none, none => True
  | some w, some y => ck_Ds E Γ ρ w y
  | _, _ => False
theorem ck_nr_ok {a : ck_A} {z : Int32} (hn : ck_nok n ρ) (hz : z.toInt = ck_ev ρ a) : ∀ {tc : Nat}, ck_nr n tc a = true → cz_nr tc z = true
  | 0, _ => rfl
  | 1, e => by
    have b := ck_btw_ok hn e
    rw [← hz] at b
    rcases ck_01 b.1 b.2 with q | q
    · subst q; rfl
    · subst q; rfl
  | 2, e => by
    have b := ck_btw_ok hn e
    rw [← hz] at b
    apply decide_eq_true
    show Value.int (vp_nar .char z) = .int z
    rw [ck_nar_char b.1 b.2]
  | k + 3, e => by
    have b := ck_btw_ok hn e
    rw [← hz] at b
    have e8 : z.toInt8.toInt32 = z := Int32.toInt_inj.mp (ck_i2b_id b.1 b.2)
    apply decide_eq_true
    show Value.int z.toInt8.toInt32 = .int z
    rw [e8]
theorem ck_rt3_ok {q : cz_I} {v : Option ck_V} (hn : ∀ σ, ck_nok n (ρ ++ σ)) (hs : ck_Ls (ck_Ds E Γ ρ) st cst) (e : ck_rt3 q n st = some v) : ∃ cv, (∀ nL clv, cz_s1 E nL q clv cst = none) ∧ cz_s2 E q cst h = none ∧ cz_s3 E q cst h = some (.inr cv) ∧ ck_VR E Γ ρ v cv := by
  obtain ⟨pc, ins, len, xa, xb⟩ := q
  cases ins
  case ireturn =>
    obtain ⟨e0, e1⟩ := cz_n_some e
    have e0 : len = 1 := e0
    subst e0
    obtain ⟨w, r, rfl, t0, e2⟩ := ck_qi_some e1
    obtain ⟨hc, e3⟩ := cz_if_some e2
    cases e3
    obtain ⟨hc1, hc2⟩ := Bool.and_eq_true_iff.mp hc
    obtain ⟨x, cr, rfl, hx, hr⟩ := ck_Ls.cons hs
    obtain ⟨z, rfl, hz⟩ := ck_int hx t0
    have hr0 : cr = [] := by
      cases r with
      | nil => cases cr with
        | nil => rfl
        | cons _ _ => exact hr.elim
      | cons _ _ => cases hc1
    subst hr0
    refine ⟨some (.int z), fun _ _ => rfl, rfl, ?_, fun σ => ⟨z, rfl, hz σ⟩⟩
    show cz_n 1 1 (cz_if (true && cz_nr xa z) (some (Sum.inr (some (Value.int z))) : Option ((Nat × List Value × List Value) ⊕ Option Value))) = _
    rw [ck_nr_ok (hn []) (hz []) hc2]
    rfl
  case lreturn =>
    obtain ⟨e0, e1⟩ := cz_n_some e
    have e0 : len = 1 := e0
    subst e0
    obtain ⟨w, r, rfl, t0, e2⟩ := ck_ql_some e1
    obtain ⟨hc1, e3⟩ := cz_if_some e2
    cases e3
    obtain ⟨x, cr, rfl, hx, hr⟩ := ck_Ls.cons hs
    obtain ⟨z, rfl, hz⟩ := ck_lng hx t0
    have hr0 : cr = [] := by
      cases r with
      | nil => cases cr with
        | nil => rfl
        | cons _ _ => exact hr.elim
      | cons _ _ => cases hc1
    subst hr0
    exact ⟨some (.long z), fun _ _ => rfl, rfl, rfl, fun σ => ⟨z, rfl, hz σ⟩⟩
  case areturn =>
    obtain ⟨e0, e1⟩ := cz_n_some e
    have e0 : len = 1 := e0
    subst e0
    obtain ⟨w, r, rfl, e2⟩ := ck_qv_some e1
    obtain ⟨hc, e3⟩ := cz_if_some e2
    cases e3
    obtain ⟨hc1, hc2⟩ := Bool.and_eq_true_iff.mp hc
    obtain ⟨x, cr, rfl, hx, hr⟩ := ck_Ls.cons hs
    have hr0 : cr = [] := by
      cases r with
      | nil => cases cr with
        | nil => rfl
        | cons _ _ => exact hr.elim
      | cons _ _ => cases hc1
    subst hr0
    refine ⟨some x, fun _ _ => rfl, rfl, ?_, hx⟩
    show cz_n 1 1 (cz_if (true && cz_isA x) (some (Sum.inr (some x)) : Option ((Nat × List Value × List Value) ⊕ Option Value))) = _
    rw [ck_isa (hx []) (of_decide_eq_true hc2)]
    rfl
  case return_ =>
    obtain ⟨e0, e1⟩ := cz_n_some e
    have e0 : len = 1 := e0
    subst e0
    obtain ⟨hc1, e3⟩ := cz_if_some e1
    cases e3
    have hr0 : cst = [] := by
      cases st with
      | nil => cases cst with
        | nil => rfl
        | cons _ _ => exact hs.elim
      | cons _ _ => cases hc1
    subst hr0
    exact ⟨none, fun _ _ => rfl, rfl, rfl, trivial⟩
  all_goals cases e
/-! rows, cut -/
theorem ck_Ls.app {α β : Type} {P : α → β → Prop} : ∀ {l l2 : List α} {r r2 : List β}, ck_Ls P l r → ck_Ls P l2 r2 → ck_Ls P (l ++ l2) (r ++ r2)
  | [], _, [], _, _, h2 => h2
  | _ :: _, _, _ :: _, _, h1, h2 => ⟨h1.1, ck_Ls.app h1.2 h2⟩
  | [], _, _ :: _, _, h1, _ => h1.elim
  | _ :: _, _, [], _, h1, _ => h1.elim
theorem ck_Ls.rev {α β : Type} {P : α → β → Prop} : ∀ {l : List α} {r : List β}, ck_Ls P l r → ck_Ls P l.reverse r.reverse
  | [], [], _ => trivial
  | a :: l, b :: r, h => by
    rw [List.reverse_cons, List.reverse_cons]
    exact ck_Ls.app (ck_Ls.rev h.2) ⟨h.1, trivial⟩
  | [], _ :: _, h => h.elim
  | _ :: _, [], h => h.elim
theorem ck_Ls.tk {α β : Type} {P : α → β → Prop} : ∀ {l : List α} {r : List β} (k : Nat), ck_Ls P l r → ck_Ls P (l.take k) (r.take k) ∧ ck_Ls P (l.drop k) (r.drop k)
  | _, _, 0, h => by
    rw [List.take_zero, List.take_zero, List.drop_zero, List.drop_zero]
    exact ⟨trivial, h⟩
  | [], [], _ + 1, _ => ⟨trivial, trivial⟩
  | a :: l, b :: r, k + 1, h => by
    have := ck_Ls.tk k h.2
    exact ⟨⟨h.1, this.1⟩, this.2⟩
  | [], _ :: _, _ + 1, h => h.elim
  | _ :: _, [], _ + 1, h => h.elim
theorem ck_kt_cls : ∀ cn, cn < 13 → ∃ o, ck_kt[cn]? = some (.inl o) := by
  intro cn h
  have hall : ∀ cn, cn < 13 → (match ck_kt[cn]? with | some (.inl _) => true | _ => false) = true := by decide +kernel
  have := hall cn h
  split at this
  · next o ho => exact ⟨o, ho⟩
  · cases this
theorem ck_rc_ok {cn : Nat} {as : List ck_V} {cas : List Value} (hE : cz_Eok E) (ht : ck_HT E B Γ h) (hn : ∀ σ, ck_nok n (ρ ++ σ)) (hm : ck_Ms E Γ h ρ es) (ha : ck_Ls (ck_Ds E Γ ρ) as cas) (e : ck_rc n es cn as = true) : cz_rc E h cn cas = true := by
  unfold ck_rc at e
  split at e
  · next v0 l =>
    obtain ⟨x, cr, rfl, hx, -⟩ := ck_Ls.cons ha
    have hw := ck_nz_ok hn hm hx
    generalize ck_nz n es v0 = v at e hw
    dsimp only at e
    split at e
    · next h15 =>
      have t6 : v.1 = 6 := by simpa using e
      obtain ⟨k, k1, rfl, -⟩ := ck_D6w hE hw t6
      show (if cn = 15 then (cz_ks E (E.2.2.1 k)).isSome else _) = true
      rw [if_pos h15]
      unfold cz_ks
      rw [cz_fd_of k1 hE.2.2.1]
      rfl
    · next h15 =>
      simp only [Bool.and_eq_true, Bool.or_eq_true, beq_iff_eq, decide_eq_true_eq] at e
      obtain ⟨⟨tv, hk⟩, hc⟩ := e
      obtain ⟨p, rfl, -, m, hg, -⟩ := ck_D39 hw tv
      rw [hk] at hg
      obtain ⟨o, ho⟩ := ck_kt_cls cn hc
      have hlen : p < h.length := by rw [← ht.1]; exact (List.getElem?_eq_some_iff.mp hg).1
      have hcell := ht.2 p _ _ hg (List.getElem?_eq_getElem hlen)
      unfold ck_cell at hcell
      simp only [ho] at hcell
      obtain ⟨vs, c1, -⟩ := hcell
      show (if cn = 15 then _ else match cz_at E h (E.1 + p) with
        | some (.inr (ci, _)) => ci == cn && decide (cn < 13)
        | _ => false) = true
      rw [if_neg h15, cz_at_add, List.getElem?_eq_getElem hlen, c1]
      show (o.1 == cn && decide (cn < 13)) = true
      rw [ck_kt_obj ho, decide_eq_true hc, beq_self_eq_true]
      rfl
  · cases e
theorem ck_cl3_ok {q : cz_I} {mj : Nat} {as r : List ck_V} (hE : cz_Eok E) (ht : ck_HT E B Γ h) (hn : ∀ σ, ck_nok n (ρ ++ σ)) (hs : ck_Ls (ck_Ds E Γ ρ) st cst) (hm : ck_Ms E Γ h ρ es) (e : ck_cl3 q n st es = some (mj, as, r)) : ∃ cas cr, (∀ nL clv, cz_s1 E nL q clv cst = none) ∧ cz_s2 E q cst h = none ∧ cz_s3 E q cst h = some (.inl (mj, cas, cr)) ∧ ck_Ls (ck_Ds E Γ ρ) as cas ∧ ck_Ls (ck_Ds E Γ ρ) r cr := by
  obtain ⟨pc, ins, len, xa, xb⟩ := q
  have tk := ck_Ls.tk xb.toNat hs
  have hA := ck_Ls.rev tk.1
  have pop : ∀ {k : List Value → List Value → Option ((Nat × List Value × List Value) ⊕ Option Value)}, decide (xb.toNat ≤ st.length) = true → cz_pop xb.toNat cst k = k (cst.take xb.toNat).reverse (cst.drop xb.toNat) := by
    intro k hd
    have hd := of_decide_eq_true hd
    unfold cz_pop
    rw [if_pos (by rw [← hs.len]; exact hd)]
  have sums : (cz_sum (cst.drop xb.toNat) = ck_sum (st.drop xb.toNat)) ∧ cz_sum (cst.take xb.toNat).reverse = ck_sum (st.take xb.toNat).reverse := ⟨ck_sum_ok tk.2, ck_sum_ok hA⟩
  unfold ck_cl3 at e
  dsimp only at e
  cases ins
  case invokevirtual i =>
    obtain ⟨e0, e1⟩ := cz_n_some e
    subst e0
    obtain ⟨hc, e2⟩ := cz_if_some e1
    cases e2
    simp only [Bool.and_eq_true] at hc
    obtain ⟨⟨h0, ⟨h1, h2⟩, h3⟩, h4⟩ := hc
    refine ⟨_, _, fun _ _ => rfl, rfl, ?_, hA, tk.2⟩
    show cz_n 3 3 (cz_if (decide (0 < xb)) (cz_pop xb.toNat cst fun as r => cz_if (cz_rc E h (cz_mf mj).1 as && decide (cz_sum r ≤ 8) && decide (cz_sum as ≤ (cz_mf mj).2.2.2.2.1)) (some (Sum.inl (mj, as, r)) : Option ((Nat × List Value × List Value) ⊕ Option Value)))) = _
    rw [pop h1, h0, ck_rc_ok hE ht hn hm hA h4, sums.1, sums.2, h2, h3]
    rfl
  case invokestatic i =>
    obtain ⟨e0, e1⟩ := cz_n_some e
    subst e0
    obtain ⟨hc, e2⟩ := cz_if_some e1
    cases e2
    simp only [Bool.and_eq_true] at hc
    obtain ⟨h0, ⟨h1, h2⟩, h3⟩ := hc
    have hb : (xb == -5) = false := by
      have := of_decide_eq_true h0
      simp only [beq_eq_false_iff_ne]
      omega
    refine ⟨_, _, fun _ _ => rfl, ?_, ?_, hA, tk.2⟩
    · show cz_n 3 3 (cz_if (xb == -5) (_ : Option (Nat × List Value × cz_H))) = none
      rw [hb]
      rfl
    · show cz_n 3 3 (cz_if (decide (0 ≤ xb)) (cz_pop xb.toNat cst fun as r => cz_if (decide (cz_sum r ≤ 8) && decide (cz_sum as ≤ (cz_mf mj).2.2.2.2.1)) (some (Sum.inl (mj, as, r)) : Option ((Nat × List Value × List Value) ⊕ Option Value)))) = _
      rw [pop h1, h0, sums.1, sums.2, h2, h3]
      rfl
  case invokespecial i =>
    obtain ⟨e0, e1⟩ := cz_n_some e
    subst e0
    obtain ⟨hc, e2⟩ := cz_if_some e1
    cases e2
    simp only [Bool.and_eq_true] at hc
    obtain ⟨⟨h0, ⟨h1, h2⟩, h3⟩, h4⟩ := hc
    have hb : (xb == -4) = false := by
      have := of_decide_eq_true h0
      simp only [beq_eq_false_iff_ne]
      omega
    refine ⟨_, _, fun _ _ => rfl, ?_, ?_, hA, tk.2⟩
    · show cz_n 3 3 (cz_if (xb == -4) (_ : Option (Nat × List Value × cz_H))) = none
      rw [hb]
      rfl
    · show cz_n 3 3 (cz_if (decide (0 < xb)) (cz_pop xb.toNat cst fun as r => cz_if (cz_rc E h (cz_mf mj).1 as && decide (cz_sum r ≤ 8) && decide (cz_sum as ≤ (cz_mf mj).2.2.2.2.1)) (some (Sum.inl (mj, as, r)) : Option ((Nat × List Value × List Value) ⊕ Option Value)))) = _
      rw [pop h1, h0, ck_rc_ok hE ht hn hm hA h4, sums.1, sums.2, h2, h3]
      rfl
  all_goals cases e
/-! arguments -/
/-- the first of the arguments are as they are known -/
def ck_Pf (E : cz_E) (Γ : ck_G) (ρ : List Int) : List ck_V → List Value → Prop
  | [], _ => True
  | v :: l, x :: r => ck_Ds E Γ ρ v x ∧ ck_Pf E Γ ρ l r
  | _ :: _, [] => False
theorem ck_Pf_of : ∀ {as : List ck_V} {cas : List Value}, ck_Ls (ck_Ds E Γ ρ) as cas → ck_Pf E Γ ρ as cas
  | [], _, _ => trivial
  | _ :: _, _ :: _, h => ⟨h.1, ck_Pf_of h.2⟩
  | _ :: _, [], h => h.elim
theorem ck_args_ok : ∀ {as : List ck_V} {cas : List Value} {i : Nat}, ck_Pf E Γ ρ as cas → ∀ σ, ck_LR E Γ (ρ ++ σ) (ck_args i as) (lv_args i cas)
  | [], _, i, _, σ => by
    intro j v e
    unfold ck_args at e
    cases e
  | v :: l, x :: r, i, hp, σ => by
    intro j w e
    unfold ck_args ck_lk at e
    unfold lv_args cz_lk
    dsimp only at e ⊢
    by_cases hj : i = j
    · rw [if_pos hj] at e ⊢
      cases e
      exact ⟨x, rfl, hp.1 σ⟩
    · rw [if_neg hj] at e ⊢
      have hc := (hp.1 []).cat
      rw [hc]
      exact ck_args_ok hp.2 σ j w e
  | _ :: _, [], _, hp, _ => hp.elim
def cz_zp : List Value → Nat → cz_LV
  | [], _ => []
  | v :: l, i => (i, v) :: cz_zp l (i + 1)
theorem ck_zip_ok : ∀ {as : List ck_V} {cas : List Value} {i : Nat}, ck_Ls (ck_Ds E Γ ρ) as cas → ∀ σ, ck_LR E Γ (ρ ++ σ) (ck_zip as i) (cz_zp cas i)
  | [], _, i, _, σ => by
    intro j v e
    unfold ck_zip at e
    cases e
  | v :: l, x :: r, i, hp, σ => by
    intro j w e
    unfold ck_zip ck_lk at e
    unfold cz_zp cz_lk
    dsimp only at e ⊢
    by_cases hj : i = j
    · rw [if_pos hj] at e ⊢
      cases e
      exact ⟨x, rfl, hp.1 σ⟩
    · rw [if_neg hj] at e ⊢
      exact ck_zip_ok hp.2 σ j w e
  | _ :: _, [], _, hp, _ => hp.elim
theorem cz_zp_lt : ∀ {cas : List Value} {i j : Nat}, j < i → cz_lk (cz_zp cas i) j = none
  | [], _, _, _ => rfl
  | x :: r, i, j, h => by
    unfold cz_zp cz_lk
    dsimp only
    rw [if_neg (by omega)]
    exact cz_zp_lt (by omega)
/-- a contract's patterns of arguments stand in their order -/
def ck_ord : List (Nat × ck_V) → Nat → Bool
  | [], _ => true
  | p :: l, i => p.1 == i && ck_ord l (i + 1)
theorem ck_ord_ok : ∀ {L : List (Nat × ck_V)} {cas : List Value} {i : Nat}, ck_ord L i = true → (∀ p ∈ L, ∃ x, cz_lk (cz_zp cas i) p.1 = some x ∧ ck_Ds E Γ τ p.2 x) → ck_Pf E Γ τ (ck_a2 L) cas
  | [], _, _, _, _ => trivial
  | p :: l, [], i, _, hp => by
    obtain ⟨x, hx, -⟩ := hp p List.mem_cons_self
    cases hx
  | p :: l, y :: r, i, ho, hp => by
    unfold ck_ord at ho
    simp only [Bool.and_eq_true, beq_iff_eq] at ho
    obtain ⟨o1, o2⟩ := ho
    obtain ⟨x, hx, dx⟩ := hp p List.mem_cons_self
    unfold cz_zp cz_lk at hx
    dsimp only at hx
    rw [if_pos o1.symm] at hx
    cases hx
    refine ⟨dx, ck_ord_ok (i := i + 1) o2 fun q hq => ?_⟩
    obtain ⟨x', hx', dx'⟩ := hp q (List.mem_cons_of_mem _ hq)
    refine ⟨x', ?_, dx'⟩
    unfold cz_zp cz_lk at hx'
    dsimp only at hx'
    split at hx'
    · next hi =>
      exfalso
      have : ∀ {L : List (Nat × ck_V)} {k : Nat}, ck_ord L k = true → ∀ q ∈ L, k ≤ q.1 := by
        intro L
        induction L with
        | nil => intro k _ q hq; cases hq
        | cons a b ih =>
          intro k hk q hq
          unfold ck_ord at hk
          simp only [Bool.and_eq_true, beq_iff_eq] at hk
          rcases List.mem_cons.mp hq with rfl | hq
          · omega
          · have := ih hk.2 q hq
            omega
      have := this o2 q hq
      omega
    · exact hx'
/-! forms put into forms, the other way -/
theorem ck_sbv_ok {v w : ck_V} {x : Value} (H : ck_TH ρ θ τ) (hv : ck_Ds E Γ τ v x) (e : ck_sbv θ v = some w) : ck_Ds E Γ ρ w x := by
  intro σ
  have d := hv []
  unfold ck_sbv at e
  split at e
  · next t0 =>
    obtain ⟨hab, e1⟩ := cz_if_some e
    cases e1
    obtain ⟨z, rfl, hz⟩ := ck_D_i d t0
    exact ⟨z, rfl, by show z.toInt = ck_ev _ (ck_sb θ v.2.2.2.1); rw [ck_sb_ev H hab σ [], hz]⟩
  · next t1 =>
    obtain ⟨hab, e1⟩ := cz_if_some e
    cases e1
    obtain ⟨z, rfl, hz⟩ := ck_D_l d t1
    exact ⟨z, rfl, by show z.toInt = ck_ev _ (ck_sb θ v.2.2.2.1); rw [ck_sb_ev H hab σ [], hz]⟩
  · next t3 =>
    obtain ⟨r, hr, e1⟩ := cz_so_some e
    cases e1
    obtain ⟨k1, k2⟩ := ck_rr_ok H hr
    obtain ⟨p, rfl, hp, m, hg, hf⟩ := ck_D3 d t3
    rw [List.append_nil] at hp
    exact ck_D3i rfl (by rw [k2 σ]; exact hp) hg hf
  · next t4 =>
    obtain ⟨r, hr, e1⟩ := cz_so_some e
    cases e1
    obtain ⟨k1, k2⟩ := ck_rr_ok H hr
    rcases ck_D4 d t4 with ⟨rfl, q⟩ | ⟨p, rfl, hp, m, hg, hf⟩
    · rw [List.append_nil] at q
      exact ck_D4n (v := (4, r, v.2.2.1, ck_c 0, ck_c 0)) rfl (by show (ρ ++ σ).getD r 0 = -1; rw [k2 σ]; exact q)
    · rw [List.append_nil] at hp
      exact ck_D4j (v := (4, r, v.2.2.1, ck_c 0, ck_c 0)) rfl (by show (p : Int) = (ρ ++ σ).getD r 0; rw [k2 σ]; exact hp) hg hf
  · next t5 =>
    cases e
    unfold ck_D at d
    rw [t5] at d
    exact d
  · cases e
theorem ck_sbq_ok {q q' : ck_Q} (H : ck_TH ρ θ τ) (hm : ∀ σ, ck_M E Γ h (τ ++ σ) q) (e : ck_sbq θ q = some q') : ∀ σ, ck_M E Γ h (ρ ++ σ) q' := by
  intro σ
  unfold ck_sbq at e
  obtain ⟨r, hr, e1⟩ := cz_so_some e
  obtain ⟨k1, k2⟩ := ck_rr_ok H hr
  have root : ∀ {p : Nat}, (p : Int) = (τ ++ []).getD q.2.1 0 → (p : Int) = (ρ ++ σ).getD r 0 := fun {p} hp => by rw [k2 σ, hp, List.append_nil]
  have M := hm []
  unfold ck_M at M
  split at e1
  · next t0 =>
    obtain ⟨v, hv, e2⟩ := cz_so_some e1
    cases e2
    rw [t0] at M
    obtain ⟨p, vs, x, p1, p2, p3, -⟩ := M
    have dall : ck_Ds E Γ τ q.2.2.2.2.2 x := by
      intro σ'
      have M' := hm σ'
      unfold ck_M at M'
      rw [t0] at M'
      obtain ⟨p', vs', x', p1', p2', p3', p4'⟩ := M'
      have : p' = p := by
        rw [ck_gl k1] at p1'
        rw [List.append_nil] at p1
        omega
      subst this
      cases p2'.symm.trans p2
      cases p3'.symm.trans p3
      exact p4'
    exact ⟨p, vs, x, root p1, p2, p3, ck_sbv_ok H dall hv σ⟩
  · next t1 =>
    obtain ⟨hab, e2⟩ := cz_if_some e1
    obtain ⟨v, hv, e3⟩ := cz_so_some e2
    cases e3
    rw [t1] at M
    obtain ⟨p, m, tc, nn, y, i, p1, p2, p3, p4, p5, -⟩ := M
    rw [← ck_sb_ev H hab σ []] at p4
    have dall : ck_Ds E Γ τ q.2.2.2.2.2 (ck_el y i) := by
      intro σ'
      have M' := hm σ'
      unfold ck_M at M'
      rw [t1] at M'
      obtain ⟨p', m', tc', nn', y', i', p1', p2', p3', p4', p5', p6'⟩ := M'
      have : p' = p := by
        rw [ck_gl k1] at p1'
        rw [List.append_nil] at p1
        omega
      subst this
      cases p3'.symm.trans p3
      rw [← ck_sb_ev H hab σ σ'] at p4'
      have : i' = i := by omega
      subst this
      exact p6'
    exact ⟨p, m, tc, nn, y, i, root p1, p2, p3, p4, p5, ck_sbv_ok H dall hv σ⟩
  · next t3 =>
    obtain ⟨hab, e2⟩ := cz_if_some e1
    cases e2
    rw [t3] at M
    obtain ⟨p, m, tc, nn, y, p1, p2, p3, p4⟩ := M
    exact ⟨p, m, tc, nn, y, root p1, p2, p3, by show _ = ck_ev _ (ck_sb θ q.2.2.2.2.1); rw [ck_sb_ev H hab σ []]; exact p4⟩
  · next t4 =>
    obtain ⟨hab, e2⟩ := cz_if_some e1
    cases e2
    rw [t4] at M
    obtain ⟨p, m, tc, nn, f, p1, p2, p3, p4⟩ := M
    refine ⟨p, m, tc, nn, f, root p1, p2, p3, fun l hl1 hl2 => p4 l hl1 ?_⟩
    have hl2 : (l : Int) < ck_ev (ρ ++ σ) (ck_sb θ q.2.2.2.2.1) := hl2
    rw [ck_sb_ev H hab σ []] at hl2
    exact hl2
  · next t6 =>
    cases e1
    rw [t6] at M
    obtain ⟨p, vs, k, s, p1, p2⟩ := M
    exact ⟨p, vs, k, s, root p1, p2⟩
  · next t11 =>
    cases e1
    rw [t11] at M
    obtain ⟨p, m, p1, p2⟩ := M
    exact ⟨p, m, root p1, p2⟩
  · cases e1
theorem ck_sbqs_ok (H : ck_TH ρ θ τ) : ∀ {L L' : List ck_Q}, ck_Ms E Γ h τ L → ck_sbqs θ L = some L' → ck_Ms E Γ h ρ L'
  | [], _, _, e => by
    cases e
    exact ck_Ms_nil
  | q :: l, L', hm, e => by
    unfold ck_sbqs at e
    obtain ⟨x, hx, e1⟩ := cz_so_some e
    obtain ⟨y, hy, e2⟩ := cz_so_some e1
    cases e2
    exact ck_Ms_cons (ck_sbq_ok H (hm q List.mem_cons_self) hx) (ck_sbqs_ok H (fun q' hq' => hm q' (List.mem_cons_of_mem _ hq')) hy)
theorem ck_sbf_ok (H : ck_TH ρ θ τ) : ∀ {L L' : List ck_A}, (∀ f ∈ L, ∀ σ, ck_ev (τ ++ σ) f ≤ 0) → ck_sbf θ L = some L' → ∀ f ∈ L', ∀ σ, ck_ev (ρ ++ σ) f ≤ 0
  | [], _, _, e => by
    cases e
    intro f hf
    cases hf
  | a :: l, L', hm, e => by
    unfold ck_sbf at e
    obtain ⟨hab, e1⟩ := cz_if_some e
    obtain ⟨y, hy, e2⟩ := cz_so_some e1
    cases e2
    intro f hf σ
    rcases List.mem_cons.mp hf with rfl | hf
    · rw [ck_sb_ev H hab σ []]
      exact hm a List.mem_cons_self _
    · exact ck_sbf_ok H (fun f' hf' => hm f' (List.mem_cons_of_mem _ hf')) hy f hf σ
/-- new roots, their intervals, facts: what is known then -/
theorem ck_nok_app {iv : List (Int × Int)} {fs : List ck_A} {τ2 : List Int} (hl : ρ.length = n.1.length) (hn : ∀ σ, ck_nok n (ρ ++ σ)) (h1 : ∀ (j : Nat) (b : Int × Int), iv[j]? = some b → b.1 ≤ τ2.getD j 0 ∧ τ2.getD j 0 ≤ b.2) (hτ : τ2.length = iv.length) (h2 : ∀ f ∈ fs, ∀ σ, ck_ev ((ρ ++ τ2) ++ σ) f ≤ 0) : (ρ ++ τ2).length = (n.1 ++ iv).length ∧ ∀ σ, ck_nok (n.1 ++ iv, fs ++ n.2) ((ρ ++ τ2) ++ σ) := by
  refine ⟨by rw [List.length_append, List.length_append, hl, hτ], fun σ => ⟨fun i b hb => ?_, fun f hf => ?_⟩⟩
  · by_cases hi : i < n.1.length
    · have hb : (n.1 ++ iv)[i]? = some b := hb
      rw [List.getElem?_append_left hi] at hb
      rw [List.append_assoc]
      exact (hn _).1 i b hb
    · have hb : (n.1 ++ iv)[i]? = some b := hb
      rw [List.getElem?_append_right (by omega)] at hb
      have hj := (List.getElem?_eq_some_iff.mp hb).1
      have := h1 _ b hb
      have e9 : ((ρ ++ τ2) ++ σ).getD i 0 = τ2.getD (i - n.1.length) 0 := by
        rw [ck_gl (by rw [List.length_append]; omega), List.getD_eq_getElem?_getD, List.getD_eq_getElem?_getD, List.getElem?_append_right (by omega), hl]
      rw [e9]
      exact this
  · rcases List.mem_append.mp hf with hf | hf
    · exact h2 f hf σ
    · rw [List.append_assoc]
      exact (hn _).2 f hf
theorem ck_TH.more {τ2 : List Int} (H : ck_TH ρ θ τ) : ck_TH (ρ ++ τ2) (θ ++ (List.range τ2.length).map (fun i => ck_v (ρ.length + i))) (τ ++ τ2) := by
  refine ⟨by simp [H.1], fun i a e σ => ?_⟩
  by_cases hi : i < θ.length
  · rw [List.getElem?_append_left hi] at e
    rw [ck_gl (by rw [H.1]; exact hi), List.append_assoc]
    exact H.2 i a e _
  · rw [List.getElem?_append_right (by omega)] at e
    have hj := (List.getElem?_eq_some_iff.mp e).1
    have hj : i - θ.length < τ2.length := by simpa using hj
    rw [List.getElem?_map, List.getElem?_range hj] at e
    cases e
    rw [ck_ev_v, ck_gl (by rw [List.length_append]; omega), List.getD_eq_getElem?_getD, List.getD_eq_getElem?_getD, List.getElem?_append_right (by omega), List.getElem?_append_right (by rw [H.1]; omega), Nat.add_sub_cancel_left, H.1]
end CKL
