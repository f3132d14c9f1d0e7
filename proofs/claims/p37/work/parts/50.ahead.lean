/-! THE CHECKER IS SOUND: what is read ahead; products and quotients -/
section CKH
variable {E : cz_E} {Γ : ck_G} {B : Int} {ρ : List Int} {n n' : ck_N} {es es' : List ck_Q} {h : cz_H} {lv : ck_LV} {clv : cz_LV}
theorem ck_root_ok {v0 : ck_V} {x : Value} {o : Nat × Nat} (hn : ∀ σ, ck_nok n (ρ ++ σ)) (hm : ck_Ms E Γ h ρ es) (hv : ck_Ds E Γ ρ v0 x) (e : ck_root n es v0 = some o) : ∃ p m : Nat, x = .ref (E.1 + p) ∧ (∀ σ, (p : Int) = (ρ ++ σ).getD o.1 0) ∧ Γ[p]? = some (o.2, m) ∧ ck_full o.2 m = true := by
  have hw := ck_nz_ok hn hm hv
  unfold ck_root at e
  generalize ck_nz n es v0 = v at e hw
  dsimp only at e
  split at e
  · next t3 =>
    cases e
    obtain ⟨p, rfl, hp, m, hg, hf⟩ := ck_D39 hw (Or.inl t3)
    exact ⟨p, m, rfl, hp, hg, hf t3⟩
  · cases e
theorem ck_loc_ok {j : Nat} {a : ck_A} (hL : ∀ σ, ck_LR E Γ (ρ ++ σ) lv clv) (e : ck_loc lv j = some a) : ∀ σ, ck_ev (ρ ++ σ) a = ck_ev (ρ ++ []) a := by
  unfold ck_loc at e
  split at e
  · next v hv =>
    split at e
    · next t0 =>
      cases e
      obtain ⟨x, -, dx⟩ := ck_lkA hL hv
      obtain ⟨z, -, hz⟩ := ck_int dx t0
      intro σ
      rw [← hz σ, ← hz []]
    · cases e
  · cases e
theorem ck_nf_ok (hL : ∀ σ, ck_LR E Γ (ρ ++ σ) lv clv) : ∀ {t : List (Nat × Int)} {f : ck_A}, ck_nf lv lv [] [] t = some f → ∀ σ, ck_ev (ρ ++ σ) f = ck_ev (ρ ++ []) f
  | [], f, e, σ => by
    unfold ck_nf at e
    cases e
    rw [ck_ev_c, ck_ev_c]
  | q :: l, f, e, σ => by
    unfold ck_nf at e
    obtain ⟨a, ha, e1⟩ := cz_so_some e
    obtain ⟨b, hb, e2⟩ := cz_so_some e1
    cases e2
    have ca : ck_ev (ρ ++ σ) a = ck_ev (ρ ++ []) a := by
      split at ha
      · exact ck_loc_ok hL ha σ
      · split at ha
        · simp at ha
        · split at ha
          · simp at ha
          · exact ck_loc_ok hL ha σ
    rw [ck_add_ev, ck_add_ev, ck_mul_ev, ck_mul_ev, ca, ck_nf_ok hL hb σ]
theorem ck_na_ok {a f : ck_A} (hL : ∀ σ, ck_LR E Γ (ρ ++ σ) lv clv) (e : ck_na lv lv [] [] a = some f) (σ : List Int) : ck_ev (ρ ++ σ) f = ck_ev (ρ ++ []) f := by
  unfold ck_na at e
  obtain ⟨b, hb, e1⟩ := cz_so_some e
  cases e1
  rw [ck_add_ev, ck_add_ev, ck_ev_c, ck_ev_c, ck_nf_ok hL hb σ]
theorem ck_LR_app (ρ2 : List Int) (hL : ∀ σ, ck_LR E Γ (ρ ++ σ) lv clv) : ∀ σ, ck_LR E Γ ((ρ ++ ρ2) ++ σ) lv clv := fun σ => by
  rw [List.append_assoc]
  exact hL _
theorem ck_Ms_cons {q : ck_Q} (hq : ∀ σ, ck_M E Γ h (ρ ++ σ) q) (hm : ck_Ms E Γ h ρ es) : ck_Ms E Γ h ρ (q :: es) := by
  intro q' hq' σ
  rcases List.mem_cons.mp hq' with rfl | hq'
  · exact hq σ
  · exact hm q' hq' σ
theorem ck_ld_ok {t : ck_vt} (hB : B ≤ ck_BM) (hH : (Γ.length : Int) ≤ ck_HM) (J : ck_J E Γ B ρ n [] es [] h) (hL : ∀ σ, ck_LR E Γ (ρ ++ σ) lv clv) (e : ck_ld n lv es t = some (n', es')) : ∃ ρ2, ck_J E Γ B (ρ ++ ρ2) n' [] es' [] h := by
  obtain ⟨hl, ht, hn, hs, hm⟩ := J
  have same : ck_J E Γ B (ρ ++ []) n [] es [] h := by
    rw [List.append_nil]
    exact ⟨hl, ht, hn, hs, hm⟩
  have drop : ∀ {n' : ck_N} {v : ck_V} {x : Value} {new : List ck_Q}, (∃ ρ2, ck_J E Γ B (ρ ++ ρ2) n' (v :: []) (new ++ es) (x :: []) h) → ∃ ρ2, ck_J E Γ B (ρ ++ ρ2) n' [] (new ++ es) [] h := by
    intro n' v x new hh
    obtain ⟨ρ2, a1, a2, a3, a4, a5⟩ := hh
    exact ⟨ρ2, a1, a2, a3, trivial, a5⟩
  unfold ck_ld at e
  obtain ⟨b, hb, e1⟩ := cz_so_some e
  obtain ⟨o, ho, e2⟩ := cz_so_some e1
  obtain ⟨x, hx, dx⟩ := ck_lkA hL hb
  obtain ⟨p, m, rfl, hp, hg, hf⟩ := ck_root_ok hn hm dx ho
  split at e2
  · obtain ⟨hc, e3⟩ := cz_if_some e2
    have hc : o.2 = t.2.2.1 := by simpa using hc
    split at e3
    · cases e3
      exact ⟨[], same⟩
    · obtain ⟨s, hs1, e4⟩ := cz_so_some e3
      obtain ⟨pq, hpq, e5⟩ := cz_so_some e4
      cases e5
      rw [hc] at hg hf
      obtain ⟨vs, y, h1, h2, h3, -⟩ := ck_obj ht hg hs1
      refine drop (new := [(0, o.1, t.2.2.1, t.2.2.2.1, ck_c 0, pq.2)]) (ck_J.push ht hs hm (ck_sv_ok hl hn hB hH hpq (h3 (ck_full_bit hs1 hf))) fun ρ2 hd q hq σ => ?_)
      rw [List.mem_singleton.mp hq]
      exact ⟨p, vs, y, by rw [List.append_assoc]; exact hp _, h1, h2, hd σ⟩
  · obtain ⟨w, hw, e3⟩ := cz_so_some e2
    obtain ⟨a, ha, e4⟩ := cz_so_some e3
    obtain ⟨k, hk, e5⟩ := cz_so_some e4
    obtain ⟨vs, y, h1, h2, dw⟩ := ck_f0_ok hm hw hp
    obtain ⟨pa, ma, rfl, hpa, hga, hfa⟩ := ck_root_ok hn hm dw ha
    obtain ⟨ya, haa, hsh, hrw, hty⟩ := ck_arr ht hga hk
    split at e5
    · obtain ⟨ix, hix, e6⟩ := cz_so_some e5
      split at e6
      · cases e6
        exact ⟨[], same⟩
      · obtain ⟨hin, e7⟩ := cz_if_some e6
        obtain ⟨pq, hpq, e8⟩ := cz_so_some e7
        cases e8
        have b1 := ck_inr_ok (hn []) hin
        rw [ck_ev_c] at b1
        obtain ⟨i, hi⟩ : ∃ i : Nat, (i : Int) = ck_ev (ρ ++ []) ix := ⟨(ck_ev (ρ ++ []) ix).toNat, by omega⟩
        have hil : i < k.2.1 := by omega
        have hiσ : ∀ σ, (i : Int) = ck_ev (ρ ++ σ) ix := fun σ => by rw [ck_na_ok hL hix σ]; exact hi
        have hv := ck_esp_ok (hn []) hm (hpa []) hga haa hi hrw (hty i hil)
        refine drop (new := [(1, a.1, a.2, 0, ix, pq.2)]) (ck_J.push ht hs hm (ck_sv_ok hl hn hB hH hpq hv) fun ρ2 hd q hq σ => ?_)
        rw [List.mem_singleton.mp hq]
        exact ⟨pa, ma, k.1, k.2.1, ya, i, by rw [List.append_assoc]; exact hpa _, hga, haa, by rw [List.append_assoc]; exact hiσ _, hil, hd σ⟩
    · cases e5
      have hcn := ck_cn_le (ck_el ya) (ck_P01 t.2.2.2.2.1) k.2.1
      obtain ⟨g1, g2⟩ := ck_newroot (b := (0, (k.2.1 : Int))) (w := ((ck_cn (ck_el ya) (ck_P01 t.2.2.2.2.1) k.2.1 : Nat) : Int)) hl hn ⟨by show (0 : Int) ≤ _; omega, by show _ ≤ ((k.2.1 : Nat) : Int); omega⟩
      refine ⟨[((ck_cn (ck_el ya) (ck_P01 t.2.2.2.2.1) k.2.1 : Nat) : Int)], g1, ht, fun σ => (g2 σ).1, trivial, ck_Ms_cons (fun σ => ?_) (ck_Ms_app _ hm)⟩
      exact ⟨pa, ma, k.1, k.2.1, ya, by rw [List.append_assoc]; exact hpa _, hga, haa, by show _ = ck_ev _ (ck_v n.1.length); rw [ck_ev_v]; exact (g2 σ).2.symm⟩
    · obtain ⟨hc, e6⟩ := cz_if_some e5
      cases e6
      have hc : a.2 = 82 := by simpa using hc
      rw [hc, ck_ak82] at hk
      cases hk
      rcases ya with f | f | f | f | f
      · refine ⟨[], ?_⟩
        rw [List.append_nil]
        refine ⟨hl, ht, hn, hs, ck_Ms_cons (fun σ => ?_) hm⟩
        refine ⟨pa, ma, 0, 260, f, hpa σ, hga, haa, fun l _ hl2 => ?_⟩
        have hl2 : (l : Int) < ck_ev (ρ ++ σ) (ck_c 0) := hl2
        rw [ck_ev_c] at hl2
        omega
      · have hsh : (0 : Nat) = 2 := hsh
        omega
      · exact hsh.elim
      · exact hsh.elim
      · have hsh : (0 : Nat) = 5 ∨ (0 : Nat) = 6 := hsh
        omega
    · cases e5
theorem ck_lds_ok (hB : B ≤ ck_BM) (hH : (Γ.length : Int) ≤ ck_HM) : ∀ {L : List ck_vt} {ρ : List Int} {n : ck_N} {es : List ck_Q} {p : ck_N × List ck_Q}, ck_J E Γ B ρ n [] es [] h → (∀ σ, ck_LR E Γ (ρ ++ σ) lv clv) → ck_lds lv L n es = some p → ∃ ρ2, ck_J E Γ B (ρ ++ ρ2) p.1 [] p.2 [] h
  | [], ρ, n, es, p, J, _, e => by
    cases e
    exact ⟨[], by rw [List.append_nil]; exact J⟩
  | t :: l, ρ, n, es, p, J, hL, e => by
    unfold ck_lds at e
    obtain ⟨q, hq, e1⟩ := cz_so_some e
    obtain ⟨ρ2, J2⟩ := ck_ld_ok (n' := q.1) (es' := q.2) hB hH J hL hq
    obtain ⟨ρ3, J3⟩ := ck_lds_ok hB hH J2 (ck_LR_app ρ2 hL) e1
    exact ⟨ρ2 ++ ρ3, by rw [← List.append_assoc]; exact J3⟩
/-! four shares -/
theorem ck_f9_mem {r : Nat} {c : ck_A × ck_A} : ∀ {es : List ck_Q}, ck_f9 es r = some c → ∃ (x : Nat × Nat) (y : ck_V), ((9, r, x.1, x.2, c.1, y) : ck_Q) ∈ es ∧ y.2.2.2.1 = c.2
  | [], h => by cases h
  | q :: l, h => by
    unfold ck_f9 at h
    split at h
    · next e =>
      simp only [Bool.and_eq_true, beq_iff_eq] at e
      cases h
      refine ⟨(q.2.2.1, q.2.2.2.1), q.2.2.2.2.2, ?_, rfl⟩
      rw [← e.1, ← e.2]
      exact List.mem_cons_self
    · obtain ⟨x, y, hx, hy⟩ := ck_f9_mem h
      exact ⟨x, y, List.mem_cons_of_mem _ hx, hy⟩
theorem ck_q4_ok {es0 : List ck_Q} (hm0 : ck_Ms E Γ h ρ es0) : ∀ {es : List ck_Q}, ck_Ms E Γ h ρ es → ∀ z ∈ ck_q4 es0 es, ∀ σ, ck_ev (ρ ++ σ) z.2.2.2 * (ρ ++ σ).getD z.1 0 ≤ ck_ev (ρ ++ σ) z.2.1 * ck_ev (ρ ++ σ) z.2.2.1 ∧ ck_ev (ρ ++ σ) z.2.1 * ck_ev (ρ ++ σ) z.2.2.1 < ck_ev (ρ ++ σ) z.2.2.2 * ((ρ ++ σ).getD z.1 0 + 1)
  | [], _, z, hz, _ => by cases hz
  | q :: l, hm, z, hz, σ => by
    have hm2 : ck_Ms E Γ h ρ l := fun q' hq' => hm q' (List.mem_cons_of_mem _ hq')
    unfold ck_q4 at hz
    split at hz
    · next t10 =>
      split at hz
      · next p hp =>
        split at hz
        · next c hc =>
          rcases List.mem_cons.mp hz with rfl | hz
          · have M := hm q List.mem_cons_self σ
            unfold ck_M at M
            rw [t10] at M
            obtain ⟨m1, m2⟩ := M
            obtain ⟨x, y, hx, hy⟩ := ck_f9_mem hc
            have M9 : (ρ ++ σ).getD p 0 = ck_ev (ρ ++ σ) c.1 * ck_ev (ρ ++ σ) y.2.2.2.1 := hm0 _ hx σ
            rw [hy] at M9
            have e1 := ck_rt_ok hp (ρ ++ σ)
            rw [e1, M9] at m1 m2
            exact ⟨m1, m2⟩
          · exact ck_q4_ok hm0 hm2 z hz σ
        · exact ck_q4_ok hm0 hm2 z hz σ
      · exact ck_q4_ok hm0 hm2 z hz σ
    · exact ck_q4_ok hm0 hm2 z hz σ
theorem ck_shares {N D a b c d p q r s : Int} (hD : D = a + b + c + d) (h1 : D * p ≤ N * a ∧ N * a < D * (p + 1)) (h2 : D * q ≤ N * b ∧ N * b < D * (q + 1)) (h3 : D * r ≤ N * c ∧ N * c < D * (r + 1)) (h4 : D * s ≤ N * d ∧ N * d < D * (s + 1)) : N < p + q + r + s + 4 := by
  have e : N * D = N * a + N * b + N * c + N * d := by rw [hD, Int.mul_add, Int.mul_add, Int.mul_add]
  rw [Int.mul_add, Int.mul_one] at h1 h2 h3 h4
  have e2 : D * (p + q + r + s + 4) = D * p + D * q + D * r + D * s + D * 4 := by rw [Int.mul_add, Int.mul_add, Int.mul_add, Int.mul_add]
  have h0 : 0 < D := by omega
  have h5 : D * N < D * (p + q + r + s + 4) := by
    rw [e2, Int.mul_comm D N, e]
    omega
  exact Int.lt_of_mul_lt_mul_left h5 (Int.le_of_lt h0)
theorem ck_four_ok (hn : ∀ σ, ck_nok n (ρ ++ σ)) (hm : ck_Ms E Γ h ρ es) : (ck_four n es).1 = n.1 ∧ ∀ σ, ck_nok (ck_four n es) (ρ ++ σ) := by
  unfold ck_four
  split
  · next a b c d l e4 =>
    split
    · next hc =>
      simp only [Bool.and_eq_true] at hc
      obtain ⟨⟨⟨⟨⟨⟨c1, c2⟩, c3⟩, c4⟩, c5⟩, c6⟩, c7⟩ := hc
      have q := ck_q4_ok hm hm
      rw [e4] at q
      refine ⟨rfl, fun σ => ck_fact_ok (hn σ) ?_⟩
      have qa := q a (by simp) σ
      have qb := q b (by simp) σ
      have qc := q c (by simp) σ
      have qd := q d (by simp) σ
      rw [← ck_aeq_ok c1, ← ck_aeq_ok c4] at qb
      rw [← ck_aeq_ok c2, ← ck_aeq_ok c5] at qc
      rw [← ck_aeq_ok c3, ← ck_aeq_ok c6] at qd
      have hD : ck_ev (ρ ++ σ) a.2.2.2 = ck_ev (ρ ++ σ) a.2.2.1 + ck_ev (ρ ++ σ) b.2.2.1 + ck_ev (ρ ++ σ) c.2.2.1 + ck_ev (ρ ++ σ) d.2.2.1 := by
        have := ck_aeq_ok c7
        rw [this, ck_add_ev, ck_add_ev, ck_add_ev]
      have := ck_shares hD qa qb qc qd
      rw [ck_sub_ev, ck_sub_ev, ck_sub_ev, ck_sub_ev, ck_sub_ev, ck_ev_c, ck_ev_v, ck_ev_v, ck_ev_v, ck_ev_v]
      omega
    · exact ⟨rfl, hn⟩
  · exact ⟨rfl, hn⟩
/-! products and quotients, when they are made -/
theorem ck_nl_ok {nL mi : Nat} {q : cz_I} {st : List ck_V} {cst cst' : List Value} {s : ck_S1} {clv' : cz_LV} {pc' : Nat} {ρ2 : List Int} (hl : ρ.length = n.1.length) (hn : ∀ σ, ck_nok n (ρ ++ σ)) (hs : ck_Ls (ck_Ds E Γ ρ) st cst) (e : ck_x1 nL q n lv st = some s) (es1 : cz_s1 E nL q clv cst = some (pc', clv', cst')) (Q1 : ck_Q1 E Γ (ρ ++ ρ2) s clv' cst') : ck_Ms E Γ h (ρ ++ ρ2) (ck_nl mi q n st) := by
  obtain ⟨pc, ins, len, xa, xb⟩ := q
  unfold ck_nl
  split
  · split
    · next hi =>
      have hi : ins = .imul := hi
      subst hi
      split
      · next y x r =>
        split
        · next hc =>
          simp only [Bool.and_eq_true, Bool.not_eq_true', beq_iff_eq, decide_eq_true_eq] at hc
          obtain ⟨⟨⟨⟨⟨⟨c1, c2⟩, c3⟩, c4⟩, c5⟩, c6⟩, c7⟩ := hc
          obtain ⟨cy, r1, rfl, hy, hs1⟩ := ck_Ls.cons hs
          obtain ⟨cx, r2, rfl, hx, hs2⟩ := ck_Ls.cons hs1
          obtain ⟨zy, rfl, hzy⟩ := ck_int hy c1
          obtain ⟨zx, rfl, hzx⟩ := ck_int hx c2
          have e1 := (cz_n_some e).2
          obtain ⟨y', x', r', hst, -, -, e2⟩ := ck_qj_some e1
          cases hst
          have f1 : (ck_prd n x.2.2.2.1 y.2.2.2.1) = ck_fr n 0 (ck_hi n x.2.2.2.1 * ck_hi n y.2.2.2.1) := by
            unfold ck_prd
            rw [if_neg (by rw [c4]; decide), if_neg (by rw [c3]; decide)]
            dsimp only
            rw [if_pos (by simp only [Bool.and_eq_true, decide_eq_true_eq]; exact ⟨⟨c5, c6⟩, c7⟩)]
          have e2 : ck_pu (ck_prd n x.2.2.2.1 y.2.2.2.1) (pc + 1) lv r = some s := e2
          rw [f1] at e2
          cases e2
          have e3 := (cz_n_some es1).2
          cases e3
          intro q' hq' σ
          rw [List.mem_singleton.mp hq']
          obtain ⟨-, Q2⟩ := Q1
          obtain ⟨-, -, d1, -⟩ := Q2 σ
          have d1 : ∃ z : Int32, Value.int (zx * zy) = .int z ∧ z.toInt = ck_ev ((ρ ++ ρ2) ++ σ) (ck_v n.1.length) := d1
          obtain ⟨z, d2, d3⟩ := d1
          have d2 : zx * zy = z := by injection d2
          subst d2
          rw [ck_ev_v] at d3
          show ((ρ ++ ρ2) ++ σ).getD n.1.length 0 = ck_ev _ x.2.2.2.1 * ck_ev _ y.2.2.2.1
          rw [← d3]
          have b1 := ck_bds hn hzx
          have b2 := ck_bds hn hzy
          have p0 : 0 ≤ zx.toInt * zy.toInt := Int.mul_nonneg (by omega) (by omega)
          have p1 : zx.toInt * zy.toInt ≤ ck_hi n x.2.2.2.1 * ck_hi n y.2.2.2.1 := Int.mul_le_mul b1.2 b2.2 (by omega) (by omega)
          rw [ck_imul ⟨by omega, by omega⟩, List.append_assoc, ← hzx, ← hzy]
        · exact ck_Ms_nil
      · exact ck_Ms_nil
    · next hi =>
      have hi : ins = .idiv := hi
      subst hi
      split
      · next y x r =>
        split
        · next hc =>
          simp only [Bool.and_eq_true, beq_iff_eq, decide_eq_true_eq] at hc
          obtain ⟨⟨⟨c1, c2⟩, c5⟩, c6⟩ := hc
          obtain ⟨cy, r1, rfl, hy, hs1⟩ := ck_Ls.cons hs
          obtain ⟨cx, r2, rfl, hx, hs2⟩ := ck_Ls.cons hs1
          obtain ⟨zy, rfl, hzy⟩ := ck_int hy c1
          obtain ⟨zx, rfl, hzx⟩ := ck_int hx c2
          have e1 := (cz_n_some e).2
          obtain ⟨y', x', r', hst, -, -, e2⟩ := ck_qj_some e1
          cases hst
          have f1 : (ck_quo n x.2.2.2.1 y.2.2.2.1) = some (ck_fr n 0 (ck_hi n x.2.2.2.1 / ck_lp n y.2.2.2.1)) := by
            unfold ck_quo
            dsimp only
            rw [if_pos c6, if_pos c5]
          have e2 : (cz_so (ck_quo n x.2.2.2.1 y.2.2.2.1) fun p => ck_pu p (pc + 1) lv r) = some s := e2
          rw [f1] at e2
          cases e2
          have b1 := ck_bds hn hzx
          have b2 := ck_bdp hn hzy
          have hy0 : ¬ zy = 0 := fun z => by
            have : zy.toInt = 0 := by rw [z]; rfl
            omega
          have e3 : cz_if (decide (¬ zy = 0)) (some (pc + 1, clv, Value.int (zx / zy) :: r2)) = some (pc', clv', cst') := (cz_n_some es1).2
          rw [decide_eq_true hy0] at e3
          cases e3
          intro q' hq' σ
          rw [List.mem_singleton.mp hq']
          obtain ⟨-, Q2⟩ := Q1
          obtain ⟨-, -, d1, -⟩ := Q2 σ
          have d1 : ∃ z : Int32, Value.int (zx / zy) = .int z ∧ z.toInt = ck_ev ((ρ ++ ρ2) ++ σ) (ck_v n.1.length) := d1
          obtain ⟨z, d2, d3⟩ := d1
          have d2 : zx / zy = z := by injection d2
          subst d2
          rw [ck_ev_v, ck_idiv (by omega) (by omega)] at d3
          show ck_ev _ y.2.2.2.1 * ((ρ ++ ρ2) ++ σ).getD n.1.length 0 ≤ ck_ev _ x.2.2.2.1 ∧ ck_ev _ x.2.2.2.1 < ck_ev _ y.2.2.2.1 * (((ρ ++ ρ2) ++ σ).getD n.1.length 0 + 1)
          rw [← d3, List.append_assoc, ← hzx, ← hzy, Int.mul_add, Int.mul_one]
          have g1 := Int.mul_ediv_add_emod zx.toInt zy.toInt
          have g2 := Int.emod_nonneg zx.toInt (show zy.toInt ≠ 0 by omega)
          have g3 := Int.emod_lt_of_pos zx.toInt (show 0 < zy.toInt by omega)
          constructor <;> omega
        · exact ck_Ms_nil
      · exact ck_Ms_nil
    · exact ck_Ms_nil
  · exact ck_Ms_nil
end CKH
