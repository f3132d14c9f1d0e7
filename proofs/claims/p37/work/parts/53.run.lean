/-! THE CHECKER IS SOUND: every run of it -/
section CKRUN
variable {E : cz_E} {X : ck_X} {S : List (Nat × Nat × Nat)} {f d mi pc : Nat} {s : ck_ST} {tg : List ck_tg} {os : List ck_O}
theorem ck_back_ok (hE : cz_Eok E) {t : ck_tg} (ht : t ∈ tg) (hp : t.1 = pc) (e : cz_if (ck_bk s.1 s.2.1 s.2.2.1 s.2.2.2.1 s.2.2.2.2 t) (some []) = some os) : ck_SD E X d mi pc s tg os := by
  intro Γ0 h0 Q H0 Z0 B0 ρ Γ B clv cst h hH hB u1 u3 J hL w tgs en
  obtain ⟨hc, -⟩ := cz_if_some e
  unfold ck_bk at hc
  simp only [Bool.and_eq_true, decide_eq_true_eq] at hc
  obtain ⟨⟨⟨⟨⟨c1, c2⟩, c3⟩, c4⟩, c5⟩, c6⟩ := hc
  obtain ⟨k, hk, c3⟩ := List.any_eq_true.mp c3
  unfold ck_bk1 at c3
  split at c3
  · next θ hθ =>
    simp only [Bool.and_eq_true] at c3
    obtain ⟨⟨k1, k2⟩, k3⟩ := c3
    obtain ⟨ρ0, ρ1, r, hρ, p1, p2, p3⟩ := tgs t ht
    obtain ⟨hl, hT, hn, hs, hm⟩ := J
    obtain ⟨τ, hlen, T, M⟩ := ck_mt_ok hE hρ (p1 k hk) hn hm hL hθ
    have st0 := ck_em hs c1
    have k2 := ck_le_ok (hn []) k2
    have k3 := ck_le_ok (hn []) k3
    rw [ck_add_ev, ck_sub_ev, ck_ev_c, p2 []] at k2
    rw [ck_mul_ev] at k3
    subst hp
    rw [st0]
    exact p3 c2 k hk τ Γ B clv h _ hT M (fun σ => (ck_sb_ev T k1 [] σ).symm) (by omega) (by omega) (w.mono (Int.add_le_add_left (Int.ofNat_le.mpr c4) H0) (Int.add_le_add_left (Int.ofNat_le.mpr c5) Z0) (Int.add_le_add_left (Int.ofNat_le.mpr c6) B0))
  · cases c3
theorem ck_sbm_mem : ∀ {W W2 : List (Nat × Nat)}, ck_sbm W W2 = true → ∀ q ∈ W2, q ∈ W
  | _, [], _, q, hq => by cases hq
  | [], _ :: _, e, _, _ => by cases e
  | w :: W, p :: l, e, q, hq => by
    unfold ck_sbm at e
    split at e
    · next h =>
      rcases List.mem_cons.mp hq with rfl | hq
      · rw [show q = w from Prod.ext h.1.symm h.2.symm]
        exact List.mem_cons_self
      · exact List.mem_cons_of_mem _ (ck_sbm_mem e q hq)
    · exact List.mem_cons_of_mem _ (ck_sbm_mem e q hq)
theorem ck_sbm_ok {W W2 : List (Nat × Nat)} (e : ck_sbm W W2 = true) : ck_sbw W W2 = true := List.all_eq_true.mpr fun q hq => ck_win_mem.mpr (ck_sbm_mem e q hq)
theorem ck_jn_len {n : ck_N} {lv : ck_LV} {es : List ck_Q} {a : Option (List ck_vt × List ck_md)} {js : List (Nat × ck_H)} (e : ck_jn n lv es a = some js) : ∀ j ∈ js, j.2.1 = n.1.length := by
  unfold ck_jn at e
  split at e
  · cases e
    intro j hj
    cases hj
  · split at e
    · cases e
    · split at e
      · cases e
      · obtain ⟨h, hh, e1⟩ := cz_so_some e
        cases e1
        intro j hj
        rw [List.mem_singleton.mp hj]
        exact ck_hd_len hh
theorem ck_head_ok (hE : cz_Eok E) (ih : ∀ (d mi pc : Nat) (s : ck_ST) (tg : List ck_tg) (sk : Bool) (os : List ck_O), ck_run X S f d mi pc s tg sk = some os → ck_SD E X d mi pc s tg os) {ms : List ck_vt × List ck_md}
    (e : cz_if s.2.2.1.isEmpty (cz_so (ck_lds s.2.1 ms.1 s.1 s.2.2.2.1) fun ne => let n := if mi = 260 ∧ pc = 117 then ck_four ne.1 ne.2 else ne.1
          cz_so (ck_pm n s.2.1 ne.2 ms.2) fun m => cz_so (ck_hds n s.2.1 ne.2 m.1 m.2.2.2.2) fun hs =>
          let c : Nat × Nat × Nat := (s.2.2.2.2.1 + m.2.2.2.1.1 * m.2.1, s.2.2.2.2.2.1 + m.2.2.2.1.2.1 * m.2.1, s.2.2.2.2.2.2 + m.2.2.2.1.2.2 * m.2.1)
          cz_if (decide (c.2.2 ≤ X.2.2.2.2) && decide (c.1 ≤ X.2.2.2.1)) (cz_so (ck_jn n s.2.1 ne.2 (ck_fan X.2.1 mi (pc + 100000))) fun js => cz_so (ck_cc (fun j : Nat × ck_H => ck_run X S f d mi j.1 ((n.1 ++ j.2.2.1, j.2.2.2.1 ++ n.2), j.2.2.2.2.1, [], j.2.2.2.2.2, c) tg true) js) fun o1 => cz_so (ck_cc (fun h : ck_H × ck_A => ck_run X S f d mi pc ((n.1 ++ h.1.2.1, h.1.2.2.1 ++ n.2), h.1.2.2.2.1, [], h.1.2.2.2.2, c) (js.map (ck_jt c) ++ ((pc, m.2.2.1, m.2.2.2.1, c, hs, h.2) :: tg)) true) hs) fun o2 => some (o1 ++ o2))) = some os) : ck_SD E X d mi pc s tg os := by
  intro Γ0 h0 Q H0 Z0 B0 ρ Γ B clv cst h hH hB u1 u3 J hL w tgs en
  obtain ⟨hem, e1⟩ := cz_if_some e
  obtain ⟨ne, hlds, e2⟩ := cz_so_some e1
  dsimp only at e2
  generalize hn' : (if mi = 260 ∧ pc = 117 then ck_four ne.1 ne.2 else ne.1) = n at e2
  obtain ⟨m, hpm, e3⟩ := cz_so_some e2
  obtain ⟨hs, hhs, e4⟩ := cz_so_some e3
  obtain ⟨hcap, e6⟩ := cz_if_some e4
  obtain ⟨js, hjs, e7⟩ := cz_so_some e6
  obtain ⟨o1, ho1, e8⟩ := cz_so_some e7
  obtain ⟨o2, e5, e9⟩ := cz_so_some e8
  clear e e1 e2 e3 e4 e6 e7 e8
  cases e9
  simp only [Bool.and_eq_true, decide_eq_true_eq] at hcap
  have cst0 := ck_em J.2.2.2.1 hem
  have J0 : ck_J E Γ B ρ s.1 [] s.2.2.2.1 [] h := ⟨J.1, J.2.1, J.2.2.1, trivial, J.2.2.2.2⟩
  have hBB : B ≤ ck_BM := by
    have := w.2.2.2.2.2
    omega
  have hΓ : (Γ.length : Int) ≤ ck_HM := by
    have := w.2.2.2.1
    rw [J.2.1.1]
    omega
  obtain ⟨ρ2, J1⟩ := ck_lds_ok hBB hΓ J0 hL hlds
  have hL1 := ck_LR_app ρ2 hL
  have N : (ρ ++ ρ2).length = n.1.length ∧ ∀ σ, ck_nok n ((ρ ++ ρ2) ++ σ) := by
    rw [← hn']
    split
    · obtain ⟨a, b⟩ := ck_four_ok J1.2.2.1 J1.2.2.2.2
      exact ⟨by rw [a]; exact J1.1, b⟩
    · exact ⟨J1.1, J1.2.2.1⟩
  obtain ⟨d0, l0, hk, θ, m1, m2, m3, m4, m5⟩ := ck_pm_ok hpm
  obtain ⟨hlen, hfirst⟩ := ck_hds_ok hhs
  have hkin := hfirst d0 l0 m1 hk m2
  obtain ⟨τ0, hθl, T0, M0⟩ := ck_mt_ok (ρ0 := ρ ++ ρ2) (ρ1 := []) hE (by rw [List.append_nil]) (by rw [hlen hk hkin, N.1]) N.2 J1.2.2.2.2 hL1 m3
  have bodies : ∀ k ∈ hs, _ := fun k hk => ck_cc_ok e5 k hk
  have joins : ∀ j ∈ js, _ := fun j hj => ck_cc_ok ho1 j hj
  have jlen := ck_jn_len hjs
  have loop : ∀ (R : Nat) (k : ck_H × ck_A), k ∈ hs → ∀ (τ : List Int) (Γ : ck_G) (B : Int) (clv : cz_LV) (h : cz_H) (r' : Int), r'.toNat = R → ck_HT E B Γ h → ck_MT E Γ h clv (ρ ++ ρ2) k.1 τ → (∀ σ, ck_ev (((ρ ++ ρ2) ++ τ) ++ σ) k.2 = r') → ck_wl X.2.2.1 Γ0 h0 Γ B h (H0 - ((m.2.2.2.1.1 * R : Nat) : Int) + ((s.2.2.2.2.1 + m.2.2.2.1.1 * m.2.1 : Nat) : Int)) (Z0 - ((m.2.2.2.1.2.1 * R : Nat) : Int) + ((s.2.2.2.2.2.1 + m.2.2.2.1.2.1 * m.2.1 : Nat) : Int)) (B0 - ((m.2.2.2.1.2.2 * R : Nat) : Int) + ((s.2.2.2.2.2.2 + m.2.2.2.1.2.2 * m.2.1 : Nat) : Int)) → cz_W E d mi pc clv [] h Q := by
    intro R
    induction R using Nat.strongRecOn with
    | _ R ihR =>
      intro k hk τ Γ B clv h r' hR hT M hr w
      obtain ⟨os', hrun, hsub0⟩ := bodies k hk
      have hsub : ∀ o ∈ os', o ∈ o1 ++ o2 := fun o ho => List.mem_append.mpr (Or.inr (hsub0 o ho))
      have K := ck_nok_app N.1 N.2 M.2.1 M.1 M.2.2.1
      have z1 := Int.natCast_nonneg (m.2.2.2.1.1 * R)
      have z2 := Int.natCast_nonneg (m.2.2.2.1.2.1 * R)
      have z3 := Int.natCast_nonneg (m.2.2.2.1.2.2 * R)
      refine ih d mi pc _ _ true os' hrun Γ0 h0 Q (H0 - ((m.2.2.2.1.1 * R : Nat) : Int)) (Z0 - ((m.2.2.2.1.2.1 * R : Nat) : Int)) (B0 - ((m.2.2.2.1.2.2 * R : Nat) : Int)) ((ρ ++ ρ2) ++ τ) Γ B clv [] h (by omega) (by omega) hcap.2 hcap.1 ⟨K.1, hT, K.2, trivial, M.2.2.2.2⟩ (fun σ i v ev => ?_) w (fun t ht => ?_) ?_
      · obtain ⟨x, x1, x2⟩ := M.2.2.2.1 (i, v) (ck_lk_mem ev)
        exact ⟨x, x1, x2 σ⟩
      · rcases List.mem_append.mp ht with ht | ht
        · obtain ⟨j, hj, rfl⟩ := List.mem_map.mp ht
          refine ⟨ρ ++ ρ2, τ, 1, rfl, fun k2 hk2 => ?_, fun σ => ck_ev_c _ _, fun _ k2 hk2 τ2 Γ2 B2 clv2 h2 r2 a1 a2 a3 a4 a5 w2 => ?_⟩
          · rw [List.mem_singleton.mp hk2]
            show j.2.1 = _
            rw [jlen j hj, N.1]
          · rw [List.mem_singleton.mp hk2] at a2
            obtain ⟨osj, hrunj, hsubj⟩ := joins j hj
            have Kj := ck_nok_app N.1 N.2 a2.2.1 a2.1 a2.2.2.1
            refine ih d mi j.1 _ tg true osj hrunj Γ0 h0 Q (H0 - ((m.2.2.2.1.1 * R : Nat) : Int)) (Z0 - ((m.2.2.2.1.2.1 * R : Nat) : Int)) (B0 - ((m.2.2.2.1.2.2 * R : Nat) : Int)) ((ρ ++ ρ2) ++ τ2) Γ2 B2 clv2 [] h2 (by omega) (by omega) hcap.2 hcap.1 ⟨Kj.1, a1, Kj.2, trivial, a2.2.2.2.2⟩ (fun σ i v ev => ?_) (w2.mono (Int.le_refl _) (Int.le_refl _) (Int.le_refl _)) (fun t ht => ?_) ?_
            · obtain ⟨x, x1, x2⟩ := a2.2.2.2.1 (i, v) (ck_lk_mem ev)
              exact ⟨x, x1, x2 σ⟩
            · have := ck_TG.mono (tgs t ht) (ρ2 ++ τ2) (H1 := H0 - ((m.2.2.2.1.1 * R : Nat) : Int)) (Z1 := Z0 - ((m.2.2.2.1.2.1 * R : Nat) : Int)) (B1 := B0 - ((m.2.2.2.1.2.2 * R : Nat) : Int)) (by omega) (by omega) (by omega)
              rw [← List.append_assoc] at this
              exact this
            · have := ck_EN.mono en (fun o ho => List.mem_append.mpr (Or.inl (hsubj o ho))) (ρ2 ++ τ2) (H1 := H0 - ((m.2.2.2.1.1 * R : Nat) : Int)) (Z1 := Z0 - ((m.2.2.2.1.2.1 * R : Nat) : Int)) (B1 := B0 - ((m.2.2.2.1.2.2 * R : Nat) : Int)) (by omega) (by omega) (by omega)
              rw [← List.append_assoc] at this
              exact this
        rcases List.mem_cons.mp ht with rfl | ht
        · refine ⟨ρ ++ ρ2, τ, r', rfl, fun k2 hk2 => by rw [hlen k2 hk2, N.1], hr, fun hstep k2 hk2 τ2 Γ2 B2 clv2 h2 r2 a1 a2 a3 a4 a5 w2 => ?_⟩
          dsimp only at hstep a5 w2
          have hpay : r2.toNat + m.2.2.1 ≤ R := by omega
          exact ihR r2.toNat (by omega) k2 hk2 τ2 Γ2 B2 clv2 h2 r2 rfl a1 a2 a3 (w2.mono (ck_pay hpay) (ck_pay hpay) (ck_pay hpay))
        · have := ck_TG.mono (tgs t ht) (ρ2 ++ τ) (H1 := H0 - ((m.2.2.2.1.1 * R : Nat) : Int)) (Z1 := Z0 - ((m.2.2.2.1.2.1 * R : Nat) : Int)) (B1 := B0 - ((m.2.2.2.1.2.2 * R : Nat) : Int)) (by omega) (by omega) (by omega)
          rw [← List.append_assoc] at this
          exact this
      · have := ck_EN.mono en hsub (ρ2 ++ τ) (H1 := H0 - ((m.2.2.2.1.1 * R : Nat) : Int)) (Z1 := Z0 - ((m.2.2.2.1.2.1 * R : Nat) : Int)) (B1 := B0 - ((m.2.2.2.1.2.2 * R : Nat) : Int)) (by omega) (by omega) (by omega)
        rw [← List.append_assoc] at this
        exact this
  rw [cst0]
  have hpos : m.2.2.2.1.1 = 0 ∧ m.2.2.2.1.2.1 = 0 ∧ m.2.2.2.1.2.2 = 0 ∨ (ck_ev ((ρ ++ ρ2) ++ []) (ck_sb θ hk.2)).toNat ≤ m.2.1 := by
    rcases m5 with q | q
    · exact Or.inl q
    · have q := ck_le_ok (N.2 []) q
      rw [ck_sub_ev, ck_ev_c] at q
      right
      omega
  refine loop _ hk hkin τ0 Γ B clv h _ rfl J.2.1 M0 (fun σ => (ck_sb_ev T0 m4 [] σ).symm) (w.mono (ck_pay0 ?_) (ck_pay0 ?_) (ck_pay0 ?_))
  · rcases hpos with q | q
    · exact Or.inl q.1
    · exact Or.inr q
  · rcases hpos with q | q
    · exact Or.inl q.2.1
    · exact Or.inr q
  · rcases hpos with q | q
    · exact Or.inl q.2.2
    · exact Or.inr q
theorem ck_call_ok (hE : cz_Eok E) (hZ : ∀ z ∈ X.1, ck_Zok E z) (ih : ∀ (d mi pc : Nat) (s : ck_ST) (tg : List ck_tg) (sk : Bool) (os : List ck_O), ck_run X S f d mi pc s tg sk = some os → ck_SD E X d mi pc s tg os) {q : cz_I} (hq : cz_ft2 (cz_cd mi) pc = some q) {a : Nat × List ck_V × List ck_V} {d' : Nat} (ha : ck_cl3 q s.1 s.2.2.1 s.2.2.2.1 = some a)
    (e : (if ck_hz a.1 X.1 = true then (cz_so (ck_fz s.1 s.2.2.2.1 (ck_zip a.2.1 0) a.1 X.1) fun z =>
                        let c : Nat × Nat × Nat := (s.2.2.2.2.1 + z.1.2.2.1.1, s.2.2.2.2.2.1 + z.1.2.2.1.2.1, s.2.2.2.2.2.2 + z.1.2.2.1.2.2)
                        cz_if (decide (z.1.2.1 ≤ d') && ck_sbm X.2.2.1 z.1.2.2.2.1 && decide (c.1 ≤ X.2.2.2.1) && decide (c.2.2 ≤ X.2.2.2.2)) (ck_cc (fun p => cz_so (ck_ends s.1 s.2.2.2.1 z.1 z.2 p) fun o => ck_run X S f (d' + 1) mi (pc + 3) (o.1, s.2.1, o.2.1.toList ++ a.2.2, o.2.2, c) tg false) z.1.2.2.2.2.2))
                      else (cz_so (ck_run X S f d' a.1 0 (s.1, ck_args 0 a.2.1, [], s.2.2.2) [] false) fun os => ck_cc (fun o : ck_O => ck_run X S f (d' + 1) mi (pc + 3) (o.1, s.2.1, o.2.1.toList ++ a.2.2, o.2.2) tg false) os)) = some os) : ck_SD E X (d' + 1) mi pc s tg os := by
  intro Γ0 h0 Q H0 Z0 B0 ρ Γ B clv cst h hH hB u1 u3 J hL w tgs en
  obtain ⟨cas, cr, s1, s2, s3, hA, hR⟩ := ck_cl3_ok (mj := a.1) (as := a.2.1) (r := a.2.2) hE J.2.1 J.2.2.1 J.2.2.2.1 J.2.2.2.2 ha
  have w4 := w.2.2.2.1
  have w6 := w.2.2.2.2.2
  have w5 := w.2.2.2.2.1
  have stk : ∀ {ρ2 : List Int} {Γ' : ck_G} {v : Option ck_V} {cv : Option Value}, ck_ext Γ Γ' → ck_VR E Γ' (ρ ++ ρ2) v cv → ck_Ls (ck_Ds E Γ' (ρ ++ ρ2)) (v.toList ++ a.2.2) (cv.toList ++ cr) := by
    intro ρ2 Γ' v cv hx vr
    have hR' : ck_Ls (ck_Ds E Γ' (ρ ++ ρ2)) a.2.2 cr := ck_Ls.imp (fun _ _ z => ck_Ds_app ρ2 (ck_D_ext z hx)) hR
    cases v with
    | none => cases cv with
      | none => exact hR'
      | some _ => exact vr.elim
    | some v => cases cv with
      | none => exact vr.elim
      | some x => exact ⟨vr, hR'⟩
  refine cz_W.call hq (s1 _ _) s2 s3 ?_
  split at e
  · obtain ⟨z, hz, e2⟩ := cz_so_some e
    dsimp only at e2
    obtain ⟨hc, e3⟩ := cz_if_some e2
    simp only [Bool.and_eq_true, decide_eq_true_eq] at hc
    obtain ⟨⟨⟨c1, c2⟩, c3⟩, c4⟩ := hc
    obtain ⟨hzm, hzj, hmt⟩ := ck_fz_ok hz
    obtain ⟨Z1, Z2, Z3⟩ := hZ z.1 hzm
    obtain ⟨τ, hlen, T, M⟩ := ck_mt_ok (ρ0 := []) (ρ1 := ρ) hE rfl Z1 J.2.2.1 J.2.2.2.2 (ck_zip_ok (i := 0) hA) hmt
    have T : ck_TH ρ z.2 τ := T
    have W1 := Z3 τ Γ B h cas J.2.1 w.1 (by omega) (by omega) M.1 M.2.1 M.2.2.1 (ck_ord_ok (i := 0) Z2 M.2.2.2.1) M.2.2.2.2
    rw [hzj] at W1
    have W2 := W1.deep (d' - z.1.2.1)
    rw [show z.1.2.1 + (d' - z.1.2.1) = d' by omega] at W2
    refine W2.imp fun cv h' zp => ?_
    obtain ⟨Γ', B', t', b0, hx, fr, l1, l2, l3, p, hp, τ2, a1, a2, a3, a4, a5⟩ := zp
    obtain ⟨os', he, hsub⟩ := ck_cc_ok e3 p hp
    obtain ⟨o, ho, hrun⟩ := cz_so_some he
    obtain ⟨K, vr, M'⟩ := ck_ends_ok T J.1 J.2.2.1 J.2.1 J.2.2.2.2 hx fr a1 a2 a3 a4 a5 ho
    exact ih (d' + 1) mi (pc + 3) _ tg false os' hrun Γ0 h0 Q H0 Z0 B0 (ρ ++ τ2) Γ' B' clv _ h' hH hB c3 c4 ⟨K.1, t', K.2, stk hx vr, M'⟩ (ck_LR_ext (ck_LR_app τ2 hL) hx) (w.step hx (fr.mono (ck_sbm_ok c2)) b0 (by push_cast; omega) (by push_cast; omega) (by push_cast; omega)) (fun t ht => ck_TG.mono (tgs t ht) τ2 (Int.le_refl _) (Int.le_refl _) (Int.le_refl _)) (ck_EN.mono en hsub τ2 (Int.le_refl _) (Int.le_refl _) (Int.le_refl _))
  · obtain ⟨os1, hrun1, e2⟩ := cz_so_some e
    refine ih d' a.1 0 _ [] false os1 hrun1 Γ h _ H0 Z0 B0 ρ Γ B (lv_args 0 cas) [] h hH hB u1 u3 ⟨J.1, J.2.1, J.2.2.1, trivial, J.2.2.2.2⟩ (ck_args_ok (ck_Pf_of hA)) ⟨w.1, ck_ext.rf, ck_Fr.rf, w4, w5, w6⟩ (fun t ht => by cases ht) (fun o ho ρ2 Γ' B' h' cv J' vr w' v1 v3 => ?_)
    obtain ⟨os', hrun, hsub⟩ := ck_cc_ok e2 o ho
    exact ih (d' + 1) mi (pc + 3) _ tg false os' hrun Γ0 h0 Q H0 Z0 B0 (ρ ++ ρ2) Γ' B' clv _ h' hH hB v1 v3 ⟨J'.1, J'.2.1, J'.2.2.1, stk w'.2.1 vr, J'.2.2.2.2⟩ (ck_LR_ext (ck_LR_app ρ2 hL) w'.2.1) (w.step w'.2.1 w'.2.2.1 w'.1 w'.2.2.2.1 w'.2.2.2.2.1 w'.2.2.2.2.2) (fun t ht => ck_TG.mono (tgs t ht) ρ2 (Int.le_refl _) (Int.le_refl _) (Int.le_refl _)) (ck_EN.mono en hsub ρ2 (Int.le_refl _) (Int.le_refl _) (Int.le_refl _))
theorem ck_run_ok (hE : cz_Eok E) (hZ : ∀ z ∈ X.1, ck_Zok E z) : ∀ (f d mi pc : Nat) (s : ck_ST) (tg : List ck_tg) (sk : Bool) (os : List ck_O), ck_run X S f d mi pc s tg sk = some os → ck_SD E X d mi pc s tg os := by
  intro f
  induction f with
  | zero => intro d mi pc s tg sk os e; cases e
  | succ f ih =>
    intro d mi pc s tg sk os e
    unfold ck_run at e
    split at e
    · next t ht =>
      split at ht
      · cases ht
      · obtain ⟨h1, h2⟩ := ck_ftg_mem ht
        exact ck_back_ok hE h1 h2 e
    · split at e
      · next ms hms => exact ck_head_ok hE ih e
      · split at e
        · next p hp =>
          obtain ⟨hem, e1⟩ := cz_if_some e
          intro Γ0 h0 Q H0 Z0 B0 ρ Γ B clv cst h hH hB u1 u3 J hL w tgs en
          have cst0 := ck_em J.2.2.2.1 hem
          obtain ⟨h', go, J', fr, l1, l2⟩ := ck_mac_ok (W := X.2.2.1) (pc' := p.1) (lv' := p.2.1) (es' := p.2.2) hE ⟨J.1, J.2.1, J.2.2.1, trivial, J.2.2.2.2⟩ hL hp
          rw [cst0]
          refine go d Q fun clv' hL' => ?_
          exact ih d mi p.1 _ tg false os e1 Γ0 h0 Q H0 Z0 B0 ρ Γ B clv' [] h' hH hB u1 u3 J' hL' (w.step ck_ext.rf fr w.1 (by rw [l1]; exact w.2.2.2.1) (by rw [l2]; exact w.2.2.2.2.1) w.2.2.2.2.2) tgs en
        · split at e
          · cases e
          · next q hq0 =>
            have hq := ck_ft_ok hq0
            split at e
            · next p hp =>
              intro Γ0 h0 Q H0 Z0 B0 ρ Γ B clv cst h hH hB u1 u3 J hL w tgs en
              obtain ⟨ρ2, clv', cst', s1, Q2⟩ := ck_x1_ok (E := E) (Γ := Γ) (ρ := ρ) (clv := clv) (cst := cst) hp ⟨J.1, fun σ => ⟨J.2.2.1 σ, hL σ, ck_Ls.imp (fun _ _ z => z σ) J.2.2.2.1⟩⟩
              refine cz_W.one hq s1 (ih d mi p.2.1 _ tg false os e Γ0 h0 Q H0 Z0 B0 (ρ ++ ρ2) Γ B clv' cst' h hH hB u1 u3 ⟨Q2.1, J.2.1, fun σ => (Q2.2 σ).1, ck_Ls.all fun σ => (Q2.2 σ).2.2, fun q' hq' σ => ?_⟩ (fun σ => (Q2.2 σ).2.1) w (fun t ht => ck_TG.mono (tgs t ht) ρ2 (Int.le_refl _) (Int.le_refl _) (Int.le_refl _)) (ck_EN.mono en (fun _ z => z) ρ2 (Int.le_refl _) (Int.le_refl _) (Int.le_refl _)))
              rcases List.mem_append.mp hq' with hq' | hq'
              · exact ck_nl_ok J.1 J.2.2.1 J.2.2.2.1 hp s1 Q2 q' hq' σ
              · exact ck_Ms_app ρ2 J.2.2.2.2 q' hq' σ
            · split at e
              · next p hp =>
                intro Γ0 h0 Q H0 Z0 B0 ρ Γ B clv cst h hH hB u1 u3 J hL w tgs en
                obtain ⟨wy, hw, cst', s1, l1, n1, st1⟩ := ck_br_ok (nL := (cz_mf mi).2.2.2.2.1) (clv := clv) (ws := p.1) (st' := p.2) J.2.2.1 J.2.2.2.1 hp
                obtain ⟨os', hrun, hsub⟩ := ck_cc_ok e wy hw
                exact cz_W.one hq s1 (ih d mi wy.2 _ tg false os' hrun Γ0 h0 Q H0 Z0 B0 ρ Γ B clv cst' h hH hB u1 u3 ⟨by rw [J.1]; exact l1.symm, J.2.1, n1, st1, J.2.2.2.2⟩ hL w tgs (ck_EN.sub en hsub))
              · split at e
                · next p hp =>
                  intro Γ0 h0 Q H0 Z0 B0 ρ Γ B clv cst h hH hB u1 u3 J hL w tgs en
                  obtain ⟨ρ2, Γ', B', cst', h', s1, s2, hx, J', fr, b1, v1, v3, l1, l2, l3⟩ := ck_x2_ok (u := (s.1, s.2.2)) (u' := p.2) (pc' := p.1) hE hH hB w.1 u1 u3 w.2.2.2.1 w.2.2.2.2.1 w.2.2.2.2.2 J hp
                  exact cz_W.two hq (s1 _ _) s2 (ih d mi p.1 _ tg false os e Γ0 h0 Q H0 Z0 B0 (ρ ++ ρ2) Γ' B' clv cst' h' hH hB v1 v3 J' (ck_LR_ext (ck_LR_app ρ2 hL) hx) (w.step hx fr (Int.le_trans w.1 b1) l1 l2 l3) (fun t ht => ck_TG.mono (tgs t ht) ρ2 (Int.le_refl _) (Int.le_refl _) (Int.le_refl _)) (ck_EN.mono en (fun _ z => z) ρ2 (Int.le_refl _) (Int.le_refl _) (Int.le_refl _)))
                · split at e
                  · next v hv =>
                    cases e
                    intro Γ0 h0 Q H0 Z0 B0 ρ Γ B clv cst h hH hB u1 u3 J hL w tgs en
                    obtain ⟨cv, s1, s2, s3, vr⟩ := ck_rt3_ok (E := E) (Γ := Γ) (h := h) J.2.2.1 J.2.2.2.1 hv
                    refine cz_W.ret hq (s1 _ _) s2 s3 (en _ List.mem_cons_self [] Γ B h cv ?_ ?_ w u1 u3)
                    · rw [List.append_nil]
                      exact ⟨J.1, J.2.1, J.2.2.1, trivial, J.2.2.2.2⟩
                    · rw [List.append_nil]
                      exact vr
                  · obtain ⟨a, ha, e1⟩ := cz_so_some e
                    split at e1
                    · cases e1
                    · exact ck_call_ok hE hZ ih hq ha e1
/-- a contract that is checked holds, by those before it -/
theorem ck_ok1_ok (hE : cz_Eok E) {ct : List ck_Z} {an : List ck_an} {fu : Nat} {z : ck_Z} (hZ : ∀ z ∈ ct, ck_Zok E z) (ho : ck_ord z.2.2.2.2.1.2.2.2.1 0 = true) (e : ck_ok1 S ct an fu z = true) : ck_Zok E z := by
  unfold ck_ok1 at e
  dsimp only at e
  split at e
  · next os hrun =>
    simp only [Bool.and_eq_true, beq_iff_eq] at e
    obtain ⟨e0, e1⟩ := e
    refine ⟨e0, ho, fun τ Γ B h cas hT hB0 hcap hcapB hl h1 h2 hP hM => ?_⟩
    have K := ck_nok_app (ρ := []) (n := ([], [])) (iv := z.2.2.2.2.1.2.1) (fs := z.2.2.2.2.1.2.2.1) (τ2 := τ) rfl (fun σ => ⟨fun i q hq => (by simp at hq), fun f hf => (by cases hf)⟩) h1 hl h2
    rw [List.append_nil] at K
    refine ck_run_ok hE hZ fu z.2.1 z.1 0 _ [] false os hrun Γ h _ (h.length : Int) (cz_sz h : Int) B τ Γ B (lv_args 0 cas) [] h hcap hcapB (Nat.zero_le _) (Nat.zero_le _) ⟨K.1, hT, K.2, trivial, hM⟩ (ck_args_ok hP) ⟨hB0, ck_ext.rf, ck_Fr.rf, by show (h.length : Int) ≤ (h.length : Int) + ((0 : Nat) : Int); omega, by show (cz_sz h : Int) ≤ (cz_sz h : Int) + ((0 : Nat) : Int); omega, by show B ≤ B + ((0 : Nat) : Int); omega⟩ (fun t ht => by cases ht) (fun o hoin ρ2 Γ' B' h' cv J' vr w' v1 v3 => ?_)
    have hok := List.all_eq_true.mp e1 o hoin
    unfold ck_oke at hok
    simp only [Bool.and_eq_true, decide_eq_true_eq] at hok
    obtain ⟨⟨⟨o1, o2⟩, o3⟩, o4⟩ := hok
    obtain ⟨p, hp, o4⟩ := List.any_eq_true.mp o4
    have w4 := w'.2.2.2.1
    have w5 := w'.2.2.2.2.1
    have w6 := w'.2.2.2.2.2
    refine ⟨Γ', B', J'.2.1, w'.1, w'.2.1, w'.2.2.1, by omega, by omega, by omega, p, hp, ?_⟩
    split at o4
    · next q1 q2 =>
      obtain ⟨θ, hθ⟩ := Option.isSome_iff_exists.mp o4
      obtain ⟨τ2, -, -, M⟩ := ck_mt_ok (clv := []) (ρ0 := τ) (ρ1 := ρ2) hE rfl hl.symm J'.2.2.1 J'.2.2.2.2 (fun σ i v e => by cases e) hθ
      refine ⟨τ2, M.1, M.2.1, M.2.2.1, ?_, M.2.2.2.2⟩
      rw [q1] at vr
      rw [q2]
      cases cv with
      | none => trivial
      | some _ => exact vr.elim
    · next v w q1 q2 =>
      obtain ⟨θ, hθ⟩ := Option.isSome_iff_exists.mp o4
      rw [q1] at vr
      cases cv with
      | none => exact vr.elim
      | some x =>
        have vr : ck_Ds E Γ' (τ ++ ρ2) v x := vr
        obtain ⟨τ2, -, -, M⟩ := ck_mt_ok (clv := [(0, x)]) (ρ0 := τ) (ρ1 := ρ2) hE rfl hl.symm J'.2.2.1 J'.2.2.2.2 (fun σ i v' e => by
          unfold ck_lk at e
          split at e
          · next hi =>
            cases e
            refine ⟨x, ?_, vr σ⟩
            unfold cz_lk
            exact if_pos hi
          · cases e) hθ
        refine ⟨τ2, M.1, M.2.1, M.2.2.1, ?_, M.2.2.2.2⟩
        rw [q2]
        obtain ⟨x', hx', dx⟩ := M.2.2.2.1 (0, w) List.mem_cons_self
        have hx' : some x = some x' := hx'
        cases hx'
        exact dx
    · cases o4
  · cases e
end CKRUN
