/-! FX: instructions that read or write the heap are told rightly, one by one -/
section FXD
variable {E : cz_E} {M : fx_M} {ν0 : List Int} {S0 : fx_S} {h0 : cz_H} {σ : fx_Y} {ν : List Int} {h : cz_H} {n0 : Nat}
set_option maxHeartbeats 8000000 in
theorem fx_x2_ok {nL : Nat} {q : cz_I} {lv : fx_L} {st : List fx_V} {l : List fx_R} {clv : cz_LV} {cst : List Value} (hE : cz_Eok E) (hM : M.1 = (fun z => (E.2.1.2.2 z.toNat).toInt, (E.2.1.2.1 : Int))) (e : fx_x2 q lv st σ = some l) (J : fx_J E M ν0 S0 h0 σ ν h n0) (L : fx_LR (fx_P E h n0 σ ν) lv clv) (S : fx_SR (fx_P E h n0 σ ν) st cst) : cz_s1 E nL q clv cst = none ∧ (fx_y2 E M ν0 S0 h0 q l clv cst h n0 σ ν ∨ fx_no2 E q cst h) := by
  obtain ⟨pc, ins, len, xa, xb⟩ := q
  cases ins
  case getfield m =>
    refine ⟨rfl, ?_⟩
    obtain ⟨e0, e1⟩ := cz_n_some e
    have e0 : len = 3 := e0
    subst e0
    obtain ⟨s, r, rfl, e2⟩ := fx_v1_some e1
    obtain ⟨v, cr, rfl, hs, hr⟩ := S.cons
    cases hr2 : cz_s2 E (pc, .getfield m, 3, xa, xb) (v :: cr) h with
    | none => exact .inr ⟨hr2, rfl⟩
    | some y =>
      have e2 : (if xa = 100 then cz_if (s.1 == 5) (some [(pc + 3, lv, (if xb = 0 then ((6, s.2.1, 0) : fx_V) else fx_ci 0) :: r, σ)]) else cz_so (fx_pl s σ) fun p => match fx_dl xa xb.toNat with
        | none => some [(pc + 3, lv, ((0, (p.2.1 + 1, 0), 0) : fx_V) :: r, fx_pu p.2 (1, 0, [p.1, (0, (xb.toNat : Int))]))]
        | some d => if fx_fr p.2.2.1 p.1 then cz_so (fx_fg p.2.2.1 p.1 xa xb.toNat) fun v => some [(pc + 3, lv, v :: r, p.2)]
          else some [(pc + 3, lv, ((2, (p.1.1, p.1.2 + d.1), fx_hh d) : fx_V) :: r, p.2)]) = some l := e2
      have hr3 : cz_n 3 3 (cz_r1 (v :: cr) fun a r => if xa = 100 then (cz_so (cz_ks E a) fun i => some (pc + 3, (if xb = 0 then Value.ref (E.2.2.2.1 i) else Value.int 0) :: r, h)) else cz_ob (cz_at E h a) fun ci fs => cz_if (ci == xa) (cz_so fs[xb.toNat]? fun v => some (pc + 3, v :: r, h))) = some y := hr2
      obtain ⟨-, h1⟩ := cz_n_some hr3
      obtain ⟨a, rest, hst, h2⟩ := cz_r1_some h1
      cases hst
      split at e2
      · next h100 =>
        obtain ⟨g1, g2⟩ := cz_if_some e2
        cases g2
        rw [if_pos h100] at h2
        obtain ⟨i, hi, h3⟩ := cz_so_some h2
        cases h3
        obtain ⟨u, o, w⟩ := s
        have g1 : u = 5 := by simpa using g1
        subst g1
        obtain ⟨j, hj, hv, ho⟩ := hs.2
        obtain ⟨k1, k2⟩ := cz_fd_some hi
        have hij : i = j := by
          have := Value.ref.inj hv
          exact hE.2.2.1 i j k1 hj (k2.trans this)
        subst hij
        refine .inl ⟨_, List.mem_singleton.mpr rfl, ν, _, h, n0, fun _ _ r => r, hr2, J, L, ?_, hr⟩
        by_cases hx : xb = 0
        · rw [if_pos hx, if_pos hx]
          exact ⟨hs.1, i, hj, rfl, ho⟩
        · rw [if_neg hx, if_neg hx]
          exact fx_P_ci (x := 0) (by decide)
      · next h100 =>
        rw [if_neg h100] at h2
        obtain ⟨ci, fs, hc, h3⟩ := cz_ob_some h2
        obtain ⟨g1, h4⟩ := cz_if_some h3
        have g1 : ci = xa := by simpa using g1
        subst g1
        obtain ⟨x, hx, h5⟩ := cz_so_some h4
        cases h5
        obtain ⟨p, hp, e3⟩ := cz_so_some e2
        rcases fx_pl_ok J hs hp with hN | ⟨q, a1, a2, a3, a4, a5, a6, a7, a8, a9, a10⟩
        · cases hN
        · have a1 := Value.ref.inj a1
          subst a1
          rw [cz_at_add] at hc
          obtain ⟨w1, w2, w3⟩ := J.2.2.1.2 q _ hc
          have w := w3 _ _ hx
          unfold fx_fd at w
          split at e3
          · next hd =>
            rw [hd] at w
            obtain ⟨x', rfl⟩ := w
            cases e3
            have hF : (fx_of E h).1 (fx_o ν p.1) (xb.toNat : Int) = x'.toInt := by
              rw [← a2, fx_ofF hc]
              show (match fs[xb.toNat]? with
                | some (.int x) => x.toInt
                | _ => 0) = _
              rw [hx]
            refine .inl ⟨_, List.mem_singleton.mpr rfl, ν ++ [x'.toInt], _, h, n0, fx_psh_up a7, hr2, fx_Q.psh a6 a7 (fun K hK => ?_) L hr ⟨?_, x', rfl, ?_⟩⟩
            · have hK : (fx_rl 0).1 ≤ (fx_of E h).1 (fx_o ν p.1) (xb.toNat : Int) → (fx_of E h).1 (fx_o ν p.1) (xb.toNat : Int) ≤ (fx_rl 0).2 → K (ν ++ [(fx_of E h).1 (fx_o ν p.1) (xb.toNat : Int)]) (fx_of E h) := hK
              rw [hF] at hK
              exact hK (fx_i32 x').1 (fx_i32 x').2
            · show p.2.1 + 1 ≤ _
              rw [a8, List.length_append, J.1]
              exact Nat.le_refl _
            · show _ = fx_o _ (p.2.1 + 1, 0)
              rw [fx_o_new (by rw [a8]; exact J.1)]
          · next d hd =>
            obtain ⟨d, kd, ta, tb⟩ := d
            rw [hd] at w
            have w : cz_isA x = true ∧ (q < n0 → x = .ref (E.1 + (q + d)) ∧ q + d < n0 ∧ fx_shp h (q + d) kd ta tb) := w
            rw [a7] at e3
            split at e3
            · next hf =>
              obtain ⟨sv, hsv, e4⟩ := cz_so_some e3
              cases e4
              have hf' := hf
              obtain ⟨f1, f2⟩ := Bool.and_eq_true_iff.mp hf
              obtain ⟨f3, f4⟩ := Bool.and_eq_true_iff.mp f2
              have f3 : p.1.1 = σ.2.1.1.1 := by simpa using f3
              have f4 := of_decide_eq_true f4
              have hne : ¬ σ.2.1.2 = [] := fun z => by rw [z] at f1; cases f1
              have hb := J.2.2.2.2.2.1 (J.2.2.2.2.2.2.1.resolve_left hne)
              have e5 := fx_o_sub (ν := ν) f3
              unfold fx_fg at hsv
              split at hsv
              · next cj fs' hj =>
                split at hsv
                · next hcj =>
                  subst hcj
                  have F := fx_FR_at J.2.2.2.2.2.2.2 hj
                  obtain ⟨gs, y1, y2, y3⟩ := F
                  have hqe : n0 + (p.1.2 - σ.2.1.1.2).toNat = q := by omega
                  rw [hqe] at y1
                  cases hc.symm.trans y1
                  have hfk : fs'[xb.toNat]? = some (some sv) := by
                    rw [List.getD_eq_getElem?_getD] at hsv
                    cases hk : fs'[xb.toNat]? with
                    | none => rw [hk] at hsv; cases hsv
                    | some o => rw [hk] at hsv; exact congrArg some hsv
                  obtain ⟨v', hv', r'⟩ := y3 _ _ (by rw [hd]; exact fun z => by cases z) hfk
                  cases hx.symm.trans hv'
                  refine .inl ⟨_, List.mem_singleton.mpr rfl, ν, _, h, n0, fx_same_up a7, hr2, ?_⟩
                  have hS : fx_SR (fx_P E h n0 σ ν) (sv :: r) (x :: cr) := ⟨r', hr⟩
                  exact fx_Q.same (σ := σ) a6 a7 L hS
                · cases hsv
              · cases hsv
            · next hf =>
              cases e3
              have hq0 : q < n0 := a4.resolve_right hf
              obtain ⟨z1, z2, z3⟩ := w.2 hq0
              subst z1
              refine .inl ⟨_, List.mem_singleton.mpr rfl, ν, _, h, n0, fx_same_up a7, hr2, ?_⟩
              have hV : fx_P E h n0 σ ν (2, (p.1.1, p.1.2 + d), fx_hh (d, kd, ta, tb)) (.ref (E.1 + (q + d))) := by
                refine ⟨?_, q + d, rfl, ?_, Nat.lt_of_lt_of_le z2 J.2.2.1.1, .inl z2, ?_⟩
                · show p.1.1 ≤ ν.length
                  rw [a9]
                  exact a10
                · have := fx_o_sub (ν := ν) (o := (p.1.1, p.1.2 + (d : Int))) (b := p.1) rfl
                  have e8 : (p.1.1, p.1.2 + (d : Int)).2 = p.1.2 + (d : Int) := rfl
                  rw [e8] at this
                  show ((q + d : Nat) : Int) = fx_o ν (p.1.1, p.1.2 + (d : Int))
                  omega
                · show fx_hn h (q + d) (if kd = 1 then 8 * tb + ta + 1 else 0)
                  split
                  · next hkd =>
                    subst hkd
                    unfold fx_shp at z3
                    rw [if_neg (by decide)] at z3
                    obtain ⟨y, hy⟩ := z3
                    have ty := J.2.2.1.2 _ _ hy
                    refine .inr ⟨ta, tb, y, rfl, ?_, hy⟩
                    have ty : fx_ar E h n0 ta y := ty
                    rcases Nat.lt_or_ge ta 7 with h7 | h7
                    · exact h7
                    · obtain ⟨k, rfl⟩ := Nat.exists_eq_add_of_le h7
                      rw [Nat.add_comm] at ty
                      exact ty.elim
                  · exact .inl rfl
              exact fx_Q.same (σ := σ) a6 a7 L (show fx_SR (fx_P E h n0 σ ν) (_ :: r) (_ :: cr) from ⟨hV, hr⟩)
  case putfield m =>
    refine ⟨rfl, ?_⟩
    obtain ⟨e0, e1⟩ := cz_n_some e
    have e0 : len = 3 := e0
    subst e0
    obtain ⟨v, s, r, rfl, e2⟩ := fx_v2_some e1
    obtain ⟨cv, cr, rfl, hv, hq1⟩ := S.cons
    obtain ⟨cs, cr, rfl, hs, hr⟩ := hq1.cons
    cases hr2 : cz_s2 E (pc, .putfield m, 3, xa, xb) (cv :: cs :: cr) h with
    | none => exact .inr ⟨hr2, rfl⟩
    | some y =>
      have hr3 : cz_n 3 3 (cz_vo (cv :: cs :: cr) fun v a r => cz_ob (cz_at E h a) fun ci fs => cz_if (ci == xa && decide (xb.toNat < fs.length) && decide (narrow (cz_fty ci xb.toNat) v = v) && fits (cz_fty ci xb.toNat) v) (some (pc + 3, r, h.set (a - E.1) (.inr (ci, fs.set xb.toNat v))))) = some y := hr2
      obtain ⟨-, h1⟩ := cz_n_some hr3
      obtain ⟨v', a, rest, hst, h2⟩ := cz_vo_some h1
      cases hst
      obtain ⟨ci, fs, hc, h3⟩ := cz_ob_some h2
      obtain ⟨g1, h4⟩ := cz_if_some h3
      cases h4
      obtain ⟨g2, -⟩ := Bool.and_eq_true_iff.mp g1
      obtain ⟨g3, -⟩ := Bool.and_eq_true_iff.mp g2
      obtain ⟨g4, g5⟩ := Bool.and_eq_true_iff.mp g3
      have g4 : ci = xa := by simpa using g4
      subst g4
      have g5 := of_decide_eq_true g5
      have e2 : (match fx_dl ci xb.toNat with
        | none => cz_if (v.1 == 0) (cz_so (fx_pl s σ) fun p => some [(pc + 3, lv, r, fx_ad p.2 (4, 0, [p.1, (0, (xb.toNat : Int)), v.2.1]))])
        | some _ => cz_if (s.1 == 2 && (fx_fr σ.2.1 s.2.1 && v.1 == 2)) (cz_so (fx_fs σ.2.1 s.2.1 ci xb.toNat v) fun φ => some [(pc + 3, lv, r, (σ.1, φ, σ.2.2))])) = some l := e2
      split at e2
      · next hd =>
        obtain ⟨t0, e3⟩ := cz_if_some e2
        have t0 : v.1 = 0 := by simpa using t0
        obtain ⟨x, rfl, hx⟩ := fx_P_i hv t0
        obtain ⟨p, hp, e4⟩ := cz_so_some e3
        cases e4
        rcases fx_pl_ok J hs hp with hN | ⟨q, a1, a2, a3, a4, a5, a6, a7, a8, a9, a10⟩
        · cases hN
        · have a1 := Value.ref.inj a1
          subst a1
          rw [cz_at_add] at hc
          have hsub : E.1 + q - E.1 = q := Nat.add_sub_cancel_left _ _
          obtain ⟨w1, w2, w3⟩ := J.2.2.1.2 q _ hc
          have hset : ∀ k, k ≠ xb.toNat → (fs.set xb.toNat (.int x))[k]? = fs[k]? := fun k hk => List.getElem?_set_ne (fun z => hk z.symm)
          have hself : (fs.set xb.toNat (.int x))[xb.toNat]? = some (.int x) := List.getElem?_set_self g5
          have sm : fx_sm (.inr (ci, fs)) (.inr (ci, fs.set xb.toNat (.int x))) := ⟨rfl, List.length_set⟩
          have hO := fx_of_set (E := E) (i := xb.toNat) (x := x.toInt) (c' := .inr (ci, fs.set xb.toNat (.int x))) hc (fun j => by
            show (match (fs.set xb.toNat (.int x))[j]? with
              | some (.int x) => x.toInt
              | _ => 0) = if j = xb.toNat then x.toInt else (match fs[j]? with
              | some (.int x) => x.toInt
              | _ => 0)
            by_cases hj : j = xb.toNat
            · subst hj
              rw [if_pos rfl, hself]
            · rw [if_neg hj, hset j hj]) (fun j => rfl)
          have hτ : p.2.2.1 = σ.2.1 := a7
          rw [hsub] at hr2
          have U : fx_ok2 E σ ν h n0 (fx_ad p.2 (4, 0, [p.1, (0, (xb.toNat : Int)), v.2.1])) ν (h.set q (.inr (ci, fs.set xb.toNat (.int x)))) n0 := by
            intro s9 v9 r9
            have r9 : fx_vr E h n0 σ.2.1 ν s9 v9 := r9
            rw [← hτ] at r9
            exact fx_P.set hc sm r9
          refine .inl ⟨_, List.mem_singleton.mpr rfl, ν, _, _, n0, U, hr2, ?_, L.imp U, hr.imp U⟩
          · refine a6.write hc sm ⟨w1, by rw [List.length_set]; exact w2, fun k u hk => ?_⟩ ?_ ?_
            · by_cases hkx : k = xb.toNat
              · subst hkx
                rw [hself] at hk
                cases hk
                unfold fx_fd
                rw [hd]
                exact ⟨x, rfl⟩
              · rw [hset k hkx] at hk
                have := w3 k u hk
                unfold fx_fd at this ⊢
                split
                · next e9 => rw [e9] at this; exact this
                · next e9 =>
                  rw [e9] at this
                  exact ⟨this.1, fun hp => ⟨(this.2 hp).1, (this.2 hp).2.1, fx_shp_ext (fx_ext_set hc sm) (this.2 hp).2.2⟩⟩
            · intro cj gs gs' h5 h6 k hk
              cases h5
              cases h6
              exact hset k (fun z => hk (by rw [z]; exact hd))
            · intro K hK
              have hK : K ν (fx_up (fx_of E h).1 (fx_o ν p.1) (xb.toNat : Int) (fx_o ν v.2.1), (fx_of E h).2) := hK
              rw [hO, a2, hx]
              exact hK
      · next d hd =>
        obtain ⟨t0, e3⟩ := cz_if_some e2
        obtain ⟨t1, t2⟩ := Bool.and_eq_true_iff.mp t0
        obtain ⟨t3, t4⟩ := Bool.and_eq_true_iff.mp t2
        have t1 : s.1 = 2 := by simpa using t1
        have t4 : v.1 = 2 := by simpa using t4
        obtain ⟨φ, hφ, e4⟩ := cz_so_some e3
        cases e4
        obtain ⟨u, o, w⟩ := s
        have t1 : u = 2 := t1
        subst t1
        obtain ⟨q, a1, a2, a3, -, -⟩ := hs.2
        have a2 : (q : Int) = fx_o ν o := a2
        have a1 := Value.ref.inj a1
        subst a1
        rw [cz_at_add] at hc
        have hsub : E.1 + q - E.1 = q := Nat.add_sub_cancel_left _ _
        have t3 : fx_fr σ.2.1 o = true := t3
        obtain ⟨f1, f2⟩ := Bool.and_eq_true_iff.mp t3
        obtain ⟨f3, f4⟩ := Bool.and_eq_true_iff.mp f2
        have f3 : o.1 = σ.2.1.1.1 := by simpa using f3
        have f4 := of_decide_eq_true f4
        have hne : ¬ σ.2.1.2 = [] := fun z => by rw [z] at f1; cases f1
        obtain ⟨j1, j2, j3, j4, j5, j6, j7, j8⟩ := J
        have hb := j6 (j7.resolve_left hne)
        have e5 := fx_o_sub (ν := ν) f3
        have hφ2 : (match σ.2.1.2[(o.2 - σ.2.1.1.2).toNat]? with
          | some (0, cj, fs) => if cj = ci ∧ xb.toNat < fs.length then some (σ.2.1.1, σ.2.1.2.set (o.2 - σ.2.1.1.2).toNat (0, cj, fs.set xb.toNat (some v))) else none
          | _ => none) = some φ := hφ
        clear hφ
        split at hφ2
        · next cj fs' hj =>
          split at hφ2
          · next hcj =>
            obtain ⟨hcj, hlen⟩ := hcj
            cases hφ2
            subst hcj
            have F := fx_FR_at j8 hj
            obtain ⟨gs, y1, y2, y3⟩ := F
            have hqe : n0 + (o.2 - σ.2.1.1.2).toNat = q := by omega
            rw [hqe] at y1
            cases hc.symm.trans y1
            obtain ⟨w1, w2, w3⟩ := j3.2 q _ hc
            have hv2 : ∃ pv : Nat, cv = .ref (E.1 + pv) := by
              obtain ⟨u9, o9, w9⟩ := v
              have t4 : u9 = 2 := t4
              subst t4
              obtain ⟨pv, b1, -⟩ := hv.2
              exact ⟨pv, b1⟩
            obtain ⟨pv, hpv⟩ := hv2
            have hset : ∀ k, k ≠ xb.toNat → (fs.set xb.toNat cv)[k]? = fs[k]? := fun k hk => List.getElem?_set_ne (fun z => hk z.symm)
            have hself : (fs.set xb.toNat cv)[xb.toNat]? = some cv := List.getElem?_set_self g5
            have sm : fx_sm (.inr (cj, fs)) (.inr (cj, fs.set xb.toNat cv)) := ⟨rfl, List.length_set⟩
            have hx := fx_ext_set hc sm
            have old := w3 xb.toNat fs[xb.toNat] (List.getElem?_eq_getElem g5)
            have hO := fx_of_set0 (E := E) (c' := .inr (cj, fs.set xb.toNat cv)) hc (fun j => by
              show (match (fs.set xb.toNat cv)[j]? with
                | some (.int x) => x.toInt
                | _ => 0) = (match fs[j]? with
                | some (.int x) => x.toInt
                | _ => 0)
              by_cases hjx : j = xb.toNat
              · subst hjx
                rw [hself, List.getElem?_eq_getElem g5, hpv]
                unfold fx_fd at old
                rw [hd] at old
                have old := old.1
                cases hfv : fs[xb.toNat] with
                | int x => rw [hfv] at old; cases old
                | _ => rfl
              · rw [hset j hjx]) (fun j => rfl)
            have hfn : ∀ o' : fx_O, fx_fr σ.2.1 o' = true → fx_fr (σ.2.1.1, σ.2.1.2.set (o.2 - σ.2.1.1.2).toNat (0, cj, fs'.set xb.toNat (some v))) o' = true := by
              intro o' z
              obtain ⟨z1, z2⟩ := Bool.and_eq_true_iff.mp z
              refine Bool.and_eq_true_iff.mpr ⟨?_, z2⟩
              show (!(σ.2.1.2.set (o.2 - σ.2.1.1.2).toNat (0, cj, fs'.set xb.toNat (some v))).isEmpty) = true
              cases hl9 : σ.2.1.2.set (o.2 - σ.2.1.1.2).toNat (0, cj, fs'.set xb.toNat (some v)) with
              | nil =>
                have hl8 := congrArg List.length hl9
                rw [List.length_set] at hl8
                exact absurd (List.eq_nil_of_length_eq_zero hl8) hne
              | cons a l => rfl
            have up : ∀ s v', fx_vr E h n0 σ.2.1 ν s v' → fx_vr E (h.set q (.inr (cj, fs.set xb.toNat cv))) n0 (σ.2.1.1, σ.2.1.2.set (o.2 - σ.2.1.1.2).toNat (0, cj, fs'.set xb.toNat (some v))) ν s v' := fun s v' r => fx_vr_h hx (Nat.le_refl _) (fun o' _ f _ _ _ => .inr (hfn o' f)) r
            rw [hsub] at hr2
            refine .inl ⟨_, List.mem_singleton.mpr rfl, ν, _, _, n0, up, hr2, ?_⟩
            refine ⟨⟨j1, fun K hK => by rw [hO]; exact j2 K hK, fx_WF_set j3 hc sm ⟨w1, by rw [List.length_set]; exact w2, fun k u hk => ?_⟩, fx_ext_tr j4 hx, ?_, j6, .inr (j7.resolve_left hne), fun j c hjc => ?_⟩, L.imp (fun s v' r => up s v' r), hr.imp (fun s v' r => up s v' r)⟩
            · by_cases hkx : k = xb.toNat
              · subst hkx
                rw [hself] at hk
                cases hk
                unfold fx_fd
                rw [hd]
                refine ⟨by rw [hpv]; rfl, fun hq0 => ?_⟩
                exfalso
                omega
              · rw [hset k hkx] at hk
                have := w3 k u hk
                unfold fx_fd at this ⊢
                split
                · next e9 => rw [e9] at this; exact this
                · next e9 =>
                  rw [e9] at this
                  exact ⟨this.1, fun hp => ⟨(this.2 hp).1, (this.2 hp).2.1, fx_shp_ext hx (this.2 hp).2.2⟩⟩
            · show n0 + (σ.2.1.2.set _ _).length = (h.set q _).length
              rw [List.length_set, List.length_set]
              exact j5
            · have hjc : (σ.2.1.2.set (o.2 - σ.2.1.1.2).toNat (0, cj, fs'.set xb.toNat (some v)))[j]? = some c := hjc
              by_cases hjj : (o.2 - σ.2.1.1.2).toNat = j
              · subst hjj
                rw [List.getElem?_set_self (List.getElem?_eq_some_iff.mp hj).1] at hjc
                cases hjc
                refine ⟨fs.set xb.toNat cv, ?_, by rw [List.length_set, List.length_set]; exact y2, fun k sk hdk hk => ?_⟩
                · rw [hqe]
                  exact List.getElem?_set_self (List.getElem?_eq_some_iff.mp hc).1
                · by_cases hkx : k = xb.toNat
                  · subst hkx
                    rw [List.getElem?_set_self hlen] at hk
                    cases hk
                    exact ⟨cv, hself, up v cv hv⟩
                  · rw [List.getElem?_set_ne (fun z => hkx z.symm)] at hk
                    obtain ⟨v9, hv9, r9⟩ := y3 k sk hdk hk
                    exact ⟨v9, (hset k hkx).trans hv9, up sk v9 r9⟩
              · rw [List.getElem?_set_ne hjj] at hjc
                have F9 := fx_FR_at j8 hjc
                have hqj : ¬ q = n0 + j := by omega
                obtain ⟨t9, n9, f9⟩ := c
                cases t9 with
                | zero =>
                  obtain ⟨gs9, z1, z2, z3⟩ := F9
                  refine ⟨gs9, (List.getElem?_set_ne hqj).trans z1, z2, fun k sk hdk hk => ?_⟩
                  obtain ⟨v9, hv9, r9⟩ := z3 k sk hdk hk
                  exact ⟨v9, hv9, up sk v9 r9⟩
                | succ t9 =>
                  obtain ⟨y9, z1⟩ := F9
                  exact ⟨y9, (List.getElem?_set_ne hqj).trans z1⟩
          · cases hφ2
        · cases hφ2
  case iaload =>
    refine ⟨rfl, ?_⟩
    obtain ⟨e0, e1⟩ := cz_n_some e
    have e0 : len = 1 := e0
    subst e0
    obtain ⟨i, s, r, rfl, t0, e2⟩ := fx_ir_some e1
    obtain ⟨ci, cr, rfl, hi, hq1⟩ := S.cons
    obtain ⟨cs, cr, rfl, hs, hr⟩ := hq1.cons
    obtain ⟨z, rfl, hz⟩ := fx_P_i hi t0
    cases hr2 : cz_s2 E (pc, .iaload, 1, xa, xb) (.int z :: cs :: cr) h with
    | none => exact .inr ⟨hr2, rfl⟩
    | some y =>
      have hr3 : cz_n 1 1 (cz_ir (.int z :: cs :: cr) fun i a r => if a = E.2.1.1 ∧ a < E.1 then cz_if (cz_in i E.2.1.2.1) (some (pc + 1, .int (E.2.1.2.2 i.toNatClampNeg) :: r, h)) else cz_ai (cz_at E h a) fun tc n f => cz_if (tc == 0 && cz_in i n) (some (pc + 1, .int (f i.toNatClampNeg) :: r, h))) = some y := hr2
      obtain ⟨-, h1⟩ := cz_n_some hr3
      obtain ⟨i', a, rest, hst, h2⟩ := cz_ir_some h1
      cases hst
      have e2 : (if s.1 = 7 then some [(pc + 1, lv, ((0, (σ.1 + 1, 0), 0) : fx_V) :: r, fx_pu σ (9, 0, [i.2.1]))] else fx_rd 0 0 i.2.1 s (pc + 1) lv r σ) = some l := e2
      split at e2
      · next h7 =>
        cases e2
        obtain ⟨u, o, w⟩ := s
        have h7 : u = 7 := h7
        subst h7
        have hs2 : Value.ref a = .ref E.2.1.1 := hs.2
        have hs2 := Value.ref.inj hs2
        subst hs2
        rw [if_pos ⟨rfl, hE.1⟩] at h2
        obtain ⟨g1, g2⟩ := cz_if_some h2
        cases g2
        obtain ⟨i0, i1, i2⟩ := fx_in g1
        have hX : M.1.1 (fx_o ν i.2.1) = (E.2.1.2.2 z.toNatClampNeg).toInt := by
          rw [hM]
          show (E.2.1.2.2 (fx_o ν i.2.1).toNat).toInt = _
          rw [← hz]
          rfl
        refine .inl ⟨_, List.mem_singleton.mpr rfl, ν ++ [(E.2.1.2.2 z.toNatClampNeg).toInt], _, h, n0, fx_psh_up rfl, hr2, fx_Q.psh J rfl (fun K hK => ?_) L hr ⟨?_, _, rfl, ?_⟩⟩
        · have hK : (fx_rl 0).1 ≤ M.1.1 (fx_o ν i.2.1) → M.1.1 (fx_o ν i.2.1) ≤ (fx_rl 0).2 → K (ν ++ [M.1.1 (fx_o ν i.2.1)]) (fx_of E h) := hK
          rw [hX] at hK
          exact hK (fx_i32 _).1 (fx_i32 _).2
        · show σ.1 + 1 ≤ _
          rw [List.length_append, J.1]
          exact Nat.le_refl _
        · show _ = fx_o _ (σ.1 + 1, 0)
          rw [fx_o_new J.1]
      · next h7 =>
        by_cases hsc : a = E.2.1.1 ∧ a < E.1
        · exfalso
          obtain ⟨p, hp, -⟩ := cz_so_some e2
          rcases fx_pl_ok J hs hp with hN | ⟨q, a1, -⟩
          · cases hN
          · have a1 := Value.ref.inj a1
            subst a1
            exact absurd hsc.2 (Nat.not_lt.mpr (Nat.le_add_right _ _))
        · rw [if_neg hsc] at h2
          obtain ⟨tc, n, f, hc, h3⟩ := cz_ai_some h2
          obtain ⟨g1, g2⟩ := cz_if_some h3
          cases g2
          obtain ⟨g3, g4⟩ := Bool.and_eq_true_iff.mp g1
          have g3 : tc = 0 := by simpa using g3
          subst g3
          obtain ⟨p, hp, -⟩ := cz_so_some e2
          rcases fx_pl_ok J hs hp with hN | ⟨q, a1, -⟩
          · cases hN
          · have a1 := Value.ref.inj a1
            subst a1
            rw [cz_at_add] at hc
            obtain ⟨r', m, e5, ν', U, Q⟩ := fx_rd_ok (v := .int (f z.toNatClampNeg)) e2 J L hr hs rfl hz hc g4 (.inl ⟨rfl, _, rfl, rfl⟩) (fx_i32 _)
            exact .inl ⟨r', m, ν', _, h, n0, U, by rw [e5]; exact hr2, Q⟩
  case baload =>
    refine ⟨rfl, ?_⟩
    obtain ⟨e0, e1⟩ := cz_n_some e
    have e0 : len = 1 := e0
    subst e0
    obtain ⟨i, s, r, rfl, t0, e2⟩ := fx_ir_some e1
    obtain ⟨ci, cr, rfl, hi, hq1⟩ := S.cons
    obtain ⟨cs, cr, rfl, hs, hr⟩ := hq1.cons
    obtain ⟨z, rfl, hz⟩ := fx_P_i hi t0
    cases hr2 : cz_s2 E (pc, .baload, 1, xa, xb) (.int z :: cs :: cr) h with
    | none => exact .inr ⟨hr2, rfl⟩
    | some y =>
      have hr3 : cz_n 1 1 (cz_ir (.int z :: cs :: cr) fun i a r => match cz_vs E a with
        | some k => cz_if (cz_in i (cz_sl.getD k 0)) (some (pc + 1, .int ((cz_sb.getD k []).getD i.toNatClampNeg 0) :: r, h))
        | none => cz_ai (cz_at E h a) fun tc n f => cz_if ((tc == 1 || tc == 4) && cz_in i n) (some (pc + 1, .int (f i.toNatClampNeg) :: r, h))) = some y := hr2
      obtain ⟨-, h1⟩ := cz_n_some hr3
      obtain ⟨i', a, rest, hst, h2⟩ := cz_ir_some h1
      cases hst
      have e2 : (if s.1 = 6 then some [(pc + 1, lv, ((0, (σ.1 + 1, 0), 0) : fx_V) :: r, fx_pu σ (7, 0, [s.2.1, i.2.1]))] else fx_rd 0 (if s.2.2 % 8 = 2 then 1 else if s.2.2 % 8 = 5 then 4 else 0) i.2.1 s (pc + 1) lv r σ) = some l := e2
      split at e2
      · next h6 =>
        cases e2
        obtain ⟨u, o, w⟩ := s
        have h6 : u = 6 := h6
        subst h6
        obtain ⟨k, hk, hv, ho⟩ := hs.2
        have ho : (k : Int) = fx_o ν o := ho
        have hv := Value.ref.inj hv
        subst hv
        have hvs : cz_vs E (E.2.2.2.1 k) = some k := cz_fd_of hk hE.2.2.2.1
        rw [hvs] at h2
        obtain ⟨g1, g2⟩ := cz_if_some h2
        cases g2
        obtain ⟨i0, i1, i2⟩ := fx_in g1
        refine .inl ⟨_, List.mem_singleton.mpr rfl, ν ++ [((cz_sb.getD k []).getD z.toNatClampNeg 0).toInt], _, h, n0, fx_psh_up rfl, hr2, fx_Q.psh J rfl (fun K hK => ?_) L hr ⟨?_, _, rfl, ?_⟩⟩
        · have hK : K (ν ++ [((cz_sb.getD (fx_o ν o).toNat []).getD (fx_o ν i.2.1).toNat 0).toInt]) (fx_of E h) := hK
          rw [← ho, ← hz, Int.toNat_natCast] at hK
          exact hK
        · show σ.1 + 1 ≤ _
          rw [List.length_append, J.1]
          exact Nat.le_refl _
        · show _ = fx_o _ (σ.1 + 1, 0)
          rw [fx_o_new J.1]
      · next h6 =>
        obtain ⟨p, hp, -⟩ := cz_so_some e2
        rcases fx_pl_ok J hs hp with hN | ⟨q, a1, a2, a3, a4, a5, -⟩
        · cases hN
        · have a1 := Value.ref.inj a1
          subst a1
          rw [(ck_own hE q).2] at h2
          have h2 : (cz_ai (cz_at E h (E.1 + q)) fun tc n f => cz_if ((tc == 1 || tc == 4) && cz_in z n) (some (pc + 1, .int (f z.toNatClampNeg) :: cr, h))) = some y := h2
          obtain ⟨tc, n, f, hc, h3⟩ := cz_ai_some h2
          obtain ⟨g1, g2⟩ := cz_if_some h3
          cases g2
          obtain ⟨g3, g4⟩ := Bool.and_eq_true_iff.mp g1
          rw [cz_at_add] at hc
          have ty : fx_ar E h n0 tc (.inl f) := J.2.2.1.2 _ _ hc
          have hrng : (fx_rl (if s.2.2 % 8 = 2 then 1 else if s.2.2 % 8 = 5 then 4 else 0)).1 ≤ (f z.toNatClampNeg).toInt ∧ (f z.toNatClampNeg).toInt ≤ (fx_rl (if s.2.2 % 8 = 2 then 1 else if s.2.2 % 8 = 5 then 4 else 0)).2 := by
            rcases a5 with a5 | ⟨tc', n', y', a5, a6, a7⟩
            · rw [a5]
              exact fx_i32 _
            · cases hc.symm.trans a7
              have g3 : tc = 1 ∨ tc = 4 := by simpa using g3
              rcases g3 with rfl | rfl
              · rw [if_pos (by omega)]
                obtain ⟨f', hf', hr'⟩ := ty
                cases hf'
                exact hr' _
              · rw [if_neg (by omega), if_pos (by omega)]
                obtain ⟨f', hf', hr'⟩ := ty
                cases hf'
                exact hr' _
          obtain ⟨r', m, e5, ν', U, Q⟩ := fx_rd_ok (v := .int (f z.toNatClampNeg)) e2 J L hr hs rfl hz hc g4 (.inl ⟨rfl, _, rfl, rfl⟩) hrng
          exact .inl ⟨r', m, ν', _, h, n0, U, by rw [e5]; exact hr2, Q⟩
  case caload =>
    refine ⟨rfl, ?_⟩
    obtain ⟨e0, e1⟩ := cz_n_some e
    have e0 : len = 1 := e0
    subst e0
    obtain ⟨i, s, r, rfl, t0, e2⟩ := fx_ir_some e1
    obtain ⟨ci, cr, rfl, hi, hq1⟩ := S.cons
    obtain ⟨cs, cr, rfl, hs, hr⟩ := hq1.cons
    obtain ⟨z, rfl, hz⟩ := fx_P_i hi t0
    cases hr2 : cz_s2 E (pc, .caload, 1, xa, xb) (.int z :: cs :: cr) h with
    | none => exact .inr ⟨hr2, rfl⟩
    | some y =>
      have hr3 : cz_n 1 1 (cz_ir (.int z :: cs :: cr) fun i a r => cz_ai (cz_at E h a) fun tc n f => cz_if (tc == 3 && cz_in i n) (some (pc + 1, .int (f i.toNatClampNeg) :: r, h))) = some y := hr2
      obtain ⟨-, h1⟩ := cz_n_some hr3
      obtain ⟨i', a, rest, hst, h2⟩ := cz_ir_some h1
      cases hst
      obtain ⟨tc, n, f, hc, h3⟩ := cz_ai_some h2
      obtain ⟨g1, g2⟩ := cz_if_some h3
      cases g2
      obtain ⟨g3, g4⟩ := Bool.and_eq_true_iff.mp g1
      have g3 : tc = 3 := by simpa using g3
      subst g3
      obtain ⟨p, hp, -⟩ := cz_so_some e2
      rcases fx_pl_ok J hs hp with hN | ⟨q, a1, -⟩
      · cases hN
      · have a1 := Value.ref.inj a1
        subst a1
        rw [cz_at_add] at hc
        have ty : fx_ar E h n0 3 (.inl f) := J.2.2.1.2 _ _ hc
        obtain ⟨f', hf', hr'⟩ := ty
        cases hf'
        obtain ⟨r', m, e5, ν', U, Q⟩ := fx_rd_ok (v := .int (f z.toNatClampNeg)) e2 J L hr hs rfl hz hc g4 (.inl ⟨rfl, _, rfl, rfl⟩) (hr' _)
        exact .inl ⟨r', m, ν', _, h, n0, U, by rw [e5]; exact hr2, Q⟩
  case laload =>
    refine ⟨rfl, ?_⟩
    obtain ⟨e0, e1⟩ := cz_n_some e
    have e0 : len = 1 := e0
    subst e0
    obtain ⟨i, s, r, rfl, t0, e2⟩ := fx_ir_some e1
    obtain ⟨ci, cr, rfl, hi, hq1⟩ := S.cons
    obtain ⟨cs, cr, rfl, hs, hr⟩ := hq1.cons
    obtain ⟨z, rfl, hz⟩ := fx_P_i hi t0
    cases hr2 : cz_s2 E (pc, .laload, 1, xa, xb) (.int z :: cs :: cr) h with
    | none => exact .inr ⟨hr2, rfl⟩
    | some y =>
      have hr3 : cz_n 1 1 (cz_ir (.int z :: cs :: cr) fun i a r => cz_al (cz_at E h a) fun tc n f => cz_if (tc == 2 && cz_in i n) (some (pc + 1, .long (f i.toNatClampNeg) :: r, h))) = some y := hr2
      obtain ⟨-, h1⟩ := cz_n_some hr3
      obtain ⟨i', a, rest, hst, h2⟩ := cz_ir_some h1
      cases hst
      obtain ⟨tc, n, f, hc, h3⟩ := cz_al_some h2
      obtain ⟨g1, g2⟩ := cz_if_some h3
      cases g2
      obtain ⟨g3, g4⟩ := Bool.and_eq_true_iff.mp g1
      have g3 : tc = 2 := by simpa using g3
      subst g3
      obtain ⟨p, hp, -⟩ := cz_so_some e2
      rcases fx_pl_ok J hs hp with hN | ⟨q, a1, -⟩
      · cases hN
      · have a1 := Value.ref.inj a1
        subst a1
        rw [cz_at_add] at hc
        obtain ⟨r', m, e5, ν', U, Q⟩ := fx_rd_ok (v := .long (f z.toNatClampNeg)) e2 J L hr hs rfl hz hc g4 (.inr ⟨rfl, _, rfl, rfl⟩) (fx_i64 _)
        exact .inl ⟨r', m, ν', _, h, n0, U, by rw [e5]; exact hr2, Q⟩
  case aaload =>
    refine ⟨rfl, ?_⟩
    obtain ⟨e0, e1⟩ := cz_n_some e
    have e0 : len = 1 := e0
    subst e0
    obtain ⟨i, s, r, rfl, t0, e2⟩ := fx_ir_some e1
    obtain ⟨ci, cr, rfl, hi, hq1⟩ := S.cons
    obtain ⟨cs, cr, rfl, hs, hr⟩ := hq1.cons
    obtain ⟨z, rfl, hz⟩ := fx_P_i hi t0
    obtain ⟨b1, b2⟩ := cz_if_some e2
    cases b2
    obtain ⟨b3, b4⟩ := Bool.and_eq_true_iff.mp b1
    obtain ⟨u, o, w⟩ := s
    have b3 : u = 2 := by simpa using b3
    subst b3
    have b4 : ¬ fx_fr σ.2.1 o = true := by simpa using b4
    obtain ⟨q, a1, a2, a3, a4, a5⟩ := hs.2
    have a2 : (q : Int) = fx_o ν o := a2
    subst a1
    have hq0 : q < n0 := a4.resolve_right b4
    cases hr2 : cz_s2 E (pc, .aaload, 1, xa, xb) (.int z :: .ref (E.1 + q) :: cr) h with
    | none => exact .inr ⟨hr2, rfl⟩
    | some y =>
      have hr3 : cz_n 1 1 (cz_ir (.int z :: .ref (E.1 + q) :: cr) fun i a r => cz_aq (cz_at E h a) fun tc n f => cz_if ((tc == 5 || tc == 6) && cz_in i n) (some (pc + 1, va_rf (f i.toNatClampNeg) :: r, h))) = some y := hr2
      obtain ⟨-, h1⟩ := cz_n_some hr3
      obtain ⟨i', a, rest, hst, h2⟩ := cz_ir_some h1
      cases hst
      obtain ⟨tc, n, f, hc, h3⟩ := cz_aq_some h2
      obtain ⟨g1, g2⟩ := cz_if_some h3
      cases g2
      obtain ⟨g3, g4⟩ := Bool.and_eq_true_iff.mp g1
      rw [cz_at_add] at hc
      obtain ⟨i0, i1, i2⟩ := fx_in g4
      have ty : fx_ar E h n0 tc (.inr (.inr (.inr (.inr f)))) := J.2.2.1.2 _ _ hc
      have hel : ∀ b : Nat, f z.toNatClampNeg = some b → E.1 ≤ b ∧ b - E.1 < n0 := by
        intro b hb
        have g3 : tc = 5 ∨ tc = 6 := by simpa using g3
        rcases g3 with rfl | rfl
        · obtain ⟨f', hf', hr'⟩ := ty
          cases hf'
          exact ⟨(hr' _ _ hb).1, (hr' _ _ hb).2.1⟩
        · obtain ⟨f', hf', hr'⟩ := ty
          cases hf'
          exact ⟨(hr' _ _ hb).1, (hr' _ _ hb).2.1⟩
      obtain ⟨c1, c2, c3⟩ := fx_bd_ok (o := i.2.1) J hc a5 (by rw [← hz]; exact i0) (by rw [← hz]; exact i1)
      have hF : (fx_of E h).2.1 (fx_o ν o) (fx_o ν i.2.1) = fx_cR E.1 (some (.inl (tc, n, .inr (.inr (.inr (.inr f)))))) z.toNatClampNeg := by rw [← a2, ← hz, ← i2]; exact fx_ofR hc
      refine .inl ⟨_, List.mem_singleton.mpr rfl, ν ++ [fx_cR E.1 (some (.inl (tc, n, .inr (.inr (.inr (.inr f)))))) z.toNatClampNeg], _, h, n0, fx_psh_up c3, hr2, fx_Q.psh c1 c3 (fun K hK => ?_) L hr ⟨?_, ?_⟩⟩
      · have hK : K (ν ++ [(fx_of E h).2.1 (fx_o ν o) (fx_o ν i.2.1)]) (fx_of E h) := hK
        rw [hF] at hK
        exact hK
      · show (fx_bd i.2.1 w σ).1 + 1 ≤ _
        rw [c2, List.length_append, J.1]
        exact Nat.le_refl _
      · have hn : fx_o (ν ++ [fx_cR E.1 (some (.inl (tc, n, .inr (.inr (.inr (.inr f)))))) z.toNatClampNeg]) ((fx_bd i.2.1 w σ).1 + 1, 0) = fx_cR E.1 (some (.inl (tc, n, .inr (.inr (.inr (.inr f)))))) z.toNatClampNeg := fx_o_new (by rw [c2]; exact J.1)
        show (va_rf (f z.toNatClampNeg) = .null ∧ fx_o _ ((fx_bd i.2.1 w σ).1 + 1, 0) = -1) ∨ ∃ p : Nat, va_rf (f z.toNatClampNeg) = .ref (E.1 + p) ∧ (p : Int) = fx_o _ ((fx_bd i.2.1 w σ).1 + 1, 0) ∧ p < h.length ∧ p < n0
        rw [hn]
        show (va_rf (f z.toNatClampNeg) = .null ∧ (match f z.toNatClampNeg with
          | some a => (a : Int) - E.1
          | none => -1) = -1) ∨ ∃ p : Nat, va_rf (f z.toNatClampNeg) = .ref (E.1 + p) ∧ (p : Int) = (match f z.toNatClampNeg with
          | some a => (a : Int) - E.1
          | none => -1) ∧ p < h.length ∧ p < n0
        cases hf : f z.toNatClampNeg with
        | none => exact .inl ⟨rfl, rfl⟩
        | some b =>
          obtain ⟨d1, d2⟩ := hel b hf
          refine .inr ⟨b - E.1, ?_, ?_, Nat.lt_of_lt_of_le d2 J.2.2.1.1, d2⟩
          · show Value.ref b = .ref (E.1 + (b - E.1))
            rw [Nat.add_sub_cancel' d1]
          · show ((b - E.1 : Nat) : Int) = (b : Int) - E.1
            omega
  case iastore =>
    refine ⟨rfl, ?_⟩
    obtain ⟨e0, e1⟩ := cz_n_some e
    have e0 : len = 1 := e0
    subst e0
    obtain ⟨v, i, s, r, rfl, t0, e2⟩ := fx_vr3_some e1
    obtain ⟨cv, cr, rfl, hv, hq1⟩ := S.cons
    obtain ⟨ci, cr, rfl, hi, hq2⟩ := hq1.cons
    obtain ⟨cs, cr, rfl, hs, hr⟩ := hq2.cons
    obtain ⟨z, rfl, hz⟩ := fx_P_i hi t0
    obtain ⟨t1, e3⟩ := cz_if_some e2
    have t1 : v.1 = 0 := by simpa using t1
    obtain ⟨x, rfl, hx⟩ := fx_P_i hv t1
    cases hr2 : cz_s2 E (pc, .iastore, 1, xa, xb) (.int x :: .int z :: cs :: cr) h with
    | none => exact .inr ⟨hr2, rfl⟩
    | some y =>
      have hr3 : cz_n 1 1 (cz_vr (.int x :: .int z :: cs :: cr) fun v i a r => cz_ki (some v) fun x => cz_ai (cz_at E h a) fun tc n f => cz_if (tc == 0 && cz_in i n) (some (pc + 1, r, h.set (a - E.1) (.inl (0, n, .inl (upd f i.toNatClampNeg x)))))) = some y := hr2
      obtain ⟨-, h1⟩ := cz_n_some hr3
      obtain ⟨v', i', a, rest, hst, h2⟩ := cz_vr_some h1
      cases hst
      have h2 : (cz_ai (cz_at E h a) fun tc n f => cz_if (tc == 0 && cz_in z n) (some (pc + 1, cr, h.set (a - E.1) (.inl (0, n, .inl (upd f z.toNatClampNeg x)))))) = some y := h2
      obtain ⟨tc, n, f, hc, h3⟩ := cz_ai_some h2
      obtain ⟨g1, g2⟩ := cz_if_some h3
      cases g2
      obtain ⟨g3, g4⟩ := Bool.and_eq_true_iff.mp g1
      have g3 : tc = 0 := by simpa using g3
      subst g3
      obtain ⟨p, hp, -⟩ := cz_so_some e3
      rcases fx_pl_ok J hs hp with hN | ⟨q, a1, -⟩
      · cases hN
      · have a1 := Value.ref.inj a1
        subst a1
        rw [cz_at_add] at hc
        rw [Nat.add_sub_cancel_left] at hr2
        obtain ⟨r', m, e5, ν', U, Q⟩ := fx_wr_ok (y' := .inl (upd f z.toNatClampNeg x)) e3 J L hr hs rfl hz hc g4 (fx_upI hx) (fun j => rfl) ⟨_, rfl⟩
        exact .inl ⟨r', m, ν', _, _, n0, U, by rw [e5]; exact hr2, Q⟩
  case bastore =>
    refine ⟨rfl, ?_⟩
    obtain ⟨e0, e1⟩ := cz_n_some e
    have e0 : len = 1 := e0
    subst e0
    obtain ⟨v, i, s, r, rfl, t0, e2⟩ := fx_vr3_some e1
    obtain ⟨cv, cr, rfl, hv, hq1⟩ := S.cons
    obtain ⟨ci, cr, rfl, hi, hq2⟩ := hq1.cons
    obtain ⟨cs, cr, rfl, hs, hr⟩ := hq2.cons
    obtain ⟨z, rfl, hz⟩ := fx_P_i hi t0
    obtain ⟨t1, e3⟩ := cz_if_some e2
    obtain ⟨t2, t3⟩ := Bool.and_eq_true_iff.mp t1
    have t2 : v.1 = 0 := by simpa using t2
    have t3 : s.2.2 % 8 = 2 ∨ s.2.2 % 8 = 5 := by simpa using t3
    obtain ⟨x, rfl, hx⟩ := fx_P_i hv t2
    cases hr2 : cz_s2 E (pc, .bastore, 1, xa, xb) (.int x :: .int z :: cs :: cr) h with
    | none => exact .inr ⟨hr2, rfl⟩
    | some y =>
      have hr3 : cz_n 1 1 (cz_vr (.int x :: .int z :: cs :: cr) fun v i a r => cz_ki (some v) fun x => cz_ai (cz_at E h a) fun tc n f => cz_if ((tc == 1 || tc == 4) && cz_in i n) (some (pc + 1, r, h.set (a - E.1) (.inl (tc, n, .inl (upd f i.toNatClampNeg (vp_nar (cz_ty tc) x))))))) = some y := hr2
      obtain ⟨-, h1⟩ := cz_n_some hr3
      obtain ⟨v', i', a, rest, hst, h2⟩ := cz_vr_some h1
      cases hst
      have h2 : (cz_ai (cz_at E h a) fun tc n f => cz_if ((tc == 1 || tc == 4) && cz_in z n) (some (pc + 1, cr, h.set (a - E.1) (.inl (tc, n, .inl (upd f z.toNatClampNeg (vp_nar (cz_ty tc) x))))))) = some y := h2
      obtain ⟨tc, n, f, hc, h3⟩ := cz_ai_some h2
      obtain ⟨g1, g2⟩ := cz_if_some h3
      cases g2
      obtain ⟨g3, g4⟩ := Bool.and_eq_true_iff.mp g1
      have hts : s.2.2 % 8 - 1 = 1 ∨ s.2.2 % 8 - 1 = 3 ∨ s.2.2 % 8 - 1 = 4 := by omega
      obtain ⟨δ, U1, J1, L1, S1, hn⟩ := fx_nv_ok (tc := s.2.2 % 8 - 1) (st := s :: r) (cst := Value.ref a :: cr) hts J L ⟨hs, hr⟩ hx
      obtain ⟨p, hp, -⟩ := cz_so_some e3
      rcases fx_pl_ok J1 S1.1 hp with hN | ⟨q, a1, a2, a3, a4, a5, -⟩
      · cases hN
      · have a1 := Value.ref.inj a1
        subst a1
        rw [cz_at_add] at hc
        rw [Nat.add_sub_cancel_left] at hr2
        have ty : fx_ar E h n0 tc (.inl f) := J.2.2.1.2 _ _ hc
        have htc : tc = s.2.2 % 8 - 1 := by
          rcases a5 with a5 | ⟨tc', n', y', a5, a6, a7⟩
          · omega
          · cases hc.symm.trans a7
            omega
        rw [← htc] at hn e3 J1 L1 S1 U1
        have hz' : z.toInt = fx_o (ν ++ δ) i.2.1 := by rw [fx_o_app hi.1]; exact hz
        have hA : fx_ar E (h.set q (.inl (tc, n, .inl (upd f z.toNatClampNeg (vp_nar (cz_ty tc) x))))) n0 tc (.inl (upd f z.toNatClampNeg (vp_nar (cz_ty tc) x))) := by
          have g3 : tc = 1 ∨ tc = 4 := by simpa using g3
          rcases g3 with rfl | rfl
          · obtain ⟨f', hf', hr'⟩ := ty
            cases hf'
            refine ⟨_, rfl, fun j => ?_⟩
            show -128 ≤ (if j = z.toNatClampNeg then vp_nar (cz_ty 1) x else f j).toInt ∧ (if j = z.toNatClampNeg then vp_nar (cz_ty 1) x else f j).toInt ≤ 127
            split
            · exact (fx_nar_rng x).1
            · exact hr' j
          · obtain ⟨f', hf', hr'⟩ := ty
            cases hf'
            refine ⟨_, rfl, fun j => ?_⟩
            show 0 ≤ (if j = z.toNatClampNeg then vp_nar (cz_ty 4) x else f j).toInt ∧ (if j = z.toNatClampNeg then vp_nar (cz_ty 4) x else f j).toInt ≤ 1
            split
            · exact (fx_nar_rng x).2.2
            · exact hr' j
        obtain ⟨r', m, e5, ν', U, Q⟩ := fx_wr_ok (y' := .inl (upd f z.toNatClampNeg (vp_nar (cz_ty tc) x))) e3 J1 L1 S1.2 S1.1 rfl hz' hc g4 (fx_upI hn) (fun j => rfl) hA
        exact .inl ⟨r', m, ν', _, _, n0, fun s v r => U s v (U1 s v r), by rw [e5]; exact hr2, Q⟩
  case castore =>
    refine ⟨rfl, ?_⟩
    obtain ⟨e0, e1⟩ := cz_n_some e
    have e0 : len = 1 := e0
    subst e0
    obtain ⟨v, i, s, r, rfl, t0, e2⟩ := fx_vr3_some e1
    obtain ⟨cv, cr, rfl, hv, hq1⟩ := S.cons
    obtain ⟨ci, cr, rfl, hi, hq2⟩ := hq1.cons
    obtain ⟨cs, cr, rfl, hs, hr⟩ := hq2.cons
    obtain ⟨z, rfl, hz⟩ := fx_P_i hi t0
    obtain ⟨t1, e3⟩ := cz_if_some e2
    have t2 : v.1 = 0 := by simpa using t1
    obtain ⟨x, rfl, hx⟩ := fx_P_i hv t2
    cases hr2 : cz_s2 E (pc, .castore, 1, xa, xb) (.int x :: .int z :: cs :: cr) h with
    | none => exact .inr ⟨hr2, rfl⟩
    | some y =>
      have hr3 : cz_n 1 1 (cz_vr (.int x :: .int z :: cs :: cr) fun v i a r => cz_ki (some v) fun x => cz_ai (cz_at E h a) fun tc n f => cz_if (tc == 3 && cz_in i n) (some (pc + 1, r, h.set (a - E.1) (.inl (3, n, .inl (upd f i.toNatClampNeg (vp_nar .char x))))))) = some y := hr2
      obtain ⟨-, h1⟩ := cz_n_some hr3
      obtain ⟨v', i', a, rest, hst, h2⟩ := cz_vr_some h1
      cases hst
      have h2 : (cz_ai (cz_at E h a) fun tc n f => cz_if (tc == 3 && cz_in z n) (some (pc + 1, cr, h.set (a - E.1) (.inl (3, n, .inl (upd f z.toNatClampNeg (vp_nar (cz_ty 3) x))))))) = some y := h2
      obtain ⟨tc, n, f, hc, h3⟩ := cz_ai_some h2
      obtain ⟨g1, g2⟩ := cz_if_some h3
      cases g2
      obtain ⟨g3, g4⟩ := Bool.and_eq_true_iff.mp g1
      have g3 : tc = 3 := by simpa using g3
      subst g3
      obtain ⟨δ, U1, J1, L1, S1, hn⟩ := fx_nv_ok (tc := 3) (st := s :: r) (cst := Value.ref a :: cr) (.inr (.inl rfl)) J L ⟨hs, hr⟩ hx
      obtain ⟨p, hp, -⟩ := cz_so_some e3
      rcases fx_pl_ok J1 S1.1 hp with hN | ⟨q, a1, -⟩
      · cases hN
      · have a1 := Value.ref.inj a1
        subst a1
        rw [cz_at_add] at hc
        rw [Nat.add_sub_cancel_left] at hr2
        have ty : fx_ar E h n0 3 (.inl f) := J.2.2.1.2 _ _ hc
        have hz' : z.toInt = fx_o (ν ++ δ) i.2.1 := by rw [fx_o_app hi.1]; exact hz
        have hA : fx_ar E (h.set q (.inl (3, n, .inl (upd f z.toNatClampNeg (vp_nar (cz_ty 3) x))))) n0 3 (.inl (upd f z.toNatClampNeg (vp_nar (cz_ty 3) x))) := by
          obtain ⟨f', hf', hr'⟩ := ty
          cases hf'
          refine ⟨_, rfl, fun j => ?_⟩
          show 0 ≤ (if j = z.toNatClampNeg then vp_nar (cz_ty 3) x else f j).toInt ∧ (if j = z.toNatClampNeg then vp_nar (cz_ty 3) x else f j).toInt ≤ 65535
          split
          · exact (fx_nar_rng x).2.1
          · exact hr' j
        obtain ⟨r', m, e5, ν', U, Q⟩ := fx_wr_ok (y' := .inl (upd f z.toNatClampNeg (vp_nar (cz_ty 3) x))) e3 J1 L1 S1.2 S1.1 rfl hz' hc g4 (fx_upI hn) (fun j => rfl) hA
        exact .inl ⟨r', m, ν', _, _, n0, fun s v r => U s v (U1 s v r), by rw [e5]; exact hr2, Q⟩
  case lastore =>
    refine ⟨rfl, ?_⟩
    obtain ⟨e0, e1⟩ := cz_n_some e
    have e0 : len = 1 := e0
    subst e0
    obtain ⟨v, i, s, r, rfl, t0, e2⟩ := fx_vr3_some e1
    obtain ⟨cv, cr, rfl, hv, hq1⟩ := S.cons
    obtain ⟨ci, cr, rfl, hi, hq2⟩ := hq1.cons
    obtain ⟨cs, cr, rfl, hs, hr⟩ := hq2.cons
    obtain ⟨z, rfl, hz⟩ := fx_P_i hi t0
    obtain ⟨t1, e3⟩ := cz_if_some e2
    have t1 : v.1 = 1 := by simpa using t1
    obtain ⟨x, rfl, hx⟩ := fx_P_l hv t1
    cases hr2 : cz_s2 E (pc, .lastore, 1, xa, xb) (.long x :: .int z :: cs :: cr) h with
    | none => exact .inr ⟨hr2, rfl⟩
    | some y =>
      have hr3 : cz_n 1 1 (cz_vr (.long x :: .int z :: cs :: cr) fun v i a r => cz_kl (some v) fun x => cz_al (cz_at E h a) fun tc n f => cz_if (tc == 2 && cz_in i n) (some (pc + 1, r, h.set (a - E.1) (.inl (2, n, .inr (.inl (vp_updL f i.toNatClampNeg x))))))) = some y := hr2
      obtain ⟨-, h1⟩ := cz_n_some hr3
      obtain ⟨v', i', a, rest, hst, h2⟩ := cz_vr_some h1
      cases hst
      have h2 : (cz_al (cz_at E h a) fun tc n f => cz_if (tc == 2 && cz_in z n) (some (pc + 1, cr, h.set (a - E.1) (.inl (2, n, .inr (.inl (vp_updL f z.toNatClampNeg x))))))) = some y := h2
      obtain ⟨tc, n, f, hc, h3⟩ := cz_al_some h2
      obtain ⟨g1, g2⟩ := cz_if_some h3
      cases g2
      obtain ⟨g3, g4⟩ := Bool.and_eq_true_iff.mp g1
      have g3 : tc = 2 := by simpa using g3
      subst g3
      obtain ⟨p, hp, -⟩ := cz_so_some e3
      rcases fx_pl_ok J hs hp with hN | ⟨q, a1, -⟩
      · cases hN
      · have a1 := Value.ref.inj a1
        subst a1
        rw [cz_at_add] at hc
        rw [Nat.add_sub_cancel_left] at hr2
        obtain ⟨r', m, e5, ν', U, Q⟩ := fx_wr_ok (y' := .inr (.inl (vp_updL f z.toNatClampNeg x))) e3 J L hr hs rfl hz hc g4 (fun j => by
          show (if j = z.toNatClampNeg then x else f j).toInt = if j = z.toNatClampNeg then fx_o ν v.2.1 else (f j).toInt
          split
          · exact hx
          · rfl) (fun j => rfl) ⟨_, rfl⟩
        exact .inl ⟨r', m, ν', _, _, n0, U, by rw [e5]; exact hr2, Q⟩
  case aastore =>
    refine ⟨rfl, ?_⟩
    obtain ⟨e0, e1⟩ := cz_n_some e
    have e0 : len = 1 := e0
    subst e0
    obtain ⟨v, i, s, r, rfl, t0, e2⟩ := fx_vr3_some e1
    obtain ⟨cv, cr, rfl, hv, hq1⟩ := S.cons
    obtain ⟨ci, cr, rfl, hi, hq2⟩ := hq1.cons
    obtain ⟨cs, cr, rfl, hs, hr⟩ := hq2.cons
    obtain ⟨z, rfl, hz⟩ := fx_P_i hi t0
    obtain ⟨σ1, hσ1, e3⟩ := cz_so_some e2
    obtain ⟨t1, e4⟩ := cz_if_some e3
    cases e4
    obtain ⟨t2, t3⟩ := Bool.and_eq_true_iff.mp t1
    obtain ⟨J1, f1, f2, up⟩ := fx_cl0_ok J hσ1
    obtain ⟨us, os, ws⟩ := s
    have t2 : us = 2 := by simpa using t2
    subst t2
    have hs := up _ _ hs
    have hv := up _ _ hv
    obtain ⟨q, a1, a2, a3, a4, a5⟩ := hs.2
    have a2 : (q : Int) = fx_o ν os := a2
    subst a1
    cases hr2 : cz_s2 E (pc, .aastore, 1, xa, xb) (cv :: .int z :: .ref (E.1 + q) :: cr) h with
    | none => exact .inr ⟨hr2, rfl⟩
    | some y =>
      have hr3 : cz_n 1 1 (cz_vr (cv :: .int z :: .ref (E.1 + q) :: cr) fun v i a r => cz_aq (cz_at E h a) fun tc n f => cz_if ((tc == 5 || tc == 6) && cz_in i n) (match v with
        | .null => some (pc + 1, r, h.set (a - E.1) (.inl (tc, n, .inr (.inr (.inr (.inr (va_up f i.toNatClampNeg none)))))))
        | .ref o => cz_ob (cz_at E h o) fun ci _ => cz_if ((tc == 5 && ci == 10) || (tc == 6 && ci == 9)) (some (pc + 1, r, h.set (a - E.1) (.inl (tc, n, .inr (.inr (.inr (.inr (va_up f i.toNatClampNeg (some o)))))))))
        | _ => none)) = some y := hr2
      obtain ⟨-, h1⟩ := cz_n_some hr3
      obtain ⟨v', i', a, rest, hst, h2⟩ := cz_vr_some h1
      cases hst
      obtain ⟨tc, n, f, hc, h3⟩ := cz_aq_some h2
      obtain ⟨g1, g2⟩ := cz_if_some h3
      obtain ⟨g3, g4⟩ := Bool.and_eq_true_iff.mp g1
      rw [cz_at_add] at hc
      obtain ⟨i0, i1, i2⟩ := fx_in g4
      have ty : fx_ar E h h.length tc (.inr (.inr (.inr (.inr f)))) := J1.2.2.1.2 _ _ hc
      have g3 : tc = 5 ∨ tc = 6 := by simpa using g3
      obtain ⟨c1, c2, c3⟩ := fx_bd_ok (o := i.2.1) J1 hc a5 (by rw [← hz]; exact i0) (by rw [← hz]; exact i1)
      -- what is written
      have key : ∃ (w : Option Nat), y = (pc + 1, cr, h.set q (.inl (tc, n, .inr (.inr (.inr (.inr (va_up f z.toNatClampNeg w))))))) ∧ (match w with
          | some b => (b : Int) - E.1
          | none => -1) = fx_o ν (if v.1 = 4 then ((0, -1) : fx_O) else v.2.1) ∧ (∀ b : Nat, w = some b → E.1 ≤ b ∧ b - E.1 < h.length ∧ ∃ fs, h[b - E.1]? = some (.inr (if tc = 5 then 10 else 9, fs))) := by
        have t3 : (v.1 = 2 ∨ v.1 = 3) ∨ v.1 = 4 := by simpa using t3
        have hsub : E.1 + q - E.1 = q := Nat.add_sub_cancel_left _ _
        rw [hsub] at g2
        have hnull : cv = .null → fx_o ν (if v.1 = 4 then ((0, -1) : fx_O) else v.2.1) = -1 → ∃ (w : Option Nat), y = (pc + 1, cr, h.set q (.inl (tc, n, .inr (.inr (.inr (.inr (va_up f z.toNatClampNeg w))))))) ∧ (match w with
          | some b => (b : Int) - E.1
          | none => -1) = fx_o ν (if v.1 = 4 then ((0, -1) : fx_O) else v.2.1) ∧ (∀ b : Nat, w = some b → E.1 ≤ b ∧ b - E.1 < h.length ∧ ∃ fs, h[b - E.1]? = some (.inr (if tc = 5 then 10 else 9, fs))) := by
          intro hn ho
          subst hn
          cases g2
          exact ⟨none, rfl, ho.symm, fun b hb => by cases hb⟩
        have hsome : ∀ b : Nat, cv = .ref (E.1 + b) → (b : Int) = fx_o ν (if v.1 = 4 then ((0, -1) : fx_O) else v.2.1) → b < h.length → ∃ (w : Option Nat), y = (pc + 1, cr, h.set q (.inl (tc, n, .inr (.inr (.inr (.inr (va_up f z.toNatClampNeg w))))))) ∧ (match w with
          | some b => (b : Int) - E.1
          | none => -1) = fx_o ν (if v.1 = 4 then ((0, -1) : fx_O) else v.2.1) ∧ (∀ b : Nat, w = some b → E.1 ≤ b ∧ b - E.1 < h.length ∧ ∃ fs, h[b - E.1]? = some (.inr (if tc = 5 then 10 else 9, fs))) := by
          intro b hb ho hbl
          subst hb
          have g2 : (cz_ob (cz_at E h (E.1 + b)) fun ci _ => cz_if ((tc == 5 && ci == 10) || (tc == 6 && ci == 9)) (some (pc + 1, cr, h.set q (.inl (tc, n, .inr (.inr (.inr (.inr (va_up f z.toNatClampNeg (some (E.1 + b)))))))))) ) = some y := g2
          obtain ⟨cj, fs, hcb, g5⟩ := cz_ob_some g2
          obtain ⟨g6, g7⟩ := cz_if_some g5
          cases g7
          rw [cz_at_add] at hcb
          refine ⟨some (E.1 + b), rfl, ?_, fun b' hb' => ?_⟩
          · rw [← ho]
            show ((E.1 + b : Nat) : Int) - E.1 = b
            omega
          · cases hb'
            rw [Nat.add_sub_cancel_left]
            refine ⟨Nat.le_add_right _ _, hbl, fs, ?_⟩
            rw [hcb]
            rcases g3 with rfl | rfl
            · have : cj = 10 := by simpa using g6
              subst this; rfl
            · have : cj = 9 := by simpa using g6
              subst this; rfl
        obtain ⟨uv, ov, wv⟩ := v
        rcases t3 with (t3 | t3) | t3
        · have t3 : uv = 2 := t3
          subst t3
          obtain ⟨b, b1, b2, b3, -⟩ := hv.2
          exact hsome b b1 b2 b3
        · have t3 : uv = 3 := t3
          subst t3
          rcases hv.2 with ⟨b1, b2⟩ | ⟨b, b1, b2, b3, -⟩
          · exact hnull b1 b2
          · exact hsome b b1 b2 b3
        · have t3 : uv = 4 := t3
          subst t3
          exact hnull hv.2 rfl
      obtain ⟨w, hy, hw, hcl⟩ := key
      subst hy
      have sm : fx_sm (.inl (tc, n, .inr (.inr (.inr (.inr f))))) (.inl (tc, n, .inr (.inr (.inr (.inr (va_up f z.toNatClampNeg w)))))) := ⟨rfl, rfl⟩
      have hO := fx_of_setR (E := E) (i := z.toNatClampNeg) (x := fx_o ν (if v.1 = 4 then ((0, -1) : fx_O) else v.2.1)) (c' := .inl (tc, n, .inr (.inr (.inr (.inr (va_up f z.toNatClampNeg w)))))) hc (fun j => rfl) (fun j => by
        show (match (if j = z.toNatClampNeg then w else f j) with
          | some a => (a : Int) - E.1
          | none => -1) = if j = z.toNatClampNeg then fx_o ν (if v.1 = 4 then ((0, -1) : fx_O) else v.2.1) else (match f j with
          | some a => (a : Int) - E.1
          | none => -1)
        by_cases hj : j = z.toNatClampNeg
        · rw [if_pos hj, if_pos hj]; exact hw
        · rw [if_neg hj, if_neg hj])
      have hx := fx_ext_set hc sm
      have hA : fx_ar E (h.set q (.inl (tc, n, .inr (.inr (.inr (.inr (va_up f z.toNatClampNeg w))))))) h.length tc (.inr (.inr (.inr (.inr (va_up f z.toNatClampNeg w))))) := by
        have hel : ∀ (j b : Nat), va_up f z.toNatClampNeg w j = some b → w = some b ∨ f j = some b := by
          intro j b hb
          have hb : (if j = z.toNatClampNeg then w else f j) = some b := hb
          split at hb
          · exact .inl hb
          · exact .inr hb
        rcases g3 with rfl | rfl
        · obtain ⟨f', hf', hr'⟩ := ty
          cases hf'
          refine ⟨_, rfl, fun j b hb => ?_⟩
          rcases hel j b hb with hb | hb
          · exact ⟨(hcl b hb).1, (hcl b hb).2.1, fx_obj_ext hx (hcl b hb).2.2⟩
          · exact ⟨(hr' j b hb).1, (hr' j b hb).2.1, fx_obj_ext hx (hr' j b hb).2.2⟩
        · obtain ⟨f', hf', hr'⟩ := ty
          cases hf'
          refine ⟨_, rfl, fun j b hb => ?_⟩
          rcases hel j b hb with hb | hb
          · exact ⟨(hcl b hb).1, (hcl b hb).2.1, fx_obj_ext hx (hcl b hb).2.2⟩
          · exact ⟨(hr' j b hb).1, (hr' j b hb).2.1, fx_obj_ext hx (hr' j b hb).2.2⟩
      have U : fx_ok2 E σ ν h n0 (fx_ad (fx_bd i.2.1 ws σ1) (5, 0, [os, i.2.1, if v.1 = 4 then (0, -1) else v.2.1])) ν (h.set q (.inl (tc, n, .inr (.inr (.inr (.inr (va_up f z.toNatClampNeg w))))))) h.length := by
        intro s9 v9 r9
        have r9 : fx_vr E h h.length σ1.2.1 ν s9 v9 := up s9 v9 r9
        rw [← c3] at r9
        exact fx_P.set hc sm r9
      refine .inl ⟨_, List.mem_singleton.mpr rfl, ν, _, _, h.length, U, hr2, c1.write hc sm hA (fun ci gs gs' hcc => by cases hcc) (fun K hK => ?_), L.imp U, hr.imp U⟩
      · have hK : K ν ((fx_of E h).1, fx_up (fx_of E h).2.1 (fx_o ν os) (fx_o ν i.2.1) (fx_o ν (if v.1 = 4 then ((0, -1) : fx_O) else v.2.1)), (fx_of E h).2.2) := hK
        rw [hO, i2, a2, hz]
        exact hK
  case arraylength =>
    refine ⟨rfl, ?_⟩
    obtain ⟨e0, e1⟩ := cz_n_some e
    have e0 : len = 1 := e0
    subst e0
    obtain ⟨s, r, rfl, e2⟩ := fx_v1_some e1
    obtain ⟨cs, cr, rfl, hs, hr⟩ := S.cons
    cases hr2 : cz_s2 E (pc, .arraylength, 1, xa, xb) (cs :: cr) h with
    | none => exact .inr ⟨hr2, rfl⟩
    | some y =>
      have hr3 : cz_n 1 1 (cz_r1 (cs :: cr) fun a r => if a = E.2.1.1 ∧ a < E.1 then some (pc + 1, .int (Int32.ofNat E.2.1.2.1) :: r, h) else match cz_vs E a with
        | some k => some (pc + 1, .int (Int32.ofNat (cz_sl.getD k 0)) :: r, h)
        | none => cz_an (cz_at E h a) fun tc x => cz_if (decide (tc < 7)) (some (pc + 1, .int (Int32.ofNat x.1) :: r, h))) = some y := hr2
      obtain ⟨-, h1⟩ := cz_n_some hr3
      obtain ⟨a, rest, hst, h2⟩ := cz_r1_some h1
      cases hst
      obtain ⟨u, o, w⟩ := s
      have e9 : (if u = 7 then some [(pc + 1, lv, ((0, (σ.1 + 1, 0), 0) : fx_V) :: r, fx_pu σ (10, 0, []))] else if u = 6 then (if fx_k o then some [(pc + 1, lv, fx_ci ((cz_sl.getD o.2.toNat 0 : Nat) : Int) :: r, σ)] else some [(pc + 1, lv, ((0, (σ.1 + 1, 0), 0) : fx_V) :: r, fx_pu σ (8, 0, [o]))]) else cz_if (u == 2 && (!(w == 0) && decide (w / 8 < 2147483648))) (some [(pc + 1, lv, fx_ci ((w / 8 : Nat) : Int) :: r, σ)])) = some l := e2
      clear e2
      split at e9
      · next h7 =>
        cases e9
        subst h7
        have hs2 : Value.ref a = .ref E.2.1.1 := hs.2
        have hs2 := Value.ref.inj hs2
        subst hs2
        rw [if_pos ⟨rfl, hE.1⟩] at h2
        cases h2
        have hX : M.1.2 = (E.2.1.2.1 : Int) := by rw [hM]
        have hL : (Int32.ofNat E.2.1.2.1).toInt = (E.2.1.2.1 : Int) := by
          have := hE.2.1
          exact Int32.toInt_ofNat_of_lt (by omega)
        refine .inl ⟨_, List.mem_singleton.mpr rfl, ν ++ [(E.2.1.2.1 : Int)], _, h, n0, fx_psh_up rfl, hr2, fx_Q.psh J rfl (fun K hK => ?_) L hr ⟨?_, _, rfl, ?_⟩⟩
        · have hK : 0 ≤ M.1.2 → M.1.2 ≤ 3072 → K (ν ++ [M.1.2]) (fx_of E h) := hK
          rw [hX] at hK
          have := hE.2.1
          exact hK (by omega) (by omega)
        · show σ.1 + 1 ≤ _
          rw [List.length_append, J.1]
          exact Nat.le_refl _
        · show _ = fx_o _ (σ.1 + 1, 0)
          rw [fx_o_new J.1, hL]
      · next h7 =>
        split at e9
        · next h6 =>
          subst h6
          obtain ⟨k, hk, hv, ho⟩ := hs.2
          have ho : (k : Int) = fx_o ν o := ho
          have hv := Value.ref.inj hv
          subst hv
          have hvs : cz_vs E (E.2.2.2.1 k) = some k := cz_fd_of hk hE.2.2.2.1
          rw [if_neg (fun z => (hE.2.2.2.2.1 k hk).2.2 z.1), hvs] at h2
          cases h2
          have hlt : ∀ k, k < 14 → (Int32.ofNat (cz_sl.getD k 0)).toInt = ((cz_sl.getD k 0 : Nat) : Int) := by decide +kernel
          split at e9
          · next hko =>
            cases e9
            rw [fx_k_ok hko] at ho
            refine .inl ⟨_, List.mem_singleton.mpr rfl, ν, _, h, n0, fun _ _ r => r, hr2, J, L, fx_P_ci ?_, hr⟩
            rw [hlt k hk, ← ho, Int.toNat_natCast]
          · cases e9
            refine .inl ⟨_, List.mem_singleton.mpr rfl, ν ++ [((cz_sl.getD k 0 : Nat) : Int)], _, h, n0, fx_psh_up rfl, hr2, fx_Q.psh J rfl (fun K hK => ?_) L hr ⟨?_, _, rfl, ?_⟩⟩
            · have hK : K (ν ++ [((cz_sl.getD (fx_o ν o).toNat 0 : Nat) : Int)]) (fx_of E h) := hK
              rw [← ho, Int.toNat_natCast] at hK
              exact hK
            · show σ.1 + 1 ≤ _
              rw [List.length_append, J.1]
              exact Nat.le_refl _
            · show _ = fx_o _ (σ.1 + 1, 0)
              rw [fx_o_new J.1]
              exact hlt k hk
        · next h6 =>
          obtain ⟨g1, g2⟩ := cz_if_some e9
          cases g2
          obtain ⟨g3, g4⟩ := Bool.and_eq_true_iff.mp g1
          have g3 : u = 2 := by simpa using g3
          subst g3
          obtain ⟨g4, g8⟩ := Bool.and_eq_true_iff.mp g4
          have g4 : ¬ w = 0 := by simpa using g4
          have g8 := of_decide_eq_true g8
          obtain ⟨q, a1, a2, a3, a4, a5⟩ := hs.2
          have a1 := Value.ref.inj a1
          subst a1
          rw [if_neg (ck_own hE q).1, (ck_own hE q).2] at h2
          have h2 : (cz_an (cz_at E h (E.1 + q)) fun tc x => cz_if (decide (tc < 7)) (some (pc + 1, .int (Int32.ofNat x.1) :: cr, h))) = some y := h2
          obtain ⟨tc, ⟨n, y'⟩, hc, h3⟩ := cz_an_some h2
          obtain ⟨g5, g6⟩ := cz_if_some h3
          cases g6
          rw [cz_at_add] at hc
          rcases a5 with a5 | ⟨tc', n', y2, a5, a6, a7⟩
          · exact absurd a5 g4
          · cases hc.symm.trans a7
            have hw : w / 8 = n := by
              have a5 : w = 8 * n + tc + 1 := a5
              omega
            have hL : (Int32.ofNat n).toInt = (n : Int) := Int32.toInt_ofNat_of_lt (by omega)
            refine .inl ⟨_, List.mem_singleton.mpr rfl, ν, _, h, n0, fun _ _ r => r, hr2, J, L, fx_P_ci ?_, hr⟩
            rw [hw]
            exact hL
  case new m =>
    refine ⟨rfl, ?_⟩
    obtain ⟨e0, e1⟩ := cz_n_some e
    have e0 : len = 3 := e0
    subst e0
    cases hr2 : cz_s2 E (pc, .new m, 3, xa, xb) cst h with
    | none => exact .inr ⟨hr2, rfl⟩
    | some y =>
      have hr3 : cz_n 3 3 (cz_if (xb == 0 && decide (xa < 13)) (some (pc + 3, .ref (E.1 + h.length) :: cst, h ++ [.inr (xa, cz_df xa)]))) = some y := hr2
      obtain ⟨-, h1⟩ := cz_n_some hr3
      obtain ⟨g1, g2⟩ := cz_if_some h1
      cases g2
      have e1 : (if (xb == 0 && decide (xa < 13)) = true then some [(pc + 3, lv, ((2, ((fx_op σ).2.1.1.1, (fx_op σ).2.1.1.2 + (fx_op σ).2.1.2.length), 0) : fx_V) :: st, fx_nw (0, xa, List.replicate (fx_nf xa) none) (fx_op σ))] else some []) = some l := e1
      rw [if_pos g1] at e1
      cases e1
      have g3 := of_decide_eq_true (Bool.and_eq_true_iff.mp g1).2
      obtain ⟨δ, J1, hb, up1⟩ := fx_op_ok J
      obtain ⟨J2, up2, k1, k2, k3⟩ := fx_nw_ok (c := (0, xa, List.replicate (fx_nf xa) none)) (x := .inr (xa, cz_df xa)) J1 hb (fun j => by
        show (match (cz_df xa)[j]? with
          | some (.int x) => x.toInt
          | _ => 0) = 0
        cases hj : (cz_df xa)[j]? with
        | none => rfl
        | some v =>
          by_cases hd : fx_dl xa j = none
          · rw [(fx_df g3 hj).1 hd]; rfl
          · rw [(fx_df g3 hj).2 hd]) (fun j => rfl) ⟨g3, rfl, fun k v hv => by
        unfold fx_fd
        split
        · next hd => exact ⟨0, (fx_df g3 hv).1 hd⟩
        · next hd =>
          rw [(fx_df g3 hv).2 (by rw [hd]; exact fun z => by cases z)]
          refine ⟨rfl, fun hp => ?_⟩
          have := J.2.2.1.1
          omega⟩ ⟨_, rfl, by rw [List.length_replicate]; rfl, fun k s => by
        intro hk
        obtain ⟨hk1, hk2⟩ := List.getElem?_eq_some_iff.mp hk
        rw [List.getElem_replicate] at hk2
        cases hk2⟩
      refine .inl ⟨_, List.mem_singleton.mpr rfl, ν ++ δ, _, _, n0, fun s v r => up2 s v (up1 s v r), hr2, J2, L.imp (fun s v r => up2 s v (up1 s v r)), ⟨k3, h.length, rfl, k2.symm, ?_, .inr k1, .inl rfl⟩, S.imp (fun s v r => up2 s v (up1 s v r))⟩
      rw [List.length_append]
      exact Nat.lt_succ_self _
  case newarray ty =>
    refine ⟨rfl, ?_⟩
    obtain ⟨e0, e1⟩ := cz_n_some e
    have e0 : len = 2 := e0
    subst e0
    obtain ⟨s, r, rfl, t0, e2⟩ := fx_i1_some e1
    obtain ⟨g1, e3⟩ := cz_if_some e2
    obtain ⟨g2, g3⟩ := Bool.and_eq_true_iff.mp g1
    have g3 := of_decide_eq_true g3
    obtain ⟨tc, htc, e4⟩ := cz_so_some e3
    cases e4
    obtain ⟨cs, cr, rfl, hs, hr⟩ := S.cons
    obtain ⟨z, rfl, hz⟩ := fx_P_i hs t0
    rw [fx_k_ok g2] at hz
    have hzn : z.toNatClampNeg = s.2.1.2.toNat := by
      show z.toInt.toNat = _
      rw [hz]
    cases hr2 : cz_s2 E (pc, .newarray ty, 2, xa, xb) (.int z :: cr) h with
    | none => exact .inr ⟨hr2, rfl⟩
    | some y =>
      have hr3 : cz_n 2 2 (cz_i1 (.int z :: cr) fun n r => cz_if (cz_ck true n) (cz_so (cz_na ty n.toNatClampNeg) fun c => some (pc + 2, .ref (E.1 + h.length) :: r, h ++ [c]))) = some y := hr2
      obtain ⟨-, h1⟩ := cz_n_some hr3
      obtain ⟨x, rest, hst, h2⟩ := cz_i1_some h1
      cases hst
      obtain ⟨-, h3⟩ := cz_if_some h2
      obtain ⟨c, hc, h4⟩ := cz_so_some h3
      cases h4
      rw [hzn] at hc
      have hcc : ∃ y, c = .inl (tc, s.2.1.2.toNat, y) ∧ (∀ j, fx_cI (some c) j = 0) ∧ (∀ j, fx_cR E.1 (some c) j = -1) ∧ tc < 7 ∧ ∀ hh nn, fx_ar E hh nn tc y := by
        cases ty <;> cases htc <;> cases hc
        · exact ⟨_, rfl, fun j => rfl, fun j => rfl, by decide, fun hh nn => ⟨_, rfl, fun i => by decide⟩⟩
        · exact ⟨_, rfl, fun j => rfl, fun j => rfl, by decide, fun hh nn => ⟨_, rfl, fun i => by decide⟩⟩
        · exact ⟨_, rfl, fun j => rfl, fun j => rfl, by decide, fun hh nn => ⟨_, rfl, fun i => by decide⟩⟩
        · exact ⟨_, rfl, fun j => rfl, fun j => rfl, by decide, fun hh nn => ⟨_, rfl⟩⟩
        · exact ⟨_, rfl, fun j => rfl, fun j => rfl, by decide, fun hh nn => ⟨_, rfl⟩⟩
      obtain ⟨y', rfl, c1, c2, c3, c4⟩ := hcc
      obtain ⟨δ, J1, hb, up1⟩ := fx_op_ok J
      obtain ⟨J2, up2, k1, k2, k3⟩ := fx_nw_ok (c := (tc + 1, s.2.1.2.toNat, [])) (x := .inl (tc, s.2.1.2.toNat, y')) J1 hb c1 c2 (c4 _ _) ⟨y', rfl⟩
      refine .inl ⟨_, List.mem_singleton.mpr rfl, ν ++ δ, _, _, n0, fun s v r => up2 s v (up1 s v r), hr2, J2, L.imp (fun s v r => up2 s v (up1 s v r)), ⟨k3, h.length, rfl, k2.symm, ?_, .inr k1, .inr ⟨tc, s.2.1.2.toNat, y', rfl, c3, List.getElem?_concat_length⟩⟩, hr.imp (fun s v r => up2 s v (up1 s v r))⟩
      rw [List.length_append]
      exact Nat.lt_succ_self _
  case anewarray m =>
    refine ⟨rfl, ?_⟩
    obtain ⟨e0, e1⟩ := cz_n_some e
    have e0 : len = 3 := e0
    subst e0
    obtain ⟨s, r, rfl, t0, e2⟩ := fx_i1_some e1
    obtain ⟨g1, e3⟩ := cz_if_some e2
    obtain ⟨g4, g5⟩ := Bool.and_eq_true_iff.mp g1
    obtain ⟨g2, g3⟩ := Bool.and_eq_true_iff.mp g4
    have g3 := of_decide_eq_true g3
    have g5 : xa = 5 ∨ xa = 6 := by simpa using g5
    cases e3
    obtain ⟨cs, cr, rfl, hs, hr⟩ := S.cons
    obtain ⟨z, rfl, hz⟩ := fx_P_i hs t0
    rw [fx_k_ok g2] at hz
    have hzn : z.toNatClampNeg = s.2.1.2.toNat := by
      show z.toInt.toNat = _
      rw [hz]
    cases hr2 : cz_s2 E (pc, .anewarray m, 3, xa, xb) (.int z :: cr) h with
    | none => exact .inr ⟨hr2, rfl⟩
    | some y =>
      have hr3 : cz_n 3 3 (cz_i1 (.int z :: cr) fun n r => cz_if (cz_ck (xa == 5 || xa == 6) n) (some (pc + 3, .ref (E.1 + h.length) :: r, h ++ [.inl (xa, n.toNatClampNeg, .inr (.inr (.inr (.inr fun _ => none))))]))) = some y := hr2
      obtain ⟨-, h1⟩ := cz_n_some hr3
      obtain ⟨x, rest, hst, h2⟩ := cz_i1_some h1
      cases hst
      obtain ⟨-, h3⟩ := cz_if_some h2
      cases h3
      rw [hzn] at hr2
      have c4 : ∀ hh nn, fx_ar E hh nn xa (.inr (.inr (.inr (.inr fun _ => none)))) := by
        intro hh nn
        rcases g5 with rfl | rfl
        · exact ⟨_, rfl, fun i a ha => by cases ha⟩
        · exact ⟨_, rfl, fun i a ha => by cases ha⟩
      obtain ⟨δ, J1, hb, up1⟩ := fx_op_ok J
      obtain ⟨J2, up2, k1, k2, k3⟩ := fx_nw_ok (c := (xa + 1, s.2.1.2.toNat, [])) (x := .inl (xa, s.2.1.2.toNat, .inr (.inr (.inr (.inr fun _ => none))))) J1 hb (fun j => rfl) (fun j => rfl) (c4 _ _) ⟨_, rfl⟩
      refine .inl ⟨_, List.mem_singleton.mpr rfl, ν ++ δ, _, _, n0, fun s v r => up2 s v (up1 s v r), hr2, J2, L.imp (fun s v r => up2 s v (up1 s v r)), ⟨k3, h.length, rfl, k2.symm, ?_, .inr k1, .inr ⟨xa, s.2.1.2.toNat, _, rfl, by omega, List.getElem?_concat_length⟩⟩, hr.imp (fun s v r => up2 s v (up1 s v r))⟩
      rw [List.length_append]
      exact Nat.lt_succ_self _
  case invokespecial m =>
    refine ⟨rfl, ?_⟩
    obtain ⟨e0, e1⟩ := cz_n_some e
    have e0 : len = 3 := e0
    subst e0
    obtain ⟨g1, e2⟩ := cz_if_some e1
    have g1 : xb = -4 := by simpa using g1
    subst g1
    obtain ⟨s, r, rfl, e3⟩ := fx_v1_some e2
    cases e3
    obtain ⟨cs, cr, rfl, hs, hr⟩ := S.cons
    cases hr2 : cz_s2 E (pc, .invokespecial m, 3, xa, -4) (cs :: cr) h with
    | none =>
      refine .inr ⟨hr2, ?_⟩
      show cz_n 3 3 (cz_if (decide ((0 : Int) < -4)) _) = none
      rfl
    | some y =>
      have hr3 : cz_n 3 3 (cz_if ((-4 : Int) == -4) (cz_r1 (cs :: cr) fun _ r => cz_if (decide (cz_sum r ≤ 8)) (some (pc + 3, r, h)))) = some y := hr2
      obtain ⟨-, h1⟩ := cz_n_some hr3
      obtain ⟨-, h1⟩ := cz_if_some h1
      obtain ⟨a, rest, hst, h2⟩ := cz_r1_some h1
      cases hst
      obtain ⟨-, h3⟩ := cz_if_some h2
      cases h3
      exact .inl ⟨_, List.mem_singleton.mpr rfl, ν, _, h, n0, fun _ _ r => r, hr2, J, L, hr⟩
  case getstatic m =>
    refine ⟨rfl, ?_⟩
    obtain ⟨e0, e1⟩ := cz_n_some e
    have e0 : len = 3 := e0
    subst e0
    have e1 : (if xa = 0 then some [(pc + 3, lv, fx_ci 1 :: st, σ)] else cz_if (xa == 1) (some [(pc + 3, lv, ((8, (0, 0), 0) : fx_V) :: st, σ)])) = some l := e1
    split at e1
    · next hx =>
      subst hx
      cases e1
      exact .inl ⟨_, List.mem_singleton.mpr rfl, ν, _, h, n0, fun _ _ r => r, rfl, J, L, fx_P_ci (x := 1) (by decide), S⟩
    · next hx =>
      obtain ⟨g1, g2⟩ := cz_if_some e1
      have g1 : xa = 1 := by simpa using g1
      subst g1
      cases g2
      exact .inl ⟨_, List.mem_singleton.mpr rfl, ν, E.2.2.2.2 :: cst, h, n0, fun _ _ r => r, rfl, J, L, ⟨Nat.zero_le _, rfl⟩, S⟩
  case invokestatic m =>
    refine ⟨rfl, ?_⟩
    obtain ⟨e0, e1⟩ := cz_n_some e
    have e0 : len = 3 := e0
    subst e0
    obtain ⟨g1, e2⟩ := cz_if_some e1
    have g1 : xb = -5 := by simpa using g1
    subst g1
    have e9 : (match (generalizing := false) st with
      | n :: dp :: a :: sp :: a0 :: r => if n.1 = 0 ∧ dp.1 = 0 ∧ a.1 = 2 ∧ sp.1 = 0 ∧ a0.1 = 2 then some [(pc + 3, lv, r, fx_ad (fx_bd n.2.1 0 (fx_bd dp.2.1 0 (fx_bd sp.2.1 0 σ))) (14, 0, [a0.2.1, sp.2.1, a.2.1, dp.2.1, n.2.1]))] else none
      | _ => none) = some l := e2
    clear e2
    split at e9
    · next n dp a sp a0 r =>
      split at e9
      · next ht =>
        obtain ⟨t1, t2, t3, t4, t5⟩ := ht
        cases e9
        obtain ⟨cn, cr, rfl, hn, hq1⟩ := S.cons
        obtain ⟨cdp, cr, rfl, hdp, hq2⟩ := hq1.cons
        obtain ⟨ca, cr, rfl, ha, hq3⟩ := hq2.cons
        obtain ⟨csp, cr, rfl, hsp, hq4⟩ := hq3.cons
        obtain ⟨ca0, cr, rfl, ha0, hr⟩ := hq4.cons
        obtain ⟨zn, rfl, en⟩ := fx_P_i hn t1
        obtain ⟨zd, rfl, ed⟩ := fx_P_i hdp t2
        obtain ⟨zs, rfl, es⟩ := fx_P_i hsp t4
        obtain ⟨ua, oa, wa⟩ := a
        obtain ⟨ub, ob, wb⟩ := a0
        have t3 : ua = 2 := t3
        have t5 : ub = 2 := t5
        subst t3; subst t5
        obtain ⟨p, rfl, ep, -⟩ := ha.2
        obtain ⟨q, rfl, eq, -⟩ := ha0.2
        have ep : (p : Int) = fx_o ν oa := ep
        have eq : (q : Int) = fx_o ν ob := eq
        cases hr2 : cz_s2 E (pc, .invokestatic m, 3, xa, -5) (.int zn :: .int zd :: .ref (E.1 + p) :: .int zs :: .ref (E.1 + q) :: cr) h with
        | none =>
          refine .inr ⟨hr2, ?_⟩
          show cz_n 3 3 (cz_if (decide ((0 : Int) ≤ -5)) _) = none
          rfl
        | some y =>
          have hr3 : cz_n 3 3 (cz_if ((-5 : Int) == -5) (cz_ac (.int zn :: .int zd :: .ref (E.1 + p) :: .int zs :: .ref (E.1 + q) :: cr) fun n dp a sp a0 r => cz_if (decide (¬ sp < 0) && decide (¬ dp < 0) && decide (¬ n < 0) && decide (cz_sum r ≤ 8)) (match cz_at E h a0 with
            | some (.inl (t0, n0, .inl f)) => cz_ai (cz_at E h a) fun t1 n1 g => cz_if (t0 == t1 && (t0 == 0 || t0 == 1 || t0 == 3 || t0 == 4) && decide (sp.toNatClampNeg + n.toNatClampNeg ≤ n0) && decide (dp.toNatClampNeg + n.toNatClampNeg ≤ n1) && (List.range n.toNatClampNeg).all (fun i => fits (cz_ty t0) (.int (f (sp.toNatClampNeg + i))))) (some (pc + 3, r, h.set (a - E.1) (.inl (t1, n1, .inl (va_cpy f g sp.toNatClampNeg dp.toNatClampNeg n.toNatClampNeg)))))
            | some (.inl (t0, n0, .inr (.inl f))) => cz_al (cz_at E h a) fun t1 n1 g => cz_if (t0 == 2 && t1 == 2 && decide (sp.toNatClampNeg + n.toNatClampNeg ≤ n0) && decide (dp.toNatClampNeg + n.toNatClampNeg ≤ n1)) (some (pc + 3, r, h.set (a - E.1) (.inl (t1, n1, .inr (.inl (va_cpy f g sp.toNatClampNeg dp.toNatClampNeg n.toNatClampNeg))))))
            | _ => none))) = some y := hr2
          obtain ⟨-, h1⟩ := cz_n_some hr3
          obtain ⟨-, h1⟩ := cz_if_some h1
          obtain ⟨n', dp', a', sp', a0', rest, hst, h2⟩ := cz_ac_some h1
          cases hst
          obtain ⟨g1, h3⟩ := cz_if_some h2
          obtain ⟨g2, -⟩ := Bool.and_eq_true_iff.mp g1
          obtain ⟨g3, g4⟩ := Bool.and_eq_true_iff.mp g2
          obtain ⟨g5, g6⟩ := Bool.and_eq_true_iff.mp g3
          have nn : ∀ z : Int32, ¬ z < 0 → 0 ≤ z.toInt ∧ ((z.toNatClampNeg : Nat) : Int) = z.toInt := by
            intro z hz
            have : ¬ z.toInt < 0 := fun w => hz (Int32.lt_iff_toInt_lt.mpr w)
            refine ⟨by omega, ?_⟩
            show ((z.toInt.toNat : Nat) : Int) = z.toInt
            omega
          obtain ⟨s0, s1⟩ := nn zs (of_decide_eq_true g5)
          obtain ⟨d0, d1⟩ := nn zd (of_decide_eq_true g6)
          obtain ⟨m0, m1⟩ := nn zn (of_decide_eq_true g4)
          rw [cz_at_add, cz_at_add, Nat.add_sub_cancel_left] at h3
          obtain ⟨J1, b1, b2⟩ := fx_bd0 (o := sp.2.1) J (by rw [← es]; exact s0)
          obtain ⟨J2, b3, b4⟩ := fx_bd0 (o := dp.2.1) J1 (by rw [← ed]; exact d0)
          obtain ⟨J3, b5, b6⟩ := fx_bd0 (o := n.2.1) J2 (by rw [← en]; exact m0)
          have hτ : (fx_bd n.2.1 0 (fx_bd dp.2.1 0 (fx_bd sp.2.1 0 σ))).2.1 = σ.2.1 := b6.trans (b4.trans b2)
          -- the row that is written
          have key : ∃ (tc n1 : Nat) (y1 y2 : (Nat → Int32) ⊕ (Nat → Int64) ⊕ (Nat → UInt32) ⊕ (Nat → UInt64) ⊕ (Nat → Option Nat)) (c0 : cz_C), h[p]? = some (.inl (tc, n1, y1)) ∧ h[q]? = some c0 ∧ y = (pc + 3, cr, h.set p (.inl (tc, n1, y2))) ∧ (∀ j, fx_cI (some (.inl (tc, n1, y2))) j = if zd.toNatClampNeg ≤ j ∧ j < zd.toNatClampNeg + zn.toNatClampNeg then fx_cI (some c0) (zs.toNatClampNeg + (j - zd.toNatClampNeg)) else fx_cI (some (.inl (tc, n1, y1))) j) ∧ (∀ j, fx_cR E.1 (some (.inl (tc, n1, y2))) j = fx_cR E.1 (some (.inl (tc, n1, y1))) j) ∧ ∀ hh, fx_ar E hh n0 tc y2 := by
            split at h3
            · next t0 n9 f hq =>
              obtain ⟨t1, n1, g, hp, h4⟩ := cz_ai_some h3
              obtain ⟨k1, k2⟩ := cz_if_some h4
              cases k2
              obtain ⟨k3, -⟩ := Bool.and_eq_true_iff.mp k1
              obtain ⟨k4, -⟩ := Bool.and_eq_true_iff.mp k3
              obtain ⟨k5, -⟩ := Bool.and_eq_true_iff.mp k4
              obtain ⟨k6, k7⟩ := Bool.and_eq_true_iff.mp k5
              have k6 : t0 = t1 := by simpa using k6
              subst k6
              refine ⟨t0, n1, .inl g, .inl (va_cpy f g zs.toNatClampNeg zd.toNatClampNeg zn.toNatClampNeg), _, hp, hq, rfl, fun j => ?_, fun j => rfl, fun hh => ?_⟩
              · show (if zd.toNatClampNeg ≤ j ∧ j < zd.toNatClampNeg + zn.toNatClampNeg then f (zs.toNatClampNeg + (j - zd.toNatClampNeg)) else g j).toInt = _
                split <;> rfl
              · have ty1 : fx_ar E h n0 t0 (.inl f) := J.2.2.1.2 _ _ hq
                have ty2 : fx_ar E h n0 t0 (.inl g) := J.2.2.1.2 _ _ hp
                have cp : ∀ (P : Int32 → Prop), (∀ i, P (f i)) → (∀ i, P (g i)) → ∀ i, P (va_cpy f g zs.toNatClampNeg zd.toNatClampNeg zn.toNatClampNeg i) := by
                  intro P hf hg i
                  show P (if zd.toNatClampNeg ≤ i ∧ i < zd.toNatClampNeg + zn.toNatClampNeg then f (zs.toNatClampNeg + (i - zd.toNatClampNeg)) else g i)
                  split
                  · exact hf _
                  · exact hg _
                have k7 : ((t0 = 0 ∨ t0 = 1) ∨ t0 = 3) ∨ t0 = 4 := by simpa using k7
                rcases k7 with ((rfl | rfl) | rfl) | rfl
                · exact ⟨_, rfl⟩
                · obtain ⟨f', e1', r1⟩ := ty1
                  obtain ⟨g', e2', r2⟩ := ty2
                  cases e1'; cases e2'
                  exact ⟨_, rfl, cp (fun x => -128 ≤ x.toInt ∧ x.toInt ≤ 127) r1 r2⟩
                · obtain ⟨f', e1', r1⟩ := ty1
                  obtain ⟨g', e2', r2⟩ := ty2
                  cases e1'; cases e2'
                  exact ⟨_, rfl, cp (fun x => 0 ≤ x.toInt ∧ x.toInt ≤ 65535) r1 r2⟩
                · obtain ⟨f', e1', r1⟩ := ty1
                  obtain ⟨g', e2', r2⟩ := ty2
                  cases e1'; cases e2'
                  exact ⟨_, rfl, cp (fun x => 0 ≤ x.toInt ∧ x.toInt ≤ 1) r1 r2⟩
            · next t0 n9 f hq =>
              obtain ⟨t1, n1, g, hp, h4⟩ := cz_al_some h3
              obtain ⟨k1, k2⟩ := cz_if_some h4
              cases k2
              obtain ⟨k3, -⟩ := Bool.and_eq_true_iff.mp k1
              obtain ⟨k4, -⟩ := Bool.and_eq_true_iff.mp k3
              obtain ⟨k5, k6⟩ := Bool.and_eq_true_iff.mp k4
              have k6 : t1 = 2 := by simpa using k6
              subst k6
              refine ⟨2, n1, .inr (.inl g), .inr (.inl (va_cpy f g zs.toNatClampNeg zd.toNatClampNeg zn.toNatClampNeg)), _, hp, hq, rfl, fun j => ?_, fun j => rfl, fun hh => ⟨_, rfl⟩⟩
              show (if zd.toNatClampNeg ≤ j ∧ j < zd.toNatClampNeg + zn.toNatClampNeg then f (zs.toNatClampNeg + (j - zd.toNatClampNeg)) else g j).toInt = _
              split <;> rfl
            · cases h3
          obtain ⟨tc, n1, y1, y2, c0, hp, hq, hy, hI, hR, hA⟩ := key
          subst hy
          have sm : fx_sm (.inl (tc, n1, y1)) (.inl (tc, n1, y2)) := ⟨rfl, rfl⟩
          have hpl := (List.getElem?_eq_some_iff.mp hp).1
          have hO : fx_of E (h.set p (.inl (tc, n1, y2))) = (fx_cy (fx_of E h).1 (q : Int) zs.toInt (p : Int) zd.toInt zn.toInt, (fx_of E h).2) := by
            refine Prod.ext ?_ (Prod.ext ?_ ?_)
            · funext u j
              show (if 0 ≤ u ∧ 0 ≤ j then fx_cI (h.set p (.inl (tc, n1, y2)))[u.toNat]? j.toNat else 0) = if u = (p : Int) ∧ zd.toInt ≤ j ∧ j < zd.toInt + zn.toInt then (fx_of E h).1 (q : Int) (zs.toInt + (j - zd.toInt)) else (if 0 ≤ u ∧ 0 ≤ j then fx_cI h[u.toNat]? j.toNat else 0)
              by_cases h0 : 0 ≤ u ∧ 0 ≤ j
              · rw [if_pos h0, if_pos h0]
                by_cases hpu : p = u.toNat
                · rw [← hpu, List.getElem?_set_self hpl, hI, hp]
                  by_cases hjj : zd.toNatClampNeg ≤ j.toNat ∧ j.toNat < zd.toNatClampNeg + zn.toNatClampNeg
                  · rw [if_pos hjj, if_pos ⟨by omega, by omega, by omega⟩]
                    have : zs.toInt + (j - zd.toInt) = ((zs.toNatClampNeg + (j.toNat - zd.toNatClampNeg) : Nat) : Int) := by omega
                    rw [this, fx_ofF hq]
                  · rw [if_neg hjj, if_neg (by omega)]
                · rw [List.getElem?_set_ne hpu, if_neg (by omega)]
              · rw [if_neg h0, if_neg h0, if_neg (by omega)]
            · funext u j
              show (if 0 ≤ u ∧ 0 ≤ j then fx_cR E.1 (h.set p (.inl (tc, n1, y2)))[u.toNat]? j.toNat else -1) = (if 0 ≤ u ∧ 0 ≤ j then fx_cR E.1 h[u.toNat]? j.toNat else -1)
              by_cases hpu : p = u.toNat
              · rw [← hpu, List.getElem?_set_self hpl, hp, hR]
              · rw [List.getElem?_set_ne hpu]
            · show ((h.set p _).length : Int) = (h.length : Int)
              rw [List.length_set]
          have U : fx_ok2 E σ ν h n0 (fx_ad (fx_bd n.2.1 0 (fx_bd dp.2.1 0 (fx_bd sp.2.1 0 σ))) (14, 0, [ob, sp.2.1, oa, dp.2.1, n.2.1])) ν (h.set p (.inl (tc, n1, y2))) n0 := by
            intro s9 v9 r9
            have r9 : fx_vr E h n0 σ.2.1 ν s9 v9 := r9
            rw [← hτ] at r9
            exact fx_P.set hp sm r9
          refine .inl ⟨_, List.mem_singleton.mpr rfl, ν, _, _, n0, U, hr2, J3.write hp sm (hA _) (fun ci gs gs' hc => by cases hc) (fun K hK => ?_), L.imp U, hr.imp U⟩
          · have hK : K ν (fx_cy (fx_of E h).1 (fx_o ν ob) (fx_o ν sp.2.1) (fx_o ν oa) (fx_o ν dp.2.1) (fx_o ν n.2.1), (fx_of E h).2) := hK
            rw [hO, eq, ep, es, ed, en]
            exact hK
      · cases e9
    · cases e9
  all_goals cases e
end FXD
