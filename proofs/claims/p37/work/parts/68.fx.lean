/-! FX: a run is told rightly: the runs themselves, all entries -/
section FXF
variable {E : cz_E} {M : fx_M} {ν0 : List Int} {S0 : fx_S} {h0 : cz_H} {T : List fx_T1} {N : Nat}
/-- what a walk from here says -/
def fx_SD (E : cz_E) (M : fx_M) (ν0 : List Int) (S0 : fx_S) (h0 : cz_H) (N mi : Nat) (go : Nat → fx_L → List fx_V → fx_Y → Option (List fx_En)) : Prop := ∀ (pc : Nat) (lv : fx_L) (st : List fx_V) (σ : fx_Y) (es : List fx_En), go pc lv st σ = some es → ∀ (ν : List Int) (clv : cz_LV) (cst : List Value) (h : cz_H) (n0 : Nat), fx_J E M ν0 S0 h0 σ ν h n0 → fx_LR (fx_P E h n0 σ ν) lv clv → fx_SR (fx_P E h n0 σ ν) st cst → ∀ (f d : Nat) (v : Option Value) (h' : cz_H), f ≤ N → cz_go E f d mi pc clv cst h = some (v, h') → ∃ en ∈ es, fx_OUT E M ν0 S0 h0 σ ν h n0 en v h'
theorem fx_nx_ok {top : Bool} {mi : Nat} {go : Nat → fx_L → List fx_V → fx_Y → Option (List fx_En)} {r : fx_R} {es : List fx_En} (hT : ∀ (k : Nat) (t : fx_T1), T[k]? = some t → M.2.2 k = t.2.2.2) (PS : fx_PS E M T N) (G : fx_SD E M ν0 S0 h0 N mi go) (e : fx_nx T top mi go r = some es) {ν : List Int} {clv : cz_LV} {cst : List Value} {h : cz_H} {n0 : Nat} (Q : fx_Q E M ν0 S0 h0 r ν clv cst h n0) {f d : Nat} {v : Option Value} {h' : cz_H} (hf : f < N) (g : cz_go E f d mi r.1 clv cst h = some (v, h')) : ∃ en ∈ es, fx_OUT E M ν0 S0 h0 r.2.2.2 ν h n0 en v h' := by
  obtain ⟨pc, lv, st, σ⟩ := r
  obtain ⟨J, L, S⟩ := Q
  have base : go pc lv st σ = some es → ∃ en ∈ es, fx_OUT E M ν0 S0 h0 σ ν h n0 en v h' := fun e => G pc lv st σ es e ν clv cst h n0 J L S f d v h' (Nat.le_of_lt hf) g
  unfold fx_nx at e
  split at e
  · next hc =>
    obtain ⟨c1, c2⟩ := Bool.and_eq_true_iff.mp hc
    have c2 : st = [] := List.isEmpty_iff.mp c2
    subst c2
    have hcs : cst = [] := S.nil
    subst hcs
    cases hfe : fx_fe T mi pc lv 0 with
    | none =>
      rw [show fx_fe T mi (pc, lv, ([] : List fx_V), σ).1 (pc, lv, ([] : List fx_V), σ).2.1 0 = none from hfe] at e
      exact base e
    | some x =>
      obtain ⟨k, ops, rt⟩ := x
      rw [show fx_fe T mi (pc, lv, ([] : List fx_V), σ).1 (pc, lv, ([] : List fx_V), σ).2.1 0 = some (k, ops, rt) from hfe] at e
      cases hcl : fx_cl0 σ with
      | none =>
        rw [show fx_cl0 (pc, lv, ([] : List fx_V), σ).2.2.2 = none from hcl] at e
        cases e
      | some σ1 =>
        rw [show fx_cl0 (pc, lv, ([] : List fx_V), σ).2.2.2 = some σ1 from hcl] at e
        cases e
        obtain ⟨j, t, e1, e2, e3, e4, e5, e6⟩ := fx_fe_ok 0 hfe
        have e1 : k = j := by omega
        subst e1
        obtain ⟨J1, f1, f2, up⟩ := fx_cl0_ok J hcl
        have L1 : fx_LR (fx_vr E h h.length σ1.2.1 ν) lv clv := L.imp up
        obtain ⟨m1, m2⟩ := fx_mt_ok f1 L1 [] e5
        have m3 := m2 []
        rw [List.append_nil, List.nil_append] at m3
        subst e3; subst e4
        obtain ⟨w1, w2, z, w3, w4⟩ := PS k t e2 f d clv h v h' (ops.map (fx_o ν)) hf J1.2.2.1 (by rw [List.length_map]; have : (fx_lv0 t.2.2.1 0).2 = 0 + ops.length := m1; omega) m3 g
        exact ⟨_, List.mem_singleton.mpr rfl, ν, h, z, J1, w1, w2, by rw [hT k t e2]; exact w3, w4⟩
  · exact base e
theorem fx_run_ok (hE : cz_Eok E) (hM : M.1 = (fun z => (E.2.1.2.2 z.toNat).toInt, (E.2.1.2.1 : Int))) (hT : ∀ (k : Nat) (t : fx_T1), T[k]? = some t → M.2.2 k = t.2.2.2) (PS : fx_PS E M T N) : ∀ (F : Nat) (top : Bool) (mi : Nat), fx_SD E M ν0 S0 h0 N mi (fun a b c d => fx_run T F top mi a b c d) := by
  intro F
  induction F with
  | zero => intro top mi pc lv st σ es e; cases e
  | succ F ih =>
    intro top mi pc lv st σ es e ν clv cst h n0 J L S f d v h' hf g
    have hF : cz_isA E.2.2.2.2 = true := hE.2.2.2.2.2
    cases f with
    | zero => cases g
    | succ f =>
      have e : fx_run T (F + 1) top mi pc lv st σ = some es := e
      unfold fx_run at e
      cases hq : ck_ft mi pc with
      | none => rw [hq] at e; cases e
      | some q =>
        rw [hq] at e
        simp only at e
        unfold cz_go at g
        rw [ck_ft_ok hq] at g
        simp only at g
        have G := ih top mi
        have stuck : cz_s1 E (cz_mf mi).2.2.2.2.1 q clv cst = none → cz_s2 E q cst h = none → cz_s3 E q cst h = none → ∃ en ∈ es, fx_OUT E M ν0 S0 h0 σ ν h n0 en v h' := by
          intro a b c
          rw [a] at g
          simp only at g
          rw [b] at g
          simp only at g
          rw [c] at g
          cases g
        have one : ∀ {l : List fx_R}, fx_all l (fun r => fx_nx T top mi (fun a b c d => fx_run T F top mi a b c d) r) = some es → fx_ys E M ν0 S0 h0 (cz_mf mi).2.2.2.2.1 q l clv cst h n0 σ ν → ∃ en ∈ es, fx_OUT E M ν0 S0 h0 σ ν h n0 en v h' := by
          intro l hl Y
          obtain ⟨r, hr, ν', U, clv', cst', h1, Q⟩ := Y
          obtain ⟨es', h2, h3⟩ := fx_all_ok hl r hr
          rw [h1] at g
          simp only at g
          obtain ⟨en, m, o⟩ := fx_nx_ok hT PS G h2 Q (by omega) g
          exact ⟨en, h3 en m, o.pre U⟩
        cases hx1 : fx_x1 q lv st σ with
        | some l =>
          rw [hx1] at e
          simp only at e
          rcases fx_x1_ok (nL := (cz_mf mi).2.2.2.2.1) hE hx1 J L S with Y | Y
          · exact one e Y
          · exact stuck Y.1 Y.2.1 Y.2.2
        | none =>
          rw [hx1] at e
          simp only at e
          cases hxb : fx_xb q lv st σ with
          | some l =>
            rw [hxb] at e
            simp only at e
            rcases fx_xb_ok (nL := (cz_mf mi).2.2.2.2.1) hxb J L S with Y | Y
            · exact one e Y
            · exact stuck Y.1 Y.2.1 Y.2.2
          | none =>
            rw [hxb] at e
            simp only at e
            cases hx2 : fx_x2 q lv st σ with
            | some l =>
              rw [hx2] at e
              simp only at e
              obtain ⟨k1, Y⟩ := fx_x2_ok (nL := (cz_mf mi).2.2.2.2.1) hE hM hx2 J L S
              rcases Y with Y | Y
              · obtain ⟨r, hr, ν', cst', h1, n1, U, h2, Q⟩ := Y
                obtain ⟨es', h3, h4⟩ := fx_all_ok e r hr
                rw [k1] at g
                simp only at g
                rw [h2] at g
                simp only at g
                obtain ⟨en, m, o⟩ := fx_nx_ok hT PS G h3 Q (by omega) g
                exact ⟨en, h4 en m, o.pre U⟩
              · exact stuck k1 Y.1 Y.2
            | none =>
              rw [hx2] at e
              simp only at e
              cases hx3 : fx_x3 q st with
              | none => rw [hx3] at e; cases e
              | some y =>
                rw [hx3] at e
                obtain ⟨k1, k2, Y⟩ := fx_x3_ok (nL := (cz_mf mi).2.2.2.2.1) hx3 S
                rcases Y with Y | Y
                · exact stuck k1 k2 Y
                · rw [k1] at g
                  simp only at g
                  rw [k2] at g
                  simp only at g
                  rcases y with ⟨mj, as, r⟩ | s
                  · obtain ⟨cas, cr, h3, hs, hr⟩ := Y
                    rw [h3] at g
                    simp only at g e
                    cases d with
                    | zero => cases g
                    | succ d' =>
                      simp only at g
                      cases h4 : cz_go E f d' mj 0 (lv_args 0 cas) [] h with
                      | none => rw [h4] at g; cases g
                      | some y =>
                        obtain ⟨v1, h1⟩ := y
                        rw [h4] at g
                        simp only at g
                        have hcat : ∀ s v, fx_P E h n0 σ ν s v → (s.1 = 1 → v.category = 2) ∧ (¬ s.1 = 1 → v.category = 1) := fun s v r => fx_vr_cat hF r
                        have LA := fx_as_ok hcat 0 hs
                        cases hca : fx_ca T σ mj as with
                        | some x =>
                          obtain ⟨σ1, k, ops, rt⟩ := x
                          rw [hca] at e
                          simp only at e
                          have hcal : fx_fe T mj 0 (fx_as 0 as) 0 = some (k, ops, rt) ∧ fx_cl0 σ = some σ1 := by
                            unfold fx_ca at hca
                            split at hca
                            · cases hca
                            cases hfe : fx_fe T mj 0 (fx_as 0 as) 0 with
                            | none => rw [hfe] at hca; cases hca
                            | some x =>
                              rw [hfe] at hca
                              cases hcl : fx_cl0 σ with
                              | none => rw [hcl] at hca; cases hca
                              | some σ2 => rw [hcl] at hca; cases hca; exact ⟨rfl, rfl⟩
                          obtain ⟨hfe, hcl⟩ := hcal
                          obtain ⟨j, t, e1, e2, e3, e4, e5, e6⟩ := fx_fe_ok 0 hfe
                          have e1 : k = j := by omega
                          subst e1
                          obtain ⟨J1, f1, f2, up⟩ := fx_cl0_ok J hcl
                          have L1 : fx_LR (fx_vr E h h.length σ1.2.1 ν) (fx_as 0 as) (lv_args 0 cas) := LA.imp up
                          obtain ⟨m1, m2⟩ := fx_mt_ok f1 L1 [] e5
                          have m3 := m2 []
                          rw [List.append_nil, List.nil_append] at m3
                          subst e3
                          have h4 : cz_go E f d' t.1 t.2.1 (lv_args 0 cas) [] h = some (v1, h1) := by rw [e4]; exact h4
                          obtain ⟨w1, w2, z, w3, w4⟩ := PS k t e2 f d' (lv_args 0 cas) h v1 h1 (ops.map (fx_o ν)) (by omega) J1.2.2.1 (by rw [List.length_map]; have : (fx_lv0 t.2.2.1 0).2 = 0 + ops.length := m1; omega) m3 h4
                          have hl1 : ν.length = σ1.1 := J1.1
                          have upz : ∀ s v, fx_P E h n0 σ ν s v → fx_vr E h1 h1.length ((0, -1), []) (ν ++ [z]) s v := fun s v r => fx_vr_ext w2 w2.1 (fun o _ ff => by rw [fx_fr_nil f1] at ff; cases ff) (up s v r)
                          have J2 : fx_J E M ν0 S0 h0 (σ1.1 + 1, ((0, -1), []), (11, k, ops) :: σ1.2.2) (ν ++ [z]) h1 h1.length := by
                            refine ⟨?_, fx_reach (e := (11, k, ops)) J1.2.1 (fun K hK => ?_), w1, fx_ext_tr J1.2.2.2.1 w2, rfl, fun hb => ?_, .inl rfl, fun j c hj => by cases hj⟩
                            · rw [List.length_append, hl1]; rfl
                            · exact hK z (fx_of E h1) (fx_Sok_of w1) (by rw [hT k t e2]; exact fx_zr_of w3) w4
                            · exact absurd hb (show ¬ (0 : Int) ≤ -1 by decide)
                          have SR2 : fx_SR (fx_vr E h1 h1.length ((0, -1), []) (ν ++ [z])) (fx_rv rt (σ1.1 + 1) ++ r) (v1.toList ++ cr) := by
                            refine fx_SR.app ?_ (hr.imp upz)
                            rw [e6]
                            unfold fx_rv
                            unfold fx_rm at w3
                            split
                            · next h9 =>
                              rw [if_pos h9] at w3
                              rw [w3.1]
                              trivial
                            · next h9 =>
                              rw [if_neg h9] at w3
                              obtain ⟨u, hu, r9⟩ := w3
                              rw [hu]
                              refine ⟨?_, trivial⟩
                              refine fx_vr_re rfl r9 ?_ ?_ (.inl rfl)
                              · rw [List.length_append, hl1]; exact Nat.le_refl _
                              · rw [fx_o_new hl1]
                                rfl
                          obtain ⟨en, m, o⟩ := fx_nx_ok hT PS G e ⟨J2, L.imp upz, SR2⟩ (by omega) g
                          exact ⟨en, m, o.pre upz⟩
                        | none =>
                          rw [hca] at e
                          simp only at e
                          cases hri : fx_run T F false mj 0 (fx_as 0 as) [] σ with
                          | none => rw [hri] at e; cases e
                          | some es1 =>
                            rw [hri] at e
                            simp only at e
                            obtain ⟨en1, m1, o1⟩ := ih false mj 0 (fx_as 0 as) [] σ es1 hri ν (lv_args 0 cas) [] h n0 J LA trivial f d' v1 h1 (by omega) h4
                            obtain ⟨es', h5, h6⟩ := fx_all_ok e en1 m1
                            obtain ⟨τ, y9⟩ := en1
                            rcases y9 with s | x9
                            · obtain ⟨ν', n1, J1, U, rv⟩ := o1
                              have SR1 : fx_SR (fx_P E h1 n1 τ ν') (s.toList ++ r) (v1.toList ++ cr) := by
                                refine fx_SR.app ?_ (hr.imp U)
                                cases s with
                                | none =>
                                  have rv : v1 = none := rv
                                  rw [rv]
                                  trivial
                                | some s =>
                                  obtain ⟨u, hu, pu⟩ := rv
                                  rw [hu]
                                  exact ⟨pu, trivial⟩
                              obtain ⟨en, m, o⟩ := fx_nx_ok hT PS G h5 ⟨J1, L.imp U, SR1⟩ (by omega) g
                              exact ⟨en, h6 en m, o.pre U⟩
                            · cases h5
                  · cases s with
                    | none =>
                      have Y : cz_s3 E q cst h = some (.inr none) := Y
                      rw [Y] at g
                      cases g
                      cases e
                      exact ⟨_, List.mem_singleton.mpr rfl, ν, n0, J, fun _ _ r => r, rfl⟩
                    | some s =>
                      obtain ⟨u, Y, pu⟩ := Y
                      rw [Y] at g
                      cases g
                      cases e
                      exact ⟨_, List.mem_singleton.mpr rfl, ν, n0, J, fun _ _ r => r, u, rfl, pu⟩
theorem fx_ends_ok {t : Nat} : ∀ {es : List fx_En} {ps : List fx_Pa}, fx_ends T t es = some ps → ∀ en ∈ es, ∃ p ∈ ps, fx_end T t en = some p := by
  intro es
  induction es with
  | nil => intro ps _ en h; cases h
  | cons x l ih =>
    intro ps e en hen
    unfold fx_ends at e
    cases h1 : fx_end T t x with
    | none => rw [h1] at e; cases e
    | some p =>
      rw [h1] at e
      cases h2 : fx_ends T t l with
      | none => rw [h2] at e; cases e
      | some r =>
        rw [h2] at e
        cases e
        rcases List.mem_cons.mp hen with rfl | hen
        · exact ⟨p, List.mem_cons_self, h1⟩
        · obtain ⟨p', m, h3⟩ := ih h2 en hen
          exact ⟨p', List.mem_cons_of_mem _ m, h3⟩
/-- the bounds of the told locals -/
def fx_rz (t : fx_T1) (zs : List Int) (S : fx_S) : Prop := ∀ (i : Nat) (s : fx_V), fx_lk (fx_lv0 t.2.2.1 0).1 i = some s → fx_zr s.1 (fx_o zs s.2.1) S
theorem fx_vr_zr {E : cz_E} {h : cz_H} {φ : fx_O × List fx_FC} {zs : List Int} {s : fx_V} {v : Value} (r : fx_vr E h h.length φ zs s v) : fx_zr s.1 (fx_o zs s.2.1) (fx_of E h) := by
  obtain ⟨t, o, w⟩ := s
  obtain ⟨-, r⟩ := r
  match t, r with
  | 0, ⟨y, _, g⟩ =>
    have g : y.toInt = fx_o zs o := g
    have := fx_i32 y
    show -2147483648 ≤ fx_o zs o ∧ fx_o zs o ≤ 2147483647
    omega
  | 1, ⟨y, _, g⟩ =>
    have g : y.toInt = fx_o zs o := g
    have := fx_i64 y
    show -9223372036854775808 ≤ fx_o zs o ∧ fx_o zs o ≤ 9223372036854775807
    omega
  | 2, ⟨p, _, g, hp, _⟩ =>
    have g : (p : Int) = fx_o zs o := g
    show 0 ≤ fx_o zs o ∧ fx_o zs o < (h.length : Int)
    omega
  | 3, r =>
    show -1 ≤ fx_o zs o ∧ fx_o zs o < (h.length : Int)
    rcases r with ⟨_, g⟩ | ⟨p, _, g, hp, _⟩
    · have g : fx_o zs o = -1 := g
      omega
    · have g : (p : Int) = fx_o zs o := g
      omega
  | 4, _ => trivial
  | 5, _ => trivial
  | 6, _ => trivial
  | 7, _ => trivial
  | 8, _ => trivial
  | n + 9, r => exact r.elim
/-- what is shown of every entry path by path holds of every run from it -/
theorem fx_main (hE : cz_Eok E) (hM : M.1 = (fun z => (E.2.1.2.2 z.toNat).toInt, (E.2.1.2.1 : Int))) (hT : ∀ (k : Nat) (t : fx_T1), T[k]? = some t → M.2.2 k = t.2.2.2) (vc : ∀ (k : Nat) (t : fx_T1), T[k]? = some t → ∃ ps, fx_chk T t = some ps ∧ ∀ (zs : List Int) (S : fx_S), fx_Sok S → zs.length = (fx_lv0 t.2.2.1 0).2 → fx_rz t zs S → ∀ p ∈ ps, fx_VC M k zs S p) : ∀ N, fx_PS E M T N := by
  intro N
  induction N with
  | zero => intro k t _ f d clv h v h' zs hf; exact absurd hf (Nat.not_lt_zero _)
  | succ N ih =>
    intro k t ht f d clv h v h' zs hf w hz L g
    obtain ⟨ps, hc, V⟩ := vc k t ht
    unfold fx_chk at hc
    cases hr : fx_run T 2000 true t.1 t.2.1 (fx_lv0 t.2.2.1 0).1 [] ((fx_lv0 t.2.2.1 0).2, ((0, -1), []), []) with
    | none => rw [hr] at hc; cases hc
    | some es =>
      rw [hr] at hc
      have hc : fx_ends T t.2.2.2 es = some ps := hc
      have J : fx_J E M zs (fx_of E h) h ((fx_lv0 t.2.2.1 0).2, ((0, -1), []), []) zs h h.length := ⟨hz, fun K hK => hK, w, fx_ext_rf h, rfl, fun hb => absurd hb (show ¬ (0 : Int) ≤ -1 by decide), .inl rfl, fun j c hj => by cases hj⟩
      obtain ⟨en, m, o⟩ := fx_run_ok (ν0 := zs) (S0 := fx_of E h) (h0 := h) hE hM hT ih 2000 true t.1 t.2.1 (fx_lv0 t.2.2.1 0).1 [] ((fx_lv0 t.2.2.1 0).2, ((0, -1), []), []) es hr zs clv [] h h.length J L trivial f d v h' (by omega) g
      obtain ⟨p, mp, hp⟩ := fx_ends_ok hc en m
      have vp := V zs (fx_of E h) (fx_Sok_of w) hz (fun i s hs => by
        obtain ⟨u, -, r⟩ := L i s hs
        exact fx_vr_zr r) p mp
      obtain ⟨τ, y⟩ := en
      rcases y with s | ⟨k', ops⟩
      · obtain ⟨ν', n1, J1, -, rv⟩ := o
        have fin : ∀ {τ' : fx_Y} {o : fx_O}, fx_cl0 τ = some τ' → p = (τ'.2.2.reverse, .inl o) → fx_WF E h'.length h' ∧ fx_ext h h' ∧ M.2.1 k (fx_of E h) zs (fx_o ν' o) (fx_of E h') := by
          intro τ' o hcl hp
          obtain ⟨J2, f1, f2, up⟩ := fx_cl0_ok J1 hcl
          subst hp
          exact ⟨J2.2.2.1, J2.2.2.2.1, J2.2.1 _ vp⟩
        cases s with
        | none =>
          have hp : (cz_so (fx_cl0 τ) fun σ => if t.2.2.2 = 9 then some ((σ.2.2.reverse, .inl (0, 0)) : fx_Pa) else none) = some p := hp
          obtain ⟨τ', hcl, hp⟩ := cz_so_some hp
          split at hp
          · next h9 =>
            cases hp
            obtain ⟨a, b, c⟩ := fin hcl rfl
            refine ⟨a, b, 0, ?_, c⟩
            unfold fx_rm
            rw [if_pos h9]
            exact ⟨rv, rfl⟩
          · cases hp
        | some s =>
          obtain ⟨u, hu, pu⟩ := rv
          have hp : (cz_so (fx_cl0 τ) fun σ => if s.1 = t.2.2.2 ∧ t.2.2.2 < 3 then some ((σ.2.2.reverse, .inl s.2.1) : fx_Pa) else if t.2.2.2 = 3 ∧ (s.1 = 2 ∨ s.1 = 3) then some (σ.2.2.reverse, .inl s.2.1) else if t.2.2.2 = 3 ∧ s.1 = 4 then some (σ.2.2.reverse, .inl (0, -1)) else none) = some p := hp
          obtain ⟨τ', hcl, hp⟩ := cz_so_some hp
          obtain ⟨J2, f1, f2, up⟩ := fx_cl0_ok J1 hcl
          have pu2 : fx_vr E h' h'.length τ'.2.1 ν' s u := up s u pu
          have one : fx_o [fx_o ν' s.2.1] (1, 0) = fx_o ν' s.2.1 := rfl
          split at hp
          · next hc1 =>
            cases hp
            obtain ⟨a, b, c⟩ := fin hcl rfl
            refine ⟨a, b, _, ?_, c⟩
            unfold fx_rm
            rw [if_neg (by omega)]
            refine ⟨u, hu, ?_⟩
            obtain ⟨st, so, sw⟩ := s
            have hc2 : st = t.2.2.2 := hc1.1
            rw [← hc2]
            exact fx_vr_re f1 pu2 (Nat.le_refl 1) one (.inl rfl)
          · split at hp
            · next hc1 =>
              cases hp
              obtain ⟨a, b, c⟩ := fin hcl rfl
              refine ⟨a, b, _, ?_, c⟩
              unfold fx_rm
              rw [if_neg (by omega), hc1.1]
              refine ⟨u, hu, ?_⟩
              obtain ⟨st, so, sw⟩ := s
              rcases hc1.2 with hc2 | hc2
              · have hc2 : st = 2 := hc2
                subst hc2
                obtain ⟨-, q, h1, h2, h3, h4, -⟩ := pu2
                rw [fx_fr_nil f1] at h4
                refine ⟨Nat.le_refl 1, .inr ⟨q, h1, ?_, h3, h3⟩⟩
                exact h2.trans one.symm
              · have hc2 : st = 3 := hc2
                subst hc2
                exact fx_vr_re f1 pu2 (Nat.le_refl 1) one (.inl rfl)
            · split at hp
              · next hc1 =>
                cases hp
                obtain ⟨a, b, c⟩ := fin hcl rfl
                refine ⟨a, b, _, ?_, c⟩
                unfold fx_rm
                rw [if_neg (by omega), hc1.1]
                refine ⟨u, hu, ?_⟩
                obtain ⟨st, so, sw⟩ := s
                have hc2 : st = 4 := hc1.2
                subst hc2
                obtain ⟨-, h1⟩ := pu2
                have h1 : u = .null := h1
                refine ⟨Nat.le_refl 1, .inl ⟨h1, ?_⟩⟩
                rfl
              · cases hp
      · obtain ⟨ν', hm, z, J1, w1, w2, w3, w4⟩ := o
        have hp : (match T[k']? with
          | some t' => if t'.2.2.2 = t.2.2.2 then some ((τ.2.2.reverse, .inr (k', ops)) : fx_Pa) else none
          | none => none) = some p := hp
        cases ht' : T[k']? with
        | none => rw [ht'] at hp; cases hp
        | some t' =>
          rw [ht'] at hp
          have hp : (if t'.2.2.2 = t.2.2.2 then some ((τ.2.2.reverse, .inr (k', ops)) : fx_Pa) else none) = some p := hp
          split at hp
          · next hrt =>
            cases hp
            have c := J1.2.1 _ vp
            rw [hT k' t' ht', hrt] at w3
            exact ⟨w1, fx_ext_tr J1.2.2.2.1 w2, z, w3, c z (fx_of E h') (fx_Sok_of w1) (by rw [hT k' t' ht', hrt]; exact fx_zr_of w3) w4⟩
          · cases hp
end FXF
/-! paths are held against those that are written down -/
def fx_eqo : List fx_O → List fx_O → Bool
  | [], [] => true
  | a :: l, b :: r => Nat.beq a.1 b.1 && (decide (a.2 = b.2) && fx_eqo l r)
  | _, _ => false
theorem fx_eqo_ok : ∀ {l r : List fx_O}, fx_eqo l r = true → l = r := by
  intro l
  induction l with
  | nil => intro r h; cases r with
    | nil => rfl
    | cons b r => cases h
  | cons a l ih =>
    intro r h
    cases r with
    | nil => cases h
    | cons b r =>
      obtain ⟨h1, h2⟩ := Bool.and_eq_true_iff.mp h
      obtain ⟨h3, h4⟩ := Bool.and_eq_true_iff.mp h2
      rw [ih h4, Prod.ext (Nat.eq_of_beq_eq_true h1) (of_decide_eq_true h3)]
def fx_eqe : List fx_Ev → List fx_Ev → Bool
  | [], [] => true
  | a :: l, b :: r => Nat.beq a.1 b.1 && (Nat.beq a.2.1 b.2.1 && (fx_eqo a.2.2 b.2.2 && fx_eqe l r))
  | _, _ => false
theorem fx_eqe_ok : ∀ {l r : List fx_Ev}, fx_eqe l r = true → l = r := by
  intro l
  induction l with
  | nil => intro r h; cases r with
    | nil => rfl
    | cons b r => cases h
  | cons a l ih =>
    intro r h
    cases r with
    | nil => cases h
    | cons b r =>
      obtain ⟨h1, h2⟩ := Bool.and_eq_true_iff.mp h
      obtain ⟨h3, h4⟩ := Bool.and_eq_true_iff.mp h2
      obtain ⟨h5, h6⟩ := Bool.and_eq_true_iff.mp h4
      rw [ih h6, Prod.ext (Nat.eq_of_beq_eq_true h1) (Prod.ext (Nat.eq_of_beq_eq_true h3) (fx_eqo_ok h5))]
def fx_eqx (a b : fx_O ⊕ (Nat × List fx_O)) : Bool := match a, b with
  | .inl a, .inl b => fx_eqo [a] [b]
  | .inr a, .inr b => Nat.beq a.1 b.1 && fx_eqo a.2 b.2
  | _, _ => false
theorem fx_eqx_ok {a b : fx_O ⊕ (Nat × List fx_O)} (h : fx_eqx a b = true) : a = b := by
  rcases a with a | a <;> rcases b with b | b
  · have := fx_eqo_ok (show fx_eqo [a] [b] = true from h)
    cases this
    rfl
  · cases h
  · cases h
  · obtain ⟨h1, h2⟩ := Bool.and_eq_true_iff.mp (show (Nat.beq a.1 b.1 && fx_eqo a.2 b.2) = true from h)
    rw [Prod.ext (Nat.eq_of_beq_eq_true h1) (fx_eqo_ok h2)]
def fx_eqp : List fx_Pa → List fx_Pa → Bool
  | [], [] => true
  | p :: l, q :: r => fx_eqe p.1 q.1 && (fx_eqx p.2 q.2 && fx_eqp l r)
  | _, _ => false
theorem fx_eqp_ok : ∀ {l r : List fx_Pa}, fx_eqp l r = true → l = r := by
  intro l
  induction l with
  | nil => intro r h; cases r with
    | nil => rfl
    | cons b r => cases h
  | cons a l ih =>
    intro r h
    cases r with
    | nil => cases h
    | cons b r =>
      obtain ⟨h1, h2⟩ := Bool.and_eq_true_iff.mp h
      obtain ⟨h3, h4⟩ := Bool.and_eq_true_iff.mp h2
      rw [ih h4, Prod.ext (fx_eqe_ok h1) (fx_eqx_ok h3)]
def fx_eqc (x : Option (List fx_Pa)) (l : List fx_Pa) : Bool := match x with
  | some y => fx_eqp y l
  | none => false
theorem fx_eqc_ok {x : Option (List fx_Pa)} {l : List fx_Pa} (h : fx_eqc x l = true) : x = some l := by
  cases x with
  | none => cases h
  | some y => rw [fx_eqp_ok (show fx_eqp y l = true from h)]
