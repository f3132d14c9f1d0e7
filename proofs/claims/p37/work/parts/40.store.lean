/-! THE CHECKER IS SOUND: an element is written -/
theorem ck_ref_len (iv0 : ck_IV) (a : ck_A) : ∀ (t : List (Nat × Int)) (iv : ck_IV), (ck_ref iv0 a t iv).length = iv.length
  | [], iv => rfl
  | q :: l, iv => by
    unfold ck_ref
    rw [ck_ref_len iv0 a l]
    split
    · rw [List.length_set]
    · rfl
theorem ck_asm_len {n n' : ck_N} {a : ck_A} (e : ck_asm n a = some n') : n'.1.length = n.1.length := by
  unfold ck_asm at e
  split at e
  · cases e; rfl
  · split at e
    · cases e
    · cases e
      exact ck_ref_len _ _ _ _
theorem ck_asm_all {n : ck_N} {ρ : List Int} {a : ck_A} (hn : ∀ σ, ck_nok n (ρ ++ σ)) (ha : ∀ σ, ck_ev (ρ ++ σ) a ≤ 0) : ∃ n', ck_asm n a = some n' ∧ n'.1.length = n.1.length ∧ ∀ σ, ck_nok n' (ρ ++ σ) := by
  obtain ⟨n', e, -⟩ := ck_asm_ok (hn []) (ha [])
  refine ⟨n', e, ck_asm_len e, fun σ => ?_⟩
  obtain ⟨n2, e2, h2⟩ := ck_asm_ok (hn σ) (ha σ)
  cases e.symm.trans e2
  exact h2
/-- an array is replaced by another of its kind -/
theorem ck_HT.putA {E : cz_E} {B B' : Int} {Γ : ck_G} {h : cz_H} (t : ck_HT E B Γ h) (hB : B ≤ B') {p K m : Nat} {c' : cz_C} (hg : Γ[p]? = some (K, m)) (hc : ck_cell E B' Γ (K, m) c') : ck_HT E B' Γ (h.set p c') := by
  refine ⟨by rw [List.length_set]; exact t.1, fun j km c a1 a2 => ?_⟩
  rw [List.getElem?_set] at a2
  by_cases e : p = j
  · subst e
    cases hg.symm.trans a1
    rw [if_pos rfl] at a2
    split at a2
    · cases a2; exact hc
    · cases a2
  · rw [if_neg e] at a2
    exact (t.2 j km c a1 a2).mono ck_ext.rf hB
theorem ck_Fr.arr {W : List (Nat × Nat)} {Γ : ck_G} {h : cz_H} {p K m : Nat} {x0 : Nat × vp_A} {c' : cz_C} (hg : Γ[p]? = some (K, m)) (ha : h[p]? = some (.inl x0)) (hw : ck_win W K 0 = true) : ck_Fr W Γ h (h.set p c') := by
  intro p' k' m' hg'
  by_cases ep : p = p'
  · subst ep
    cases hg.symm.trans hg'
    refine ⟨fun x e1 w => ?_, fun ci vs0 e1 => ?_⟩
    · rw [hw] at w; cases w
    · cases ha.symm.trans e1
  · exact ⟨fun x e1 _ => ck_set_ne ep e1, fun ci vs0 e1 => ⟨vs0, ck_set_ne ep e1, fun _ _ => rfl⟩⟩
section CKST
variable {E : cz_E} {Γ : ck_G} {B : Int} {ρ : List Int} {n n' : ck_N} {st st' : List ck_V} {es es' : List ck_Q} {cst : List Value} {h : cz_H} {W : List (Nat × Nat)}
theorem ck_isP_ok {v : ck_V} {x : Value} {P : Int} {b : Bool} (hn : ck_nok n ρ) (hv : ck_D E Γ ρ v x) (e : ck_isP n v P = some b) : (ck_c1 x P : Int) = ck_b01 b := by
  unfold ck_isP at e
  split at e
  · next t =>
    obtain ⟨z, rfl, -⟩ := ck_D_i hv t
    have hb := ck_bd hn hv t
    unfold ck_c1
    simp only
    split at e
    · next hc =>
      cases e
      rw [if_pos (by omega)]
      rfl
    · split at e
      · next hc =>
        cases e
        rw [if_neg (by omega)]
        rfl
      · cases e
  · cases e
/-- a count, behind a store -/
theorem ck_cnt_ok {K r p m tc len i w : Nat} {ix : ck_A} {v : ck_V} {x' : Value} {l : List ck_Q} {y y' : (Nat → Int32) ⊕ (Nat → Int64) ⊕ (Nat → UInt32) ⊕ (Nat → UInt64) ⊕ (Nat → Option Nat)} (hn : ∀ σ, ck_nok n (ρ ++ σ)) (hm : ck_Ms E Γ h ρ es) (hp : ∀ σ, (p : Int) = (ρ ++ σ).getD r 0) (hg : Γ[p]? = some (K, m)) (ha : h[p]? = some (.inl (tc, len, y))) (hi : ∀ σ, (i : Int) = ck_ev (ρ ++ σ) ix) (hil : i < len) (hv : ck_Ds E Γ ρ v x') (ho : ∀ j, j ≠ i → ck_el y' j = ck_el y j) (hnew : ck_el y' i = x') (hm' : ck_Ms E Γ (h.set p (.inl (tc, len, y'))) ρ l) : ck_Ms E Γ (h.set p (.inl (tc, len, y'))) ρ (ck_cnt n es K r ix v w l) := by
  unfold ck_cnt
  split
  · next a old hfa hfo =>
    split
    · next b b' hb hb' =>
      intro q hq σ
      rcases List.mem_cons.mp hq with rfl | hq
      · obtain ⟨v0, hq0⟩ := ck_f3_mem hfa
        obtain ⟨p1, m1, tc1, n1, y1, d1, d2, d3, d4⟩ := hm _ hq0 σ
        have d1 : (p1 : Int) = (ρ ++ σ).getD r 0 := d1
        have := hp σ
        have : p1 = p := by omega
        subst this
        cases ha.symm.trans d3
        have d4 : ((ck_cn (ck_el y) (ck_P01 w) len : Nat) : Int) = ck_ev (ρ ++ σ) a := d4
        obtain ⟨tc2, len2, y2, f1, f2, f3, -⟩ := ck_f1_ok hm hfo hp hi
        cases ha.symm.trans f1
        have g1 := ck_isP_ok (hn σ) (f3 σ) hb
        have g2 := ck_isP_ok (hn σ) (hv σ) hb'
        refine ⟨p1, m, tc, len, y', d1, hg, ck_set_eq ha, ?_⟩
        show ((ck_cn (ck_el y') (ck_P01 w) len : Nat) : Int) = ck_ev (ρ ++ σ) (ck_add a (ck_c (ck_b01 b' - ck_b01 b)))
        rw [ck_add_ev, ck_ev_c, ck_cn_set ho len, if_pos hil, hnew, d4]
        omega
      · exact hm' q hq σ
    · exact hm'
  · exact hm'
theorem ck_rc3_ok {len : Nat} {l : List ck_Q} (hn : ∀ σ, ck_nok n (ρ ++ σ)) (hl : ρ.length = n.1.length) (hc : ∀ q, l.head? = some q → q.1 = 3 → ∀ σ, 0 ≤ ck_ev (ρ ++ σ) q.2.2.2.2.1 ∧ ck_ev (ρ ++ σ) q.2.2.2.2.1 ≤ len) : ρ.length = (ck_rc3 len n l).1.length ∧ ∀ σ, ck_nok (ck_rc3 len n l) (ρ ++ σ) := by
  unfold ck_rc3
  split
  · next q r =>
    split
    · next t =>
      have hq := hc q rfl t
      obtain ⟨n1, e1, l1, h1⟩ := ck_asm_all hn (a := ck_sub q.2.2.2.2.1 (ck_c (len : Int))) (fun σ => by rw [ck_sub_ev, ck_ev_c]; have := (hq σ).2; omega)
      obtain ⟨n2, e2, l2, h2⟩ := ck_asm_all h1 (a := ck_mul (-1) q.2.2.2.2.1) (fun σ => by rw [ck_mul_ev]; have := (hq σ).1; omega)
      simp only [e1, Option.getD_some, e2]
      exact ⟨by rw [l2, l1]; exact hl, h2⟩
    · exact ⟨hl, hn⟩
  · exact ⟨hl, hn⟩
theorem ck_pre4_ok {r K p : Nat} {l : List ck_Q} (hn : ∀ σ, ck_nok n (ρ ++ σ)) (hm : ck_Ms E Γ h ρ l) : ck_Ms E Γ h ρ (ck_pre4 n r K l) := by
  unfold ck_pre4
  split
  · next mm hmm =>
    split
    · next x y hx hy =>
      split
      · next hc =>
        intro q hq σ
        rcases List.mem_cons.mp hq with rfl | hq
        · obtain ⟨v0, hq0⟩ := ck_f3_mem hmm
          obtain ⟨p1, m1, tc1, n1, f1, d1, d2, d3, d4⟩ := hm _ hq0 σ
          obtain ⟨a1, hx1⟩ := ck_f1_mem hx
          obtain ⟨p2, m2, tc2, n2, y2, i2, g1, g2, g3, g4, g5, g6⟩ := hm _ hx1 σ
          obtain ⟨a2, hy1⟩ := ck_f1_mem hy
          obtain ⟨p3, m3, tc3, n3, y3, i3, k1, k2, k3, k4, k5, k6⟩ := hm _ hy1 σ
          have d1 : (p1 : Int) = (ρ ++ σ).getD r 0 := d1
          have g1 : (p2 : Int) = (ρ ++ σ).getD r 0 := g1
          have k1 : (p3 : Int) = (ρ ++ σ).getD r 0 := k1
          have : p2 = p1 := by omega
          subst this
          have : p3 = p2 := by omega
          subst this
          cases d3.symm.trans g3
          cases d3.symm.trans k3
          have g4 : (i2 : Int) = ck_ev (ρ ++ σ) (ck_add (ck_mul 16 mm) (ck_c 4)) := g4
          have k4 : (i3 : Int) = ck_ev (ρ ++ σ) (ck_add (ck_mul 16 mm) (ck_c 5)) := k4
          rw [ck_add_ev, ck_mul_ev, ck_ev_c] at g4 k4
          refine ⟨p3, m1, tc1, n1, f1, d1, d2, d3, fun j hj hj2 => ?_⟩
          have hj2 : (j : Int) < ck_ev (ρ ++ σ) (ck_add mm (ck_c 1)) := hj2
          rw [ck_add_ev, ck_ev_c] at hj2
          by_cases hjm : (j : Int) < ck_ev (ρ ++ σ) mm
          · exact d4 j hj hjm
          · have e2 : i2 = 4 + 16 * j := by omega
            have e3 : i3 = 5 + 16 * j := by omega
            subst e2
            subst e3
            unfold ck_prs at hc
            simp only [Bool.and_eq_true, beq_iff_eq, Bool.or_eq_true, decide_eq_true_eq] at hc
            obtain ⟨⟨c1, c2⟩, c3, c4⟩ := hc
            have bx : ck_lw n x.2.2.2.1 ≤ (f1 (4 + 16 * j)).toInt ∧ (f1 (4 + 16 * j)).toInt ≤ ck_hi n x.2.2.2.1 := ck_bd (hn σ) g6 c1
            obtain ⟨z, z1, z2⟩ := ck_D_i k6 c2
            have z1 : f1 (5 + 16 * j) = z := by injection z1
            have z2 : z.toInt = ck_ev (ρ ++ σ) y.2.2.2.1 := z2
            refine ⟨fun h0 => ?_, fun h4 => ?_⟩
            · rcases c3 with (c | c) | c
              · omega
              · omega
              · have := ck_btw_ok (hn σ) c
                rw [z1, z2]
                exact this
            · rcases c4 with (c | c) | c
              · omega
              · omega
              · have := ck_btw_ok (hn σ) c
                rw [z1, z2]
                exact this
        · exact hm q hq σ
      · exact hm
    · exact hm
  · exact hm
/-- what is stored fits -/
theorem ck_stv_ok {K r p m i c : Nat} {k : Nat × Nat × Nat × ck_S} {ix : ck_A} {v : ck_V} {x' : Value} {y : (Nat → Int32) ⊕ (Nat → Int64) ⊕ (Nat → UInt32) ⊕ (Nat → UInt64) ⊕ (Nat → Option Nat)} (hB : 0 ≤ B) (hn : ∀ σ, ck_nok n (ρ ++ σ)) (hm : ck_Ms E Γ h ρ es) (hp : ∀ σ, (p : Int) = (ρ ++ σ).getD r 0) (hg : Γ[p]? = some (K, m)) (ha : h[p]? = some (.inl (k.1, k.2.1, y))) (hty : ∀ i : Nat, i < k.2.1 → ck_vs E B Γ (ck_es k.2.2.1 k.2.2.2 i) (ck_el y i)) (hi : ∀ σ, (i : Int) = ck_ev (ρ ++ σ) ix) (hil : i < k.2.1) (hv : ck_Ds E Γ ρ v x') (e : ck_stv n es r K k ix v = some c) : ck_vs E (B + c) Γ (ck_es k.2.2.1 k.2.2.2 i) x' ∧ (k.2.2.1 = 1 → ck_grd (i : Int) = false) ∧ k.2.2.1 ≠ 2 := by
  have tab : ∀ {tt : Nat} {z : Int32}, k.2.2.1 ≠ 0 → x' = .int z → z.toInt = ck_ev (ρ ++ []) v.2.2.2.1 → v.1 = 0 → (((decide ((ck_TI tt i).1 ≤ ck_lw n v.2.2.2.1) || ck_le n (ck_sub (ck_c (ck_TI tt i).1) v.2.2.2.1)) && (decide (ck_hi n v.2.2.2.1 ≤ (ck_TI tt i).2) || ck_le n (ck_sub v.2.2.2.1 (ck_c (ck_TI tt i).2)))) = true) → k.2.2.1 = tt → ck_vs E (B + c) Γ (ck_es k.2.2.1 k.2.2.2 i) x' := by
    intro tt z h0 e1 e2 tv hc ht
    unfold ck_es
    rw [if_neg h0]
    refine ⟨z, e1, ?_⟩
    subst e1
    have hb := ck_bd (hn []) (hv []) tv
    have hti : ck_TI tt (i : Int) = ck_T k.2.2.1 i := by rw [ht]; rfl
    rw [hti] at hc
    obtain ⟨hc1, hc2⟩ := Bool.and_eq_true_iff.mp hc
    show (ck_T k.2.2.1 i).1 ≤ z.toInt ∧ z.toInt ≤ (ck_T k.2.2.1 i).2
    constructor
    · rcases Bool.or_eq_true_iff.mp hc1 with q | q
      · have := of_decide_eq_true q
        omega
      · have := ck_le_ok (hn []) q
        rw [ck_sub_ev, ck_ev_c] at this
        omega
    · rcases Bool.or_eq_true_iff.mp hc2 with q | q
      · have := of_decide_eq_true q
        omega
      · have := ck_le_ok (hn []) q
        rw [ck_sub_ev, ck_ev_c] at this
        omega
  have hix : ck_tv (ρ ++ []) ix.1 + ix.2 = (i : Int) := (hi []).symm
  unfold ck_stv at e
  split at e
  · next t0 =>
    refine ⟨?_, fun z => by omega, by omega⟩
    unfold ck_es
    rw [if_pos t0]
    split at e
    · next s4 =>
      split at e
      · next tv =>
        obtain ⟨z, rfl, ez⟩ := ck_D_i (hv []) tv
        unfold ck_vs
        rw [s4]
        refine ⟨z, rfl, ?_⟩
        split at e
        · next c0 =>
          cases e
          have := ck_btw_ok (hn []) c0
          rw [← ez] at this
          exact ⟨this.1, by have := this.2; omega⟩
        · split at e
          · next w hw =>
            split at e
            · next cw =>
              cases e
              obtain ⟨tc2, len2, y2, d1, d2, d3, -⟩ := ck_f1_ok hm hw hp hi
              cases ha.symm.trans d1
              have hold := hty i hil
              unfold ck_es at hold
              rw [if_pos t0] at hold
              unfold ck_vs at hold
              rw [s4] at hold
              obtain ⟨z0, f1, f2, f3⟩ := hold
              obtain ⟨z1, g1, g2⟩ := ck_D_i (d3 []) cw.1
              rw [f1] at g1
              have g1 : z0 = z1 := by injection g1
              subst g1
              rw [ck_aeq_ok cw.2, ck_add_ev, ck_ev_c, ← g2] at ez
              exact ⟨by omega, by push_cast; omega⟩
            · cases e
          · cases e
      · cases e
    · split at e
      · next hf =>
        cases e
        have := ck_fit_ok (B := B) (hn []) (hv []) hf
        exact this.mono ck_ext.rf (by omega)
      · cases e
  · next t1 =>
    split at e
    · next hc =>
      cases e
      obtain ⟨tv, hc⟩ := hc
      obtain ⟨z, ez1, ez2⟩ := ck_D_i (hv []) tv
      have := ck_all_ok (hn []).1 (Bool.and_eq_true_iff.mp hc).2
      rw [hix] at this
      obtain ⟨g1, g2⟩ := Bool.and_eq_true_iff.mp this
      exact ⟨tab (by omega) ez1 ez2 tv g1 t1, fun _ => by simpa using g2, by omega⟩
    · cases e
  · next t3 =>
    split at e
    · next hc =>
      cases e
      obtain ⟨tv, hc⟩ := hc
      obtain ⟨z, ez1, ez2⟩ := ck_D_i (hv []) tv
      have := ck_all_ok (hn []).1 (Bool.and_eq_true_iff.mp hc).2
      rw [hix] at this
      exact ⟨tab (by omega) ez1 ez2 tv this t3, fun z => by omega, by omega⟩
    · cases e
  · cases e
end CKST
