/-! THE CHECKER IS SOUND: an element is written, by each instruction -/
theorem ck_grd_of {i : Nat} (h : ck_grd (i : Int) = false) {s l : Nat} (hs : s < 10) (hl : l < 16) : i ≠ 1103 + 260 * s ∧ i ≠ 1104 + 260 * s + 16 * l ∧ i ≠ 1105 + 260 * s + 16 * l := by
  have key : ∀ j : Int, (j = 3 ∨ (4 ≤ j ∧ (j - 4) % 16 < 2)) → (i : Int) = 1100 + 260 * (s : Int) + j → 0 ≤ j → j < 260 → False := by
    intro j hj hi h0 h1
    have e : ((i : Int) - 1100) % 260 = j := by omega
    have a1 : decide (1100 ≤ (i : Int)) = true := decide_eq_true (by omega)
    have a2 : decide ((i : Int) < 3700) = true := decide_eq_true (by omega)
    unfold ck_grd at h
    rw [e, a1, a2] at h
    rcases hj with hj | ⟨h2, h3⟩
    · rw [decide_eq_true hj] at h
      cases h
    · rw [decide_eq_true h2, decide_eq_true h3, Bool.and_true, Bool.or_true] at h
      cases h
  refine ⟨fun z => key 3 (Or.inl rfl) (by omega) (by omega) (by omega), fun z => key (4 + 16 * (l : Int)) (Or.inr ⟨by omega, by omega⟩) (by omega) (by omega) (by omega), fun z => key (5 + 16 * (l : Int)) (Or.inr ⟨by omega, by omega⟩) (by omega) (by omega) (by omega)⟩
theorem ck_nar_char {z : Int32} (h0 : 0 ≤ z.toInt) (h1 : z.toInt ≤ 65535) : vp_nar .char z = z := by
  obtain ⟨e1, l1⟩ := ck_nn h0
  show z.toUInt32.toUInt16.toUInt32.toInt32 = z
  apply Int32.toInt_inj.mp
  have : (z.toUInt32.toUInt16.toUInt32.toInt32).toBitVec.toNat = z.toBitVec.toNat := by
    show (z.toUInt32.toUInt16.toUInt32).toNat = z.toBitVec.toNat
    rw [UInt16.toNat_toUInt32, UInt32.toNat_toUInt16]
    show z.toBitVec.toNat % 2 ^ 16 = z.toBitVec.toNat
    exact Nat.mod_eq_of_lt (by omega)
  rw [ck_of this l1, e1]
section CKS2
variable {E : cz_E} {Γ : ck_G} {B : Int} {ρ : List Int} {n n' : ck_N} {st st' : List ck_V} {es es' : List ck_Q} {cst : List Value} {h : cz_H} {W : List (Nat × Nat)}
theorem ck_stv_int {r K c : Nat} {k : Nat × Nat × Nat × ck_S} {ix : ck_A} {v : ck_V} (e : ck_stv n es r K k ix v = some c) (hk : 0 < k.2.2.1 ∨ k.2.2.2.1 = 0 ∨ k.2.2.2.1 = 4) : v.1 = 0 := by
  unfold ck_stv at e
  split at e
  · split at e
    · split at e
      · assumption
      · cases e
    · split at e
      · next hf =>
        have h0 : k.2.2.2.1 = 0 := by omega
        unfold ck_fit at hf
        rw [h0] at hf
        simp only [Bool.and_eq_true, beq_iff_eq] at hf
        exact hf.1
      · cases e
  · split at e
    · next hc => exact hc.1
    · cases e
  · split at e
    · next hc => exact hc.1
    · cases e
  · cases e
theorem ck_stv_fit {r K c : Nat} {k : Nat × Nat × Nat × ck_S} {ix : ck_A} {v : ck_V} (e : ck_stv n es r K k ix v = some c) (h0 : k.2.2.1 = 0) (h4 : k.2.2.2.1 ≠ 4) : ck_fit n v k.2.2.2 = true := by
  unfold ck_stv at e
  rw [h0] at e
  simp only [if_neg h4] at e
  split at e
  · assumption
  · cases e
/-- behind the store -/
theorem ck_as_core0 {K r p m i c : Nat} {k : Nat × Nat × Nat × ck_S} {ix : ck_A} {v : ck_V} {x' : Value} {rs : List ck_V} {cr : List Value} {y y' : (Nat → Int32) ⊕ (Nat → Int64) ⊕ (Nat → UInt32) ⊕ (Nat → UInt64) ⊕ (Nat → Option Nat)} (hB : 0 ≤ B) (hl : ρ.length = n.1.length) (t : ck_HT E B Γ h) (hn : ∀ σ, ck_nok n (ρ ++ σ)) (hr : ck_Ls (ck_Ds E Γ ρ) rs cr) (hm : ck_Ms E Γ h ρ es) (hp : ∀ σ, (p : Int) = (ρ ++ σ).getD r 0) (hg : Γ[p]? = some (K, m)) (hk : ck_ak K = some k) (ha : h[p]? = some (.inl (k.1, k.2.1, y))) (hrw : ck_rw k.2.2.1 y) (hty : ∀ i : Nat, i < k.2.1 → ck_vs E B Γ (ck_es k.2.2.1 k.2.2.2 i) (ck_el y i)) (hi : ∀ σ, (i : Int) = ck_ev (ρ ++ σ) ix) (hil : i < k.2.1) (hv : ck_Ds E Γ ρ v x') (e : ck_stv n es r K k ix v = some c) (hw : (K = 77 → ck_win W 77 (ck_reg i) = true) ∧ (K ≠ 77 → ck_win W K 0 = true))
    (hsh : ck_sh k.1 y') (ho : ∀ j, j ≠ i → ck_el y' j = ck_el y j) (hnew : ck_el y' i = x') (hf : ∀ f, y = .inl f → ∃ f', y' = .inl f' ∧ ∀ j, j ≠ i → f' j = f j) (hf' : ∀ f', y' = .inl f' → ∃ f, y = .inl f) :
    ck_J E Γ (B + c) ρ (ck_rc3 k.2.1 n (ck_cnt n es K r ix v 0 (ck_cnt n es K r ix v 1 ((1, r, K, 0, ix, v) :: es.filter (ck_ka n K r ix))))) rs (if k.2.2.1 = 3 then ck_pre4 n r K (ck_cnt n es K r ix v 0 (ck_cnt n es K r ix v 1 ((1, r, K, 0, ix, v) :: es.filter (ck_ka n K r ix)))) else ck_cnt n es K r ix v 0 (ck_cnt n es K r ix v 1 ((1, r, K, 0, ix, v) :: es.filter (ck_ka n K r ix)))) cr (h.set p (.inl (k.1, k.2.1, y'))) ∧ ck_Fr W Γ h (h.set p (.inl (k.1, k.2.1, y'))) ∧ cz_sz (h.set p (.inl (k.1, k.2.1, y'))) = cz_sz h := by
  obtain ⟨hvs, hgr, h2⟩ := ck_stv_ok hB hn hm hp hg ha hty hi hil hv e
  have hcell : ck_cell E (B + c) Γ (K, m) (.inl (k.1, k.2.1, y')) := by
    unfold ck_ak at hk
    split at hk
    · next rr hrr =>
      cases hk
      unfold ck_cell
      simp only [hrr]
      refine ⟨y', rfl, hsh, ?_, fun j hj => ?_⟩
      · unfold ck_rw at hrw ⊢
        split
        · next f' =>
          obtain ⟨f, hf1⟩ := hf' f' rfl
          subst hf1
          obtain ⟨f2, hf2, hf3⟩ := hf f rfl
          cases hf2
          refine ⟨fun t1 => ?_, fun t2 => absurd t2 h2⟩
          intro s l hs hl2 hlt
          have hg1 := hgr t1
          obtain ⟨g1, g2, g3⟩ := ck_grd_of hg1 hs hl2
          rw [hf3 _ (by omega)] at hlt
          rw [hf3 _ (by omega), hf3 _ (by omega)]
          exact hrw.1 t1 s l hs hl2 hlt
        · trivial
      · by_cases hj2 : j = i
        · subst hj2
          rw [hnew]
          exact hvs
        · rw [ho j hj2]
          exact (hty j hj).mono ck_ext.rf (by omega)
    · cases hk
  have t' := ck_HT.putA t (show B ≤ B + c by omega) hg hcell
  have hm1 : ck_Ms E Γ (h.set p (.inl (k.1, k.2.1, y'))) ρ ((1, r, K, 0, ix, v) :: es.filter (ck_ka n K r ix)) := by
    intro q hq σ
    rcases List.mem_cons.mp hq with rfl | hq
    · exact ⟨p, m, k.1, k.2.1, y', i, hp σ, hg, ck_set_eq ha, hi σ, hil, by rw [hnew]; exact hv σ⟩
    · obtain ⟨q1, q2⟩ := List.mem_filter.mp hq
      exact ck_ka_ok (hm q q1 σ) (hn σ) hg ha (hi σ) ho hf q2 (hp σ)
  have hm2 := ck_cnt_ok (w := 1) hn hm hp hg ha hi hil hv ho hnew hm1
  have hm3 := ck_cnt_ok (w := 0) hn hm hp hg ha hi hil hv ho hnew hm2
  have hrc := ck_rc3_ok (len := k.2.1) (l := ck_cnt n es K r ix v 0 (ck_cnt n es K r ix v 1 ((1, r, K, 0, ix, v) :: es.filter (ck_ka n K r ix)))) hn hl (by
    intro q hq tq σ
    have hmem : q ∈ ck_cnt n es K r ix v 0 (ck_cnt n es K r ix v 1 ((1, r, K, 0, ix, v) :: es.filter (ck_ka n K r ix))) := List.mem_of_mem_head? (by rw [hq]; exact rfl)
    have root : ∀ {w : Nat} {l : List ck_Q}, (∀ q, l.head? = some q → q.1 = 3 → q.2.1 = r) → ∀ q, (ck_cnt n es K r ix v w l).head? = some q → q.1 = 3 → q.2.1 = r := by
      intro w l hl2 q hq tq
      unfold ck_cnt at hq
      split at hq
      · split at hq
        · cases hq; rfl
        · exact hl2 q hq tq
      · exact hl2 q hq tq
    have hroot : q.2.1 = r := root (root (fun q hq tq => by cases hq; cases tq)) q hq tq
    have hM := hm3 q hmem σ
    unfold ck_M at hM
    rw [tq] at hM
    obtain ⟨p1, m1, tc1, n1, y1, d1, d2, d3, d4⟩ := hM
    rw [hroot] at d1
    have := hp σ
    have : p1 = p := by omega
    subst this
    cases (ck_set_eq ha).symm.trans d3
    have := ck_cn_le (ck_el y') (ck_P01 q.2.2.2.1) k.2.1
    rw [← d4]
    omega)
  refine ⟨⟨hrc.1, t', hrc.2, hr, ?_⟩, ck_Fr.arr hg ha (ck_wfr_no hw.1 hw.2) (fun hK j hj => ho j (fun z => by rw [z, hw.1 hK] at hj; cases hj)), cz_sz_set ha rfl⟩
  split
  · exact ck_pre4_ok (p := p) hn hm3
  · exact hm3
theorem ck_M15 {q : ck_Q} {ix : ck_A} (t : q.1 = 14 ∨ (q.1 = 15 ∧ ck_aeq q.2.2.2.2.1 ix = true)) (M : ck_M E Γ h ρ q) : ∃ (p m tc n : Nat) (f : Nat → Int32) (p2 m2 tc2 : Nat) (f2 : Nat → Int32), (p : Int) = ρ.getD q.2.1 0 ∧ Γ[p]? = some (q.2.2.1, m) ∧ h[p]? = some (.inl (tc, n, .inl f)) ∧ (p2 : Int) = ρ.getD q.2.2.2.2.2.2.1 0 ∧ Γ[p2]? = some (q.2.2.2.1, m2) ∧ h[p2]? = some (.inl (tc2, n, .inl f2)) ∧ ∀ i : Nat, i < n → (i : Int) ≠ ck_ev ρ ix → f i = f2 i := by
  unfold ck_M at M
  rcases t with t | ⟨t, ha⟩
  · rw [t] at M
    obtain ⟨p, m, tc, n, f, p2, m2, tc2, f2, e1, e2, e3, e4, e5, e6, e7⟩ := M
    exact ⟨p, m, tc, n, f, p2, m2, tc2, f2, e1, e2, e3, e4, e5, e6, fun i hi _ => e7 i hi⟩
  · rw [t] at M
    obtain ⟨p, m, tc, n, f, p2, m2, tc2, f2, e1, e2, e3, e4, e5, e6, e7⟩ := M
    exact ⟨p, m, tc, n, f, p2, m2, tc2, f2, e1, e2, e3, e4, e5, e6, fun i hi hne => e7 i hi (by rw [ck_aeq_ok ha]; exact hne)⟩
/-- a known element that is what was written -/
theorem ck_wq_ok {es0 : List ck_Q} {r2 K2 p2 tc2 n2 i : Nat} {ix : ck_A} {v : ck_V} {x' : Int32} {f2 : Nat → Int32} (hm0 : ck_Ms E Γ h ρ es0) (σ : List Int) (hp2 : (p2 : Int) = (ρ ++ σ).getD r2 0) (ha2 : h[p2]? = some (.inl (tc2, n2, .inl f2))) (hi : (i : Int) = ck_ev (ρ ++ σ) ix) (hv : ck_Ds E Γ ρ v (.int x')) (e : ck_wq (ck_f1 es0 r2 K2 ix) v = true) : f2 i = x' := by
  unfold ck_wq at e
  split at e
  · next w hw =>
    simp only [Bool.and_eq_true, beq_iff_eq] at e
    obtain ⟨⟨t1, t2⟩, t3⟩ := e
    obtain ⟨a0, hq⟩ := ck_f1_mem hw
    obtain ⟨p3, m3, tc3, n3, y3, i3, g1, g2, g3, g4, g5, g6⟩ := hm0 _ hq σ
    have g1 : (p3 : Int) = (ρ ++ σ).getD r2 0 := g1
    have : p3 = p2 := by omega
    subst this
    cases g3.symm.trans ha2
    have g4 : (i3 : Int) = ck_ev (ρ ++ σ) ix := g4
    have : i3 = i := by omega
    subst this
    obtain ⟨z, z1, z2⟩ := ck_D_i g6 t1
    obtain ⟨z', z3, z4⟩ := ck_D_i (hv σ) t2
    have z1 : f2 i3 = z := by
      have z1 : Value.int (f2 i3) = .int z := z1
      injection z1
    have z3 : x' = z' := by injection z3
    rw [z1, z3]
    apply Int32.toInt_inj.mp
    rw [z2, z4]
    show ck_ev _ w.2.2.2.1 = _
    rw [ck_aeq_ok t3]
  · cases e
theorem ck_rl1_ok {es0 : List ck_Q} {q : ck_Q} {r K p m tc len i : Nat} {ix : ck_A} {v : ck_V} {x' : Value} {y y' : (Nat → Int32) ⊕ (Nat → Int64) ⊕ (Nat → UInt32) ⊕ (Nat → UInt64) ⊕ (Nat → Option Nat)} (hm0 : ck_Ms E Γ h ρ es0) (hq : ∀ σ, ck_M E Γ h (ρ ++ σ) q) (hp : ∀ σ, (p : Int) = (ρ ++ σ).getD r 0) (hg : Γ[p]? = some (K, m)) (ha : h[p]? = some (.inl (tc, len, y))) (hi : ∀ σ, (i : Int) = ck_ev (ρ ++ σ) ix) (hv : ck_Ds E Γ ρ v x') (hnew : ck_el y' i = x') (hf : ∀ f, y = .inl f → ∃ f', y' = .inl f' ∧ ∀ j, j ≠ i → f' j = f j) : ck_Ms E Γ (h.set p (.inl (tc, len, y'))) ρ (ck_rl1 es0 q r K ix v) := by
  unfold ck_rl1
  split
  · next hc =>
    simp only [Bool.and_eq_true, Bool.or_eq_true, Bool.not_eq_true', beq_iff_eq, beq_eq_false_iff_ne] at hc
    obtain ⟨ht, hK⟩ := hc
    split
    · next h1 =>
      simp only [Bool.and_eq_true, beq_iff_eq] at h1
      have st : ∀ σ, ∃ (f' : Nat → Int32) (p2 m2 tc2 : Nat) (f2 : Nat → Int32), y' = .inl f' ∧ (p : Int) = (ρ ++ σ).getD q.2.1 0 ∧ (p2 : Int) = (ρ ++ σ).getD q.2.2.2.2.2.2.1 0 ∧ Γ[p2]? = some (q.2.2.2.1, m2) ∧ h[p2]? = some (.inl (tc2, len, .inl f2)) ∧ p ≠ p2 ∧ ∀ j : Nat, j < len → (j : Int) ≠ ck_ev (ρ ++ σ) ix → f' j = f2 j := by
        intro σ
        obtain ⟨p1, m1, tc1, nn, f, p2, m2, tc2, f2, e1, e2, e3, e4, e5, e6, e7⟩ := ck_M15 ht (hq σ)
        have hpσ := hp σ
        rw [h1.1] at e1
        have : p1 = p := by omega
        subst this
        cases ha.symm.trans e3
        obtain ⟨f', hy, hne⟩ := hf f rfl
        refine ⟨f', p2, m2, tc2, f2, hy, by rw [h1.1]; exact hpσ, e4, e5, e6, ?_, fun j hj hj2 => ?_⟩
        · intro z
          subst z
          have := Option.some.inj (hg.symm.trans e5)
          exact hK (h1.2.trans (congrArg Prod.fst this))
        · have hji : j ≠ i := fun z => hj2 (by rw [z]; exact hi σ)
          rw [hne j hji]
          exact e7 j hj hj2
      split
      · next hw =>
        intro q' hq' σ
        rw [List.mem_singleton.mp hq']
        obtain ⟨f', p2, m2, tc2, f2, hy, e1, e4, e5, e6, hpp, e7⟩ := st σ
        subst hy
        have hv' : ck_Ds E Γ ρ v (.int (f' i)) := by rw [← hnew] at hv; exact hv
        have hii := ck_wq_ok hm0 σ e4 e6 (hi σ) hv' hw
        refine ⟨p, m, tc, len, f', p2, m2, tc2, f2, e1, by show Γ[p]? = some (q.2.2.1, m); rw [h1.2]; exact hg, ck_set_eq ha, e4, e5, ck_set_ne hpp e6, fun j hj => ?_⟩
        by_cases hji : j = i
        · rw [hji, hii]
        · exact e7 j hj (fun z => hji (by have := hi σ; omega))
      · intro q' hq' σ
        rw [List.mem_singleton.mp hq']
        obtain ⟨f', p2, m2, tc2, f2, hy, e1, e4, e5, e6, hpp, e7⟩ := st σ
        subst hy
        exact ⟨p, m, tc, len, f', p2, m2, tc2, f2, e1, by show Γ[p]? = some (q.2.2.1, m); rw [h1.2]; exact hg, ck_set_eq ha, e4, e5, ck_set_ne hpp e6, e7⟩
    · split
      · next h1 =>
        simp only [Bool.and_eq_true, beq_iff_eq] at h1
        have st : ∀ σ, ∃ (f' : Nat → Int32) (p1 m1 tc1 : Nat) (f1 : Nat → Int32), y' = .inl f' ∧ (p : Int) = (ρ ++ σ).getD q.2.2.2.2.2.2.1 0 ∧ (p1 : Int) = (ρ ++ σ).getD q.2.1 0 ∧ Γ[p1]? = some (q.2.2.1, m1) ∧ h[p1]? = some (.inl (tc1, len, .inl f1)) ∧ p ≠ p1 ∧ ∀ j : Nat, j < len → (j : Int) ≠ ck_ev (ρ ++ σ) ix → f1 j = f' j := by
          intro σ
          obtain ⟨p1, m1, tc1, nn, f, p2, m2, tc2, f2, e1, e2, e3, e4, e5, e6, e7⟩ := ck_M15 ht (hq σ)
          have hpσ := hp σ
          rw [h1.1] at e4
          have : p2 = p := by omega
          subst this
          cases ha.symm.trans e6
          obtain ⟨f', hy, hne⟩ := hf f2 rfl
          refine ⟨f', p1, m1, tc1, f, hy, by rw [h1.1]; exact hpσ, e1, e2, e3, ?_, fun j hj hj2 => ?_⟩
          · intro z
            subst z
            have := Option.some.inj (hg.symm.trans e2)
            exact hK ((congrArg Prod.fst this).symm.trans h1.2.symm)
          · have hji : j ≠ i := fun z => hj2 (by rw [z]; exact hi σ)
            rw [hne j hji]
            exact e7 j hj hj2
        split
        · next hw =>
          intro q' hq' σ
          rw [List.mem_singleton.mp hq']
          obtain ⟨f', p1, m1, tc1, f1, hy, e1, e4, e5, e6, hpp, e7⟩ := st σ
          subst hy
          have hv' : ck_Ds E Γ ρ v (.int (f' i)) := by rw [← hnew] at hv; exact hv
          have hii := ck_wq_ok hm0 σ e4 e6 (hi σ) hv' hw
          refine ⟨p1, m1, tc1, len, f1, p, m, tc, f', e4, e5, ck_set_ne hpp e6, e1, by show Γ[p]? = some (q.2.2.2.1, m); rw [h1.2]; exact hg, ck_set_eq ha, fun j hj => ?_⟩
          by_cases hji : j = i
          · rw [hji, hii]
          · exact e7 j hj (fun z => hji (by have := hi σ; omega))
        · intro q' hq' σ
          rw [List.mem_singleton.mp hq']
          obtain ⟨f', p1, m1, tc1, f1, hy, e1, e4, e5, e6, hpp, e7⟩ := st σ
          subst hy
          exact ⟨p1, m1, tc1, len, f1, p, m, tc, f', e4, e5, ck_set_ne hpp e6, e1, by show Γ[p]? = some (q.2.2.2.1, m); rw [h1.2]; exact hg, ck_set_eq ha, e7⟩
      · exact ck_Ms_nil
  · exact ck_Ms_nil
theorem ck_rl_ok {es0 : List ck_Q} {r K p m tc len i : Nat} {ix : ck_A} {v : ck_V} {x' : Value} {y y' : (Nat → Int32) ⊕ (Nat → Int64) ⊕ (Nat → UInt32) ⊕ (Nat → UInt64) ⊕ (Nat → Option Nat)} (hm0 : ck_Ms E Γ h ρ es0) (hp : ∀ σ, (p : Int) = (ρ ++ σ).getD r 0) (hg : Γ[p]? = some (K, m)) (ha : h[p]? = some (.inl (tc, len, y))) (hi : ∀ σ, (i : Int) = ck_ev (ρ ++ σ) ix) (hv : ck_Ds E Γ ρ v x') (hnew : ck_el y' i = x') (hf : ∀ f, y = .inl f → ∃ f', y' = .inl f' ∧ ∀ j, j ≠ i → f' j = f j) : ∀ {es : List ck_Q}, ck_Ms E Γ h ρ es → ck_Ms E Γ (h.set p (.inl (tc, len, y'))) ρ (ck_rl es0 es r K ix v)
  | [], _ => fun q hq => by cases hq
  | q :: l, hm => by
    unfold ck_rl
    intro q' hq' σ
    rcases List.mem_append.mp hq' with hq' | hq'
    · exact ck_rl1_ok hm0 (hm q List.mem_cons_self) hp hg ha hi hv hnew hf q' hq' σ
    · exact ck_rl_ok hm0 hp hg ha hi hv hnew hf (fun q2 hq2 => hm q2 (List.mem_cons_of_mem _ hq2)) q' hq' σ
theorem ck_as_core1 {K r p m i c : Nat} {k : Nat × Nat × Nat × ck_S} {ix : ck_A} {v : ck_V} {x' : Value} {rs : List ck_V} {cr : List Value} {y y' : (Nat → Int32) ⊕ (Nat → Int64) ⊕ (Nat → UInt32) ⊕ (Nat → UInt64) ⊕ (Nat → Option Nat)} (hB : 0 ≤ B) (hl : ρ.length = n.1.length) (t : ck_HT E B Γ h) (hn : ∀ σ, ck_nok n (ρ ++ σ)) (hr : ck_Ls (ck_Ds E Γ ρ) rs cr) (hm : ck_Ms E Γ h ρ es) (hp : ∀ σ, (p : Int) = (ρ ++ σ).getD r 0) (hg : Γ[p]? = some (K, m)) (hk : ck_ak K = some k) (ha : h[p]? = some (.inl (k.1, k.2.1, y))) (hrw : ck_rw k.2.2.1 y) (hty : ∀ i : Nat, i < k.2.1 → ck_vs E B Γ (ck_es k.2.2.1 k.2.2.2 i) (ck_el y i)) (hi : ∀ σ, (i : Int) = ck_ev (ρ ++ σ) ix) (hil : i < k.2.1) (hv : ck_Ds E Γ ρ v x') (e : ck_stv n es r K k ix v = some c) (hw : (K = 77 → ck_win W 77 (ck_reg i) = true) ∧ (K ≠ 77 → ck_win W K 0 = true))
    (hsh : ck_sh k.1 y') (ho : ∀ j, j ≠ i → ck_el y' j = ck_el y j) (hnew : ck_el y' i = x') (hf : ∀ f, y = .inl f → ∃ f', y' = .inl f' ∧ ∀ j, j ≠ i → f' j = f j) (hf' : ∀ f', y' = .inl f' → ∃ f, y = .inl f) :
    ck_J E Γ (B + c) ρ (ck_rc3 k.2.1 n (ck_cnt n es K r ix v 0 (ck_cnt n es K r ix v 1 ((1, r, K, 0, ix, v) :: es.filter (ck_ka n K r ix))))) rs (ck_rl es es r K ix v ++ (if k.2.2.1 = 3 then ck_pre4 n r K (ck_cnt n es K r ix v 0 (ck_cnt n es K r ix v 1 ((1, r, K, 0, ix, v) :: es.filter (ck_ka n K r ix)))) else ck_cnt n es K r ix v 0 (ck_cnt n es K r ix v 1 ((1, r, K, 0, ix, v) :: es.filter (ck_ka n K r ix))))) cr (h.set p (.inl (k.1, k.2.1, y'))) ∧ ck_Fr W Γ h (h.set p (.inl (k.1, k.2.1, y'))) ∧ cz_sz (h.set p (.inl (k.1, k.2.1, y'))) = cz_sz h := by
  obtain ⟨J, F, Z⟩ := ck_as_core0 (W := W) hB hl t hn hr hm hp hg hk ha hrw hty hi hil hv e hw hsh ho hnew hf hf'
  refine ⟨⟨J.1, J.2.1, J.2.2.1, J.2.2.2.1, fun q hq σ => ?_⟩, F, Z⟩
  rcases List.mem_append.mp hq with hq | hq
  · exact ck_rl_ok hm hp hg ha hi hv hnew hf hm q hq σ
  · exact J.2.2.2.2 q hq σ
theorem ck_M17 {q : ck_Q} {ix : ck_A} (t : q.1 = 16 ∨ (q.1 = 17 ∧ ck_aeq q.2.2.2.2.1 ix = true)) (M : ck_M E Γ h ρ q) : ∃ (p m tc n : Nat) (g : Nat → Option Nat) (p2 m2 tc2 : Nat) (f2 : Nat → Int32), (p : Int) = ρ.getD q.2.1 0 ∧ Γ[p]? = some (q.2.2.1, m) ∧ h[p]? = some (.inl (tc, n, .inr (.inr (.inr (.inr g))))) ∧ (p2 : Int) = ρ.getD q.2.2.2.2.2.2.1 0 ∧ Γ[p2]? = some (q.2.2.2.1, m2) ∧ h[p2]? = some (.inl (tc2, n, .inl f2)) ∧ (∀ i : Nat, i < n → (i : Int) ≠ ck_ev ρ ix → (g i = none ↔ f2 i = 0)) ∧ (q.1 = 17 → ∀ i : Nat, i < n → (i : Int) = ck_ev ρ ix → g i ≠ none) := by
  unfold ck_M at M
  rcases t with t | ⟨t, ha⟩
  · rw [t] at M
    obtain ⟨p, m, tc, n, g, p2, m2, tc2, f2, e1, e2, e3, e4, e5, e6, e7⟩ := M
    exact ⟨p, m, tc, n, g, p2, m2, tc2, f2, e1, e2, e3, e4, e5, e6, fun i hi _ => e7 i hi, fun z => by omega⟩
  · rw [t] at M
    obtain ⟨p, m, tc, n, g, p2, m2, tc2, f2, e1, e2, e3, e4, e5, e6, e7⟩ := M
    exact ⟨p, m, tc, n, g, p2, m2, tc2, f2, e1, e2, e3, e4, e5, e6, fun i hi hne => (e7 i hi).1 (by rw [ck_aeq_ok ha]; exact hne), fun _ i hi heq => (e7 i hi).2 (by rw [ck_aeq_ok ha]; exact heq)⟩
theorem ck_rm1_ok {es0 : List ck_Q} {q : ck_Q} {r K p m tc len i : Nat} {ix : ck_A} {v : ck_V} {x' : Value} {y y' : (Nat → Int32) ⊕ (Nat → Int64) ⊕ (Nat → UInt32) ⊕ (Nat → UInt64) ⊕ (Nat → Option Nat)} (hn : ∀ σ, ck_nok n (ρ ++ σ)) (hm0 : ck_Ms E Γ h ρ es0) (hq : ∀ σ, ck_M E Γ h (ρ ++ σ) q) (hp : ∀ σ, (p : Int) = (ρ ++ σ).getD r 0) (hg : Γ[p]? = some (K, m)) (ha : h[p]? = some (.inl (tc, len, y))) (hi : ∀ σ, (i : Int) = ck_ev (ρ ++ σ) ix) (hil : i < len) (hv : ck_Ds E Γ ρ v x') (ho : ∀ j, j ≠ i → ck_el y' j = ck_el y j) (hnew : ck_el y' i = x') (hsh : ck_sh tc y') (hsh0 : ck_sh tc y) (hf : ∀ f, y = .inl f → ∃ f', y' = .inl f' ∧ ∀ j, j ≠ i → f' j = f j) : ck_Ms E Γ (h.set p (.inl (tc, len, y'))) ρ (ck_rm1 n es0 q r K ix v) := by
  unfold ck_rm1
  split
  · next hc =>
    simp only [Bool.and_eq_true, Bool.or_eq_true, Bool.not_eq_true', beq_iff_eq, beq_eq_false_iff_ne] at hc
    obtain ⟨⟨⟨⟨ht, h1⟩, h2⟩, hK⟩, tv⟩ := hc
    have st : ∀ σ, ∃ (g' : Nat → Option Nat) (p2 m2 tc2 : Nat) (f2 : Nat → Int32), y' = .inr (.inr (.inr (.inr g'))) ∧ (p : Int) = (ρ ++ σ).getD q.2.1 0 ∧ (p2 : Int) = (ρ ++ σ).getD q.2.2.2.2.2.2.1 0 ∧ Γ[p2]? = some (q.2.2.2.1, m2) ∧ h[p2]? = some (.inl (tc2, len, .inl f2)) ∧ p ≠ p2 ∧ g' i ≠ none ∧ ∀ j : Nat, j < len → (j : Int) ≠ ck_ev (ρ ++ σ) ix → (g' j = none ↔ f2 j = 0) := by
      intro σ
      obtain ⟨p1, m1, tc1, nn, g, p2, m2, tc2, f2, e1, e2, e3, e4, e5, e6, e7, -⟩ := ck_M17 ht (hq σ)
      have hpσ := hp σ
      rw [h1] at e1
      have : p1 = p := by omega
      subst this
      cases ha.symm.trans e3
      have htc : tc = 5 ∨ tc = 6 := hsh0
      obtain ⟨pp, hx, -⟩ := ck_D3 (hv σ) tv
      rcases y' with f' | f' | f' | f' | g'
      · have hsh : tc = 0 ∨ tc = 1 ∨ tc = 3 ∨ tc = 4 := hsh
        omega
      · have hsh : tc = 2 := hsh
        omega
      · exact hsh.elim
      · exact hsh.elim
      · refine ⟨g', p2, m2, tc2, f2, rfl, by rw [h1]; exact hpσ, e4, e5, e6, ?_, ?_, fun j hj hj2 => ?_⟩
        · intro z
          subst z
          have := Option.some.inj (hg.symm.trans e5)
          exact hK (h2.trans (congrArg Prod.fst this))
        · intro z
          have hnew : va_rf (g' i) = x' := hnew
          rw [ck_rf_null.mpr z, hx] at hnew
          cases hnew
        · have hji : j ≠ i := fun z => hj2 (by rw [z]; exact hi σ)
          have := ck_rf_inj (ho j hji)
          rw [this]
          exact e7 j hj hj2
    intro q' hq' σ
    rw [List.mem_singleton.mp hq']
    obtain ⟨g', p2, m2, tc2, f2, hy, e1, e4, e5, e6, hpp, hgi, e7⟩ := st σ
    subst hy
    refine ⟨p, m, tc, len, g', p2, m2, tc2, f2, e1, by show Γ[p]? = some (q.2.2.1, m); rw [h2]; exact hg, ck_set_eq ha, e4, e5, ck_set_ne hpp e6, fun j hj => ⟨e7 j hj, fun heq => ?_⟩⟩
    have heq : (j : Int) = ck_ev (ρ ++ σ) ix := heq
    have hiσ := hi σ
    have : j = i := by omega
    rw [this]
    exact hgi
  · split
    · next hc =>
      simp only [Bool.and_eq_true, Bool.or_eq_true, Bool.not_eq_true', beq_iff_eq, beq_eq_false_iff_ne, decide_eq_true_eq] at hc
      obtain ⟨⟨⟨⟨⟨ht, h1⟩, h2⟩, hK⟩, tv⟩, hpos⟩ := hc
      have ht2 : q.1 = 16 ∨ (q.1 = 17 ∧ ck_aeq q.2.2.2.2.1 ix = true) := by
        rcases ht with ht | ht
        · exact Or.inr ht
        · exact Or.inl ht.1
      have e0 : (0 : Int32).toInt = 0 := rfl
      have st : ∀ σ, ∃ (f' : Nat → Int32) (p1 m1 tc1 : Nat) (g : Nat → Option Nat), y' = .inl f' ∧ (p : Int) = (ρ ++ σ).getD q.2.2.2.2.2.2.1 0 ∧ (p1 : Int) = (ρ ++ σ).getD q.2.1 0 ∧ Γ[p1]? = some (q.2.2.1, m1) ∧ h[p1]? = some (.inl (tc1, len, .inr (.inr (.inr (.inr g))))) ∧ p ≠ p1 ∧ g i ≠ none ∧ ∀ j : Nat, j < len → (j : Int) ≠ ck_ev (ρ ++ σ) ix → (g j = none ↔ f' j = 0) := by
        intro σ
        obtain ⟨p1, m1, tc1, nn, g, p2, m2, tc2, f2, e1, e2, e3, e4, e5, e6, e7, e8⟩ := ck_M17 ht2 (hq σ)
        have hpσ := hp σ
        rw [h1] at e4
        have : p2 = p := by omega
        subst this
        cases ha.symm.trans e6
        obtain ⟨f', hy, hne⟩ := hf f2 rfl
        refine ⟨f', p1, m1, tc1, g, hy, by rw [h1]; exact hpσ, e1, e2, e3, ?_, ?_, fun j hj hj2 => ?_⟩
        · intro z
          subst z
          have := Option.some.inj (hg.symm.trans e2)
          exact hK ((congrArg Prod.fst this).symm.trans h2.symm)
        · rcases ht with ht | ht
          · exact e8 ht.1 i hil (hi σ)
          · cases hw : ck_f1 es0 q.2.1 q.2.2.1 ix with
            | none =>
              have h3 := ht.2
              rw [hw] at h3
              cases h3
            | some w =>
              have h3 := ht.2
              rw [hw] at h3
              obtain ⟨a0, hq1⟩ := ck_f1_mem hw
              obtain ⟨p3, m3, tc3, n3, y3, i3, g1, g2, g3, g4, g5, g6⟩ := hm0 _ hq1 σ
              have g1 : (p3 : Int) = (ρ ++ σ).getD q.2.1 0 := g1
              have : p3 = p1 := by omega
              subst this
              cases g3.symm.trans e3
              have g4 : (i3 : Int) = ck_ev (ρ ++ σ) ix := g4
              have hiσ := hi σ
              have : i3 = i := by omega
              subst this
              obtain ⟨a, ha2⟩ := (ck_nu_ok (hn σ) g6).2 h3
              intro z
              have ha2 : va_rf (g i3) = .ref a := ha2
              rw [ck_rf_null.mpr z] at ha2
              cases ha2
        · have hji : j ≠ i := fun z => hj2 (by rw [z]; exact hi σ)
          rw [hne j hji]
          exact e7 j hj hj2
      intro q' hq' σ
      rw [List.mem_singleton.mp hq']
      obtain ⟨f', p1, m1, tc1, g, hy, e1, e4, e5, e6, hpp, hgi, e7⟩ := st σ
      subst hy
      have hv' : ck_D E Γ (ρ ++ σ) v (.int (f' i)) := by
        have := hv σ
        rw [← hnew] at this
        exact this
      have hlo := ck_bd (hn σ) hv' tv
      have hfi : f' i ≠ 0 := fun z => by
        rw [z, e0] at hlo
        omega
      refine ⟨p1, m1, tc1, len, g, p, m, tc, f', e4, e5, ck_set_ne hpp e6, e1, by show Γ[p]? = some (q.2.2.2.1, m); rw [h2]; exact hg, ck_set_eq ha, fun j hj => ?_⟩
      by_cases hji : j = i
      · rw [hji]
        exact ⟨fun z => absurd z hgi, fun z => absurd z hfi⟩
      · exact e7 j hj (fun z => hji (by have := hi σ; omega))
    · exact ck_Ms_nil
theorem ck_rm_ok {es0 : List ck_Q} {r K p m tc len i : Nat} {ix : ck_A} {v : ck_V} {x' : Value} {y y' : (Nat → Int32) ⊕ (Nat → Int64) ⊕ (Nat → UInt32) ⊕ (Nat → UInt64) ⊕ (Nat → Option Nat)} (hn : ∀ σ, ck_nok n (ρ ++ σ)) (hm0 : ck_Ms E Γ h ρ es0) (hp : ∀ σ, (p : Int) = (ρ ++ σ).getD r 0) (hg : Γ[p]? = some (K, m)) (ha : h[p]? = some (.inl (tc, len, y))) (hi : ∀ σ, (i : Int) = ck_ev (ρ ++ σ) ix) (hil : i < len) (hv : ck_Ds E Γ ρ v x') (ho : ∀ j, j ≠ i → ck_el y' j = ck_el y j) (hnew : ck_el y' i = x') (hsh : ck_sh tc y') (hsh0 : ck_sh tc y) (hf : ∀ f, y = .inl f → ∃ f', y' = .inl f' ∧ ∀ j, j ≠ i → f' j = f j) : ∀ {es : List ck_Q}, ck_Ms E Γ h ρ es → ck_Ms E Γ (h.set p (.inl (tc, len, y'))) ρ (ck_rm n es0 es r K ix v)
  | [], _ => fun q hq => by cases hq
  | q :: l, hm => by
    unfold ck_rm
    intro q' hq' σ
    rcases List.mem_append.mp hq' with hq' | hq'
    · exact ck_rm1_ok hn hm0 (hm q List.mem_cons_self) hp hg ha hi hil hv ho hnew hsh hsh0 hf q' hq' σ
    · exact ck_rm_ok hn hm0 hp hg ha hi hil hv ho hnew hsh hsh0 hf (fun q2 hq2 => hm q2 (List.mem_cons_of_mem _ hq2)) q' hq' σ
/-- an image is put into its place -/
theorem ck_a18_1 {q : ck_Q} {K r p m tc len i : Nat} {ix : ck_A} {v : ck_V} {x' : Value} {y y' : ((Nat → Int32) ⊕ (Nat → Int64) ⊕ (Nat → UInt32) ⊕ (Nat → UInt64) ⊕ (Nat → Option Nat))} (hΓ : Γ.length = h.length) (hE3 : ∀ (p tc nn : Nat) (g : Nat → Option Nat) (m : Nat), Γ[p]? = some (71, m) → h[p]? = some (.inl (tc, nn, .inr (.inr (.inr (.inr g))))) → nn = 3) (t : q.1 = 18) (hn : ck_nok n ρ) (hm : ∀ q ∈ es, ck_M E Γ h ρ q) (M : ck_M E Γ h ρ q) (hp : (p : Int) = ρ.getD r 0) (hg : Γ[p]? = some (K, m)) (ha : h[p]? = some (.inl (tc, len, y))) (hi : (i : Int) = ck_ev ρ ix) (hv : ck_D E Γ ρ v x') (ho : ∀ j, j ≠ i → ck_el y' j = ck_el y j) (hnew : ck_el y' i = x') (hsh : ck_sh tc y') (hsh0 : ck_sh tc y) : ∀ q' ∈ ck_a18 n es K r ix v q, ck_M E Γ (h.set p (.inl (tc, len, y'))) ρ q' := by
  unfold ck_a18
  split
  · intro q' hq'
    cases hq'
  rename_i h78
  split
  · next h71 =>
    subst h71
    split
    · next hc =>
      simp only [Bool.and_eq_true, beq_iff_eq, Bool.not_eq_true'] at hc
      obtain ⟨⟨⟨⟨c1, c2⟩, c3⟩, c4⟩, c5⟩ := hc
      intro q' hq'
      rw [List.mem_singleton.mp hq']
      unfold ck_M at M
      rw [t] at M
      obtain ⟨p1, m1, tc1, nn, g, p2, m2, tc2, n2, f2, t0, T, I, a1, a2, a3, a4, a5, a6, a7, X⟩ := M
      rw [c1] at a1
      have : p1 = p := by omega
      subst this
      have h3 := hE3 _ _ _ _ _ a2 a3
      cases ha.symm.trans a3
      have htc : tc = 5 ∨ tc = 6 := hsh0
      obtain ⟨g', rfl⟩ : ∃ g', y' = .inr (.inr (.inr (.inr g'))) := by
        rcases y' with f | f | f | f | f
        · have hsh : tc = 0 ∨ tc = 1 ∨ tc = 3 ∨ tc = 4 := hsh
          omega
        · have hsh : tc = 2 := hsh
          omega
        · exact hsh.elim
        · exact hsh.elim
        · exact ⟨f, rfl⟩
      obtain ⟨a0, d1, d2, md, d3, -⟩ := ck_D3 hv c2
      have ha0 : a0 < h.length := by rw [← hΓ]; exact (List.getElem?_eq_some_iff.mp d3).1
      have gi : g' i = some (E.1 + a0) := ck_rfo (hnew.trans d1)
      have gj : ∀ j, j ≠ i → g' j = g j := fun j hj => ck_rf_inj (ho j hj)
      have hb : ck_bo ρ q.2.2.2.2.2.2.2.2.2 = some (ck_ev ρ q.2.2.2.2.2.2.2.2.2) := ck_bo_some c4
      have new : ∀ f ∈ ck_pfs, ∃ b : Nat, ck_po E h a0 f = some b ∧ b < h.length ∧ ck_ev ρ q.2.2.2.2.2.2.2.2.2 ≤ (b : Int) := by
        intro f hf
        have := List.all_eq_true.mp c5 f hf
        unfold ck_obl at this
        split at this
        · next o hob =>
          obtain ⟨b, b1, b2, b3⟩ := ck_ob1 hn hm d2 hob
          have b4 := ck_le_ok hn this
          rw [ck_sub_ev, ck_ev_v] at b4
          refine ⟨b, b2, ?_, by omega⟩
          by_cases h0 : f = 0
          · subst h0
            have b2 : some a0 = some b := b2
            cases b2
            exact ha0
          · rw [← hΓ]
            exact b3 h0
        · cases this
      obtain ⟨x1, x2, x3⟩ := X
      have hl : (h.set p1 (.inl (tc, len, .inr (.inr (.inr (.inr g')))))).length = h.length := List.length_set
      have po' : ∀ {t f o : Nat}, ck_po E h t f = some o → ck_po E (h.set p1 (.inl (tc, len, .inr (.inr (.inr (.inr g')))))) t f = some o := fun e => ck_po_to e fun v _ e2 => ck_fd_arr a3 e2
      have hp2 : p1 ≠ p2 := fun z => by
        subst z
        cases a3.symm.trans a6
      refine ⟨p1, m1, tc, len, g', p2, m2, tc2, n2, f2, t0, T, fun i' f => if i' = i then (ck_po E h a0 f).getD 0 else I i' f, hp, a2, ck_set_eq a3, a4, a5, ck_set_ne hp2 a6, a7, fun b hb => (by cases hb), fun f hf => ?_, fun i' hi' a hga => ?_⟩
      · obtain ⟨e1, e2, e3⟩ := x2 f hf
        exact ⟨po' e1, by rw [hl]; exact e2, fun b hb => (by cases hb)⟩
      · by_cases hii : i' = i
        · subst hii
          rw [gi] at hga
          cases hga
          refine ⟨Nat.le_add_right _ _, fun f hf => ?_, fun hmd => ?_⟩
          · obtain ⟨b, b1, b2, b3⟩ := new f hf
            dsimp only
            rw [if_pos rfl, b1]
            show ck_po E _ (E.1 + a0 - E.1) f = some b ∧ b < _ ∧ _ ∧ b ≠ T f ∧ _
            rw [Nat.add_sub_cancel_left]
            refine ⟨po' b1, by rw [hl]; exact b2, fun b hb => (by cases hb), fun z => ?_, fun j hj hji hgj => ?_⟩
            · have := (x2 f hf).2.2 _ hb
              omega
            · rw [if_neg hji]
              show I j f ≠ b
              rw [gj j hji] at hgj
              cases hq : g j with
              | none => exact absurd hq hgj
              | some a2' =>
                have := ((x3 j hj _ hq).2.1 f hf).2.2.1 _ hb
                omega
          · rcases hmd with z | z
            · cases z
            · exact absurd hi z
        · rw [gj i' hii] at hga
          obtain ⟨y1, y2, y3⟩ := x3 i' hi' a hga
          refine ⟨y1, fun f hf => ?_, fun hmd L hL => ?_⟩
          · obtain ⟨e1, e2, e3, e4, e5⟩ := y2 f hf
            dsimp only
            rw [if_neg hii]
            refine ⟨po' e1, by rw [hl]; exact e2, fun b hb => (by cases hb), e4, fun j hj hji hgj => ?_⟩
            by_cases hj2 : j = i
            · rw [if_pos hj2]
              obtain ⟨b, b1, b2, b3⟩ := new f hf
              rw [b1]
              show b ≠ I i' f
              have := e3 _ hb
              omega
            · rw [if_neg hj2]
              exact e5 j hj hji (by rw [← gj j hj2]; exact hgj)
          · show ck_fd _ (if i' = i then _ else I i' L.1) L.2.1 L.2.2.1 = _
            rw [if_neg hii]
            refine ck_fd_arr a3 (y3 ?_ L hL)
            rcases Bool.or_eq_true_iff.mp c3 with z | z
            · exact Or.inl (by simpa using z)
            · right
              rw [ck_aeq_ok z, ← hi]
              omega
    · intro q' hq'
      cases hq'
  · next h71 =>
    intro q' hq'
    rw [List.mem_singleton.mp hq']
    refine ck_M18_to t M ck_ext.rf (by rw [List.length_set]; exact Nat.le_refl _) (fun p0 m0 x e1 e2 => ck_set_ne (fun z => ?_) e2) (fun p0 ci0 k0 v0 _ e => ck_fd_arr ha e)
    subst z
    rcases e1 with e1 | e1
    · have := Option.some.inj (hg.symm.trans e1)
      exact h71 (congrArg Prod.fst this)
    · have := Option.some.inj (hg.symm.trans e1)
      exact h78 (congrArg Prod.fst this)
theorem ck_a18s_1 {K r p m tc len i : Nat} {ix : ck_A} {v : ck_V} {x' : Value} {y y' : ((Nat → Int32) ⊕ (Nat → Int64) ⊕ (Nat → UInt32) ⊕ (Nat → UInt64) ⊕ (Nat → Option Nat))} (hΓ : Γ.length = h.length) (hE3 : ∀ (p tc nn : Nat) (g : Nat → Option Nat) (m : Nat), Γ[p]? = some (71, m) → h[p]? = some (.inl (tc, nn, .inr (.inr (.inr (.inr g))))) → nn = 3) (hn : ck_nok n ρ) (hm : ∀ q ∈ es, ck_M E Γ h ρ q) (hp : (p : Int) = ρ.getD r 0) (hg : Γ[p]? = some (K, m)) (ha : h[p]? = some (.inl (tc, len, y))) (hi : (i : Int) = ck_ev ρ ix) (hv : ck_D E Γ ρ v x') (ho : ∀ j, j ≠ i → ck_el y' j = ck_el y j) (hnew : ck_el y' i = x') (hsh : ck_sh tc y') (hsh0 : ck_sh tc y) : ∀ {l : List ck_Q}, (∀ q ∈ l, ck_M E Γ h ρ q) → ∀ q' ∈ ck_a18s n es K r ix v l, ck_M E Γ (h.set p (.inl (tc, len, y'))) ρ q'
  | [], _, q', hq' => by cases hq'
  | q :: l, hl, q', hq' => by
    have ih := ck_a18s_1 hΓ hE3 hn hm hp hg ha hi hv ho hnew hsh hsh0 (l := l) (fun q2 hq2 => hl q2 (List.mem_cons_of_mem _ hq2))
    unfold ck_a18s at hq'
    split at hq'
    · next t =>
      rcases List.mem_append.mp hq' with hq' | hq'
      · exact ck_a18_1 hΓ hE3 t hn hm (hl q List.mem_cons_self) hp hg ha hi hv ho hnew hsh hsh0 q' hq'
      · exact ih q' hq'
    · exact ih q' hq'
theorem ck_as_core {K r p m i c : Nat} {k : Nat × Nat × Nat × ck_S} {ix : ck_A} {v : ck_V} {x' : Value} {rs : List ck_V} {cr : List Value} {y y' : (Nat → Int32) ⊕ (Nat → Int64) ⊕ (Nat → UInt32) ⊕ (Nat → UInt64) ⊕ (Nat → Option Nat)} (hB : 0 ≤ B) (hl : ρ.length = n.1.length) (t : ck_HT E B Γ h) (hn : ∀ σ, ck_nok n (ρ ++ σ)) (hr : ck_Ls (ck_Ds E Γ ρ) rs cr) (hm : ck_Ms E Γ h ρ es) (hp : ∀ σ, (p : Int) = (ρ ++ σ).getD r 0) (hg : Γ[p]? = some (K, m)) (hk : ck_ak K = some k) (ha : h[p]? = some (.inl (k.1, k.2.1, y))) (hrw : ck_rw k.2.2.1 y) (hty : ∀ i : Nat, i < k.2.1 → ck_vs E B Γ (ck_es k.2.2.1 k.2.2.2 i) (ck_el y i)) (hi : ∀ σ, (i : Int) = ck_ev (ρ ++ σ) ix) (hil : i < k.2.1) (hv : ck_Ds E Γ ρ v x') (e : ck_stv n es r K k ix v = some c) (hw : (K = 77 → ck_win W 77 (ck_reg i) = true) ∧ (K ≠ 77 → ck_win W K 0 = true))
    (hsh : ck_sh k.1 y') (ho : ∀ j, j ≠ i → ck_el y' j = ck_el y j) (hnew : ck_el y' i = x') (hf : ∀ f, y = .inl f → ∃ f', y' = .inl f' ∧ ∀ j, j ≠ i → f' j = f j) (hf' : ∀ f', y' = .inl f' → ∃ f, y = .inl f) :
    ck_J E Γ (B + c) ρ (ck_rc3 k.2.1 n (ck_cnt n es K r ix v 0 (ck_cnt n es K r ix v 1 ((1, r, K, 0, ix, v) :: es.filter (ck_ka n K r ix))))) rs (ck_a18s n es K r ix v es ++ (ck_rm n es es r K ix v ++ (ck_rl es es r K ix v ++ (if k.2.2.1 = 3 then ck_pre4 n r K (ck_cnt n es K r ix v 0 (ck_cnt n es K r ix v 1 ((1, r, K, 0, ix, v) :: es.filter (ck_ka n K r ix)))) else ck_cnt n es K r ix v 0 (ck_cnt n es K r ix v 1 ((1, r, K, 0, ix, v) :: es.filter (ck_ka n K r ix))))))) cr (h.set p (.inl (k.1, k.2.1, y'))) ∧ ck_Fr W Γ h (h.set p (.inl (k.1, k.2.1, y'))) ∧ cz_sz (h.set p (.inl (k.1, k.2.1, y'))) = cz_sz h := by
  obtain ⟨J, F, Z⟩ := ck_as_core1 (W := W) hB hl t hn hr hm hp hg hk ha hrw hty hi hil hv e hw hsh ho hnew hf hf'
  obtain ⟨y0, ha0, hsh0, -, -⟩ := ck_arr t hg hk
  cases ha.symm.trans ha0
  refine ⟨⟨J.1, J.2.1, J.2.2.1, J.2.2.2.1, fun q hq σ => ?_⟩, F, Z⟩
  rcases List.mem_append.mp hq with hq | hq
  · exact ck_a18s_1 t.1 (ck_n3 t) (hn σ) (fun q' hq' => hm q' hq' σ) (hp σ) hg ha (hi σ) (hv σ) ho hnew hsh hsh0 (fun q' hq' => hm q' hq' σ) q hq
  rcases List.mem_append.mp hq with hq | hq
  · exact ck_rm_ok hn hm hp hg ha hi hil hv ho hnew hsh hsh0 hf hm q hq σ
  · exact J.2.2.2.2 q hq σ
end CKS2
