/-! THE CHECKER IS SOUND: an element is written, by each instruction -/
theorem ck_grd_of {i : Nat} (h : ck_grd (i : Int) = false) {s l : Nat} (hs : s < 10) (hl : l < 16) : i ≠ 1103 + 260 * s ∧ i ≠ 1104 + 260 * s + 16 * l ∧ i ≠ 1105 + 260 * s + 16 * l := by
  have key : ∀ j : Int, (j = 3 ∨ (4 ≤ j ∧ (j - 4) % 16 < 2)) → (i : Int) = 1100 + 260 * (s : Int) + j → 0 ≤ j → j < 260 → False := by
    intro j hj hi h0 h1
    have e : ((i : Int) - 1100) % 260 = j := by omega
    have a1 : decide (1100 ≤ (i : Int)) = true := decide_eq_true (by omega)
    have a2 : decide ((i : Int) < 3700) = true := decide_eq_true (by omega)
    unfold ck_grd at h
    rw [e, a1, a2] at h
    rcases hj with hj | ⟨h2, h3⟩
    · rw [decide_eq_true hj] at h
      cases h
    · rw [decide_eq_true h2, decide_eq_true h3, Bool.and_true, Bool.or_true] at h
      cases h
  refine ⟨fun z => key 3 (Or.inl rfl) (by omega) (by omega) (by omega), fun z => key (4 + 16 * (l : Int)) (Or.inr ⟨by omega, by omega⟩) (by omega) (by omega) (by omega), fun z => key (5 + 16 * (l : Int)) (Or.inr ⟨by omega, by omega⟩) (by omega) (by omega) (by omega)⟩
theorem ck_nar_char {z : Int32} (h0 : 0 ≤ z.toInt) (h1 : z.toInt ≤ 65535) : vp_nar .char z = z := by
  obtain ⟨e1, l1⟩ := ck_nn h0
  show z.toUInt32.toUInt16.toUInt32.toInt32 = z
  apply Int32.toInt_inj.mp
  have : (z.toUInt32.toUInt16.toUInt32.toInt32).toBitVec.toNat = z.toBitVec.toNat := by
    show (z.toUInt32.toUInt16.toUInt32).toNat = z.toBitVec.toNat
    rw [UInt16.toNat_toUInt32, UInt32.toNat_toUInt16]
    show z.toBitVec.toNat % 2 ^ 16 = z.toBitVec.toNat
    exact Nat.mod_eq_of_lt (by omega)
  rw [ck_of this l1, e1]
section CKS2
variable {E : cz_E} {Γ : ck_G} {B : Int} {ρ : List Int} {n n' : ck_N} {st st' : List ck_V} {es es' : List ck_Q} {cst : List Value} {h : cz_H} {W : List (Nat × Nat)}
theorem ck_stv_int {r K c : Nat} {k : Nat × Nat × Nat × ck_S} {ix : ck_A} {v : ck_V} (e : ck_stv n es r K k ix v = some c) (hk : 0 < k.2.2.1 ∨ k.2.2.2.1 = 0 ∨ k.2.2.2.1 = 4) : v.1 = 0 := by
  unfold ck_stv at e
  split at e
  · split at e
    · split at e
      · assumption
      · cases e
    · split at e
      · next hf =>
        have h0 : k.2.2.2.1 = 0 := by omega
        unfold ck_fit at hf
        rw [h0] at hf
        simp only [Bool.and_eq_true, beq_iff_eq] at hf
        exact hf.1
      · cases e
  · split at e
    · next hc => exact hc.1
    · cases e
  · split at e
    · next hc => exact hc.1
    · cases e
  · cases e
theorem ck_stv_fit {r K c : Nat} {k : Nat × Nat × Nat × ck_S} {ix : ck_A} {v : ck_V} (e : ck_stv n es r K k ix v = some c) (h0 : k.2.2.1 = 0) (h4 : k.2.2.2.1 ≠ 4) : ck_fit n v k.2.2.2 = true := by
  unfold ck_stv at e
  rw [h0] at e
  simp only [if_neg h4] at e
  split at e
  · assumption
  · cases e
/-- behind the store -/
theorem ck_as_core {K r p m i c : Nat} {k : Nat × Nat × Nat × ck_S} {ix : ck_A} {v : ck_V} {x' : Value} {rs : List ck_V} {cr : List Value} {y y' : (Nat → Int32) ⊕ (Nat → Int64) ⊕ (Nat → UInt32) ⊕ (Nat → UInt64) ⊕ (Nat → Option Nat)} (hB : 0 ≤ B) (hl : ρ.length = n.1.length) (t : ck_HT E B Γ h) (hn : ∀ σ, ck_nok n (ρ ++ σ)) (hr : ck_Ls (ck_Ds E Γ ρ) rs cr) (hm : ck_Ms E Γ h ρ es) (hp : ∀ σ, (p : Int) = (ρ ++ σ).getD r 0) (hg : Γ[p]? = some (K, m)) (hk : ck_ak K = some k) (ha : h[p]? = some (.inl (k.1, k.2.1, y))) (hrw : ck_rw k.2.2.1 y) (hty : ∀ i : Nat, i < k.2.1 → ck_vs E B Γ (ck_es k.2.2.1 k.2.2.2 i) (ck_el y i)) (hi : ∀ σ, (i : Int) = ck_ev (ρ ++ σ) ix) (hil : i < k.2.1) (hv : ck_Ds E Γ ρ v x') (e : ck_stv n es r K k ix v = some c) (hw : ck_win W K 0 = true)
    (hsh : ck_sh k.1 y') (ho : ∀ j, j ≠ i → ck_el y' j = ck_el y j) (hnew : ck_el y' i = x') (hf : ∀ f, y = .inl f → ∃ f', y' = .inl f' ∧ ∀ j, j ≠ i → f' j = f j) (hf' : ∀ f', y' = .inl f' → ∃ f, y = .inl f) :
    ck_J E Γ (B + c) ρ (ck_rc3 k.2.1 n (ck_cnt n es K r ix v 0 (ck_cnt n es K r ix v 1 ((1, r, K, 0, ix, v) :: es.filter (ck_ka n K r ix))))) rs (if k.2.2.1 = 3 then ck_pre4 n r K (ck_cnt n es K r ix v 0 (ck_cnt n es K r ix v 1 ((1, r, K, 0, ix, v) :: es.filter (ck_ka n K r ix)))) else ck_cnt n es K r ix v 0 (ck_cnt n es K r ix v 1 ((1, r, K, 0, ix, v) :: es.filter (ck_ka n K r ix)))) cr (h.set p (.inl (k.1, k.2.1, y'))) ∧ ck_Fr W Γ h (h.set p (.inl (k.1, k.2.1, y'))) ∧ cz_sz (h.set p (.inl (k.1, k.2.1, y'))) = cz_sz h := by
  obtain ⟨hvs, hgr, h2⟩ := ck_stv_ok hB hn hm hp hg ha hty hi hil hv e
  have hcell : ck_cell E (B + c) Γ (K, m) (.inl (k.1, k.2.1, y')) := by
    unfold ck_ak at hk
    split at hk
    · next rr hrr =>
      cases hk
      unfold ck_cell
      simp only [hrr]
      refine ⟨y', rfl, hsh, ?_, fun j hj => ?_⟩
      · unfold ck_rw at hrw ⊢
        split
        · next f' =>
          obtain ⟨f, hf1⟩ := hf' f' rfl
          subst hf1
          obtain ⟨f2, hf2, hf3⟩ := hf f rfl
          cases hf2
          refine ⟨fun t1 => ?_, fun t2 => absurd t2 h2⟩
          intro s l hs hl2 hlt
          have hg1 := hgr t1
          obtain ⟨g1, g2, g3⟩ := ck_grd_of hg1 hs hl2
          rw [hf3 _ (by omega)] at hlt
          rw [hf3 _ (by omega), hf3 _ (by omega)]
          exact hrw.1 t1 s l hs hl2 hlt
        · trivial
      · by_cases hj2 : j = i
        · subst hj2
          rw [hnew]
          exact hvs
        · rw [ho j hj2]
          exact (hty j hj).mono ck_ext.rf (by omega)
    · cases hk
  have t' := ck_HT.putA t (show B ≤ B + c by omega) hg hcell
  have hm1 : ck_Ms E Γ (h.set p (.inl (k.1, k.2.1, y'))) ρ ((1, r, K, 0, ix, v) :: es.filter (ck_ka n K r ix)) := by
    intro q hq σ
    rcases List.mem_cons.mp hq with rfl | hq
    · exact ⟨p, m, k.1, k.2.1, y', i, hp σ, hg, ck_set_eq ha, hi σ, hil, by rw [hnew]; exact hv σ⟩
    · obtain ⟨q1, q2⟩ := List.mem_filter.mp hq
      exact ck_ka_ok (hm q q1 σ) (hn σ) hg ha (hi σ) ho hf q2 (hp σ)
  have hm2 := ck_cnt_ok (w := 1) hn hm hp hg ha hi hil hv ho hnew hm1
  have hm3 := ck_cnt_ok (w := 0) hn hm hp hg ha hi hil hv ho hnew hm2
  have hrc := ck_rc3_ok (len := k.2.1) (l := ck_cnt n es K r ix v 0 (ck_cnt n es K r ix v 1 ((1, r, K, 0, ix, v) :: es.filter (ck_ka n K r ix)))) hn hl (by
    intro q hq tq σ
    have hmem : q ∈ ck_cnt n es K r ix v 0 (ck_cnt n es K r ix v 1 ((1, r, K, 0, ix, v) :: es.filter (ck_ka n K r ix))) := List.mem_of_mem_head? (by rw [hq]; exact rfl)
    have root : ∀ {w : Nat} {l : List ck_Q}, (∀ q, l.head? = some q → q.1 = 3 → q.2.1 = r) → ∀ q, (ck_cnt n es K r ix v w l).head? = some q → q.1 = 3 → q.2.1 = r := by
      intro w l hl2 q hq tq
      unfold ck_cnt at hq
      split at hq
      · split at hq
        · cases hq; rfl
        · exact hl2 q hq tq
      · exact hl2 q hq tq
    have hroot : q.2.1 = r := root (root (fun q hq tq => by cases hq; cases tq)) q hq tq
    have hM := hm3 q hmem σ
    unfold ck_M at hM
    rw [tq] at hM
    obtain ⟨p1, m1, tc1, n1, y1, d1, d2, d3, d4⟩ := hM
    rw [hroot] at d1
    have := hp σ
    have : p1 = p := by omega
    subst this
    cases (ck_set_eq ha).symm.trans d3
    have := ck_cn_le (ck_el y') (ck_P01 q.2.2.2.1) k.2.1
    rw [← d4]
    omega)
  refine ⟨⟨hrc.1, t', hrc.2, hr, ?_⟩, ck_Fr.arr hg ha hw, cz_sz_set ha rfl⟩
  split
  · exact ck_pre4_ok (p := p) hn hm3
  · exact hm3
end CKS2
