/-! FX: what is to be shown of the entries -/
theorem q202_4 (S : fx_S) (x1 x2 x3 : Int) (hS : fx_Sok S) (g1 : -2147483648 ≤ x1 ∧ x1 ≤ 2147483647) (g2 : -2147483648 ≤ x2 ∧ x2 ≤ 2147483647) (g3 : -2147483648 ≤ x3 ∧ x3 ≤ 2147483647) (v3 : Int) (e3 : v3 = S.1 67 10) (b3 : -2147483648 ≤ v3 ∧ v3 ≤ 2147483647) (c1 : x1 = v3) (v4 : Int) (e4 : v4 = S.1 66 33) (b4 : -2147483648 ≤ v4 ∧ v4 ≤ 2147483647) (c2 : x3 = v4) (v5 : Int) (e5 : v5 = S.1 66 34) (b5 : -2147483648 ≤ v5 ∧ v5 ≤ 2147483647) (v6 : Int) (e6 : v6 = fx_add v5 1) (S1 : fx_S) (d1 : S1 = (fx_up S.1 66 34 v6, S.2)) (v7 : Int) (e7 : v7 = S1.1 66 33) (b7 : -2147483648 ≤ v7 ∧ v7 ≤ 2147483647) (c3 : x3 ≤ v7) : s202 S x1 x2 x3 0 S1 := by
  refine ⟨(show S1.2 = S.2 by rw [d1]), ?_⟩
  · intro p i hW
    clear c3 b7 e7 e6 b5 e5 c2 b4 e4 c1 b3 e3
    exact (show S1.1 p i = S.1 p i by rw [d1]; exact if_neg (by omega))
theorem q203_0 (S : fx_S) (hS : fx_Sok S) (z : Int) (Z : fx_S) (kz : fx_Sok Z) (bz : -2147483648 ≤ z ∧ z ≤ 2147483647) (pz : s287 S 0 0 z Z) : s203 S  z Z := by
  obtain rfl : S = Z := pz
  exact rfl
theorem q204_0 (S : fx_S) (hS : fx_Sok S) (v0 : Int) (e0 : v0 = S.1 67 12) (b0 : -2147483648 ≤ v0 ∧ v0 ≤ 2147483647) (v1 : Int) (e1 : v1 = S.1 67 13) (b1 : -2147483648 ≤ v1 ∧ v1 ≤ 2147483647) (v2 : Int) (e2 : v2 = fx_add v0 v1) (v3 : Int) (e3 : v3 = S.1 67 14) (b3 : -2147483648 ≤ v3 ∧ v3 ≤ 2147483647) (v4 : Int) (e4 : v4 = fx_add v2 v3) (v5 : Int) (e5 : v5 = S.1 67 15) (b5 : -2147483648 ≤ v5 ∧ v5 ≤ 2147483647) (v6 : Int) (e6 : v6 = fx_add v4 v5) : s204 S  v6 S := by
  exact rfl
theorem q205_0 (S : fx_S) (x2 x3 : Int) (hS : fx_Sok S) (g2 : -2147483648 ≤ x2 ∧ x2 ≤ 2147483647) (g3 : -2147483648 ≤ x3 ∧ x3 ≤ 2147483647) (c1 : 4 ≤ x3) : s205 S x2 x3 x2 S := by
  exact rfl
theorem q205_1 (S : fx_S) (x2 x3 : Int) (hS : fx_Sok S) (g2 : -2147483648 ≤ x2 ∧ x2 ≤ 2147483647) (g3 : -2147483648 ≤ x3 ∧ x3 ≤ 2147483647) (c1 : x3 < 4) (c2 : 0 ≤ x3) (c3 : x3 < 4) (v2 : Int) (e2 : v2 = S.1 87 x3) (b2 : -2147483648 ≤ v2 ∧ v2 ≤ 2147483647) (c4 : v2 ≠ (-1)) (v3 : Int) (e3 : v3 = fx_add x2 1) (v4 : Int) (e4 : v4 = fx_add x3 1) (z : Int) (Z : fx_S) (kz : fx_Sok Z) (bz : -2147483648 ≤ z ∧ z ≤ 2147483647) (pz : s205 S v3 v4 z Z) : s205 S x2 x3 z Z := by
  obtain rfl : S = Z := pz
  exact rfl
theorem q205_2 (S : fx_S) (x2 x3 : Int) (hS : fx_Sok S) (g2 : -2147483648 ≤ x2 ∧ x2 ≤ 2147483647) (g3 : -2147483648 ≤ x3 ∧ x3 ≤ 2147483647) (c1 : x3 < 4) (c2 : 0 ≤ x3) (c3 : x3 < 4) (v2 : Int) (e2 : v2 = S.1 87 x3) (b2 : -2147483648 ≤ v2 ∧ v2 ≤ 2147483647) (c4 : v2 = (-1)) (v3 : Int) (e3 : v3 = fx_add x2 0) (v4 : Int) (e4 : v4 = fx_add x3 1) (z : Int) (Z : fx_S) (kz : fx_Sok Z) (bz : -2147483648 ≤ z ∧ z ≤ 2147483647) (pz : s205 S v3 v4 z Z) : s205 S x2 x3 z Z := by
  obtain rfl : S = Z := pz
  exact rfl
theorem q206_0 (S : fx_S) (x0 : Int) (hS : fx_Sok S) (g0 : 0 ≤ x0 ∧ x0 < S.2.2) (v1 : Int) (e1 : v1 = S.1 1 0) (b1 : -2147483648 ≤ v1 ∧ v1 ≤ 2147483647) (S1 : fx_S) (d1 : S1 = (fx_up S.1 x0 0 v1, S.2)) (v2 : Int) (S2 : fx_S) (k2 : fx_Sok S2) (b2 : v2 = 0) (p2 : s288 S1 (x0 + 1) v2 S2) (v3 : Int) (S3 : fx_S) (k3 : fx_Sok S3) (b3 : v3 = 0) (p3 : s289 S2 (x0 + 12) v3 S3) (v4 : Int) (S4 : fx_S) (k4 : fx_Sok S4) (b4 : v4 = 0) (p4 : s290 S3 (x0 + 20) v4 S4) (v5 : Int) (S5 : fx_S) (k5 : fx_Sok S5) (b5 : v5 = 0) (p5 : s291 S4 (x0 + 28) v5 S5) (v6 : Int) (S6 : fx_S) (k6 : fx_Sok S6) (b6 : v6 = 0) (p6 : s292 S5 (x0 + 37) v6 S6) (v7 : Int) (S7 : fx_S) (k7 : fx_Sok S7) (b7 : v7 = 0) (p7 : s293 S6 (x0 + 43) v7 S7) : s206 S x0 0 S7 := by
  unfold s206
  intro hx
  have h1 : ∀ p i : Int, ¬ (p = x0 ∧ i = 0) → S1.1 p i = S.1 p i := fun p i hp => by rw [d1]; exact if_neg hp
  have g1 : S1.1 x0 0 = v1 := by rw [d1]; first | exact if_pos ⟨rfl, rfl⟩ | rfl
  have rr1 : S1.2 = S.2 := by rw [d1]
  unfold s288 at p2
  obtain ⟨nn2, tr2, f2, t2⟩ := p2 (by omega)
  obtain ⟨rr3, f3, p3⟩ := p3
  obtain ⟨rr4, f4, p4⟩ := p4
  obtain ⟨rr5, f5, p5⟩ := p5
  obtain ⟨rr6, f6, p6⟩ := p6
  obtain ⟨rr7, f7, p7⟩ := p7
  refine ⟨by rw [rr7, rr6, rr5, rr4, rr3, nn2, rr1], fun p i => ?_, fun p i hp => (((((((f7 p i (by omega))).trans ((f6 p i (by omega)))).trans ((f5 p i (by omega)))).trans ((f4 p i (by omega)))).trans ((f3 p i (by omega)))).trans ((f2 p i (by omega)))).trans ((h1 p i (by omega))), fun j i ht => ?_⟩
  · rw [rr7, rr6, rr5, rr4, rr3, tr2, rr1, show x0 + 1 + 7 = x0 + 8 by omega]
  · have ht2 := ht
    unfold fx_tb at ht2
    rcases ht2 with h | h | h | h | h | h | h | h | h | h | h | h | h | h | h | h | h | h
    · obtain ⟨rfl, rfl⟩ := h
      rw [show x0 + (0 : Int) = x0 by omega, show (1 : Int) + (0 : Int) = 1 by omega]
      exact ((((((((f7 x0 0 (by omega))).trans ((f6 x0 0 (by omega)))).trans ((f5 x0 0 (by omega)))).trans ((f4 x0 0 (by omega)))).trans ((f3 x0 0 (by omega)))).trans ((f2 x0 0 (by omega)))).trans (g1)).trans (e1)
    · have q := t2 j i (by omega) (by omega) ht
      rw [show x0 + 1 - 1 + j = x0 + j by omega] at q
      exact (((((((f7 (x0 + j) i (by omega))).trans ((f6 (x0 + j) i (by omega)))).trans ((f5 (x0 + j) i (by omega)))).trans ((f4 (x0 + j) i (by omega)))).trans ((f3 (x0 + j) i (by omega)))).trans (q)).trans ((h1 (1 + j) i (by omega)))
    · have q := t2 j i (by omega) (by omega) ht
      rw [show x0 + 1 - 1 + j = x0 + j by omega] at q
      exact (((((((f7 (x0 + j) i (by omega))).trans ((f6 (x0 + j) i (by omega)))).trans ((f5 (x0 + j) i (by omega)))).trans ((f4 (x0 + j) i (by omega)))).trans ((f3 (x0 + j) i (by omega)))).trans (q)).trans ((h1 (1 + j) i (by omega)))
    · have q := t2 j i (by omega) (by omega) ht
      rw [show x0 + 1 - 1 + j = x0 + j by omega] at q
      exact (((((((f7 (x0 + j) i (by omega))).trans ((f6 (x0 + j) i (by omega)))).trans ((f5 (x0 + j) i (by omega)))).trans ((f4 (x0 + j) i (by omega)))).trans ((f3 (x0 + j) i (by omega)))).trans (q)).trans ((h1 (1 + j) i (by omega)))
    · have q := p3 (by omega) j i (by omega) (by omega) ht
      rw [show x0 + 12 - 12 + j = x0 + j by omega] at q
      exact (((((((f7 (x0 + j) i (by omega))).trans ((f6 (x0 + j) i (by omega)))).trans ((f5 (x0 + j) i (by omega)))).trans ((f4 (x0 + j) i (by omega)))).trans (q)).trans ((f2 (1 + j) i (by omega)))).trans ((h1 (1 + j) i (by omega)))
    · have q := p3 (by omega) j i (by omega) (by omega) ht
      rw [show x0 + 12 - 12 + j = x0 + j by omega] at q
      exact (((((((f7 (x0 + j) i (by omega))).trans ((f6 (x0 + j) i (by omega)))).trans ((f5 (x0 + j) i (by omega)))).trans ((f4 (x0 + j) i (by omega)))).trans (q)).trans ((f2 (1 + j) i (by omega)))).trans ((h1 (1 + j) i (by omega)))
    · have q := p3 (by omega) j i (by omega) (by omega) ht
      rw [show x0 + 12 - 12 + j = x0 + j by omega] at q
      exact (((((((f7 (x0 + j) i (by omega))).trans ((f6 (x0 + j) i (by omega)))).trans ((f5 (x0 + j) i (by omega)))).trans ((f4 (x0 + j) i (by omega)))).trans (q)).trans ((f2 (1 + j) i (by omega)))).trans ((h1 (1 + j) i (by omega)))
    · have q := p4 (by omega) j i (by omega) (by omega) ht
      rw [show x0 + 20 - 20 + j = x0 + j by omega] at q
      exact (((((((f7 (x0 + j) i (by omega))).trans ((f6 (x0 + j) i (by omega)))).trans ((f5 (x0 + j) i (by omega)))).trans (q)).trans ((f3 (1 + j) i (by omega)))).trans ((f2 (1 + j) i (by omega)))).trans ((h1 (1 + j) i (by omega)))
    · have q := p4 (by omega) j i (by omega) (by omega) ht
      rw [show x0 + 20 - 20 + j = x0 + j by omega] at q
      exact (((((((f7 (x0 + j) i (by omega))).trans ((f6 (x0 + j) i (by omega)))).trans ((f5 (x0 + j) i (by omega)))).trans (q)).trans ((f3 (1 + j) i (by omega)))).trans ((f2 (1 + j) i (by omega)))).trans ((h1 (1 + j) i (by omega)))
    · have q := p4 (by omega) j i (by omega) (by omega) ht
      rw [show x0 + 20 - 20 + j = x0 + j by omega] at q
      exact (((((((f7 (x0 + j) i (by omega))).trans ((f6 (x0 + j) i (by omega)))).trans ((f5 (x0 + j) i (by omega)))).trans (q)).trans ((f3 (1 + j) i (by omega)))).trans ((f2 (1 + j) i (by omega)))).trans ((h1 (1 + j) i (by omega)))
    · have q := p5 (by omega) j i (by omega) (by omega) ht
      rw [show x0 + 28 - 28 + j = x0 + j by omega] at q
      exact (((((((f7 (x0 + j) i (by omega))).trans ((f6 (x0 + j) i (by omega)))).trans (q)).trans ((f4 (1 + j) i (by omega)))).trans ((f3 (1 + j) i (by omega)))).trans ((f2 (1 + j) i (by omega)))).trans ((h1 (1 + j) i (by omega)))
    · have q := p5 (by omega) j i (by omega) (by omega) ht
      rw [show x0 + 28 - 28 + j = x0 + j by omega] at q
      exact (((((((f7 (x0 + j) i (by omega))).trans ((f6 (x0 + j) i (by omega)))).trans (q)).trans ((f4 (1 + j) i (by omega)))).trans ((f3 (1 + j) i (by omega)))).trans ((f2 (1 + j) i (by omega)))).trans ((h1 (1 + j) i (by omega)))
    · have q := p5 (by omega) j i (by omega) (by omega) ht
      rw [show x0 + 28 - 28 + j = x0 + j by omega] at q
      exact (((((((f7 (x0 + j) i (by omega))).trans ((f6 (x0 + j) i (by omega)))).trans (q)).trans ((f4 (1 + j) i (by omega)))).trans ((f3 (1 + j) i (by omega)))).trans ((f2 (1 + j) i (by omega)))).trans ((h1 (1 + j) i (by omega)))
    · have q := p5 (by omega) j i (by omega) (by omega) ht
      rw [show x0 + 28 - 28 + j = x0 + j by omega] at q
      exact (((((((f7 (x0 + j) i (by omega))).trans ((f6 (x0 + j) i (by omega)))).trans (q)).trans ((f4 (1 + j) i (by omega)))).trans ((f3 (1 + j) i (by omega)))).trans ((f2 (1 + j) i (by omega)))).trans ((h1 (1 + j) i (by omega)))
    · have q := p6 (by omega) j i (by omega) (by omega) ht
      rw [show x0 + 37 - 37 + j = x0 + j by omega] at q
      exact (((((((f7 (x0 + j) i (by omega))).trans (q)).trans ((f5 (1 + j) i (by omega)))).trans ((f4 (1 + j) i (by omega)))).trans ((f3 (1 + j) i (by omega)))).trans ((f2 (1 + j) i (by omega)))).trans ((h1 (1 + j) i (by omega)))
    · have q := p6 (by omega) j i (by omega) (by omega) ht
      rw [show x0 + 37 - 37 + j = x0 + j by omega] at q
      exact (((((((f7 (x0 + j) i (by omega))).trans (q)).trans ((f5 (1 + j) i (by omega)))).trans ((f4 (1 + j) i (by omega)))).trans ((f3 (1 + j) i (by omega)))).trans ((f2 (1 + j) i (by omega)))).trans ((h1 (1 + j) i (by omega)))
    · have q := p7 (by omega) j i (by omega) (by omega) ht
      rw [show x0 + 43 - 43 + j = x0 + j by omega] at q
      exact ((((((q).trans ((f6 (1 + j) i (by omega)))).trans ((f5 (1 + j) i (by omega)))).trans ((f4 (1 + j) i (by omega)))).trans ((f3 (1 + j) i (by omega)))).trans ((f2 (1 + j) i (by omega)))).trans ((h1 (1 + j) i (by omega)))
    · have q := p7 (by omega) j i (by omega) (by omega) ht
      rw [show x0 + 43 - 43 + j = x0 + j by omega] at q
      exact ((((((q).trans ((f6 (1 + j) i (by omega)))).trans ((f5 (1 + j) i (by omega)))).trans ((f4 (1 + j) i (by omega)))).trans ((f3 (1 + j) i (by omega)))).trans ((f2 (1 + j) i (by omega)))).trans ((h1 (1 + j) i (by omega)))
theorem q207_0 (S : fx_S) (x0 : Int) (hS : fx_Sok S) (g0 : -1 ≤ x0 ∧ x0 < S.2.2) (v1 : Int) (e1 : v1 = S.1 1 0) (b1 : -2147483648 ≤ v1 ∧ v1 ≤ 2147483647) (c1 : x0 ≠ (-1)) (S1 : fx_S) (d1 : S1 = (fx_up S.1 x0 0 v1, S.2)) (c2 : x0 ≠ (-1)) (v2 : Int) (S2 : fx_S) (k2 : fx_Sok S2) (b2 : v2 = 0) (p2 : s288 S1 (x0 + 1) v2 S2) (c3 : x0 ≠ (-1)) (v3 : Int) (S3 : fx_S) (k3 : fx_Sok S3) (b3 : v3 = 0) (p3 : s289 S2 (x0 + 12) v3 S3) (c4 : x0 ≠ (-1)) (v4 : Int) (S4 : fx_S) (k4 : fx_Sok S4) (b4 : v4 = 0) (p4 : s290 S3 (x0 + 20) v4 S4) (c5 : x0 ≠ (-1)) (v5 : Int) (S5 : fx_S) (k5 : fx_Sok S5) (b5 : v5 = 0) (p5 : s291 S4 (x0 + 28) v5 S5) (c6 : x0 ≠ (-1)) (v6 : Int) (S6 : fx_S) (k6 : fx_Sok S6) (b6 : v6 = 0) (p6 : s292 S5 (x0 + 37) v6 S6) (c7 : x0 ≠ (-1)) (v7 : Int) (S7 : fx_S) (k7 : fx_Sok S7) (b7 : v7 = 0) (p7 : s293 S6 (x0 + 43) v7 S7) : s207 S x0 0 S7 := by
  unfold s207
  intro hx
  have h1 : ∀ p i : Int, ¬ (p = x0 ∧ i = 0) → S1.1 p i = S.1 p i := fun p i hp => by rw [d1]; exact if_neg hp
  have g1 : S1.1 x0 0 = v1 := by rw [d1]; first | exact if_pos ⟨rfl, rfl⟩ | rfl
  have rr1 : S1.2 = S.2 := by rw [d1]
  unfold s288 at p2
  obtain ⟨nn2, tr2, f2, t2⟩ := p2 (by omega)
  obtain ⟨rr3, f3, p3⟩ := p3
  obtain ⟨rr4, f4, p4⟩ := p4
  obtain ⟨rr5, f5, p5⟩ := p5
  obtain ⟨rr6, f6, p6⟩ := p6
  obtain ⟨rr7, f7, p7⟩ := p7
  refine ⟨by rw [rr7, rr6, rr5, rr4, rr3, nn2, rr1], fun p i => ?_, fun p i hp => (((((((f7 p i (by omega))).trans ((f6 p i (by omega)))).trans ((f5 p i (by omega)))).trans ((f4 p i (by omega)))).trans ((f3 p i (by omega)))).trans ((f2 p i (by omega)))).trans ((h1 p i (by omega))), fun j i ht => ?_⟩
  · rw [rr7, rr6, rr5, rr4, rr3, tr2, rr1, show x0 + 1 + 7 = x0 + 8 by omega]
  · have ht2 := ht
    unfold fx_tb at ht2
    rcases ht2 with h | h | h | h | h | h | h | h | h | h | h | h | h | h | h | h | h | h
    · obtain ⟨rfl, rfl⟩ := h
      rw [show x0 + (0 : Int) = x0 by omega, show (1 : Int) + (0 : Int) = 1 by omega]
      exact ((((((((f7 x0 0 (by omega))).trans ((f6 x0 0 (by omega)))).trans ((f5 x0 0 (by omega)))).trans ((f4 x0 0 (by omega)))).trans ((f3 x0 0 (by omega)))).trans ((f2 x0 0 (by omega)))).trans (g1)).trans (e1)
    · have q := t2 j i (by omega) (by omega) ht
      rw [show x0 + 1 - 1 + j = x0 + j by omega] at q
      exact (((((((f7 (x0 + j) i (by omega))).trans ((f6 (x0 + j) i (by omega)))).trans ((f5 (x0 + j) i (by omega)))).trans ((f4 (x0 + j) i (by omega)))).trans ((f3 (x0 + j) i (by omega)))).trans (q)).trans ((h1 (1 + j) i (by omega)))
    · have q := t2 j i (by omega) (by omega) ht
      rw [show x0 + 1 - 1 + j = x0 + j by omega] at q
      exact (((((((f7 (x0 + j) i (by omega))).trans ((f6 (x0 + j) i (by omega)))).trans ((f5 (x0 + j) i (by omega)))).trans ((f4 (x0 + j) i (by omega)))).trans ((f3 (x0 + j) i (by omega)))).trans (q)).trans ((h1 (1 + j) i (by omega)))
    · have q := t2 j i (by omega) (by omega) ht
      rw [show x0 + 1 - 1 + j = x0 + j by omega] at q
      exact (((((((f7 (x0 + j) i (by omega))).trans ((f6 (x0 + j) i (by omega)))).trans ((f5 (x0 + j) i (by omega)))).trans ((f4 (x0 + j) i (by omega)))).trans ((f3 (x0 + j) i (by omega)))).trans (q)).trans ((h1 (1 + j) i (by omega)))
    · have q := p3 (by omega) j i (by omega) (by omega) ht
      rw [show x0 + 12 - 12 + j = x0 + j by omega] at q
      exact (((((((f7 (x0 + j) i (by omega))).trans ((f6 (x0 + j) i (by omega)))).trans ((f5 (x0 + j) i (by omega)))).trans ((f4 (x0 + j) i (by omega)))).trans (q)).trans ((f2 (1 + j) i (by omega)))).trans ((h1 (1 + j) i (by omega)))
    · have q := p3 (by omega) j i (by omega) (by omega) ht
      rw [show x0 + 12 - 12 + j = x0 + j by omega] at q
      exact (((((((f7 (x0 + j) i (by omega))).trans ((f6 (x0 + j) i (by omega)))).trans ((f5 (x0 + j) i (by omega)))).trans ((f4 (x0 + j) i (by omega)))).trans (q)).trans ((f2 (1 + j) i (by omega)))).trans ((h1 (1 + j) i (by omega)))
    · have q := p3 (by omega) j i (by omega) (by omega) ht
      rw [show x0 + 12 - 12 + j = x0 + j by omega] at q
      exact (((((((f7 (x0 + j) i (by omega))).trans ((f6 (x0 + j) i (by omega)))).trans ((f5 (x0 + j) i (by omega)))).trans ((f4 (x0 + j) i (by omega)))).trans (q)).trans ((f2 (1 + j) i (by omega)))).trans ((h1 (1 + j) i (by omega)))
    · have q := p4 (by omega) j i (by omega) (by omega) ht
      rw [show x0 + 20 - 20 + j = x0 + j by omega] at q
      exact (((((((f7 (x0 + j) i (by omega))).trans ((f6 (x0 + j) i (by omega)))).trans ((f5 (x0 + j) i (by omega)))).trans (q)).trans ((f3 (1 + j) i (by omega)))).trans ((f2 (1 + j) i (by omega)))).trans ((h1 (1 + j) i (by omega)))
    · have q := p4 (by omega) j i (by omega) (by omega) ht
      rw [show x0 + 20 - 20 + j = x0 + j by omega] at q
      exact (((((((f7 (x0 + j) i (by omega))).trans ((f6 (x0 + j) i (by omega)))).trans ((f5 (x0 + j) i (by omega)))).trans (q)).trans ((f3 (1 + j) i (by omega)))).trans ((f2 (1 + j) i (by omega)))).trans ((h1 (1 + j) i (by omega)))
    · have q := p4 (by omega) j i (by omega) (by omega) ht
      rw [show x0 + 20 - 20 + j = x0 + j by omega] at q
      exact (((((((f7 (x0 + j) i (by omega))).trans ((f6 (x0 + j) i (by omega)))).trans ((f5 (x0 + j) i (by omega)))).trans (q)).trans ((f3 (1 + j) i (by omega)))).trans ((f2 (1 + j) i (by omega)))).trans ((h1 (1 + j) i (by omega)))
    · have q := p5 (by omega) j i (by omega) (by omega) ht
      rw [show x0 + 28 - 28 + j = x0 + j by omega] at q
      exact (((((((f7 (x0 + j) i (by omega))).trans ((f6 (x0 + j) i (by omega)))).trans (q)).trans ((f4 (1 + j) i (by omega)))).trans ((f3 (1 + j) i (by omega)))).trans ((f2 (1 + j) i (by omega)))).trans ((h1 (1 + j) i (by omega)))
    · have q := p5 (by omega) j i (by omega) (by omega) ht
      rw [show x0 + 28 - 28 + j = x0 + j by omega] at q
      exact (((((((f7 (x0 + j) i (by omega))).trans ((f6 (x0 + j) i (by omega)))).trans (q)).trans ((f4 (1 + j) i (by omega)))).trans ((f3 (1 + j) i (by omega)))).trans ((f2 (1 + j) i (by omega)))).trans ((h1 (1 + j) i (by omega)))
    · have q := p5 (by omega) j i (by omega) (by omega) ht
      rw [show x0 + 28 - 28 + j = x0 + j by omega] at q
      exact (((((((f7 (x0 + j) i (by omega))).trans ((f6 (x0 + j) i (by omega)))).trans (q)).trans ((f4 (1 + j) i (by omega)))).trans ((f3 (1 + j) i (by omega)))).trans ((f2 (1 + j) i (by omega)))).trans ((h1 (1 + j) i (by omega)))
    · have q := p5 (by omega) j i (by omega) (by omega) ht
      rw [show x0 + 28 - 28 + j = x0 + j by omega] at q
      exact (((((((f7 (x0 + j) i (by omega))).trans ((f6 (x0 + j) i (by omega)))).trans (q)).trans ((f4 (1 + j) i (by omega)))).trans ((f3 (1 + j) i (by omega)))).trans ((f2 (1 + j) i (by omega)))).trans ((h1 (1 + j) i (by omega)))
    · have q := p6 (by omega) j i (by omega) (by omega) ht
      rw [show x0 + 37 - 37 + j = x0 + j by omega] at q
      exact (((((((f7 (x0 + j) i (by omega))).trans (q)).trans ((f5 (1 + j) i (by omega)))).trans ((f4 (1 + j) i (by omega)))).trans ((f3 (1 + j) i (by omega)))).trans ((f2 (1 + j) i (by omega)))).trans ((h1 (1 + j) i (by omega)))
    · have q := p6 (by omega) j i (by omega) (by omega) ht
      rw [show x0 + 37 - 37 + j = x0 + j by omega] at q
      exact (((((((f7 (x0 + j) i (by omega))).trans (q)).trans ((f5 (1 + j) i (by omega)))).trans ((f4 (1 + j) i (by omega)))).trans ((f3 (1 + j) i (by omega)))).trans ((f2 (1 + j) i (by omega)))).trans ((h1 (1 + j) i (by omega)))
    · have q := p7 (by omega) j i (by omega) (by omega) ht
      rw [show x0 + 43 - 43 + j = x0 + j by omega] at q
      exact ((((((q).trans ((f6 (1 + j) i (by omega)))).trans ((f5 (1 + j) i (by omega)))).trans ((f4 (1 + j) i (by omega)))).trans ((f3 (1 + j) i (by omega)))).trans ((f2 (1 + j) i (by omega)))).trans ((h1 (1 + j) i (by omega)))
    · have q := p7 (by omega) j i (by omega) (by omega) ht
      rw [show x0 + 43 - 43 + j = x0 + j by omega] at q
      exact ((((((q).trans ((f6 (1 + j) i (by omega)))).trans ((f5 (1 + j) i (by omega)))).trans ((f4 (1 + j) i (by omega)))).trans ((f3 (1 + j) i (by omega)))).trans ((f2 (1 + j) i (by omega)))).trans ((h1 (1 + j) i (by omega)))
theorem q208_0 (S : fx_S) (x1 x2 : Int) (hS : fx_Sok S) (g1 : -2147483648 ≤ x1 ∧ x1 ≤ 2147483647) (g2 : -2147483648 ≤ x2 ∧ x2 ≤ 2147483647) (c1 : 8090 ≤ x2) (c2 : 0 ≤ x1) (c3 : x1 < 3) (S1 : fx_S) (d1 : S1 = (fx_up S.1 69 x1 1, S.2)) : s208 S x1 x2 0 S1 := by
  refine ⟨(show S1.2 = S.2 by rw [d1]), ?_, ?_⟩
  · intro p i hW
    clear c3 c2 c1
    exact (show S1.1 p i = S.1 p i by rw [d1]; exact if_neg (by omega))
  · skip
    intro a0 a1 a2 a3
    refine ⟨rfl, fun k => ?_, fun i => ?_⟩
    · rw [d1]
      by_cases h : k = x1
      · rw [if_pos h]; exact if_pos ⟨rfl, h⟩
      · rw [if_neg h]; exact if_neg (fun z => h z.2)
    · rw [if_neg (by omega), d1]
      first | exact if_neg (by omega) | rfl
theorem q208_1 (S : fx_S) (x1 x2 : Int) (hS : fx_Sok S) (g1 : -2147483648 ≤ x1 ∧ x1 ≤ 2147483647) (g2 : -2147483648 ≤ x2 ∧ x2 ≤ 2147483647) (c1 : x2 < 8090) (v2 : Int) (e2 : v2 = fx_mul 8090 x1) (v3 : Int) (e3 : v3 = fx_add v2 x2) (c2 : 0 ≤ x2) (c3 : x2 < 8090) (v4 : Int) (e4 : v4 = S.1 67 x2) (b4 : -2147483648 ≤ v4 ∧ v4 ≤ 2147483647) (c4 : 0 ≤ v3) (c5 : v3 < 24270) (S1 : fx_S) (d1 : S1 = (fx_up S.1 68 v3 v4, S.2)) (v5 : Int) (e5 : v5 = fx_add x2 1) (z : Int) (Z : fx_S) (kz : fx_Sok Z) (bz : -2147483648 ≤ z ∧ z ≤ 2147483647) (pz : s208 S1 x1 v5 z Z) : s208 S x1 x2 z Z := by
  obtain ⟨rZ, fZ, pz⟩ := pz
  refine ⟨(rZ).trans ((show S1.2 = S.2 by rw [d1])), ?_, ?_⟩
  · intro p i hW
    clear e5 c5 c4 b4 e4 c3 c2 e3 e2 c1
    exact ((fZ p i (by omega))).trans ((show S1.1 p i = S.1 p i by rw [d1]; exact if_neg (by omega)))
  · skip
    intro a0 a1 a2 a3
    have h2 := e2
    first | rw [fx_mul_eq (by omega) (by omega)] at h2 | skip
    have h3 := e3
    first | rw [fx_add_eq (by omega) (by omega)] at h3 | skip
    have h5 := e5
    first | rw [fx_add_eq (by omega) (by omega)] at h5 | skip
    obtain ⟨b0, b1, b2⟩ := pz a0 a1 (by omega) (by omega)
    have g9 : ∀ k, S1.1 69 k = S.1 69 k := fun k => by rw [d1]; first | exact if_neg (by omega) | rfl
    have g7 : ∀ k, S1.1 67 k = S.1 67 k := fun k => by rw [d1]; first | exact if_neg (by omega) | rfl
    refine ⟨b0, fun k => by rw [b1, g9], fun i => ?_⟩
    rw [b2, g7]
    by_cases h1 : 8090 * x1 + v5 ≤ i ∧ i < 8090 * x1 + 8090
    · rw [if_pos h1, if_pos (by omega)]
    · rw [if_neg h1]
      by_cases h2 : i = v3
      · rw [if_pos (by omega), show i - 8090 * x1 = x2 by omega, d1]
        exact (if_pos ⟨rfl, h2⟩).trans e4
      · rw [if_neg (by omega), d1]
        first | exact if_neg (by omega) | rfl
theorem q209_0 (S : fx_S) (x1 : Int) (hS : fx_Sok S) (g1 : -1 ≤ x1 ∧ x1 < S.2.2) (c1 : x1 ≠ (-1)) (v1 : Int) (e1 : v1 = S.1 x1 0) (b1 : -2147483648 ≤ v1 ∧ v1 ≤ 2147483647) (S1 : fx_S) (d1 : S1 = (fx_up S.1 1 0 v1, S.2)) (c2 : x1 ≠ (-1)) (v2 : Int) (S2 : fx_S) (k2 : fx_Sok S2) (b2 : v2 = 0) (p2 : s294 S1 (x1 + 1) v2 S2) (c3 : x1 ≠ (-1)) (v3 : Int) (S3 : fx_S) (k3 : fx_Sok S3) (b3 : v3 = 0) (p3 : s295 S2 (x1 + 12) v3 S3) (c4 : x1 ≠ (-1)) (v4 : Int) (S4 : fx_S) (k4 : fx_Sok S4) (b4 : v4 = 0) (p4 : s296 S3 (x1 + 20) v4 S4) (c5 : x1 ≠ (-1)) (v5 : Int) (S5 : fx_S) (k5 : fx_Sok S5) (b5 : v5 = 0) (p5 : s297 S4 (x1 + 28) v5 S5) (c6 : x1 ≠ (-1)) (v6 : Int) (S6 : fx_S) (k6 : fx_Sok S6) (b6 : v6 = 0) (p6 : s298 S5 (x1 + 37) v6 S6) (c7 : x1 ≠ (-1)) (v7 : Int) (S7 : fx_S) (k7 : fx_Sok S7) (b7 : v7 = 0) (p7 : s299 S6 (x1 + 43) v7 S7) : s209 S x1 0 S7 := by
  unfold s209
  intro hx
  have h1 : ∀ p i : Int, ¬ (p = 1 ∧ i = 0) → S1.1 p i = S.1 p i := fun p i hp => by rw [d1]; exact if_neg hp
  have g1 : S1.1 1 0 = v1 := by rw [d1]; first | exact if_pos ⟨rfl, rfl⟩ | rfl
  have rr1 : S1.2 = S.2 := by rw [d1]
  unfold s294 at p2
  obtain ⟨nn2, tr2, f2, t2⟩ := p2 (by omega)
  obtain ⟨rr3, f3, p3⟩ := p3
  obtain ⟨rr4, f4, p4⟩ := p4
  obtain ⟨rr5, f5, p5⟩ := p5
  obtain ⟨rr6, f6, p6⟩ := p6
  obtain ⟨rr7, f7, p7⟩ := p7
  refine ⟨by rw [rr7, rr6, rr5, rr4, rr3, nn2, rr1], fun p i => ?_, fun p i hp => (((((((f7 p i (by omega))).trans ((f6 p i (by omega)))).trans ((f5 p i (by omega)))).trans ((f4 p i (by omega)))).trans ((f3 p i (by omega)))).trans ((f2 p i (by omega)))).trans ((h1 p i (by omega))), fun j i ht => ?_⟩
  · rw [rr7, rr6, rr5, rr4, rr3, tr2, rr1, show x1 + 1 + 7 = x1 + 8 by omega]
  · have ht2 := ht
    unfold fx_tb at ht2
    rcases ht2 with h | h | h | h | h | h | h | h | h | h | h | h | h | h | h | h | h | h
    · obtain ⟨rfl, rfl⟩ := h
      rw [show (1 : Int) + (0 : Int) = 1 by omega, show x1 + (0 : Int) = x1 by omega]
      exact ((((((((f7 1 0 (by omega))).trans ((f6 1 0 (by omega)))).trans ((f5 1 0 (by omega)))).trans ((f4 1 0 (by omega)))).trans ((f3 1 0 (by omega)))).trans ((f2 1 0 (by omega)))).trans (g1)).trans (e1)
    · have q := t2 j i (by omega) (by omega) ht
      rw [show x1 + 1 - 1 + j = x1 + j by omega] at q
      exact (((((((f7 (1 + j) i (by omega))).trans ((f6 (1 + j) i (by omega)))).trans ((f5 (1 + j) i (by omega)))).trans ((f4 (1 + j) i (by omega)))).trans ((f3 (1 + j) i (by omega)))).trans (q)).trans ((h1 (x1 + j) i (by omega)))
    · have q := t2 j i (by omega) (by omega) ht
      rw [show x1 + 1 - 1 + j = x1 + j by omega] at q
      exact (((((((f7 (1 + j) i (by omega))).trans ((f6 (1 + j) i (by omega)))).trans ((f5 (1 + j) i (by omega)))).trans ((f4 (1 + j) i (by omega)))).trans ((f3 (1 + j) i (by omega)))).trans (q)).trans ((h1 (x1 + j) i (by omega)))
    · have q := t2 j i (by omega) (by omega) ht
      rw [show x1 + 1 - 1 + j = x1 + j by omega] at q
      exact (((((((f7 (1 + j) i (by omega))).trans ((f6 (1 + j) i (by omega)))).trans ((f5 (1 + j) i (by omega)))).trans ((f4 (1 + j) i (by omega)))).trans ((f3 (1 + j) i (by omega)))).trans (q)).trans ((h1 (x1 + j) i (by omega)))
    · have q := p3 (by omega) j i (by omega) (by omega) ht
      rw [show x1 + 12 - 12 + j = x1 + j by omega] at q
      exact (((((((f7 (1 + j) i (by omega))).trans ((f6 (1 + j) i (by omega)))).trans ((f5 (1 + j) i (by omega)))).trans ((f4 (1 + j) i (by omega)))).trans (q)).trans ((f2 (x1 + j) i (by omega)))).trans ((h1 (x1 + j) i (by omega)))
    · have q := p3 (by omega) j i (by omega) (by omega) ht
      rw [show x1 + 12 - 12 + j = x1 + j by omega] at q
      exact (((((((f7 (1 + j) i (by omega))).trans ((f6 (1 + j) i (by omega)))).trans ((f5 (1 + j) i (by omega)))).trans ((f4 (1 + j) i (by omega)))).trans (q)).trans ((f2 (x1 + j) i (by omega)))).trans ((h1 (x1 + j) i (by omega)))
    · have q := p3 (by omega) j i (by omega) (by omega) ht
      rw [show x1 + 12 - 12 + j = x1 + j by omega] at q
      exact (((((((f7 (1 + j) i (by omega))).trans ((f6 (1 + j) i (by omega)))).trans ((f5 (1 + j) i (by omega)))).trans ((f4 (1 + j) i (by omega)))).trans (q)).trans ((f2 (x1 + j) i (by omega)))).trans ((h1 (x1 + j) i (by omega)))
    · have q := p4 (by omega) j i (by omega) (by omega) ht
      rw [show x1 + 20 - 20 + j = x1 + j by omega] at q
      exact (((((((f7 (1 + j) i (by omega))).trans ((f6 (1 + j) i (by omega)))).trans ((f5 (1 + j) i (by omega)))).trans (q)).trans ((f3 (x1 + j) i (by omega)))).trans ((f2 (x1 + j) i (by omega)))).trans ((h1 (x1 + j) i (by omega)))
    · have q := p4 (by omega) j i (by omega) (by omega) ht
      rw [show x1 + 20 - 20 + j = x1 + j by omega] at q
      exact (((((((f7 (1 + j) i (by omega))).trans ((f6 (1 + j) i (by omega)))).trans ((f5 (1 + j) i (by omega)))).trans (q)).trans ((f3 (x1 + j) i (by omega)))).trans ((f2 (x1 + j) i (by omega)))).trans ((h1 (x1 + j) i (by omega)))
    · have q := p4 (by omega) j i (by omega) (by omega) ht
      rw [show x1 + 20 - 20 + j = x1 + j by omega] at q
      exact (((((((f7 (1 + j) i (by omega))).trans ((f6 (1 + j) i (by omega)))).trans ((f5 (1 + j) i (by omega)))).trans (q)).trans ((f3 (x1 + j) i (by omega)))).trans ((f2 (x1 + j) i (by omega)))).trans ((h1 (x1 + j) i (by omega)))
    · have q := p5 (by omega) j i (by omega) (by omega) ht
      rw [show x1 + 28 - 28 + j = x1 + j by omega] at q
      exact (((((((f7 (1 + j) i (by omega))).trans ((f6 (1 + j) i (by omega)))).trans (q)).trans ((f4 (x1 + j) i (by omega)))).trans ((f3 (x1 + j) i (by omega)))).trans ((f2 (x1 + j) i (by omega)))).trans ((h1 (x1 + j) i (by omega)))
    · have q := p5 (by omega) j i (by omega) (by omega) ht
      rw [show x1 + 28 - 28 + j = x1 + j by omega] at q
      exact (((((((f7 (1 + j) i (by omega))).trans ((f6 (1 + j) i (by omega)))).trans (q)).trans ((f4 (x1 + j) i (by omega)))).trans ((f3 (x1 + j) i (by omega)))).trans ((f2 (x1 + j) i (by omega)))).trans ((h1 (x1 + j) i (by omega)))
    · have q := p5 (by omega) j i (by omega) (by omega) ht
      rw [show x1 + 28 - 28 + j = x1 + j by omega] at q
      exact (((((((f7 (1 + j) i (by omega))).trans ((f6 (1 + j) i (by omega)))).trans (q)).trans ((f4 (x1 + j) i (by omega)))).trans ((f3 (x1 + j) i (by omega)))).trans ((f2 (x1 + j) i (by omega)))).trans ((h1 (x1 + j) i (by omega)))
    · have q := p5 (by omega) j i (by omega) (by omega) ht
      rw [show x1 + 28 - 28 + j = x1 + j by omega] at q
      exact (((((((f7 (1 + j) i (by omega))).trans ((f6 (1 + j) i (by omega)))).trans (q)).trans ((f4 (x1 + j) i (by omega)))).trans ((f3 (x1 + j) i (by omega)))).trans ((f2 (x1 + j) i (by omega)))).trans ((h1 (x1 + j) i (by omega)))
    · have q := p6 (by omega) j i (by omega) (by omega) ht
      rw [show x1 + 37 - 37 + j = x1 + j by omega] at q
      exact (((((((f7 (1 + j) i (by omega))).trans (q)).trans ((f5 (x1 + j) i (by omega)))).trans ((f4 (x1 + j) i (by omega)))).trans ((f3 (x1 + j) i (by omega)))).trans ((f2 (x1 + j) i (by omega)))).trans ((h1 (x1 + j) i (by omega)))
    · have q := p6 (by omega) j i (by omega) (by omega) ht
      rw [show x1 + 37 - 37 + j = x1 + j by omega] at q
      exact (((((((f7 (1 + j) i (by omega))).trans (q)).trans ((f5 (x1 + j) i (by omega)))).trans ((f4 (x1 + j) i (by omega)))).trans ((f3 (x1 + j) i (by omega)))).trans ((f2 (x1 + j) i (by omega)))).trans ((h1 (x1 + j) i (by omega)))
    · have q := p7 (by omega) j i (by omega) (by omega) ht
      rw [show x1 + 43 - 43 + j = x1 + j by omega] at q
      exact ((((((q).trans ((f6 (x1 + j) i (by omega)))).trans ((f5 (x1 + j) i (by omega)))).trans ((f4 (x1 + j) i (by omega)))).trans ((f3 (x1 + j) i (by omega)))).trans ((f2 (x1 + j) i (by omega)))).trans ((h1 (x1 + j) i (by omega)))
    · have q := p7 (by omega) j i (by omega) (by omega) ht
      rw [show x1 + 43 - 43 + j = x1 + j by omega] at q
      exact ((((((q).trans ((f6 (x1 + j) i (by omega)))).trans ((f5 (x1 + j) i (by omega)))).trans ((f4 (x1 + j) i (by omega)))).trans ((f3 (x1 + j) i (by omega)))).trans ((f2 (x1 + j) i (by omega)))).trans ((h1 (x1 + j) i (by omega)))
theorem q210_0 (S : fx_S) (x1 x2 : Int) (hS : fx_Sok S) (g1 : -2147483648 ≤ x1 ∧ x1 ≤ 2147483647) (g2 : -2147483648 ≤ x2 ∧ x2 ≤ 2147483647) (c1 : 8090 ≤ x2) : s210 S x1 x2 0 S := by
  refine ⟨rfl, ?_, ?_⟩
  · intro p i hW
    clear c1
    exact rfl
  · skip
    intro a0 a1 a2 a3
    refine ⟨rfl, fun i => ?_⟩
    rw [if_neg (by omega)]
theorem q210_1 (S : fx_S) (x1 x2 : Int) (hS : fx_Sok S) (g1 : -2147483648 ≤ x1 ∧ x1 ≤ 2147483647) (g2 : -2147483648 ≤ x2 ∧ x2 ≤ 2147483647) (c1 : x2 < 8090) (v2 : Int) (e2 : v2 = fx_mul 8090 x1) (v3 : Int) (e3 : v3 = fx_add v2 x2) (c2 : 0 ≤ v3) (c3 : v3 < 24270) (v4 : Int) (e4 : v4 = S.1 68 v3) (b4 : -2147483648 ≤ v4 ∧ v4 ≤ 2147483647) (c4 : 0 ≤ x2) (c5 : x2 < 8090) (S1 : fx_S) (d1 : S1 = (fx_up S.1 67 x2 v4, S.2)) (v5 : Int) (e5 : v5 = fx_add x2 1) (z : Int) (Z : fx_S) (kz : fx_Sok Z) (bz : -2147483648 ≤ z ∧ z ≤ 2147483647) (pz : s210 S1 x1 v5 z Z) : s210 S x1 x2 z Z := by
  obtain ⟨rZ, fZ, pz⟩ := pz
  refine ⟨(rZ).trans ((show S1.2 = S.2 by rw [d1])), ?_, ?_⟩
  · intro p i hW
    clear e5 c5 c4 b4 e4 c3 c2 e3 e2 c1
    exact ((fZ p i (by omega))).trans ((show S1.1 p i = S.1 p i by rw [d1]; exact if_neg (by omega)))
  · skip
    intro a0 a1 a2 a3
    have h2 := e2
    first | rw [fx_mul_eq (by omega) (by omega)] at h2 | skip
    have h3 := e3
    first | rw [fx_add_eq (by omega) (by omega)] at h3 | skip
    have h5 := e5
    first | rw [fx_add_eq (by omega) (by omega)] at h5 | skip
    obtain ⟨b0, b2⟩ := pz a0 a1 (by omega) (by omega)
    have g8 : ∀ k, S1.1 68 k = S.1 68 k := fun k => by rw [d1]; first | exact if_neg (by omega) | rfl
    refine ⟨b0, fun i => ?_⟩
    rw [b2, g8]
    by_cases h1 : v5 ≤ i ∧ i < 8090
    · rw [if_pos h1, if_pos (by omega)]
    · rw [if_neg h1]
      by_cases h2 : i = x2
      · rw [if_pos (by omega), show 8090 * x1 + i = v3 by omega, d1]
        exact (if_pos ⟨rfl, h2⟩).trans e4
      · rw [if_neg (by omega), d1]
        first | exact if_neg (by omega) | rfl
theorem q211_0 (S : fx_S) (x1 x2 x3 : Int) (hS : fx_Sok S) (g1 : -2147483648 ≤ x1 ∧ x1 ≤ 2147483647) (g2 : -2147483648 ≤ x2 ∧ x2 ≤ 2147483647) (g3 : -2147483648 ≤ x3 ∧ x3 ≤ 2147483647) (c1 : 0 ≤ x1) (c2 : x1 < 4) (S1 : fx_S) (d1 : S1 = (fx_up S.1 53 x1 x2, S.2)) (c3 : 0 ≤ x1) (c4 : x1 < 4) (S2 : fx_S) (d2 : S2 = (fx_up S1.1 54 x1 x3, S1.2)) (z : Int) (Z : fx_S) (kz : fx_Sok Z) (bz : z = 0) (pz : s300 S2 x1 0 z Z) : s211 S x1 x2 x3 z Z := by
  obtain ⟨rZ, fZ, pz⟩ := pz
  refine ⟨(rZ).trans (((show S2.2 = S1.2 by rw [d2])).trans ((show S1.2 = S.2 by rw [d1]))), ?_, ?_⟩
  · intro p i hW
    clear c4 c3 c2 c1
    exact ((fZ p i (by omega))).trans (((show S2.1 p i = S1.1 p i by rw [d2]; exact if_neg (by omega))).trans ((show S1.1 p i = S.1 p i by rw [d1]; exact if_neg (by omega))))
  · skip
    intro a0 a1
    obtain ⟨b0, b1⟩ := pz (by omega) (by omega) (by omega)
    refine ⟨fun s => ?_, fun s => ?_, fun i => ?_⟩
    · rw [fZ 54 s (by omega)]
      by_cases hs : s = x1
      all_goals (subst d2; subst d1; dsimp only [fx_up]; repeat (first | rw [if_pos (by omega)] | rw [if_neg (by omega)]))
      all_goals first | omega | rfl
    · rw [fZ 53 s (by omega)]
      by_cases hs : s = x1
      all_goals (subst d2; subst d1; dsimp only [fx_up]; repeat (first | rw [if_pos (by omega)] | rw [if_neg (by omega)]))
      all_goals first | omega | rfl
    · rw [b1 i, show 60 * x1 + 0 = 60 * x1 by omega]
      by_cases hs : 60 * x1 ≤ i ∧ i < 60 * x1 + 60
      · rw [if_pos hs, if_pos hs]
      · rw [if_neg hs, if_neg hs]
        subst d2; subst d1
        dsimp only [fx_up]
        repeat (first | rw [if_pos (by omega)] | rw [if_neg (by omega)])
theorem q212_0 (S : fx_S) (x1 x4 : Int) (hS : fx_Sok S) (g1 : -2147483648 ≤ x1 ∧ x1 ≤ 2147483647) (g4 : -2147483648 ≤ x4 ∧ x4 ≤ 2147483647) (c1 : 60 ≤ x4) : s212 S x1 x4 0 S := by
  refine ⟨rfl, ?_, ?_⟩
  · intro p i hW
    clear c1
    exact rfl
  · skip
    intro a0 a1 a2
    refine ⟨rfl, fun i => ?_⟩
    rw [if_neg (by omega)]
theorem q212_1 (S : fx_S) (x1 x4 : Int) (hS : fx_Sok S) (g1 : -2147483648 ≤ x1 ∧ x1 ≤ 2147483647) (g4 : -2147483648 ≤ x4 ∧ x4 ≤ 2147483647) (c1 : x4 < 60) (v2 : Int) (e2 : v2 = fx_mul 60 x1) (v3 : Int) (e3 : v3 = fx_add v2 x4) (c2 : 0 ≤ v3) (c3 : v3 < 240) (S1 : fx_S) (d1 : S1 = (fx_up S.1 89 v3 0, S.2)) (v4 : Int) (e4 : v4 = fx_add x4 1) (z : Int) (Z : fx_S) (kz : fx_Sok Z) (bz : -2147483648 ≤ z ∧ z ≤ 2147483647) (pz : s212 S1 x1 v4 z Z) : s212 S x1 x4 z Z := by
  obtain ⟨rZ, fZ, pz⟩ := pz
  refine ⟨(rZ).trans ((show S1.2 = S.2 by rw [d1])), ?_, ?_⟩
  · intro p i hW
    clear e4 c3 c2 e3 e2 c1
    exact ((fZ p i (by omega))).trans ((show S1.1 p i = S.1 p i by rw [d1]; exact if_neg (by omega)))
  · skip
    intro a0 a1 a2
    have h2 := e2
    first | rw [fx_mul_eq (by omega) (by omega)] at h2 | skip
    have h3 := e3
    first | rw [fx_add_eq (by omega) (by omega)] at h3 | skip
    have h4 := e4
    first | rw [fx_add_eq (by omega) (by omega)] at h4 | skip
    obtain ⟨b0, b1⟩ := pz (by omega) a1 a2
    refine ⟨b0, fun i => ?_⟩
    rw [b1 i, d1]
    dsimp only [fx_up]
    by_cases h1 : 60 * x1 + v4 ≤ i ∧ i < 60 * x1 + 60
    · rw [if_pos h1, if_pos (by omega)]
    · rw [if_neg h1]
      by_cases h2 : i = v3
      · rw [if_pos (by omega), if_pos (by omega)]
      · rw [if_neg (by omega), if_neg (by omega)]
theorem q213_0 (S : fx_S) (x1 x2 x3 : Int) (hS : fx_Sok S) (g1 : -2147483648 ≤ x1 ∧ x1 ≤ 2147483647) (g2 : -2147483648 ≤ x2 ∧ x2 ≤ 2147483647) (g3 : -9223372036854775808 ≤ x3 ∧ x3 ≤ 9223372036854775807) (c1 : 0 ≤ x1) (c2 : x1 < 4) (v3 : Int) (e3 : v3 = S.1 53 x1) (b3 : -2147483648 ≤ v3 ∧ v3 ≤ 2147483647) (v4 : Int) (e4 : v4 = fx_shl 8 v3) (v5 : Int) (e5 : v5 = fx_sub 64 v4) (v6 : Int) (e6 : v6 = fx_mul x1 60) (v7 : Int) (e7 : v7 = fx_add v6 x2) (v8 : Int) (e8 : v8 = fx_lshl x3 v5) (v9 : Int) (e9 : v9 = fx_lshr v8 v5) (c3 : 0 ≤ v7) (c4 : v7 < 240) (S1 : fx_S) (d1 : S1 = (fx_up S.1 55 v7 v9, S.2)) : s213 S x1 x2 x3 0 S1 := by
  refine ⟨(show S1.2 = S.2 by rw [d1]), ?_, ?_⟩
  · intro p i hW
    clear c4 c3 e9 e8 e7 e6 e5 e4 b3 e3 c2 c1
    exact (show S1.1 p i = S.1 p i by rw [d1]; exact if_neg (by omega))
  · skip
    intro a0 a1 i
    have h5 := e5
    first | rw [fx_sub_eq (by omega) (by omega)] at h5 | skip
    have h6 := e6
    first | rw [fx_mul_eq (by omega) (by omega)] at h6 | skip
    have h7 := e7
    first | rw [fx_add_eq (by omega) (by omega)] at h7 | skip
    unfold fx_cut
    rw [← e3, ← e4, ← e5, ← e8, ← e9]
    by_cases hi : i = 60 * x1 + x2
    all_goals (subst d1; dsimp only [fx_up]; repeat (first | rw [if_pos (by omega)] | rw [if_neg (by omega)]))
    all_goals first | omega | rfl
theorem q214_0 (S : fx_S) (x1 x2 x3 : Int) (hS : fx_Sok S) (g1 : -2147483648 ≤ x1 ∧ x1 ≤ 2147483647) (g2 : -2147483648 ≤ x2 ∧ x2 ≤ 2147483647) (g3 : -2147483648 ≤ x3 ∧ x3 ≤ 2147483647) (c1 : x2 < 0) : s214 S x1 x2 x3 0 S := by
  refine ⟨rfl, ?_⟩
  intro a0
  skip
  first
    | rw [if_neg (by omega)]
    | (have u := a0 (by omega) (by omega)
       first | rw [if_pos (by omega)] | rw [if_neg (by omega)])
theorem q214_1 (S : fx_S) (x1 x2 x3 : Int) (hS : fx_Sok S) (g1 : -2147483648 ≤ x1 ∧ x1 ≤ 2147483647) (g2 : -2147483648 ≤ x2 ∧ x2 ≤ 2147483647) (g3 : -2147483648 ≤ x3 ∧ x3 ≤ 2147483647) (c1 : 0 ≤ x2) (c2 : x3 < 0) : s214 S x1 x2 x3 0 S := by
  refine ⟨rfl, ?_⟩
  intro a0
  skip
  first
    | rw [if_neg (by omega)]
    | (have u := a0 (by omega) (by omega)
       first | rw [if_pos (by omega)] | rw [if_neg (by omega)])
theorem q214_2 (S : fx_S) (x1 x2 x3 : Int) (hS : fx_Sok S) (g1 : -2147483648 ≤ x1 ∧ x1 ≤ 2147483647) (g2 : -2147483648 ≤ x2 ∧ x2 ≤ 2147483647) (g3 : -2147483648 ≤ x3 ∧ x3 ≤ 2147483647) (c1 : 0 ≤ x2) (c2 : 0 ≤ x3) (c3 : 0 ≤ x1) (c4 : x1 < 4) (v3 : Int) (e3 : v3 = S.1 54 x1) (b3 : -2147483648 ≤ v3 ∧ v3 ≤ 2147483647) (c5 : v3 < x3) : s214 S x1 x2 x3 0 S := by
  refine ⟨rfl, ?_⟩
  intro a0
  skip
  first
    | rw [if_neg (by omega)]
    | (have u := a0 (by omega) (by omega)
       first | rw [if_pos (by omega)] | rw [if_neg (by omega)])
theorem q214_3 (S : fx_S) (x1 x2 x3 : Int) (hS : fx_Sok S) (g1 : -2147483648 ≤ x1 ∧ x1 ≤ 2147483647) (g2 : -2147483648 ≤ x2 ∧ x2 ≤ 2147483647) (g3 : -2147483648 ≤ x3 ∧ x3 ≤ 2147483647) (c1 : 0 ≤ x2) (c2 : 0 ≤ x3) (c3 : 0 ≤ x1) (c4 : x1 < 4) (v3 : Int) (e3 : v3 = S.1 54 x1) (b3 : -2147483648 ≤ v3 ∧ v3 ≤ 2147483647) (c5 : x3 ≤ v3) (c6 : 0 ≤ x1) (c7 : x1 < 4) (v4 : Int) (e4 : v4 = S.1 54 x1) (b4 : -2147483648 ≤ v4 ∧ v4 ≤ 2147483647) (v5 : Int) (e5 : v5 = fx_sub v4 x3) (c8 : v5 < x2) : s214 S x1 x2 x3 0 S := by
  refine ⟨rfl, ?_⟩
  intro a0
  obtain rfl : v3 = v4 := by rw [e4, e3]
  have h5 := e5
  first | rw [fx_sub_eq (by omega) (by omega)] at h5 | skip
  first
    | rw [if_neg (by omega)]
    | (have u := a0 (by omega) (by omega)
       first | rw [if_pos (by omega)] | rw [if_neg (by omega)])
theorem q214_4 (S : fx_S) (x1 x2 x3 : Int) (hS : fx_Sok S) (g1 : -2147483648 ≤ x1 ∧ x1 ≤ 2147483647) (g2 : -2147483648 ≤ x2 ∧ x2 ≤ 2147483647) (g3 : -2147483648 ≤ x3 ∧ x3 ≤ 2147483647) (c1 : 0 ≤ x2) (c2 : 0 ≤ x3) (c3 : 0 ≤ x1) (c4 : x1 < 4) (v3 : Int) (e3 : v3 = S.1 54 x1) (b3 : -2147483648 ≤ v3 ∧ v3 ≤ 2147483647) (c5 : x3 ≤ v3) (c6 : 0 ≤ x1) (c7 : x1 < 4) (v4 : Int) (e4 : v4 = S.1 54 x1) (b4 : -2147483648 ≤ v4 ∧ v4 ≤ 2147483647) (v5 : Int) (e5 : v5 = fx_sub v4 x3) (c8 : x2 ≤ v5) : s214 S x1 x2 x3 1 S := by
  refine ⟨rfl, ?_⟩
  intro a0
  obtain rfl : v3 = v4 := by rw [e4, e3]
  have h5 := e5
  first | rw [fx_sub_eq (by omega) (by omega)] at h5 | skip
  first
    | rw [if_neg (by omega)]
    | (have u := a0 (by omega) (by omega)
       first | rw [if_pos (by omega)] | rw [if_neg (by omega)])
theorem q215_0 (S : fx_S) (x1 x2 x3 x4 x5 : Int) (hS : fx_Sok S) (g1 : -2147483648 ≤ x1 ∧ x1 ≤ 2147483647) (g2 : -2147483648 ≤ x2 ∧ x2 ≤ 2147483647) (g3 : -2147483648 ≤ x3 ∧ x3 ≤ 2147483647) (g4 : -2147483648 ≤ x4 ∧ x4 ≤ 2147483647) (g5 : -2147483648 ≤ x5 ∧ x5 ≤ 2147483647) (v5 : Int) (e5 : v5 = fx_mul x1 60) (v6 : Int) (e6 : v6 = fx_add v5 x2) (v7 : Int) (e7 : v7 = fx_mul x3 60) (v8 : Int) (e8 : v8 = fx_add v7 x4) (c1 : 0 ≤ v6) (c2 : 0 ≤ v8) (c3 : 0 ≤ x5) (S1 : fx_S) (d1 : S1 = (fx_cy S.1 55 v6 55 v8 x5, S.2)) : s215 S x1 x2 x3 x4 x5 0 S1 := by
  refine ⟨(show S1.2 = S.2 by rw [d1]), ?_, ?_⟩
  · intro p i hW
    clear c3 c2 c1 e8 e7 e6 e5
    exact (show S1.1 p i = S.1 p i by rw [d1]; exact if_neg (by omega))
  · skip
    intro pa pb i
    have h5 := e5
    first | rw [fx_mul_eq (by omega) (by omega)] at h5 | skip
    have h6 := e6
    first | rw [fx_add_eq (by omega) (by omega)] at h6 | skip
    have h7 := e7
    first | rw [fx_mul_eq (by omega) (by omega)] at h7 | skip
    have h8 := e8
    first | rw [fx_add_eq (by omega) (by omega)] at h8 | skip
    rw [d1]
    dsimp only [fx_cy]
    by_cases hi : 60 * x3 + x4 ≤ i ∧ i < 60 * x3 + x4 + x5
    · rw [if_pos (by omega), if_pos hi, show v6 = 60 * x1 + x2 by omega, show v8 = 60 * x3 + x4 by omega]
    · rw [if_neg (by omega), if_neg hi]
theorem q216_0 (S : fx_S) (x1 x2 x3 x4 x5 x6 : Int) (hS : fx_Sok S) (g1 : -2147483648 ≤ x1 ∧ x1 ≤ 2147483647) (g2 : -2147483648 ≤ x2 ∧ x2 ≤ 2147483647) (g3 : -2147483648 ≤ x3 ∧ x3 ≤ 2147483647) (g4 : -2147483648 ≤ x4 ∧ x4 ≤ 2147483647) (g5 : -2147483648 ≤ x5 ∧ x5 ≤ 2147483647) (g6 : -2147483648 ≤ x6 ∧ x6 ≤ 2147483647) (c1 : x5 ≤ x6) (z : Int) (Z : fx_S) (kz : fx_Sok Z) (bz : -2147483648 ≤ z ∧ z ≤ 2147483647) (pz : s301 S x3 x4 x5 0 z Z) : s216 S x1 x2 x3 x4 x5 x6 z Z := by
  obtain ⟨rZ, fZ, pz⟩ := pz
  refine ⟨rZ, ?_, ?_⟩
  · intro p i hW
    clear c1
    exact (fZ p i (by omega))
  · skip
    intro pa pb a0
    obtain ⟨b0, b1⟩ := pz pb (by omega)
    refine ⟨b0, fun i => ?_⟩
    rw [b1 i, show 60 * x3 + x4 + 0 = 60 * x3 + x4 by omega]
    by_cases h1 : 60 * x3 + x4 ≤ i ∧ i < 60 * x3 + x4 + x5
    · rw [if_pos h1, if_pos h1, if_neg (by omega)]
    · rw [if_neg h1, if_neg h1]
theorem q216_1 (S : fx_S) (x1 x2 x3 x4 x5 x6 : Int) (hS : fx_Sok S) (g1 : -2147483648 ≤ x1 ∧ x1 ≤ 2147483647) (g2 : -2147483648 ≤ x2 ∧ x2 ≤ 2147483647) (g3 : -2147483648 ≤ x3 ∧ x3 ≤ 2147483647) (g4 : -2147483648 ≤ x4 ∧ x4 ≤ 2147483647) (g5 : -2147483648 ≤ x5 ∧ x5 ≤ 2147483647) (g6 : -2147483648 ≤ x6 ∧ x6 ≤ 2147483647) (c1 : x6 < x5) (v6 : Int) (e6 : v6 = fx_mul 60 x1) (v7 : Int) (e7 : v7 = fx_add v6 x2) (v8 : Int) (e8 : v8 = fx_add v7 x6) (c2 : 0 ≤ v8) (c3 : v8 < 240) (v9 : Int) (e9 : v9 = S.1 89 v8) (b9 : -9223372036854775808 ≤ v9 ∧ v9 ≤ 9223372036854775807) (c4 : 0 ≤ x6) (c5 : x6 < 60) (S1 : fx_S) (d1 : S1 = (fx_up S.1 90 x6 v9, S.2)) (v10 : Int) (e10 : v10 = fx_add x6 1) (z : Int) (Z : fx_S) (kz : fx_Sok Z) (bz : -2147483648 ≤ z ∧ z ≤ 2147483647) (pz : s216 S1 x1 x2 x3 x4 x5 v10 z Z) : s216 S x1 x2 x3 x4 x5 x6 z Z := by
  obtain ⟨rZ, fZ, pz⟩ := pz
  refine ⟨(rZ).trans ((show S1.2 = S.2 by rw [d1])), ?_, ?_⟩
  · intro p i hW
    clear e10 c5 c4 b9 e9 c3 c2 e8 e7 e6 c1
    exact ((fZ p i (by omega))).trans ((show S1.1 p i = S.1 p i by rw [d1]; exact if_neg (by omega)))
  · skip
    intro pa pb a0
    have h6 := e6
    first | rw [fx_mul_eq (by omega) (by omega)] at h6 | skip
    have h7 := e7
    first | rw [fx_add_eq (by omega) (by omega)] at h7 | skip
    have h8 := e8
    first | rw [fx_add_eq (by omega) (by omega)] at h8 | skip
    have h10 := e10
    first | rw [fx_add_eq (by omega) (by omega)] at h10 | skip
    obtain ⟨b0, b1⟩ := pz pa pb (by omega)
    have g : ∀ i, S1.1 89 i = S.1 89 i := fun i => by rw [d1]; first | exact if_neg (by omega) | rfl
    refine ⟨b0, fun i => ?_⟩
    rw [b1 i, g, g, d1]
    dsimp only [fx_up]
    by_cases h1 : 60 * x3 + x4 ≤ i ∧ i < 60 * x3 + x4 + x5
    · rw [if_pos h1, if_pos h1]
      by_cases h2 : i - (60 * x3 + x4) = x6
      · rw [if_neg (by omega), if_pos (by omega), if_pos (by omega), h2, show 60 * x1 + x2 + x6 = v8 by omega]
        exact e9
      · by_cases h3 : v10 ≤ i - (60 * x3 + x4)
        · rw [if_pos h3, if_pos (by omega)]
        · rw [if_neg h3, if_neg (by omega), if_neg (by omega)]
    · rw [if_neg h1, if_neg h1]
theorem q217_0 (S : fx_S) (x1 x2 : Int) (hS : fx_Sok S) (g1 : -2147483648 ≤ x1 ∧ x1 ≤ 2147483647) (g2 : -2147483648 ≤ x2 ∧ x2 ≤ 2147483647) (c1 : x2 < 0) : s217 S x1 x2 0 S := by
  refine ⟨rfl, ?_⟩
  · intro p i hW
    clear c1
    exact rfl
theorem q217_1 (S : fx_S) (x1 x2 : Int) (hS : fx_Sok S) (g1 : -2147483648 ≤ x1 ∧ x1 ≤ 2147483647) (g2 : -2147483648 ≤ x2 ∧ x2 ≤ 2147483647) (c1 : 0 ≤ x2) (v2 : Int) (e2 : v2 = S.1 50 1) (b2 : -2147483648 ≤ v2 ∧ v2 ≤ 2147483647) (c2 : 600 ≤ v2) : s217 S x1 x2 0 S := by
  refine ⟨rfl, ?_⟩
  · intro p i hW
    clear c2 b2 e2 c1
    exact rfl
theorem q217_2 (S : fx_S) (x1 x2 : Int) (hS : fx_Sok S) (g1 : -2147483648 ≤ x1 ∧ x1 ≤ 2147483647) (g2 : -2147483648 ≤ x2 ∧ x2 ≤ 2147483647) (c1 : 0 ≤ x2) (v2 : Int) (e2 : v2 = S.1 50 1) (b2 : -2147483648 ≤ v2 ∧ v2 ≤ 2147483647) (c2 : v2 < 600) (v3 : Int) (e3 : v3 = S.1 50 1) (b3 : -2147483648 ≤ v3 ∧ v3 ≤ 2147483647) (v4 : Int) (e4 : v4 = fx_shr x1 x2) (v5 : Int) (e5 : v5 = fx_i2b v4) (v6 : Int) (e6 : v6 = fx_nar 1 v5) (c3 : 0 ≤ v3) (c4 : v3 < 600) (S1 : fx_S) (d1 : S1 = (fx_up S.1 51 v3 v6, S.2)) (v7 : Int) (e7 : v7 = S1.1 50 1) (b7 : -2147483648 ≤ v7 ∧ v7 ≤ 2147483647) (v8 : Int) (e8 : v8 = fx_add v7 1) (S2 : fx_S) (d2 : S2 = (fx_up S1.1 50 1 v8, S1.2)) (v9 : Int) (e9 : v9 = fx_add x2 (-8)) (z : Int) (Z : fx_S) (kz : fx_Sok Z) (bz : z = 0) (pz : s217 S2 x1 v9 z Z) : s217 S x1 x2 z Z := by
  obtain ⟨rZ, fZ⟩ := pz
  refine ⟨(rZ).trans (((show S2.2 = S1.2 by rw [d2])).trans ((show S1.2 = S.2 by rw [d1]))), ?_⟩
  · intro p i hW
    clear e9 e8 b7 e7 c4 c3 e6 e5 e4 b3 e3 c2 b2 e2 c1
    exact ((fZ p i (by omega))).trans (((show S2.1 p i = S1.1 p i by rw [d2]; exact if_neg (by omega))).trans ((show S1.1 p i = S.1 p i by rw [d1]; exact if_neg (by omega))))
theorem q218_0 (S : fx_S) (hS : fx_Sok S) (v0 : Int) (e0 : v0 = S.1 50 2) (b0 : -2147483648 ≤ v0 ∧ v0 ≤ 2147483647) (c1 : v0 = 0) (z : Int) (Z : fx_S) (kz : fx_Sok Z) (bz : z = 0) (pz : s302 S  z Z) : s218 S  z Z := by
  obtain ⟨rZ, fZ⟩ := pz
  refine ⟨rZ, ?_⟩
  · intro p i hW
    clear c1 b0 e0
    exact (fZ p i (by omega))
theorem q218_1 (S : fx_S) (hS : fx_Sok S) (v0 : Int) (e0 : v0 = S.1 50 2) (b0 : -2147483648 ≤ v0 ∧ v0 ≤ 2147483647) (c1 : v0 ≠ 0) : s218 S  0 S := by
  refine ⟨rfl, ?_⟩
  · intro p i hW
    clear c1 b0 e0
    exact rfl
theorem q219_0 (S : fx_S) (x2 x3 : Int) (hS : fx_Sok S) (g2 : 0 ≤ x2 ∧ x2 < S.2.2) (g3 : -2147483648 ≤ x3 ∧ x3 ≤ 2147483647) (c1 : 16 < x3) (S1 : fx_S) (d1 : S1 = (fx_up S.1 50 1 0, S.2)) : s219 S x2 x3 x2 S1 := by
  refine ⟨(show S1.2 = S.2 by rw [d1]), ?_⟩
  · intro p i hW
    exact (show S1.1 p i = S.1 p i by rw [d1]; exact if_neg (by omega))
theorem q219_1 (S : fx_S) (x2 x3 : Int) (hS : fx_Sok S) (g2 : 0 ≤ x2 ∧ x2 < S.2.2) (g3 : -2147483648 ≤ x3 ∧ x3 ≤ 2147483647) (c1 : x3 ≤ 16) (v2 : Int) (e2 : v2 = S.1 50 2) (b2 : -2147483648 ≤ v2 ∧ v2 ≤ 2147483647) (c2 : v2 ≠ 0) (S1 : fx_S) (d1 : S1 = (fx_up S.1 50 1 0, S.2)) : s219 S x2 x3 x2 S1 := by
  refine ⟨(show S1.2 = S.2 by rw [d1]), ?_⟩
  · intro p i hW
    exact (show S1.1 p i = S.1 p i by rw [d1]; exact if_neg (by omega))
theorem q219_2 (S : fx_S) (x2 x3 : Int) (hS : fx_Sok S) (g2 : 0 ≤ x2 ∧ x2 < S.2.2) (g3 : -2147483648 ≤ x3 ∧ x3 ≤ 2147483647) (c1 : x3 ≤ 16) (v2 : Int) (e2 : v2 = S.1 50 2) (b2 : -2147483648 ≤ v2 ∧ v2 ≤ 2147483647) (c2 : v2 = 0) (v3 : Int) (e3 : v3 = S.1 50 6) (b3 : -2147483648 ≤ v3 ∧ v3 ≤ 2147483647) (c3 : v3 = 5) (S1 : fx_S) (d1 : S1 = (fx_up S.1 50 1 0, S.2)) : s219 S x2 x3 x2 S1 := by
  refine ⟨(show S1.2 = S.2 by rw [d1]), ?_⟩
  · intro p i hW
    exact (show S1.1 p i = S.1 p i by rw [d1]; exact if_neg (by omega))
theorem q219_3 (S : fx_S) (x2 x3 : Int) (hS : fx_Sok S) (g2 : 0 ≤ x2 ∧ x2 < S.2.2) (g3 : -2147483648 ≤ x3 ∧ x3 ≤ 2147483647) (c1 : x3 ≤ 16) (v2 : Int) (e2 : v2 = S.1 50 2) (b2 : -2147483648 ≤ v2 ∧ v2 ≤ 2147483647) (c2 : v2 = 0) (v3 : Int) (e3 : v3 = S.1 50 6) (b3 : -2147483648 ≤ v3 ∧ v3 ≤ 2147483647) (c3 : v3 ≠ 5) (v4 : Int) (S1 : fx_S) (k1 : fx_Sok S1) (b4 : v4 = 0) (p1 : s303 S x2 x3 v4 S1) (v5 : Int) (e5 : v5 = fx_add x3 1) (z : Int) (Z : fx_S) (kz : fx_Sok Z) (bz : -1 ≤ z ∧ z < Z.2.2) (pz : s219 S1 x2 v5 z Z) : s219 S x2 x3 z Z := by
  obtain ⟨r1, f1⟩ := p1
  obtain ⟨rZ, fZ⟩ := pz
  refine ⟨(rZ).trans (r1), ?_⟩
  · intro p i hW
    exact ((fZ p i (by omega))).trans ((f1 p i (by omega)))
theorem q220_0 (S : fx_S) (x1 : Int) (hS : fx_Sok S) (g1 : -2147483648 ≤ x1 ∧ x1 ≤ 2147483647) (v1 : Int) (e1 : v1 = S.1 66 7) (b1 : -2147483648 ≤ v1 ∧ v1 ≤ 2147483647) (c1 : v1 ≤ x1) : s220 S x1 (-1) S := by
  exact rfl
theorem q220_1 (S : fx_S) (x1 : Int) (hS : fx_Sok S) (g1 : -2147483648 ≤ x1 ∧ x1 ≤ 2147483647) (v1 : Int) (e1 : v1 = S.1 66 7) (b1 : -2147483648 ≤ v1 ∧ v1 ≤ 2147483647) (c1 : x1 < v1) (c2 : 0 ≤ x1) (c3 : x1 < 600) (v2 : Int) (e2 : v2 = S.1 70 x1) (b2 : -128 ≤ v2 ∧ v2 ≤ 127) (v3 : Int) (e3 : v3 = fx_and v2 255) : s220 S x1 v3 S := by
  exact rfl
theorem q221_0 (S : fx_S) (hS : fx_Sok S) (v0 : Int) (e0 : v0 = S.1 66 8) (b0 : -2147483648 ≤ v0 ∧ v0 ≤ 2147483647) (v1 : Int) (S1 : fx_S) (k1 : fx_Sok S1) (b1 : -2147483648 ≤ v1 ∧ v1 ≤ 2147483647) (p1 : s220 S v0 v1 S1) (v2 : Int) (S2 : fx_S) (k2 : fx_Sok S2) (b2 : -2147483648 ≤ v2 ∧ v2 ≤ 2147483647) (p2 : s113 S1 v1 48 57 v2 S2) (c1 : v2 = 0) (S3 : fx_S) (d3 : S3 = (fx_up S2.1 66 10 2, S2.2)) : s221 S  0 S3 := by
  obtain rfl : S = S1 := p1
  obtain ⟨rfl, p2⟩ := p2
  refine ⟨(show S3.2 = S.2 by rw [d3]), ?_⟩
  · intro p i hW
    clear c1 b2 b1 b0 e0
    exact (show S3.1 p i = S.1 p i by rw [d3]; exact if_neg (by omega))
theorem q221_1 (S : fx_S) (hS : fx_Sok S) (v0 : Int) (e0 : v0 = S.1 66 8) (b0 : -2147483648 ≤ v0 ∧ v0 ≤ 2147483647) (v1 : Int) (S1 : fx_S) (k1 : fx_Sok S1) (b1 : -2147483648 ≤ v1 ∧ v1 ≤ 2147483647) (p1 : s220 S v0 v1 S1) (v2 : Int) (S2 : fx_S) (k2 : fx_Sok S2) (b2 : -2147483648 ≤ v2 ∧ v2 ≤ 2147483647) (p2 : s113 S1 v1 48 57 v2 S2) (c1 : v2 ≠ 0) (v3 : Int) (e3 : v3 = S2.1 66 11) (b3 : -2147483648 ≤ v3 ∧ v3 ≤ 2147483647) (v4 : Int) (e4 : v4 = fx_mul 10 v3) (v5 : Int) (e5 : v5 = S2.1 66 8) (b5 : -2147483648 ≤ v5 ∧ v5 ≤ 2147483647) (v6 : Int) (S3 : fx_S) (k3 : fx_Sok S3) (b6 : -2147483648 ≤ v6 ∧ v6 ≤ 2147483647) (p3 : s220 S2 v5 v6 S3) (v7 : Int) (e7 : v7 = fx_add v4 v6) (v8 : Int) (e8 : v8 = fx_sub v7 48) (v9 : Int) (S4 : fx_S) (k4 : fx_Sok S4) (b9 : -2147483648 ≤ v9 ∧ v9 ≤ 2147483647) (p4 : s125 S3 99999 v8 v9 S4) (S5 : fx_S) (d5 : S5 = (fx_up S4.1 66 11 v9, S4.2)) (v10 : Int) (e10 : v10 = S5.1 66 8) (b10 : -2147483648 ≤ v10 ∧ v10 ≤ 2147483647) (v11 : Int) (e11 : v11 = fx_add v10 1) (S6 : fx_S) (d6 : S6 = (fx_up S5.1 66 8 v11, S5.2)) (z : Int) (Z : fx_S) (kz : fx_Sok Z) (bz : z = 0) (pz : s221 S6  z Z) : s221 S  z Z := by
  obtain rfl : S = S1 := p1
  obtain ⟨rfl, p2⟩ := p2
  obtain rfl : S = S3 := p3
  obtain ⟨rfl, p4⟩ := p4
  obtain ⟨rZ, fZ⟩ := pz
  refine ⟨(rZ).trans (((show S6.2 = S5.2 by rw [d6])).trans ((show S5.2 = S.2 by rw [d5]))), ?_⟩
  · intro p i hW
    clear e11 b10 e10 b9 e8 e7 b6 b5 e5 e4 b3 e3 c1 b2 b1 b0 e0
    exact ((fZ p i (by omega))).trans (((show S6.1 p i = S5.1 p i by rw [d6]; exact if_neg (by omega))).trans ((show S5.1 p i = S.1 p i by rw [d5]; exact if_neg (by omega))))
theorem q222_0 (S : fx_S) (hS : fx_Sok S) (v0 : Int) (e0 : v0 = S.1 66 8) (b0 : -2147483648 ≤ v0 ∧ v0 ≤ 2147483647) (v1 : Int) (S1 : fx_S) (k1 : fx_Sok S1) (b1 : -2147483648 ≤ v1 ∧ v1 ≤ 2147483647) (p1 : s220 S v0 v1 S1) (v2 : Int) (S2 : fx_S) (k2 : fx_Sok S2) (b2 : -2147483648 ≤ v2 ∧ v2 ≤ 2147483647) (p2 : s113 S1 v1 97 122 v2 S2) (c1 : v2 = 0) (S3 : fx_S) (d3 : S3 = (fx_up S2.1 66 10 1, S2.2)) : s222 S  0 S3 := by
  obtain rfl : S = S1 := p1
  obtain ⟨rfl, p2⟩ := p2
  refine ⟨(show S3.2 = S.2 by rw [d3]), ?_⟩
  · intro p i hW
    clear c1 b2 b1 b0 e0
    exact (show S3.1 p i = S.1 p i by rw [d3]; exact if_neg (by omega))
theorem q222_1 (S : fx_S) (hS : fx_Sok S) (v0 : Int) (e0 : v0 = S.1 66 8) (b0 : -2147483648 ≤ v0 ∧ v0 ≤ 2147483647) (v1 : Int) (S1 : fx_S) (k1 : fx_Sok S1) (b1 : -2147483648 ≤ v1 ∧ v1 ≤ 2147483647) (p1 : s220 S v0 v1 S1) (v2 : Int) (S2 : fx_S) (k2 : fx_Sok S2) (b2 : -2147483648 ≤ v2 ∧ v2 ≤ 2147483647) (p2 : s113 S1 v1 97 122 v2 S2) (c1 : v2 ≠ 0) (v3 : Int) (e3 : v3 = S2.1 66 8) (b3 : -2147483648 ≤ v3 ∧ v3 ≤ 2147483647) (v4 : Int) (e4 : v4 = fx_add v3 1) (S3 : fx_S) (d3 : S3 = (fx_up S2.1 66 8 v4, S2.2)) (z : Int) (Z : fx_S) (kz : fx_Sok Z) (bz : z = 0) (pz : s222 S3  z Z) : s222 S  z Z := by
  obtain rfl : S = S1 := p1
  obtain ⟨rfl, p2⟩ := p2
  obtain ⟨rZ, fZ⟩ := pz
  refine ⟨(rZ).trans ((show S3.2 = S.2 by rw [d3])), ?_⟩
  · intro p i hW
    clear e4 b3 e3 c1 b2 b1 b0 e0
    exact ((fZ p i (by omega))).trans ((show S3.1 p i = S.1 p i by rw [d3]; exact if_neg (by omega)))
theorem q223_0 (S : fx_S) (x3 x4 : Int) (hS : fx_Sok S) (g3 : -2147483648 ≤ x3 ∧ x3 ≤ 2147483647) (g4 : -2147483648 ≤ x4 ∧ x4 ≤ 2147483647) (c1 : 260 ≤ x4) (v2 : Int) (e2 : v2 = S.1 67 3) (b2 : -2147483648 ≤ v2 ∧ v2 ≤ 2147483647) (v3 : Int) (e3 : v3 = fx_add v2 1) (S1 : fx_S) (d1 : S1 = (fx_up S.1 67 3 v3, S.2)) (v4 : Int) (e4 : v4 = S1.1 67 3) (b4 : -2147483648 ≤ v4 ∧ v4 ≤ 2147483647) (v5 : Int) (e5 : v5 = fx_sub v4 1) : s223 S x3 x4 v5 S1 := by
  unfold s223
  intro h1 h2 h3 h4 h5
  have h3 := e3
  first | rw [fx_add_eq (by omega) (by omega)] at h3 | skip
  have t4_1 : S1.1 67 3 = v3 := by rw [d1]; first | exact if_pos ⟨rfl, by omega⟩ | rfl
  rw [t4_1] at e4
  obtain rfl : v3 = v4 := e4.symm
  have h5 := e5
  first | rw [fx_sub_eq (by omega) (by omega)] at h5 | skip
  refine ⟨by rw [d1], fun p i hp => by rw [d1]; first | exact if_neg (by omega) | rfl, fun i => ?_⟩
  by_cases hi : i = 3
  · rw [if_pos hi, d1]
    exact (if_pos ⟨rfl, hi⟩).trans (by omega)
  · rw [if_neg hi, if_neg (by omega), d1]
    first | exact if_neg (by omega) | rfl
theorem q223_1 (S : fx_S) (x3 x4 : Int) (hS : fx_Sok S) (g3 : -2147483648 ≤ x3 ∧ x3 ≤ 2147483647) (g4 : -2147483648 ≤ x4 ∧ x4 ≤ 2147483647) (c1 : x4 < 260) (v2 : Int) (e2 : v2 = fx_add x3 x4) (c2 : 0 ≤ x4) (c3 : x4 < 260) (v3 : Int) (e3 : v3 = S.1 72 x4) (b3 : -2147483648 ≤ v3 ∧ v3 ≤ 2147483647) (c4 : 0 ≤ v2) (c5 : v2 < 8090) (S1 : fx_S) (d1 : S1 = (fx_up S.1 67 v2 v3, S.2)) (v4 : Int) (e4 : v4 = fx_add x4 1) (z : Int) (Z : fx_S) (kz : fx_Sok Z) (bz : -2147483648 ≤ z ∧ z ≤ 2147483647) (pz : s223 S1 x3 v4 z Z) : s223 S x3 x4 z Z := by
  unfold s223 at pz
  unfold s223
  intro h1 h2 h3 h4 h5
  have h2 := e2
  first | rw [fx_add_eq (by omega) (by omega)] at h2 | skip
  have h4 := e4
  first | rw [fx_add_eq (by omega) (by omega)] at h4 | skip
  have a3 : S1.1 67 3 = S.1 67 3 := by rw [d1]; first | exact if_neg (by omega) | rfl
  obtain ⟨q1, q2, q3⟩ := pz (by omega) (by omega) (by omega) (by omega) (by omega)
  refine ⟨q1.trans (by rw [d1]), fun p i hp => (q2 p i hp).trans (by rw [d1]; first | exact if_neg (by omega) | rfl), fun i => ?_⟩
  rw [q3 i, a3]
  by_cases hi : i = 3
  · rw [if_pos hi, if_pos hi]
  · rw [if_neg hi, if_neg hi, show S1.1 72 (i - x3) = S.1 72 (i - x3) by rw [d1]; first | exact if_neg (by omega) | rfl]
    by_cases h6 : x3 + v4 ≤ i ∧ i < x3 + 260
    · rw [if_pos h6, if_pos (by omega)]
    · rw [if_neg h6]
      by_cases h7 : i = v2
      · rw [if_pos (by omega), d1, show i - x3 = x4 by omega]
        exact (if_pos ⟨rfl, h7⟩).trans e3
      · rw [if_neg (by omega), d1]
        first | exact if_neg (by omega) | rfl
theorem q224_0 (S : fx_S) (hS : fx_Sok S) (v0 : Int) (S1 : fx_S) (k1 : fx_Sok S1) (b0 : -2147483648 ≤ v0 ∧ v0 ≤ 2147483647) (p1 : s304 S 0 v0 S1) (c1 : v0 = 0) (v1 : Int) (S2 : fx_S) (k2 : fx_Sok S2) (b1 : -2147483648 ≤ v1 ∧ v1 ≤ 2147483647) (p2 : s304 S1 1 v1 S2) (c2 : v1 = 0) (v2 : Int) (S3 : fx_S) (k3 : fx_Sok S3) (b2 : -2147483648 ≤ v2 ∧ v2 ≤ 2147483647) (p3 : s304 S2 2 v2 S3) (c3 : v2 = 0) (v3 : Int) (S4 : fx_S) (k4 : fx_Sok S4) (b3 : -2147483648 ≤ v3 ∧ v3 ≤ 2147483647) (p4 : s304 S3 3 v3 S4) (c4 : v3 = 0) (v4 : Int) (S5 : fx_S) (k5 : fx_Sok S5) (b4 : -2147483648 ≤ v4 ∧ v4 ≤ 2147483647) (p5 : s304 S4 4 v4 S5) (c5 : v4 = 0) : s224 S  (-1) S5 := by
  obtain rfl : S = S1 := p1
  obtain rfl : S = S2 := p2
  obtain rfl : S = S3 := p3
  obtain rfl : S = S4 := p4
  obtain rfl : S = S5 := p5
  exact rfl
theorem q224_1 (S : fx_S) (hS : fx_Sok S) (v0 : Int) (S1 : fx_S) (k1 : fx_Sok S1) (b0 : -2147483648 ≤ v0 ∧ v0 ≤ 2147483647) (p1 : s304 S 0 v0 S1) (c1 : v0 = 0) (v1 : Int) (S2 : fx_S) (k2 : fx_Sok S2) (b1 : -2147483648 ≤ v1 ∧ v1 ≤ 2147483647) (p2 : s304 S1 1 v1 S2) (c2 : v1 = 0) (v2 : Int) (S3 : fx_S) (k3 : fx_Sok S3) (b2 : -2147483648 ≤ v2 ∧ v2 ≤ 2147483647) (p3 : s304 S2 2 v2 S3) (c3 : v2 = 0) (v3 : Int) (S4 : fx_S) (k4 : fx_Sok S4) (b3 : -2147483648 ≤ v3 ∧ v3 ≤ 2147483647) (p4 : s304 S3 3 v3 S4) (c4 : v3 = 0) (v4 : Int) (S5 : fx_S) (k5 : fx_Sok S5) (b4 : -2147483648 ≤ v4 ∧ v4 ≤ 2147483647) (p5 : s304 S4 4 v4 S5) (c5 : v4 ≠ 0) : s224 S  4 S5 := by
  obtain rfl : S = S1 := p1
  obtain rfl : S = S2 := p2
  obtain rfl : S = S3 := p3
  obtain rfl : S = S4 := p4
  obtain rfl : S = S5 := p5
  exact rfl
theorem q224_2 (S : fx_S) (hS : fx_Sok S) (v0 : Int) (S1 : fx_S) (k1 : fx_Sok S1) (b0 : -2147483648 ≤ v0 ∧ v0 ≤ 2147483647) (p1 : s304 S 0 v0 S1) (c1 : v0 = 0) (v1 : Int) (S2 : fx_S) (k2 : fx_Sok S2) (b1 : -2147483648 ≤ v1 ∧ v1 ≤ 2147483647) (p2 : s304 S1 1 v1 S2) (c2 : v1 = 0) (v2 : Int) (S3 : fx_S) (k3 : fx_Sok S3) (b2 : -2147483648 ≤ v2 ∧ v2 ≤ 2147483647) (p3 : s304 S2 2 v2 S3) (c3 : v2 = 0) (v3 : Int) (S4 : fx_S) (k4 : fx_Sok S4) (b3 : -2147483648 ≤ v3 ∧ v3 ≤ 2147483647) (p4 : s304 S3 3 v3 S4) (c4 : v3 ≠ 0) : s224 S  3 S4 := by
  obtain rfl : S = S1 := p1
  obtain rfl : S = S2 := p2
  obtain rfl : S = S3 := p3
  obtain rfl : S = S4 := p4
  exact rfl
theorem q224_3 (S : fx_S) (hS : fx_Sok S) (v0 : Int) (S1 : fx_S) (k1 : fx_Sok S1) (b0 : -2147483648 ≤ v0 ∧ v0 ≤ 2147483647) (p1 : s304 S 0 v0 S1) (c1 : v0 = 0) (v1 : Int) (S2 : fx_S) (k2 : fx_Sok S2) (b1 : -2147483648 ≤ v1 ∧ v1 ≤ 2147483647) (p2 : s304 S1 1 v1 S2) (c2 : v1 = 0) (v2 : Int) (S3 : fx_S) (k3 : fx_Sok S3) (b2 : -2147483648 ≤ v2 ∧ v2 ≤ 2147483647) (p3 : s304 S2 2 v2 S3) (c3 : v2 ≠ 0) : s224 S  2 S3 := by
  obtain rfl : S = S1 := p1
  obtain rfl : S = S2 := p2
  obtain rfl : S = S3 := p3
  exact rfl
theorem q224_4 (S : fx_S) (hS : fx_Sok S) (v0 : Int) (S1 : fx_S) (k1 : fx_Sok S1) (b0 : -2147483648 ≤ v0 ∧ v0 ≤ 2147483647) (p1 : s304 S 0 v0 S1) (c1 : v0 = 0) (v1 : Int) (S2 : fx_S) (k2 : fx_Sok S2) (b1 : -2147483648 ≤ v1 ∧ v1 ≤ 2147483647) (p2 : s304 S1 1 v1 S2) (c2 : v1 ≠ 0) : s224 S  1 S2 := by
  obtain rfl : S = S1 := p1
  obtain rfl : S = S2 := p2
  exact rfl
theorem q224_5 (S : fx_S) (hS : fx_Sok S) (v0 : Int) (S1 : fx_S) (k1 : fx_Sok S1) (b0 : -2147483648 ≤ v0 ∧ v0 ≤ 2147483647) (p1 : s304 S 0 v0 S1) (c1 : v0 ≠ 0) : s224 S  0 S1 := by
  obtain rfl : S = S1 := p1
  exact rfl
theorem q225_0 (S : fx_S) (x1 : Int) (hS : fx_Sok S) (g1 : -2147483648 ≤ x1 ∧ x1 ≤ 2147483647) (v1 : Int) (S1 : fx_S) (k1 : fx_Sok S1) (b1 : -2147483648 ≤ v1 ∧ v1 ≤ 2147483647) (p1 : s224 S  v1 S1) (v2 : Int) (S2 : fx_S) (k2 : fx_Sok S2) (b2 : v2 = 0) (p2 : s120 S1  v2 S2) (z : Int) (Z : fx_S) (kz : fx_Sok Z) (bz : z = 0) (pz : s305 S2 x1 v1 0 z Z) : s225 S x1 z Z := by
  obtain rfl : S = S1 := p1
  obtain ⟨r2, f2⟩ := p2
  obtain ⟨rZ, fZ, pz⟩ := pz
  refine ⟨(rZ).trans (r2), ?_, ?_⟩
  · intro p i hW
    clear b2 b1
    exact ((fZ p i (by omega))).trans ((f2 p i (by omega)))
  · skip
    intro a0
    obtain ⟨b1, b2⟩ := pz a0 (by omega) (by omega) (fun i i0 i1 => by omega)
    exact ⟨b1, fun i hi => (b2 i hi).trans (f2 72 i (by omega))⟩
theorem q226_0 (S : fx_S) (x1 : Int) (hS : fx_Sok S) (g1 : -2147483648 ≤ x1 ∧ x1 ≤ 2147483647) (v1 : Int) (e1 : v1 = S.1 66 12) (b1 : -2147483648 ≤ v1 ∧ v1 ≤ 2147483647) (c1 : v1 ≠ 0) : s226 S x1 0 S := by
  refine ⟨rfl, ?_, ?_⟩
  · intro p i hW
    clear c1 b1 e1
    exact rfl
  · skip
    intro h
    rw [← e1]
    exact c1
theorem q226_1 (S : fx_S) (x1 : Int) (hS : fx_Sok S) (g1 : -2147483648 ≤ x1 ∧ x1 ≤ 2147483647) (v1 : Int) (e1 : v1 = S.1 66 12) (b1 : -2147483648 ≤ v1 ∧ v1 ≤ 2147483647) (c1 : v1 = 0) (S1 : fx_S) (d1 : S1 = (fx_up S.1 66 12 x1, S.2)) (v2 : Int) (e2 : v2 = S1.1 66 9) (b2 : -2147483648 ≤ v2 ∧ v2 ≤ 2147483647) (S2 : fx_S) (d2 : S2 = (fx_up S1.1 66 13 v2, S1.2)) : s226 S x1 0 S2 := by
  refine ⟨((show S2.2 = S1.2 by rw [d2])).trans ((show S1.2 = S.2 by rw [d1])), ?_, ?_⟩
  · intro p i hW
    clear b2 e2 c1 b1 e1
    exact ((show S2.1 p i = S1.1 p i by rw [d2]; exact if_neg (by omega))).trans ((show S1.1 p i = S.1 p i by rw [d1]; exact if_neg (by omega)))
  · skip
    intro h
    rw [show S2.1 66 12 = S1.1 66 12 by rw [d2]; first | exact if_neg (by omega) | rfl, show S1.1 66 12 = x1 by rw [d1]; first | exact if_pos ⟨rfl, rfl⟩ | rfl]
    exact h
theorem q227_0 (S : fx_S) (x1 x2 x3 : Int) (hS : fx_Sok S) (g1 : -2147483648 ≤ x1 ∧ x1 ≤ 2147483647) (g2 : -2147483648 ≤ x2 ∧ x2 ≤ 2147483647) (g3 : -2147483648 ≤ x3 ∧ x3 ≤ 2147483647) (c1 : x3 < 0) : s227 S x1 x2 x3 (-1) S := by
  refine ⟨rfl, ?_⟩
  intro h1 h2
  exact .inl ⟨rfl, fun i i0 i1 => absurd i1 (by omega)⟩
theorem q227_1 (S : fx_S) (x1 x2 x3 : Int) (hS : fx_Sok S) (g1 : -2147483648 ≤ x1 ∧ x1 ≤ 2147483647) (g2 : -2147483648 ≤ x2 ∧ x2 ≤ 2147483647) (g3 : -2147483648 ≤ x3 ∧ x3 ≤ 2147483647) (c1 : 0 ≤ x3) (c2 : 0 ≤ x3) (c3 : x3 < 10) (v3 : Int) (e3 : v3 = S.1 10 x3) (b3 : -2147483648 ≤ v3 ∧ v3 ≤ 2147483647) (c4 : x1 < v3) (v4 : Int) (e4 : v4 = fx_add x3 (-1)) (z : Int) (Z : fx_S) (kz : fx_Sok Z) (bz : -2147483648 ≤ z ∧ z ≤ 2147483647) (pz : s227 S x1 x2 v4 z Z) : s227 S x1 x2 x3 z Z := by
  obtain ⟨rfl, pz⟩ := pz
  refine ⟨rfl, ?_⟩
  intro h1 h2
  rw [fx_add_eq (by omega) (by omega)] at *
  subst e3
  subst e4
  have q := pz (by omega) (by omega)
  rw [show x3 + -1 + 1 = x3 by omega] at q
  exact fx_isl_no q (fun h => by omega)
theorem q227_2 (S : fx_S) (x1 x2 x3 : Int) (hS : fx_Sok S) (g1 : -2147483648 ≤ x1 ∧ x1 ≤ 2147483647) (g2 : -2147483648 ≤ x2 ∧ x2 ≤ 2147483647) (g3 : -2147483648 ≤ x3 ∧ x3 ≤ 2147483647) (c1 : 0 ≤ x3) (c2 : 0 ≤ x3) (c3 : x3 < 10) (v3 : Int) (e3 : v3 = S.1 10 x3) (b3 : -2147483648 ≤ v3 ∧ v3 ≤ 2147483647) (c4 : v3 ≤ x1) (c5 : 0 ≤ x3) (c6 : x3 < 10) (v4 : Int) (e4 : v4 = S.1 10 x3) (b4 : -2147483648 ≤ v4 ∧ v4 ≤ 2147483647) (c7 : x2 < v4) (v5 : Int) (e5 : v5 = fx_add x3 (-1)) (z : Int) (Z : fx_S) (kz : fx_Sok Z) (bz : -2147483648 ≤ z ∧ z ≤ 2147483647) (pz : s227 S x1 x2 v5 z Z) : s227 S x1 x2 x3 z Z := by
  obtain ⟨rfl, pz⟩ := pz
  refine ⟨rfl, ?_⟩
  intro h1 h2
  rw [fx_add_eq (by omega) (by omega)] at *
  subst e3
  subst e4
  subst e5
  have q := pz (by omega) (by omega)
  rw [show x3 + -1 + 1 = x3 by omega] at q
  exact fx_isl_no q (fun h => by omega)
theorem q227_3 (S : fx_S) (x1 x2 x3 : Int) (hS : fx_Sok S) (g1 : -2147483648 ≤ x1 ∧ x1 ≤ 2147483647) (g2 : -2147483648 ≤ x2 ∧ x2 ≤ 2147483647) (g3 : -2147483648 ≤ x3 ∧ x3 ≤ 2147483647) (c1 : 0 ≤ x3) (c2 : 0 ≤ x3) (c3 : x3 < 10) (v3 : Int) (e3 : v3 = S.1 10 x3) (b3 : -2147483648 ≤ v3 ∧ v3 ≤ 2147483647) (c4 : v3 ≤ x1) (c5 : 0 ≤ x3) (c6 : x3 < 10) (v4 : Int) (e4 : v4 = S.1 10 x3) (b4 : -2147483648 ≤ v4 ∧ v4 ≤ 2147483647) (c7 : v4 ≤ x2) (c8 : 0 ≤ x3) (c9 : x3 < 10) (v5 : Int) (e5 : v5 = S.1 12 x3) (b5 : -2147483648 ≤ v5 ∧ v5 ≤ 2147483647) (c10 : v5 ≤ x2) (v6 : Int) (e6 : v6 = fx_add x3 (-1)) (z : Int) (Z : fx_S) (kz : fx_Sok Z) (bz : -2147483648 ≤ z ∧ z ≤ 2147483647) (pz : s227 S x1 x2 v6 z Z) : s227 S x1 x2 x3 z Z := by
  obtain ⟨rfl, pz⟩ := pz
  refine ⟨rfl, ?_⟩
  intro h1 h2
  rw [fx_add_eq (by omega) (by omega)] at *
  subst e3
  subst e4
  subst e5
  subst e6
  have q := pz (by omega) (by omega)
  rw [show x3 + -1 + 1 = x3 by omega] at q
  exact fx_isl_no q (fun h => by omega)
theorem q227_4 (S : fx_S) (x1 x2 x3 : Int) (hS : fx_Sok S) (g1 : -2147483648 ≤ x1 ∧ x1 ≤ 2147483647) (g2 : -2147483648 ≤ x2 ∧ x2 ≤ 2147483647) (g3 : -2147483648 ≤ x3 ∧ x3 ≤ 2147483647) (c1 : 0 ≤ x3) (c2 : 0 ≤ x3) (c3 : x3 < 10) (v3 : Int) (e3 : v3 = S.1 10 x3) (b3 : -2147483648 ≤ v3 ∧ v3 ≤ 2147483647) (c4 : v3 ≤ x1) (c5 : 0 ≤ x3) (c6 : x3 < 10) (v4 : Int) (e4 : v4 = S.1 10 x3) (b4 : -2147483648 ≤ v4 ∧ v4 ≤ 2147483647) (c7 : v4 ≤ x2) (c8 : 0 ≤ x3) (c9 : x3 < 10) (v5 : Int) (e5 : v5 = S.1 12 x3) (b5 : -2147483648 ≤ v5 ∧ v5 ≤ 2147483647) (c10 : x2 < v5) : s227 S x1 x2 x3 x3 S := by
  refine ⟨rfl, ?_⟩
  subst e3
  subst e4
  subst e5
  intro h1 h2
  exact .inr ⟨c1, by omega, ⟨c4, c7, c10⟩, fun i i0 i1 => absurd i1 (by omega)⟩
theorem q228_0 (S : fx_S) (x1 x2 x3 x4 : Int) (hS : fx_Sok S) (g1 : -2147483648 ≤ x1 ∧ x1 ≤ 2147483647) (g2 : -2147483648 ≤ x2 ∧ x2 ≤ 2147483647) (g3 : -2147483648 ≤ x3 ∧ x3 ≤ 2147483647) (g4 : -2147483648 ≤ x4 ∧ x4 ≤ 2147483647) (v4 : Int) (e4 : v4 = S.1 67 3) (b4 : -2147483648 ≤ v4 ∧ v4 ≤ 2147483647) (c1 : v4 ≤ x4) : s228 S x1 x2 x3 x4 x3 S := by
  refine ⟨rfl, ?_⟩
  intro hB a1 a2 a3
  exact ⟨a1, a2⟩
