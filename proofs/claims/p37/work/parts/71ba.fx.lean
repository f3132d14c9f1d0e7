/-! FX: what is to be shown of the entries -/
theorem q337_2 (S : fx_S) (x1 x2 : Int) (hS : fx_Sok S) (g1 : -2147483648 ≤ x1 ∧ x1 ≤ 2147483647) (g2 : -2147483648 ≤ x2 ∧ x2 ≤ 2147483647) (v2 : Int) (e2 : v2 = fx_mul 3 x1) (v3 : Int) (e3 : v3 = fx_add 8048 v2) (v4 : Int) (e4 : v4 = fx_mul 3 x2) (v5 : Int) (e5 : v5 = fx_add 8069 v4) (v6 : Int) (e6 : v6 = fx_add v3 1) (c1 : 0 ≤ v6) (c2 : v6 < 8090) (v7 : Int) (e7 : v7 = S.1 67 v6) (b7 : -2147483648 ≤ v7 ∧ v7 ≤ 2147483647) (v8 : Int) (e8 : v8 = fx_add v5 1) (c3 : 0 ≤ v8) (c4 : v8 < 8090) (v9 : Int) (e9 : v9 = S.1 67 v8) (b9 : -2147483648 ≤ v9 ∧ v9 ≤ 2147483647) (c5 : v7 = v9) (v10 : Int) (e10 : v10 = fx_add v3 2) (c6 : 0 ≤ v10) (c7 : v10 < 8090) (v11 : Int) (e11 : v11 = S.1 67 v10) (b11 : -2147483648 ≤ v11 ∧ v11 ≤ 2147483647) (v12 : Int) (e12 : v12 = fx_add v5 2) (c8 : 0 ≤ v12) (c9 : v12 < 8090) (v13 : Int) (e13 : v13 = S.1 67 v12) (b13 : -2147483648 ≤ v13 ∧ v13 ≤ 2147483647) (c10 : v11 ≠ v13) (c11 : 0 ≤ v3) (c12 : v3 < 8090) (v14 : Int) (e14 : v14 = S.1 67 v3) (b14 : -2147483648 ≤ v14 ∧ v14 ≤ 2147483647) (c13 : 0 ≤ v5) (c14 : v5 < 8090) (v15 : Int) (e15 : v15 = S.1 67 v5) (b15 : -2147483648 ≤ v15 ∧ v15 ≤ 2147483647) (v16 : Int) (e16 : v16 = fx_sub v14 v15) (v17 : Int) (S1 : fx_S) (k1 : fx_Sok S1) (b17 : -2147483648 ≤ v17 ∧ v17 ≤ 2147483647) (p1 : s375 S v16 v17 S1) (v18 : Int) (e18 : v18 = fx_sub 4 v17) (v19 : Int) (S2 : fx_S) (k2 : fx_Sok S2) (b19 : -2147483648 ≤ v19 ∧ v19 ≤ 2147483647) (p2 : s188 S1 0 v18 v19 S2) (v20 : Int) (e20 : v20 = fx_add 5 v19) : s337 S x1 x2 v20 S2 := by
  obtain rfl : S = S1 := p1
  obtain ⟨rfl, p2⟩ := p2
  exact rfl
theorem q337_3 (S : fx_S) (x1 x2 : Int) (hS : fx_Sok S) (g1 : -2147483648 ≤ x1 ∧ x1 ≤ 2147483647) (g2 : -2147483648 ≤ x2 ∧ x2 ≤ 2147483647) (v2 : Int) (e2 : v2 = fx_mul 3 x1) (v3 : Int) (e3 : v3 = fx_add 8048 v2) (v4 : Int) (e4 : v4 = fx_mul 3 x2) (v5 : Int) (e5 : v5 = fx_add 8069 v4) (v6 : Int) (e6 : v6 = fx_add v3 1) (c1 : 0 ≤ v6) (c2 : v6 < 8090) (v7 : Int) (e7 : v7 = S.1 67 v6) (b7 : -2147483648 ≤ v7 ∧ v7 ≤ 2147483647) (v8 : Int) (e8 : v8 = fx_add v5 1) (c3 : 0 ≤ v8) (c4 : v8 < 8090) (v9 : Int) (e9 : v9 = S.1 67 v8) (b9 : -2147483648 ≤ v9 ∧ v9 ≤ 2147483647) (c5 : v7 = v9) (v10 : Int) (e10 : v10 = fx_add v3 2) (c6 : 0 ≤ v10) (c7 : v10 < 8090) (v11 : Int) (e11 : v11 = S.1 67 v10) (b11 : -2147483648 ≤ v11 ∧ v11 ≤ 2147483647) (v12 : Int) (e12 : v12 = fx_add v5 2) (c8 : 0 ≤ v12) (c9 : v12 < 8090) (v13 : Int) (e13 : v13 = S.1 67 v12) (b13 : -2147483648 ≤ v13 ∧ v13 ≤ 2147483647) (c10 : v11 = v13) (c11 : 0 ≤ v3) (c12 : v3 < 8090) (v14 : Int) (e14 : v14 = S.1 67 v3) (b14 : -2147483648 ≤ v14 ∧ v14 ≤ 2147483647) (c13 : 0 ≤ v5) (c14 : v5 < 8090) (v15 : Int) (e15 : v15 = S.1 67 v5) (b15 : -2147483648 ≤ v15 ∧ v15 ≤ 2147483647) (v16 : Int) (e16 : v16 = fx_sub v14 v15) (v17 : Int) (S1 : fx_S) (k1 : fx_Sok S1) (b17 : -2147483648 ≤ v17 ∧ v17 ≤ 2147483647) (p1 : s375 S v16 v17 S1) (v18 : Int) (e18 : v18 = fx_sub 4 v17) (v19 : Int) (S2 : fx_S) (k2 : fx_Sok S2) (b19 : -2147483648 ≤ v19 ∧ v19 ≤ 2147483647) (p2 : s188 S1 0 v18 v19 S2) (v20 : Int) (e20 : v20 = fx_add 8 v19) : s337 S x1 x2 v20 S2 := by
  obtain rfl : S = S1 := p1
  obtain ⟨rfl, p2⟩ := p2
  exact rfl
theorem q338_0 (S : fx_S) (x0 x2 : Int) (hS : fx_Sok S) (g0 : 0 ≤ x0 ∧ x0 < S.2.2) (g2 : -2147483648 ≤ x2 ∧ x2 ≤ 2147483647) (c1 : 10 ≤ x2) (S1 : fx_S) (d1 : S1 = (fx_cy S.1 10 0 (x0 + 8) 0 10, S.2)) (S2 : fx_S) (d2 : S2 = (fx_cy S1.1 11 0 (x0 + 9) 0 10, S1.2)) (S3 : fx_S) (d3 : S3 = (fx_cy S2.1 12 0 (x0 + 10) 0 10, S2.2)) : s338 S x0 x2 0 S3 := by
  unfold s338
  intro hx hx2
  have h1 : ∀ p i : Int, ¬ p = (x0 + 8) → S1.1 p i = S.1 p i := fun p i hp => by rw [d1]; exact if_neg (fun z => hp z.1)
  have g1 : ∀ i : Int, 0 ≤ i → i < 10 → S1.1 (x0 + 8) i = S.1 10 i := fun i i0 i1 => by rw [d1]; exact (if_pos ⟨rfl, by omega, by omega⟩).trans (by rw [show (0 : Int) + (i - 0) = i by omega])
  have h2 : ∀ p i : Int, ¬ p = (x0 + 9) → S2.1 p i = S1.1 p i := fun p i hp => by rw [d2]; exact if_neg (fun z => hp z.1)
  have g2 : ∀ i : Int, 0 ≤ i → i < 10 → S2.1 (x0 + 9) i = S1.1 11 i := fun i i0 i1 => by rw [d2]; exact (if_pos ⟨rfl, by omega, by omega⟩).trans (by rw [show (0 : Int) + (i - 0) = i by omega])
  have h3 : ∀ p i : Int, ¬ p = (x0 + 10) → S3.1 p i = S2.1 p i := fun p i hp => by rw [d3]; exact if_neg (fun z => hp z.1)
  have g3 : ∀ i : Int, 0 ≤ i → i < 10 → S3.1 (x0 + 10) i = S2.1 12 i := fun i i0 i1 => by rw [d3]; exact (if_pos ⟨rfl, by omega, by omega⟩).trans (by rw [show (0 : Int) + (i - 0) = i by omega])
  have rr : S3.2 = S.2 := by rw [d3]; show S2.2 = S.2; rw [d2]; show S1.2 = S.2; rw [d1]
  refine ⟨by rw [rr], fun p i => ?_, fun p i hp => (h3 p i (by omega)).trans ((h2 p i (by omega)).trans (h1 p i (by omega))), fun j i j0 j1 i0 i1 => ?_⟩
  · rw [rr, if_neg (by omega)]
  · have hj : j = 9 ∨ j = 10 ∨ j = 11 := by omega
    rcases hj with rfl | rfl | rfl
    · rw [show x0 - 1 + 9 = (x0 + 8) by omega, show (1 : Int) + 9 = 10 by omega]
      exact (((h3 (x0 + 8) i (by omega))).trans ((h2 (x0 + 8) i (by omega)))).trans ((g1 i i0 i1))
    · rw [show x0 - 1 + 10 = (x0 + 9) by omega, show (1 : Int) + 10 = 11 by omega]
      exact (((h3 (x0 + 9) i (by omega))).trans ((g2 i i0 i1))).trans ((h1 11 i (by omega)))
    · rw [show x0 - 1 + 11 = (x0 + 10) by omega, show (1 : Int) + 11 = 12 by omega]
      exact (((g3 i i0 i1)).trans ((h2 12 i (by omega)))).trans ((h1 12 i (by omega)))
theorem q338_1 (S : fx_S) (x0 x2 : Int) (hS : fx_Sok S) (g0 : 0 ≤ x0 ∧ x0 < S.2.2) (g2 : -2147483648 ≤ x2 ∧ x2 ≤ 2147483647) (c1 : x2 < 10) (c2 : 0 ≤ x2) (c3 : x2 < 10) (v2 : Int) (e2 : v2 = S.2.1 9 x2) (c4 : 0 ≤ x2) (c5 : x2 < 10) (S1 : fx_S) (d1 : S1 = (S.1, fx_up S.2.1 (x0 + 7) x2 v2, S.2.2)) (v3 : Int) (e3 : v3 = fx_add x2 1) (z : Int) (Z : fx_S) (kz : fx_Sok Z) (bz : z = 0) (pz : s338 S1 x0 v3 z Z) : s338 S x0 x2 z Z := by
  unfold s338 at pz
  unfold s338
  intro hx hx2
  rw [fx_add_eq (by omega) (by omega)] at e3
  obtain ⟨a1, a2, a3, a4⟩ := pz hx (by omega)
  have q1 : ∀ p i, S1.1 p i = S.1 p i := fun p i => by rw [d1]
  have q2 : ∀ p i, ¬ (p = x0 + 7 ∧ i = x2) → S1.2.1 p i = S.2.1 p i := fun p i hp => by rw [d1]; exact if_neg hp
  have q3 : S1.2.1 (x0 + 7) x2 = v2 := by rw [d1]; exact if_pos ⟨rfl, rfl⟩
  refine ⟨a1.trans (by rw [d1]), fun p i => ?_, fun p i hp => (a3 p i hp).trans (q1 p i), fun j i j0 j1 i0 i1 => (a4 j i j0 j1 i0 i1).trans (q1 _ _)⟩
  rw [a2]
  by_cases hp : p = x0 + 7 ∧ x2 ≤ i ∧ i < 10
  · rw [if_pos hp]
    by_cases hi : i = x2
    · rw [if_neg (by omega), hp.1, hi, q3]
      exact e2
    · rw [if_pos (by omega), q2 _ _ (by omega)]
  · rw [if_neg hp, if_neg (by omega), q2 _ _ (by omega)]
theorem q339_0 (S : fx_S) (x1 x2 : Int) (hS : fx_Sok S) (g1 : 0 ≤ x1 ∧ x1 < S.2.2) (g2 : -2147483648 ≤ x2 ∧ x2 ≤ 2147483647) (c1 : 10 ≤ x2) (S1 : fx_S) (d1 : S1 = (fx_cy S.1 (x1 + 8) 0 10 0 10, S.2)) (S2 : fx_S) (d2 : S2 = (fx_cy S1.1 (x1 + 9) 0 11 0 10, S1.2)) (S3 : fx_S) (d3 : S3 = (fx_cy S2.1 (x1 + 10) 0 12 0 10, S2.2)) : s339 S x1 x2 0 S3 := by
  unfold s339
  intro hx hx2
  have h1 : ∀ p i : Int, ¬ p = 10 → S1.1 p i = S.1 p i := fun p i hp => by rw [d1]; exact if_neg (fun z => hp z.1)
  have g1 : ∀ i : Int, 0 ≤ i → i < 10 → S1.1 10 i = S.1 (x1 + 8) i := fun i i0 i1 => by rw [d1]; exact (if_pos ⟨rfl, by omega, by omega⟩).trans (by rw [show (0 : Int) + (i - 0) = i by omega])
  have h2 : ∀ p i : Int, ¬ p = 11 → S2.1 p i = S1.1 p i := fun p i hp => by rw [d2]; exact if_neg (fun z => hp z.1)
  have g2 : ∀ i : Int, 0 ≤ i → i < 10 → S2.1 11 i = S1.1 (x1 + 9) i := fun i i0 i1 => by rw [d2]; exact (if_pos ⟨rfl, by omega, by omega⟩).trans (by rw [show (0 : Int) + (i - 0) = i by omega])
  have h3 : ∀ p i : Int, ¬ p = 12 → S3.1 p i = S2.1 p i := fun p i hp => by rw [d3]; exact if_neg (fun z => hp z.1)
  have g3 : ∀ i : Int, 0 ≤ i → i < 10 → S3.1 12 i = S2.1 (x1 + 10) i := fun i i0 i1 => by rw [d3]; exact (if_pos ⟨rfl, by omega, by omega⟩).trans (by rw [show (0 : Int) + (i - 0) = i by omega])
  have rr : S3.2 = S.2 := by rw [d3]; show S2.2 = S.2; rw [d2]; show S1.2 = S.2; rw [d1]
  refine ⟨by rw [rr], fun p i => ?_, fun p i hp => (h3 p i (by omega)).trans ((h2 p i (by omega)).trans (h1 p i (by omega))), fun j i j0 j1 i0 i1 => ?_⟩
  · rw [rr, if_neg (by omega)]
  · have hj : j = 9 ∨ j = 10 ∨ j = 11 := by omega
    rcases hj with rfl | rfl | rfl
    · rw [show x1 - 1 + 9 = (x1 + 8) by omega, show (1 : Int) + 9 = 10 by omega]
      exact (((h3 10 i (by omega))).trans ((h2 10 i (by omega)))).trans ((g1 i i0 i1))
    · rw [show x1 - 1 + 10 = (x1 + 9) by omega, show (1 : Int) + 10 = 11 by omega]
      exact (((h3 11 i (by omega))).trans ((g2 i i0 i1))).trans ((h1 (x1 + 9) i (by omega)))
    · rw [show x1 - 1 + 11 = (x1 + 10) by omega, show (1 : Int) + 11 = 12 by omega]
      exact (((g3 i i0 i1)).trans ((h2 (x1 + 10) i (by omega)))).trans ((h1 (x1 + 10) i (by omega)))
theorem q339_1 (S : fx_S) (x1 x2 : Int) (hS : fx_Sok S) (g1 : 0 ≤ x1 ∧ x1 < S.2.2) (g2 : -2147483648 ≤ x2 ∧ x2 ≤ 2147483647) (c1 : x2 < 10) (c2 : 0 ≤ x2) (c3 : x2 < 10) (v2 : Int) (e2 : v2 = S.2.1 (x1 + 7) x2) (c4 : 0 ≤ x2) (c5 : x2 < 10) (S1 : fx_S) (d1 : S1 = (S.1, fx_up S.2.1 9 x2 v2, S.2.2)) (v3 : Int) (e3 : v3 = fx_add x2 1) (z : Int) (Z : fx_S) (kz : fx_Sok Z) (bz : z = 0) (pz : s339 S1 x1 v3 z Z) : s339 S x1 x2 z Z := by
  unfold s339 at pz
  unfold s339
  intro hx hx2
  rw [fx_add_eq (by omega) (by omega)] at e3
  obtain ⟨a1, a2, a3, a4⟩ := pz hx (by omega)
  have q1 : ∀ p i, S1.1 p i = S.1 p i := fun p i => by rw [d1]
  have q2 : ∀ p i, ¬ (p = 9 ∧ i = x2) → S1.2.1 p i = S.2.1 p i := fun p i hp => by rw [d1]; exact if_neg hp
  have q3 : S1.2.1 (9) x2 = v2 := by rw [d1]; exact if_pos ⟨rfl, rfl⟩
  refine ⟨a1.trans (by rw [d1]), fun p i => ?_, fun p i hp => (a3 p i hp).trans (q1 p i), fun j i j0 j1 i0 i1 => (a4 j i j0 j1 i0 i1).trans (q1 _ _)⟩
  rw [a2]
  by_cases hp : p = 9 ∧ x2 ≤ i ∧ i < 10
  · rw [if_pos hp]
    by_cases hi : i = x2
    · rw [if_neg (by omega), hp.1, hi, q3]
      exact e2
    · rw [if_pos (by omega), q2 _ _ (by omega)]
  · rw [if_neg hp, if_neg (by omega), q2 _ _ (by omega)]
theorem q340_0 (S : fx_S) (x0 : Int) (hS : fx_Sok S) (g0 : -2147483648 ≤ x0 ∧ x0 ≤ 2147483647) (c1 : x0 < 97) (c2 : x0 < 48) (c3 : x0 = 60) : s340 S x0 3 S := by
  exact rfl
theorem q340_1 (S : fx_S) (x0 : Int) (hS : fx_Sok S) (g0 : -2147483648 ≤ x0 ∧ x0 ≤ 2147483647) (c1 : x0 < 97) (c2 : x0 < 48) (c3 : x0 ≠ 60) (c4 : x0 = 62) : s340 S x0 3 S := by
  exact rfl
theorem q340_2 (S : fx_S) (x0 : Int) (hS : fx_Sok S) (g0 : -2147483648 ≤ x0 ∧ x0 ≤ 2147483647) (c1 : x0 < 97) (c2 : x0 < 48) (c3 : x0 ≠ 60) (c4 : x0 ≠ 62) (c5 : x0 = 61) : s340 S x0 3 S := by
  exact rfl
theorem q340_3 (S : fx_S) (x0 : Int) (hS : fx_Sok S) (g0 : -2147483648 ≤ x0 ∧ x0 ≤ 2147483647) (c1 : x0 < 97) (c2 : x0 < 48) (c3 : x0 ≠ 60) (c4 : x0 ≠ 62) (c5 : x0 ≠ 61) (c6 : x0 ≠ 59) (c7 : x0 = 32) : s340 S x0 4 S := by
  exact rfl
theorem q340_4 (S : fx_S) (x0 : Int) (hS : fx_Sok S) (g0 : -2147483648 ≤ x0 ∧ x0 ≤ 2147483647) (c1 : x0 < 97) (c2 : x0 < 48) (c3 : x0 ≠ 60) (c4 : x0 ≠ 62) (c5 : x0 ≠ 61) (c6 : x0 ≠ 59) (c7 : x0 ≠ 32) (c8 : x0 ≠ 10) : s340 S x0 0 S := by
  exact rfl
theorem q340_5 (S : fx_S) (x0 : Int) (hS : fx_Sok S) (g0 : -2147483648 ≤ x0 ∧ x0 ≤ 2147483647) (c1 : x0 < 97) (c2 : x0 < 48) (c3 : x0 ≠ 60) (c4 : x0 ≠ 62) (c5 : x0 ≠ 61) (c6 : x0 ≠ 59) (c7 : x0 ≠ 32) (c8 : x0 = 10) : s340 S x0 4 S := by
  exact rfl
theorem q340_6 (S : fx_S) (x0 : Int) (hS : fx_Sok S) (g0 : -2147483648 ≤ x0 ∧ x0 ≤ 2147483647) (c1 : x0 < 97) (c2 : x0 < 48) (c3 : x0 ≠ 60) (c4 : x0 ≠ 62) (c5 : x0 ≠ 61) (c6 : x0 = 59) : s340 S x0 3 S := by
  exact rfl
theorem q340_7 (S : fx_S) (x0 : Int) (hS : fx_Sok S) (g0 : -2147483648 ≤ x0 ∧ x0 ≤ 2147483647) (c1 : x0 < 97) (c2 : 48 ≤ x0) (c3 : 57 < x0) (c4 : x0 = 60) : s340 S x0 3 S := by
  exact rfl
theorem q340_8 (S : fx_S) (x0 : Int) (hS : fx_Sok S) (g0 : -2147483648 ≤ x0 ∧ x0 ≤ 2147483647) (c1 : x0 < 97) (c2 : 48 ≤ x0) (c3 : 57 < x0) (c4 : x0 ≠ 60) (c5 : x0 = 62) : s340 S x0 3 S := by
  exact rfl
theorem q340_9 (S : fx_S) (x0 : Int) (hS : fx_Sok S) (g0 : -2147483648 ≤ x0 ∧ x0 ≤ 2147483647) (c1 : x0 < 97) (c2 : 48 ≤ x0) (c3 : 57 < x0) (c4 : x0 ≠ 60) (c5 : x0 ≠ 62) (c6 : x0 = 61) : s340 S x0 3 S := by
  exact rfl
theorem q340_10 (S : fx_S) (x0 : Int) (hS : fx_Sok S) (g0 : -2147483648 ≤ x0 ∧ x0 ≤ 2147483647) (c1 : x0 < 97) (c2 : 48 ≤ x0) (c3 : 57 < x0) (c4 : x0 ≠ 60) (c5 : x0 ≠ 62) (c6 : x0 ≠ 61) (c7 : x0 ≠ 59) (c8 : x0 = 32) : s340 S x0 4 S := by
  exact rfl
theorem q340_11 (S : fx_S) (x0 : Int) (hS : fx_Sok S) (g0 : -2147483648 ≤ x0 ∧ x0 ≤ 2147483647) (c1 : x0 < 97) (c2 : 48 ≤ x0) (c3 : 57 < x0) (c4 : x0 ≠ 60) (c5 : x0 ≠ 62) (c6 : x0 ≠ 61) (c7 : x0 ≠ 59) (c8 : x0 ≠ 32) (c9 : x0 ≠ 10) : s340 S x0 0 S := by
  exact rfl
theorem q340_12 (S : fx_S) (x0 : Int) (hS : fx_Sok S) (g0 : -2147483648 ≤ x0 ∧ x0 ≤ 2147483647) (c1 : x0 < 97) (c2 : 48 ≤ x0) (c3 : 57 < x0) (c4 : x0 ≠ 60) (c5 : x0 ≠ 62) (c6 : x0 ≠ 61) (c7 : x0 ≠ 59) (c8 : x0 ≠ 32) (c9 : x0 = 10) : s340 S x0 4 S := by
  exact rfl
theorem q340_13 (S : fx_S) (x0 : Int) (hS : fx_Sok S) (g0 : -2147483648 ≤ x0 ∧ x0 ≤ 2147483647) (c1 : x0 < 97) (c2 : 48 ≤ x0) (c3 : 57 < x0) (c4 : x0 ≠ 60) (c5 : x0 ≠ 62) (c6 : x0 ≠ 61) (c7 : x0 = 59) : s340 S x0 3 S := by
  exact rfl
theorem q340_14 (S : fx_S) (x0 : Int) (hS : fx_Sok S) (g0 : -2147483648 ≤ x0 ∧ x0 ≤ 2147483647) (c1 : x0 < 97) (c2 : 48 ≤ x0) (c3 : x0 ≤ 57) : s340 S x0 2 S := by
  exact rfl
theorem q340_15 (S : fx_S) (x0 : Int) (hS : fx_Sok S) (g0 : -2147483648 ≤ x0 ∧ x0 ≤ 2147483647) (c1 : 97 ≤ x0) (c2 : 122 < x0) (c3 : x0 < 48) (c4 : x0 = 60) : s340 S x0 3 S := by
  exact rfl
theorem q340_16 (S : fx_S) (x0 : Int) (hS : fx_Sok S) (g0 : -2147483648 ≤ x0 ∧ x0 ≤ 2147483647) (c1 : 97 ≤ x0) (c2 : 122 < x0) (c3 : x0 < 48) (c4 : x0 ≠ 60) (c5 : x0 = 62) : s340 S x0 3 S := by
  exact rfl
theorem q340_17 (S : fx_S) (x0 : Int) (hS : fx_Sok S) (g0 : -2147483648 ≤ x0 ∧ x0 ≤ 2147483647) (c1 : 97 ≤ x0) (c2 : 122 < x0) (c3 : x0 < 48) (c4 : x0 ≠ 60) (c5 : x0 ≠ 62) (c6 : x0 = 61) : s340 S x0 3 S := by
  exact rfl
theorem q340_18 (S : fx_S) (x0 : Int) (hS : fx_Sok S) (g0 : -2147483648 ≤ x0 ∧ x0 ≤ 2147483647) (c1 : 97 ≤ x0) (c2 : 122 < x0) (c3 : x0 < 48) (c4 : x0 ≠ 60) (c5 : x0 ≠ 62) (c6 : x0 ≠ 61) (c7 : x0 ≠ 59) (c8 : x0 = 32) : s340 S x0 4 S := by
  exact rfl
theorem q340_19 (S : fx_S) (x0 : Int) (hS : fx_Sok S) (g0 : -2147483648 ≤ x0 ∧ x0 ≤ 2147483647) (c1 : 97 ≤ x0) (c2 : 122 < x0) (c3 : x0 < 48) (c4 : x0 ≠ 60) (c5 : x0 ≠ 62) (c6 : x0 ≠ 61) (c7 : x0 ≠ 59) (c8 : x0 ≠ 32) (c9 : x0 ≠ 10) : s340 S x0 0 S := by
  exact rfl
theorem q340_20 (S : fx_S) (x0 : Int) (hS : fx_Sok S) (g0 : -2147483648 ≤ x0 ∧ x0 ≤ 2147483647) (c1 : 97 ≤ x0) (c2 : 122 < x0) (c3 : x0 < 48) (c4 : x0 ≠ 60) (c5 : x0 ≠ 62) (c6 : x0 ≠ 61) (c7 : x0 ≠ 59) (c8 : x0 ≠ 32) (c9 : x0 = 10) : s340 S x0 4 S := by
  exact rfl
theorem q340_21 (S : fx_S) (x0 : Int) (hS : fx_Sok S) (g0 : -2147483648 ≤ x0 ∧ x0 ≤ 2147483647) (c1 : 97 ≤ x0) (c2 : 122 < x0) (c3 : x0 < 48) (c4 : x0 ≠ 60) (c5 : x0 ≠ 62) (c6 : x0 ≠ 61) (c7 : x0 = 59) : s340 S x0 3 S := by
  exact rfl
theorem q340_22 (S : fx_S) (x0 : Int) (hS : fx_Sok S) (g0 : -2147483648 ≤ x0 ∧ x0 ≤ 2147483647) (c1 : 97 ≤ x0) (c2 : 122 < x0) (c3 : 48 ≤ x0) (c4 : 57 < x0) (c5 : x0 = 60) : s340 S x0 3 S := by
  exact rfl
theorem q340_23 (S : fx_S) (x0 : Int) (hS : fx_Sok S) (g0 : -2147483648 ≤ x0 ∧ x0 ≤ 2147483647) (c1 : 97 ≤ x0) (c2 : 122 < x0) (c3 : 48 ≤ x0) (c4 : 57 < x0) (c5 : x0 ≠ 60) (c6 : x0 = 62) : s340 S x0 3 S := by
  exact rfl
theorem q340_24 (S : fx_S) (x0 : Int) (hS : fx_Sok S) (g0 : -2147483648 ≤ x0 ∧ x0 ≤ 2147483647) (c1 : 97 ≤ x0) (c2 : 122 < x0) (c3 : 48 ≤ x0) (c4 : 57 < x0) (c5 : x0 ≠ 60) (c6 : x0 ≠ 62) (c7 : x0 = 61) : s340 S x0 3 S := by
  exact rfl
theorem q340_25 (S : fx_S) (x0 : Int) (hS : fx_Sok S) (g0 : -2147483648 ≤ x0 ∧ x0 ≤ 2147483647) (c1 : 97 ≤ x0) (c2 : 122 < x0) (c3 : 48 ≤ x0) (c4 : 57 < x0) (c5 : x0 ≠ 60) (c6 : x0 ≠ 62) (c7 : x0 ≠ 61) (c8 : x0 ≠ 59) (c9 : x0 = 32) : s340 S x0 4 S := by
  exact rfl
theorem q340_26 (S : fx_S) (x0 : Int) (hS : fx_Sok S) (g0 : -2147483648 ≤ x0 ∧ x0 ≤ 2147483647) (c1 : 97 ≤ x0) (c2 : 122 < x0) (c3 : 48 ≤ x0) (c4 : 57 < x0) (c5 : x0 ≠ 60) (c6 : x0 ≠ 62) (c7 : x0 ≠ 61) (c8 : x0 ≠ 59) (c9 : x0 ≠ 32) (c10 : x0 ≠ 10) : s340 S x0 0 S := by
  exact rfl
theorem q340_27 (S : fx_S) (x0 : Int) (hS : fx_Sok S) (g0 : -2147483648 ≤ x0 ∧ x0 ≤ 2147483647) (c1 : 97 ≤ x0) (c2 : 122 < x0) (c3 : 48 ≤ x0) (c4 : 57 < x0) (c5 : x0 ≠ 60) (c6 : x0 ≠ 62) (c7 : x0 ≠ 61) (c8 : x0 ≠ 59) (c9 : x0 ≠ 32) (c10 : x0 = 10) : s340 S x0 4 S := by
  exact rfl
theorem q340_28 (S : fx_S) (x0 : Int) (hS : fx_Sok S) (g0 : -2147483648 ≤ x0 ∧ x0 ≤ 2147483647) (c1 : 97 ≤ x0) (c2 : 122 < x0) (c3 : 48 ≤ x0) (c4 : 57 < x0) (c5 : x0 ≠ 60) (c6 : x0 ≠ 62) (c7 : x0 ≠ 61) (c8 : x0 = 59) : s340 S x0 3 S := by
  exact rfl
theorem q340_29 (S : fx_S) (x0 : Int) (hS : fx_Sok S) (g0 : -2147483648 ≤ x0 ∧ x0 ≤ 2147483647) (c1 : 97 ≤ x0) (c2 : 122 < x0) (c3 : 48 ≤ x0) (c4 : x0 ≤ 57) : s340 S x0 2 S := by
  exact rfl
theorem q340_30 (S : fx_S) (x0 : Int) (hS : fx_Sok S) (g0 : -2147483648 ≤ x0 ∧ x0 ≤ 2147483647) (c1 : 97 ≤ x0) (c2 : x0 ≤ 122) : s340 S x0 1 S := by
  exact rfl
theorem q341_0 (S : fx_S) (x1 : Int) (hS : fx_Sok S) (g1 : -2147483648 ≤ x1 ∧ x1 ≤ 2147483647) (c1 : x1 = 0) : s341 S x1 0 S := by
  refine ⟨rfl, ?_⟩
  · intro p i hW
    clear c1
    exact rfl
theorem q341_1 (S : fx_S) (x1 : Int) (hS : fx_Sok S) (g1 : -2147483648 ≤ x1 ∧ x1 ≤ 2147483647) (c1 : x1 ≠ 0) (v1 : Int) (e1 : v1 = S.1 50 4) (b1 : -2147483648 ≤ v1 ∧ v1 ≤ 2147483647) (v2 : Int) (e2 : v2 = S.1 50 1) (b2 : -2147483648 ≤ v2 ∧ v2 ≤ 2147483647) (c2 : v2 ≤ v1) : s341 S x1 0 S := by
  refine ⟨rfl, ?_⟩
  · intro p i hW
    clear c2 b2 e2 b1 e1 c1
    exact rfl
theorem q341_2 (S : fx_S) (x1 : Int) (hS : fx_Sok S) (g1 : -2147483648 ≤ x1 ∧ x1 ≤ 2147483647) (c1 : x1 ≠ 0) (v1 : Int) (e1 : v1 = S.1 50 4) (b1 : -2147483648 ≤ v1 ∧ v1 ≤ 2147483647) (v2 : Int) (e2 : v2 = S.1 50 1) (b2 : -2147483648 ≤ v2 ∧ v2 ≤ 2147483647) (c2 : v1 < v2) (v3 : Int) (e3 : v3 = S.1 50 4) (b3 : -2147483648 ≤ v3 ∧ v3 ≤ 2147483647) (c3 : 0 ≤ v3) (c4 : v3 < 600) (v4 : Int) (e4 : v4 = S.1 51 v3) (b4 : -128 ≤ v4 ∧ v4 ≤ 127) (v5 : Int) (S1 : fx_S) (k1 : fx_Sok S1) (b5 : -2147483648 ≤ v5 ∧ v5 ≤ 2147483647) (p1 : s340 S v4 v5 S1) (v6 : Int) (e6 : v6 = S1.1 50 6) (b6 : -2147483648 ≤ v6 ∧ v6 ≤ 2147483647) (c5 : v5 ≠ v6) : s341 S x1 0 S1 := by
  obtain rfl : S = S1 := p1
  refine ⟨rfl, ?_⟩
  · intro p i hW
    clear c5 b6 e6 b5 b4 e4 c4 c3 b3 e3 c2 b2 e2 b1 e1 c1
    exact rfl
theorem q341_3 (S : fx_S) (x1 : Int) (hS : fx_Sok S) (g1 : -2147483648 ≤ x1 ∧ x1 ≤ 2147483647) (c1 : x1 ≠ 0) (v1 : Int) (e1 : v1 = S.1 50 4) (b1 : -2147483648 ≤ v1 ∧ v1 ≤ 2147483647) (v2 : Int) (e2 : v2 = S.1 50 1) (b2 : -2147483648 ≤ v2 ∧ v2 ≤ 2147483647) (c2 : v1 < v2) (v3 : Int) (e3 : v3 = S.1 50 4) (b3 : -2147483648 ≤ v3 ∧ v3 ≤ 2147483647) (c3 : 0 ≤ v3) (c4 : v3 < 600) (v4 : Int) (e4 : v4 = S.1 51 v3) (b4 : -128 ≤ v4 ∧ v4 ≤ 127) (v5 : Int) (S1 : fx_S) (k1 : fx_Sok S1) (b5 : -2147483648 ≤ v5 ∧ v5 ≤ 2147483647) (p1 : s340 S v4 v5 S1) (v6 : Int) (e6 : v6 = S1.1 50 6) (b6 : -2147483648 ≤ v6 ∧ v6 ≤ 2147483647) (c5 : v5 = v6) (v7 : Int) (e7 : v7 = S1.1 50 4) (b7 : -2147483648 ≤ v7 ∧ v7 ≤ 2147483647) (v8 : Int) (e8 : v8 = fx_add v7 1) (S2 : fx_S) (d2 : S2 = (fx_up S1.1 50 4 v8, S1.2)) (z : Int) (Z : fx_S) (kz : fx_Sok Z) (bz : z = 0) (pz : s341 S2 x1 z Z) : s341 S x1 z Z := by
  obtain rfl : S = S1 := p1
  obtain ⟨rZ, fZ⟩ := pz
  refine ⟨(rZ).trans ((show S2.2 = S.2 by rw [d2])), ?_⟩
  · intro p i hW
    clear e8 b7 e7 c5 b6 e6 b5 b4 e4 c4 c3 b3 e3 c2 b2 e2 b1 e1 c1
    exact ((fZ p i (by omega))).trans ((show S2.1 p i = S.1 p i by rw [d2]; exact if_neg (by omega)))
theorem q342_0 (S : fx_S) (hS : fx_Sok S) (v0 : Int) (S1 : fx_S) (k1 : fx_Sok S1) (b0 : -2147483648 ≤ v0 ∧ v0 ≤ 2147483647) (p1 : s376 S 0 v0 S1) (c1 : v0 ≠ 0) : s342 S  1 S1 := by
  obtain rfl : S = S1 := p1
  exact rfl
theorem q342_1 (S : fx_S) (hS : fx_Sok S) (v0 : Int) (S1 : fx_S) (k1 : fx_Sok S1) (b0 : -2147483648 ≤ v0 ∧ v0 ≤ 2147483647) (p1 : s376 S 0 v0 S1) (c1 : v0 = 0) (v1 : Int) (S2 : fx_S) (k2 : fx_Sok S2) (b1 : -2147483648 ≤ v1 ∧ v1 ≤ 2147483647) (p2 : s376 S1 1 v1 S2) (c2 : v1 ≠ 0) : s342 S  1 S2 := by
  obtain rfl : S = S1 := p1
  obtain rfl : S = S2 := p2
  exact rfl
theorem q342_2 (S : fx_S) (hS : fx_Sok S) (v0 : Int) (S1 : fx_S) (k1 : fx_Sok S1) (b0 : -2147483648 ≤ v0 ∧ v0 ≤ 2147483647) (p1 : s376 S 0 v0 S1) (c1 : v0 = 0) (v1 : Int) (S2 : fx_S) (k2 : fx_Sok S2) (b1 : -2147483648 ≤ v1 ∧ v1 ≤ 2147483647) (p2 : s376 S1 1 v1 S2) (c2 : v1 = 0) (v2 : Int) (S3 : fx_S) (k3 : fx_Sok S3) (b2 : -2147483648 ≤ v2 ∧ v2 ≤ 2147483647) (p3 : s376 S2 2 v2 S3) (c3 : v2 ≠ 0) : s342 S  1 S3 := by
  obtain rfl : S = S1 := p1
  obtain rfl : S = S2 := p2
  obtain rfl : S = S3 := p3
  exact rfl
theorem q342_3 (S : fx_S) (hS : fx_Sok S) (v0 : Int) (S1 : fx_S) (k1 : fx_Sok S1) (b0 : -2147483648 ≤ v0 ∧ v0 ≤ 2147483647) (p1 : s376 S 0 v0 S1) (c1 : v0 = 0) (v1 : Int) (S2 : fx_S) (k2 : fx_Sok S2) (b1 : -2147483648 ≤ v1 ∧ v1 ≤ 2147483647) (p2 : s376 S1 1 v1 S2) (c2 : v1 = 0) (v2 : Int) (S3 : fx_S) (k3 : fx_Sok S3) (b2 : -2147483648 ≤ v2 ∧ v2 ≤ 2147483647) (p3 : s376 S2 2 v2 S3) (c3 : v2 = 0) (v3 : Int) (S4 : fx_S) (k4 : fx_Sok S4) (b3 : -2147483648 ≤ v3 ∧ v3 ≤ 2147483647) (p4 : s376 S3 3 v3 S4) (c4 : v3 ≠ 0) : s342 S  1 S4 := by
  obtain rfl : S = S1 := p1
  obtain rfl : S = S2 := p2
  obtain rfl : S = S3 := p3
  obtain rfl : S = S4 := p4
  exact rfl
theorem q342_4 (S : fx_S) (hS : fx_Sok S) (v0 : Int) (S1 : fx_S) (k1 : fx_Sok S1) (b0 : -2147483648 ≤ v0 ∧ v0 ≤ 2147483647) (p1 : s376 S 0 v0 S1) (c1 : v0 = 0) (v1 : Int) (S2 : fx_S) (k2 : fx_Sok S2) (b1 : -2147483648 ≤ v1 ∧ v1 ≤ 2147483647) (p2 : s376 S1 1 v1 S2) (c2 : v1 = 0) (v2 : Int) (S3 : fx_S) (k3 : fx_Sok S3) (b2 : -2147483648 ≤ v2 ∧ v2 ≤ 2147483647) (p3 : s376 S2 2 v2 S3) (c3 : v2 = 0) (v3 : Int) (S4 : fx_S) (k4 : fx_Sok S4) (b3 : -2147483648 ≤ v3 ∧ v3 ≤ 2147483647) (p4 : s376 S3 3 v3 S4) (c4 : v3 = 0) (v4 : Int) (S5 : fx_S) (k5 : fx_Sok S5) (b4 : -2147483648 ≤ v4 ∧ v4 ≤ 2147483647) (p5 : s376 S4 4 v4 S5) (c5 : v4 = 0) : s342 S  0 S5 := by
  obtain rfl : S = S1 := p1
  obtain rfl : S = S2 := p2
  obtain rfl : S = S3 := p3
  obtain rfl : S = S4 := p4
  obtain rfl : S = S5 := p5
  exact rfl
theorem q342_5 (S : fx_S) (hS : fx_Sok S) (v0 : Int) (S1 : fx_S) (k1 : fx_Sok S1) (b0 : -2147483648 ≤ v0 ∧ v0 ≤ 2147483647) (p1 : s376 S 0 v0 S1) (c1 : v0 = 0) (v1 : Int) (S2 : fx_S) (k2 : fx_Sok S2) (b1 : -2147483648 ≤ v1 ∧ v1 ≤ 2147483647) (p2 : s376 S1 1 v1 S2) (c2 : v1 = 0) (v2 : Int) (S3 : fx_S) (k3 : fx_Sok S3) (b2 : -2147483648 ≤ v2 ∧ v2 ≤ 2147483647) (p3 : s376 S2 2 v2 S3) (c3 : v2 = 0) (v3 : Int) (S4 : fx_S) (k4 : fx_Sok S4) (b3 : -2147483648 ≤ v3 ∧ v3 ≤ 2147483647) (p4 : s376 S3 3 v3 S4) (c4 : v3 = 0) (v4 : Int) (S5 : fx_S) (k5 : fx_Sok S5) (b4 : -2147483648 ≤ v4 ∧ v4 ≤ 2147483647) (p5 : s376 S4 4 v4 S5) (c5 : v4 ≠ 0) : s342 S  1 S5 := by
  obtain rfl : S = S1 := p1
  obtain rfl : S = S2 := p2
  obtain rfl : S = S3 := p3
  obtain rfl : S = S4 := p4
  obtain rfl : S = S5 := p5
  exact rfl
theorem q343_0 (S : fx_S) (x1 : Int) (hS : fx_Sok S) (v1 : Int) (S1 : fx_S) (k1 : fx_Sok S1) (b1 : -2147483648 ≤ v1 ∧ v1 ≤ 2147483647) (p1 : s376 S x1 v1 S1) (c1 : v1 = 0) : s343 S x1 v1 S1 := by
  obtain rfl : S = S1 := p1
  refine ⟨rfl, ?_⟩
  · intro p i hW
    clear c1 b1
    exact rfl
theorem q343_1 (S : fx_S) (x1 : Int) (hS : fx_Sok S) (v1 : Int) (S1 : fx_S) (k1 : fx_Sok S1) (b1 : -2147483648 ≤ v1 ∧ v1 ≤ 2147483647) (p1 : s376 S x1 v1 S1) (c1 : v1 ≠ 0) (v2 : Int) (S2 : fx_S) (k2 : fx_Sok S2) (b2 : v2 = 0) (p2 : s218 S1  v2 S2) : s343 S x1 v1 S2 := by
  obtain rfl : S = S1 := p1
  obtain ⟨r2, f2⟩ := p2
  refine ⟨r2, ?_⟩
  · intro p i hW
    clear b2 c1 b1
    exact (f2 p i (by omega))
theorem q344_0 (S : fx_S) (x1 : Int) (hS : fx_Sok S) (g1 : 0 ≤ x1 ∧ x1 < S.2.2) (v1 : Int) (S1 : fx_S) (k1 : fx_Sok S1) (b1 : -2147483648 ≤ v1 ∧ v1 ≤ 2147483647) (p1 : s343 S 12 v1 S1) (c1 : v1 = 0) (v2 : Int) (S2 : fx_S) (k2 : fx_Sok S2) (b2 : -2147483648 ≤ v2 ∧ v2 ≤ 2147483647) (p2 : s343 S1 13 v2 S2) (c2 : v2 = 0) (v3 : Int) (S3 : fx_S) (k3 : fx_Sok S3) (b3 : v3 = 0) (p3 : s349 S2 1 v3 S3) : s344 S x1 0 S3 := by
  obtain ⟨r1, f1⟩ := p1
  obtain ⟨r2, f2⟩ := p2
  obtain ⟨r3, f3⟩ := p3
  refine ⟨(r3).trans ((r2).trans (r1)), ?_⟩
  · intro p i hW
    exact ((f3 p i (by omega))).trans (((f2 p i (by omega))).trans ((f1 p i (by omega))))
theorem q344_1 (S : fx_S) (x1 : Int) (hS : fx_Sok S) (g1 : 0 ≤ x1 ∧ x1 < S.2.2) (v1 : Int) (S1 : fx_S) (k1 : fx_Sok S1) (b1 : -2147483648 ≤ v1 ∧ v1 ≤ 2147483647) (p1 : s343 S 12 v1 S1) (c1 : v1 = 0) (v2 : Int) (S2 : fx_S) (k2 : fx_Sok S2) (b2 : -2147483648 ≤ v2 ∧ v2 ≤ 2147483647) (p2 : s343 S1 13 v2 S2) (c2 : v2 ≠ 0) (S3 : fx_S) (d3 : S3 = (fx_up S2.1 x1 1 1, S2.2)) : s344 S x1 0 S3 := by
  obtain ⟨r1, f1⟩ := p1
  obtain ⟨r2, f2⟩ := p2
  refine ⟨((show S3.2 = S2.2 by rw [d3])).trans ((r2).trans (r1)), ?_⟩
  · intro p i hW
    exact ((show S3.1 p i = S2.1 p i by rw [d3]; exact if_neg (by omega))).trans (((f2 p i (by omega))).trans ((f1 p i (by omega))))
theorem q344_2 (S : fx_S) (x1 : Int) (hS : fx_Sok S) (g1 : 0 ≤ x1 ∧ x1 < S.2.2) (v1 : Int) (S1 : fx_S) (k1 : fx_Sok S1) (b1 : -2147483648 ≤ v1 ∧ v1 ≤ 2147483647) (p1 : s343 S 12 v1 S1) (c1 : v1 ≠ 0) (S2 : fx_S) (d2 : S2 = (fx_up S1.1 x1 1 0, S1.2)) : s344 S x1 0 S2 := by
  obtain ⟨r1, f1⟩ := p1
  refine ⟨((show S2.2 = S1.2 by rw [d2])).trans (r1), ?_⟩
  · intro p i hW
    exact ((show S2.1 p i = S1.1 p i by rw [d2]; exact if_neg (by omega))).trans ((f1 p i (by omega)))
theorem q345_0 (S : fx_S) (x1 : Int) (hS : fx_Sok S) (g1 : -2147483648 ≤ x1 ∧ x1 ≤ 2147483647) (v1 : Int) (e1 : v1 = S.1 50 6) (b1 : -2147483648 ≤ v1 ∧ v1 ≤ 2147483647) (c1 : v1 ≠ 3) (v2 : Int) (S1 : fx_S) (k1 : fx_Sok S1) (b2 : v2 = 0) (p1 : s349 S 1 v2 S1) : s345 S x1 0 S1 := by
  obtain ⟨r1, f1⟩ := p1
  refine ⟨r1, ?_⟩
  · intro p i hW
    clear b2 c1 b1 e1
    exact (f1 p i (by omega))
theorem q345_1 (S : fx_S) (x1 : Int) (hS : fx_Sok S) (g1 : -2147483648 ≤ x1 ∧ x1 ≤ 2147483647) (v1 : Int) (e1 : v1 = S.1 50 6) (b1 : -2147483648 ≤ v1 ∧ v1 ≤ 2147483647) (c1 : v1 = 3) (v2 : Int) (e2 : v2 = S.1 50 5) (b2 : -2147483648 ≤ v2 ∧ v2 ≤ 2147483647) (c2 : 0 ≤ v2) (c3 : v2 < 600) (v3 : Int) (e3 : v3 = S.1 51 v2) (b3 : -128 ≤ v3 ∧ v3 ≤ 127) (c4 : v3 ≠ x1) (v4 : Int) (S1 : fx_S) (k1 : fx_Sok S1) (b4 : v4 = 0) (p1 : s349 S 1 v4 S1) : s345 S x1 0 S1 := by
  obtain ⟨r1, f1⟩ := p1
  refine ⟨r1, ?_⟩
  · intro p i hW
    clear b4 c4 b3 e3 c3 c2 b2 e2 c1 b1 e1
    exact (f1 p i (by omega))
