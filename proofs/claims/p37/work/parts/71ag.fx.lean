/-! FX: what is to be shown of the entries -/
theorem q55_12 (S : fx_S) (x1 x2 : Int) (hS : fx_Sok S) (g1 : -2147483648 ≤ x1 ∧ x1 ≤ 2147483647) (g2 : -2147483648 ≤ x2 ∧ x2 ≤ 2147483647) (v2 : Int) (e2 : v2 = S.1 29 0) (b2 : -2147483648 ≤ v2 ∧ v2 ≤ 2147483647) (v3 : Int) (e3 : v3 = fx_sub v2 1) (v4 : Int) (S1 : fx_S) (k1 : fx_Sok S1) (b4 : -2147483648 ≤ v4 ∧ v4 ≤ 2147483647) (p1 : s114 S x1 0 v3 v4 S1) (c1 : v4 ≠ 0) (c2 : 0 ≤ x1) (c3 : x1 < 20) (v5 : Int) (e5 : v5 = S1.1 31 x1) (b5 : -2147483648 ≤ v5 ∧ v5 ≤ 2147483647) (c4 : v5 ≠ (-1)) (c5 : 0 ≤ x1) (c6 : x1 < 20) (v6 : Int) (e6 : v6 = S1.1 32 x1) (b6 : -2147483648 ≤ v6 ∧ v6 ≤ 2147483647) (v7 : Int) (S2 : fx_S) (k2 : fx_Sok S2) (b7 : -2147483648 ≤ v7 ∧ v7 ≤ 2147483647) (p2 : s160 S1 v6 v7 S2) (c7 : x2 = 6) (c8 : 0 ≤ x1) (c9 : x1 < 20) (v8 : Int) (e8 : v8 = S2.1 31 x1) (b8 : -2147483648 ≤ v8 ∧ v8 ≤ 2147483647) : s55 S x1 x2 v8 S2 := by
  obtain ⟨rfl, p1⟩ := p1
  obtain rfl : S = S2 := p2
  exact rfl
theorem q55_13 (S : fx_S) (x1 x2 : Int) (hS : fx_Sok S) (g1 : -2147483648 ≤ x1 ∧ x1 ≤ 2147483647) (g2 : -2147483648 ≤ x2 ∧ x2 ≤ 2147483647) (v2 : Int) (e2 : v2 = S.1 29 0) (b2 : -2147483648 ≤ v2 ∧ v2 ≤ 2147483647) (v3 : Int) (e3 : v3 = fx_sub v2 1) (v4 : Int) (S1 : fx_S) (k1 : fx_Sok S1) (b4 : -2147483648 ≤ v4 ∧ v4 ≤ 2147483647) (p1 : s114 S x1 0 v3 v4 S1) (c1 : v4 ≠ 0) (c2 : 0 ≤ x1) (c3 : x1 < 20) (v5 : Int) (e5 : v5 = S1.1 31 x1) (b5 : -2147483648 ≤ v5 ∧ v5 ≤ 2147483647) (c4 : v5 ≠ (-1)) (c5 : 0 ≤ x1) (c6 : x1 < 20) (v6 : Int) (e6 : v6 = S1.1 32 x1) (b6 : -2147483648 ≤ v6 ∧ v6 ≤ 2147483647) (v7 : Int) (S2 : fx_S) (k2 : fx_Sok S2) (b7 : -2147483648 ≤ v7 ∧ v7 ≤ 2147483647) (p2 : s160 S1 v6 v7 S2) (c7 : x2 = 7) (c8 : x1 < 0) : s55 S x1 x2 0 S2 := by
  obtain ⟨rfl, p1⟩ := p1
  obtain rfl : S = S2 := p2
  exact rfl
theorem q55_14 (S : fx_S) (x1 x2 : Int) (hS : fx_Sok S) (g1 : -2147483648 ≤ x1 ∧ x1 ≤ 2147483647) (g2 : -2147483648 ≤ x2 ∧ x2 ≤ 2147483647) (v2 : Int) (e2 : v2 = S.1 29 0) (b2 : -2147483648 ≤ v2 ∧ v2 ≤ 2147483647) (v3 : Int) (e3 : v3 = fx_sub v2 1) (v4 : Int) (S1 : fx_S) (k1 : fx_Sok S1) (b4 : -2147483648 ≤ v4 ∧ v4 ≤ 2147483647) (p1 : s114 S x1 0 v3 v4 S1) (c1 : v4 ≠ 0) (c2 : 0 ≤ x1) (c3 : x1 < 20) (v5 : Int) (e5 : v5 = S1.1 31 x1) (b5 : -2147483648 ≤ v5 ∧ v5 ≤ 2147483647) (c4 : v5 ≠ (-1)) (c5 : 0 ≤ x1) (c6 : x1 < 20) (v6 : Int) (e6 : v6 = S1.1 32 x1) (b6 : -2147483648 ≤ v6 ∧ v6 ≤ 2147483647) (v7 : Int) (S2 : fx_S) (k2 : fx_Sok S2) (b7 : -2147483648 ≤ v7 ∧ v7 ≤ 2147483647) (p2 : s160 S1 v6 v7 S2) (c7 : x2 = 7) (c8 : 0 ≤ x1) (v8 : Int) (e8 : v8 = S2.1 29 0) (b8 : -2147483648 ≤ v8 ∧ v8 ≤ 2147483647) (c9 : v8 ≤ x1) : s55 S x1 x2 0 S2 := by
  obtain ⟨rfl, p1⟩ := p1
  obtain rfl : S = S2 := p2
  exact rfl
theorem q55_15 (S : fx_S) (x1 x2 : Int) (hS : fx_Sok S) (g1 : -2147483648 ≤ x1 ∧ x1 ≤ 2147483647) (g2 : -2147483648 ≤ x2 ∧ x2 ≤ 2147483647) (v2 : Int) (e2 : v2 = S.1 29 0) (b2 : -2147483648 ≤ v2 ∧ v2 ≤ 2147483647) (v3 : Int) (e3 : v3 = fx_sub v2 1) (v4 : Int) (S1 : fx_S) (k1 : fx_Sok S1) (b4 : -2147483648 ≤ v4 ∧ v4 ≤ 2147483647) (p1 : s114 S x1 0 v3 v4 S1) (c1 : v4 ≠ 0) (c2 : 0 ≤ x1) (c3 : x1 < 20) (v5 : Int) (e5 : v5 = S1.1 31 x1) (b5 : -2147483648 ≤ v5 ∧ v5 ≤ 2147483647) (c4 : v5 ≠ (-1)) (c5 : 0 ≤ x1) (c6 : x1 < 20) (v6 : Int) (e6 : v6 = S1.1 32 x1) (b6 : -2147483648 ≤ v6 ∧ v6 ≤ 2147483647) (v7 : Int) (S2 : fx_S) (k2 : fx_Sok S2) (b7 : -2147483648 ≤ v7 ∧ v7 ≤ 2147483647) (p2 : s160 S1 v6 v7 S2) (c7 : x2 = 7) (c8 : 0 ≤ x1) (v8 : Int) (e8 : v8 = S2.1 29 0) (b8 : -2147483648 ≤ v8 ∧ v8 ≤ 2147483647) (c9 : x1 < v8) (c10 : 0 ≤ x1) (c11 : x1 < 20) (v9 : Int) (e9 : v9 = S2.1 33 x1) (b9 : -2147483648 ≤ v9 ∧ v9 ≤ 2147483647) (c12 : v9 = 3600) : s55 S x1 x2 0 S2 := by
  obtain ⟨rfl, p1⟩ := p1
  obtain rfl : S = S2 := p2
  exact rfl
theorem q55_16 (S : fx_S) (x1 x2 : Int) (hS : fx_Sok S) (g1 : -2147483648 ≤ x1 ∧ x1 ≤ 2147483647) (g2 : -2147483648 ≤ x2 ∧ x2 ≤ 2147483647) (v2 : Int) (e2 : v2 = S.1 29 0) (b2 : -2147483648 ≤ v2 ∧ v2 ≤ 2147483647) (v3 : Int) (e3 : v3 = fx_sub v2 1) (v4 : Int) (S1 : fx_S) (k1 : fx_Sok S1) (b4 : -2147483648 ≤ v4 ∧ v4 ≤ 2147483647) (p1 : s114 S x1 0 v3 v4 S1) (c1 : v4 ≠ 0) (c2 : 0 ≤ x1) (c3 : x1 < 20) (v5 : Int) (e5 : v5 = S1.1 31 x1) (b5 : -2147483648 ≤ v5 ∧ v5 ≤ 2147483647) (c4 : v5 ≠ (-1)) (c5 : 0 ≤ x1) (c6 : x1 < 20) (v6 : Int) (e6 : v6 = S1.1 32 x1) (b6 : -2147483648 ≤ v6 ∧ v6 ≤ 2147483647) (v7 : Int) (S2 : fx_S) (k2 : fx_Sok S2) (b7 : -2147483648 ≤ v7 ∧ v7 ≤ 2147483647) (p2 : s160 S1 v6 v7 S2) (c7 : x2 = 7) (c8 : 0 ≤ x1) (v8 : Int) (e8 : v8 = S2.1 29 0) (b8 : -2147483648 ≤ v8 ∧ v8 ≤ 2147483647) (c9 : x1 < v8) (c10 : 0 ≤ x1) (c11 : x1 < 20) (v9 : Int) (e9 : v9 = S2.1 33 x1) (b9 : -2147483648 ≤ v9 ∧ v9 ≤ 2147483647) (c12 : v9 ≠ 3600) : s55 S x1 x2 1 S2 := by
  obtain ⟨rfl, p1⟩ := p1
  obtain rfl : S = S2 := p2
  exact rfl
theorem q56_0 (S : fx_S) (x1 x2 : Int) (hS : fx_Sok S) (g1 : -2147483648 ≤ x1 ∧ x1 ≤ 2147483647) (g2 : -2147483648 ≤ x2 ∧ x2 ≤ 2147483647) (v2 : Int) (e2 : v2 = S.1 67 4) (b2 : -2147483648 ≤ v2 ∧ v2 ≤ 2147483647) (v3 : Int) (e3 : v3 = fx_sub v2 1) (v4 : Int) (S1 : fx_S) (k1 : fx_Sok S1) (b4 : -2147483648 ≤ v4 ∧ v4 ≤ 2147483647) (p1 : s113 S x1 0 v3 v4 S1) (c1 : v4 = 0) : s56 S x1 x2 (-2000000000) S1 := by
  obtain ⟨rfl, p1⟩ := p1
  refine ⟨rfl, ?_⟩
  · intro p i hW
    clear c1 b4 e3 b2 e2
    exact rfl
theorem q56_1 (S : fx_S) (x1 x2 : Int) (hS : fx_Sok S) (g1 : -2147483648 ≤ x1 ∧ x1 ≤ 2147483647) (g2 : -2147483648 ≤ x2 ∧ x2 ≤ 2147483647) (v2 : Int) (e2 : v2 = S.1 67 4) (b2 : -2147483648 ≤ v2 ∧ v2 ≤ 2147483647) (v3 : Int) (e3 : v3 = fx_sub v2 1) (v4 : Int) (S1 : fx_S) (k1 : fx_Sok S1) (b4 : -2147483648 ≤ v4 ∧ v4 ≤ 2147483647) (p1 : s113 S x1 0 v3 v4 S1) (c1 : v4 ≠ 0) (v5 : Int) (e5 : v5 = fx_mul 170 x1) (v6 : Int) (e6 : v6 = fx_add 3700 v5) (v7 : Int) (e7 : v7 = fx_add v6 1) (c2 : 0 ≤ v7) (c3 : v7 < 8090) (v8 : Int) (e8 : v8 = S1.1 67 v7) (b8 : -2147483648 ≤ v8 ∧ v8 ≤ 2147483647) (c4 : v8 ≠ 0) : s56 S x1 x2 (-2000000000) S1 := by
  obtain ⟨rfl, p1⟩ := p1
  refine ⟨rfl, ?_⟩
  · intro p i hW
    clear c4 b8 e8 c3 c2 e7 e6 e5 c1 b4 e3 b2 e2
    exact rfl
theorem q56_2 (S : fx_S) (x1 x2 : Int) (hS : fx_Sok S) (g1 : -2147483648 ≤ x1 ∧ x1 ≤ 2147483647) (g2 : -2147483648 ≤ x2 ∧ x2 ≤ 2147483647) (v2 : Int) (e2 : v2 = S.1 67 4) (b2 : -2147483648 ≤ v2 ∧ v2 ≤ 2147483647) (v3 : Int) (e3 : v3 = fx_sub v2 1) (v4 : Int) (S1 : fx_S) (k1 : fx_Sok S1) (b4 : -2147483648 ≤ v4 ∧ v4 ≤ 2147483647) (p1 : s113 S x1 0 v3 v4 S1) (c1 : v4 ≠ 0) (v5 : Int) (e5 : v5 = fx_mul 170 x1) (v6 : Int) (e6 : v6 = fx_add 3700 v5) (v7 : Int) (e7 : v7 = fx_add v6 1) (c2 : 0 ≤ v7) (c3 : v7 < 8090) (v8 : Int) (e8 : v8 = S1.1 67 v7) (b8 : -2147483648 ≤ v8 ∧ v8 ≤ 2147483647) (c4 : v8 = 0) (v9 : Int) (S2 : fx_S) (k2 : fx_Sok S2) (b9 : -2147483648 ≤ v9 ∧ v9 ≤ 2147483647) (p2 : s113 S1 x2 0 7 v9 S2) (c5 : v9 ≠ 0) (v10 : Int) (e10 : v10 = fx_mul 170 x1) (v11 : Int) (e11 : v11 = fx_add 3700 v10) (v12 : Int) (S3 : fx_S) (k3 : fx_Sok S3) (b12 : v12 = 0) (p3 : s165 S2 x1 (-1) v12 S3) (c6 : x2 < 0) (v13 : Int) (e13 : v13 = fx_add v11 5) (c7 : 0 ≤ v13) (c8 : v13 < 8090) (v14 : Int) (e14 : v14 = S3.1 67 v13) (b14 : -2147483648 ≤ v14 ∧ v14 ≤ 2147483647) (v15 : Int) (e15 : v15 = S3.1 67 0) (b15 : -2147483648 ≤ v15 ∧ v15 ≤ 2147483647) (c9 : v14 = (-1)) : s56 S x1 x2 0 S3 := by
  obtain ⟨rfl, p1⟩ := p1
  obtain ⟨rfl, p2⟩ := p2
  obtain ⟨r3, f3⟩ := p3
  refine ⟨r3, ?_⟩
  · intro p i hW
    clear c9 b15 e15 b14 e14 c8 c7 e13 c6 b12 e11 e10 c5 b9 c4 b8 e8 c3 c2 e7 e6 e5 c1 b4 e3 b2 e2
    exact (f3 p i (by omega))
theorem q56_3 (S : fx_S) (x1 x2 : Int) (hS : fx_Sok S) (g1 : -2147483648 ≤ x1 ∧ x1 ≤ 2147483647) (g2 : -2147483648 ≤ x2 ∧ x2 ≤ 2147483647) (v2 : Int) (e2 : v2 = S.1 67 4) (b2 : -2147483648 ≤ v2 ∧ v2 ≤ 2147483647) (v3 : Int) (e3 : v3 = fx_sub v2 1) (v4 : Int) (S1 : fx_S) (k1 : fx_Sok S1) (b4 : -2147483648 ≤ v4 ∧ v4 ≤ 2147483647) (p1 : s113 S x1 0 v3 v4 S1) (c1 : v4 ≠ 0) (v5 : Int) (e5 : v5 = fx_mul 170 x1) (v6 : Int) (e6 : v6 = fx_add 3700 v5) (v7 : Int) (e7 : v7 = fx_add v6 1) (c2 : 0 ≤ v7) (c3 : v7 < 8090) (v8 : Int) (e8 : v8 = S1.1 67 v7) (b8 : -2147483648 ≤ v8 ∧ v8 ≤ 2147483647) (c4 : v8 = 0) (v9 : Int) (S2 : fx_S) (k2 : fx_Sok S2) (b9 : -2147483648 ≤ v9 ∧ v9 ≤ 2147483647) (p2 : s113 S1 x2 0 7 v9 S2) (c5 : v9 ≠ 0) (v10 : Int) (e10 : v10 = fx_mul 170 x1) (v11 : Int) (e11 : v11 = fx_add 3700 v10) (v12 : Int) (S3 : fx_S) (k3 : fx_Sok S3) (b12 : v12 = 0) (p3 : s165 S2 x1 (-1) v12 S3) (c6 : x2 < 0) (v13 : Int) (e13 : v13 = fx_add v11 5) (c7 : 0 ≤ v13) (c8 : v13 < 8090) (v14 : Int) (e14 : v14 = S3.1 67 v13) (b14 : -2147483648 ≤ v14 ∧ v14 ≤ 2147483647) (v15 : Int) (e15 : v15 = S3.1 67 0) (b15 : -2147483648 ≤ v15 ∧ v15 ≤ 2147483647) (c9 : v14 ≠ (-1)) (c10 : v15 < v14) : s56 S x1 x2 0 S3 := by
  obtain ⟨rfl, p1⟩ := p1
  obtain ⟨rfl, p2⟩ := p2
  obtain ⟨r3, f3⟩ := p3
  refine ⟨r3, ?_⟩
  · intro p i hW
    clear c10 c9 b15 e15 b14 e14 c8 c7 e13 c6 b12 e11 e10 c5 b9 c4 b8 e8 c3 c2 e7 e6 e5 c1 b4 e3 b2 e2
    exact (f3 p i (by omega))
theorem q56_4 (S : fx_S) (x1 x2 : Int) (hS : fx_Sok S) (g1 : -2147483648 ≤ x1 ∧ x1 ≤ 2147483647) (g2 : -2147483648 ≤ x2 ∧ x2 ≤ 2147483647) (v2 : Int) (e2 : v2 = S.1 67 4) (b2 : -2147483648 ≤ v2 ∧ v2 ≤ 2147483647) (v3 : Int) (e3 : v3 = fx_sub v2 1) (v4 : Int) (S1 : fx_S) (k1 : fx_Sok S1) (b4 : -2147483648 ≤ v4 ∧ v4 ≤ 2147483647) (p1 : s113 S x1 0 v3 v4 S1) (c1 : v4 ≠ 0) (v5 : Int) (e5 : v5 = fx_mul 170 x1) (v6 : Int) (e6 : v6 = fx_add 3700 v5) (v7 : Int) (e7 : v7 = fx_add v6 1) (c2 : 0 ≤ v7) (c3 : v7 < 8090) (v8 : Int) (e8 : v8 = S1.1 67 v7) (b8 : -2147483648 ≤ v8 ∧ v8 ≤ 2147483647) (c4 : v8 = 0) (v9 : Int) (S2 : fx_S) (k2 : fx_Sok S2) (b9 : -2147483648 ≤ v9 ∧ v9 ≤ 2147483647) (p2 : s113 S1 x2 0 7 v9 S2) (c5 : v9 ≠ 0) (v10 : Int) (e10 : v10 = fx_mul 170 x1) (v11 : Int) (e11 : v11 = fx_add 3700 v10) (v12 : Int) (S3 : fx_S) (k3 : fx_Sok S3) (b12 : v12 = 0) (p3 : s165 S2 x1 (-1) v12 S3) (c6 : x2 < 0) (v13 : Int) (e13 : v13 = fx_add v11 5) (c7 : 0 ≤ v13) (c8 : v13 < 8090) (v14 : Int) (e14 : v14 = S3.1 67 v13) (b14 : -2147483648 ≤ v14 ∧ v14 ≤ 2147483647) (v15 : Int) (e15 : v15 = S3.1 67 0) (b15 : -2147483648 ≤ v15 ∧ v15 ≤ 2147483647) (c9 : v14 ≠ (-1)) (c10 : v14 ≤ v15) : s56 S x1 x2 1 S3 := by
  obtain ⟨rfl, p1⟩ := p1
  obtain ⟨rfl, p2⟩ := p2
  obtain ⟨r3, f3⟩ := p3
  refine ⟨r3, ?_⟩
  · intro p i hW
    clear c10 c9 b15 e15 b14 e14 c8 c7 e13 c6 b12 e11 e10 c5 b9 c4 b8 e8 c3 c2 e7 e6 e5 c1 b4 e3 b2 e2
    exact (f3 p i (by omega))
theorem q56_5 (S : fx_S) (x1 x2 : Int) (hS : fx_Sok S) (g1 : -2147483648 ≤ x1 ∧ x1 ≤ 2147483647) (g2 : -2147483648 ≤ x2 ∧ x2 ≤ 2147483647) (v2 : Int) (e2 : v2 = S.1 67 4) (b2 : -2147483648 ≤ v2 ∧ v2 ≤ 2147483647) (v3 : Int) (e3 : v3 = fx_sub v2 1) (v4 : Int) (S1 : fx_S) (k1 : fx_Sok S1) (b4 : -2147483648 ≤ v4 ∧ v4 ≤ 2147483647) (p1 : s113 S x1 0 v3 v4 S1) (c1 : v4 ≠ 0) (v5 : Int) (e5 : v5 = fx_mul 170 x1) (v6 : Int) (e6 : v6 = fx_add 3700 v5) (v7 : Int) (e7 : v7 = fx_add v6 1) (c2 : 0 ≤ v7) (c3 : v7 < 8090) (v8 : Int) (e8 : v8 = S1.1 67 v7) (b8 : -2147483648 ≤ v8 ∧ v8 ≤ 2147483647) (c4 : v8 = 0) (v9 : Int) (S2 : fx_S) (k2 : fx_Sok S2) (b9 : -2147483648 ≤ v9 ∧ v9 ≤ 2147483647) (p2 : s113 S1 x2 0 7 v9 S2) (c5 : v9 ≠ 0) (v10 : Int) (e10 : v10 = fx_mul 170 x1) (v11 : Int) (e11 : v11 = fx_add 3700 v10) (v12 : Int) (S3 : fx_S) (k3 : fx_Sok S3) (b12 : v12 = 0) (p3 : s165 S2 x1 (-1) v12 S3) (c6 : 6 < x2) (v13 : Int) (e13 : v13 = fx_add v11 5) (c7 : 0 ≤ v13) (c8 : v13 < 8090) (v14 : Int) (e14 : v14 = S3.1 67 v13) (b14 : -2147483648 ≤ v14 ∧ v14 ≤ 2147483647) (v15 : Int) (e15 : v15 = S3.1 67 0) (b15 : -2147483648 ≤ v15 ∧ v15 ≤ 2147483647) (c9 : v14 = (-1)) : s56 S x1 x2 0 S3 := by
  obtain ⟨rfl, p1⟩ := p1
  obtain ⟨rfl, p2⟩ := p2
  obtain ⟨r3, f3⟩ := p3
  refine ⟨r3, ?_⟩
  · intro p i hW
    clear c9 b15 e15 b14 e14 c8 c7 e13 c6 b12 e11 e10 c5 b9 c4 b8 e8 c3 c2 e7 e6 e5 c1 b4 e3 b2 e2
    exact (f3 p i (by omega))
theorem q56_6 (S : fx_S) (x1 x2 : Int) (hS : fx_Sok S) (g1 : -2147483648 ≤ x1 ∧ x1 ≤ 2147483647) (g2 : -2147483648 ≤ x2 ∧ x2 ≤ 2147483647) (v2 : Int) (e2 : v2 = S.1 67 4) (b2 : -2147483648 ≤ v2 ∧ v2 ≤ 2147483647) (v3 : Int) (e3 : v3 = fx_sub v2 1) (v4 : Int) (S1 : fx_S) (k1 : fx_Sok S1) (b4 : -2147483648 ≤ v4 ∧ v4 ≤ 2147483647) (p1 : s113 S x1 0 v3 v4 S1) (c1 : v4 ≠ 0) (v5 : Int) (e5 : v5 = fx_mul 170 x1) (v6 : Int) (e6 : v6 = fx_add 3700 v5) (v7 : Int) (e7 : v7 = fx_add v6 1) (c2 : 0 ≤ v7) (c3 : v7 < 8090) (v8 : Int) (e8 : v8 = S1.1 67 v7) (b8 : -2147483648 ≤ v8 ∧ v8 ≤ 2147483647) (c4 : v8 = 0) (v9 : Int) (S2 : fx_S) (k2 : fx_Sok S2) (b9 : -2147483648 ≤ v9 ∧ v9 ≤ 2147483647) (p2 : s113 S1 x2 0 7 v9 S2) (c5 : v9 ≠ 0) (v10 : Int) (e10 : v10 = fx_mul 170 x1) (v11 : Int) (e11 : v11 = fx_add 3700 v10) (v12 : Int) (S3 : fx_S) (k3 : fx_Sok S3) (b12 : v12 = 0) (p3 : s165 S2 x1 (-1) v12 S3) (c6 : 6 < x2) (v13 : Int) (e13 : v13 = fx_add v11 5) (c7 : 0 ≤ v13) (c8 : v13 < 8090) (v14 : Int) (e14 : v14 = S3.1 67 v13) (b14 : -2147483648 ≤ v14 ∧ v14 ≤ 2147483647) (v15 : Int) (e15 : v15 = S3.1 67 0) (b15 : -2147483648 ≤ v15 ∧ v15 ≤ 2147483647) (c9 : v14 ≠ (-1)) (c10 : v15 < v14) : s56 S x1 x2 0 S3 := by
  obtain ⟨rfl, p1⟩ := p1
  obtain ⟨rfl, p2⟩ := p2
  obtain ⟨r3, f3⟩ := p3
  refine ⟨r3, ?_⟩
  · intro p i hW
    clear c10 c9 b15 e15 b14 e14 c8 c7 e13 c6 b12 e11 e10 c5 b9 c4 b8 e8 c3 c2 e7 e6 e5 c1 b4 e3 b2 e2
    exact (f3 p i (by omega))
theorem q56_7 (S : fx_S) (x1 x2 : Int) (hS : fx_Sok S) (g1 : -2147483648 ≤ x1 ∧ x1 ≤ 2147483647) (g2 : -2147483648 ≤ x2 ∧ x2 ≤ 2147483647) (v2 : Int) (e2 : v2 = S.1 67 4) (b2 : -2147483648 ≤ v2 ∧ v2 ≤ 2147483647) (v3 : Int) (e3 : v3 = fx_sub v2 1) (v4 : Int) (S1 : fx_S) (k1 : fx_Sok S1) (b4 : -2147483648 ≤ v4 ∧ v4 ≤ 2147483647) (p1 : s113 S x1 0 v3 v4 S1) (c1 : v4 ≠ 0) (v5 : Int) (e5 : v5 = fx_mul 170 x1) (v6 : Int) (e6 : v6 = fx_add 3700 v5) (v7 : Int) (e7 : v7 = fx_add v6 1) (c2 : 0 ≤ v7) (c3 : v7 < 8090) (v8 : Int) (e8 : v8 = S1.1 67 v7) (b8 : -2147483648 ≤ v8 ∧ v8 ≤ 2147483647) (c4 : v8 = 0) (v9 : Int) (S2 : fx_S) (k2 : fx_Sok S2) (b9 : -2147483648 ≤ v9 ∧ v9 ≤ 2147483647) (p2 : s113 S1 x2 0 7 v9 S2) (c5 : v9 ≠ 0) (v10 : Int) (e10 : v10 = fx_mul 170 x1) (v11 : Int) (e11 : v11 = fx_add 3700 v10) (v12 : Int) (S3 : fx_S) (k3 : fx_Sok S3) (b12 : v12 = 0) (p3 : s165 S2 x1 (-1) v12 S3) (c6 : 6 < x2) (v13 : Int) (e13 : v13 = fx_add v11 5) (c7 : 0 ≤ v13) (c8 : v13 < 8090) (v14 : Int) (e14 : v14 = S3.1 67 v13) (b14 : -2147483648 ≤ v14 ∧ v14 ≤ 2147483647) (v15 : Int) (e15 : v15 = S3.1 67 0) (b15 : -2147483648 ≤ v15 ∧ v15 ≤ 2147483647) (c9 : v14 ≠ (-1)) (c10 : v14 ≤ v15) : s56 S x1 x2 1 S3 := by
  obtain ⟨rfl, p1⟩ := p1
  obtain ⟨rfl, p2⟩ := p2
  obtain ⟨r3, f3⟩ := p3
  refine ⟨r3, ?_⟩
  · intro p i hW
    clear c10 c9 b15 e15 b14 e14 c8 c7 e13 c6 b12 e11 e10 c5 b9 c4 b8 e8 c3 c2 e7 e6 e5 c1 b4 e3 b2 e2
    exact (f3 p i (by omega))
theorem q56_8 (S : fx_S) (x1 x2 : Int) (hS : fx_Sok S) (g1 : -2147483648 ≤ x1 ∧ x1 ≤ 2147483647) (g2 : -2147483648 ≤ x2 ∧ x2 ≤ 2147483647) (v2 : Int) (e2 : v2 = S.1 67 4) (b2 : -2147483648 ≤ v2 ∧ v2 ≤ 2147483647) (v3 : Int) (e3 : v3 = fx_sub v2 1) (v4 : Int) (S1 : fx_S) (k1 : fx_Sok S1) (b4 : -2147483648 ≤ v4 ∧ v4 ≤ 2147483647) (p1 : s113 S x1 0 v3 v4 S1) (c1 : v4 ≠ 0) (v5 : Int) (e5 : v5 = fx_mul 170 x1) (v6 : Int) (e6 : v6 = fx_add 3700 v5) (v7 : Int) (e7 : v7 = fx_add v6 1) (c2 : 0 ≤ v7) (c3 : v7 < 8090) (v8 : Int) (e8 : v8 = S1.1 67 v7) (b8 : -2147483648 ≤ v8 ∧ v8 ≤ 2147483647) (c4 : v8 = 0) (v9 : Int) (S2 : fx_S) (k2 : fx_Sok S2) (b9 : -2147483648 ≤ v9 ∧ v9 ≤ 2147483647) (p2 : s113 S1 x2 0 7 v9 S2) (c5 : v9 ≠ 0) (v10 : Int) (e10 : v10 = fx_mul 170 x1) (v11 : Int) (e11 : v11 = fx_add 3700 v10) (v12 : Int) (S3 : fx_S) (k3 : fx_Sok S3) (b12 : v12 = 0) (p3 : s165 S2 x1 (-1) v12 S3) (c6 : x2 = 0) (v13 : Int) (e13 : v13 = fx_add v11 3) (c7 : 0 ≤ v13) (c8 : v13 < 8090) (v14 : Int) (e14 : v14 = S3.1 67 v13) (b14 : -2147483648 ≤ v14 ∧ v14 ≤ 2147483647) : s56 S x1 x2 v14 S3 := by
  obtain ⟨rfl, p1⟩ := p1
  obtain ⟨rfl, p2⟩ := p2
  obtain ⟨r3, f3⟩ := p3
  refine ⟨r3, ?_⟩
  · intro p i hW
    clear b14 e14 c8 c7 e13 c6 b12 e11 e10 c5 b9 c4 b8 e8 c3 c2 e7 e6 e5 c1 b4 e3 b2 e2
    exact (f3 p i (by omega))
theorem q56_9 (S : fx_S) (x1 x2 : Int) (hS : fx_Sok S) (g1 : -2147483648 ≤ x1 ∧ x1 ≤ 2147483647) (g2 : -2147483648 ≤ x2 ∧ x2 ≤ 2147483647) (v2 : Int) (e2 : v2 = S.1 67 4) (b2 : -2147483648 ≤ v2 ∧ v2 ≤ 2147483647) (v3 : Int) (e3 : v3 = fx_sub v2 1) (v4 : Int) (S1 : fx_S) (k1 : fx_Sok S1) (b4 : -2147483648 ≤ v4 ∧ v4 ≤ 2147483647) (p1 : s113 S x1 0 v3 v4 S1) (c1 : v4 ≠ 0) (v5 : Int) (e5 : v5 = fx_mul 170 x1) (v6 : Int) (e6 : v6 = fx_add 3700 v5) (v7 : Int) (e7 : v7 = fx_add v6 1) (c2 : 0 ≤ v7) (c3 : v7 < 8090) (v8 : Int) (e8 : v8 = S1.1 67 v7) (b8 : -2147483648 ≤ v8 ∧ v8 ≤ 2147483647) (c4 : v8 = 0) (v9 : Int) (S2 : fx_S) (k2 : fx_Sok S2) (b9 : -2147483648 ≤ v9 ∧ v9 ≤ 2147483647) (p2 : s113 S1 x2 0 7 v9 S2) (c5 : v9 ≠ 0) (v10 : Int) (e10 : v10 = fx_mul 170 x1) (v11 : Int) (e11 : v11 = fx_add 3700 v10) (v12 : Int) (S3 : fx_S) (k3 : fx_Sok S3) (b12 : v12 = 0) (p3 : s165 S2 x1 (-1) v12 S3) (c6 : x2 = 1) (v13 : Int) (S4 : fx_S) (k4 : fx_Sok S4) (b13 : -2147483648 ≤ v13 ∧ v13 ≤ 2147483647) (p4 : s166 S3 x1 1 v13 S4) (v14 : Int) (S5 : fx_S) (k5 : fx_Sok S5) (b14 : -2147483648 ≤ v14 ∧ v14 ≤ 2147483647) (p5 : s166 S4 x1 2 v14 S5) (v15 : Int) (e15 : v15 = fx_add v11 4) (c7 : 0 ≤ v15) (c8 : v15 < 8090) (v16 : Int) (e16 : v16 = S5.1 67 v15) (b16 : -2147483648 ≤ v16 ∧ v16 ≤ 2147483647) (v17 : Int) (S6 : fx_S) (k6 : fx_Sok S6) (b17 : -2147483648 ≤ v17 ∧ v17 ≤ 2147483647) (p6 : s167 S5 v13 v14 v16 v17 S6) (c9 : v17 = 0) : s56 S x1 x2 0 S6 := by
  obtain ⟨rfl, p1⟩ := p1
  obtain ⟨rfl, p2⟩ := p2
  obtain ⟨r3, f3⟩ := p3
  obtain rfl : S3 = S4 := p4
  obtain rfl : S3 = S5 := p5
  obtain rfl : S3 = S6 := p6
  refine ⟨r3, ?_⟩
  · intro p i hW
    clear c9 b17 b16 e16 c8 c7 e15 b14 b13 c6 b12 e11 e10 c5 b9 c4 b8 e8 c3 c2 e7 e6 e5 c1 b4 e3 b2 e2
    exact (f3 p i (by omega))
theorem q56_10 (S : fx_S) (x1 x2 : Int) (hS : fx_Sok S) (g1 : -2147483648 ≤ x1 ∧ x1 ≤ 2147483647) (g2 : -2147483648 ≤ x2 ∧ x2 ≤ 2147483647) (v2 : Int) (e2 : v2 = S.1 67 4) (b2 : -2147483648 ≤ v2 ∧ v2 ≤ 2147483647) (v3 : Int) (e3 : v3 = fx_sub v2 1) (v4 : Int) (S1 : fx_S) (k1 : fx_Sok S1) (b4 : -2147483648 ≤ v4 ∧ v4 ≤ 2147483647) (p1 : s113 S x1 0 v3 v4 S1) (c1 : v4 ≠ 0) (v5 : Int) (e5 : v5 = fx_mul 170 x1) (v6 : Int) (e6 : v6 = fx_add 3700 v5) (v7 : Int) (e7 : v7 = fx_add v6 1) (c2 : 0 ≤ v7) (c3 : v7 < 8090) (v8 : Int) (e8 : v8 = S1.1 67 v7) (b8 : -2147483648 ≤ v8 ∧ v8 ≤ 2147483647) (c4 : v8 = 0) (v9 : Int) (S2 : fx_S) (k2 : fx_Sok S2) (b9 : -2147483648 ≤ v9 ∧ v9 ≤ 2147483647) (p2 : s113 S1 x2 0 7 v9 S2) (c5 : v9 ≠ 0) (v10 : Int) (e10 : v10 = fx_mul 170 x1) (v11 : Int) (e11 : v11 = fx_add 3700 v10) (v12 : Int) (S3 : fx_S) (k3 : fx_Sok S3) (b12 : v12 = 0) (p3 : s165 S2 x1 (-1) v12 S3) (c6 : x2 = 1) (v13 : Int) (S4 : fx_S) (k4 : fx_Sok S4) (b13 : -2147483648 ≤ v13 ∧ v13 ≤ 2147483647) (p4 : s166 S3 x1 1 v13 S4) (v14 : Int) (S5 : fx_S) (k5 : fx_Sok S5) (b14 : -2147483648 ≤ v14 ∧ v14 ≤ 2147483647) (p5 : s166 S4 x1 2 v14 S5) (v15 : Int) (e15 : v15 = fx_add v11 4) (c7 : 0 ≤ v15) (c8 : v15 < 8090) (v16 : Int) (e16 : v16 = S5.1 67 v15) (b16 : -2147483648 ≤ v16 ∧ v16 ≤ 2147483647) (v17 : Int) (S6 : fx_S) (k6 : fx_Sok S6) (b17 : -2147483648 ≤ v17 ∧ v17 ≤ 2147483647) (p6 : s167 S5 v13 v14 v16 v17 S6) (c9 : v17 ≠ 0) : s56 S x1 x2 1 S6 := by
  obtain ⟨rfl, p1⟩ := p1
  obtain ⟨rfl, p2⟩ := p2
  obtain ⟨r3, f3⟩ := p3
  obtain rfl : S3 = S4 := p4
  obtain rfl : S3 = S5 := p5
  obtain rfl : S3 = S6 := p6
  refine ⟨r3, ?_⟩
  · intro p i hW
    clear c9 b17 b16 e16 c8 c7 e15 b14 b13 c6 b12 e11 e10 c5 b9 c4 b8 e8 c3 c2 e7 e6 e5 c1 b4 e3 b2 e2
    exact (f3 p i (by omega))
theorem q56_11 (S : fx_S) (x1 x2 : Int) (hS : fx_Sok S) (g1 : -2147483648 ≤ x1 ∧ x1 ≤ 2147483647) (g2 : -2147483648 ≤ x2 ∧ x2 ≤ 2147483647) (v2 : Int) (e2 : v2 = S.1 67 4) (b2 : -2147483648 ≤ v2 ∧ v2 ≤ 2147483647) (v3 : Int) (e3 : v3 = fx_sub v2 1) (v4 : Int) (S1 : fx_S) (k1 : fx_Sok S1) (b4 : -2147483648 ≤ v4 ∧ v4 ≤ 2147483647) (p1 : s113 S x1 0 v3 v4 S1) (c1 : v4 ≠ 0) (v5 : Int) (e5 : v5 = fx_mul 170 x1) (v6 : Int) (e6 : v6 = fx_add 3700 v5) (v7 : Int) (e7 : v7 = fx_add v6 1) (c2 : 0 ≤ v7) (c3 : v7 < 8090) (v8 : Int) (e8 : v8 = S1.1 67 v7) (b8 : -2147483648 ≤ v8 ∧ v8 ≤ 2147483647) (c4 : v8 = 0) (v9 : Int) (S2 : fx_S) (k2 : fx_Sok S2) (b9 : -2147483648 ≤ v9 ∧ v9 ≤ 2147483647) (p2 : s113 S1 x2 0 7 v9 S2) (c5 : v9 ≠ 0) (v10 : Int) (e10 : v10 = fx_mul 170 x1) (v11 : Int) (e11 : v11 = fx_add 3700 v10) (v12 : Int) (S3 : fx_S) (k3 : fx_Sok S3) (b12 : v12 = 0) (p3 : s165 S2 x1 (-1) v12 S3) (c6 : x2 = 2) (v13 : Int) (S4 : fx_S) (k4 : fx_Sok S4) (b13 : -2147483648 ≤ v13 ∧ v13 ≤ 2147483647) (p4 : s168 S3 1 v13 S4) : s56 S x1 x2 v13 S4 := by
  obtain ⟨rfl, p1⟩ := p1
  obtain ⟨rfl, p2⟩ := p2
  obtain ⟨r3, f3⟩ := p3
  obtain rfl : S3 = S4 := p4
  refine ⟨r3, ?_⟩
  · intro p i hW
    clear b13 c6 b12 e11 e10 c5 b9 c4 b8 e8 c3 c2 e7 e6 e5 c1 b4 e3 b2 e2
    exact (f3 p i (by omega))
theorem q56_12 (S : fx_S) (x1 x2 : Int) (hS : fx_Sok S) (g1 : -2147483648 ≤ x1 ∧ x1 ≤ 2147483647) (g2 : -2147483648 ≤ x2 ∧ x2 ≤ 2147483647) (v2 : Int) (e2 : v2 = S.1 67 4) (b2 : -2147483648 ≤ v2 ∧ v2 ≤ 2147483647) (v3 : Int) (e3 : v3 = fx_sub v2 1) (v4 : Int) (S1 : fx_S) (k1 : fx_Sok S1) (b4 : -2147483648 ≤ v4 ∧ v4 ≤ 2147483647) (p1 : s113 S x1 0 v3 v4 S1) (c1 : v4 ≠ 0) (v5 : Int) (e5 : v5 = fx_mul 170 x1) (v6 : Int) (e6 : v6 = fx_add 3700 v5) (v7 : Int) (e7 : v7 = fx_add v6 1) (c2 : 0 ≤ v7) (c3 : v7 < 8090) (v8 : Int) (e8 : v8 = S1.1 67 v7) (b8 : -2147483648 ≤ v8 ∧ v8 ≤ 2147483647) (c4 : v8 = 0) (v9 : Int) (S2 : fx_S) (k2 : fx_Sok S2) (b9 : -2147483648 ≤ v9 ∧ v9 ≤ 2147483647) (p2 : s113 S1 x2 0 7 v9 S2) (c5 : v9 ≠ 0) (v10 : Int) (e10 : v10 = fx_mul 170 x1) (v11 : Int) (e11 : v11 = fx_add 3700 v10) (v12 : Int) (S3 : fx_S) (k3 : fx_Sok S3) (b12 : v12 = 0) (p3 : s165 S2 x1 (-1) v12 S3) (c6 : x2 = 3) (v13 : Int) (S4 : fx_S) (k4 : fx_Sok S4) (b13 : -2147483648 ≤ v13 ∧ v13 ≤ 2147483647) (p4 : s168 S3 0 v13 S4) : s56 S x1 x2 v13 S4 := by
  obtain ⟨rfl, p1⟩ := p1
  obtain ⟨rfl, p2⟩ := p2
  obtain ⟨r3, f3⟩ := p3
  obtain rfl : S3 = S4 := p4
  refine ⟨r3, ?_⟩
  · intro p i hW
    clear b13 c6 b12 e11 e10 c5 b9 c4 b8 e8 c3 c2 e7 e6 e5 c1 b4 e3 b2 e2
    exact (f3 p i (by omega))
theorem q56_13 (S : fx_S) (x1 x2 : Int) (hS : fx_Sok S) (g1 : -2147483648 ≤ x1 ∧ x1 ≤ 2147483647) (g2 : -2147483648 ≤ x2 ∧ x2 ≤ 2147483647) (v2 : Int) (e2 : v2 = S.1 67 4) (b2 : -2147483648 ≤ v2 ∧ v2 ≤ 2147483647) (v3 : Int) (e3 : v3 = fx_sub v2 1) (v4 : Int) (S1 : fx_S) (k1 : fx_Sok S1) (b4 : -2147483648 ≤ v4 ∧ v4 ≤ 2147483647) (p1 : s113 S x1 0 v3 v4 S1) (c1 : v4 ≠ 0) (v5 : Int) (e5 : v5 = fx_mul 170 x1) (v6 : Int) (e6 : v6 = fx_add 3700 v5) (v7 : Int) (e7 : v7 = fx_add v6 1) (c2 : 0 ≤ v7) (c3 : v7 < 8090) (v8 : Int) (e8 : v8 = S1.1 67 v7) (b8 : -2147483648 ≤ v8 ∧ v8 ≤ 2147483647) (c4 : v8 = 0) (v9 : Int) (S2 : fx_S) (k2 : fx_Sok S2) (b9 : -2147483648 ≤ v9 ∧ v9 ≤ 2147483647) (p2 : s113 S1 x2 0 7 v9 S2) (c5 : v9 ≠ 0) (v10 : Int) (e10 : v10 = fx_mul 170 x1) (v11 : Int) (e11 : v11 = fx_add 3700 v10) (v12 : Int) (S3 : fx_S) (k3 : fx_Sok S3) (b12 : v12 = 0) (p3 : s165 S2 x1 (-1) v12 S3) (c6 : x2 = 4) (v13 : Int) (S4 : fx_S) (k4 : fx_Sok S4) (b13 : -2147483648 ≤ v13 ∧ v13 ≤ 2147483647) (p4 : s166 S3 x1 1 v13 S4) : s56 S x1 x2 v13 S4 := by
  obtain ⟨rfl, p1⟩ := p1
  obtain ⟨rfl, p2⟩ := p2
  obtain ⟨r3, f3⟩ := p3
  obtain rfl : S3 = S4 := p4
  refine ⟨r3, ?_⟩
  · intro p i hW
    clear b13 c6 b12 e11 e10 c5 b9 c4 b8 e8 c3 c2 e7 e6 e5 c1 b4 e3 b2 e2
    exact (f3 p i (by omega))
theorem q56_14 (S : fx_S) (x1 x2 : Int) (hS : fx_Sok S) (g1 : -2147483648 ≤ x1 ∧ x1 ≤ 2147483647) (g2 : -2147483648 ≤ x2 ∧ x2 ≤ 2147483647) (v2 : Int) (e2 : v2 = S.1 67 4) (b2 : -2147483648 ≤ v2 ∧ v2 ≤ 2147483647) (v3 : Int) (e3 : v3 = fx_sub v2 1) (v4 : Int) (S1 : fx_S) (k1 : fx_Sok S1) (b4 : -2147483648 ≤ v4 ∧ v4 ≤ 2147483647) (p1 : s113 S x1 0 v3 v4 S1) (c1 : v4 ≠ 0) (v5 : Int) (e5 : v5 = fx_mul 170 x1) (v6 : Int) (e6 : v6 = fx_add 3700 v5) (v7 : Int) (e7 : v7 = fx_add v6 1) (c2 : 0 ≤ v7) (c3 : v7 < 8090) (v8 : Int) (e8 : v8 = S1.1 67 v7) (b8 : -2147483648 ≤ v8 ∧ v8 ≤ 2147483647) (c4 : v8 = 0) (v9 : Int) (S2 : fx_S) (k2 : fx_Sok S2) (b9 : -2147483648 ≤ v9 ∧ v9 ≤ 2147483647) (p2 : s113 S1 x2 0 7 v9 S2) (c5 : v9 ≠ 0) (v10 : Int) (e10 : v10 = fx_mul 170 x1) (v11 : Int) (e11 : v11 = fx_add 3700 v10) (v12 : Int) (S3 : fx_S) (k3 : fx_Sok S3) (b12 : v12 = 0) (p3 : s165 S2 x1 (-1) v12 S3) (c6 : x2 = 5) (v13 : Int) (S4 : fx_S) (k4 : fx_Sok S4) (b13 : -2147483648 ≤ v13 ∧ v13 ≤ 2147483647) (p4 : s166 S3 x1 2 v13 S4) : s56 S x1 x2 v13 S4 := by
  obtain ⟨rfl, p1⟩ := p1
  obtain ⟨rfl, p2⟩ := p2
  obtain ⟨r3, f3⟩ := p3
  obtain rfl : S3 = S4 := p4
  refine ⟨r3, ?_⟩
  · intro p i hW
    clear b13 c6 b12 e11 e10 c5 b9 c4 b8 e8 c3 c2 e7 e6 e5 c1 b4 e3 b2 e2
    exact (f3 p i (by omega))
theorem q56_15 (S : fx_S) (x1 x2 : Int) (hS : fx_Sok S) (g1 : -2147483648 ≤ x1 ∧ x1 ≤ 2147483647) (g2 : -2147483648 ≤ x2 ∧ x2 ≤ 2147483647) (v2 : Int) (e2 : v2 = S.1 67 4) (b2 : -2147483648 ≤ v2 ∧ v2 ≤ 2147483647) (v3 : Int) (e3 : v3 = fx_sub v2 1) (v4 : Int) (S1 : fx_S) (k1 : fx_Sok S1) (b4 : -2147483648 ≤ v4 ∧ v4 ≤ 2147483647) (p1 : s113 S x1 0 v3 v4 S1) (c1 : v4 ≠ 0) (v5 : Int) (e5 : v5 = fx_mul 170 x1) (v6 : Int) (e6 : v6 = fx_add 3700 v5) (v7 : Int) (e7 : v7 = fx_add v6 1) (c2 : 0 ≤ v7) (c3 : v7 < 8090) (v8 : Int) (e8 : v8 = S1.1 67 v7) (b8 : -2147483648 ≤ v8 ∧ v8 ≤ 2147483647) (c4 : v8 = 0) (v9 : Int) (S2 : fx_S) (k2 : fx_Sok S2) (b9 : -2147483648 ≤ v9 ∧ v9 ≤ 2147483647) (p2 : s113 S1 x2 0 7 v9 S2) (c5 : v9 ≠ 0) (v10 : Int) (e10 : v10 = fx_mul 170 x1) (v11 : Int) (e11 : v11 = fx_add 3700 v10) (v12 : Int) (S3 : fx_S) (k3 : fx_Sok S3) (b12 : v12 = 0) (p3 : s165 S2 x1 (-1) v12 S3) (c6 : x2 = 6) (v13 : Int) (e13 : v13 = fx_add v11 2) (c7 : 0 ≤ v13) (c8 : v13 < 8090) (v14 : Int) (e14 : v14 = S3.1 67 v13) (b14 : -2147483648 ≤ v14 ∧ v14 ≤ 2147483647) : s56 S x1 x2 v14 S3 := by
  obtain ⟨rfl, p1⟩ := p1
  obtain ⟨rfl, p2⟩ := p2
  obtain ⟨r3, f3⟩ := p3
  refine ⟨r3, ?_⟩
  · intro p i hW
    clear b14 e14 c8 c7 e13 c6 b12 e11 e10 c5 b9 c4 b8 e8 c3 c2 e7 e6 e5 c1 b4 e3 b2 e2
    exact (f3 p i (by omega))
theorem q56_16 (S : fx_S) (x1 x2 : Int) (hS : fx_Sok S) (g1 : -2147483648 ≤ x1 ∧ x1 ≤ 2147483647) (g2 : -2147483648 ≤ x2 ∧ x2 ≤ 2147483647) (v2 : Int) (e2 : v2 = S.1 67 4) (b2 : -2147483648 ≤ v2 ∧ v2 ≤ 2147483647) (v3 : Int) (e3 : v3 = fx_sub v2 1) (v4 : Int) (S1 : fx_S) (k1 : fx_Sok S1) (b4 : -2147483648 ≤ v4 ∧ v4 ≤ 2147483647) (p1 : s113 S x1 0 v3 v4 S1) (c1 : v4 ≠ 0) (v5 : Int) (e5 : v5 = fx_mul 170 x1) (v6 : Int) (e6 : v6 = fx_add 3700 v5) (v7 : Int) (e7 : v7 = fx_add v6 1) (c2 : 0 ≤ v7) (c3 : v7 < 8090) (v8 : Int) (e8 : v8 = S1.1 67 v7) (b8 : -2147483648 ≤ v8 ∧ v8 ≤ 2147483647) (c4 : v8 = 0) (v9 : Int) (S2 : fx_S) (k2 : fx_Sok S2) (b9 : -2147483648 ≤ v9 ∧ v9 ≤ 2147483647) (p2 : s113 S1 x2 0 7 v9 S2) (c5 : v9 = 0) : s56 S x1 x2 (-2000000000) S2 := by
  obtain ⟨rfl, p1⟩ := p1
  obtain ⟨rfl, p2⟩ := p2
  refine ⟨rfl, ?_⟩
  · intro p i hW
    clear c5 b9 c4 b8 e8 c3 c2 e7 e6 e5 c1 b4 e3 b2 e2
    exact rfl
theorem q57_0 (S : fx_S) (x1 x2 : Int) (hS : fx_Sok S) (g1 : -2147483648 ≤ x1 ∧ x1 ≤ 2147483647) (g2 : -2147483648 ≤ x2 ∧ x2 ≤ 2147483647) (v2 : Int) (e2 : v2 = S.1 29 0) (b2 : -2147483648 ≤ v2 ∧ v2 ≤ 2147483647) (v3 : Int) (e3 : v3 = fx_sub v2 1) (v4 : Int) (S1 : fx_S) (k1 : fx_Sok S1) (b4 : -2147483648 ≤ v4 ∧ v4 ≤ 2147483647) (p1 : s114 S x1 0 v3 v4 S1) (c1 : v4 = 0) : s57 S x1 x2 (-2) S1 := by
  obtain ⟨rfl, p1⟩ := p1
  refine ⟨rfl, ?_⟩
  · intro p i hW
    clear c1 b4 e3 b2 e2
    exact rfl
theorem q57_1 (S : fx_S) (x1 x2 : Int) (hS : fx_Sok S) (g1 : -2147483648 ≤ x1 ∧ x1 ≤ 2147483647) (g2 : -2147483648 ≤ x2 ∧ x2 ≤ 2147483647) (v2 : Int) (e2 : v2 = S.1 29 0) (b2 : -2147483648 ≤ v2 ∧ v2 ≤ 2147483647) (v3 : Int) (e3 : v3 = fx_sub v2 1) (v4 : Int) (S1 : fx_S) (k1 : fx_Sok S1) (b4 : -2147483648 ≤ v4 ∧ v4 ≤ 2147483647) (p1 : s114 S x1 0 v3 v4 S1) (c1 : v4 ≠ 0) (c2 : 0 ≤ x1) (c3 : x1 < 20) (v5 : Int) (e5 : v5 = S1.1 31 x1) (b5 : -2147483648 ≤ v5 ∧ v5 ≤ 2147483647) (c4 : v5 = (-1)) : s57 S x1 x2 (-2) S1 := by
  obtain ⟨rfl, p1⟩ := p1
  refine ⟨rfl, ?_⟩
  · intro p i hW
    clear c4 b5 e5 c3 c2 c1 b4 e3 b2 e2
    exact rfl
theorem q57_2 (S : fx_S) (x1 x2 : Int) (hS : fx_Sok S) (g1 : -2147483648 ≤ x1 ∧ x1 ≤ 2147483647) (g2 : -2147483648 ≤ x2 ∧ x2 ≤ 2147483647) (v2 : Int) (e2 : v2 = S.1 29 0) (b2 : -2147483648 ≤ v2 ∧ v2 ≤ 2147483647) (v3 : Int) (e3 : v3 = fx_sub v2 1) (v4 : Int) (S1 : fx_S) (k1 : fx_Sok S1) (b4 : -2147483648 ≤ v4 ∧ v4 ≤ 2147483647) (p1 : s114 S x1 0 v3 v4 S1) (c1 : v4 ≠ 0) (c2 : 0 ≤ x1) (c3 : x1 < 20) (v5 : Int) (e5 : v5 = S1.1 31 x1) (b5 : -2147483648 ≤ v5 ∧ v5 ≤ 2147483647) (c4 : v5 ≠ (-1)) (v6 : Int) (e6 : v6 = S1.1 2 8) (b6 : -2147483648 ≤ v6 ∧ v6 ≤ 2147483647) (v7 : Int) (e7 : v7 = fx_sub v6 1) (v8 : Int) (S2 : fx_S) (k2 : fx_Sok S2) (b8 : -2147483648 ≤ v8 ∧ v8 ≤ 2147483647) (p2 : s114 S1 x2 0 v7 v8 S2) (c5 : v8 ≠ 0) (v9 : Int) (S3 : fx_S) (k3 : fx_Sok S3) (b9 : v9 = 0) (p3 : s169 S2 x1 x2 v9 S3) (v10 : Int) (S4 : fx_S) (k4 : fx_Sok S4) (b10 : -2147483648 ≤ v10 ∧ v10 ≤ 2147483647) (p4 : s170 S3 x2 v10 S4) (v11 : Int) (S5 : fx_S) (k5 : fx_Sok S5) (b11 : -2147483648 ≤ v11 ∧ v11 ≤ 2147483647) (p5 : s160 S4 x2 v11 S5) (c6 : v10 = 0) (v12 : Int) (S6 : fx_S) (k6 : fx_Sok S6) (b12 : -2147483648 ≤ v12 ∧ v12 ≤ 2147483647) (p6 : s161 S5 20 v11 v12 S6) (c7 : v12 = 0) : s57 S x1 x2 0 S6 := by
  obtain ⟨rfl, p1⟩ := p1
  obtain ⟨rfl, p2⟩ := p2
  obtain ⟨r3, f3⟩ := p3
  obtain rfl : S3 = S4 := p4
  obtain rfl : S3 = S5 := p5
  obtain rfl : S3 = S6 := p6
  refine ⟨r3, ?_⟩
  · intro p i hW
    clear c7 b12 c6 b11 b10 b9 c5 b8 e7 b6 e6 c4 b5 e5 c3 c2 c1 b4 e3 b2 e2
    exact (f3 p i (by omega))
theorem q57_3 (S : fx_S) (x1 x2 : Int) (hS : fx_Sok S) (g1 : -2147483648 ≤ x1 ∧ x1 ≤ 2147483647) (g2 : -2147483648 ≤ x2 ∧ x2 ≤ 2147483647) (v2 : Int) (e2 : v2 = S.1 29 0) (b2 : -2147483648 ≤ v2 ∧ v2 ≤ 2147483647) (v3 : Int) (e3 : v3 = fx_sub v2 1) (v4 : Int) (S1 : fx_S) (k1 : fx_Sok S1) (b4 : -2147483648 ≤ v4 ∧ v4 ≤ 2147483647) (p1 : s114 S x1 0 v3 v4 S1) (c1 : v4 ≠ 0) (c2 : 0 ≤ x1) (c3 : x1 < 20) (v5 : Int) (e5 : v5 = S1.1 31 x1) (b5 : -2147483648 ≤ v5 ∧ v5 ≤ 2147483647) (c4 : v5 ≠ (-1)) (v6 : Int) (e6 : v6 = S1.1 2 8) (b6 : -2147483648 ≤ v6 ∧ v6 ≤ 2147483647) (v7 : Int) (e7 : v7 = fx_sub v6 1) (v8 : Int) (S2 : fx_S) (k2 : fx_Sok S2) (b8 : -2147483648 ≤ v8 ∧ v8 ≤ 2147483647) (p2 : s114 S1 x2 0 v7 v8 S2) (c5 : v8 ≠ 0) (v9 : Int) (S3 : fx_S) (k3 : fx_Sok S3) (b9 : v9 = 0) (p3 : s169 S2 x1 x2 v9 S3) (v10 : Int) (S4 : fx_S) (k4 : fx_Sok S4) (b10 : -2147483648 ≤ v10 ∧ v10 ≤ 2147483647) (p4 : s170 S3 x2 v10 S4) (v11 : Int) (S5 : fx_S) (k5 : fx_Sok S5) (b11 : -2147483648 ≤ v11 ∧ v11 ≤ 2147483647) (p5 : s160 S4 x2 v11 S5) (c6 : v10 = 0) (v12 : Int) (S6 : fx_S) (k6 : fx_Sok S6) (b12 : -2147483648 ≤ v12 ∧ v12 ≤ 2147483647) (p6 : s161 S5 20 v11 v12 S6) (c7 : v12 ≠ 0) : s57 S x1 x2 1 S6 := by
  obtain ⟨rfl, p1⟩ := p1
  obtain ⟨rfl, p2⟩ := p2
  obtain ⟨r3, f3⟩ := p3
  obtain rfl : S3 = S4 := p4
  obtain rfl : S3 = S5 := p5
  obtain rfl : S3 = S6 := p6
  refine ⟨r3, ?_⟩
  · intro p i hW
    clear c7 b12 c6 b11 b10 b9 c5 b8 e7 b6 e6 c4 b5 e5 c3 c2 c1 b4 e3 b2 e2
    exact (f3 p i (by omega))
theorem q57_4 (S : fx_S) (x1 x2 : Int) (hS : fx_Sok S) (g1 : -2147483648 ≤ x1 ∧ x1 ≤ 2147483647) (g2 : -2147483648 ≤ x2 ∧ x2 ≤ 2147483647) (v2 : Int) (e2 : v2 = S.1 29 0) (b2 : -2147483648 ≤ v2 ∧ v2 ≤ 2147483647) (v3 : Int) (e3 : v3 = fx_sub v2 1) (v4 : Int) (S1 : fx_S) (k1 : fx_Sok S1) (b4 : -2147483648 ≤ v4 ∧ v4 ≤ 2147483647) (p1 : s114 S x1 0 v3 v4 S1) (c1 : v4 ≠ 0) (c2 : 0 ≤ x1) (c3 : x1 < 20) (v5 : Int) (e5 : v5 = S1.1 31 x1) (b5 : -2147483648 ≤ v5 ∧ v5 ≤ 2147483647) (c4 : v5 ≠ (-1)) (v6 : Int) (e6 : v6 = S1.1 2 8) (b6 : -2147483648 ≤ v6 ∧ v6 ≤ 2147483647) (v7 : Int) (e7 : v7 = fx_sub v6 1) (v8 : Int) (S2 : fx_S) (k2 : fx_Sok S2) (b8 : -2147483648 ≤ v8 ∧ v8 ≤ 2147483647) (p2 : s114 S1 x2 0 v7 v8 S2) (c5 : v8 ≠ 0) (v9 : Int) (S3 : fx_S) (k3 : fx_Sok S3) (b9 : v9 = 0) (p3 : s169 S2 x1 x2 v9 S3) (v10 : Int) (S4 : fx_S) (k4 : fx_Sok S4) (b10 : -2147483648 ≤ v10 ∧ v10 ≤ 2147483647) (p4 : s170 S3 x2 v10 S4) (v11 : Int) (S5 : fx_S) (k5 : fx_Sok S5) (b11 : -2147483648 ≤ v11 ∧ v11 ≤ 2147483647) (p5 : s160 S4 x2 v11 S5) (c6 : v10 ≠ 0) (v12 : Int) (S6 : fx_S) (k6 : fx_Sok S6) (b12 : -2147483648 ≤ v12 ∧ v12 ≤ 2147483647) (p6 : s171 S5 20 v12 S6) (c7 : v12 = 0) : s57 S x1 x2 0 S6 := by
  obtain ⟨rfl, p1⟩ := p1
  obtain ⟨rfl, p2⟩ := p2
  obtain ⟨r3, f3⟩ := p3
  obtain rfl : S3 = S4 := p4
  obtain rfl : S3 = S5 := p5
  obtain rfl : S3 = S6 := p6
  refine ⟨r3, ?_⟩
  · intro p i hW
    clear c7 b12 c6 b11 b10 b9 c5 b8 e7 b6 e6 c4 b5 e5 c3 c2 c1 b4 e3 b2 e2
    exact (f3 p i (by omega))
theorem q57_5 (S : fx_S) (x1 x2 : Int) (hS : fx_Sok S) (g1 : -2147483648 ≤ x1 ∧ x1 ≤ 2147483647) (g2 : -2147483648 ≤ x2 ∧ x2 ≤ 2147483647) (v2 : Int) (e2 : v2 = S.1 29 0) (b2 : -2147483648 ≤ v2 ∧ v2 ≤ 2147483647) (v3 : Int) (e3 : v3 = fx_sub v2 1) (v4 : Int) (S1 : fx_S) (k1 : fx_Sok S1) (b4 : -2147483648 ≤ v4 ∧ v4 ≤ 2147483647) (p1 : s114 S x1 0 v3 v4 S1) (c1 : v4 ≠ 0) (c2 : 0 ≤ x1) (c3 : x1 < 20) (v5 : Int) (e5 : v5 = S1.1 31 x1) (b5 : -2147483648 ≤ v5 ∧ v5 ≤ 2147483647) (c4 : v5 ≠ (-1)) (v6 : Int) (e6 : v6 = S1.1 2 8) (b6 : -2147483648 ≤ v6 ∧ v6 ≤ 2147483647) (v7 : Int) (e7 : v7 = fx_sub v6 1) (v8 : Int) (S2 : fx_S) (k2 : fx_Sok S2) (b8 : -2147483648 ≤ v8 ∧ v8 ≤ 2147483647) (p2 : s114 S1 x2 0 v7 v8 S2) (c5 : v8 ≠ 0) (v9 : Int) (S3 : fx_S) (k3 : fx_Sok S3) (b9 : v9 = 0) (p3 : s169 S2 x1 x2 v9 S3) (v10 : Int) (S4 : fx_S) (k4 : fx_Sok S4) (b10 : -2147483648 ≤ v10 ∧ v10 ≤ 2147483647) (p4 : s170 S3 x2 v10 S4) (v11 : Int) (S5 : fx_S) (k5 : fx_Sok S5) (b11 : -2147483648 ≤ v11 ∧ v11 ≤ 2147483647) (p5 : s160 S4 x2 v11 S5) (c6 : v10 ≠ 0) (v12 : Int) (S6 : fx_S) (k6 : fx_Sok S6) (b12 : -2147483648 ≤ v12 ∧ v12 ≤ 2147483647) (p6 : s171 S5 20 v12 S6) (c7 : v12 ≠ 0) : s57 S x1 x2 1 S6 := by
  obtain ⟨rfl, p1⟩ := p1
  obtain ⟨rfl, p2⟩ := p2
  obtain ⟨r3, f3⟩ := p3
  obtain rfl : S3 = S4 := p4
  obtain rfl : S3 = S5 := p5
  obtain rfl : S3 = S6 := p6
  refine ⟨r3, ?_⟩
  · intro p i hW
    clear c7 b12 c6 b11 b10 b9 c5 b8 e7 b6 e6 c4 b5 e5 c3 c2 c1 b4 e3 b2 e2
    exact (f3 p i (by omega))
theorem q57_6 (S : fx_S) (x1 x2 : Int) (hS : fx_Sok S) (g1 : -2147483648 ≤ x1 ∧ x1 ≤ 2147483647) (g2 : -2147483648 ≤ x2 ∧ x2 ≤ 2147483647) (v2 : Int) (e2 : v2 = S.1 29 0) (b2 : -2147483648 ≤ v2 ∧ v2 ≤ 2147483647) (v3 : Int) (e3 : v3 = fx_sub v2 1) (v4 : Int) (S1 : fx_S) (k1 : fx_Sok S1) (b4 : -2147483648 ≤ v4 ∧ v4 ≤ 2147483647) (p1 : s114 S x1 0 v3 v4 S1) (c1 : v4 ≠ 0) (c2 : 0 ≤ x1) (c3 : x1 < 20) (v5 : Int) (e5 : v5 = S1.1 31 x1) (b5 : -2147483648 ≤ v5 ∧ v5 ≤ 2147483647) (c4 : v5 ≠ (-1)) (v6 : Int) (e6 : v6 = S1.1 2 8) (b6 : -2147483648 ≤ v6 ∧ v6 ≤ 2147483647) (v7 : Int) (e7 : v7 = fx_sub v6 1) (v8 : Int) (S2 : fx_S) (k2 : fx_Sok S2) (b8 : -2147483648 ≤ v8 ∧ v8 ≤ 2147483647) (p2 : s114 S1 x2 0 v7 v8 S2) (c5 : v8 = 0) : s57 S x1 x2 (-2) S2 := by
  obtain ⟨rfl, p1⟩ := p1
  obtain ⟨rfl, p2⟩ := p2
  refine ⟨rfl, ?_⟩
  · intro p i hW
    clear c5 b8 e7 b6 e6 c4 b5 e5 c3 c2 c1 b4 e3 b2 e2
    exact rfl
theorem q58_0 (S : fx_S) (x1 x2 : Int) (hS : fx_Sok S) (g1 : -2147483648 ≤ x1 ∧ x1 ≤ 2147483647) (g2 : -2147483648 ≤ x2 ∧ x2 ≤ 2147483647) (v2 : Int) (e2 : v2 = S.1 67 4) (b2 : -2147483648 ≤ v2 ∧ v2 ≤ 2147483647) (v3 : Int) (e3 : v3 = fx_sub v2 1) (v4 : Int) (S1 : fx_S) (k1 : fx_Sok S1) (b4 : -2147483648 ≤ v4 ∧ v4 ≤ 2147483647) (p1 : s113 S x1 0 v3 v4 S1) (c1 : v4 = 0) : s58 S x1 x2 (-2) S1 := by
  obtain ⟨rfl, p1⟩ := p1
  refine ⟨rfl, ?_⟩
  · intro p i hW
    clear c1 b4 e3 b2 e2
    exact rfl
theorem q58_1 (S : fx_S) (x1 x2 : Int) (hS : fx_Sok S) (g1 : -2147483648 ≤ x1 ∧ x1 ≤ 2147483647) (g2 : -2147483648 ≤ x2 ∧ x2 ≤ 2147483647) (v2 : Int) (e2 : v2 = S.1 67 4) (b2 : -2147483648 ≤ v2 ∧ v2 ≤ 2147483647) (v3 : Int) (e3 : v3 = fx_sub v2 1) (v4 : Int) (S1 : fx_S) (k1 : fx_Sok S1) (b4 : -2147483648 ≤ v4 ∧ v4 ≤ 2147483647) (p1 : s113 S x1 0 v3 v4 S1) (c1 : v4 ≠ 0) (v5 : Int) (e5 : v5 = fx_mul 170 x1) (v6 : Int) (e6 : v6 = fx_add 3700 v5) (v7 : Int) (e7 : v7 = fx_add v6 1) (c2 : 0 ≤ v7) (c3 : v7 < 8090) (v8 : Int) (e8 : v8 = S1.1 67 v7) (b8 : -2147483648 ≤ v8 ∧ v8 ≤ 2147483647) (c4 : v8 ≠ 0) : s58 S x1 x2 (-2) S1 := by
  obtain ⟨rfl, p1⟩ := p1
  refine ⟨rfl, ?_⟩
  · intro p i hW
    clear c4 b8 e8 c3 c2 e7 e6 e5 c1 b4 e3 b2 e2
    exact rfl
