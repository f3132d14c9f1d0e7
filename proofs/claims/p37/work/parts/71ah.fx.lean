/-! FX: what is to be shown of the entries -/
theorem q58_2 (S : fx_S) (x1 x2 : Int) (hS : fx_Sok S) (g1 : -2147483648 ≤ x1 ∧ x1 ≤ 2147483647) (g2 : -2147483648 ≤ x2 ∧ x2 ≤ 2147483647) (v2 : Int) (e2 : v2 = S.1 67 4) (b2 : -2147483648 ≤ v2 ∧ v2 ≤ 2147483647) (v3 : Int) (e3 : v3 = fx_sub v2 1) (v4 : Int) (S1 : fx_S) (k1 : fx_Sok S1) (b4 : -2147483648 ≤ v4 ∧ v4 ≤ 2147483647) (p1 : s113 S x1 0 v3 v4 S1) (c1 : v4 ≠ 0) (v5 : Int) (e5 : v5 = fx_mul 170 x1) (v6 : Int) (e6 : v6 = fx_add 3700 v5) (v7 : Int) (e7 : v7 = fx_add v6 1) (c2 : 0 ≤ v7) (c3 : v7 < 8090) (v8 : Int) (e8 : v8 = S1.1 67 v7) (b8 : -2147483648 ≤ v8 ∧ v8 ≤ 2147483647) (c4 : v8 = 0) (v9 : Int) (e9 : v9 = S1.1 67 3) (b9 : -2147483648 ≤ v9 ∧ v9 ≤ 2147483647) (v10 : Int) (e10 : v10 = fx_sub v9 1) (v11 : Int) (S2 : fx_S) (k2 : fx_Sok S2) (b11 : -2147483648 ≤ v11 ∧ v11 ≤ 2147483647) (p2 : s113 S1 x2 0 v10 v11 S2) (c5 : v11 ≠ 0) (v12 : Int) (S3 : fx_S) (k3 : fx_Sok S3) (b12 : v12 = 0) (p3 : s165 S2 x1 x2 v12 S3) (v13 : Int) (S4 : fx_S) (k4 : fx_Sok S4) (b13 : -2147483648 ≤ v13 ∧ v13 ≤ 2147483647) (p4 : s172 S3 x1 x2 v13 S4) (c6 : v13 = 0) : s58 S x1 x2 0 S4 := by
  obtain ⟨rfl, p1⟩ := p1
  obtain ⟨rfl, p2⟩ := p2
  obtain ⟨r3, f3⟩ := p3
  obtain rfl : S3 = S4 := p4
  refine ⟨r3, ?_⟩
  · intro p i hW
    clear c6 b13 b12 c5 b11 e10 b9 e9 c4 b8 e8 c3 c2 e7 e6 e5 c1 b4 e3 b2 e2
    exact (f3 p i (by omega))
theorem q58_3 (S : fx_S) (x1 x2 : Int) (hS : fx_Sok S) (g1 : -2147483648 ≤ x1 ∧ x1 ≤ 2147483647) (g2 : -2147483648 ≤ x2 ∧ x2 ≤ 2147483647) (v2 : Int) (e2 : v2 = S.1 67 4) (b2 : -2147483648 ≤ v2 ∧ v2 ≤ 2147483647) (v3 : Int) (e3 : v3 = fx_sub v2 1) (v4 : Int) (S1 : fx_S) (k1 : fx_Sok S1) (b4 : -2147483648 ≤ v4 ∧ v4 ≤ 2147483647) (p1 : s113 S x1 0 v3 v4 S1) (c1 : v4 ≠ 0) (v5 : Int) (e5 : v5 = fx_mul 170 x1) (v6 : Int) (e6 : v6 = fx_add 3700 v5) (v7 : Int) (e7 : v7 = fx_add v6 1) (c2 : 0 ≤ v7) (c3 : v7 < 8090) (v8 : Int) (e8 : v8 = S1.1 67 v7) (b8 : -2147483648 ≤ v8 ∧ v8 ≤ 2147483647) (c4 : v8 = 0) (v9 : Int) (e9 : v9 = S1.1 67 3) (b9 : -2147483648 ≤ v9 ∧ v9 ≤ 2147483647) (v10 : Int) (e10 : v10 = fx_sub v9 1) (v11 : Int) (S2 : fx_S) (k2 : fx_Sok S2) (b11 : -2147483648 ≤ v11 ∧ v11 ≤ 2147483647) (p2 : s113 S1 x2 0 v10 v11 S2) (c5 : v11 ≠ 0) (v12 : Int) (S3 : fx_S) (k3 : fx_Sok S3) (b12 : v12 = 0) (p3 : s165 S2 x1 x2 v12 S3) (v13 : Int) (S4 : fx_S) (k4 : fx_Sok S4) (b13 : -2147483648 ≤ v13 ∧ v13 ≤ 2147483647) (p4 : s172 S3 x1 x2 v13 S4) (c6 : v13 ≠ 0) : s58 S x1 x2 1 S4 := by
  obtain ⟨rfl, p1⟩ := p1
  obtain ⟨rfl, p2⟩ := p2
  obtain ⟨r3, f3⟩ := p3
  obtain rfl : S3 = S4 := p4
  refine ⟨r3, ?_⟩
  · intro p i hW
    clear c6 b13 b12 c5 b11 e10 b9 e9 c4 b8 e8 c3 c2 e7 e6 e5 c1 b4 e3 b2 e2
    exact (f3 p i (by omega))
theorem q58_4 (S : fx_S) (x1 x2 : Int) (hS : fx_Sok S) (g1 : -2147483648 ≤ x1 ∧ x1 ≤ 2147483647) (g2 : -2147483648 ≤ x2 ∧ x2 ≤ 2147483647) (v2 : Int) (e2 : v2 = S.1 67 4) (b2 : -2147483648 ≤ v2 ∧ v2 ≤ 2147483647) (v3 : Int) (e3 : v3 = fx_sub v2 1) (v4 : Int) (S1 : fx_S) (k1 : fx_Sok S1) (b4 : -2147483648 ≤ v4 ∧ v4 ≤ 2147483647) (p1 : s113 S x1 0 v3 v4 S1) (c1 : v4 ≠ 0) (v5 : Int) (e5 : v5 = fx_mul 170 x1) (v6 : Int) (e6 : v6 = fx_add 3700 v5) (v7 : Int) (e7 : v7 = fx_add v6 1) (c2 : 0 ≤ v7) (c3 : v7 < 8090) (v8 : Int) (e8 : v8 = S1.1 67 v7) (b8 : -2147483648 ≤ v8 ∧ v8 ≤ 2147483647) (c4 : v8 = 0) (v9 : Int) (e9 : v9 = S1.1 67 3) (b9 : -2147483648 ≤ v9 ∧ v9 ≤ 2147483647) (v10 : Int) (e10 : v10 = fx_sub v9 1) (v11 : Int) (S2 : fx_S) (k2 : fx_Sok S2) (b11 : -2147483648 ≤ v11 ∧ v11 ≤ 2147483647) (p2 : s113 S1 x2 0 v10 v11 S2) (c5 : v11 = 0) : s58 S x1 x2 (-2) S2 := by
  obtain ⟨rfl, p1⟩ := p1
  obtain ⟨rfl, p2⟩ := p2
  refine ⟨rfl, ?_⟩
  · intro p i hW
    clear c5 b11 e10 b9 e9 c4 b8 e8 c3 c2 e7 e6 e5 c1 b4 e3 b2 e2
    exact rfl
theorem q59_0 (S : fx_S) (x1 : Int) (hS : fx_Sok S) (g1 : -2147483648 ≤ x1 ∧ x1 ≤ 2147483647) (v1 : Int) (e1 : v1 = S.1 29 0) (b1 : -2147483648 ≤ v1 ∧ v1 ≤ 2147483647) (v2 : Int) (e2 : v2 = fx_sub v1 1) (v3 : Int) (S1 : fx_S) (k1 : fx_Sok S1) (b3 : -2147483648 ≤ v3 ∧ v3 ≤ 2147483647) (p1 : s114 S x1 0 v2 v3 S1) (c1 : v3 = 0) : s59 S x1 (-2) S1 := by
  obtain ⟨rfl, p1⟩ := p1
  refine ⟨rfl, ?_⟩
  · intro p i hW
    clear c1 b3 e2 b1 e1
    exact rfl
theorem q59_1 (S : fx_S) (x1 : Int) (hS : fx_Sok S) (g1 : -2147483648 ≤ x1 ∧ x1 ≤ 2147483647) (v1 : Int) (e1 : v1 = S.1 29 0) (b1 : -2147483648 ≤ v1 ∧ v1 ≤ 2147483647) (v2 : Int) (e2 : v2 = fx_sub v1 1) (v3 : Int) (S1 : fx_S) (k1 : fx_Sok S1) (b3 : -2147483648 ≤ v3 ∧ v3 ≤ 2147483647) (p1 : s114 S x1 0 v2 v3 S1) (c1 : v3 ≠ 0) (c2 : 0 ≤ x1) (c3 : x1 < 20) (v4 : Int) (e4 : v4 = S1.1 31 x1) (b4 : -2147483648 ≤ v4 ∧ v4 ≤ 2147483647) (c4 : v4 = (-1)) : s59 S x1 (-2) S1 := by
  obtain ⟨rfl, p1⟩ := p1
  refine ⟨rfl, ?_⟩
  · intro p i hW
    clear c4 b4 e4 c3 c2 c1 b3 e2 b1 e1
    exact rfl
theorem q59_2 (S : fx_S) (x1 : Int) (hS : fx_Sok S) (g1 : -2147483648 ≤ x1 ∧ x1 ≤ 2147483647) (v1 : Int) (e1 : v1 = S.1 29 0) (b1 : -2147483648 ≤ v1 ∧ v1 ≤ 2147483647) (v2 : Int) (e2 : v2 = fx_sub v1 1) (v3 : Int) (S1 : fx_S) (k1 : fx_Sok S1) (b3 : -2147483648 ≤ v3 ∧ v3 ≤ 2147483647) (p1 : s114 S x1 0 v2 v3 S1) (c1 : v3 ≠ 0) (c2 : 0 ≤ x1) (c3 : x1 < 20) (v4 : Int) (e4 : v4 = S1.1 31 x1) (b4 : -2147483648 ≤ v4 ∧ v4 ≤ 2147483647) (c4 : v4 ≠ (-1)) (c5 : 0 ≤ x1) (c6 : x1 < 20) (v5 : Int) (e5 : v5 = S1.1 32 x1) (b5 : -2147483648 ≤ v5 ∧ v5 ≤ 2147483647) (v6 : Int) (S2 : fx_S) (k2 : fx_Sok S2) (b6 : -2147483648 ≤ v6 ∧ v6 ≤ 2147483647) (p2 : s170 S1 v5 v6 S2) (c7 : v6 = 0) (v7 : Int) (S3 : fx_S) (k3 : fx_Sok S3) (b7 : -2147483648 ≤ v7 ∧ v7 ≤ 2147483647) (p3 : s160 S2 v5 v7 S3) (v8 : Int) (S4 : fx_S) (k4 : fx_Sok S4) (b8 : -2147483648 ≤ v8 ∧ v8 ≤ 2147483647) (p4 : s173 S3 x1 v7 v8 S4) : s59 S x1 v8 S4 := by
  obtain ⟨rfl, p1⟩ := p1
  obtain rfl : S = S2 := p2
  obtain rfl : S = S3 := p3
  obtain rfl : S = S4 := p4
  refine ⟨rfl, ?_⟩
  · intro p i hW
    clear b8 b7 c7 b6 b5 e5 c6 c5 c4 b4 e4 c3 c2 c1 b3 e2 b1 e1
    exact rfl
theorem q59_3 (S : fx_S) (x1 : Int) (hS : fx_Sok S) (g1 : -2147483648 ≤ x1 ∧ x1 ≤ 2147483647) (v1 : Int) (e1 : v1 = S.1 29 0) (b1 : -2147483648 ≤ v1 ∧ v1 ≤ 2147483647) (v2 : Int) (e2 : v2 = fx_sub v1 1) (v3 : Int) (S1 : fx_S) (k1 : fx_Sok S1) (b3 : -2147483648 ≤ v3 ∧ v3 ≤ 2147483647) (p1 : s114 S x1 0 v2 v3 S1) (c1 : v3 ≠ 0) (c2 : 0 ≤ x1) (c3 : x1 < 20) (v4 : Int) (e4 : v4 = S1.1 31 x1) (b4 : -2147483648 ≤ v4 ∧ v4 ≤ 2147483647) (c4 : v4 ≠ (-1)) (c5 : 0 ≤ x1) (c6 : x1 < 20) (v5 : Int) (e5 : v5 = S1.1 32 x1) (b5 : -2147483648 ≤ v5 ∧ v5 ≤ 2147483647) (v6 : Int) (S2 : fx_S) (k2 : fx_Sok S2) (b6 : -2147483648 ≤ v6 ∧ v6 ≤ 2147483647) (p2 : s170 S1 v5 v6 S2) (c7 : v6 ≠ 0) (v7 : Int) (S3 : fx_S) (k3 : fx_Sok S3) (b7 : -2147483648 ≤ v7 ∧ v7 ≤ 2147483647) (p3 : s174 S2 x1 v7 S3) : s59 S x1 v7 S3 := by
  obtain ⟨rfl, p1⟩ := p1
  obtain rfl : S = S2 := p2
  obtain ⟨r3, f3⟩ := p3
  refine ⟨r3, ?_⟩
  · intro p i hW
    clear b7 c7 b6 b5 e5 c6 c5 c4 b4 e4 c3 c2 c1 b3 e2 b1 e1
    exact (f3 p i (by omega))
theorem q60_0 (S : fx_S) (x1 : Int) (hS : fx_Sok S) (g1 : -2147483648 ≤ x1 ∧ x1 ≤ 2147483647) (v1 : Int) (e1 : v1 = S.1 67 4) (b1 : -2147483648 ≤ v1 ∧ v1 ≤ 2147483647) (v2 : Int) (e2 : v2 = fx_sub v1 1) (v3 : Int) (S1 : fx_S) (k1 : fx_Sok S1) (b3 : -2147483648 ≤ v3 ∧ v3 ≤ 2147483647) (p1 : s113 S x1 0 v2 v3 S1) (c1 : v3 = 0) : s60 S x1 (-2) S1 := by
  obtain ⟨rfl, p1⟩ := p1
  refine ⟨rfl, ?_⟩
  · intro p i hW
    clear c1 b3 e2 b1 e1
    exact rfl
theorem q60_1 (S : fx_S) (x1 : Int) (hS : fx_Sok S) (g1 : -2147483648 ≤ x1 ∧ x1 ≤ 2147483647) (v1 : Int) (e1 : v1 = S.1 67 4) (b1 : -2147483648 ≤ v1 ∧ v1 ≤ 2147483647) (v2 : Int) (e2 : v2 = fx_sub v1 1) (v3 : Int) (S1 : fx_S) (k1 : fx_Sok S1) (b3 : -2147483648 ≤ v3 ∧ v3 ≤ 2147483647) (p1 : s113 S x1 0 v2 v3 S1) (c1 : v3 ≠ 0) (v4 : Int) (e4 : v4 = fx_mul 170 x1) (v5 : Int) (e5 : v5 = fx_add 3700 v4) (v6 : Int) (e6 : v6 = fx_add v5 1) (c2 : 0 ≤ v6) (c3 : v6 < 8090) (v7 : Int) (e7 : v7 = S1.1 67 v6) (b7 : -2147483648 ≤ v7 ∧ v7 ≤ 2147483647) (c4 : v7 ≠ 0) : s60 S x1 (-2) S1 := by
  obtain ⟨rfl, p1⟩ := p1
  refine ⟨rfl, ?_⟩
  · intro p i hW
    clear c4 b7 e7 c3 c2 e6 e5 e4 c1 b3 e2 b1 e1
    exact rfl
theorem q60_2 (S : fx_S) (x1 : Int) (hS : fx_Sok S) (g1 : -2147483648 ≤ x1 ∧ x1 ≤ 2147483647) (v1 : Int) (e1 : v1 = S.1 67 4) (b1 : -2147483648 ≤ v1 ∧ v1 ≤ 2147483647) (v2 : Int) (e2 : v2 = fx_sub v1 1) (v3 : Int) (S1 : fx_S) (k1 : fx_Sok S1) (b3 : -2147483648 ≤ v3 ∧ v3 ≤ 2147483647) (p1 : s113 S x1 0 v2 v3 S1) (c1 : v3 ≠ 0) (v4 : Int) (e4 : v4 = fx_mul 170 x1) (v5 : Int) (e5 : v5 = fx_add 3700 v4) (v6 : Int) (e6 : v6 = fx_add v5 1) (c2 : 0 ≤ v6) (c3 : v6 < 8090) (v7 : Int) (e7 : v7 = S1.1 67 v6) (b7 : -2147483648 ≤ v7 ∧ v7 ≤ 2147483647) (c4 : v7 = 0) (v8 : Int) (e8 : v8 = fx_mul 170 x1) (v9 : Int) (e9 : v9 = fx_add 3700 v8) (v10 : Int) (e10 : v10 = fx_add v9 4) (c5 : 0 ≤ v10) (c6 : v10 < 8090) (v11 : Int) (e11 : v11 = S1.1 67 v10) (b11 : -2147483648 ≤ v11 ∧ v11 ≤ 2147483647) (v12 : Int) (e12 : v12 = fx_mul 170 x1) (v13 : Int) (e13 : v13 = fx_add 3700 v12) (v14 : Int) (e14 : v14 = fx_add v13 3) (c7 : 0 ≤ v14) (c8 : v14 < 8090) (v15 : Int) (e15 : v15 = S1.1 67 v14) (b15 : -2147483648 ≤ v15 ∧ v15 ≤ 2147483647) (c9 : v15 ≠ 1) (v16 : Int) (S2 : fx_S) (k2 : fx_Sok S2) (b16 : v16 = 0) (p2 : s165 S1 x1 (-1) v16 S2) (v17 : Int) (S3 : fx_S) (k3 : fx_Sok S3) (b17 : -2147483648 ≤ v17 ∧ v17 ≤ 2147483647) (p3 : s175 S2 v11 2 0 0 v17 S3) (c10 : v17 ≠ 1) (v18 : Int) (S4 : fx_S) (k4 : fx_Sok S4) (b18 : -2147483648 ≤ v18 ∧ v18 ≤ 2147483647) (p4 : s166 S3 x1 1 v18 S4) (v19 : Int) (S5 : fx_S) (k5 : fx_Sok S5) (b19 : -2147483648 ≤ v19 ∧ v19 ≤ 2147483647) (p5 : s166 S4 x1 2 v19 S5) (z : Int) (Z : fx_S) (kz : fx_Sok Z) (bz : -2147483648 ≤ z ∧ z ≤ 2147483647) (pz : s176 S5 v11 0 v18 v19 1 z Z) : s60 S x1 z Z := by
  obtain ⟨rfl, p1⟩ := p1
  obtain ⟨r2, f2⟩ := p2
  obtain rfl : S2 = S3 := p3
  obtain rfl : S2 = S4 := p4
  obtain rfl : S2 = S5 := p5
  obtain rfl : S2 = Z := pz
  refine ⟨r2, ?_⟩
  · intro p i hW
    clear b19 b18 c10 b17 b16 c9 b15 e15 c8 c7 e14 e13 e12 b11 e11 c6 c5 e10 e9 e8 c4 b7 e7 c3 c2 e6 e5 e4 c1 b3 e2 b1 e1
    exact (f2 p i (by omega))
theorem q60_3 (S : fx_S) (x1 : Int) (hS : fx_Sok S) (g1 : -2147483648 ≤ x1 ∧ x1 ≤ 2147483647) (v1 : Int) (e1 : v1 = S.1 67 4) (b1 : -2147483648 ≤ v1 ∧ v1 ≤ 2147483647) (v2 : Int) (e2 : v2 = fx_sub v1 1) (v3 : Int) (S1 : fx_S) (k1 : fx_Sok S1) (b3 : -2147483648 ≤ v3 ∧ v3 ≤ 2147483647) (p1 : s113 S x1 0 v2 v3 S1) (c1 : v3 ≠ 0) (v4 : Int) (e4 : v4 = fx_mul 170 x1) (v5 : Int) (e5 : v5 = fx_add 3700 v4) (v6 : Int) (e6 : v6 = fx_add v5 1) (c2 : 0 ≤ v6) (c3 : v6 < 8090) (v7 : Int) (e7 : v7 = S1.1 67 v6) (b7 : -2147483648 ≤ v7 ∧ v7 ≤ 2147483647) (c4 : v7 = 0) (v8 : Int) (e8 : v8 = fx_mul 170 x1) (v9 : Int) (e9 : v9 = fx_add 3700 v8) (v10 : Int) (e10 : v10 = fx_add v9 4) (c5 : 0 ≤ v10) (c6 : v10 < 8090) (v11 : Int) (e11 : v11 = S1.1 67 v10) (b11 : -2147483648 ≤ v11 ∧ v11 ≤ 2147483647) (v12 : Int) (e12 : v12 = fx_mul 170 x1) (v13 : Int) (e13 : v13 = fx_add 3700 v12) (v14 : Int) (e14 : v14 = fx_add v13 3) (c7 : 0 ≤ v14) (c8 : v14 < 8090) (v15 : Int) (e15 : v15 = S1.1 67 v14) (b15 : -2147483648 ≤ v15 ∧ v15 ≤ 2147483647) (c9 : v15 ≠ 1) (v16 : Int) (S2 : fx_S) (k2 : fx_Sok S2) (b16 : v16 = 0) (p2 : s165 S1 x1 (-1) v16 S2) (v17 : Int) (S3 : fx_S) (k3 : fx_Sok S3) (b17 : -2147483648 ≤ v17 ∧ v17 ≤ 2147483647) (p3 : s175 S2 v11 2 0 0 v17 S3) (c10 : v17 = 1) (v18 : Int) (S4 : fx_S) (k4 : fx_Sok S4) (b18 : -2147483648 ≤ v18 ∧ v18 ≤ 2147483647) (p4 : s177 S3 0 v18 S4) : s60 S x1 v18 S4 := by
  obtain ⟨rfl, p1⟩ := p1
  obtain ⟨r2, f2⟩ := p2
  obtain rfl : S2 = S3 := p3
  obtain ⟨r4, f4⟩ := p4
  refine ⟨(r4).trans (r2), ?_⟩
  · intro p i hW
    clear b18 c10 b17 b16 c9 b15 e15 c8 c7 e14 e13 e12 b11 e11 c6 c5 e10 e9 e8 c4 b7 e7 c3 c2 e6 e5 e4 c1 b3 e2 b1 e1
    exact ((f4 p i (by omega))).trans ((f2 p i (by omega)))
theorem q60_4 (S : fx_S) (x1 : Int) (hS : fx_Sok S) (g1 : -2147483648 ≤ x1 ∧ x1 ≤ 2147483647) (v1 : Int) (e1 : v1 = S.1 67 4) (b1 : -2147483648 ≤ v1 ∧ v1 ≤ 2147483647) (v2 : Int) (e2 : v2 = fx_sub v1 1) (v3 : Int) (S1 : fx_S) (k1 : fx_Sok S1) (b3 : -2147483648 ≤ v3 ∧ v3 ≤ 2147483647) (p1 : s113 S x1 0 v2 v3 S1) (c1 : v3 ≠ 0) (v4 : Int) (e4 : v4 = fx_mul 170 x1) (v5 : Int) (e5 : v5 = fx_add 3700 v4) (v6 : Int) (e6 : v6 = fx_add v5 1) (c2 : 0 ≤ v6) (c3 : v6 < 8090) (v7 : Int) (e7 : v7 = S1.1 67 v6) (b7 : -2147483648 ≤ v7 ∧ v7 ≤ 2147483647) (c4 : v7 = 0) (v8 : Int) (e8 : v8 = fx_mul 170 x1) (v9 : Int) (e9 : v9 = fx_add 3700 v8) (v10 : Int) (e10 : v10 = fx_add v9 4) (c5 : 0 ≤ v10) (c6 : v10 < 8090) (v11 : Int) (e11 : v11 = S1.1 67 v10) (b11 : -2147483648 ≤ v11 ∧ v11 ≤ 2147483647) (v12 : Int) (e12 : v12 = fx_mul 170 x1) (v13 : Int) (e13 : v13 = fx_add 3700 v12) (v14 : Int) (e14 : v14 = fx_add v13 3) (c7 : 0 ≤ v14) (c8 : v14 < 8090) (v15 : Int) (e15 : v15 = S1.1 67 v14) (b15 : -2147483648 ≤ v15 ∧ v15 ≤ 2147483647) (c9 : v15 = 1) (v16 : Int) (S2 : fx_S) (k2 : fx_Sok S2) (b16 : v16 = 0) (p2 : s165 S1 x1 (-1) v16 S2) (v17 : Int) (S3 : fx_S) (k3 : fx_Sok S3) (b17 : -2147483648 ≤ v17 ∧ v17 ≤ 2147483647) (p3 : s175 S2 v11 2 0 0 v17 S3) (c10 : v17 ≠ 1) (v18 : Int) (S4 : fx_S) (k4 : fx_Sok S4) (b18 : -2147483648 ≤ v18 ∧ v18 ≤ 2147483647) (p4 : s166 S3 x1 1 v18 S4) (v19 : Int) (S5 : fx_S) (k5 : fx_Sok S5) (b19 : -2147483648 ≤ v19 ∧ v19 ≤ 2147483647) (p5 : s166 S4 x1 2 v19 S5) (z : Int) (Z : fx_S) (kz : fx_Sok Z) (bz : -2147483648 ≤ z ∧ z ≤ 2147483647) (pz : s176 S5 v11 1 v18 v19 1 z Z) : s60 S x1 z Z := by
  obtain ⟨rfl, p1⟩ := p1
  obtain ⟨r2, f2⟩ := p2
  obtain rfl : S2 = S3 := p3
  obtain rfl : S2 = S4 := p4
  obtain rfl : S2 = S5 := p5
  obtain rfl : S2 = Z := pz
  refine ⟨r2, ?_⟩
  · intro p i hW
    clear b19 b18 c10 b17 b16 c9 b15 e15 c8 c7 e14 e13 e12 b11 e11 c6 c5 e10 e9 e8 c4 b7 e7 c3 c2 e6 e5 e4 c1 b3 e2 b1 e1
    exact (f2 p i (by omega))
theorem q60_5 (S : fx_S) (x1 : Int) (hS : fx_Sok S) (g1 : -2147483648 ≤ x1 ∧ x1 ≤ 2147483647) (v1 : Int) (e1 : v1 = S.1 67 4) (b1 : -2147483648 ≤ v1 ∧ v1 ≤ 2147483647) (v2 : Int) (e2 : v2 = fx_sub v1 1) (v3 : Int) (S1 : fx_S) (k1 : fx_Sok S1) (b3 : -2147483648 ≤ v3 ∧ v3 ≤ 2147483647) (p1 : s113 S x1 0 v2 v3 S1) (c1 : v3 ≠ 0) (v4 : Int) (e4 : v4 = fx_mul 170 x1) (v5 : Int) (e5 : v5 = fx_add 3700 v4) (v6 : Int) (e6 : v6 = fx_add v5 1) (c2 : 0 ≤ v6) (c3 : v6 < 8090) (v7 : Int) (e7 : v7 = S1.1 67 v6) (b7 : -2147483648 ≤ v7 ∧ v7 ≤ 2147483647) (c4 : v7 = 0) (v8 : Int) (e8 : v8 = fx_mul 170 x1) (v9 : Int) (e9 : v9 = fx_add 3700 v8) (v10 : Int) (e10 : v10 = fx_add v9 4) (c5 : 0 ≤ v10) (c6 : v10 < 8090) (v11 : Int) (e11 : v11 = S1.1 67 v10) (b11 : -2147483648 ≤ v11 ∧ v11 ≤ 2147483647) (v12 : Int) (e12 : v12 = fx_mul 170 x1) (v13 : Int) (e13 : v13 = fx_add 3700 v12) (v14 : Int) (e14 : v14 = fx_add v13 3) (c7 : 0 ≤ v14) (c8 : v14 < 8090) (v15 : Int) (e15 : v15 = S1.1 67 v14) (b15 : -2147483648 ≤ v15 ∧ v15 ≤ 2147483647) (c9 : v15 = 1) (v16 : Int) (S2 : fx_S) (k2 : fx_Sok S2) (b16 : v16 = 0) (p2 : s165 S1 x1 (-1) v16 S2) (v17 : Int) (S3 : fx_S) (k3 : fx_Sok S3) (b17 : -2147483648 ≤ v17 ∧ v17 ≤ 2147483647) (p3 : s175 S2 v11 2 0 0 v17 S3) (c10 : v17 = 1) (v18 : Int) (S4 : fx_S) (k4 : fx_Sok S4) (b18 : -2147483648 ≤ v18 ∧ v18 ≤ 2147483647) (p4 : s177 S3 1 v18 S4) : s60 S x1 v18 S4 := by
  obtain ⟨rfl, p1⟩ := p1
  obtain ⟨r2, f2⟩ := p2
  obtain rfl : S2 = S3 := p3
  obtain ⟨r4, f4⟩ := p4
  refine ⟨(r4).trans (r2), ?_⟩
  · intro p i hW
    clear b18 c10 b17 b16 c9 b15 e15 c8 c7 e14 e13 e12 b11 e11 c6 c5 e10 e9 e8 c4 b7 e7 c3 c2 e6 e5 e4 c1 b3 e2 b1 e1
    exact ((f4 p i (by omega))).trans ((f2 p i (by omega)))
theorem q61_0 (S : fx_S) (x1 : Int) (hS : fx_Sok S) (g1 : -2147483648 ≤ x1 ∧ x1 ≤ 2147483647) (v1 : Int) (e1 : v1 = S.1 29 0) (b1 : -2147483648 ≤ v1 ∧ v1 ≤ 2147483647) (v2 : Int) (e2 : v2 = fx_sub v1 1) (v3 : Int) (S1 : fx_S) (k1 : fx_Sok S1) (b3 : -2147483648 ≤ v3 ∧ v3 ≤ 2147483647) (p1 : s114 S x1 0 v2 v3 S1) (c1 : v3 = 0) : s61 S x1 (-2) S1 := by
  obtain ⟨rfl, p1⟩ := p1
  refine ⟨rfl, ?_⟩
  · intro p i hW
    clear c1 b3 e2 b1 e1
    exact rfl
theorem q61_1 (S : fx_S) (x1 : Int) (hS : fx_Sok S) (g1 : -2147483648 ≤ x1 ∧ x1 ≤ 2147483647) (v1 : Int) (e1 : v1 = S.1 29 0) (b1 : -2147483648 ≤ v1 ∧ v1 ≤ 2147483647) (v2 : Int) (e2 : v2 = fx_sub v1 1) (v3 : Int) (S1 : fx_S) (k1 : fx_Sok S1) (b3 : -2147483648 ≤ v3 ∧ v3 ≤ 2147483647) (p1 : s114 S x1 0 v2 v3 S1) (c1 : v3 ≠ 0) (c2 : 0 ≤ x1) (c3 : x1 < 20) (v4 : Int) (e4 : v4 = S1.1 31 x1) (b4 : -2147483648 ≤ v4 ∧ v4 ≤ 2147483647) (c4 : v4 = (-1)) : s61 S x1 (-2) S1 := by
  obtain ⟨rfl, p1⟩ := p1
  refine ⟨rfl, ?_⟩
  · intro p i hW
    clear c4 b4 e4 c3 c2 c1 b3 e2 b1 e1
    exact rfl
theorem q61_2 (S : fx_S) (x1 : Int) (hS : fx_Sok S) (g1 : -2147483648 ≤ x1 ∧ x1 ≤ 2147483647) (v1 : Int) (e1 : v1 = S.1 29 0) (b1 : -2147483648 ≤ v1 ∧ v1 ≤ 2147483647) (v2 : Int) (e2 : v2 = fx_sub v1 1) (v3 : Int) (S1 : fx_S) (k1 : fx_Sok S1) (b3 : -2147483648 ≤ v3 ∧ v3 ≤ 2147483647) (p1 : s114 S x1 0 v2 v3 S1) (c1 : v3 ≠ 0) (c2 : 0 ≤ x1) (c3 : x1 < 20) (v4 : Int) (e4 : v4 = S1.1 31 x1) (b4 : -2147483648 ≤ v4 ∧ v4 ≤ 2147483647) (c4 : v4 ≠ (-1)) (c5 : x1 < 0) (v5 : Int) (e5 : v5 = S1.1 1 0) (b5 : -2147483648 ≤ v5 ∧ v5 ≤ 2147483647) (c6 : 0 ≤ x1) (c7 : x1 < 20) (S2 : fx_S) (d2 : S2 = (fx_up S1.1 33 x1 v5, S1.2)) (z : Int) (Z : fx_S) (kz : fx_Sok Z) (bz : -2147483648 ≤ z ∧ z ≤ 2147483647) (pz : s178 S2 1 0 z Z) : s61 S x1 z Z := by
  obtain ⟨rfl, p1⟩ := p1
  obtain ⟨rZ, fZ⟩ := pz
  refine ⟨(rZ).trans ((show S2.2 = S.2 by rw [d2])), ?_⟩
  · intro p i hW
    clear c7 c6 b5 e5 c5 c4 b4 e4 c3 c2 c1 b3 e2 b1 e1
    exact ((fZ p i (by omega))).trans ((show S2.1 p i = S.1 p i by rw [d2]; exact if_neg (by omega)))
theorem q61_3 (S : fx_S) (x1 : Int) (hS : fx_Sok S) (g1 : -2147483648 ≤ x1 ∧ x1 ≤ 2147483647) (v1 : Int) (e1 : v1 = S.1 29 0) (b1 : -2147483648 ≤ v1 ∧ v1 ≤ 2147483647) (v2 : Int) (e2 : v2 = fx_sub v1 1) (v3 : Int) (S1 : fx_S) (k1 : fx_Sok S1) (b3 : -2147483648 ≤ v3 ∧ v3 ≤ 2147483647) (p1 : s114 S x1 0 v2 v3 S1) (c1 : v3 ≠ 0) (c2 : 0 ≤ x1) (c3 : x1 < 20) (v4 : Int) (e4 : v4 = S1.1 31 x1) (b4 : -2147483648 ≤ v4 ∧ v4 ≤ 2147483647) (c4 : v4 ≠ (-1)) (c5 : 0 ≤ x1) (v5 : Int) (e5 : v5 = S1.1 29 0) (b5 : -2147483648 ≤ v5 ∧ v5 ≤ 2147483647) (c6 : v5 ≤ x1) (v6 : Int) (e6 : v6 = S1.1 1 0) (b6 : -2147483648 ≤ v6 ∧ v6 ≤ 2147483647) (c7 : 0 ≤ x1) (c8 : x1 < 20) (S2 : fx_S) (d2 : S2 = (fx_up S1.1 33 x1 v6, S1.2)) (z : Int) (Z : fx_S) (kz : fx_Sok Z) (bz : -2147483648 ≤ z ∧ z ≤ 2147483647) (pz : s178 S2 1 0 z Z) : s61 S x1 z Z := by
  obtain ⟨rfl, p1⟩ := p1
  obtain ⟨rZ, fZ⟩ := pz
  refine ⟨(rZ).trans ((show S2.2 = S.2 by rw [d2])), ?_⟩
  · intro p i hW
    clear c8 c7 b6 e6 c6 b5 e5 c5 c4 b4 e4 c3 c2 c1 b3 e2 b1 e1
    exact ((fZ p i (by omega))).trans ((show S2.1 p i = S.1 p i by rw [d2]; exact if_neg (by omega)))
theorem q61_4 (S : fx_S) (x1 : Int) (hS : fx_Sok S) (g1 : -2147483648 ≤ x1 ∧ x1 ≤ 2147483647) (v1 : Int) (e1 : v1 = S.1 29 0) (b1 : -2147483648 ≤ v1 ∧ v1 ≤ 2147483647) (v2 : Int) (e2 : v2 = fx_sub v1 1) (v3 : Int) (S1 : fx_S) (k1 : fx_Sok S1) (b3 : -2147483648 ≤ v3 ∧ v3 ≤ 2147483647) (p1 : s114 S x1 0 v2 v3 S1) (c1 : v3 ≠ 0) (c2 : 0 ≤ x1) (c3 : x1 < 20) (v4 : Int) (e4 : v4 = S1.1 31 x1) (b4 : -2147483648 ≤ v4 ∧ v4 ≤ 2147483647) (c4 : v4 ≠ (-1)) (c5 : 0 ≤ x1) (v5 : Int) (e5 : v5 = S1.1 29 0) (b5 : -2147483648 ≤ v5 ∧ v5 ≤ 2147483647) (c6 : x1 < v5) (c7 : 0 ≤ x1) (c8 : x1 < 20) (v6 : Int) (e6 : v6 = S1.1 33 x1) (b6 : -2147483648 ≤ v6 ∧ v6 ≤ 2147483647) (c9 : v6 = 3600) (v7 : Int) (e7 : v7 = S1.1 1 0) (b7 : -2147483648 ≤ v7 ∧ v7 ≤ 2147483647) (c10 : 0 ≤ x1) (c11 : x1 < 20) (S2 : fx_S) (d2 : S2 = (fx_up S1.1 33 x1 v7, S1.2)) (z : Int) (Z : fx_S) (kz : fx_Sok Z) (bz : -2147483648 ≤ z ∧ z ≤ 2147483647) (pz : s178 S2 1 0 z Z) : s61 S x1 z Z := by
  obtain ⟨rfl, p1⟩ := p1
  obtain ⟨rZ, fZ⟩ := pz
  refine ⟨(rZ).trans ((show S2.2 = S.2 by rw [d2])), ?_⟩
  · intro p i hW
    clear c11 c10 b7 e7 c9 b6 e6 c8 c7 c6 b5 e5 c5 c4 b4 e4 c3 c2 c1 b3 e2 b1 e1
    exact ((fZ p i (by omega))).trans ((show S2.1 p i = S.1 p i by rw [d2]; exact if_neg (by omega)))
theorem q61_5 (S : fx_S) (x1 : Int) (hS : fx_Sok S) (g1 : -2147483648 ≤ x1 ∧ x1 ≤ 2147483647) (v1 : Int) (e1 : v1 = S.1 29 0) (b1 : -2147483648 ≤ v1 ∧ v1 ≤ 2147483647) (v2 : Int) (e2 : v2 = fx_sub v1 1) (v3 : Int) (S1 : fx_S) (k1 : fx_Sok S1) (b3 : -2147483648 ≤ v3 ∧ v3 ≤ 2147483647) (p1 : s114 S x1 0 v2 v3 S1) (c1 : v3 ≠ 0) (c2 : 0 ≤ x1) (c3 : x1 < 20) (v4 : Int) (e4 : v4 = S1.1 31 x1) (b4 : -2147483648 ≤ v4 ∧ v4 ≤ 2147483647) (c4 : v4 ≠ (-1)) (c5 : 0 ≤ x1) (v5 : Int) (e5 : v5 = S1.1 29 0) (b5 : -2147483648 ≤ v5 ∧ v5 ≤ 2147483647) (c6 : x1 < v5) (c7 : 0 ≤ x1) (c8 : x1 < 20) (v6 : Int) (e6 : v6 = S1.1 33 x1) (b6 : -2147483648 ≤ v6 ∧ v6 ≤ 2147483647) (c9 : v6 ≠ 3600) : s61 S x1 (-5) S1 := by
  obtain ⟨rfl, p1⟩ := p1
  refine ⟨rfl, ?_⟩
  · intro p i hW
    clear c9 b6 e6 c8 c7 c6 b5 e5 c5 c4 b4 e4 c3 c2 c1 b3 e2 b1 e1
    exact rfl
theorem q62_0 (S : fx_S) (x1 : Int) (hS : fx_Sok S) (g1 : -2147483648 ≤ x1 ∧ x1 ≤ 2147483647) (v1 : Int) (e1 : v1 = S.1 67 4) (b1 : -2147483648 ≤ v1 ∧ v1 ≤ 2147483647) (v2 : Int) (e2 : v2 = fx_sub v1 1) (v3 : Int) (S1 : fx_S) (k1 : fx_Sok S1) (b3 : -2147483648 ≤ v3 ∧ v3 ≤ 2147483647) (p1 : s113 S x1 0 v2 v3 S1) (c1 : v3 = 0) : s62 S x1 (-2) S1 := by
  obtain ⟨rfl, p1⟩ := p1
  unfold s62
  intro hB
  have BS := hB
  have NS := fx_WB_n BS
  have h2 := e2
  first | rw [fx_sub_eq (by omega) (by omega)] at h2 | skip
  have m1 := fx_in01 p1
  refine ⟨rfl, ?_, BS⟩
  · intro p i hW
    exact rfl
theorem q62_1 (S : fx_S) (x1 : Int) (hS : fx_Sok S) (g1 : -2147483648 ≤ x1 ∧ x1 ≤ 2147483647) (v1 : Int) (e1 : v1 = S.1 67 4) (b1 : -2147483648 ≤ v1 ∧ v1 ≤ 2147483647) (v2 : Int) (e2 : v2 = fx_sub v1 1) (v3 : Int) (S1 : fx_S) (k1 : fx_Sok S1) (b3 : -2147483648 ≤ v3 ∧ v3 ≤ 2147483647) (p1 : s113 S x1 0 v2 v3 S1) (c1 : v3 ≠ 0) (v4 : Int) (e4 : v4 = fx_mul 170 x1) (v5 : Int) (e5 : v5 = fx_add 3700 v4) (v6 : Int) (e6 : v6 = fx_add v5 1) (c2 : 0 ≤ v6) (c3 : v6 < 8090) (v7 : Int) (e7 : v7 = S1.1 67 v6) (b7 : -2147483648 ≤ v7 ∧ v7 ≤ 2147483647) (c4 : v7 ≠ 0) : s62 S x1 (-2) S1 := by
  obtain ⟨rfl, p1⟩ := p1
  unfold s62
  intro hB
  have BS := hB
  have NS := fx_WB_n BS
  have h2 := e2
  first | rw [fx_sub_eq (by omega) (by omega)] at h2 | skip
  have m1 := fx_in01 p1
  have h4 := e4
  first | rw [fx_mul_eq (by omega) (by omega)] at h4 | skip
  have h5 := e5
  first | rw [fx_add_eq (by omega) (by omega)] at h5 | skip
  have h6 := e6
  first | rw [fx_add_eq (by omega) (by omega)] at h6 | skip
  refine ⟨rfl, ?_, BS⟩
  · intro p i hW
    exact rfl
theorem q62_2 (S : fx_S) (x1 : Int) (hS : fx_Sok S) (g1 : -2147483648 ≤ x1 ∧ x1 ≤ 2147483647) (v1 : Int) (e1 : v1 = S.1 67 4) (b1 : -2147483648 ≤ v1 ∧ v1 ≤ 2147483647) (v2 : Int) (e2 : v2 = fx_sub v1 1) (v3 : Int) (S1 : fx_S) (k1 : fx_Sok S1) (b3 : -2147483648 ≤ v3 ∧ v3 ≤ 2147483647) (p1 : s113 S x1 0 v2 v3 S1) (c1 : v3 ≠ 0) (v4 : Int) (e4 : v4 = fx_mul 170 x1) (v5 : Int) (e5 : v5 = fx_add 3700 v4) (v6 : Int) (e6 : v6 = fx_add v5 1) (c2 : 0 ≤ v6) (c3 : v6 < 8090) (v7 : Int) (e7 : v7 = S1.1 67 v6) (b7 : -2147483648 ≤ v7 ∧ v7 ≤ 2147483647) (c4 : v7 = 0) (v8 : Int) (e8 : v8 = fx_mul 170 x1) (v9 : Int) (e9 : v9 = fx_add 3700 v8) (v10 : Int) (e10 : v10 = fx_add v9 5) (c5 : 0 ≤ v10) (c6 : v10 < 8090) (v11 : Int) (e11 : v11 = S1.1 67 v10) (b11 : -2147483648 ≤ v11 ∧ v11 ≤ 2147483647) (c7 : v11 = (-1)) (v12 : Int) (e12 : v12 = fx_mul 170 x1) (v13 : Int) (e13 : v13 = fx_add 3700 v12) (v14 : Int) (e14 : v14 = fx_add v13 5) (v15 : Int) (e15 : v15 = S1.1 67 0) (b15 : -2147483648 ≤ v15 ∧ v15 ≤ 2147483647) (c8 : 0 ≤ v14) (c9 : v14 < 8090) (S2 : fx_S) (d2 : S2 = (fx_up S1.1 67 v14 v15, S1.2)) (v16 : Int) (S3 : fx_S) (k3 : fx_Sok S3) (b16 : -2147483648 ≤ v16 ∧ v16 ≤ 2147483647) (p3 : s179 S2  v16 S3) (v17 : Int) (e17 : v17 = fx_add 1 v16) : s62 S x1 v17 S3 := by
  obtain ⟨rfl, p1⟩ := p1
  unfold s179 at p3
  unfold s62
  intro hB
  have BS := hB
  have NS := fx_WB_n BS
  have h2 := e2
  first | rw [fx_sub_eq (by omega) (by omega)] at h2 | skip
  have m1 := fx_in01 p1
  have h4 := e4
  first | rw [fx_mul_eq (by omega) (by omega)] at h4 | skip
  have h5 := e5
  first | rw [fx_add_eq (by omega) (by omega)] at h5 | skip
  have h6 := e6
  first | rw [fx_add_eq (by omega) (by omega)] at h6 | skip
  obtain rfl : v4 = v8 := by rw [e8, e4]
  obtain rfl : v5 = v9 := by rw [e9, e5]
  have h10 := e10
  first | rw [fx_add_eq (by omega) (by omega)] at h10 | skip
  obtain rfl : v4 = v12 := by rw [e12, e4]
  obtain rfl : v5 = v13 := by rw [e13, e5]
  obtain rfl : v10 = v14 := by rw [e14, e10]
  have BS2 : fx_WB S2 := by rw [d2]; exact fx_WB_up BS (by omega) (by omega) (by omega) (by omega) (by omega) (by omega) (by omega) (by omega) (by omega) (by omega) (by omega) (fun h => absurd h (by omega))
  obtain ⟨r3, f3, BS3⟩ := p3 BS2
  have NS3 := fx_WB_n BS3
  have h17 := e17
  first | rw [fx_add_eq (by omega) (by omega)] at h17 | skip
  refine ⟨(r3).trans ((show S2.2 = S.2 by rw [d2])), ?_, BS3⟩
  · intro p i hW
    exact ((f3 p i (by omega))).trans ((show S2.1 p i = S.1 p i by rw [d2]; exact if_neg (by omega)))
theorem q62_3 (S : fx_S) (x1 : Int) (hS : fx_Sok S) (g1 : -2147483648 ≤ x1 ∧ x1 ≤ 2147483647) (v1 : Int) (e1 : v1 = S.1 67 4) (b1 : -2147483648 ≤ v1 ∧ v1 ≤ 2147483647) (v2 : Int) (e2 : v2 = fx_sub v1 1) (v3 : Int) (S1 : fx_S) (k1 : fx_Sok S1) (b3 : -2147483648 ≤ v3 ∧ v3 ≤ 2147483647) (p1 : s113 S x1 0 v2 v3 S1) (c1 : v3 ≠ 0) (v4 : Int) (e4 : v4 = fx_mul 170 x1) (v5 : Int) (e5 : v5 = fx_add 3700 v4) (v6 : Int) (e6 : v6 = fx_add v5 1) (c2 : 0 ≤ v6) (c3 : v6 < 8090) (v7 : Int) (e7 : v7 = S1.1 67 v6) (b7 : -2147483648 ≤ v7 ∧ v7 ≤ 2147483647) (c4 : v7 = 0) (v8 : Int) (e8 : v8 = fx_mul 170 x1) (v9 : Int) (e9 : v9 = fx_add 3700 v8) (v10 : Int) (e10 : v10 = fx_add v9 5) (c5 : 0 ≤ v10) (c6 : v10 < 8090) (v11 : Int) (e11 : v11 = S1.1 67 v10) (b11 : -2147483648 ≤ v11 ∧ v11 ≤ 2147483647) (c7 : v11 ≠ (-1)) : s62 S x1 (-5) S1 := by
  obtain ⟨rfl, p1⟩ := p1
  unfold s62
  intro hB
  have BS := hB
  have NS := fx_WB_n BS
  have h2 := e2
  first | rw [fx_sub_eq (by omega) (by omega)] at h2 | skip
  have m1 := fx_in01 p1
  have h4 := e4
  first | rw [fx_mul_eq (by omega) (by omega)] at h4 | skip
  have h5 := e5
  first | rw [fx_add_eq (by omega) (by omega)] at h5 | skip
  have h6 := e6
  first | rw [fx_add_eq (by omega) (by omega)] at h6 | skip
  obtain rfl : v4 = v8 := by rw [e8, e4]
  obtain rfl : v5 = v9 := by rw [e9, e5]
  have h10 := e10
  first | rw [fx_add_eq (by omega) (by omega)] at h10 | skip
  refine ⟨rfl, ?_, BS⟩
  · intro p i hW
    exact rfl
theorem q63_0 (S : fx_S) (x1 x2 : Int) (hS : fx_Sok S) (g1 : -2147483648 ≤ x1 ∧ x1 ≤ 2147483647) (g2 : -2147483648 ≤ x2 ∧ x2 ≤ 2147483647) (v2 : Int) (S1 : fx_S) (k1 : fx_Sok S1) (b2 : -2147483648 ≤ v2 ∧ v2 ≤ 2147483647) (p1 : s114 S x1 0 3599 v2 S1) (c1 : v2 = 0) : s63 S x1 x2 (-2) S1 := by
  obtain ⟨rfl, p1⟩ := p1
  refine ⟨rfl, ?_⟩
  · intro p i hW
    clear c1 b2
    exact rfl
theorem q63_1 (S : fx_S) (x1 x2 : Int) (hS : fx_Sok S) (g1 : -2147483648 ≤ x1 ∧ x1 ≤ 2147483647) (g2 : -2147483648 ≤ x2 ∧ x2 ≤ 2147483647) (v2 : Int) (S1 : fx_S) (k1 : fx_Sok S1) (b2 : -2147483648 ≤ v2 ∧ v2 ≤ 2147483647) (p1 : s114 S x1 0 3599 v2 S1) (c1 : v2 ≠ 0) (v3 : Int) (S2 : fx_S) (k2 : fx_Sok S2) (b3 : -2147483648 ≤ v3 ∧ v3 ≤ 2147483647) (p2 : s114 S1 x2 0 3599 v3 S2) (c2 : v3 ≠ 0) (v4 : Int) (S3 : fx_S) (k3 : fx_Sok S3) (b4 : v4 = 0) (p3 : s180 S2 x2 v4 S3) (v5 : Int) (S4 : fx_S) (k4 : fx_Sok S4) (b5 : -2147483648 ≤ v5 ∧ v5 ≤ 2147483647) (p4 : s181 S3 x1 x2 v5 S4) : s63 S x1 x2 v5 S4 := by
  obtain ⟨rfl, p1⟩ := p1
  obtain ⟨rfl, p2⟩ := p2
  obtain ⟨r3, f3⟩ := p3
  obtain rfl : S3 = S4 := p4
  refine ⟨r3, ?_⟩
  · intro p i hW
    clear b5 b4 c2 b3 c1 b2
    exact (f3 p i (by omega))
theorem q63_2 (S : fx_S) (x1 x2 : Int) (hS : fx_Sok S) (g1 : -2147483648 ≤ x1 ∧ x1 ≤ 2147483647) (g2 : -2147483648 ≤ x2 ∧ x2 ≤ 2147483647) (v2 : Int) (S1 : fx_S) (k1 : fx_Sok S1) (b2 : -2147483648 ≤ v2 ∧ v2 ≤ 2147483647) (p1 : s114 S x1 0 3599 v2 S1) (c1 : v2 ≠ 0) (v3 : Int) (S2 : fx_S) (k2 : fx_Sok S2) (b3 : -2147483648 ≤ v3 ∧ v3 ≤ 2147483647) (p2 : s114 S1 x2 0 3599 v3 S2) (c2 : v3 = 0) : s63 S x1 x2 (-2) S2 := by
  obtain ⟨rfl, p1⟩ := p1
  obtain ⟨rfl, p2⟩ := p2
  refine ⟨rfl, ?_⟩
  · intro p i hW
    clear c2 b3 c1 b2
    exact rfl
theorem q64_0 (S : fx_S) (x1 x2 : Int) (hS : fx_Sok S) (g1 : -2147483648 ≤ x1 ∧ x1 ≤ 2147483647) (g2 : -2147483648 ≤ x2 ∧ x2 ≤ 2147483647) (v2 : Int) (S1 : fx_S) (k1 : fx_Sok S1) (b2 : -2147483648 ≤ v2 ∧ v2 ≤ 2147483647) (p1 : s113 S x1 0 3599 v2 S1) (c1 : v2 = 0) : s64 S x1 x2 (-2) S1 := by
  obtain ⟨rfl, p1⟩ := p1
  refine ⟨rfl, ?_⟩
  · intro p i hW
    clear c1 b2
    exact rfl
theorem q64_1 (S : fx_S) (x1 x2 : Int) (hS : fx_Sok S) (g1 : -2147483648 ≤ x1 ∧ x1 ≤ 2147483647) (g2 : -2147483648 ≤ x2 ∧ x2 ≤ 2147483647) (v2 : Int) (S1 : fx_S) (k1 : fx_Sok S1) (b2 : -2147483648 ≤ v2 ∧ v2 ≤ 2147483647) (p1 : s113 S x1 0 3599 v2 S1) (c1 : v2 ≠ 0) (v3 : Int) (S2 : fx_S) (k2 : fx_Sok S2) (b3 : -2147483648 ≤ v3 ∧ v3 ≤ 2147483647) (p2 : s113 S1 x2 0 3599 v3 S2) (c2 : v3 ≠ 0) (v4 : Int) (S3 : fx_S) (k3 : fx_Sok S3) (b4 : v4 = 0) (p3 : s182 S2 x2 v4 S3) (v5 : Int) (S4 : fx_S) (k4 : fx_Sok S4) (b5 : -2147483648 ≤ v5 ∧ v5 ≤ 2147483647) (p4 : s183 S3 x1 x2 v5 S4) : s64 S x1 x2 v5 S4 := by
  obtain ⟨rfl, p1⟩ := p1
  obtain ⟨rfl, p2⟩ := p2
  obtain ⟨r3, f3⟩ := p3
  obtain rfl : S3 = S4 := p4
  refine ⟨r3, ?_⟩
  · intro p i hW
    clear b5 b4 c2 b3 c1 b2
    exact (f3 p i (by omega))
theorem q64_2 (S : fx_S) (x1 x2 : Int) (hS : fx_Sok S) (g1 : -2147483648 ≤ x1 ∧ x1 ≤ 2147483647) (g2 : -2147483648 ≤ x2 ∧ x2 ≤ 2147483647) (v2 : Int) (S1 : fx_S) (k1 : fx_Sok S1) (b2 : -2147483648 ≤ v2 ∧ v2 ≤ 2147483647) (p1 : s113 S x1 0 3599 v2 S1) (c1 : v2 ≠ 0) (v3 : Int) (S2 : fx_S) (k2 : fx_Sok S2) (b3 : -2147483648 ≤ v3 ∧ v3 ≤ 2147483647) (p2 : s113 S1 x2 0 3599 v3 S2) (c2 : v3 = 0) : s64 S x1 x2 (-2) S2 := by
  obtain ⟨rfl, p1⟩ := p1
  obtain ⟨rfl, p2⟩ := p2
  refine ⟨rfl, ?_⟩
  · intro p i hW
    clear c2 b3 c1 b2
    exact rfl
theorem q65_0 (S : fx_S) (x1 x2 : Int) (hS : fx_Sok S) (g1 : -2147483648 ≤ x1 ∧ x1 ≤ 2147483647) (g2 : -2147483648 ≤ x2 ∧ x2 ≤ 2147483647) (v2 : Int) (S1 : fx_S) (k1 : fx_Sok S1) (b2 : -2147483648 ≤ v2 ∧ v2 ≤ 2147483647) (p1 : s114 S x1 0 3 v2 S1) (c1 : v2 = 0) : s65 S x1 x2 (-2) S1 := by
  obtain ⟨rfl, p1⟩ := p1
  refine ⟨rfl, ?_⟩
  · intro p i hW
    clear c1 b2
    exact rfl
theorem q65_1 (S : fx_S) (x1 x2 : Int) (hS : fx_Sok S) (g1 : -2147483648 ≤ x1 ∧ x1 ≤ 2147483647) (g2 : -2147483648 ≤ x2 ∧ x2 ≤ 2147483647) (v2 : Int) (S1 : fx_S) (k1 : fx_Sok S1) (b2 : -2147483648 ≤ v2 ∧ v2 ≤ 2147483647) (p1 : s114 S x1 0 3 v2 S1) (c1 : v2 ≠ 0) (v3 : Int) (S2 : fx_S) (k2 : fx_Sok S2) (b3 : -2147483648 ≤ v3 ∧ v3 ≤ 2147483647) (p2 : s114 S1 x2 0 3599 v3 S2) (c2 : v3 ≠ 0) (v4 : Int) (e4 : v4 = S2.1 1 0) (b4 : -2147483648 ≤ v4 ∧ v4 ≤ 2147483647) (v5 : Int) (S3 : fx_S) (k3 : fx_Sok S3) (b5 : v5 = 0) (p3 : s180 S2 v4 v5 S3) (z : Int) (Z : fx_S) (kz : fx_Sok Z) (bz : -2147483648 ≤ z ∧ z ≤ 2147483647) (pz : s184 S3 x1 x2 0 z Z) : s65 S x1 x2 z Z := by
  obtain ⟨rfl, p1⟩ := p1
  obtain ⟨rfl, p2⟩ := p2
  obtain ⟨r3, f3⟩ := p3
  obtain rfl : S3 = Z := pz
  refine ⟨r3, ?_⟩
  · intro p i hW
    clear b5 b4 e4 c2 b3 c1 b2
    exact (f3 p i (by omega))
theorem q65_2 (S : fx_S) (x1 x2 : Int) (hS : fx_Sok S) (g1 : -2147483648 ≤ x1 ∧ x1 ≤ 2147483647) (g2 : -2147483648 ≤ x2 ∧ x2 ≤ 2147483647) (v2 : Int) (S1 : fx_S) (k1 : fx_Sok S1) (b2 : -2147483648 ≤ v2 ∧ v2 ≤ 2147483647) (p1 : s114 S x1 0 3 v2 S1) (c1 : v2 ≠ 0) (v3 : Int) (S2 : fx_S) (k2 : fx_Sok S2) (b3 : -2147483648 ≤ v3 ∧ v3 ≤ 2147483647) (p2 : s114 S1 x2 0 3599 v3 S2) (c2 : v3 = 0) : s65 S x1 x2 (-2) S2 := by
  obtain ⟨rfl, p1⟩ := p1
  obtain ⟨rfl, p2⟩ := p2
  refine ⟨rfl, ?_⟩
  · intro p i hW
    clear c2 b3 c1 b2
    exact rfl
theorem q66_0 (S : fx_S) (x1 x2 : Int) (hS : fx_Sok S) (g1 : -2147483648 ≤ x1 ∧ x1 ≤ 2147483647) (g2 : -2147483648 ≤ x2 ∧ x2 ≤ 2147483647) (v2 : Int) (S1 : fx_S) (k1 : fx_Sok S1) (b2 : -2147483648 ≤ v2 ∧ v2 ≤ 2147483647) (p1 : s113 S x1 0 3 v2 S1) (c1 : v2 = 0) : s66 S x1 x2 (-2) S1 := by
  obtain ⟨rfl, p1⟩ := p1
  refine ⟨rfl, ?_⟩
  · intro p i hW
    clear c1 b2
    exact rfl
theorem q66_1 (S : fx_S) (x1 x2 : Int) (hS : fx_Sok S) (g1 : -2147483648 ≤ x1 ∧ x1 ≤ 2147483647) (g2 : -2147483648 ≤ x2 ∧ x2 ≤ 2147483647) (v2 : Int) (S1 : fx_S) (k1 : fx_Sok S1) (b2 : -2147483648 ≤ v2 ∧ v2 ≤ 2147483647) (p1 : s113 S x1 0 3 v2 S1) (c1 : v2 ≠ 0) (v3 : Int) (S2 : fx_S) (k2 : fx_Sok S2) (b3 : -2147483648 ≤ v3 ∧ v3 ≤ 2147483647) (p2 : s113 S1 x2 0 3599 v3 S2) (c2 : v3 ≠ 0) (v4 : Int) (e4 : v4 = S2.1 67 0) (b4 : -2147483648 ≤ v4 ∧ v4 ≤ 2147483647) (v5 : Int) (S3 : fx_S) (k3 : fx_Sok S3) (b5 : v5 = 0) (p3 : s182 S2 v4 v5 S3) (z : Int) (Z : fx_S) (kz : fx_Sok Z) (bz : -2147483648 ≤ z ∧ z ≤ 2147483647) (pz : s185 S3 x1 x2 z Z) : s66 S x1 x2 z Z := by
  obtain ⟨rfl, p1⟩ := p1
  obtain ⟨rfl, p2⟩ := p2
  obtain ⟨r3, f3⟩ := p3
  obtain rfl : S3 = Z := pz
  refine ⟨r3, ?_⟩
  · intro p i hW
    clear b5 b4 e4 c2 b3 c1 b2
    exact (f3 p i (by omega))
theorem q66_2 (S : fx_S) (x1 x2 : Int) (hS : fx_Sok S) (g1 : -2147483648 ≤ x1 ∧ x1 ≤ 2147483647) (g2 : -2147483648 ≤ x2 ∧ x2 ≤ 2147483647) (v2 : Int) (S1 : fx_S) (k1 : fx_Sok S1) (b2 : -2147483648 ≤ v2 ∧ v2 ≤ 2147483647) (p1 : s113 S x1 0 3 v2 S1) (c1 : v2 ≠ 0) (v3 : Int) (S2 : fx_S) (k2 : fx_Sok S2) (b3 : -2147483648 ≤ v3 ∧ v3 ≤ 2147483647) (p2 : s113 S1 x2 0 3599 v3 S2) (c2 : v3 = 0) : s66 S x1 x2 (-2) S2 := by
  obtain ⟨rfl, p1⟩ := p1
  obtain ⟨rfl, p2⟩ := p2
  refine ⟨rfl, ?_⟩
  · intro p i hW
    clear c2 b3 c1 b2
    exact rfl
theorem q67_0 (S : fx_S) (x1 x2 x3 : Int) (hS : fx_Sok S) (g1 : -2147483648 ≤ x1 ∧ x1 ≤ 2147483647) (g2 : -2147483648 ≤ x2 ∧ x2 ≤ 2147483647) (g3 : -2147483648 ≤ x3 ∧ x3 ≤ 2147483647) (v3 : Int) (S1 : fx_S) (k1 : fx_Sok S1) (b3 : -2147483648 ≤ v3 ∧ v3 ≤ 2147483647) (p1 : s114 S x1 1 9 v3 S1) (c1 : v3 = 0) : s67 S x1 x2 x3 (-2) S1 := by
  obtain ⟨rfl, p1⟩ := p1
  refine ⟨rfl, ?_, ?_⟩
  · intro p i hW
    clear c1 b3
    exact rfl
  · skip
    have m1 := fx_in01 p1
    exact .inl ⟨rfl, by omega, rfl⟩
theorem q67_1 (S : fx_S) (x1 x2 x3 : Int) (hS : fx_Sok S) (g1 : -2147483648 ≤ x1 ∧ x1 ≤ 2147483647) (g2 : -2147483648 ≤ x2 ∧ x2 ≤ 2147483647) (g3 : -2147483648 ≤ x3 ∧ x3 ≤ 2147483647) (v3 : Int) (S1 : fx_S) (k1 : fx_Sok S1) (b3 : -2147483648 ≤ v3 ∧ v3 ≤ 2147483647) (p1 : s114 S x1 1 9 v3 S1) (c1 : v3 ≠ 0) (v4 : Int) (S2 : fx_S) (k2 : fx_Sok S2) (b4 : -2147483648 ≤ v4 ∧ v4 ≤ 2147483647) (p2 : s114 S1 x2 0 999 v4 S2) (c2 : v4 = 0) : s67 S x1 x2 x3 (-2) S2 := by
  obtain ⟨rfl, p1⟩ := p1
  obtain ⟨rfl, p2⟩ := p2
  refine ⟨rfl, ?_, ?_⟩
  · intro p i hW
    clear c2 b4 c1 b3
    exact rfl
  · skip
    have m1 := fx_in01 p1
    have m2 := fx_in01 p2
    exact .inl ⟨rfl, by omega, rfl⟩
theorem q67_2 (S : fx_S) (x1 x2 x3 : Int) (hS : fx_Sok S) (g1 : -2147483648 ≤ x1 ∧ x1 ≤ 2147483647) (g2 : -2147483648 ≤ x2 ∧ x2 ≤ 2147483647) (g3 : -2147483648 ≤ x3 ∧ x3 ≤ 2147483647) (v3 : Int) (S1 : fx_S) (k1 : fx_Sok S1) (b3 : -2147483648 ≤ v3 ∧ v3 ≤ 2147483647) (p1 : s114 S x1 1 9 v3 S1) (c1 : v3 ≠ 0) (v4 : Int) (S2 : fx_S) (k2 : fx_Sok S2) (b4 : -2147483648 ≤ v4 ∧ v4 ≤ 2147483647) (p2 : s114 S1 x2 0 999 v4 S2) (c2 : v4 ≠ 0) (v5 : Int) (S3 : fx_S) (k3 : fx_Sok S3) (b5 : -2147483648 ≤ v5 ∧ v5 ≤ 2147483647) (p3 : s114 S2 x3 0 999 v5 S3) (c3 : v5 ≠ 0) (v6 : Int) (S4 : fx_S) (k4 : fx_Sok S4) (b6 : -2147483648 ≤ v6 ∧ v6 ≤ 2147483647) (p4 : s186 S3 x1 x2 x3 v6 S4) : s67 S x1 x2 x3 v6 S4 := by
  obtain ⟨rfl, p1⟩ := p1
  obtain ⟨rfl, p2⟩ := p2
  obtain ⟨rfl, p3⟩ := p3
  obtain ⟨r4, f4, p4⟩ := p4
  refine ⟨r4, ?_, ?_⟩
  · intro p i hW
    clear b6 c3 b5 c2 b4 c1 b3
    exact (f4 p i (by omega))
  · skip
    have m1 := fx_in01 p1
    have m2 := fx_in01 p2
    have m3 := fx_in01 p3
    rcases p4 with ⟨a1, a2, a3⟩ | ⟨a1, a2, a3, a4⟩
    · exact .inr (.inl ⟨a1, by omega, a2, a3⟩)
    · exact .inr (.inr ⟨by omega, a1, a2, a3, a4⟩)
theorem q67_3 (S : fx_S) (x1 x2 x3 : Int) (hS : fx_Sok S) (g1 : -2147483648 ≤ x1 ∧ x1 ≤ 2147483647) (g2 : -2147483648 ≤ x2 ∧ x2 ≤ 2147483647) (g3 : -2147483648 ≤ x3 ∧ x3 ≤ 2147483647) (v3 : Int) (S1 : fx_S) (k1 : fx_Sok S1) (b3 : -2147483648 ≤ v3 ∧ v3 ≤ 2147483647) (p1 : s114 S x1 1 9 v3 S1) (c1 : v3 ≠ 0) (v4 : Int) (S2 : fx_S) (k2 : fx_Sok S2) (b4 : -2147483648 ≤ v4 ∧ v4 ≤ 2147483647) (p2 : s114 S1 x2 0 999 v4 S2) (c2 : v4 ≠ 0) (v5 : Int) (S3 : fx_S) (k3 : fx_Sok S3) (b5 : -2147483648 ≤ v5 ∧ v5 ≤ 2147483647) (p3 : s114 S2 x3 0 999 v5 S3) (c3 : v5 = 0) : s67 S x1 x2 x3 (-2) S3 := by
  obtain ⟨rfl, p1⟩ := p1
  obtain ⟨rfl, p2⟩ := p2
  obtain ⟨rfl, p3⟩ := p3
  refine ⟨rfl, ?_, ?_⟩
  · intro p i hW
    clear c3 b5 c2 b4 c1 b3
    exact rfl
  · skip
    have m1 := fx_in01 p1
    have m2 := fx_in01 p2
    have m3 := fx_in01 p3
    exact .inl ⟨rfl, by omega, rfl⟩
theorem q68_0 (S : fx_S) (x1 x2 x3 : Int) (hS : fx_Sok S) (g1 : -2147483648 ≤ x1 ∧ x1 ≤ 2147483647) (g2 : -2147483648 ≤ x2 ∧ x2 ≤ 2147483647) (g3 : -2147483648 ≤ x3 ∧ x3 ≤ 2147483647) (v3 : Int) (S1 : fx_S) (k1 : fx_Sok S1) (b3 : -2147483648 ≤ v3 ∧ v3 ≤ 2147483647) (p1 : s113 S x1 1 9 v3 S1) (c1 : v3 = 0) : s68 S x1 x2 x3 (-2) S1 := by
  obtain ⟨rfl, p1⟩ := p1
  unfold s68
  intro hB
  have BS := hB
  have NS := fx_WB_n BS
  have m1 := fx_in01 p1
  refine ⟨rfl, ?_, BS, ?_⟩
  · intro p i hW
    exact rfl
  · exact .inl ⟨rfl, by omega, rfl⟩
theorem q68_1 (S : fx_S) (x1 x2 x3 : Int) (hS : fx_Sok S) (g1 : -2147483648 ≤ x1 ∧ x1 ≤ 2147483647) (g2 : -2147483648 ≤ x2 ∧ x2 ≤ 2147483647) (g3 : -2147483648 ≤ x3 ∧ x3 ≤ 2147483647) (v3 : Int) (S1 : fx_S) (k1 : fx_Sok S1) (b3 : -2147483648 ≤ v3 ∧ v3 ≤ 2147483647) (p1 : s113 S x1 1 9 v3 S1) (c1 : v3 ≠ 0) (v4 : Int) (S2 : fx_S) (k2 : fx_Sok S2) (b4 : -2147483648 ≤ v4 ∧ v4 ≤ 2147483647) (p2 : s113 S1 x2 0 999 v4 S2) (c2 : v4 = 0) : s68 S x1 x2 x3 (-2) S2 := by
  obtain ⟨rfl, p1⟩ := p1
  obtain ⟨rfl, p2⟩ := p2
  unfold s68
  intro hB
  have BS := hB
  have NS := fx_WB_n BS
  have m1 := fx_in01 p1
  have m2 := fx_in01 p2
  refine ⟨rfl, ?_, BS, ?_⟩
  · intro p i hW
    exact rfl
  · exact .inl ⟨rfl, by omega, rfl⟩
theorem q68_2 (S : fx_S) (x1 x2 x3 : Int) (hS : fx_Sok S) (g1 : -2147483648 ≤ x1 ∧ x1 ≤ 2147483647) (g2 : -2147483648 ≤ x2 ∧ x2 ≤ 2147483647) (g3 : -2147483648 ≤ x3 ∧ x3 ≤ 2147483647) (v3 : Int) (S1 : fx_S) (k1 : fx_Sok S1) (b3 : -2147483648 ≤ v3 ∧ v3 ≤ 2147483647) (p1 : s113 S x1 1 9 v3 S1) (c1 : v3 ≠ 0) (v4 : Int) (S2 : fx_S) (k2 : fx_Sok S2) (b4 : -2147483648 ≤ v4 ∧ v4 ≤ 2147483647) (p2 : s113 S1 x2 0 999 v4 S2) (c2 : v4 ≠ 0) (v5 : Int) (S3 : fx_S) (k3 : fx_Sok S3) (b5 : -2147483648 ≤ v5 ∧ v5 ≤ 2147483647) (p3 : s113 S2 x3 0 999 v5 S3) (c3 : v5 ≠ 0) (v6 : Int) (e6 : v6 = S3.1 67 5) (b6 : -2147483648 ≤ v6 ∧ v6 ≤ 2147483647) (c4 : v6 ≠ 12) (v7 : Int) (e7 : v7 = fx_mul 4 v6) (v8 : Int) (e8 : v8 = fx_add 7100 v7) (c5 : 0 ≤ v8) (c6 : v8 < 8090) (S4 : fx_S) (d4 : S4 = (fx_up S3.1 67 v8 x1, S3.2)) (v9 : Int) (e9 : v9 = fx_mul 4 v6) (v10 : Int) (e10 : v10 = fx_add 7100 v9) (v11 : Int) (e11 : v11 = fx_add v10 1) (c7 : 0 ≤ v11) (c8 : v11 < 8090) (S5 : fx_S) (d5 : S5 = (fx_up S4.1 67 v11 x2, S4.2)) (v12 : Int) (e12 : v12 = fx_mul 4 v6) (v13 : Int) (e13 : v13 = fx_add 7100 v12) (v14 : Int) (e14 : v14 = fx_add v13 2) (c9 : 0 ≤ v14) (c10 : v14 < 8090) (S6 : fx_S) (d6 : S6 = (fx_up S5.1 67 v14 x3, S5.2)) (v15 : Int) (e15 : v15 = fx_mul 4 v6) (v16 : Int) (e16 : v16 = fx_add 7100 v15) (v17 : Int) (e17 : v17 = fx_add v16 3) (c11 : 0 ≤ v17) (c12 : v17 < 8090) (S7 : fx_S) (d7 : S7 = (fx_up S6.1 67 v17 (-1), S6.2)) (v18 : Int) (e18 : v18 = S7.1 67 5) (b18 : -2147483648 ≤ v18 ∧ v18 ≤ 2147483647) (v19 : Int) (e19 : v19 = fx_add v18 1) (S8 : fx_S) (d8 : S8 = (fx_up S7.1 67 5 v19, S7.2)) : s68 S x1 x2 x3 v6 S8 := by
  obtain ⟨rfl, p1⟩ := p1
  obtain ⟨rfl, p2⟩ := p2
  obtain ⟨rfl, p3⟩ := p3
  unfold s68
  intro hB
  have BS := hB
  have NS := fx_WB_n BS
  have m1 := fx_in01 p1
  have m2 := fx_in01 p2
  have m3 := fx_in01 p3
  have h7 := e7
  first | rw [fx_mul_eq (by omega) (by omega)] at h7 | skip
  have h8 := e8
  first | rw [fx_add_eq (by omega) (by omega)] at h8 | skip
  have BS4 : fx_WB S4 := by rw [d4]; exact fx_WB_up BS (by omega) (by omega) (by omega) (by omega) (by omega) (by omega) (by omega) (by omega) (by omega) (by omega) (by omega) (fun h => absurd h (by omega))
  obtain rfl : v7 = v9 := by rw [e9, e7]
  obtain rfl : v8 = v10 := by rw [e10, e8]
  have h11 := e11
  first | rw [fx_add_eq (by omega) (by omega)] at h11 | skip
  have BS5 : fx_WB S5 := by rw [d5]; exact fx_WB_up BS4 (by omega) (by omega) (by omega) (by omega) (by omega) (by omega) (by omega) (by omega) (by omega) (by omega) (by omega) (fun h => absurd h (by omega))
  obtain rfl : v7 = v12 := by rw [e12, e7]
  obtain rfl : v8 = v13 := by rw [e13, e8]
  have h14 := e14
  first | rw [fx_add_eq (by omega) (by omega)] at h14 | skip
  have BS6 : fx_WB S6 := by rw [d6]; exact fx_WB_up BS5 (by omega) (by omega) (by omega) (by omega) (by omega) (by omega) (by omega) (by omega) (by omega) (by omega) (by omega) (fun h => absurd h (by omega))
  obtain rfl : v7 = v15 := by rw [e15, e7]
  obtain rfl : v8 = v16 := by rw [e16, e8]
  have h17 := e17
  first | rw [fx_add_eq (by omega) (by omega)] at h17 | skip
  have BS7 : fx_WB S7 := by rw [d7]; exact fx_WB_up BS6 (by omega) (by omega) (by omega) (by omega) (by omega) (by omega) (by omega) (by omega) (by omega) (by omega) (by omega) (fun h => absurd h (by omega))
  have t18_7 : S7.1 67 5 = S6.1 67 5 := by rw [d7]; first | exact if_neg (by omega) | rfl
  rw [t18_7] at e18
  have t18_6 : S6.1 67 5 = S5.1 67 5 := by rw [d6]; first | exact if_neg (by omega) | rfl
  rw [t18_6] at e18
  have t18_5 : S5.1 67 5 = S4.1 67 5 := by rw [d5]; first | exact if_neg (by omega) | rfl
  rw [t18_5] at e18
  have t18_4 : S4.1 67 5 = S.1 67 5 := by rw [d4]; first | exact if_neg (by omega) | rfl
  rw [t18_4] at e18
  obtain rfl : v6 = v18 := by rw [e18, e6]
  have h19 := e19
  first | rw [fx_add_eq (by omega) (by omega)] at h19 | skip
  have BS8 : fx_WB S8 := by rw [d8]; exact fx_WB_up BS7 (by omega) (by omega) (by omega) (by omega) (by omega) (by omega) (by omega) (by omega) (by omega) (by omega) (by omega) (fun h => absurd h (by omega))
  refine ⟨((show S8.2 = S7.2 by rw [d8])).trans (((show S7.2 = S6.2 by rw [d7])).trans (((show S6.2 = S5.2 by rw [d6])).trans (((show S5.2 = S4.2 by rw [d5])).trans ((show S4.2 = S.2 by rw [d4]))))), ?_, BS8, ?_⟩
  · intro p i hW
    exact ((show S8.1 p i = S7.1 p i by rw [d8]; exact if_neg (by omega))).trans (((show S7.1 p i = S6.1 p i by rw [d7]; exact if_neg (by omega))).trans (((show S6.1 p i = S5.1 p i by rw [d6]; exact if_neg (by omega))).trans (((show S5.1 p i = S4.1 p i by rw [d5]; exact if_neg (by omega))).trans ((show S4.1 p i = S.1 p i by rw [d4]; exact if_neg (by omega))))))
  · refine .inr (.inr ⟨by omega, by omega, by omega, ?_, ?_, ?_, ?_, ?_, fun i i0 i1 i2 => ?_⟩)
    all_goals (subst d8; subst d7; subst d6; subst d5; subst d4; dsimp only [fx_up]; repeat (first | rw [if_pos (by omega)] | rw [if_neg (by omega)]))
    all_goals omega
