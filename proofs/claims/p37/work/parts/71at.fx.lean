/-! FX: what is to be shown of the entries -/
theorem q260_0 (S : fx_S) (x2 x3 x5 x6 x7 x8 : Int) (hS : fx_Sok S) (g2 : -2147483648 ≤ x2 ∧ x2 ≤ 2147483647) (g3 : -2147483648 ≤ x3 ∧ x3 ≤ 2147483647) (g5 : -2147483648 ≤ x5 ∧ x5 ≤ 2147483647) (g6 : -2147483648 ≤ x6 ∧ x6 ≤ 2147483647) (g7 : -2147483648 ≤ x7 ∧ x7 ≤ 2147483647) (g8 : -2147483648 ≤ x8 ∧ x8 ≤ 2147483647) (c1 : x7 < x8) : s260 S x2 x3 x5 x6 x7 x8 (-1) S := by
  exact rfl
theorem q260_1 (S : fx_S) (x2 x3 x5 x6 x7 x8 : Int) (hS : fx_Sok S) (g2 : -2147483648 ≤ x2 ∧ x2 ≤ 2147483647) (g3 : -2147483648 ≤ x3 ∧ x3 ≤ 2147483647) (g5 : -2147483648 ≤ x5 ∧ x5 ≤ 2147483647) (g6 : -2147483648 ≤ x6 ∧ x6 ≤ 2147483647) (g7 : -2147483648 ≤ x7 ∧ x7 ≤ 2147483647) (g8 : -2147483648 ≤ x8 ∧ x8 ≤ 2147483647) (c1 : x8 ≤ x7) (c2 : x6 = 0) (v6 : Int) (e6 : v6 = fx_add x3 x8) (v7 : Int) (S1 : fx_S) (k1 : fx_Sok S1) (b7 : -2147483648 ≤ v7 ∧ v7 ≤ 2147483647) (p1 : s250 S v6 x2 x5 v7 S1) (c3 : v7 = x6) (v8 : Int) (e8 : v8 = fx_add x8 1) (z : Int) (Z : fx_S) (kz : fx_Sok Z) (bz : -2147483648 ≤ z ∧ z ≤ 2147483647) (pz : s260 S1 x2 x3 x5 x6 x7 v8 z Z) : s260 S x2 x3 x5 x6 x7 x8 z Z := by
  obtain rfl : S = S1 := p1
  obtain rfl : S = Z := pz
  exact rfl
theorem q260_2 (S : fx_S) (x2 x3 x5 x6 x7 x8 : Int) (hS : fx_Sok S) (g2 : -2147483648 ≤ x2 ∧ x2 ≤ 2147483647) (g3 : -2147483648 ≤ x3 ∧ x3 ≤ 2147483647) (g5 : -2147483648 ≤ x5 ∧ x5 ≤ 2147483647) (g6 : -2147483648 ≤ x6 ∧ x6 ≤ 2147483647) (g7 : -2147483648 ≤ x7 ∧ x7 ≤ 2147483647) (g8 : -2147483648 ≤ x8 ∧ x8 ≤ 2147483647) (c1 : x8 ≤ x7) (c2 : x6 = 0) (v6 : Int) (e6 : v6 = fx_add x3 x8) (v7 : Int) (S1 : fx_S) (k1 : fx_Sok S1) (b7 : -2147483648 ≤ v7 ∧ v7 ≤ 2147483647) (p1 : s250 S v6 x2 x5 v7 S1) (c3 : v7 ≠ x6) : s260 S x2 x3 x5 x6 x7 x8 x8 S1 := by
  obtain rfl : S = S1 := p1
  exact rfl
theorem q260_3 (S : fx_S) (x2 x3 x5 x6 x7 x8 : Int) (hS : fx_Sok S) (g2 : -2147483648 ≤ x2 ∧ x2 ≤ 2147483647) (g3 : -2147483648 ≤ x3 ∧ x3 ≤ 2147483647) (g5 : -2147483648 ≤ x5 ∧ x5 ≤ 2147483647) (g6 : -2147483648 ≤ x6 ∧ x6 ≤ 2147483647) (g7 : -2147483648 ≤ x7 ∧ x7 ≤ 2147483647) (g8 : -2147483648 ≤ x8 ∧ x8 ≤ 2147483647) (c1 : x8 ≤ x7) (c2 : x6 ≠ 0) (v6 : Int) (e6 : v6 = fx_sub x3 x8) (v7 : Int) (S1 : fx_S) (k1 : fx_Sok S1) (b7 : -2147483648 ≤ v7 ∧ v7 ≤ 2147483647) (p1 : s250 S v6 x2 x5 v7 S1) (c3 : v7 = x6) (v8 : Int) (e8 : v8 = fx_add x8 1) (z : Int) (Z : fx_S) (kz : fx_Sok Z) (bz : -2147483648 ≤ z ∧ z ≤ 2147483647) (pz : s260 S1 x2 x3 x5 x6 x7 v8 z Z) : s260 S x2 x3 x5 x6 x7 x8 z Z := by
  obtain rfl : S = S1 := p1
  obtain rfl : S = Z := pz
  exact rfl
theorem q260_4 (S : fx_S) (x2 x3 x5 x6 x7 x8 : Int) (hS : fx_Sok S) (g2 : -2147483648 ≤ x2 ∧ x2 ≤ 2147483647) (g3 : -2147483648 ≤ x3 ∧ x3 ≤ 2147483647) (g5 : -2147483648 ≤ x5 ∧ x5 ≤ 2147483647) (g6 : -2147483648 ≤ x6 ∧ x6 ≤ 2147483647) (g7 : -2147483648 ≤ x7 ∧ x7 ≤ 2147483647) (g8 : -2147483648 ≤ x8 ∧ x8 ≤ 2147483647) (c1 : x8 ≤ x7) (c2 : x6 ≠ 0) (v6 : Int) (e6 : v6 = fx_sub x3 x8) (v7 : Int) (S1 : fx_S) (k1 : fx_Sok S1) (b7 : -2147483648 ≤ v7 ∧ v7 ≤ 2147483647) (p1 : s250 S v6 x2 x5 v7 S1) (c3 : v7 ≠ x6) : s260 S x2 x3 x5 x6 x7 x8 x8 S1 := by
  obtain rfl : S = S1 := p1
  exact rfl
theorem q261_0 (S : fx_S) (x1 x2 x3 : Int) (hS : fx_Sok S) (g1 : -2147483648 ≤ x1 ∧ x1 ≤ 2147483647) (g2 : -2147483648 ≤ x2 ∧ x2 ≤ 2147483647) (g3 : -2147483648 ≤ x3 ∧ x3 ≤ 2147483647) (c1 : 4 ≤ x3) (z : Int) (Z : fx_S) (kz : fx_Sok Z) (bz : -2147483648 ≤ z ∧ z ≤ 2147483647) (pz : s317 S x2 1000 0 z Z) : s261 S x1 x2 x3 z Z := by
  obtain rfl : S = Z := pz
  refine ⟨rfl, ?_⟩
  · intro p i hW
    clear c1
    exact rfl
theorem q261_1 (S : fx_S) (x1 x2 x3 : Int) (hS : fx_Sok S) (g1 : -2147483648 ≤ x1 ∧ x1 ≤ 2147483647) (g2 : -2147483648 ≤ x2 ∧ x2 ≤ 2147483647) (g3 : -2147483648 ≤ x3 ∧ x3 ≤ 2147483647) (c1 : x3 < 4) (z : Int) (Z : fx_S) (kz : fx_Sok Z) (bz : -2147483648 ≤ z ∧ z ≤ 2147483647) (pz : s318 S x1 x2 x3 (-1) z Z) : s261 S x1 x2 x3 z Z := by
  obtain ⟨rZ, fZ⟩ := pz
  refine ⟨rZ, ?_⟩
  · intro p i hW
    clear c1
    exact (fZ p i (by omega))
theorem q262_0 (S : fx_S) (x1 x2 x3 x5 x6 : Int) (hS : fx_Sok S) (g1 : -2147483648 ≤ x1 ∧ x1 ≤ 2147483647) (g2 : -2147483648 ≤ x2 ∧ x2 ≤ 2147483647) (g3 : -2147483648 ≤ x3 ∧ x3 ≤ 2147483647) (g5 : -2147483648 ≤ x5 ∧ x5 ≤ 2147483647) (g6 : -2147483648 ≤ x6 ∧ x6 ≤ 2147483647) (c1 : x1 = (-1)) : s262 S x1 x2 x3 x5 x6 x5 S := by
  exact rfl
theorem q262_1 (S : fx_S) (x1 x2 x3 x5 x6 : Int) (hS : fx_Sok S) (g1 : -2147483648 ≤ x1 ∧ x1 ≤ 2147483647) (g2 : -2147483648 ≤ x2 ∧ x2 ≤ 2147483647) (g3 : -2147483648 ≤ x3 ∧ x3 ≤ 2147483647) (g5 : -2147483648 ≤ x5 ∧ x5 ≤ 2147483647) (g6 : -2147483648 ≤ x6 ∧ x6 ≤ 2147483647) (c1 : x1 ≠ (-1)) (v5 : Int) (e5 : v5 = fx_mul 260 x1) (v6 : Int) (e6 : v6 = fx_add 1100 v5) (v7 : Int) (e7 : v7 = fx_add v6 3) (c2 : 0 ≤ v7) (c3 : v7 < 8090) (v8 : Int) (e8 : v8 = S.1 67 v7) (b8 : -2147483648 ≤ v8 ∧ v8 ≤ 2147483647) (c4 : v8 ≤ x6) : s262 S x1 x2 x3 x5 x6 x5 S := by
  exact rfl
theorem q262_2 (S : fx_S) (x1 x2 x3 x5 x6 : Int) (hS : fx_Sok S) (g1 : -2147483648 ≤ x1 ∧ x1 ≤ 2147483647) (g2 : -2147483648 ≤ x2 ∧ x2 ≤ 2147483647) (g3 : -2147483648 ≤ x3 ∧ x3 ≤ 2147483647) (g5 : -2147483648 ≤ x5 ∧ x5 ≤ 2147483647) (g6 : -2147483648 ≤ x6 ∧ x6 ≤ 2147483647) (c1 : x1 ≠ (-1)) (v5 : Int) (e5 : v5 = fx_mul 260 x1) (v6 : Int) (e6 : v6 = fx_add 1100 v5) (v7 : Int) (e7 : v7 = fx_add v6 3) (c2 : 0 ≤ v7) (c3 : v7 < 8090) (v8 : Int) (e8 : v8 = S.1 67 v7) (b8 : -2147483648 ≤ v8 ∧ v8 ≤ 2147483647) (c4 : x6 < v8) (v9 : Int) (e9 : v9 = fx_mul 260 x1) (v10 : Int) (e10 : v10 = fx_add 1100 v9) (v11 : Int) (e11 : v11 = fx_add v10 4) (v12 : Int) (e12 : v12 = fx_mul 16 x6) (v13 : Int) (e13 : v13 = fx_add v11 v12) (c5 : 0 ≤ v13) (c6 : v13 < 8090) (v14 : Int) (e14 : v14 = S.1 67 v13) (b14 : -2147483648 ≤ v14 ∧ v14 ≤ 2147483647) (c7 : v14 ≠ x2) (v15 : Int) (e15 : v15 = fx_add x6 1) (z : Int) (Z : fx_S) (kz : fx_Sok Z) (bz : -2147483648 ≤ z ∧ z ≤ 2147483647) (pz : s262 S x1 x2 x3 x5 v15 z Z) : s262 S x1 x2 x3 x5 x6 z Z := by
  obtain rfl : S = Z := pz
  exact rfl
theorem q262_3 (S : fx_S) (x1 x2 x3 x5 x6 : Int) (hS : fx_Sok S) (g1 : -2147483648 ≤ x1 ∧ x1 ≤ 2147483647) (g2 : -2147483648 ≤ x2 ∧ x2 ≤ 2147483647) (g3 : -2147483648 ≤ x3 ∧ x3 ≤ 2147483647) (g5 : -2147483648 ≤ x5 ∧ x5 ≤ 2147483647) (g6 : -2147483648 ≤ x6 ∧ x6 ≤ 2147483647) (c1 : x1 ≠ (-1)) (v5 : Int) (e5 : v5 = fx_mul 260 x1) (v6 : Int) (e6 : v6 = fx_add 1100 v5) (v7 : Int) (e7 : v7 = fx_add v6 3) (c2 : 0 ≤ v7) (c3 : v7 < 8090) (v8 : Int) (e8 : v8 = S.1 67 v7) (b8 : -2147483648 ≤ v8 ∧ v8 ≤ 2147483647) (c4 : x6 < v8) (v9 : Int) (e9 : v9 = fx_mul 260 x1) (v10 : Int) (e10 : v10 = fx_add 1100 v9) (v11 : Int) (e11 : v11 = fx_add v10 4) (v12 : Int) (e12 : v12 = fx_mul 16 x6) (v13 : Int) (e13 : v13 = fx_add v11 v12) (c5 : 0 ≤ v13) (c6 : v13 < 8090) (v14 : Int) (e14 : v14 = S.1 67 v13) (b14 : -2147483648 ≤ v14 ∧ v14 ≤ 2147483647) (c7 : v14 = x2) (c8 : x2 ≠ 1) (c9 : x2 ≠ 1) (v15 : Int) (e15 : v15 = fx_add v13 1) (c10 : 0 ≤ v15) (c11 : v15 < 8090) (v16 : Int) (e16 : v16 = S.1 67 v15) (b16 : -2147483648 ≤ v16 ∧ v16 ≤ 2147483647) (v17 : Int) (e17 : v17 = fx_add x6 1) (z : Int) (Z : fx_S) (kz : fx_Sok Z) (bz : -2147483648 ≤ z ∧ z ≤ 2147483647) (pz : s262 S x1 x2 x3 v16 v17 z Z) : s262 S x1 x2 x3 x5 x6 z Z := by
  obtain rfl : S = Z := pz
  exact rfl
theorem q262_4 (S : fx_S) (x1 x2 x3 x5 x6 : Int) (hS : fx_Sok S) (g1 : -2147483648 ≤ x1 ∧ x1 ≤ 2147483647) (g2 : -2147483648 ≤ x2 ∧ x2 ≤ 2147483647) (g3 : -2147483648 ≤ x3 ∧ x3 ≤ 2147483647) (g5 : -2147483648 ≤ x5 ∧ x5 ≤ 2147483647) (g6 : -2147483648 ≤ x6 ∧ x6 ≤ 2147483647) (c1 : x1 ≠ (-1)) (v5 : Int) (e5 : v5 = fx_mul 260 x1) (v6 : Int) (e6 : v6 = fx_add 1100 v5) (v7 : Int) (e7 : v7 = fx_add v6 3) (c2 : 0 ≤ v7) (c3 : v7 < 8090) (v8 : Int) (e8 : v8 = S.1 67 v7) (b8 : -2147483648 ≤ v8 ∧ v8 ≤ 2147483647) (c4 : x6 < v8) (v9 : Int) (e9 : v9 = fx_mul 260 x1) (v10 : Int) (e10 : v10 = fx_add 1100 v9) (v11 : Int) (e11 : v11 = fx_add v10 4) (v12 : Int) (e12 : v12 = fx_mul 16 x6) (v13 : Int) (e13 : v13 = fx_add v11 v12) (c5 : 0 ≤ v13) (c6 : v13 < 8090) (v14 : Int) (e14 : v14 = S.1 67 v13) (b14 : -2147483648 ≤ v14 ∧ v14 ≤ 2147483647) (c7 : v14 = x2) (c8 : x2 ≠ 1) (c9 : x2 = 1) (v15 : Int) (e15 : v15 = fx_add v13 2) (c10 : 0 ≤ v15) (c11 : v15 < 8090) (v16 : Int) (e16 : v16 = S.1 67 v15) (b16 : -2147483648 ≤ v16 ∧ v16 ≤ 2147483647) (v17 : Int) (e17 : v17 = fx_add x6 1) (z : Int) (Z : fx_S) (kz : fx_Sok Z) (bz : -2147483648 ≤ z ∧ z ≤ 2147483647) (pz : s262 S x1 x2 x3 v16 v17 z Z) : s262 S x1 x2 x3 x5 x6 z Z := by
  obtain rfl : S = Z := pz
  exact rfl
theorem q262_5 (S : fx_S) (x1 x2 x3 x5 x6 : Int) (hS : fx_Sok S) (g1 : -2147483648 ≤ x1 ∧ x1 ≤ 2147483647) (g2 : -2147483648 ≤ x2 ∧ x2 ≤ 2147483647) (g3 : -2147483648 ≤ x3 ∧ x3 ≤ 2147483647) (g5 : -2147483648 ≤ x5 ∧ x5 ≤ 2147483647) (g6 : -2147483648 ≤ x6 ∧ x6 ≤ 2147483647) (c1 : x1 ≠ (-1)) (v5 : Int) (e5 : v5 = fx_mul 260 x1) (v6 : Int) (e6 : v6 = fx_add 1100 v5) (v7 : Int) (e7 : v7 = fx_add v6 3) (c2 : 0 ≤ v7) (c3 : v7 < 8090) (v8 : Int) (e8 : v8 = S.1 67 v7) (b8 : -2147483648 ≤ v8 ∧ v8 ≤ 2147483647) (c4 : x6 < v8) (v9 : Int) (e9 : v9 = fx_mul 260 x1) (v10 : Int) (e10 : v10 = fx_add 1100 v9) (v11 : Int) (e11 : v11 = fx_add v10 4) (v12 : Int) (e12 : v12 = fx_mul 16 x6) (v13 : Int) (e13 : v13 = fx_add v11 v12) (c5 : 0 ≤ v13) (c6 : v13 < 8090) (v14 : Int) (e14 : v14 = S.1 67 v13) (b14 : -2147483648 ≤ v14 ∧ v14 ≤ 2147483647) (c7 : v14 = x2) (c8 : x2 = 1) (v15 : Int) (e15 : v15 = fx_add v13 1) (c9 : 0 ≤ v15) (c10 : v15 < 8090) (v16 : Int) (e16 : v16 = S.1 67 v15) (b16 : -2147483648 ≤ v16 ∧ v16 ≤ 2147483647) (c11 : v16 ≠ x3) (v17 : Int) (e17 : v17 = fx_add x6 1) (z : Int) (Z : fx_S) (kz : fx_Sok Z) (bz : -2147483648 ≤ z ∧ z ≤ 2147483647) (pz : s262 S x1 x2 x3 x5 v17 z Z) : s262 S x1 x2 x3 x5 x6 z Z := by
  obtain rfl : S = Z := pz
  exact rfl
theorem q262_6 (S : fx_S) (x1 x2 x3 x5 x6 : Int) (hS : fx_Sok S) (g1 : -2147483648 ≤ x1 ∧ x1 ≤ 2147483647) (g2 : -2147483648 ≤ x2 ∧ x2 ≤ 2147483647) (g3 : -2147483648 ≤ x3 ∧ x3 ≤ 2147483647) (g5 : -2147483648 ≤ x5 ∧ x5 ≤ 2147483647) (g6 : -2147483648 ≤ x6 ∧ x6 ≤ 2147483647) (c1 : x1 ≠ (-1)) (v5 : Int) (e5 : v5 = fx_mul 260 x1) (v6 : Int) (e6 : v6 = fx_add 1100 v5) (v7 : Int) (e7 : v7 = fx_add v6 3) (c2 : 0 ≤ v7) (c3 : v7 < 8090) (v8 : Int) (e8 : v8 = S.1 67 v7) (b8 : -2147483648 ≤ v8 ∧ v8 ≤ 2147483647) (c4 : x6 < v8) (v9 : Int) (e9 : v9 = fx_mul 260 x1) (v10 : Int) (e10 : v10 = fx_add 1100 v9) (v11 : Int) (e11 : v11 = fx_add v10 4) (v12 : Int) (e12 : v12 = fx_mul 16 x6) (v13 : Int) (e13 : v13 = fx_add v11 v12) (c5 : 0 ≤ v13) (c6 : v13 < 8090) (v14 : Int) (e14 : v14 = S.1 67 v13) (b14 : -2147483648 ≤ v14 ∧ v14 ≤ 2147483647) (c7 : v14 = x2) (c8 : x2 = 1) (v15 : Int) (e15 : v15 = fx_add v13 1) (c9 : 0 ≤ v15) (c10 : v15 < 8090) (v16 : Int) (e16 : v16 = S.1 67 v15) (b16 : -2147483648 ≤ v16 ∧ v16 ≤ 2147483647) (c11 : v16 = x3) (c12 : x2 ≠ 1) (v17 : Int) (e17 : v17 = fx_add v13 1) (c13 : 0 ≤ v17) (c14 : v17 < 8090) (v18 : Int) (e18 : v18 = S.1 67 v17) (b18 : -2147483648 ≤ v18 ∧ v18 ≤ 2147483647) (v19 : Int) (e19 : v19 = fx_add x6 1) (z : Int) (Z : fx_S) (kz : fx_Sok Z) (bz : -2147483648 ≤ z ∧ z ≤ 2147483647) (pz : s262 S x1 x2 x3 v18 v19 z Z) : s262 S x1 x2 x3 x5 x6 z Z := by
  obtain rfl : S = Z := pz
  exact rfl
theorem q262_7 (S : fx_S) (x1 x2 x3 x5 x6 : Int) (hS : fx_Sok S) (g1 : -2147483648 ≤ x1 ∧ x1 ≤ 2147483647) (g2 : -2147483648 ≤ x2 ∧ x2 ≤ 2147483647) (g3 : -2147483648 ≤ x3 ∧ x3 ≤ 2147483647) (g5 : -2147483648 ≤ x5 ∧ x5 ≤ 2147483647) (g6 : -2147483648 ≤ x6 ∧ x6 ≤ 2147483647) (c1 : x1 ≠ (-1)) (v5 : Int) (e5 : v5 = fx_mul 260 x1) (v6 : Int) (e6 : v6 = fx_add 1100 v5) (v7 : Int) (e7 : v7 = fx_add v6 3) (c2 : 0 ≤ v7) (c3 : v7 < 8090) (v8 : Int) (e8 : v8 = S.1 67 v7) (b8 : -2147483648 ≤ v8 ∧ v8 ≤ 2147483647) (c4 : x6 < v8) (v9 : Int) (e9 : v9 = fx_mul 260 x1) (v10 : Int) (e10 : v10 = fx_add 1100 v9) (v11 : Int) (e11 : v11 = fx_add v10 4) (v12 : Int) (e12 : v12 = fx_mul 16 x6) (v13 : Int) (e13 : v13 = fx_add v11 v12) (c5 : 0 ≤ v13) (c6 : v13 < 8090) (v14 : Int) (e14 : v14 = S.1 67 v13) (b14 : -2147483648 ≤ v14 ∧ v14 ≤ 2147483647) (c7 : v14 = x2) (c8 : x2 = 1) (v15 : Int) (e15 : v15 = fx_add v13 1) (c9 : 0 ≤ v15) (c10 : v15 < 8090) (v16 : Int) (e16 : v16 = S.1 67 v15) (b16 : -2147483648 ≤ v16 ∧ v16 ≤ 2147483647) (c11 : v16 = x3) (c12 : x2 = 1) (v17 : Int) (e17 : v17 = fx_add v13 2) (c13 : 0 ≤ v17) (c14 : v17 < 8090) (v18 : Int) (e18 : v18 = S.1 67 v17) (b18 : -2147483648 ≤ v18 ∧ v18 ≤ 2147483647) (v19 : Int) (e19 : v19 = fx_add x6 1) (z : Int) (Z : fx_S) (kz : fx_Sok Z) (bz : -2147483648 ≤ z ∧ z ≤ 2147483647) (pz : s262 S x1 x2 x3 v18 v19 z Z) : s262 S x1 x2 x3 x5 x6 z Z := by
  obtain rfl : S = Z := pz
  exact rfl
theorem q263_0 (S : fx_S) (x1 x2 : Int) (hS : fx_Sok S) (g1 : -2147483648 ≤ x1 ∧ x1 ≤ 2147483647) (g2 : -2147483648 ≤ x2 ∧ x2 ≤ 2147483647) (c1 : 9 ≤ x2) (z : Int) (Z : fx_S) (kz : fx_Sok Z) (bz : -2147483648 ≤ z ∧ z ≤ 2147483647) (pz : s319 S x1 0 z Z) : s263 S x1 x2 z Z := by
  obtain ⟨rZ, fZ⟩ := pz
  refine ⟨rZ, ?_⟩
  · intro p i hW
    clear c1
    exact (fZ p i (by omega))
theorem q263_1 (S : fx_S) (x1 x2 : Int) (hS : fx_Sok S) (g1 : -2147483648 ≤ x1 ∧ x1 ≤ 2147483647) (g2 : -2147483648 ≤ x2 ∧ x2 ≤ 2147483647) (c1 : x2 < 9) (c2 : x2 ≠ 4) (c3 : 0 ≤ x2) (c4 : x2 < 9) (S1 : fx_S) (d1 : S1 = (fx_up S.1 78 x2 1000000, S.2)) (v2 : Int) (e2 : v2 = fx_add x2 1) (z : Int) (Z : fx_S) (kz : fx_Sok Z) (bz : -2147483648 ≤ z ∧ z ≤ 2147483647) (pz : s263 S1 x1 v2 z Z) : s263 S x1 x2 z Z := by
  obtain ⟨rZ, fZ⟩ := pz
  refine ⟨(rZ).trans ((show S1.2 = S.2 by rw [d1])), ?_⟩
  · intro p i hW
    clear e2 c4 c3 c2 c1
    exact ((fZ p i (by omega))).trans ((show S1.1 p i = S.1 p i by rw [d1]; exact if_neg (by omega)))
theorem q263_2 (S : fx_S) (x1 x2 : Int) (hS : fx_Sok S) (g1 : -2147483648 ≤ x1 ∧ x1 ≤ 2147483647) (g2 : -2147483648 ≤ x2 ∧ x2 ≤ 2147483647) (c1 : x2 < 9) (c2 : x2 = 4) (c3 : 0 ≤ x2) (c4 : x2 < 9) (S1 : fx_S) (d1 : S1 = (fx_up S.1 78 x2 0, S.2)) (v2 : Int) (e2 : v2 = fx_add x2 1) (z : Int) (Z : fx_S) (kz : fx_Sok Z) (bz : -2147483648 ≤ z ∧ z ≤ 2147483647) (pz : s263 S1 x1 v2 z Z) : s263 S x1 x2 z Z := by
  obtain ⟨rZ, fZ⟩ := pz
  refine ⟨(rZ).trans ((show S1.2 = S.2 by rw [d1])), ?_⟩
  · intro p i hW
    clear e2 c4 c3 c2 c1
    exact ((fZ p i (by omega))).trans ((show S1.1 p i = S.1 p i by rw [d1]; exact if_neg (by omega)))
theorem q264_0 (S : fx_S) (hS : fx_Sok S) (z : Int) (Z : fx_S) (kz : fx_Sok Z) (bz : -2147483648 ≤ z ∧ z ≤ 2147483647) (pz : s320 S 0 0 z Z) : s264 S  z Z := by
  obtain ⟨rZ, fZ⟩ := pz
  refine ⟨rZ, ?_⟩
  · intro p i hW
    exact (fZ p i (by omega))
theorem q265_0 (S : fx_S) (hS : fx_Sok S) (z : Int) (Z : fx_S) (kz : fx_Sok Z) (bz : -2147483648 ≤ z ∧ z ≤ 2147483647) (pz : s321 S 0 0 z Z) : s265 S  z Z := by
  obtain ⟨rZ, fZ⟩ := pz
  refine ⟨rZ, ?_⟩
  · intro p i hW
    exact (fZ p i (by omega))
theorem q266_0 (S : fx_S) (x1 x2 : Int) (hS : fx_Sok S) (g1 : -2147483648 ≤ x1 ∧ x1 ≤ 2147483647) (g2 : -2147483648 ≤ x2 ∧ x2 ≤ 2147483647) (c1 : x2 = 0) : s266 S x1 x2 x1 S := by
  unfold s266
  intro hB
  have BS := hB
  have NS := fx_WB_n BS
  refine ⟨rfl, ?_, BS⟩
  · intro p i hW
    exact rfl
theorem q266_1 (S : fx_S) (x1 x2 : Int) (hS : fx_Sok S) (g1 : -2147483648 ≤ x1 ∧ x1 ≤ 2147483647) (g2 : -2147483648 ≤ x2 ∧ x2 ≤ 2147483647) (c1 : x2 ≠ 0) (z : Int) (Z : fx_S) (kz : fx_Sok Z) (bz : -2147483648 ≤ z ∧ z ≤ 2147483647) (pz : s322 S x1 0 0 z Z) : s266 S x1 x2 z Z := by
  unfold s322 at pz
  unfold s266
  intro hB
  have BS := hB
  have NS := fx_WB_n BS
  obtain ⟨rZ, fZ, BZ⟩ := pz BS (by omega)
  refine ⟨rZ, ?_, BZ⟩
  · intro p i hW
    exact (fZ p i (by omega))
theorem q267_0 (S : fx_S) (x1 x2 : Int) (hS : fx_Sok S) (g1 : -2147483648 ≤ x1 ∧ x1 ≤ 2147483647) (g2 : -2147483648 ≤ x2 ∧ x2 ≤ 2147483647) (v2 : Int) (e2 : v2 = S.1 13 0) (b2 : -2147483648 ≤ v2 ∧ v2 ≤ 2147483647) (c1 : v2 ≤ x2) : s267 S x1 x2 0 S := by
  refine ⟨rfl, ?_⟩
  · intro p i hW
    clear c1 b2 e2
    exact rfl
theorem q267_1 (S : fx_S) (x1 x2 : Int) (hS : fx_Sok S) (g1 : -2147483648 ≤ x1 ∧ x1 ≤ 2147483647) (g2 : -2147483648 ≤ x2 ∧ x2 ≤ 2147483647) (v2 : Int) (e2 : v2 = S.1 13 0) (b2 : -2147483648 ≤ v2 ∧ v2 ≤ 2147483647) (c1 : x2 < v2) (c2 : 0 ≤ x2) (c3 : x2 < 80) (v3 : Int) (e3 : v3 = S.1 16 x2) (b3 : -2147483648 ≤ v3 ∧ v3 ≤ 2147483647) (v4 : Int) (S1 : fx_S) (k1 : fx_Sok S1) (b4 : -2147483648 ≤ v4 ∧ v4 ≤ 2147483647) (p1 : s123 S v3 x1 v4 S1) (v5 : Int) (S2 : fx_S) (k2 : fx_Sok S2) (b5 : -2147483648 ≤ v5 ∧ v5 ≤ 2147483647) (p2 : s137 S1 v4 x2 x1 v5 S2) (c4 : 0 ≤ x2) (c5 : x2 < 80) (S3 : fx_S) (d3 : S3 = (fx_up S2.1 62 x2 v5, S2.2)) (v6 : Int) (e6 : v6 = fx_add x2 1) (z : Int) (Z : fx_S) (kz : fx_Sok Z) (bz : z = 0) (pz : s267 S3 x1 v6 z Z) : s267 S x1 x2 z Z := by
  obtain ⟨rfl, p1⟩ := p1
  obtain rfl : S = S2 := p2
  obtain ⟨rZ, fZ⟩ := pz
  refine ⟨(rZ).trans ((show S3.2 = S.2 by rw [d3])), ?_⟩
  · intro p i hW
    clear e6 c5 c4 b5 b4 b3 e3 c3 c2 c1 b2 e2
    exact ((fZ p i (by omega))).trans ((show S3.1 p i = S.1 p i by rw [d3]; exact if_neg (by omega)))
theorem q268_0 (S : fx_S) (x1 x2 x3 x4 : Int) (hS : fx_Sok S) (g1 : -2147483648 ≤ x1 ∧ x1 ≤ 2147483647) (g2 : -2147483648 ≤ x2 ∧ x2 ≤ 2147483647) (g3 : -2147483648 ≤ x3 ∧ x3 ≤ 2147483647) (g4 : -2147483648 ≤ x4 ∧ x4 ≤ 2147483647) (v4 : Int) (e4 : v4 = S.1 13 0) (b4 : -2147483648 ≤ v4 ∧ v4 ≤ 2147483647) (c1 : v4 ≤ x4) (v5 : Int) (S1 : fx_S) (k1 : fx_Sok S1) (b5 : -2147483648 ≤ v5 ∧ v5 ≤ 2147483647) (p1 : s123 S x1 x2 v5 S1) (c2 : v5 < 0) (v6 : Int) (S2 : fx_S) (k2 : fx_Sok S2) (b6 : -2147483648 ≤ v6 ∧ v6 ≤ 2147483647) (p2 : s188 S1 90 30 v6 S2) (c3 : v6 ≠ 0) (v7 : Int) (e7 : v7 = fx_div x1 v6) (z : Int) (Z : fx_S) (kz : fx_Sok Z) (bz : -2147483648 ≤ z ∧ z ≤ 2147483647) (pz : s323 S2 x3 v7 0 z Z) : s268 S x1 x2 x3 x4 z Z := by
  obtain ⟨rfl, p1⟩ := p1
  obtain ⟨rfl, p2⟩ := p2
  obtain rfl : S = Z := pz
  exact rfl
theorem q268_1 (S : fx_S) (x1 x2 x3 x4 : Int) (hS : fx_Sok S) (g1 : -2147483648 ≤ x1 ∧ x1 ≤ 2147483647) (g2 : -2147483648 ≤ x2 ∧ x2 ≤ 2147483647) (g3 : -2147483648 ≤ x3 ∧ x3 ≤ 2147483647) (g4 : -2147483648 ≤ x4 ∧ x4 ≤ 2147483647) (v4 : Int) (e4 : v4 = S.1 13 0) (b4 : -2147483648 ≤ v4 ∧ v4 ≤ 2147483647) (c1 : v4 ≤ x4) (v5 : Int) (S1 : fx_S) (k1 : fx_Sok S1) (b5 : -2147483648 ≤ v5 ∧ v5 ≤ 2147483647) (p1 : s123 S x1 x2 v5 S1) (c2 : 0 ≤ v5) (v6 : Int) (e6 : v6 = S1.1 2 8) (b6 : -2147483648 ≤ v6 ∧ v6 ≤ 2147483647) (c3 : v6 ≤ v5) (v7 : Int) (S2 : fx_S) (k2 : fx_Sok S2) (b7 : -2147483648 ≤ v7 ∧ v7 ≤ 2147483647) (p2 : s188 S1 90 30 v7 S2) (c4 : v7 ≠ 0) (v8 : Int) (e8 : v8 = fx_div x1 v7) (z : Int) (Z : fx_S) (kz : fx_Sok Z) (bz : -2147483648 ≤ z ∧ z ≤ 2147483647) (pz : s323 S2 x3 v8 0 z Z) : s268 S x1 x2 x3 x4 z Z := by
  obtain ⟨rfl, p1⟩ := p1
  obtain ⟨rfl, p2⟩ := p2
  obtain rfl : S = Z := pz
  exact rfl
theorem q268_2 (S : fx_S) (x1 x2 x3 x4 : Int) (hS : fx_Sok S) (g1 : -2147483648 ≤ x1 ∧ x1 ≤ 2147483647) (g2 : -2147483648 ≤ x2 ∧ x2 ≤ 2147483647) (g3 : -2147483648 ≤ x3 ∧ x3 ≤ 2147483647) (g4 : -2147483648 ≤ x4 ∧ x4 ≤ 2147483647) (v4 : Int) (e4 : v4 = S.1 13 0) (b4 : -2147483648 ≤ v4 ∧ v4 ≤ 2147483647) (c1 : v4 ≤ x4) (v5 : Int) (S1 : fx_S) (k1 : fx_Sok S1) (b5 : -2147483648 ≤ v5 ∧ v5 ≤ 2147483647) (p1 : s123 S x1 x2 v5 S1) (c2 : 0 ≤ v5) (v6 : Int) (e6 : v6 = S1.1 2 8) (b6 : -2147483648 ≤ v6 ∧ v6 ≤ 2147483647) (c3 : v5 < v6) (c4 : 0 ≤ v5) (c5 : v5 < 10) (v7 : Int) (e7 : v7 = S1.2.1 9 v5) (c6 : v7 = (-1)) (v8 : Int) (S2 : fx_S) (k2 : fx_Sok S2) (b8 : -2147483648 ≤ v8 ∧ v8 ≤ 2147483647) (p2 : s188 S1 90 30 v8 S2) (c7 : v8 ≠ 0) (v9 : Int) (e9 : v9 = fx_div x1 v8) (z : Int) (Z : fx_S) (kz : fx_Sok Z) (bz : -2147483648 ≤ z ∧ z ≤ 2147483647) (pz : s323 S2 x3 v9 0 z Z) : s268 S x1 x2 x3 x4 z Z := by
  obtain ⟨rfl, p1⟩ := p1
  obtain ⟨rfl, p2⟩ := p2
  obtain rfl : S = Z := pz
  exact rfl
theorem q268_3 (S : fx_S) (x1 x2 x3 x4 : Int) (hS : fx_Sok S) (g1 : -2147483648 ≤ x1 ∧ x1 ≤ 2147483647) (g2 : -2147483648 ≤ x2 ∧ x2 ≤ 2147483647) (g3 : -2147483648 ≤ x3 ∧ x3 ≤ 2147483647) (g4 : -2147483648 ≤ x4 ∧ x4 ≤ 2147483647) (v4 : Int) (e4 : v4 = S.1 13 0) (b4 : -2147483648 ≤ v4 ∧ v4 ≤ 2147483647) (c1 : v4 ≤ x4) (v5 : Int) (S1 : fx_S) (k1 : fx_Sok S1) (b5 : -2147483648 ≤ v5 ∧ v5 ≤ 2147483647) (p1 : s123 S x1 x2 v5 S1) (c2 : 0 ≤ v5) (v6 : Int) (e6 : v6 = S1.1 2 8) (b6 : -2147483648 ≤ v6 ∧ v6 ≤ 2147483647) (c3 : v5 < v6) (c4 : 0 ≤ v5) (c5 : v5 < 10) (v7 : Int) (e7 : v7 = S1.2.1 9 v5) (c6 : v7 ≠ (-1)) (c7 : v7 ≠ (-1)) (v8 : Int) (e8 : v8 = S1.1 v7 3) (b8 : -2147483648 ≤ v8 ∧ v8 ≤ 2147483647) (v9 : Int) (e9 : v9 = fx_mul 30 v8) (v10 : Int) (S2 : fx_S) (k2 : fx_Sok S2) (b10 : -2147483648 ≤ v10 ∧ v10 ≤ 2147483647) (p2 : s188 S1 v9 30 v10 S2) (c8 : v10 ≠ 0) (v11 : Int) (e11 : v11 = fx_div x1 v10) (z : Int) (Z : fx_S) (kz : fx_Sok Z) (bz : -2147483648 ≤ z ∧ z ≤ 2147483647) (pz : s323 S2 x3 v11 0 z Z) : s268 S x1 x2 x3 x4 z Z := by
  obtain ⟨rfl, p1⟩ := p1
  obtain ⟨rfl, p2⟩ := p2
  obtain rfl : S = Z := pz
  exact rfl
theorem q268_4 (S : fx_S) (x1 x2 x3 x4 : Int) (hS : fx_Sok S) (g1 : -2147483648 ≤ x1 ∧ x1 ≤ 2147483647) (g2 : -2147483648 ≤ x2 ∧ x2 ≤ 2147483647) (g3 : -2147483648 ≤ x3 ∧ x3 ≤ 2147483647) (g4 : -2147483648 ≤ x4 ∧ x4 ≤ 2147483647) (v4 : Int) (e4 : v4 = S.1 13 0) (b4 : -2147483648 ≤ v4 ∧ v4 ≤ 2147483647) (c1 : x4 < v4) (c2 : 0 ≤ x4) (c3 : x4 < 80) (v5 : Int) (e5 : v5 = S.1 62 x4) (b5 : -2147483648 ≤ v5 ∧ v5 ≤ 2147483647) (v6 : Int) (S1 : fx_S) (k1 : fx_Sok S1) (b6 : -2147483648 ≤ v6 ∧ v6 ≤ 2147483647) (p1 : s114 S v5 0 3 v6 S1) (c4 : v6 = 0) (v7 : Int) (e7 : v7 = fx_add x4 1) (z : Int) (Z : fx_S) (kz : fx_Sok Z) (bz : -2147483648 ≤ z ∧ z ≤ 2147483647) (pz : s268 S1 x1 x2 x3 v7 z Z) : s268 S x1 x2 x3 x4 z Z := by
  obtain ⟨rfl, p1⟩ := p1
  obtain rfl : S = Z := pz
  exact rfl
theorem q268_5 (S : fx_S) (x1 x2 x3 x4 : Int) (hS : fx_Sok S) (g1 : -2147483648 ≤ x1 ∧ x1 ≤ 2147483647) (g2 : -2147483648 ≤ x2 ∧ x2 ≤ 2147483647) (g3 : -2147483648 ≤ x3 ∧ x3 ≤ 2147483647) (g4 : -2147483648 ≤ x4 ∧ x4 ≤ 2147483647) (v4 : Int) (e4 : v4 = S.1 13 0) (b4 : -2147483648 ≤ v4 ∧ v4 ≤ 2147483647) (c1 : x4 < v4) (c2 : 0 ≤ x4) (c3 : x4 < 80) (v5 : Int) (e5 : v5 = S.1 62 x4) (b5 : -2147483648 ≤ v5 ∧ v5 ≤ 2147483647) (v6 : Int) (S1 : fx_S) (k1 : fx_Sok S1) (b6 : -2147483648 ≤ v6 ∧ v6 ≤ 2147483647) (p1 : s114 S v5 0 3 v6 S1) (c4 : v6 ≠ 0) (v7 : Int) (S2 : fx_S) (k2 : fx_Sok S2) (b7 : -2147483648 ≤ v7 ∧ v7 ≤ 2147483647) (p2 : s234 S1 x4 x1 v7 S2) (c5 : v7 = 0) (v8 : Int) (e8 : v8 = fx_add x4 1) (z : Int) (Z : fx_S) (kz : fx_Sok Z) (bz : -2147483648 ≤ z ∧ z ≤ 2147483647) (pz : s268 S2 x1 x2 x3 v8 z Z) : s268 S x1 x2 x3 x4 z Z := by
  obtain ⟨rfl, p1⟩ := p1
  obtain ⟨rfl, p2⟩ := p2
  obtain rfl : S = Z := pz
  exact rfl
theorem q268_6 (S : fx_S) (x1 x2 x3 x4 : Int) (hS : fx_Sok S) (g1 : -2147483648 ≤ x1 ∧ x1 ≤ 2147483647) (g2 : -2147483648 ≤ x2 ∧ x2 ≤ 2147483647) (g3 : -2147483648 ≤ x3 ∧ x3 ≤ 2147483647) (g4 : -2147483648 ≤ x4 ∧ x4 ≤ 2147483647) (v4 : Int) (e4 : v4 = S.1 13 0) (b4 : -2147483648 ≤ v4 ∧ v4 ≤ 2147483647) (c1 : x4 < v4) (c2 : 0 ≤ x4) (c3 : x4 < 80) (v5 : Int) (e5 : v5 = S.1 62 x4) (b5 : -2147483648 ≤ v5 ∧ v5 ≤ 2147483647) (v6 : Int) (S1 : fx_S) (k1 : fx_Sok S1) (b6 : -2147483648 ≤ v6 ∧ v6 ≤ 2147483647) (p1 : s114 S v5 0 3 v6 S1) (c4 : v6 ≠ 0) (v7 : Int) (S2 : fx_S) (k2 : fx_Sok S2) (b7 : -2147483648 ≤ v7 ∧ v7 ≤ 2147483647) (p2 : s234 S1 x4 x1 v7 S2) (c5 : v7 ≠ 0) (v8 : Int) (e8 : v8 = fx_shl 1 v5) (v9 : Int) (e9 : v9 = fx_or x3 v8) (v10 : Int) (e10 : v10 = fx_add x4 1) (z : Int) (Z : fx_S) (kz : fx_Sok Z) (bz : -2147483648 ≤ z ∧ z ≤ 2147483647) (pz : s268 S2 x1 x2 v9 v10 z Z) : s268 S x1 x2 x3 x4 z Z := by
  obtain ⟨rfl, p1⟩ := p1
  obtain ⟨rfl, p2⟩ := p2
  obtain rfl : S = Z := pz
  exact rfl
theorem q269_0 (S : fx_S) (x1 x2 : Int) (hS : fx_Sok S) (g1 : -2147483648 ≤ x1 ∧ x1 ≤ 2147483647) (g2 : -2147483648 ≤ x2 ∧ x2 ≤ 2147483647) (v2 : Int) (e2 : v2 = S.1 67 2) (b2 : -2147483648 ≤ v2 ∧ v2 ≤ 2147483647) (c1 : v2 ≤ x2) : s269 S x1 x2 0 S := by
  refine ⟨rfl, ?_⟩
  · intro p i hW
    clear c1 b2 e2
    exact rfl
theorem q269_1 (S : fx_S) (x1 x2 : Int) (hS : fx_Sok S) (g1 : -2147483648 ≤ x1 ∧ x1 ≤ 2147483647) (g2 : -2147483648 ≤ x2 ∧ x2 ≤ 2147483647) (v2 : Int) (e2 : v2 = S.1 67 2) (b2 : -2147483648 ≤ v2 ∧ v2 ≤ 2147483647) (c1 : x2 < v2) (v3 : Int) (S1 : fx_S) (k1 : fx_Sok S1) (b3 : -2147483648 ≤ v3 ∧ v3 ≤ 2147483647) (p1 : s138 S x2 x1 v3 S1) (c2 : 0 ≤ x2) (c3 : x2 < 80) (S2 : fx_S) (d2 : S2 = (fx_up S1.1 80 x2 v3, S1.2)) (v4 : Int) (e4 : v4 = fx_add x2 1) (z : Int) (Z : fx_S) (kz : fx_Sok Z) (bz : z = 0) (pz : s269 S2 x1 v4 z Z) : s269 S x1 x2 z Z := by
  obtain ⟨r1, f1, p1⟩ := p1
  obtain ⟨rZ, fZ⟩ := pz
  refine ⟨(rZ).trans (((show S2.2 = S1.2 by rw [d2])).trans (r1)), ?_⟩
  · intro p i hW
    clear e4 c3 c2 b3 c1 b2 e2
    exact ((fZ p i (by omega))).trans (((show S2.1 p i = S1.1 p i by rw [d2]; exact if_neg (by omega))).trans ((f1 p i (by omega))))
theorem q270_0 (S : fx_S) (x1 x4 x5 : Int) (hS : fx_Sok S) (g1 : -2147483648 ≤ x1 ∧ x1 ≤ 2147483647) (g4 : -2147483648 ≤ x4 ∧ x4 ≤ 2147483647) (g5 : -2147483648 ≤ x5 ∧ x5 ≤ 2147483647) (c1 : 4 ≤ x5) : s270 S x1 x4 x5 (-1) S := by
  exact rfl
theorem q270_1 (S : fx_S) (x1 x4 x5 : Int) (hS : fx_Sok S) (g1 : -2147483648 ≤ x1 ∧ x1 ≤ 2147483647) (g4 : -2147483648 ≤ x4 ∧ x4 ≤ 2147483647) (g5 : -2147483648 ≤ x5 ∧ x5 ≤ 2147483647) (c1 : x5 < 4) (z : Int) (Z : fx_S) (kz : fx_Sok Z) (bz : -2147483648 ≤ z ∧ z ≤ 2147483647) (pz : s324 S x1 x4 x5 0 z Z) : s270 S x1 x4 x5 z Z := by
  obtain rfl : S = Z := pz
  exact rfl
theorem q271_0 (S : fx_S) (x1 : Int) (hS : fx_Sok S) (g1 : -2147483648 ≤ x1 ∧ x1 ≤ 2147483647) (v1 : Int) (e1 : v1 = S.1 1 0) (b1 : -2147483648 ≤ v1 ∧ v1 ≤ 2147483647) (v2 : Int) (S1 : fx_S) (k1 : fx_Sok S1) (b2 : -2147483648 ≤ v2 ∧ v2 ≤ 2147483647) (p1 : s123 S x1 v1 v2 S1) (c1 : v2 < 0) (v3 : Int) (S2 : fx_S) (k2 : fx_Sok S2) (b3 : -2147483648 ≤ v3 ∧ v3 ≤ 2147483647) (p2 : s188 S1 90 30 v3 S2) (c2 : v3 ≠ 0) (v4 : Int) (e4 : v4 = fx_div x1 v3) (v5 : Int) (e5 : v5 = fx_add v4 1) (v6 : Int) (e6 : v6 = fx_mul v5 v3) (v7 : Int) (S3 : fx_S) (k3 : fx_Sok S3) (b7 : -2147483648 ≤ v7 ∧ v7 ≤ 2147483647) (p3 : s325 S2 x1 v7 S3) (v8 : Int) (S4 : fx_S) (k4 : fx_Sok S4) (b8 : -2147483648 ≤ v8 ∧ v8 ≤ 2147483647) (p4 : s125 S3 v6 v7 v8 S4) (v9 : Int) (S5 : fx_S) (k5 : fx_Sok S5) (b9 : -2147483648 ≤ v9 ∧ v9 ≤ 2147483647) (p5 : s326 S4 x1 v9 S5) (v10 : Int) (S6 : fx_S) (k6 : fx_Sok S6) (b10 : -2147483648 ≤ v10 ∧ v10 ≤ 2147483647) (p6 : s125 S5 v8 v9 v10 S6) : s271 S x1 v10 S6 := by
  obtain ⟨rfl, p1⟩ := p1
  obtain ⟨rfl, p2⟩ := p2
  obtain rfl : S = S3 := p3
  obtain ⟨rfl, p4⟩ := p4
  obtain rfl : S = S5 := p5
  obtain ⟨rfl, p6⟩ := p6
  exact rfl
theorem q271_1 (S : fx_S) (x1 : Int) (hS : fx_Sok S) (g1 : -2147483648 ≤ x1 ∧ x1 ≤ 2147483647) (v1 : Int) (e1 : v1 = S.1 1 0) (b1 : -2147483648 ≤ v1 ∧ v1 ≤ 2147483647) (v2 : Int) (S1 : fx_S) (k1 : fx_Sok S1) (b2 : -2147483648 ≤ v2 ∧ v2 ≤ 2147483647) (p1 : s123 S x1 v1 v2 S1) (c1 : 0 ≤ v2) (v3 : Int) (e3 : v3 = S1.1 2 8) (b3 : -2147483648 ≤ v3 ∧ v3 ≤ 2147483647) (c2 : v3 ≤ v2) (v4 : Int) (S2 : fx_S) (k2 : fx_Sok S2) (b4 : -2147483648 ≤ v4 ∧ v4 ≤ 2147483647) (p2 : s188 S1 90 30 v4 S2) (c3 : v4 ≠ 0) (v5 : Int) (e5 : v5 = fx_div x1 v4) (v6 : Int) (e6 : v6 = fx_add v5 1) (v7 : Int) (e7 : v7 = fx_mul v6 v4) (v8 : Int) (S3 : fx_S) (k3 : fx_Sok S3) (b8 : -2147483648 ≤ v8 ∧ v8 ≤ 2147483647) (p3 : s325 S2 x1 v8 S3) (v9 : Int) (S4 : fx_S) (k4 : fx_Sok S4) (b9 : -2147483648 ≤ v9 ∧ v9 ≤ 2147483647) (p4 : s125 S3 v7 v8 v9 S4) (v10 : Int) (S5 : fx_S) (k5 : fx_Sok S5) (b10 : -2147483648 ≤ v10 ∧ v10 ≤ 2147483647) (p5 : s326 S4 x1 v10 S5) (v11 : Int) (S6 : fx_S) (k6 : fx_Sok S6) (b11 : -2147483648 ≤ v11 ∧ v11 ≤ 2147483647) (p6 : s125 S5 v9 v10 v11 S6) : s271 S x1 v11 S6 := by
  obtain ⟨rfl, p1⟩ := p1
  obtain ⟨rfl, p2⟩ := p2
  obtain rfl : S = S3 := p3
  obtain ⟨rfl, p4⟩ := p4
  obtain rfl : S = S5 := p5
  obtain ⟨rfl, p6⟩ := p6
  exact rfl
theorem q271_2 (S : fx_S) (x1 : Int) (hS : fx_Sok S) (g1 : -2147483648 ≤ x1 ∧ x1 ≤ 2147483647) (v1 : Int) (e1 : v1 = S.1 1 0) (b1 : -2147483648 ≤ v1 ∧ v1 ≤ 2147483647) (v2 : Int) (S1 : fx_S) (k1 : fx_Sok S1) (b2 : -2147483648 ≤ v2 ∧ v2 ≤ 2147483647) (p1 : s123 S x1 v1 v2 S1) (c1 : 0 ≤ v2) (v3 : Int) (e3 : v3 = S1.1 2 8) (b3 : -2147483648 ≤ v3 ∧ v3 ≤ 2147483647) (c2 : v2 < v3) (c3 : 0 ≤ v2) (c4 : v2 < 10) (v4 : Int) (e4 : v4 = S1.2.1 9 v2) (c5 : v4 = (-1)) (v5 : Int) (S2 : fx_S) (k2 : fx_Sok S2) (b5 : -2147483648 ≤ v5 ∧ v5 ≤ 2147483647) (p2 : s188 S1 90 30 v5 S2) (c6 : v5 ≠ 0) (v6 : Int) (e6 : v6 = fx_div x1 v5) (v7 : Int) (e7 : v7 = fx_add v6 1) (v8 : Int) (e8 : v8 = fx_mul v7 v5) (v9 : Int) (S3 : fx_S) (k3 : fx_Sok S3) (b9 : -2147483648 ≤ v9 ∧ v9 ≤ 2147483647) (p3 : s325 S2 x1 v9 S3) (v10 : Int) (S4 : fx_S) (k4 : fx_Sok S4) (b10 : -2147483648 ≤ v10 ∧ v10 ≤ 2147483647) (p4 : s125 S3 v8 v9 v10 S4) (v11 : Int) (S5 : fx_S) (k5 : fx_Sok S5) (b11 : -2147483648 ≤ v11 ∧ v11 ≤ 2147483647) (p5 : s326 S4 x1 v11 S5) (v12 : Int) (S6 : fx_S) (k6 : fx_Sok S6) (b12 : -2147483648 ≤ v12 ∧ v12 ≤ 2147483647) (p6 : s125 S5 v10 v11 v12 S6) : s271 S x1 v12 S6 := by
  obtain ⟨rfl, p1⟩ := p1
  obtain ⟨rfl, p2⟩ := p2
  obtain rfl : S = S3 := p3
  obtain ⟨rfl, p4⟩ := p4
  obtain rfl : S = S5 := p5
  obtain ⟨rfl, p6⟩ := p6
  exact rfl
theorem q271_3 (S : fx_S) (x1 : Int) (hS : fx_Sok S) (g1 : -2147483648 ≤ x1 ∧ x1 ≤ 2147483647) (v1 : Int) (e1 : v1 = S.1 1 0) (b1 : -2147483648 ≤ v1 ∧ v1 ≤ 2147483647) (v2 : Int) (S1 : fx_S) (k1 : fx_Sok S1) (b2 : -2147483648 ≤ v2 ∧ v2 ≤ 2147483647) (p1 : s123 S x1 v1 v2 S1) (c1 : 0 ≤ v2) (v3 : Int) (e3 : v3 = S1.1 2 8) (b3 : -2147483648 ≤ v3 ∧ v3 ≤ 2147483647) (c2 : v2 < v3) (c3 : 0 ≤ v2) (c4 : v2 < 10) (v4 : Int) (e4 : v4 = S1.2.1 9 v2) (c5 : v4 ≠ (-1)) (c6 : v4 ≠ (-1)) (v5 : Int) (e5 : v5 = S1.1 v4 3) (b5 : -2147483648 ≤ v5 ∧ v5 ≤ 2147483647) (v6 : Int) (e6 : v6 = fx_mul 30 v5) (v7 : Int) (S2 : fx_S) (k2 : fx_Sok S2) (b7 : -2147483648 ≤ v7 ∧ v7 ≤ 2147483647) (p2 : s188 S1 v6 30 v7 S2) (c7 : v7 ≠ 0) (v8 : Int) (e8 : v8 = fx_div x1 v7) (v9 : Int) (e9 : v9 = fx_add v8 1) (v10 : Int) (e10 : v10 = fx_mul v9 v7) (v11 : Int) (S3 : fx_S) (k3 : fx_Sok S3) (b11 : -2147483648 ≤ v11 ∧ v11 ≤ 2147483647) (p3 : s325 S2 x1 v11 S3) (v12 : Int) (S4 : fx_S) (k4 : fx_Sok S4) (b12 : -2147483648 ≤ v12 ∧ v12 ≤ 2147483647) (p4 : s125 S3 v10 v11 v12 S4) (v13 : Int) (S5 : fx_S) (k5 : fx_Sok S5) (b13 : -2147483648 ≤ v13 ∧ v13 ≤ 2147483647) (p5 : s326 S4 x1 v13 S5) (v14 : Int) (S6 : fx_S) (k6 : fx_Sok S6) (b14 : -2147483648 ≤ v14 ∧ v14 ≤ 2147483647) (p6 : s125 S5 v12 v13 v14 S6) : s271 S x1 v14 S6 := by
  obtain ⟨rfl, p1⟩ := p1
  obtain ⟨rfl, p2⟩ := p2
  obtain rfl : S = S3 := p3
  obtain ⟨rfl, p4⟩ := p4
  obtain rfl : S = S5 := p5
  obtain ⟨rfl, p6⟩ := p6
  exact rfl
theorem q272_0 (S : fx_S) (x1 x2 x3 : Int) (hS : fx_Sok S) (g1 : -2147483648 ≤ x1 ∧ x1 ≤ 2147483647) (g2 : -2147483648 ≤ x2 ∧ x2 ≤ 2147483647) (g3 : -2147483648 ≤ x3 ∧ x3 ≤ 2147483647) (c1 : 0 ≤ x1) (c2 : x1 < 80) (v3 : Int) (e3 : v3 = S.1 19 x1) (b3 : -2147483648 ≤ v3 ∧ v3 ≤ 2147483647) (c3 : v3 ≤ x3) (c4 : 0 ≤ x1) (c5 : x1 < 80) (v4 : Int) (e4 : v4 = S.1 19 x1) (b4 : -2147483648 ≤ v4 ∧ v4 ≤ 2147483647) (c6 : v4 < 4) (v5 : Int) (e5 : v5 = fx_mul x1 4) (c7 : 0 ≤ x1) (c8 : x1 < 80) (v6 : Int) (e6 : v6 = S.1 19 x1) (b6 : -2147483648 ≤ v6 ∧ v6 ≤ 2147483647) (v7 : Int) (e7 : v7 = fx_add v5 v6) (c9 : 0 ≤ v7) (c10 : v7 < 320) (S1 : fx_S) (d1 : S1 = (fx_up S.1 20 v7 x2, S.2)) (c11 : 0 ≤ x1) (c12 : x1 < 80) (v8 : Int) (e8 : v8 = S1.1 19 x1) (b8 : -2147483648 ≤ v8 ∧ v8 ≤ 2147483647) (v9 : Int) (e9 : v9 = fx_add v8 1) (c13 : 0 ≤ x1) (c14 : x1 < 80) (S2 : fx_S) (d2 : S2 = (fx_up S1.1 19 x1 v9, S1.2)) (c15 : 0 ≤ x1) (c16 : x1 < 80) (v10 : Int) (e10 : v10 = S2.1 19 x1) (b10 : -2147483648 ≤ v10 ∧ v10 ≤ 2147483647) : s272 S x1 x2 x3 v10 S2 := by
  refine ⟨((show S2.2 = S1.2 by rw [d2])).trans ((show S1.2 = S.2 by rw [d1])), ?_, ?_⟩
  · intro p i hW
    clear b10 e10 c16 c15 c14 c13 e9 b8 e8 c12 c11 c10 c9 e7 b6 e6 c8 c7 e5 c6 b4 e4 c5 c4 c3 b3 e3 c2 c1
    exact ((show S2.1 p i = S1.1 p i by rw [d2]; exact if_neg (by omega))).trans ((show S1.1 p i = S.1 p i by rw [d1]; exact if_neg (by omega)))
  · skip
    intro a0 a1 a2
    obtain rfl : v3 = v4 := by rw [e4, e3]
    have h5 := e5
    first | rw [fx_mul_eq (by omega) (by omega)] at h5 | skip
    obtain rfl : v3 = v6 := by rw [e6, e3]
    have h7 := e7
    first | rw [fx_add_eq (by omega) (by omega)] at h7 | skip
    have t8_1 : S1.1 19 x1 = S.1 19 x1 := by rw [d1]; first | exact if_neg (by omega) | rfl
    rw [t8_1] at e8
    obtain rfl : v3 = v8 := by rw [e8, e3]
    have h9 := e9
    first | rw [fx_add_eq (by omega) (by omega)] at h9 | skip
    have t10_2 : S2.1 19 x1 = v9 := by rw [d2]; first | exact if_pos ⟨rfl, by omega⟩ | rfl
    rw [t10_2] at e10
    obtain rfl : v9 = v10 := e10.symm
    refine .inr ⟨fun k k0 k1 => absurd k1 (by omega), .inr ⟨by omega, by omega, fun i => ?_, fun i => ?_⟩⟩
    · by_cases hi : i = x1
      all_goals (subst d2; subst d1; dsimp only [fx_up]; repeat (first | rw [if_pos (by omega)] | rw [if_neg (by omega)]))
      all_goals first | omega | rfl
    · by_cases hi : i = 4 * x1 + S.1 19 x1
      all_goals (subst d2; subst d1; dsimp only [fx_up]; repeat (first | rw [if_pos (by omega)] | rw [if_neg (by omega)]))
      all_goals first | omega | rfl
theorem q272_1 (S : fx_S) (x1 x2 x3 : Int) (hS : fx_Sok S) (g1 : -2147483648 ≤ x1 ∧ x1 ≤ 2147483647) (g2 : -2147483648 ≤ x2 ∧ x2 ≤ 2147483647) (g3 : -2147483648 ≤ x3 ∧ x3 ≤ 2147483647) (c1 : 0 ≤ x1) (c2 : x1 < 80) (v3 : Int) (e3 : v3 = S.1 19 x1) (b3 : -2147483648 ≤ v3 ∧ v3 ≤ 2147483647) (c3 : v3 ≤ x3) (c4 : 0 ≤ x1) (c5 : x1 < 80) (v4 : Int) (e4 : v4 = S.1 19 x1) (b4 : -2147483648 ≤ v4 ∧ v4 ≤ 2147483647) (c6 : 4 ≤ v4) : s272 S x1 x2 x3 (-3) S := by
  refine ⟨rfl, ?_, ?_⟩
  · intro p i hW
    clear c6 b4 e4 c5 c4 c3 b3 e3 c2 c1
    exact rfl
  · skip
    intro a0 a1 a2
    obtain rfl : v3 = v4 := by rw [e4, e3]
    exact .inr ⟨fun k k0 k1 => absurd k1 (by omega), .inl ⟨rfl, by omega, rfl⟩⟩
theorem q272_2 (S : fx_S) (x1 x2 x3 : Int) (hS : fx_Sok S) (g1 : -2147483648 ≤ x1 ∧ x1 ≤ 2147483647) (g2 : -2147483648 ≤ x2 ∧ x2 ≤ 2147483647) (g3 : -2147483648 ≤ x3 ∧ x3 ≤ 2147483647) (c1 : 0 ≤ x1) (c2 : x1 < 80) (v3 : Int) (e3 : v3 = S.1 19 x1) (b3 : -2147483648 ≤ v3 ∧ v3 ≤ 2147483647) (c3 : x3 < v3) (v4 : Int) (e4 : v4 = fx_mul x1 4) (v5 : Int) (e5 : v5 = fx_add v4 x3) (c4 : 0 ≤ v5) (c5 : v5 < 320) (v6 : Int) (e6 : v6 = S.1 20 v5) (b6 : -2147483648 ≤ v6 ∧ v6 ≤ 2147483647) (c6 : v6 ≠ x2) (v7 : Int) (e7 : v7 = fx_add x3 1) (z : Int) (Z : fx_S) (kz : fx_Sok Z) (bz : -2147483648 ≤ z ∧ z ≤ 2147483647) (pz : s272 S x1 x2 v7 z Z) : s272 S x1 x2 x3 z Z := by
  obtain ⟨rZ, fZ, pz⟩ := pz
  refine ⟨rZ, ?_, ?_⟩
  · intro p i hW
    clear e7 c6 b6 e6 c5 c4 e5 e4 c3 b3 e3 c2 c1
    exact (fZ p i (by omega))
  · skip
    intro a0 a1 a2
    have h4 := e4
    first | rw [fx_mul_eq (by omega) (by omega)] at h4 | skip
    have h5 := e5
    first | rw [fx_add_eq (by omega) (by omega)] at h5 | skip
    have h7 := e7
    first | rw [fx_add_eq (by omega) (by omega)] at h7 | skip
    rcases pz (by omega) a1 a2 with ⟨b1, ⟨k, k0, k1, k2⟩, b3⟩ | ⟨b1, b2⟩
    · exact .inl ⟨b1, ⟨k, by omega, k1, k2⟩, b3⟩
    · refine .inr ⟨fun k k0 k1 => ?_, b2⟩
      by_cases hk : k = x3
      · rw [hk, show 4 * x1 + x3 = v5 by omega, ← e6]
        exact c6
      · exact b1 k (by omega) k1
theorem q272_3 (S : fx_S) (x1 x2 x3 : Int) (hS : fx_Sok S) (g1 : -2147483648 ≤ x1 ∧ x1 ≤ 2147483647) (g2 : -2147483648 ≤ x2 ∧ x2 ≤ 2147483647) (g3 : -2147483648 ≤ x3 ∧ x3 ≤ 2147483647) (c1 : 0 ≤ x1) (c2 : x1 < 80) (v3 : Int) (e3 : v3 = S.1 19 x1) (b3 : -2147483648 ≤ v3 ∧ v3 ≤ 2147483647) (c3 : x3 < v3) (v4 : Int) (e4 : v4 = fx_mul x1 4) (v5 : Int) (e5 : v5 = fx_add v4 x3) (c4 : 0 ≤ v5) (c5 : v5 < 320) (v6 : Int) (e6 : v6 = S.1 20 v5) (b6 : -2147483648 ≤ v6 ∧ v6 ≤ 2147483647) (c6 : v6 = x2) : s272 S x1 x2 x3 (-2) S := by
  refine ⟨rfl, ?_, ?_⟩
  · intro p i hW
    clear c6 b6 e6 c5 c4 e5 e4 c3 b3 e3 c2 c1
    exact rfl
  · skip
    intro a0 a1 a2
    have h4 := e4
    first | rw [fx_mul_eq (by omega) (by omega)] at h4 | skip
    have h5 := e5
    first | rw [fx_add_eq (by omega) (by omega)] at h5 | skip
    exact .inl ⟨rfl, ⟨x3, by omega, by omega, by show S.1 20 (4 * x1 + x3) = x2; rw [show 4 * x1 + x3 = v5 by omega, ← e6]; exact c6⟩, rfl⟩
theorem q273_0 (S : fx_S) (x1 x2 x3 : Int) (hS : fx_Sok S) (g1 : -2147483648 ≤ x1 ∧ x1 ≤ 2147483647) (g2 : -2147483648 ≤ x2 ∧ x2 ≤ 2147483647) (g3 : -2147483648 ≤ x3 ∧ x3 ≤ 2147483647) (c1 : x3 ≤ x2) : s273 S x1 x2 x3 0 S := by
  refine ⟨rfl, ?_⟩
  · intro p i hW
    clear c1
    exact rfl
theorem q273_1 (S : fx_S) (x1 x2 x3 : Int) (hS : fx_Sok S) (g1 : -2147483648 ≤ x1 ∧ x1 ≤ 2147483647) (g2 : -2147483648 ≤ x2 ∧ x2 ≤ 2147483647) (g3 : -2147483648 ≤ x3 ∧ x3 ≤ 2147483647) (c1 : x2 < x3) (c2 : 0 ≤ x2) (c3 : x2 < 80) (S1 : fx_S) (d1 : S1 = (fx_up S.1 61 x2 x1, S.2)) (v3 : Int) (e3 : v3 = fx_add x2 1) (z : Int) (Z : fx_S) (kz : fx_Sok Z) (bz : z = 0) (pz : s273 S1 x1 v3 x3 z Z) : s273 S x1 x2 x3 z Z := by
  obtain ⟨rZ, fZ⟩ := pz
  refine ⟨(rZ).trans ((show S1.2 = S.2 by rw [d1])), ?_⟩
  · intro p i hW
    clear e3 c3 c2 c1
    exact ((fZ p i (by omega))).trans ((show S1.1 p i = S.1 p i by rw [d1]; exact if_neg (by omega)))
theorem q274_0 (S : fx_S) (x1 : Int) (hS : fx_Sok S) (g1 : -2147483648 ≤ x1 ∧ x1 ≤ 2147483647) (z : Int) (Z : fx_S) (kz : fx_Sok Z) (bz : -2147483648 ≤ z ∧ z ≤ 2147483647) (pz : s327 S x1 0 0 z Z) : s274 S x1 z Z := by
  obtain ⟨rZ, fZ⟩ := pz
  refine ⟨rZ, ?_⟩
  · intro p i hW
    exact (fZ p i (by omega))
theorem q275_0 (S : fx_S) (x1 x2 : Int) (hS : fx_Sok S) (g1 : -2147483648 ≤ x1 ∧ x1 ≤ 2147483647) (g2 : -2147483648 ≤ x2 ∧ x2 ≤ 2147483647) (v2 : Int) (e2 : v2 = S.1 67 5) (b2 : -2147483648 ≤ v2 ∧ v2 ≤ 2147483647) (c1 : v2 ≤ x2) (z : Int) (Z : fx_S) (kz : fx_Sok Z) (bz : -2147483648 ≤ z ∧ z ≤ 2147483647) (pz : s328 S x1 3 z Z) : s275 S x1 x2 z Z := by
  obtain ⟨rZ, fZ⟩ := pz
  refine ⟨rZ, ?_⟩
  · intro p i hW
    clear c1 b2 e2
    exact (fZ p i (by omega))
