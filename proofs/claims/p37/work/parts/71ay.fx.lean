/-! FX: what is to be shown of the entries -/
theorem q315_0 (S : fx_S) (x0 : Int) (hS : fx_Sok S) (g0 : -2147483648 ≤ x0 ∧ x0 ≤ 2147483647) (v1 : Int) (e1 : v1 = fx_shr x0 31) (v2 : Int) (e2 : v2 = fx_neg x0) (v3 : Int) (e3 : v3 = fx_ush v2 31) (v4 : Int) (e4 : v4 = fx_or v1 v3) : s315 S x0 v4 S := by
  exact rfl
theorem q316_0 (S : fx_S) (x1 x2 x3 : Int) (hS : fx_Sok S) (g1 : -2147483648 ≤ x1 ∧ x1 ≤ 2147483647) (g2 : -2147483648 ≤ x2 ∧ x2 ≤ 2147483647) (g3 : -2147483648 ≤ x3 ∧ x3 ≤ 2147483647) (c1 : 80 ≤ x3) : s316 S x1 x2 x3 0 S := by
  refine ⟨rfl, ?_⟩
  · intro p i hW
    clear c1
    exact rfl
theorem q316_1 (S : fx_S) (x1 x2 x3 : Int) (hS : fx_Sok S) (g1 : -2147483648 ≤ x1 ∧ x1 ≤ 2147483647) (g2 : -2147483648 ≤ x2 ∧ x2 ≤ 2147483647) (g3 : -2147483648 ≤ x3 ∧ x3 ≤ 2147483647) (c1 : x3 < 80) (v3 : Int) (e3 : v3 = fx_mul 170 x1) (v4 : Int) (e4 : v4 = fx_add 3700 v3) (v5 : Int) (e5 : v5 = fx_add v4 6) (v6 : Int) (e6 : v6 = fx_add v5 x3) (c2 : 0 ≤ v6) (c3 : v6 < 8090) (v7 : Int) (e7 : v7 = S.1 67 v6) (b7 : -2147483648 ≤ v7 ∧ v7 ≤ 2147483647) (c4 : v7 ≠ 0) (c5 : x2 ≠ (-1)) (v8 : Int) (e8 : v8 = fx_mul 170 x1) (v9 : Int) (e9 : v9 = fx_add 3700 v8) (v10 : Int) (e10 : v10 = fx_add v9 2) (c6 : 0 ≤ v10) (c7 : v10 < 8090) (v11 : Int) (e11 : v11 = S.1 67 v10) (b11 : -2147483648 ≤ v11 ∧ v11 ≤ 2147483647) (v12 : Int) (S1 : fx_S) (k1 : fx_Sok S1) (b12 : -2147483648 ≤ v12 ∧ v12 ≤ 2147483647) (p1 : s235 S x2 x3 v11 v12 S1) (c8 : v12 ≠ (-1)) (v13 : Int) (e13 : v13 = fx_mul 170 x1) (v14 : Int) (e14 : v14 = fx_add 3700 v13) (v15 : Int) (e15 : v15 = fx_add v14 6) (v16 : Int) (e16 : v16 = fx_add v15 x3) (c9 : 0 ≤ v16) (c10 : v16 < 8090) (v17 : Int) (e17 : v17 = S1.1 67 v16) (b17 : -2147483648 ≤ v17 ∧ v17 ≤ 2147483647) (c11 : v17 ≠ 1) (c12 : 0 ≤ v12) (c13 : v12 < 4) (v18 : Int) (e18 : v18 = S1.1 77 v12) (b18 : -2147483648 ≤ v18 ∧ v18 ≤ 2147483647) (v19 : Int) (e19 : v19 = fx_add v18 1) (c14 : 0 ≤ v12) (c15 : v12 < 4) (S2 : fx_S) (d2 : S2 = (fx_up S1.1 77 v12 v19, S1.2)) (v20 : Int) (e20 : v20 = fx_add x3 1) (z : Int) (Z : fx_S) (kz : fx_Sok Z) (bz : z = 0) (pz : s316 S2 x1 x2 v20 z Z) : s316 S x1 x2 x3 z Z := by
  obtain ⟨r1, f1⟩ := p1
  obtain ⟨rZ, fZ⟩ := pz
  refine ⟨(rZ).trans (((show S2.2 = S1.2 by rw [d2])).trans (r1)), ?_⟩
  · intro p i hW
    clear e20 c15 c14 e19 b18 e18 c13 c12 c11 b17 e17 c10 c9 e16 e15 e14 e13 c8 b12 b11 e11 c7 c6 e10 e9 e8 c5 c4 b7 e7 c3 c2 e6 e5 e4 e3 c1
    exact ((fZ p i (by omega))).trans (((show S2.1 p i = S1.1 p i by rw [d2]; exact if_neg (by omega))).trans ((f1 p i (by omega))))
theorem q316_2 (S : fx_S) (x1 x2 x3 : Int) (hS : fx_Sok S) (g1 : -2147483648 ≤ x1 ∧ x1 ≤ 2147483647) (g2 : -2147483648 ≤ x2 ∧ x2 ≤ 2147483647) (g3 : -2147483648 ≤ x3 ∧ x3 ≤ 2147483647) (c1 : x3 < 80) (v3 : Int) (e3 : v3 = fx_mul 170 x1) (v4 : Int) (e4 : v4 = fx_add 3700 v3) (v5 : Int) (e5 : v5 = fx_add v4 6) (v6 : Int) (e6 : v6 = fx_add v5 x3) (c2 : 0 ≤ v6) (c3 : v6 < 8090) (v7 : Int) (e7 : v7 = S.1 67 v6) (b7 : -2147483648 ≤ v7 ∧ v7 ≤ 2147483647) (c4 : v7 ≠ 0) (c5 : x2 ≠ (-1)) (v8 : Int) (e8 : v8 = fx_mul 170 x1) (v9 : Int) (e9 : v9 = fx_add 3700 v8) (v10 : Int) (e10 : v10 = fx_add v9 2) (c6 : 0 ≤ v10) (c7 : v10 < 8090) (v11 : Int) (e11 : v11 = S.1 67 v10) (b11 : -2147483648 ≤ v11 ∧ v11 ≤ 2147483647) (v12 : Int) (S1 : fx_S) (k1 : fx_Sok S1) (b12 : -2147483648 ≤ v12 ∧ v12 ≤ 2147483647) (p1 : s235 S x2 x3 v11 v12 S1) (c8 : v12 ≠ (-1)) (v13 : Int) (e13 : v13 = fx_mul 170 x1) (v14 : Int) (e14 : v14 = fx_add 3700 v13) (v15 : Int) (e15 : v15 = fx_add v14 6) (v16 : Int) (e16 : v16 = fx_add v15 x3) (c9 : 0 ≤ v16) (c10 : v16 < 8090) (v17 : Int) (e17 : v17 = S1.1 67 v16) (b17 : -2147483648 ≤ v17 ∧ v17 ≤ 2147483647) (c11 : v17 = 1) (c12 : 0 ≤ v12) (c13 : v12 < 4) (v18 : Int) (e18 : v18 = S1.1 76 v12) (b18 : -2147483648 ≤ v18 ∧ v18 ≤ 2147483647) (v19 : Int) (e19 : v19 = fx_add v18 1) (c14 : 0 ≤ v12) (c15 : v12 < 4) (S2 : fx_S) (d2 : S2 = (fx_up S1.1 76 v12 v19, S1.2)) (v20 : Int) (e20 : v20 = fx_add x3 1) (z : Int) (Z : fx_S) (kz : fx_Sok Z) (bz : z = 0) (pz : s316 S2 x1 x2 v20 z Z) : s316 S x1 x2 x3 z Z := by
  obtain ⟨r1, f1⟩ := p1
  obtain ⟨rZ, fZ⟩ := pz
  refine ⟨(rZ).trans (((show S2.2 = S1.2 by rw [d2])).trans (r1)), ?_⟩
  · intro p i hW
    clear e20 c15 c14 e19 b18 e18 c13 c12 c11 b17 e17 c10 c9 e16 e15 e14 e13 c8 b12 b11 e11 c7 c6 e10 e9 e8 c5 c4 b7 e7 c3 c2 e6 e5 e4 e3 c1
    exact ((fZ p i (by omega))).trans (((show S2.1 p i = S1.1 p i by rw [d2]; exact if_neg (by omega))).trans ((f1 p i (by omega))))
theorem q316_3 (S : fx_S) (x1 x2 x3 : Int) (hS : fx_Sok S) (g1 : -2147483648 ≤ x1 ∧ x1 ≤ 2147483647) (g2 : -2147483648 ≤ x2 ∧ x2 ≤ 2147483647) (g3 : -2147483648 ≤ x3 ∧ x3 ≤ 2147483647) (c1 : x3 < 80) (v3 : Int) (e3 : v3 = fx_mul 170 x1) (v4 : Int) (e4 : v4 = fx_add 3700 v3) (v5 : Int) (e5 : v5 = fx_add v4 6) (v6 : Int) (e6 : v6 = fx_add v5 x3) (c2 : 0 ≤ v6) (c3 : v6 < 8090) (v7 : Int) (e7 : v7 = S.1 67 v6) (b7 : -2147483648 ≤ v7 ∧ v7 ≤ 2147483647) (c4 : v7 ≠ 0) (c5 : x2 ≠ (-1)) (v8 : Int) (e8 : v8 = fx_mul 170 x1) (v9 : Int) (e9 : v9 = fx_add 3700 v8) (v10 : Int) (e10 : v10 = fx_add v9 2) (c6 : 0 ≤ v10) (c7 : v10 < 8090) (v11 : Int) (e11 : v11 = S.1 67 v10) (b11 : -2147483648 ≤ v11 ∧ v11 ≤ 2147483647) (v12 : Int) (S1 : fx_S) (k1 : fx_Sok S1) (b12 : -2147483648 ≤ v12 ∧ v12 ≤ 2147483647) (p1 : s235 S x2 x3 v11 v12 S1) (c8 : v12 = (-1)) (v13 : Int) (e13 : v13 = fx_add x3 1) (z : Int) (Z : fx_S) (kz : fx_Sok Z) (bz : z = 0) (pz : s316 S1 x1 x2 v13 z Z) : s316 S x1 x2 x3 z Z := by
  obtain ⟨r1, f1⟩ := p1
  obtain ⟨rZ, fZ⟩ := pz
  refine ⟨(rZ).trans (r1), ?_⟩
  · intro p i hW
    clear e13 c8 b12 b11 e11 c7 c6 e10 e9 e8 c5 c4 b7 e7 c3 c2 e6 e5 e4 e3 c1
    exact ((fZ p i (by omega))).trans ((f1 p i (by omega)))
theorem q316_4 (S : fx_S) (x1 x2 x3 : Int) (hS : fx_Sok S) (g1 : -2147483648 ≤ x1 ∧ x1 ≤ 2147483647) (g2 : -2147483648 ≤ x2 ∧ x2 ≤ 2147483647) (g3 : -2147483648 ≤ x3 ∧ x3 ≤ 2147483647) (c1 : x3 < 80) (v3 : Int) (e3 : v3 = fx_mul 170 x1) (v4 : Int) (e4 : v4 = fx_add 3700 v3) (v5 : Int) (e5 : v5 = fx_add v4 6) (v6 : Int) (e6 : v6 = fx_add v5 x3) (c2 : 0 ≤ v6) (c3 : v6 < 8090) (v7 : Int) (e7 : v7 = S.1 67 v6) (b7 : -2147483648 ≤ v7 ∧ v7 ≤ 2147483647) (c4 : v7 ≠ 0) (c5 : x2 = (-1)) (v8 : Int) (e8 : v8 = fx_mul 170 x1) (v9 : Int) (e9 : v9 = fx_add 3700 v8) (v10 : Int) (e10 : v10 = fx_add v9 86) (v11 : Int) (e11 : v11 = fx_add v10 x3) (c6 : 0 ≤ v11) (c7 : v11 < 8090) (v12 : Int) (e12 : v12 = S.1 67 v11) (b12 : -2147483648 ≤ v12 ∧ v12 ≤ 2147483647) (c8 : v12 ≠ (-1)) (v13 : Int) (e13 : v13 = fx_mul 170 x1) (v14 : Int) (e14 : v14 = fx_add 3700 v13) (v15 : Int) (e15 : v15 = fx_add v14 6) (v16 : Int) (e16 : v16 = fx_add v15 x3) (c9 : 0 ≤ v16) (c10 : v16 < 8090) (v17 : Int) (e17 : v17 = S.1 67 v16) (b17 : -2147483648 ≤ v17 ∧ v17 ≤ 2147483647) (c11 : v17 ≠ 1) (c12 : 0 ≤ v12) (c13 : v12 < 4) (v18 : Int) (e18 : v18 = S.1 77 v12) (b18 : -2147483648 ≤ v18 ∧ v18 ≤ 2147483647) (v19 : Int) (e19 : v19 = fx_add v18 1) (c14 : 0 ≤ v12) (c15 : v12 < 4) (S1 : fx_S) (d1 : S1 = (fx_up S.1 77 v12 v19, S.2)) (v20 : Int) (e20 : v20 = fx_add x3 1) (z : Int) (Z : fx_S) (kz : fx_Sok Z) (bz : z = 0) (pz : s316 S1 x1 x2 v20 z Z) : s316 S x1 x2 x3 z Z := by
  obtain ⟨rZ, fZ⟩ := pz
  refine ⟨(rZ).trans ((show S1.2 = S.2 by rw [d1])), ?_⟩
  · intro p i hW
    clear e20 c15 c14 e19 b18 e18 c13 c12 c11 b17 e17 c10 c9 e16 e15 e14 e13 c8 b12 e12 c7 c6 e11 e10 e9 e8 c5 c4 b7 e7 c3 c2 e6 e5 e4 e3 c1
    exact ((fZ p i (by omega))).trans ((show S1.1 p i = S.1 p i by rw [d1]; exact if_neg (by omega)))
theorem q316_5 (S : fx_S) (x1 x2 x3 : Int) (hS : fx_Sok S) (g1 : -2147483648 ≤ x1 ∧ x1 ≤ 2147483647) (g2 : -2147483648 ≤ x2 ∧ x2 ≤ 2147483647) (g3 : -2147483648 ≤ x3 ∧ x3 ≤ 2147483647) (c1 : x3 < 80) (v3 : Int) (e3 : v3 = fx_mul 170 x1) (v4 : Int) (e4 : v4 = fx_add 3700 v3) (v5 : Int) (e5 : v5 = fx_add v4 6) (v6 : Int) (e6 : v6 = fx_add v5 x3) (c2 : 0 ≤ v6) (c3 : v6 < 8090) (v7 : Int) (e7 : v7 = S.1 67 v6) (b7 : -2147483648 ≤ v7 ∧ v7 ≤ 2147483647) (c4 : v7 ≠ 0) (c5 : x2 = (-1)) (v8 : Int) (e8 : v8 = fx_mul 170 x1) (v9 : Int) (e9 : v9 = fx_add 3700 v8) (v10 : Int) (e10 : v10 = fx_add v9 86) (v11 : Int) (e11 : v11 = fx_add v10 x3) (c6 : 0 ≤ v11) (c7 : v11 < 8090) (v12 : Int) (e12 : v12 = S.1 67 v11) (b12 : -2147483648 ≤ v12 ∧ v12 ≤ 2147483647) (c8 : v12 ≠ (-1)) (v13 : Int) (e13 : v13 = fx_mul 170 x1) (v14 : Int) (e14 : v14 = fx_add 3700 v13) (v15 : Int) (e15 : v15 = fx_add v14 6) (v16 : Int) (e16 : v16 = fx_add v15 x3) (c9 : 0 ≤ v16) (c10 : v16 < 8090) (v17 : Int) (e17 : v17 = S.1 67 v16) (b17 : -2147483648 ≤ v17 ∧ v17 ≤ 2147483647) (c11 : v17 = 1) (c12 : 0 ≤ v12) (c13 : v12 < 4) (v18 : Int) (e18 : v18 = S.1 76 v12) (b18 : -2147483648 ≤ v18 ∧ v18 ≤ 2147483647) (v19 : Int) (e19 : v19 = fx_add v18 1) (c14 : 0 ≤ v12) (c15 : v12 < 4) (S1 : fx_S) (d1 : S1 = (fx_up S.1 76 v12 v19, S.2)) (v20 : Int) (e20 : v20 = fx_add x3 1) (z : Int) (Z : fx_S) (kz : fx_Sok Z) (bz : z = 0) (pz : s316 S1 x1 x2 v20 z Z) : s316 S x1 x2 x3 z Z := by
  obtain ⟨rZ, fZ⟩ := pz
  refine ⟨(rZ).trans ((show S1.2 = S.2 by rw [d1])), ?_⟩
  · intro p i hW
    clear e20 c15 c14 e19 b18 e18 c13 c12 c11 b17 e17 c10 c9 e16 e15 e14 e13 c8 b12 e12 c7 c6 e11 e10 e9 e8 c5 c4 b7 e7 c3 c2 e6 e5 e4 e3 c1
    exact ((fZ p i (by omega))).trans ((show S1.1 p i = S.1 p i by rw [d1]; exact if_neg (by omega)))
theorem q316_6 (S : fx_S) (x1 x2 x3 : Int) (hS : fx_Sok S) (g1 : -2147483648 ≤ x1 ∧ x1 ≤ 2147483647) (g2 : -2147483648 ≤ x2 ∧ x2 ≤ 2147483647) (g3 : -2147483648 ≤ x3 ∧ x3 ≤ 2147483647) (c1 : x3 < 80) (v3 : Int) (e3 : v3 = fx_mul 170 x1) (v4 : Int) (e4 : v4 = fx_add 3700 v3) (v5 : Int) (e5 : v5 = fx_add v4 6) (v6 : Int) (e6 : v6 = fx_add v5 x3) (c2 : 0 ≤ v6) (c3 : v6 < 8090) (v7 : Int) (e7 : v7 = S.1 67 v6) (b7 : -2147483648 ≤ v7 ∧ v7 ≤ 2147483647) (c4 : v7 ≠ 0) (c5 : x2 = (-1)) (v8 : Int) (e8 : v8 = fx_mul 170 x1) (v9 : Int) (e9 : v9 = fx_add 3700 v8) (v10 : Int) (e10 : v10 = fx_add v9 86) (v11 : Int) (e11 : v11 = fx_add v10 x3) (c6 : 0 ≤ v11) (c7 : v11 < 8090) (v12 : Int) (e12 : v12 = S.1 67 v11) (b12 : -2147483648 ≤ v12 ∧ v12 ≤ 2147483647) (c8 : v12 = (-1)) (v13 : Int) (e13 : v13 = fx_add x3 1) (z : Int) (Z : fx_S) (kz : fx_Sok Z) (bz : z = 0) (pz : s316 S x1 x2 v13 z Z) : s316 S x1 x2 x3 z Z := by
  obtain ⟨rZ, fZ⟩ := pz
  refine ⟨rZ, ?_⟩
  · intro p i hW
    clear e13 c8 b12 e12 c7 c6 e11 e10 e9 e8 c5 c4 b7 e7 c3 c2 e6 e5 e4 e3 c1
    exact (fZ p i (by omega))
theorem q316_7 (S : fx_S) (x1 x2 x3 : Int) (hS : fx_Sok S) (g1 : -2147483648 ≤ x1 ∧ x1 ≤ 2147483647) (g2 : -2147483648 ≤ x2 ∧ x2 ≤ 2147483647) (g3 : -2147483648 ≤ x3 ∧ x3 ≤ 2147483647) (c1 : x3 < 80) (v3 : Int) (e3 : v3 = fx_mul 170 x1) (v4 : Int) (e4 : v4 = fx_add 3700 v3) (v5 : Int) (e5 : v5 = fx_add v4 6) (v6 : Int) (e6 : v6 = fx_add v5 x3) (c2 : 0 ≤ v6) (c3 : v6 < 8090) (v7 : Int) (e7 : v7 = S.1 67 v6) (b7 : -2147483648 ≤ v7 ∧ v7 ≤ 2147483647) (c4 : v7 = 0) (v8 : Int) (e8 : v8 = fx_add x3 1) (z : Int) (Z : fx_S) (kz : fx_Sok Z) (bz : z = 0) (pz : s316 S x1 x2 v8 z Z) : s316 S x1 x2 x3 z Z := by
  obtain ⟨rZ, fZ⟩ := pz
  refine ⟨rZ, ?_⟩
  · intro p i hW
    clear e8 c4 b7 e7 c3 c2 e6 e5 e4 e3 c1
    exact (fZ p i (by omega))
theorem q317_0 (S : fx_S) (x2 x3 x4 : Int) (hS : fx_Sok S) (g2 : -2147483648 ≤ x2 ∧ x2 ≤ 2147483647) (g3 : -2147483648 ≤ x3 ∧ x3 ≤ 2147483647) (g4 : -2147483648 ≤ x4 ∧ x4 ≤ 2147483647) (c1 : 81 ≤ x4) (c2 : x3 < 1000) : s317 S x2 x3 x4 x3 S := by
  exact rfl
theorem q317_1 (S : fx_S) (x2 x3 x4 : Int) (hS : fx_Sok S) (g2 : -2147483648 ≤ x2 ∧ x2 ≤ 2147483647) (g3 : -2147483648 ≤ x3 ∧ x3 ≤ 2147483647) (g4 : -2147483648 ≤ x4 ∧ x4 ≤ 2147483647) (c1 : 81 ≤ x4) (c2 : 1000 ≤ x3) : s317 S x2 x3 x4 (-1) S := by
  exact rfl
theorem q317_2 (S : fx_S) (x2 x3 x4 : Int) (hS : fx_Sok S) (g2 : -2147483648 ≤ x2 ∧ x2 ≤ 2147483647) (g3 : -2147483648 ≤ x3 ∧ x3 ≤ 2147483647) (g4 : -2147483648 ≤ x4 ∧ x4 ≤ 2147483647) (c1 : x4 < 81) (z : Int) (Z : fx_S) (kz : fx_Sok Z) (bz : -2147483648 ≤ z ∧ z ≤ 2147483647) (pz : s360 S x2 x3 x4 0 0 x4 0 z Z) : s317 S x2 x3 x4 z Z := by
  obtain rfl : S = Z := pz
  exact rfl
theorem q318_0 (S : fx_S) (x1 x2 x3 x4 : Int) (hS : fx_Sok S) (g1 : -2147483648 ≤ x1 ∧ x1 ≤ 2147483647) (g2 : -2147483648 ≤ x2 ∧ x2 ≤ 2147483647) (g3 : -2147483648 ≤ x3 ∧ x3 ≤ 2147483647) (g4 : -2147483648 ≤ x4 ∧ x4 ≤ 2147483647) (c1 : 1 < x4) (v4 : Int) (e4 : v4 = fx_add x3 1) (z : Int) (Z : fx_S) (kz : fx_Sok Z) (bz : -2147483648 ≤ z ∧ z ≤ 2147483647) (pz : s261 S x1 x2 v4 z Z) : s318 S x1 x2 x3 x4 z Z := by
  obtain ⟨rZ, fZ⟩ := pz
  refine ⟨rZ, ?_⟩
  · intro p i hW
    clear e4 c1
    exact (fZ p i (by omega))
theorem q318_1 (S : fx_S) (x1 x2 x3 x4 : Int) (hS : fx_Sok S) (g1 : -2147483648 ≤ x1 ∧ x1 ≤ 2147483647) (g2 : -2147483648 ≤ x2 ∧ x2 ≤ 2147483647) (g3 : -2147483648 ≤ x3 ∧ x3 ≤ 2147483647) (g4 : -2147483648 ≤ x4 ∧ x4 ≤ 2147483647) (c1 : x4 ≤ 1) (v4 : Int) (e4 : v4 = fx_mul x3 3) (v5 : Int) (e5 : v5 = fx_add v4 x4) (v6 : Int) (e6 : v6 = fx_add v5 1) (v7 : Int) (S1 : fx_S) (k1 : fx_Sok S1) (b7 : -2147483648 ≤ v7 ∧ v7 ≤ 2147483647) (p1 : s361 S x1 x3 x4 v7 S1) (c2 : 0 ≤ v6) (c3 : v6 < 12) (S2 : fx_S) (d2 : S2 = (fx_up S1.1 37 v6 v7, S1.2)) (v8 : Int) (e8 : v8 = fx_add x4 1) (z : Int) (Z : fx_S) (kz : fx_Sok Z) (bz : -2147483648 ≤ z ∧ z ≤ 2147483647) (pz : s318 S2 x1 x2 x3 v8 z Z) : s318 S x1 x2 x3 x4 z Z := by
  obtain rfl : S = S1 := p1
  obtain ⟨rZ, fZ⟩ := pz
  refine ⟨(rZ).trans ((show S2.2 = S.2 by rw [d2])), ?_⟩
  · intro p i hW
    clear e8 c3 c2 b7 e6 e5 e4 c1
    exact ((fZ p i (by omega))).trans ((show S2.1 p i = S.1 p i by rw [d2]; exact if_neg (by omega)))
theorem q319_0 (S : fx_S) (x1 x2 : Int) (hS : fx_Sok S) (g1 : -2147483648 ≤ x1 ∧ x1 ≤ 2147483647) (g2 : -2147483648 ≤ x2 ∧ x2 ≤ 2147483647) (c1 : 4 ≤ x2) (z : Int) (Z : fx_S) (kz : fx_Sok Z) (bz : -2147483648 ≤ z ∧ z ≤ 2147483647) (pz : s362 S x1 1000000 0 z Z) : s319 S x1 x2 z Z := by
  obtain rfl : S = Z := pz
  refine ⟨rfl, ?_⟩
  · intro p i hW
    clear c1
    exact rfl
theorem q319_1 (S : fx_S) (x1 x2 : Int) (hS : fx_Sok S) (g1 : -2147483648 ≤ x1 ∧ x1 ≤ 2147483647) (g2 : -2147483648 ≤ x2 ∧ x2 ≤ 2147483647) (c1 : x2 < 4) (z : Int) (Z : fx_S) (kz : fx_Sok Z) (bz : -2147483648 ≤ z ∧ z ≤ 2147483647) (pz : s363 S x1 x2 0 z Z) : s319 S x1 x2 z Z := by
  obtain ⟨rZ, fZ⟩ := pz
  refine ⟨rZ, ?_⟩
  · intro p i hW
    clear c1
    exact (fZ p i (by omega))
theorem q320_0 (S : fx_S) (x2 x3 : Int) (hS : fx_Sok S) (g2 : -2147483648 ≤ x2 ∧ x2 ≤ 2147483647) (g3 : -2147483648 ≤ x3 ∧ x3 ≤ 2147483647) (v2 : Int) (e2 : v2 = S.1 2 8) (b2 : -2147483648 ≤ v2 ∧ v2 ≤ 2147483647) (c1 : v2 ≤ x3) : s320 S x2 x3 x2 S := by
  refine ⟨rfl, ?_⟩
  · intro p i hW
    clear c1 b2 e2
    exact rfl
theorem q320_1 (S : fx_S) (x2 x3 : Int) (hS : fx_Sok S) (g2 : -2147483648 ≤ x2 ∧ x2 ≤ 2147483647) (g3 : -2147483648 ≤ x3 ∧ x3 ≤ 2147483647) (v2 : Int) (e2 : v2 = S.1 2 8) (b2 : -2147483648 ≤ v2 ∧ v2 ≤ 2147483647) (c1 : x3 < v2) (c2 : x3 < 0) (c3 : 0 ≤ x3) (c4 : x3 < 10) (v3 : Int) (e3 : v3 = S.1 11 x3) (b3 : -2147483648 ≤ v3 ∧ v3 ≤ 2147483647) (c5 : v3 < 0) (v4 : Int) (e4 : v4 = fx_add x3 1) (z : Int) (Z : fx_S) (kz : fx_Sok Z) (bz : -2147483648 ≤ z ∧ z ≤ 2147483647) (pz : s320 S x2 v4 z Z) : s320 S x2 x3 z Z := by
  obtain ⟨rZ, fZ⟩ := pz
  refine ⟨rZ, ?_⟩
  · intro p i hW
    clear e4 c5 b3 e3 c4 c3 c2 c1 b2 e2
    exact (fZ p i (by omega))
theorem q320_2 (S : fx_S) (x2 x3 : Int) (hS : fx_Sok S) (g2 : -2147483648 ≤ x2 ∧ x2 ≤ 2147483647) (g3 : -2147483648 ≤ x3 ∧ x3 ≤ 2147483647) (v2 : Int) (e2 : v2 = S.1 2 8) (b2 : -2147483648 ≤ v2 ∧ v2 ≤ 2147483647) (c1 : x3 < v2) (c2 : x3 < 0) (c3 : 0 ≤ x3) (c4 : x3 < 10) (v3 : Int) (e3 : v3 = S.1 11 x3) (b3 : -2147483648 ≤ v3 ∧ v3 ≤ 2147483647) (c5 : 0 ≤ v3) (v4 : Int) (e4 : v4 = S.1 29 0) (b4 : -2147483648 ≤ v4 ∧ v4 ≤ 2147483647) (c6 : v4 ≤ v3) (v5 : Int) (e5 : v5 = fx_add x3 1) (z : Int) (Z : fx_S) (kz : fx_Sok Z) (bz : -2147483648 ≤ z ∧ z ≤ 2147483647) (pz : s320 S x2 v5 z Z) : s320 S x2 x3 z Z := by
  obtain ⟨rZ, fZ⟩ := pz
  refine ⟨rZ, ?_⟩
  · intro p i hW
    clear e5 c6 b4 e4 c5 b3 e3 c4 c3 c2 c1 b2 e2
    exact (fZ p i (by omega))
theorem q320_3 (S : fx_S) (x2 x3 : Int) (hS : fx_Sok S) (g2 : -2147483648 ≤ x2 ∧ x2 ≤ 2147483647) (g3 : -2147483648 ≤ x3 ∧ x3 ≤ 2147483647) (v2 : Int) (e2 : v2 = S.1 2 8) (b2 : -2147483648 ≤ v2 ∧ v2 ≤ 2147483647) (c1 : x3 < v2) (c2 : x3 < 0) (c3 : 0 ≤ x3) (c4 : x3 < 10) (v3 : Int) (e3 : v3 = S.1 11 x3) (b3 : -2147483648 ≤ v3 ∧ v3 ≤ 2147483647) (c5 : 0 ≤ v3) (v4 : Int) (e4 : v4 = S.1 29 0) (b4 : -2147483648 ≤ v4 ∧ v4 ≤ 2147483647) (c6 : v3 < v4) (c7 : 0 ≤ v3) (c8 : v3 < 20) (v5 : Int) (e5 : v5 = S.1 33 v3) (b5 : -2147483648 ≤ v5 ∧ v5 ≤ 2147483647) (c9 : v5 = 3600) (v6 : Int) (e6 : v6 = fx_add x3 1) (z : Int) (Z : fx_S) (kz : fx_Sok Z) (bz : -2147483648 ≤ z ∧ z ≤ 2147483647) (pz : s320 S x2 v6 z Z) : s320 S x2 x3 z Z := by
  obtain ⟨rZ, fZ⟩ := pz
  refine ⟨rZ, ?_⟩
  · intro p i hW
    clear e6 c9 b5 e5 c8 c7 c6 b4 e4 c5 b3 e3 c4 c3 c2 c1 b2 e2
    exact (fZ p i (by omega))
theorem q320_4 (S : fx_S) (x2 x3 : Int) (hS : fx_Sok S) (g2 : -2147483648 ≤ x2 ∧ x2 ≤ 2147483647) (g3 : -2147483648 ≤ x3 ∧ x3 ≤ 2147483647) (v2 : Int) (e2 : v2 = S.1 2 8) (b2 : -2147483648 ≤ v2 ∧ v2 ≤ 2147483647) (c1 : x3 < v2) (c2 : x3 < 0) (c3 : 0 ≤ x3) (c4 : x3 < 10) (v3 : Int) (e3 : v3 = S.1 11 x3) (b3 : -2147483648 ≤ v3 ∧ v3 ≤ 2147483647) (c5 : 0 ≤ v3) (v4 : Int) (e4 : v4 = S.1 29 0) (b4 : -2147483648 ≤ v4 ∧ v4 ≤ 2147483647) (c6 : v3 < v4) (c7 : 0 ≤ v3) (c8 : v3 < 20) (v5 : Int) (e5 : v5 = S.1 33 v3) (b5 : -2147483648 ≤ v5 ∧ v5 ≤ 2147483647) (c9 : v5 ≠ 3600) (v6 : Int) (e6 : v6 = S.1 1 0) (b6 : -2147483648 ≤ v6 ∧ v6 ≤ 2147483647) (c10 : 0 ≤ x3) (c11 : x3 < 10) (S1 : fx_S) (d1 : S1 = (fx_up S.1 12 x3 v6, S.2)) (v7 : Int) (e7 : v7 = fx_add x2 1) (v8 : Int) (e8 : v8 = fx_add x3 1) (z : Int) (Z : fx_S) (kz : fx_Sok Z) (bz : -2147483648 ≤ z ∧ z ≤ 2147483647) (pz : s320 S1 v7 v8 z Z) : s320 S x2 x3 z Z := by
  obtain ⟨rZ, fZ⟩ := pz
  refine ⟨(rZ).trans ((show S1.2 = S.2 by rw [d1])), ?_⟩
  · intro p i hW
    clear e8 e7 c11 c10 b6 e6 c9 b5 e5 c8 c7 c6 b4 e4 c5 b3 e3 c4 c3 c2 c1 b2 e2
    exact ((fZ p i (by omega))).trans ((show S1.1 p i = S.1 p i by rw [d1]; exact if_neg (by omega)))
theorem q320_5 (S : fx_S) (x2 x3 : Int) (hS : fx_Sok S) (g2 : -2147483648 ≤ x2 ∧ x2 ≤ 2147483647) (g3 : -2147483648 ≤ x3 ∧ x3 ≤ 2147483647) (v2 : Int) (e2 : v2 = S.1 2 8) (b2 : -2147483648 ≤ v2 ∧ v2 ≤ 2147483647) (c1 : x3 < v2) (c2 : 0 ≤ x3) (v3 : Int) (e3 : v3 = S.1 2 8) (b3 : -2147483648 ≤ v3 ∧ v3 ≤ 2147483647) (c3 : v3 ≤ x3) (c4 : 0 ≤ x3) (c5 : x3 < 10) (v4 : Int) (e4 : v4 = S.1 11 x3) (b4 : -2147483648 ≤ v4 ∧ v4 ≤ 2147483647) (c6 : v4 < 0) (v5 : Int) (e5 : v5 = fx_add x3 1) (z : Int) (Z : fx_S) (kz : fx_Sok Z) (bz : -2147483648 ≤ z ∧ z ≤ 2147483647) (pz : s320 S x2 v5 z Z) : s320 S x2 x3 z Z := by
  obtain ⟨rZ, fZ⟩ := pz
  refine ⟨rZ, ?_⟩
  · intro p i hW
    clear e5 c6 b4 e4 c5 c4 c3 b3 e3 c2 c1 b2 e2
    exact (fZ p i (by omega))
theorem q320_6 (S : fx_S) (x2 x3 : Int) (hS : fx_Sok S) (g2 : -2147483648 ≤ x2 ∧ x2 ≤ 2147483647) (g3 : -2147483648 ≤ x3 ∧ x3 ≤ 2147483647) (v2 : Int) (e2 : v2 = S.1 2 8) (b2 : -2147483648 ≤ v2 ∧ v2 ≤ 2147483647) (c1 : x3 < v2) (c2 : 0 ≤ x3) (v3 : Int) (e3 : v3 = S.1 2 8) (b3 : -2147483648 ≤ v3 ∧ v3 ≤ 2147483647) (c3 : v3 ≤ x3) (c4 : 0 ≤ x3) (c5 : x3 < 10) (v4 : Int) (e4 : v4 = S.1 11 x3) (b4 : -2147483648 ≤ v4 ∧ v4 ≤ 2147483647) (c6 : 0 ≤ v4) (v5 : Int) (e5 : v5 = S.1 29 0) (b5 : -2147483648 ≤ v5 ∧ v5 ≤ 2147483647) (c7 : v5 ≤ v4) (v6 : Int) (e6 : v6 = fx_add x3 1) (z : Int) (Z : fx_S) (kz : fx_Sok Z) (bz : -2147483648 ≤ z ∧ z ≤ 2147483647) (pz : s320 S x2 v6 z Z) : s320 S x2 x3 z Z := by
  obtain ⟨rZ, fZ⟩ := pz
  refine ⟨rZ, ?_⟩
  · intro p i hW
    clear e6 c7 b5 e5 c6 b4 e4 c5 c4 c3 b3 e3 c2 c1 b2 e2
    exact (fZ p i (by omega))
theorem q320_7 (S : fx_S) (x2 x3 : Int) (hS : fx_Sok S) (g2 : -2147483648 ≤ x2 ∧ x2 ≤ 2147483647) (g3 : -2147483648 ≤ x3 ∧ x3 ≤ 2147483647) (v2 : Int) (e2 : v2 = S.1 2 8) (b2 : -2147483648 ≤ v2 ∧ v2 ≤ 2147483647) (c1 : x3 < v2) (c2 : 0 ≤ x3) (v3 : Int) (e3 : v3 = S.1 2 8) (b3 : -2147483648 ≤ v3 ∧ v3 ≤ 2147483647) (c3 : v3 ≤ x3) (c4 : 0 ≤ x3) (c5 : x3 < 10) (v4 : Int) (e4 : v4 = S.1 11 x3) (b4 : -2147483648 ≤ v4 ∧ v4 ≤ 2147483647) (c6 : 0 ≤ v4) (v5 : Int) (e5 : v5 = S.1 29 0) (b5 : -2147483648 ≤ v5 ∧ v5 ≤ 2147483647) (c7 : v4 < v5) (c8 : 0 ≤ v4) (c9 : v4 < 20) (v6 : Int) (e6 : v6 = S.1 33 v4) (b6 : -2147483648 ≤ v6 ∧ v6 ≤ 2147483647) (c10 : v6 = 3600) (v7 : Int) (e7 : v7 = fx_add x3 1) (z : Int) (Z : fx_S) (kz : fx_Sok Z) (bz : -2147483648 ≤ z ∧ z ≤ 2147483647) (pz : s320 S x2 v7 z Z) : s320 S x2 x3 z Z := by
  obtain ⟨rZ, fZ⟩ := pz
  refine ⟨rZ, ?_⟩
  · intro p i hW
    clear e7 c10 b6 e6 c9 c8 c7 b5 e5 c6 b4 e4 c5 c4 c3 b3 e3 c2 c1 b2 e2
    exact (fZ p i (by omega))
theorem q320_8 (S : fx_S) (x2 x3 : Int) (hS : fx_Sok S) (g2 : -2147483648 ≤ x2 ∧ x2 ≤ 2147483647) (g3 : -2147483648 ≤ x3 ∧ x3 ≤ 2147483647) (v2 : Int) (e2 : v2 = S.1 2 8) (b2 : -2147483648 ≤ v2 ∧ v2 ≤ 2147483647) (c1 : x3 < v2) (c2 : 0 ≤ x3) (v3 : Int) (e3 : v3 = S.1 2 8) (b3 : -2147483648 ≤ v3 ∧ v3 ≤ 2147483647) (c3 : v3 ≤ x3) (c4 : 0 ≤ x3) (c5 : x3 < 10) (v4 : Int) (e4 : v4 = S.1 11 x3) (b4 : -2147483648 ≤ v4 ∧ v4 ≤ 2147483647) (c6 : 0 ≤ v4) (v5 : Int) (e5 : v5 = S.1 29 0) (b5 : -2147483648 ≤ v5 ∧ v5 ≤ 2147483647) (c7 : v4 < v5) (c8 : 0 ≤ v4) (c9 : v4 < 20) (v6 : Int) (e6 : v6 = S.1 33 v4) (b6 : -2147483648 ≤ v6 ∧ v6 ≤ 2147483647) (c10 : v6 ≠ 3600) (v7 : Int) (e7 : v7 = S.1 1 0) (b7 : -2147483648 ≤ v7 ∧ v7 ≤ 2147483647) (c11 : 0 ≤ x3) (c12 : x3 < 10) (S1 : fx_S) (d1 : S1 = (fx_up S.1 12 x3 v7, S.2)) (v8 : Int) (e8 : v8 = fx_add x2 1) (v9 : Int) (e9 : v9 = fx_add x3 1) (z : Int) (Z : fx_S) (kz : fx_Sok Z) (bz : -2147483648 ≤ z ∧ z ≤ 2147483647) (pz : s320 S1 v8 v9 z Z) : s320 S x2 x3 z Z := by
  obtain ⟨rZ, fZ⟩ := pz
  refine ⟨(rZ).trans ((show S1.2 = S.2 by rw [d1])), ?_⟩
  · intro p i hW
    clear e9 e8 c12 c11 b7 e7 c10 b6 e6 c9 c8 c7 b5 e5 c6 b4 e4 c5 c4 c3 b3 e3 c2 c1 b2 e2
    exact ((fZ p i (by omega))).trans ((show S1.1 p i = S.1 p i by rw [d1]; exact if_neg (by omega)))
theorem q320_9 (S : fx_S) (x2 x3 : Int) (hS : fx_Sok S) (g2 : -2147483648 ≤ x2 ∧ x2 ≤ 2147483647) (g3 : -2147483648 ≤ x3 ∧ x3 ≤ 2147483647) (v2 : Int) (e2 : v2 = S.1 2 8) (b2 : -2147483648 ≤ v2 ∧ v2 ≤ 2147483647) (c1 : x3 < v2) (c2 : 0 ≤ x3) (v3 : Int) (e3 : v3 = S.1 2 8) (b3 : -2147483648 ≤ v3 ∧ v3 ≤ 2147483647) (c3 : x3 < v3) (c4 : 0 ≤ x3) (c5 : x3 < 10) (v4 : Int) (e4 : v4 = S.1 12 x3) (b4 : -2147483648 ≤ v4 ∧ v4 ≤ 2147483647) (c6 : v4 = 3600) (c7 : 0 ≤ x3) (c8 : x3 < 10) (v5 : Int) (e5 : v5 = S.1 11 x3) (b5 : -2147483648 ≤ v5 ∧ v5 ≤ 2147483647) (c9 : v5 < 0) (v6 : Int) (e6 : v6 = fx_add x3 1) (z : Int) (Z : fx_S) (kz : fx_Sok Z) (bz : -2147483648 ≤ z ∧ z ≤ 2147483647) (pz : s320 S x2 v6 z Z) : s320 S x2 x3 z Z := by
  obtain ⟨rZ, fZ⟩ := pz
  refine ⟨rZ, ?_⟩
  · intro p i hW
    clear e6 c9 b5 e5 c8 c7 c6 b4 e4 c5 c4 c3 b3 e3 c2 c1 b2 e2
    exact (fZ p i (by omega))
theorem q320_10 (S : fx_S) (x2 x3 : Int) (hS : fx_Sok S) (g2 : -2147483648 ≤ x2 ∧ x2 ≤ 2147483647) (g3 : -2147483648 ≤ x3 ∧ x3 ≤ 2147483647) (v2 : Int) (e2 : v2 = S.1 2 8) (b2 : -2147483648 ≤ v2 ∧ v2 ≤ 2147483647) (c1 : x3 < v2) (c2 : 0 ≤ x3) (v3 : Int) (e3 : v3 = S.1 2 8) (b3 : -2147483648 ≤ v3 ∧ v3 ≤ 2147483647) (c3 : x3 < v3) (c4 : 0 ≤ x3) (c5 : x3 < 10) (v4 : Int) (e4 : v4 = S.1 12 x3) (b4 : -2147483648 ≤ v4 ∧ v4 ≤ 2147483647) (c6 : v4 = 3600) (c7 : 0 ≤ x3) (c8 : x3 < 10) (v5 : Int) (e5 : v5 = S.1 11 x3) (b5 : -2147483648 ≤ v5 ∧ v5 ≤ 2147483647) (c9 : 0 ≤ v5) (v6 : Int) (e6 : v6 = S.1 29 0) (b6 : -2147483648 ≤ v6 ∧ v6 ≤ 2147483647) (c10 : v6 ≤ v5) (v7 : Int) (e7 : v7 = fx_add x3 1) (z : Int) (Z : fx_S) (kz : fx_Sok Z) (bz : -2147483648 ≤ z ∧ z ≤ 2147483647) (pz : s320 S x2 v7 z Z) : s320 S x2 x3 z Z := by
  obtain ⟨rZ, fZ⟩ := pz
  refine ⟨rZ, ?_⟩
  · intro p i hW
    clear e7 c10 b6 e6 c9 b5 e5 c8 c7 c6 b4 e4 c5 c4 c3 b3 e3 c2 c1 b2 e2
    exact (fZ p i (by omega))
theorem q320_11 (S : fx_S) (x2 x3 : Int) (hS : fx_Sok S) (g2 : -2147483648 ≤ x2 ∧ x2 ≤ 2147483647) (g3 : -2147483648 ≤ x3 ∧ x3 ≤ 2147483647) (v2 : Int) (e2 : v2 = S.1 2 8) (b2 : -2147483648 ≤ v2 ∧ v2 ≤ 2147483647) (c1 : x3 < v2) (c2 : 0 ≤ x3) (v3 : Int) (e3 : v3 = S.1 2 8) (b3 : -2147483648 ≤ v3 ∧ v3 ≤ 2147483647) (c3 : x3 < v3) (c4 : 0 ≤ x3) (c5 : x3 < 10) (v4 : Int) (e4 : v4 = S.1 12 x3) (b4 : -2147483648 ≤ v4 ∧ v4 ≤ 2147483647) (c6 : v4 = 3600) (c7 : 0 ≤ x3) (c8 : x3 < 10) (v5 : Int) (e5 : v5 = S.1 11 x3) (b5 : -2147483648 ≤ v5 ∧ v5 ≤ 2147483647) (c9 : 0 ≤ v5) (v6 : Int) (e6 : v6 = S.1 29 0) (b6 : -2147483648 ≤ v6 ∧ v6 ≤ 2147483647) (c10 : v5 < v6) (c11 : 0 ≤ v5) (c12 : v5 < 20) (v7 : Int) (e7 : v7 = S.1 33 v5) (b7 : -2147483648 ≤ v7 ∧ v7 ≤ 2147483647) (c13 : v7 = 3600) (v8 : Int) (e8 : v8 = fx_add x3 1) (z : Int) (Z : fx_S) (kz : fx_Sok Z) (bz : -2147483648 ≤ z ∧ z ≤ 2147483647) (pz : s320 S x2 v8 z Z) : s320 S x2 x3 z Z := by
  obtain ⟨rZ, fZ⟩ := pz
  refine ⟨rZ, ?_⟩
  · intro p i hW
    clear e8 c13 b7 e7 c12 c11 c10 b6 e6 c9 b5 e5 c8 c7 c6 b4 e4 c5 c4 c3 b3 e3 c2 c1 b2 e2
    exact (fZ p i (by omega))
theorem q320_12 (S : fx_S) (x2 x3 : Int) (hS : fx_Sok S) (g2 : -2147483648 ≤ x2 ∧ x2 ≤ 2147483647) (g3 : -2147483648 ≤ x3 ∧ x3 ≤ 2147483647) (v2 : Int) (e2 : v2 = S.1 2 8) (b2 : -2147483648 ≤ v2 ∧ v2 ≤ 2147483647) (c1 : x3 < v2) (c2 : 0 ≤ x3) (v3 : Int) (e3 : v3 = S.1 2 8) (b3 : -2147483648 ≤ v3 ∧ v3 ≤ 2147483647) (c3 : x3 < v3) (c4 : 0 ≤ x3) (c5 : x3 < 10) (v4 : Int) (e4 : v4 = S.1 12 x3) (b4 : -2147483648 ≤ v4 ∧ v4 ≤ 2147483647) (c6 : v4 = 3600) (c7 : 0 ≤ x3) (c8 : x3 < 10) (v5 : Int) (e5 : v5 = S.1 11 x3) (b5 : -2147483648 ≤ v5 ∧ v5 ≤ 2147483647) (c9 : 0 ≤ v5) (v6 : Int) (e6 : v6 = S.1 29 0) (b6 : -2147483648 ≤ v6 ∧ v6 ≤ 2147483647) (c10 : v5 < v6) (c11 : 0 ≤ v5) (c12 : v5 < 20) (v7 : Int) (e7 : v7 = S.1 33 v5) (b7 : -2147483648 ≤ v7 ∧ v7 ≤ 2147483647) (c13 : v7 ≠ 3600) (v8 : Int) (e8 : v8 = S.1 1 0) (b8 : -2147483648 ≤ v8 ∧ v8 ≤ 2147483647) (c14 : 0 ≤ x3) (c15 : x3 < 10) (S1 : fx_S) (d1 : S1 = (fx_up S.1 12 x3 v8, S.2)) (v9 : Int) (e9 : v9 = fx_add x2 1) (v10 : Int) (e10 : v10 = fx_add x3 1) (z : Int) (Z : fx_S) (kz : fx_Sok Z) (bz : -2147483648 ≤ z ∧ z ≤ 2147483647) (pz : s320 S1 v9 v10 z Z) : s320 S x2 x3 z Z := by
  obtain ⟨rZ, fZ⟩ := pz
  refine ⟨(rZ).trans ((show S1.2 = S.2 by rw [d1])), ?_⟩
  · intro p i hW
    clear e10 e9 c15 c14 b8 e8 c13 b7 e7 c12 c11 c10 b6 e6 c9 b5 e5 c8 c7 c6 b4 e4 c5 c4 c3 b3 e3 c2 c1 b2 e2
    exact ((fZ p i (by omega))).trans ((show S1.1 p i = S.1 p i by rw [d1]; exact if_neg (by omega)))
theorem q320_13 (S : fx_S) (x2 x3 : Int) (hS : fx_Sok S) (g2 : -2147483648 ≤ x2 ∧ x2 ≤ 2147483647) (g3 : -2147483648 ≤ x3 ∧ x3 ≤ 2147483647) (v2 : Int) (e2 : v2 = S.1 2 8) (b2 : -2147483648 ≤ v2 ∧ v2 ≤ 2147483647) (c1 : x3 < v2) (c2 : 0 ≤ x3) (v3 : Int) (e3 : v3 = S.1 2 8) (b3 : -2147483648 ≤ v3 ∧ v3 ≤ 2147483647) (c3 : x3 < v3) (c4 : 0 ≤ x3) (c5 : x3 < 10) (v4 : Int) (e4 : v4 = S.1 12 x3) (b4 : -2147483648 ≤ v4 ∧ v4 ≤ 2147483647) (c6 : v4 ≠ 3600) (v5 : Int) (e5 : v5 = fx_add x3 1) (z : Int) (Z : fx_S) (kz : fx_Sok Z) (bz : -2147483648 ≤ z ∧ z ≤ 2147483647) (pz : s320 S x2 v5 z Z) : s320 S x2 x3 z Z := by
  obtain ⟨rZ, fZ⟩ := pz
  refine ⟨rZ, ?_⟩
  · intro p i hW
    clear e5 c6 b4 e4 c5 c4 c3 b3 e3 c2 c1 b2 e2
    exact (fZ p i (by omega))
theorem q321_0 (S : fx_S) (x2 x3 : Int) (hS : fx_Sok S) (g2 : -2147483648 ≤ x2 ∧ x2 ≤ 2147483647) (g3 : -2147483648 ≤ x3 ∧ x3 ≤ 2147483647) (v2 : Int) (e2 : v2 = S.1 29 0) (b2 : -2147483648 ≤ v2 ∧ v2 ≤ 2147483647) (c1 : v2 ≤ x3) : s321 S x2 x3 x2 S := by
  refine ⟨rfl, ?_⟩
  · intro p i hW
    clear c1 b2 e2
    exact rfl
theorem q321_1 (S : fx_S) (x2 x3 : Int) (hS : fx_Sok S) (g2 : -2147483648 ≤ x2 ∧ x2 ≤ 2147483647) (g3 : -2147483648 ≤ x3 ∧ x3 ≤ 2147483647) (v2 : Int) (e2 : v2 = S.1 29 0) (b2 : -2147483648 ≤ v2 ∧ v2 ≤ 2147483647) (c1 : x3 < v2) (c2 : x3 < 0) (c3 : 0 ≤ x3) (c4 : x3 < 20) (v3 : Int) (e3 : v3 = S.1 32 x3) (b3 : -2147483648 ≤ v3 ∧ v3 ≤ 2147483647) (c5 : v3 < 0) (v4 : Int) (e4 : v4 = fx_add x3 1) (z : Int) (Z : fx_S) (kz : fx_Sok Z) (bz : -2147483648 ≤ z ∧ z ≤ 2147483647) (pz : s321 S x2 v4 z Z) : s321 S x2 x3 z Z := by
  obtain ⟨rZ, fZ⟩ := pz
  refine ⟨rZ, ?_⟩
  · intro p i hW
    clear e4 c5 b3 e3 c4 c3 c2 c1 b2 e2
    exact (fZ p i (by omega))
theorem q321_2 (S : fx_S) (x2 x3 : Int) (hS : fx_Sok S) (g2 : -2147483648 ≤ x2 ∧ x2 ≤ 2147483647) (g3 : -2147483648 ≤ x3 ∧ x3 ≤ 2147483647) (v2 : Int) (e2 : v2 = S.1 29 0) (b2 : -2147483648 ≤ v2 ∧ v2 ≤ 2147483647) (c1 : x3 < v2) (c2 : x3 < 0) (c3 : 0 ≤ x3) (c4 : x3 < 20) (v3 : Int) (e3 : v3 = S.1 32 x3) (b3 : -2147483648 ≤ v3 ∧ v3 ≤ 2147483647) (c5 : 0 ≤ v3) (v4 : Int) (e4 : v4 = S.1 2 8) (b4 : -2147483648 ≤ v4 ∧ v4 ≤ 2147483647) (c6 : v4 ≤ v3) (v5 : Int) (e5 : v5 = fx_add x3 1) (z : Int) (Z : fx_S) (kz : fx_Sok Z) (bz : -2147483648 ≤ z ∧ z ≤ 2147483647) (pz : s321 S x2 v5 z Z) : s321 S x2 x3 z Z := by
  obtain ⟨rZ, fZ⟩ := pz
  refine ⟨rZ, ?_⟩
  · intro p i hW
    clear e5 c6 b4 e4 c5 b3 e3 c4 c3 c2 c1 b2 e2
    exact (fZ p i (by omega))
theorem q321_3 (S : fx_S) (x2 x3 : Int) (hS : fx_Sok S) (g2 : -2147483648 ≤ x2 ∧ x2 ≤ 2147483647) (g3 : -2147483648 ≤ x3 ∧ x3 ≤ 2147483647) (v2 : Int) (e2 : v2 = S.1 29 0) (b2 : -2147483648 ≤ v2 ∧ v2 ≤ 2147483647) (c1 : x3 < v2) (c2 : x3 < 0) (c3 : 0 ≤ x3) (c4 : x3 < 20) (v3 : Int) (e3 : v3 = S.1 32 x3) (b3 : -2147483648 ≤ v3 ∧ v3 ≤ 2147483647) (c5 : 0 ≤ v3) (v4 : Int) (e4 : v4 = S.1 2 8) (b4 : -2147483648 ≤ v4 ∧ v4 ≤ 2147483647) (c6 : v3 < v4) (c7 : 0 ≤ v3) (c8 : v3 < 10) (v5 : Int) (e5 : v5 = S.1 12 v3) (b5 : -2147483648 ≤ v5 ∧ v5 ≤ 2147483647) (c9 : v5 = 3600) (v6 : Int) (e6 : v6 = fx_add x3 1) (z : Int) (Z : fx_S) (kz : fx_Sok Z) (bz : -2147483648 ≤ z ∧ z ≤ 2147483647) (pz : s321 S x2 v6 z Z) : s321 S x2 x3 z Z := by
  obtain ⟨rZ, fZ⟩ := pz
  refine ⟨rZ, ?_⟩
  · intro p i hW
    clear e6 c9 b5 e5 c8 c7 c6 b4 e4 c5 b3 e3 c4 c3 c2 c1 b2 e2
    exact (fZ p i (by omega))
theorem q321_4 (S : fx_S) (x2 x3 : Int) (hS : fx_Sok S) (g2 : -2147483648 ≤ x2 ∧ x2 ≤ 2147483647) (g3 : -2147483648 ≤ x3 ∧ x3 ≤ 2147483647) (v2 : Int) (e2 : v2 = S.1 29 0) (b2 : -2147483648 ≤ v2 ∧ v2 ≤ 2147483647) (c1 : x3 < v2) (c2 : x3 < 0) (c3 : 0 ≤ x3) (c4 : x3 < 20) (v3 : Int) (e3 : v3 = S.1 32 x3) (b3 : -2147483648 ≤ v3 ∧ v3 ≤ 2147483647) (c5 : 0 ≤ v3) (v4 : Int) (e4 : v4 = S.1 2 8) (b4 : -2147483648 ≤ v4 ∧ v4 ≤ 2147483647) (c6 : v3 < v4) (c7 : 0 ≤ v3) (c8 : v3 < 10) (v5 : Int) (e5 : v5 = S.1 12 v3) (b5 : -2147483648 ≤ v5 ∧ v5 ≤ 2147483647) (c9 : v5 ≠ 3600) (v6 : Int) (e6 : v6 = S.1 1 0) (b6 : -2147483648 ≤ v6 ∧ v6 ≤ 2147483647) (c10 : 0 ≤ x3) (c11 : x3 < 20) (S1 : fx_S) (d1 : S1 = (fx_up S.1 33 x3 v6, S.2)) (v7 : Int) (e7 : v7 = fx_add x2 1) (v8 : Int) (e8 : v8 = fx_add x3 1) (z : Int) (Z : fx_S) (kz : fx_Sok Z) (bz : -2147483648 ≤ z ∧ z ≤ 2147483647) (pz : s321 S1 v7 v8 z Z) : s321 S x2 x3 z Z := by
  obtain ⟨rZ, fZ⟩ := pz
  refine ⟨(rZ).trans ((show S1.2 = S.2 by rw [d1])), ?_⟩
  · intro p i hW
    clear e8 e7 c11 c10 b6 e6 c9 b5 e5 c8 c7 c6 b4 e4 c5 b3 e3 c4 c3 c2 c1 b2 e2
    exact ((fZ p i (by omega))).trans ((show S1.1 p i = S.1 p i by rw [d1]; exact if_neg (by omega)))
theorem q321_5 (S : fx_S) (x2 x3 : Int) (hS : fx_Sok S) (g2 : -2147483648 ≤ x2 ∧ x2 ≤ 2147483647) (g3 : -2147483648 ≤ x3 ∧ x3 ≤ 2147483647) (v2 : Int) (e2 : v2 = S.1 29 0) (b2 : -2147483648 ≤ v2 ∧ v2 ≤ 2147483647) (c1 : x3 < v2) (c2 : 0 ≤ x3) (v3 : Int) (e3 : v3 = S.1 29 0) (b3 : -2147483648 ≤ v3 ∧ v3 ≤ 2147483647) (c3 : v3 ≤ x3) (c4 : 0 ≤ x3) (c5 : x3 < 20) (v4 : Int) (e4 : v4 = S.1 32 x3) (b4 : -2147483648 ≤ v4 ∧ v4 ≤ 2147483647) (c6 : v4 < 0) (v5 : Int) (e5 : v5 = fx_add x3 1) (z : Int) (Z : fx_S) (kz : fx_Sok Z) (bz : -2147483648 ≤ z ∧ z ≤ 2147483647) (pz : s321 S x2 v5 z Z) : s321 S x2 x3 z Z := by
  obtain ⟨rZ, fZ⟩ := pz
  refine ⟨rZ, ?_⟩
  · intro p i hW
    clear e5 c6 b4 e4 c5 c4 c3 b3 e3 c2 c1 b2 e2
    exact (fZ p i (by omega))
theorem q321_6 (S : fx_S) (x2 x3 : Int) (hS : fx_Sok S) (g2 : -2147483648 ≤ x2 ∧ x2 ≤ 2147483647) (g3 : -2147483648 ≤ x3 ∧ x3 ≤ 2147483647) (v2 : Int) (e2 : v2 = S.1 29 0) (b2 : -2147483648 ≤ v2 ∧ v2 ≤ 2147483647) (c1 : x3 < v2) (c2 : 0 ≤ x3) (v3 : Int) (e3 : v3 = S.1 29 0) (b3 : -2147483648 ≤ v3 ∧ v3 ≤ 2147483647) (c3 : v3 ≤ x3) (c4 : 0 ≤ x3) (c5 : x3 < 20) (v4 : Int) (e4 : v4 = S.1 32 x3) (b4 : -2147483648 ≤ v4 ∧ v4 ≤ 2147483647) (c6 : 0 ≤ v4) (v5 : Int) (e5 : v5 = S.1 2 8) (b5 : -2147483648 ≤ v5 ∧ v5 ≤ 2147483647) (c7 : v5 ≤ v4) (v6 : Int) (e6 : v6 = fx_add x3 1) (z : Int) (Z : fx_S) (kz : fx_Sok Z) (bz : -2147483648 ≤ z ∧ z ≤ 2147483647) (pz : s321 S x2 v6 z Z) : s321 S x2 x3 z Z := by
  obtain ⟨rZ, fZ⟩ := pz
  refine ⟨rZ, ?_⟩
  · intro p i hW
    clear e6 c7 b5 e5 c6 b4 e4 c5 c4 c3 b3 e3 c2 c1 b2 e2
    exact (fZ p i (by omega))
