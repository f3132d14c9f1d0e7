/-! FX: what is to be shown of the entries -/
theorem q228_1 (S : fx_S) (x1 x2 x3 x4 : Int) (hS : fx_Sok S) (g1 : -2147483648 ≤ x1 ∧ x1 ≤ 2147483647) (g2 : -2147483648 ≤ x2 ∧ x2 ≤ 2147483647) (g3 : -2147483648 ≤ x3 ∧ x3 ≤ 2147483647) (g4 : -2147483648 ≤ x4 ∧ x4 ≤ 2147483647) (v4 : Int) (e4 : v4 = S.1 67 3) (b4 : -2147483648 ≤ v4 ∧ v4 ≤ 2147483647) (c1 : x4 < v4) (v5 : Int) (e5 : v5 = fx_mul 260 x4) (v6 : Int) (e6 : v6 = fx_add 1100 v5) (c2 : 0 ≤ v6) (c3 : v6 < 8090) (v7 : Int) (e7 : v7 = S.1 67 v6) (b7 : -2147483648 ≤ v7 ∧ v7 ≤ 2147483647) (v8 : Int) (S1 : fx_S) (k1 : fx_Sok S1) (b8 : -2147483648 ≤ v8 ∧ v8 ≤ 2147483647) (p1 : s125 S x1 x2 v8 S1) (c4 : v8 < v7) (v9 : Int) (e9 : v9 = fx_add x4 1) (z : Int) (Z : fx_S) (kz : fx_Sok Z) (bz : -2147483648 ≤ z ∧ z ≤ 2147483647) (pz : s228 S1 x1 x2 x3 v9 z Z) : s228 S x1 x2 x3 x4 z Z := by
  obtain ⟨rfl, p1⟩ := p1
  obtain ⟨rfl, pz⟩ := pz
  refine ⟨rfl, ?_⟩
  intro hB a1 a2 a3
  have N := fx_WB_n hB
  have h5 := e5
  first | rw [fx_mul_eq (by omega) (by omega)] at h5 | skip
  have h6 := e6
  first | rw [fx_add_eq (by omega) (by omega)] at h6 | skip
  have h9 := e9
  first | rw [fx_add_eq (by omega) (by omega)] at h9 | skip
  exact pz hB (by omega) (by omega) (by omega)
theorem q228_2 (S : fx_S) (x1 x2 x3 x4 : Int) (hS : fx_Sok S) (g1 : -2147483648 ≤ x1 ∧ x1 ≤ 2147483647) (g2 : -2147483648 ≤ x2 ∧ x2 ≤ 2147483647) (g3 : -2147483648 ≤ x3 ∧ x3 ≤ 2147483647) (g4 : -2147483648 ≤ x4 ∧ x4 ≤ 2147483647) (v4 : Int) (e4 : v4 = S.1 67 3) (b4 : -2147483648 ≤ v4 ∧ v4 ≤ 2147483647) (c1 : x4 < v4) (v5 : Int) (e5 : v5 = fx_mul 260 x4) (v6 : Int) (e6 : v6 = fx_add 1100 v5) (c2 : 0 ≤ v6) (c3 : v6 < 8090) (v7 : Int) (e7 : v7 = S.1 67 v6) (b7 : -2147483648 ≤ v7 ∧ v7 ≤ 2147483647) (v8 : Int) (S1 : fx_S) (k1 : fx_Sok S1) (b8 : -2147483648 ≤ v8 ∧ v8 ≤ 2147483647) (p1 : s125 S x1 x2 v8 S1) (c4 : v7 ≤ v8) (v9 : Int) (e9 : v9 = fx_mul 260 x4) (v10 : Int) (e10 : v10 = fx_add 1100 v9) (v11 : Int) (e11 : v11 = fx_add v10 2) (c5 : 0 ≤ v11) (c6 : v11 < 8090) (v12 : Int) (e12 : v12 = S1.1 67 v11) (b12 : -2147483648 ≤ v12 ∧ v12 ≤ 2147483647) (c7 : v12 = (-1)) (v13 : Int) (e13 : v13 = fx_add x4 1) (z : Int) (Z : fx_S) (kz : fx_Sok Z) (bz : -2147483648 ≤ z ∧ z ≤ 2147483647) (pz : s228 S1 x1 x2 x4 v13 z Z) : s228 S x1 x2 x3 x4 z Z := by
  obtain ⟨rfl, p1⟩ := p1
  obtain ⟨rfl, pz⟩ := pz
  refine ⟨rfl, ?_⟩
  intro hB a1 a2 a3
  have N := fx_WB_n hB
  have h5 := e5
  first | rw [fx_mul_eq (by omega) (by omega)] at h5 | skip
  have h6 := e6
  first | rw [fx_add_eq (by omega) (by omega)] at h6 | skip
  obtain rfl : v5 = v9 := by rw [e9, e5]
  obtain rfl : v6 = v10 := by rw [e10, e6]
  have h11 := e11
  first | rw [fx_add_eq (by omega) (by omega)] at h11 | skip
  have h13 := e13
  first | rw [fx_add_eq (by omega) (by omega)] at h13 | skip
  exact pz hB (by omega) (by omega) (by omega)
theorem q228_3 (S : fx_S) (x1 x2 x3 x4 : Int) (hS : fx_Sok S) (g1 : -2147483648 ≤ x1 ∧ x1 ≤ 2147483647) (g2 : -2147483648 ≤ x2 ∧ x2 ≤ 2147483647) (g3 : -2147483648 ≤ x3 ∧ x3 ≤ 2147483647) (g4 : -2147483648 ≤ x4 ∧ x4 ≤ 2147483647) (v4 : Int) (e4 : v4 = S.1 67 3) (b4 : -2147483648 ≤ v4 ∧ v4 ≤ 2147483647) (c1 : x4 < v4) (v5 : Int) (e5 : v5 = fx_mul 260 x4) (v6 : Int) (e6 : v6 = fx_add 1100 v5) (c2 : 0 ≤ v6) (c3 : v6 < 8090) (v7 : Int) (e7 : v7 = S.1 67 v6) (b7 : -2147483648 ≤ v7 ∧ v7 ≤ 2147483647) (v8 : Int) (S1 : fx_S) (k1 : fx_Sok S1) (b8 : -2147483648 ≤ v8 ∧ v8 ≤ 2147483647) (p1 : s125 S x1 x2 v8 S1) (c4 : v7 ≤ v8) (v9 : Int) (e9 : v9 = fx_mul 260 x4) (v10 : Int) (e10 : v10 = fx_add 1100 v9) (v11 : Int) (e11 : v11 = fx_add v10 2) (c5 : 0 ≤ v11) (c6 : v11 < 8090) (v12 : Int) (e12 : v12 = S1.1 67 v11) (b12 : -2147483648 ≤ v12 ∧ v12 ≤ 2147483647) (c7 : v12 ≠ (-1)) (c8 : x2 < v12) (v13 : Int) (e13 : v13 = fx_add x4 1) (z : Int) (Z : fx_S) (kz : fx_Sok Z) (bz : -2147483648 ≤ z ∧ z ≤ 2147483647) (pz : s228 S1 x1 x2 x4 v13 z Z) : s228 S x1 x2 x3 x4 z Z := by
  obtain ⟨rfl, p1⟩ := p1
  obtain ⟨rfl, pz⟩ := pz
  refine ⟨rfl, ?_⟩
  intro hB a1 a2 a3
  have N := fx_WB_n hB
  have h5 := e5
  first | rw [fx_mul_eq (by omega) (by omega)] at h5 | skip
  have h6 := e6
  first | rw [fx_add_eq (by omega) (by omega)] at h6 | skip
  obtain rfl : v5 = v9 := by rw [e9, e5]
  obtain rfl : v6 = v10 := by rw [e10, e6]
  have h11 := e11
  first | rw [fx_add_eq (by omega) (by omega)] at h11 | skip
  have h13 := e13
  first | rw [fx_add_eq (by omega) (by omega)] at h13 | skip
  exact pz hB (by omega) (by omega) (by omega)
theorem q228_4 (S : fx_S) (x1 x2 x3 x4 : Int) (hS : fx_Sok S) (g1 : -2147483648 ≤ x1 ∧ x1 ≤ 2147483647) (g2 : -2147483648 ≤ x2 ∧ x2 ≤ 2147483647) (g3 : -2147483648 ≤ x3 ∧ x3 ≤ 2147483647) (g4 : -2147483648 ≤ x4 ∧ x4 ≤ 2147483647) (v4 : Int) (e4 : v4 = S.1 67 3) (b4 : -2147483648 ≤ v4 ∧ v4 ≤ 2147483647) (c1 : x4 < v4) (v5 : Int) (e5 : v5 = fx_mul 260 x4) (v6 : Int) (e6 : v6 = fx_add 1100 v5) (c2 : 0 ≤ v6) (c3 : v6 < 8090) (v7 : Int) (e7 : v7 = S.1 67 v6) (b7 : -2147483648 ≤ v7 ∧ v7 ≤ 2147483647) (v8 : Int) (S1 : fx_S) (k1 : fx_Sok S1) (b8 : -2147483648 ≤ v8 ∧ v8 ≤ 2147483647) (p1 : s125 S x1 x2 v8 S1) (c4 : v7 ≤ v8) (v9 : Int) (e9 : v9 = fx_mul 260 x4) (v10 : Int) (e10 : v10 = fx_add 1100 v9) (v11 : Int) (e11 : v11 = fx_add v10 2) (c5 : 0 ≤ v11) (c6 : v11 < 8090) (v12 : Int) (e12 : v12 = S1.1 67 v11) (b12 : -2147483648 ≤ v12 ∧ v12 ≤ 2147483647) (c7 : v12 ≠ (-1)) (c8 : v12 ≤ x2) (v13 : Int) (e13 : v13 = fx_add x4 1) (z : Int) (Z : fx_S) (kz : fx_Sok Z) (bz : -2147483648 ≤ z ∧ z ≤ 2147483647) (pz : s228 S1 x1 x2 x3 v13 z Z) : s228 S x1 x2 x3 x4 z Z := by
  obtain ⟨rfl, p1⟩ := p1
  obtain ⟨rfl, pz⟩ := pz
  refine ⟨rfl, ?_⟩
  intro hB a1 a2 a3
  have N := fx_WB_n hB
  have h5 := e5
  first | rw [fx_mul_eq (by omega) (by omega)] at h5 | skip
  have h6 := e6
  first | rw [fx_add_eq (by omega) (by omega)] at h6 | skip
  obtain rfl : v5 = v9 := by rw [e9, e5]
  obtain rfl : v6 = v10 := by rw [e10, e6]
  have h11 := e11
  first | rw [fx_add_eq (by omega) (by omega)] at h11 | skip
  have h13 := e13
  first | rw [fx_add_eq (by omega) (by omega)] at h13 | skip
  exact pz hB (by omega) (by omega) (by omega)
theorem q229_0 (S : fx_S) (x0 x1 x2 x3 : Int) (hS : fx_Sok S) (g0 : -1 ≤ x0 ∧ x0 < S.2.2) (g1 : -2147483648 ≤ x1 ∧ x1 ≤ 2147483647) (g2 : -2147483648 ≤ x2 ∧ x2 ≤ 2147483647) (g3 : -2147483648 ≤ x3 ∧ x3 ≤ 2147483647) (z : Int) (Z : fx_S) (kz : fx_Sok Z) (bz : -2147483648 ≤ z ∧ z ≤ 2147483647) (pz : s306 S x0 x1 x2 x3 0 0 z Z) : s229 S x0 x1 x2 x3 z Z := by
  obtain rfl : S = Z := pz
  exact rfl
theorem q230_0 (S : fx_S) (x1 x2 x3 x4 : Int) (hS : fx_Sok S) (g1 : -2147483648 ≤ x1 ∧ x1 ≤ 2147483647) (g2 : -2147483648 ≤ x2 ∧ x2 ≤ 2147483647) (g3 : -2147483648 ≤ x3 ∧ x3 ≤ 2147483647) (g4 : -2147483648 ≤ x4 ∧ x4 ≤ 2147483647) (v4 : Int) (e4 : v4 = S.1 67 6) (b4 : -2147483648 ≤ v4 ∧ v4 ≤ 2147483647) (v5 : Int) (e5 : v5 = fx_mul 3 v4) (v6 : Int) (e6 : v6 = fx_add 180 v5) (c1 : v6 ≤ x4) : s230 S x1 x2 x3 x4 x3 S := by
  exact rfl
theorem q230_1 (S : fx_S) (x1 x2 x3 x4 : Int) (hS : fx_Sok S) (g1 : -2147483648 ≤ x1 ∧ x1 ≤ 2147483647) (g2 : -2147483648 ≤ x2 ∧ x2 ≤ 2147483647) (g3 : -2147483648 ≤ x3 ∧ x3 ≤ 2147483647) (g4 : -2147483648 ≤ x4 ∧ x4 ≤ 2147483647) (v4 : Int) (e4 : v4 = S.1 67 6) (b4 : -2147483648 ≤ v4 ∧ v4 ≤ 2147483647) (v5 : Int) (e5 : v5 = fx_mul 3 v4) (v6 : Int) (e6 : v6 = fx_add 180 v5) (c1 : x4 < v6) (c2 : 0 ≤ x4) (c3 : x4 < 8090) (v7 : Int) (e7 : v7 = S.1 67 x4) (b7 : -2147483648 ≤ v7 ∧ v7 ≤ 2147483647) (c4 : v7 ≠ x1) (v8 : Int) (e8 : v8 = fx_add x4 3) (z : Int) (Z : fx_S) (kz : fx_Sok Z) (bz : -2147483648 ≤ z ∧ z ≤ 2147483647) (pz : s230 S x1 x2 x3 v8 z Z) : s230 S x1 x2 x3 x4 z Z := by
  obtain rfl : S = Z := pz
  exact rfl
theorem q230_2 (S : fx_S) (x1 x2 x3 x4 : Int) (hS : fx_Sok S) (g1 : -2147483648 ≤ x1 ∧ x1 ≤ 2147483647) (g2 : -2147483648 ≤ x2 ∧ x2 ≤ 2147483647) (g3 : -2147483648 ≤ x3 ∧ x3 ≤ 2147483647) (g4 : -2147483648 ≤ x4 ∧ x4 ≤ 2147483647) (v4 : Int) (e4 : v4 = S.1 67 6) (b4 : -2147483648 ≤ v4 ∧ v4 ≤ 2147483647) (v5 : Int) (e5 : v5 = fx_mul 3 v4) (v6 : Int) (e6 : v6 = fx_add 180 v5) (c1 : x4 < v6) (c2 : 0 ≤ x4) (c3 : x4 < 8090) (v7 : Int) (e7 : v7 = S.1 67 x4) (b7 : -2147483648 ≤ v7 ∧ v7 ≤ 2147483647) (c4 : v7 = x1) (v8 : Int) (e8 : v8 = fx_add x4 2) (c5 : 0 ≤ v8) (c6 : v8 < 8090) (v9 : Int) (e9 : v9 = S.1 67 v8) (b9 : -2147483648 ≤ v9 ∧ v9 ≤ 2147483647) (c7 : x2 < v9) (v10 : Int) (e10 : v10 = fx_add x4 3) (z : Int) (Z : fx_S) (kz : fx_Sok Z) (bz : -2147483648 ≤ z ∧ z ≤ 2147483647) (pz : s230 S x1 x2 x3 v10 z Z) : s230 S x1 x2 x3 x4 z Z := by
  obtain rfl : S = Z := pz
  exact rfl
theorem q230_3 (S : fx_S) (x1 x2 x3 x4 : Int) (hS : fx_Sok S) (g1 : -2147483648 ≤ x1 ∧ x1 ≤ 2147483647) (g2 : -2147483648 ≤ x2 ∧ x2 ≤ 2147483647) (g3 : -2147483648 ≤ x3 ∧ x3 ≤ 2147483647) (g4 : -2147483648 ≤ x4 ∧ x4 ≤ 2147483647) (v4 : Int) (e4 : v4 = S.1 67 6) (b4 : -2147483648 ≤ v4 ∧ v4 ≤ 2147483647) (v5 : Int) (e5 : v5 = fx_mul 3 v4) (v6 : Int) (e6 : v6 = fx_add 180 v5) (c1 : x4 < v6) (c2 : 0 ≤ x4) (c3 : x4 < 8090) (v7 : Int) (e7 : v7 = S.1 67 x4) (b7 : -2147483648 ≤ v7 ∧ v7 ≤ 2147483647) (c4 : v7 = x1) (v8 : Int) (e8 : v8 = fx_add x4 2) (c5 : 0 ≤ v8) (c6 : v8 < 8090) (v9 : Int) (e9 : v9 = S.1 67 v8) (b9 : -2147483648 ≤ v9 ∧ v9 ≤ 2147483647) (c7 : v9 ≤ x2) (v10 : Int) (e10 : v10 = fx_add x4 1) (c8 : 0 ≤ v10) (c9 : v10 < 8090) (v11 : Int) (e11 : v11 = S.1 67 v10) (b11 : -2147483648 ≤ v11 ∧ v11 ≤ 2147483647) (v12 : Int) (e12 : v12 = fx_add x4 3) (z : Int) (Z : fx_S) (kz : fx_Sok Z) (bz : -2147483648 ≤ z ∧ z ≤ 2147483647) (pz : s230 S x1 x2 v11 v12 z Z) : s230 S x1 x2 x3 x4 z Z := by
  obtain rfl : S = Z := pz
  exact rfl
theorem q231_0 (S : fx_S) (x1 x2 x3 x4 x5 : Int) (hS : fx_Sok S) (g1 : -2147483648 ≤ x1 ∧ x1 ≤ 2147483647) (g2 : -2147483648 ≤ x2 ∧ x2 ≤ 2147483647) (g3 : -2147483648 ≤ x3 ∧ x3 ≤ 2147483647) (g4 : -2147483648 ≤ x4 ∧ x4 ≤ 2147483647) (g5 : -2147483648 ≤ x5 ∧ x5 ≤ 2147483647) (c1 : x1 = (-1)) : s231 S x1 x2 x3 x4 x5 x4 S := by
  refine ⟨rfl, ?_, ?_⟩
  · intro p i hW
    clear c1
    exact rfl
  · skip
    intro hB a1 a2 a3 a4
    exact ⟨a3, a4⟩
theorem q231_1 (S : fx_S) (x1 x2 x3 x4 x5 : Int) (hS : fx_Sok S) (g1 : -2147483648 ≤ x1 ∧ x1 ≤ 2147483647) (g2 : -2147483648 ≤ x2 ∧ x2 ≤ 2147483647) (g3 : -2147483648 ≤ x3 ∧ x3 ≤ 2147483647) (g4 : -2147483648 ≤ x4 ∧ x4 ≤ 2147483647) (g5 : -2147483648 ≤ x5 ∧ x5 ≤ 2147483647) (c1 : x1 ≠ (-1)) (v5 : Int) (e5 : v5 = fx_mul 260 x1) (v6 : Int) (e6 : v6 = fx_add 1100 v5) (v7 : Int) (e7 : v7 = fx_add v6 3) (c2 : 0 ≤ v7) (c3 : v7 < 8090) (v8 : Int) (e8 : v8 = S.1 67 v7) (b8 : -2147483648 ≤ v8 ∧ v8 ≤ 2147483647) (c4 : v8 ≤ x5) : s231 S x1 x2 x3 x4 x5 x4 S := by
  refine ⟨rfl, ?_, ?_⟩
  · intro p i hW
    clear c4 b8 e8 c3 c2 e7 e6 e5 c1
    exact rfl
  · skip
    intro hB a1 a2 a3 a4
    exact ⟨a3, a4⟩
theorem q231_2 (S : fx_S) (x1 x2 x3 x4 x5 : Int) (hS : fx_Sok S) (g1 : -2147483648 ≤ x1 ∧ x1 ≤ 2147483647) (g2 : -2147483648 ≤ x2 ∧ x2 ≤ 2147483647) (g3 : -2147483648 ≤ x3 ∧ x3 ≤ 2147483647) (g4 : -2147483648 ≤ x4 ∧ x4 ≤ 2147483647) (g5 : -2147483648 ≤ x5 ∧ x5 ≤ 2147483647) (c1 : x1 ≠ (-1)) (v5 : Int) (e5 : v5 = fx_mul 260 x1) (v6 : Int) (e6 : v6 = fx_add 1100 v5) (v7 : Int) (e7 : v7 = fx_add v6 3) (c2 : 0 ≤ v7) (c3 : v7 < 8090) (v8 : Int) (e8 : v8 = S.1 67 v7) (b8 : -2147483648 ≤ v8 ∧ v8 ≤ 2147483647) (c4 : x5 < v8) (v9 : Int) (e9 : v9 = fx_mul 260 x1) (v10 : Int) (e10 : v10 = fx_add 1100 v9) (v11 : Int) (e11 : v11 = fx_add v10 4) (v12 : Int) (e12 : v12 = fx_mul 16 x5) (v13 : Int) (e13 : v13 = fx_add v11 v12) (c5 : 0 ≤ v13) (c6 : v13 < 8090) (v14 : Int) (e14 : v14 = S.1 67 v13) (b14 : -2147483648 ≤ v14 ∧ v14 ≤ 2147483647) (c7 : v14 ≠ 0) (z : Int) (Z : fx_S) (kz : fx_Sok Z) (bz : -2147483648 ≤ z ∧ z ≤ 2147483647) (pz : s307 S x1 x2 x3 x4 x5 v13 0 0 z Z) : s231 S x1 x2 x3 x4 x5 z Z := by
  obtain ⟨rZ, fZ, pz⟩ := pz
  refine ⟨rZ, ?_, ?_⟩
  · intro p i hW
    clear c7 b14 e14 c6 c5 e13 e12 e11 e10 e9 c4 b8 e8 c3 c2 e7 e6 e5 c1
    exact (fZ p i (by omega))
  · skip
    intro hB a1 a2 a3 a4
    have N := fx_WB_n hB
    have h5 := e5
    first | rw [fx_mul_eq (by omega) (by omega)] at h5 | skip
    have h6 := e6
    first | rw [fx_add_eq (by omega) (by omega)] at h6 | skip
    have h7 := e7
    first | rw [fx_add_eq (by omega) (by omega)] at h7 | skip
    obtain rfl : v5 = v9 := by rw [e9, e5]
    obtain rfl : v6 = v10 := by rw [e10, e6]
    have h11 := e11
    first | rw [fx_add_eq (by omega) (by omega)] at h11 | skip
    have h12 := e12
    first | rw [fx_mul_eq (by omega) (by omega)] at h12 | skip
    have h13 := e13
    first | rw [fx_add_eq (by omega) (by omega)] at h13 | skip
    have Nl := fx_WB_l hB (s := x1) (by omega) (by omega)
    have ev : v7 = 1103 + 260 * x1 := by omega
    rw [ev] at e8
    have hv := Nl.1
    rw [← e8] at hv
    first | rw [fx_mul_eq (by omega) (by omega)] at h12 | skip
    first | rw [fx_add_eq (by omega) (by omega)] at h13 | skip
    exact pz hB (by omega) (by omega) a2 (by omega) (by rw [← e8]; exact c4) (fun z => by omega) a3 a4
theorem q231_3 (S : fx_S) (x1 x2 x3 x4 x5 : Int) (hS : fx_Sok S) (g1 : -2147483648 ≤ x1 ∧ x1 ≤ 2147483647) (g2 : -2147483648 ≤ x2 ∧ x2 ≤ 2147483647) (g3 : -2147483648 ≤ x3 ∧ x3 ≤ 2147483647) (g4 : -2147483648 ≤ x4 ∧ x4 ≤ 2147483647) (g5 : -2147483648 ≤ x5 ∧ x5 ≤ 2147483647) (c1 : x1 ≠ (-1)) (v5 : Int) (e5 : v5 = fx_mul 260 x1) (v6 : Int) (e6 : v6 = fx_add 1100 v5) (v7 : Int) (e7 : v7 = fx_add v6 3) (c2 : 0 ≤ v7) (c3 : v7 < 8090) (v8 : Int) (e8 : v8 = S.1 67 v7) (b8 : -2147483648 ≤ v8 ∧ v8 ≤ 2147483647) (c4 : x5 < v8) (v9 : Int) (e9 : v9 = fx_mul 260 x1) (v10 : Int) (e10 : v10 = fx_add 1100 v9) (v11 : Int) (e11 : v11 = fx_add v10 4) (v12 : Int) (e12 : v12 = fx_mul 16 x5) (v13 : Int) (e13 : v13 = fx_add v11 v12) (c5 : 0 ≤ v13) (c6 : v13 < 8090) (v14 : Int) (e14 : v14 = S.1 67 v13) (b14 : -2147483648 ≤ v14 ∧ v14 ≤ 2147483647) (c7 : v14 = 0) (z : Int) (Z : fx_S) (kz : fx_Sok Z) (bz : -2147483648 ≤ z ∧ z ≤ 2147483647) (pz : s307 S x1 x2 x3 x4 x5 v13 1 0 z Z) : s231 S x1 x2 x3 x4 x5 z Z := by
  obtain ⟨rZ, fZ, pz⟩ := pz
  refine ⟨rZ, ?_, ?_⟩
  · intro p i hW
    clear c7 b14 e14 c6 c5 e13 e12 e11 e10 e9 c4 b8 e8 c3 c2 e7 e6 e5 c1
    exact (fZ p i (by omega))
  · skip
    intro hB a1 a2 a3 a4
    have N := fx_WB_n hB
    have h5 := e5
    first | rw [fx_mul_eq (by omega) (by omega)] at h5 | skip
    have h6 := e6
    first | rw [fx_add_eq (by omega) (by omega)] at h6 | skip
    have h7 := e7
    first | rw [fx_add_eq (by omega) (by omega)] at h7 | skip
    obtain rfl : v5 = v9 := by rw [e9, e5]
    obtain rfl : v6 = v10 := by rw [e10, e6]
    have h11 := e11
    first | rw [fx_add_eq (by omega) (by omega)] at h11 | skip
    have h12 := e12
    first | rw [fx_mul_eq (by omega) (by omega)] at h12 | skip
    have h13 := e13
    first | rw [fx_add_eq (by omega) (by omega)] at h13 | skip
    have Nl := fx_WB_l hB (s := x1) (by omega) (by omega)
    have ev : v7 = 1103 + 260 * x1 := by omega
    rw [ev] at e8
    have hv := Nl.1
    rw [← e8] at hv
    first | rw [fx_mul_eq (by omega) (by omega)] at h12 | skip
    first | rw [fx_add_eq (by omega) (by omega)] at h13 | skip
    exact pz hB (by omega) (by omega) a2 (by omega) (by rw [← e8]; exact c4) (fun z => by omega) a3 a4
theorem q232_0 (S : fx_S) (x1 x2 x3 : Int) (hS : fx_Sok S) (g1 : -2147483648 ≤ x1 ∧ x1 ≤ 2147483647) (g2 : -2147483648 ≤ x2 ∧ x2 ≤ 2147483647) (g3 : -2147483648 ≤ x3 ∧ x3 ≤ 2147483647) (c1 : x3 < 0) (c2 : 0 ≤ x1) (c3 : x1 < 40) (v3 : Int) (e3 : v3 = S.1 5 x1) (b3 : -2147483648 ≤ v3 ∧ v3 ≤ 2147483647) : s232 S x1 x2 x3 v3 S := by
  exact rfl
theorem q232_1 (S : fx_S) (x1 x2 x3 : Int) (hS : fx_Sok S) (g1 : -2147483648 ≤ x1 ∧ x1 ≤ 2147483647) (g2 : -2147483648 ≤ x2 ∧ x2 ≤ 2147483647) (g3 : -2147483648 ≤ x3 ∧ x3 ≤ 2147483647) (c1 : 0 ≤ x3) (c2 : 0 ≤ x3) (c3 : x3 < 40) (v3 : Int) (e3 : v3 = S.1 6 x3) (b3 : -2147483648 ≤ v3 ∧ v3 ≤ 2147483647) (c4 : v3 ≠ x1) (v4 : Int) (e4 : v4 = fx_add x3 (-1)) (z : Int) (Z : fx_S) (kz : fx_Sok Z) (bz : -2147483648 ≤ z ∧ z ≤ 2147483647) (pz : s232 S x1 x2 v4 z Z) : s232 S x1 x2 x3 z Z := by
  obtain rfl : S = Z := pz
  exact rfl
theorem q232_2 (S : fx_S) (x1 x2 x3 : Int) (hS : fx_Sok S) (g1 : -2147483648 ≤ x1 ∧ x1 ≤ 2147483647) (g2 : -2147483648 ≤ x2 ∧ x2 ≤ 2147483647) (g3 : -2147483648 ≤ x3 ∧ x3 ≤ 2147483647) (c1 : 0 ≤ x3) (c2 : 0 ≤ x3) (c3 : x3 < 40) (v3 : Int) (e3 : v3 = S.1 6 x3) (b3 : -2147483648 ≤ v3 ∧ v3 ≤ 2147483647) (c4 : v3 = x1) (c5 : 0 ≤ x3) (c6 : x3 < 40) (v4 : Int) (e4 : v4 = S.1 8 x3) (b4 : -2147483648 ≤ v4 ∧ v4 ≤ 2147483647) (c7 : x2 < v4) (v5 : Int) (e5 : v5 = fx_add x3 (-1)) (z : Int) (Z : fx_S) (kz : fx_Sok Z) (bz : -2147483648 ≤ z ∧ z ≤ 2147483647) (pz : s232 S x1 x2 v5 z Z) : s232 S x1 x2 x3 z Z := by
  obtain rfl : S = Z := pz
  exact rfl
theorem q232_3 (S : fx_S) (x1 x2 x3 : Int) (hS : fx_Sok S) (g1 : -2147483648 ≤ x1 ∧ x1 ≤ 2147483647) (g2 : -2147483648 ≤ x2 ∧ x2 ≤ 2147483647) (g3 : -2147483648 ≤ x3 ∧ x3 ≤ 2147483647) (c1 : 0 ≤ x3) (c2 : 0 ≤ x3) (c3 : x3 < 40) (v3 : Int) (e3 : v3 = S.1 6 x3) (b3 : -2147483648 ≤ v3 ∧ v3 ≤ 2147483647) (c4 : v3 = x1) (c5 : 0 ≤ x3) (c6 : x3 < 40) (v4 : Int) (e4 : v4 = S.1 8 x3) (b4 : -2147483648 ≤ v4 ∧ v4 ≤ 2147483647) (c7 : v4 ≤ x2) (c8 : 0 ≤ x3) (c9 : x3 < 40) (v5 : Int) (e5 : v5 = S.1 7 x3) (b5 : -2147483648 ≤ v5 ∧ v5 ≤ 2147483647) : s232 S x1 x2 x3 v5 S := by
  exact rfl
theorem q233_0 (S : fx_S) (x0 x1 x2 x3 : Int) (hS : fx_Sok S) (g0 : -1 ≤ x0 ∧ x0 < S.2.2) (g1 : -2147483648 ≤ x1 ∧ x1 ≤ 2147483647) (g2 : -2147483648 ≤ x2 ∧ x2 ≤ 2147483647) (g3 : -2147483648 ≤ x3 ∧ x3 ≤ 2147483647) (z : Int) (Z : fx_S) (kz : fx_Sok Z) (bz : -2147483648 ≤ z ∧ z ≤ 2147483647) (pz : s308 S x0 x1 x2 x3 0 z Z) : s233 S x0 x1 x2 x3 z Z := by
  obtain rfl : S = Z := pz
  exact rfl
theorem q234_0 (S : fx_S) (x1 x2 : Int) (hS : fx_Sok S) (g1 : -2147483648 ≤ x1 ∧ x1 ≤ 2147483647) (g2 : -2147483648 ≤ x2 ∧ x2 ≤ 2147483647) (c1 : 0 ≤ x1) (c2 : x1 < 80) (v2 : Int) (e2 : v2 = S.1 16 x1) (b2 : -2147483648 ≤ v2 ∧ v2 ≤ 2147483647) (c3 : x2 < v2) : s234 S x1 x2 0 S := by
  refine ⟨rfl, ?_⟩
  skip
  rw [if_neg (by omega)]
theorem q234_1 (S : fx_S) (x1 x2 : Int) (hS : fx_Sok S) (g1 : -2147483648 ≤ x1 ∧ x1 ≤ 2147483647) (g2 : -2147483648 ≤ x2 ∧ x2 ≤ 2147483647) (c1 : 0 ≤ x1) (c2 : x1 < 80) (v2 : Int) (e2 : v2 = S.1 16 x1) (b2 : -2147483648 ≤ v2 ∧ v2 ≤ 2147483647) (c3 : v2 ≤ x2) (c4 : 0 ≤ x1) (c5 : x1 < 80) (v3 : Int) (e3 : v3 = S.1 17 x1) (b3 : -2147483648 ≤ v3 ∧ v3 ≤ 2147483647) (c6 : v3 ≤ x2) : s234 S x1 x2 0 S := by
  refine ⟨rfl, ?_⟩
  skip
  rw [if_neg (by omega)]
theorem q234_2 (S : fx_S) (x1 x2 : Int) (hS : fx_Sok S) (g1 : -2147483648 ≤ x1 ∧ x1 ≤ 2147483647) (g2 : -2147483648 ≤ x2 ∧ x2 ≤ 2147483647) (c1 : 0 ≤ x1) (c2 : x1 < 80) (v2 : Int) (e2 : v2 = S.1 16 x1) (b2 : -2147483648 ≤ v2 ∧ v2 ≤ 2147483647) (c3 : v2 ≤ x2) (c4 : 0 ≤ x1) (c5 : x1 < 80) (v3 : Int) (e3 : v3 = S.1 17 x1) (b3 : -2147483648 ≤ v3 ∧ v3 ≤ 2147483647) (c6 : x2 < v3) : s234 S x1 x2 1 S := by
  refine ⟨rfl, ?_⟩
  skip
  rw [if_pos (by omega)]
theorem q235_0 (S : fx_S) (x1 x2 x3 : Int) (hS : fx_Sok S) (g1 : -2147483648 ≤ x1 ∧ x1 ≤ 2147483647) (g2 : -2147483648 ≤ x2 ∧ x2 ≤ 2147483647) (g3 : -2147483648 ≤ x3 ∧ x3 ≤ 2147483647) (v3 : Int) (e3 : v3 = fx_mul 10 x2) (v4 : Int) (e4 : v4 = fx_add 300 v3) (v5 : Int) (e5 : v5 = fx_add v4 0) (c1 : 0 ≤ v5) (c2 : v5 < 8090) (v6 : Int) (e6 : v6 = S.1 67 v5) (b6 : -2147483648 ≤ v6 ∧ v6 ≤ 2147483647) (v7 : Int) (e7 : v7 = fx_mul 10 x2) (v8 : Int) (e8 : v8 = fx_add 300 v7) (v9 : Int) (e9 : v9 = fx_add v8 0) (c3 : 0 ≤ v9) (c4 : v9 < 8090) (v10 : Int) (e10 : v10 = S.1 67 v9) (b10 : -2147483648 ≤ v10 ∧ v10 ≤ 2147483647) (v11 : Int) (e11 : v11 = fx_mul 10 x2) (v12 : Int) (e12 : v12 = fx_add 300 v11) (v13 : Int) (e13 : v13 = fx_add v12 2) (c5 : 0 ≤ v13) (c6 : v13 < 8090) (v14 : Int) (e14 : v14 = S.1 67 v13) (b14 : -2147483648 ≤ v14 ∧ v14 ≤ 2147483647) (v15 : Int) (S1 : fx_S) (k1 : fx_Sok S1) (b15 : -2147483648 ≤ v15 ∧ v15 ≤ 2147483647) (p1 : s125 S v14 x3 v15 S1) (v16 : Int) (S2 : fx_S) (k2 : fx_Sok S2) (b16 : -2147483648 ≤ v16 ∧ v16 ≤ 2147483647) (p2 : s127 S1 v10 v15 v16 S2) (v17 : Int) (S3 : fx_S) (k3 : fx_Sok S3) (b17 : -2147483648 ≤ v17 ∧ v17 ≤ 2147483647) (p3 : s128 S2 x1 v6 v16 v17 S3) (v18 : Int) (e18 : v18 = S3.1 66 15) (b18 : -2147483648 ≤ v18 ∧ v18 ≤ 2147483647) : s235 S x1 x2 x3 v18 S3 := by
  obtain ⟨rfl, p1⟩ := p1
  obtain rfl : S = S2 := p2
  obtain ⟨r3, f3, p3⟩ := p3
  refine ⟨r3, ?_⟩
  · intro p i hW
    clear b18 e18 b17 b16 b15 b14 e14 c6 c5 e13 e12 e11 b10 e10 c4 c3 e9 e8 e7 b6 e6 c2 c1 e5 e4 e3
    exact (f3 p i (by omega))
theorem q236_0 (S : fx_S) (x1 x2 x3 x4 x5 : Int) (hS : fx_Sok S) (g1 : -2147483648 ≤ x1 ∧ x1 ≤ 2147483647) (g2 : -2147483648 ≤ x2 ∧ x2 ≤ 2147483647) (g3 : -2147483648 ≤ x3 ∧ x3 ≤ 2147483647) (g4 : -2147483648 ≤ x4 ∧ x4 ≤ 2147483647) (g5 : -2147483648 ≤ x5 ∧ x5 ≤ 2147483647) (c1 : x2 < x5) : s236 S x1 x2 x3 x4 x5 x4 S := by
  exact rfl
theorem q236_1 (S : fx_S) (x1 x2 x3 x4 x5 : Int) (hS : fx_Sok S) (g1 : -2147483648 ≤ x1 ∧ x1 ≤ 2147483647) (g2 : -2147483648 ≤ x2 ∧ x2 ≤ 2147483647) (g3 : -2147483648 ≤ x3 ∧ x3 ≤ 2147483647) (g4 : -2147483648 ≤ x4 ∧ x4 ≤ 2147483647) (g5 : -2147483648 ≤ x5 ∧ x5 ≤ 2147483647) (c1 : x5 ≤ x2) (v5 : Int) (S1 : fx_S) (k1 : fx_Sok S1) (b5 : -2147483648 ≤ v5 ∧ v5 ≤ 2147483647) (p1 : s234 S x1 x5 v5 S1) (c2 : v5 = 0) (v6 : Int) (e6 : v6 = fx_add x5 360) (z : Int) (Z : fx_S) (kz : fx_Sok Z) (bz : -2147483648 ≤ z ∧ z ≤ 2147483647) (pz : s236 S1 x1 x2 x3 x4 v6 z Z) : s236 S x1 x2 x3 x4 x5 z Z := by
  obtain ⟨rfl, p1⟩ := p1
  obtain rfl : S = Z := pz
  exact rfl
theorem q236_2 (S : fx_S) (x1 x2 x3 x4 x5 : Int) (hS : fx_Sok S) (g1 : -2147483648 ≤ x1 ∧ x1 ≤ 2147483647) (g2 : -2147483648 ≤ x2 ∧ x2 ≤ 2147483647) (g3 : -2147483648 ≤ x3 ∧ x3 ≤ 2147483647) (g4 : -2147483648 ≤ x4 ∧ x4 ≤ 2147483647) (g5 : -2147483648 ≤ x5 ∧ x5 ≤ 2147483647) (c1 : x5 ≤ x2) (v5 : Int) (S1 : fx_S) (k1 : fx_Sok S1) (b5 : -2147483648 ≤ v5 ∧ v5 ≤ 2147483647) (p1 : s234 S x1 x5 v5 S1) (c2 : v5 ≠ 0) (v6 : Int) (S2 : fx_S) (k2 : fx_Sok S2) (b6 : -2147483648 ≤ v6 ∧ v6 ≤ 2147483647) (p2 : s123 S1 x5 x3 v6 S2) (c3 : 0 ≤ x1) (c4 : x1 < 80) (v7 : Int) (e7 : v7 = S2.1 15 x1) (b7 : -2147483648 ≤ v7 ∧ v7 ≤ 2147483647) (c5 : v6 < 0) (v8 : Int) (e8 : v8 = fx_add x4 0) (v9 : Int) (e9 : v9 = fx_add x5 360) (z : Int) (Z : fx_S) (kz : fx_Sok Z) (bz : -2147483648 ≤ z ∧ z ≤ 2147483647) (pz : s236 S2 x1 x2 x3 v8 v9 z Z) : s236 S x1 x2 x3 x4 x5 z Z := by
  obtain ⟨rfl, p1⟩ := p1
  obtain ⟨rfl, p2⟩ := p2
  obtain rfl : S = Z := pz
  exact rfl
theorem q236_3 (S : fx_S) (x1 x2 x3 x4 x5 : Int) (hS : fx_Sok S) (g1 : -2147483648 ≤ x1 ∧ x1 ≤ 2147483647) (g2 : -2147483648 ≤ x2 ∧ x2 ≤ 2147483647) (g3 : -2147483648 ≤ x3 ∧ x3 ≤ 2147483647) (g4 : -2147483648 ≤ x4 ∧ x4 ≤ 2147483647) (g5 : -2147483648 ≤ x5 ∧ x5 ≤ 2147483647) (c1 : x5 ≤ x2) (v5 : Int) (S1 : fx_S) (k1 : fx_Sok S1) (b5 : -2147483648 ≤ v5 ∧ v5 ≤ 2147483647) (p1 : s234 S x1 x5 v5 S1) (c2 : v5 ≠ 0) (v6 : Int) (S2 : fx_S) (k2 : fx_Sok S2) (b6 : -2147483648 ≤ v6 ∧ v6 ≤ 2147483647) (p2 : s123 S1 x5 x3 v6 S2) (c3 : 0 ≤ x1) (c4 : x1 < 80) (v7 : Int) (e7 : v7 = S2.1 15 x1) (b7 : -2147483648 ≤ v7 ∧ v7 ≤ 2147483647) (c5 : 0 ≤ v6) (v8 : Int) (e8 : v8 = S2.1 2 8) (b8 : -2147483648 ≤ v8 ∧ v8 ≤ 2147483647) (c6 : v8 ≤ v6) (v9 : Int) (e9 : v9 = fx_add x4 0) (v10 : Int) (e10 : v10 = fx_add x5 360) (z : Int) (Z : fx_S) (kz : fx_Sok Z) (bz : -2147483648 ≤ z ∧ z ≤ 2147483647) (pz : s236 S2 x1 x2 x3 v9 v10 z Z) : s236 S x1 x2 x3 x4 x5 z Z := by
  obtain ⟨rfl, p1⟩ := p1
  obtain ⟨rfl, p2⟩ := p2
  obtain rfl : S = Z := pz
  exact rfl
theorem q236_4 (S : fx_S) (x1 x2 x3 x4 x5 : Int) (hS : fx_Sok S) (g1 : -2147483648 ≤ x1 ∧ x1 ≤ 2147483647) (g2 : -2147483648 ≤ x2 ∧ x2 ≤ 2147483647) (g3 : -2147483648 ≤ x3 ∧ x3 ≤ 2147483647) (g4 : -2147483648 ≤ x4 ∧ x4 ≤ 2147483647) (g5 : -2147483648 ≤ x5 ∧ x5 ≤ 2147483647) (c1 : x5 ≤ x2) (v5 : Int) (S1 : fx_S) (k1 : fx_Sok S1) (b5 : -2147483648 ≤ v5 ∧ v5 ≤ 2147483647) (p1 : s234 S x1 x5 v5 S1) (c2 : v5 ≠ 0) (v6 : Int) (S2 : fx_S) (k2 : fx_Sok S2) (b6 : -2147483648 ≤ v6 ∧ v6 ≤ 2147483647) (p2 : s123 S1 x5 x3 v6 S2) (c3 : 0 ≤ x1) (c4 : x1 < 80) (v7 : Int) (e7 : v7 = S2.1 15 x1) (b7 : -2147483648 ≤ v7 ∧ v7 ≤ 2147483647) (c5 : 0 ≤ v6) (v8 : Int) (e8 : v8 = S2.1 2 8) (b8 : -2147483648 ≤ v8 ∧ v8 ≤ 2147483647) (c6 : v6 < v8) (c7 : 0 ≤ v6) (c8 : v6 < 10) (v9 : Int) (e9 : v9 = S2.2.1 9 v6) (c9 : v9 = (-1)) (v10 : Int) (e10 : v10 = fx_add x4 0) (v11 : Int) (e11 : v11 = fx_add x5 360) (z : Int) (Z : fx_S) (kz : fx_Sok Z) (bz : -2147483648 ≤ z ∧ z ≤ 2147483647) (pz : s236 S2 x1 x2 x3 v10 v11 z Z) : s236 S x1 x2 x3 x4 x5 z Z := by
  obtain ⟨rfl, p1⟩ := p1
  obtain ⟨rfl, p2⟩ := p2
  obtain rfl : S = Z := pz
  exact rfl
theorem q236_5 (S : fx_S) (x1 x2 x3 x4 x5 : Int) (hS : fx_Sok S) (g1 : -2147483648 ≤ x1 ∧ x1 ≤ 2147483647) (g2 : -2147483648 ≤ x2 ∧ x2 ≤ 2147483647) (g3 : -2147483648 ≤ x3 ∧ x3 ≤ 2147483647) (g4 : -2147483648 ≤ x4 ∧ x4 ≤ 2147483647) (g5 : -2147483648 ≤ x5 ∧ x5 ≤ 2147483647) (c1 : x5 ≤ x2) (v5 : Int) (S1 : fx_S) (k1 : fx_Sok S1) (b5 : -2147483648 ≤ v5 ∧ v5 ≤ 2147483647) (p1 : s234 S x1 x5 v5 S1) (c2 : v5 ≠ 0) (v6 : Int) (S2 : fx_S) (k2 : fx_Sok S2) (b6 : -2147483648 ≤ v6 ∧ v6 ≤ 2147483647) (p2 : s123 S1 x5 x3 v6 S2) (c3 : 0 ≤ x1) (c4 : x1 < 80) (v7 : Int) (e7 : v7 = S2.1 15 x1) (b7 : -2147483648 ≤ v7 ∧ v7 ≤ 2147483647) (c5 : 0 ≤ v6) (v8 : Int) (e8 : v8 = S2.1 2 8) (b8 : -2147483648 ≤ v8 ∧ v8 ≤ 2147483647) (c6 : v6 < v8) (c7 : 0 ≤ v6) (c8 : v6 < 10) (v9 : Int) (e9 : v9 = S2.2.1 9 v6) (c9 : v9 ≠ (-1)) (c10 : v9 ≠ (-1)) (c11 : 0 ≤ v7) (c12 : v7 < 4) (v10 : Int) (e10 : v10 = S2.1 (v9 + 1) v7) (b10 : -2147483648 ≤ v10 ∧ v10 ≤ 2147483647) (v11 : Int) (e11 : v11 = fx_add x4 v10) (v12 : Int) (e12 : v12 = fx_add x5 360) (z : Int) (Z : fx_S) (kz : fx_Sok Z) (bz : -2147483648 ≤ z ∧ z ≤ 2147483647) (pz : s236 S2 x1 x2 x3 v11 v12 z Z) : s236 S x1 x2 x3 x4 x5 z Z := by
  obtain ⟨rfl, p1⟩ := p1
  obtain ⟨rfl, p2⟩ := p2
  obtain rfl : S = Z := pz
  exact rfl
theorem q237_0 (S : fx_S) (x1 x2 x3 x4 x5 : Int) (hS : fx_Sok S) (g1 : -2147483648 ≤ x1 ∧ x1 ≤ 2147483647) (g2 : -2147483648 ≤ x2 ∧ x2 ≤ 2147483647) (g3 : -2147483648 ≤ x3 ∧ x3 ≤ 2147483647) (g4 : -2147483648 ≤ x4 ∧ x4 ≤ 2147483647) (g5 : -2147483648 ≤ x5 ∧ x5 ≤ 2147483647) (c1 : x2 < x5) : s237 S x1 x2 x3 x4 x5 x4 S := by
  exact rfl
theorem q237_1 (S : fx_S) (x1 x2 x3 x4 x5 : Int) (hS : fx_Sok S) (g1 : -2147483648 ≤ x1 ∧ x1 ≤ 2147483647) (g2 : -2147483648 ≤ x2 ∧ x2 ≤ 2147483647) (g3 : -2147483648 ≤ x3 ∧ x3 ≤ 2147483647) (g4 : -2147483648 ≤ x4 ∧ x4 ≤ 2147483647) (g5 : -2147483648 ≤ x5 ∧ x5 ≤ 2147483647) (c1 : x5 ≤ x2) (v5 : Int) (S1 : fx_S) (k1 : fx_Sok S1) (b5 : -2147483648 ≤ v5 ∧ v5 ≤ 2147483647) (p1 : s156 S x1 x5 v5 S1) (c2 : v5 = 0) (v6 : Int) (e6 : v6 = fx_add x5 360) (z : Int) (Z : fx_S) (kz : fx_Sok Z) (bz : -2147483648 ≤ z ∧ z ≤ 2147483647) (pz : s237 S1 x1 x2 x3 x4 v6 z Z) : s237 S x1 x2 x3 x4 x5 z Z := by
  obtain ⟨rfl, p1⟩ := p1
  obtain rfl : S = Z := pz
  exact rfl
theorem q237_2 (S : fx_S) (x1 x2 x3 x4 x5 : Int) (hS : fx_Sok S) (g1 : -2147483648 ≤ x1 ∧ x1 ≤ 2147483647) (g2 : -2147483648 ≤ x2 ∧ x2 ≤ 2147483647) (g3 : -2147483648 ≤ x3 ∧ x3 ≤ 2147483647) (g4 : -2147483648 ≤ x4 ∧ x4 ≤ 2147483647) (g5 : -2147483648 ≤ x5 ∧ x5 ≤ 2147483647) (c1 : x5 ≤ x2) (v5 : Int) (S1 : fx_S) (k1 : fx_Sok S1) (b5 : -2147483648 ≤ v5 ∧ v5 ≤ 2147483647) (p1 : s156 S x1 x5 v5 S1) (c2 : v5 ≠ 0) (v6 : Int) (S2 : fx_S) (k2 : fx_Sok S2) (b6 : -2147483648 ≤ v6 ∧ v6 ≤ 2147483647) (p2 : s124 S1 x5 x3 v6 S2) (v7 : Int) (e7 : v7 = fx_mul 10 x1) (v8 : Int) (e8 : v8 = fx_add 300 v7) (v9 : Int) (e9 : v9 = fx_add v8 1) (c3 : 0 ≤ v9) (c4 : v9 < 8090) (v10 : Int) (e10 : v10 = S2.1 67 v9) (b10 : -2147483648 ≤ v10 ∧ v10 ≤ 2147483647) (v11 : Int) (S3 : fx_S) (k3 : fx_Sok S3) (b11 : -2147483648 ≤ v11 ∧ v11 ≤ 2147483647) (p3 : s175 S2 v6 1 v10 0 v11 S3) (v12 : Int) (e12 : v12 = fx_add x4 v11) (v13 : Int) (e13 : v13 = fx_add x5 360) (z : Int) (Z : fx_S) (kz : fx_Sok Z) (bz : -2147483648 ≤ z ∧ z ≤ 2147483647) (pz : s237 S3 x1 x2 x3 v12 v13 z Z) : s237 S x1 x2 x3 x4 x5 z Z := by
  obtain ⟨rfl, p1⟩ := p1
  obtain ⟨rfl, p2⟩ := p2
  obtain rfl : S = S3 := p3
  obtain rfl : S = Z := pz
  exact rfl
theorem q238_0 (S : fx_S) (x1 x2 x3 x4 : Int) (hS : fx_Sok S) (g1 : -2147483648 ≤ x1 ∧ x1 ≤ 2147483647) (g2 : -2147483648 ≤ x2 ∧ x2 ≤ 2147483647) (g3 : -2147483648 ≤ x3 ∧ x3 ≤ 2147483647) (g4 : -2147483648 ≤ x4 ∧ x4 ≤ 2147483647) (v4 : Int) (e4 : v4 = S.1 21 2) (b4 : -2147483648 ≤ v4 ∧ v4 ≤ 2147483647) (c1 : v4 ≤ x4) : s238 S x1 x2 x3 x4 x3 S := by
  exact rfl
theorem q238_1 (S : fx_S) (x1 x2 x3 x4 : Int) (hS : fx_Sok S) (g1 : -2147483648 ≤ x1 ∧ x1 ≤ 2147483647) (g2 : -2147483648 ≤ x2 ∧ x2 ≤ 2147483647) (g3 : -2147483648 ≤ x3 ∧ x3 ≤ 2147483647) (g4 : -2147483648 ≤ x4 ∧ x4 ≤ 2147483647) (v4 : Int) (e4 : v4 = S.1 21 2) (b4 : -2147483648 ≤ v4 ∧ v4 ≤ 2147483647) (c1 : x4 < v4) (c2 : 0 ≤ x4) (c3 : x4 < 300) (v5 : Int) (e5 : v5 = S.1 24 x4) (b5 : -2147483648 ≤ v5 ∧ v5 ≤ 2147483647) (c4 : v5 ≠ x1) (v6 : Int) (e6 : v6 = fx_add x4 1) (z : Int) (Z : fx_S) (kz : fx_Sok Z) (bz : -2147483648 ≤ z ∧ z ≤ 2147483647) (pz : s238 S x1 x2 x3 v6 z Z) : s238 S x1 x2 x3 x4 z Z := by
  obtain rfl : S = Z := pz
  exact rfl
theorem q238_2 (S : fx_S) (x1 x2 x3 x4 : Int) (hS : fx_Sok S) (g1 : -2147483648 ≤ x1 ∧ x1 ≤ 2147483647) (g2 : -2147483648 ≤ x2 ∧ x2 ≤ 2147483647) (g3 : -2147483648 ≤ x3 ∧ x3 ≤ 2147483647) (g4 : -2147483648 ≤ x4 ∧ x4 ≤ 2147483647) (v4 : Int) (e4 : v4 = S.1 21 2) (b4 : -2147483648 ≤ v4 ∧ v4 ≤ 2147483647) (c1 : x4 < v4) (c2 : 0 ≤ x4) (c3 : x4 < 300) (v5 : Int) (e5 : v5 = S.1 24 x4) (b5 : -2147483648 ≤ v5 ∧ v5 ≤ 2147483647) (c4 : v5 = x1) (c5 : 0 ≤ x4) (c6 : x4 < 300) (v6 : Int) (e6 : v6 = S.1 25 x4) (b6 : -2147483648 ≤ v6 ∧ v6 ≤ 2147483647) (c7 : x2 < v6) (v7 : Int) (e7 : v7 = fx_add x4 1) (z : Int) (Z : fx_S) (kz : fx_Sok Z) (bz : -2147483648 ≤ z ∧ z ≤ 2147483647) (pz : s238 S x1 x2 x3 v7 z Z) : s238 S x1 x2 x3 x4 z Z := by
  obtain rfl : S = Z := pz
  exact rfl
theorem q238_3 (S : fx_S) (x1 x2 x3 x4 : Int) (hS : fx_Sok S) (g1 : -2147483648 ≤ x1 ∧ x1 ≤ 2147483647) (g2 : -2147483648 ≤ x2 ∧ x2 ≤ 2147483647) (g3 : -2147483648 ≤ x3 ∧ x3 ≤ 2147483647) (g4 : -2147483648 ≤ x4 ∧ x4 ≤ 2147483647) (v4 : Int) (e4 : v4 = S.1 21 2) (b4 : -2147483648 ≤ v4 ∧ v4 ≤ 2147483647) (c1 : x4 < v4) (c2 : 0 ≤ x4) (c3 : x4 < 300) (v5 : Int) (e5 : v5 = S.1 24 x4) (b5 : -2147483648 ≤ v5 ∧ v5 ≤ 2147483647) (c4 : v5 = x1) (c5 : 0 ≤ x4) (c6 : x4 < 300) (v6 : Int) (e6 : v6 = S.1 25 x4) (b6 : -2147483648 ≤ v6 ∧ v6 ≤ 2147483647) (c7 : v6 ≤ x2) (c8 : 0 ≤ x4) (c9 : x4 < 300) (v7 : Int) (e7 : v7 = S.1 26 x4) (b7 : -2147483648 ≤ v7 ∧ v7 ≤ 2147483647) (v8 : Int) (e8 : v8 = fx_add x3 v7) (v9 : Int) (e9 : v9 = fx_add x4 1) (z : Int) (Z : fx_S) (kz : fx_Sok Z) (bz : -2147483648 ≤ z ∧ z ≤ 2147483647) (pz : s238 S x1 x2 v8 v9 z Z) : s238 S x1 x2 x3 x4 z Z := by
  obtain rfl : S = Z := pz
  exact rfl
theorem q239_0 (S : fx_S) (x1 : Int) (hS : fx_Sok S) (g1 : -2147483648 ≤ x1 ∧ x1 ≤ 2147483647) (z : Int) (Z : fx_S) (kz : fx_Sok Z) (bz : z = 0) (pz : s309 S x1 0 4 z Z) : s239 S x1 z Z := by
  obtain ⟨rZ, fZ⟩ := pz
  refine ⟨rZ, ?_⟩
  · intro p i hW
    exact (fZ p i (by omega))
theorem q240_0 (S : fx_S) (x1 x2 : Int) (hS : fx_Sok S) (g1 : -2147483648 ≤ x1 ∧ x1 ≤ 2147483647) (g2 : -2147483648 ≤ x2 ∧ x2 ≤ 2147483647) (v2 : Int) (e2 : v2 = S.1 13 0) (b2 : -2147483648 ≤ v2 ∧ v2 ≤ 2147483647) (c1 : v2 ≤ x2) : s240 S x1 x2 x1 S := by
  refine ⟨rfl, ?_⟩
  · intro p i hW
    clear c1 b2 e2
    exact rfl
theorem q240_1 (S : fx_S) (x1 x2 : Int) (hS : fx_Sok S) (g1 : -2147483648 ≤ x1 ∧ x1 ≤ 2147483647) (g2 : -2147483648 ≤ x2 ∧ x2 ≤ 2147483647) (v2 : Int) (e2 : v2 = S.1 13 0) (b2 : -2147483648 ≤ v2 ∧ v2 ≤ 2147483647) (c1 : x2 < v2) (v3 : Int) (S1 : fx_S) (k1 : fx_Sok S1) (b3 : -2147483648 ≤ v3 ∧ v3 ≤ 2147483647) (p1 : s136 S x2 v3 S1) (c2 : v3 = 0) (v4 : Int) (e4 : v4 = fx_add x2 1) (z : Int) (Z : fx_S) (kz : fx_Sok Z) (bz : -2147483648 ≤ z ∧ z ≤ 2147483647) (pz : s240 S1 x1 v4 z Z) : s240 S x1 x2 z Z := by
  obtain ⟨rfl, p1⟩ := p1
  obtain ⟨rZ, fZ⟩ := pz
  refine ⟨rZ, ?_⟩
  · intro p i hW
    clear e4 c2 b3 c1 b2 e2
    exact (fZ p i (by omega))
theorem q240_2 (S : fx_S) (x1 x2 : Int) (hS : fx_Sok S) (g1 : -2147483648 ≤ x1 ∧ x1 ≤ 2147483647) (g2 : -2147483648 ≤ x2 ∧ x2 ≤ 2147483647) (v2 : Int) (e2 : v2 = S.1 13 0) (b2 : -2147483648 ≤ v2 ∧ v2 ≤ 2147483647) (c1 : x2 < v2) (v3 : Int) (S1 : fx_S) (k1 : fx_Sok S1) (b3 : -2147483648 ≤ v3 ∧ v3 ≤ 2147483647) (p1 : s136 S x2 v3 S1) (c2 : v3 ≠ 0) (v4 : Int) (e4 : v4 = S1.1 1 0) (b4 : -2147483648 ≤ v4 ∧ v4 ≤ 2147483647) (c3 : 0 ≤ x2) (c4 : x2 < 80) (v5 : Int) (e5 : v5 = S1.1 16 x2) (b5 : -2147483648 ≤ v5 ∧ v5 ≤ 2147483647) (v6 : Int) (S2 : fx_S) (k2 : fx_Sok S2) (b6 : -2147483648 ≤ v6 ∧ v6 ≤ 2147483647) (p2 : s123 S1 v5 v4 v6 S2) (v7 : Int) (S3 : fx_S) (k3 : fx_Sok S3) (b7 : -2147483648 ≤ v7 ∧ v7 ≤ 2147483647) (p3 : s137 S2 v6 x2 v4 v7 S3) (v8 : Int) (S4 : fx_S) (k4 : fx_Sok S4) (b8 : -2147483648 ≤ v8 ∧ v8 ≤ 2147483647) (p4 : s114 S3 v7 0 3 v8 S4) (c5 : v8 = 0) (v9 : Int) (e9 : v9 = fx_add x2 1) (z : Int) (Z : fx_S) (kz : fx_Sok Z) (bz : -2147483648 ≤ z ∧ z ≤ 2147483647) (pz : s240 S4 x1 v9 z Z) : s240 S x1 x2 z Z := by
  obtain ⟨rfl, p1⟩ := p1
  obtain ⟨rfl, p2⟩ := p2
  obtain rfl : S = S3 := p3
  obtain ⟨rfl, p4⟩ := p4
  obtain ⟨rZ, fZ⟩ := pz
  refine ⟨rZ, ?_⟩
  · intro p i hW
    clear e9 c5 b8 b7 b6 b5 e5 c4 c3 b4 e4 c2 b3 c1 b2 e2
    exact (fZ p i (by omega))
theorem q240_3 (S : fx_S) (x1 x2 : Int) (hS : fx_Sok S) (g1 : -2147483648 ≤ x1 ∧ x1 ≤ 2147483647) (g2 : -2147483648 ≤ x2 ∧ x2 ≤ 2147483647) (v2 : Int) (e2 : v2 = S.1 13 0) (b2 : -2147483648 ≤ v2 ∧ v2 ≤ 2147483647) (c1 : x2 < v2) (v3 : Int) (S1 : fx_S) (k1 : fx_Sok S1) (b3 : -2147483648 ≤ v3 ∧ v3 ≤ 2147483647) (p1 : s136 S x2 v3 S1) (c2 : v3 ≠ 0) (v4 : Int) (e4 : v4 = S1.1 1 0) (b4 : -2147483648 ≤ v4 ∧ v4 ≤ 2147483647) (c3 : 0 ≤ x2) (c4 : x2 < 80) (v5 : Int) (e5 : v5 = S1.1 16 x2) (b5 : -2147483648 ≤ v5 ∧ v5 ≤ 2147483647) (v6 : Int) (S2 : fx_S) (k2 : fx_Sok S2) (b6 : -2147483648 ≤ v6 ∧ v6 ≤ 2147483647) (p2 : s123 S1 v5 v4 v6 S2) (v7 : Int) (S3 : fx_S) (k3 : fx_Sok S3) (b7 : -2147483648 ≤ v7 ∧ v7 ≤ 2147483647) (p3 : s137 S2 v6 x2 v4 v7 S3) (v8 : Int) (S4 : fx_S) (k4 : fx_Sok S4) (b8 : -2147483648 ≤ v8 ∧ v8 ≤ 2147483647) (p4 : s114 S3 v7 0 3 v8 S4) (c5 : v8 ≠ 0) (c6 : 0 ≤ v7) (c7 : v7 < 4) (v9 : Int) (e9 : v9 = S4.1 63 v7) (b9 : -2147483648 ≤ v9 ∧ v9 ≤ 2147483647) (v10 : Int) (e10 : v10 = fx_add v9 1) (c8 : 0 ≤ v7) (c9 : v7 < 4) (S5 : fx_S) (d5 : S5 = (fx_up S4.1 63 v7 v10, S4.2)) (v11 : Int) (e11 : v11 = fx_add x1 1) (v12 : Int) (e12 : v12 = fx_add x2 1) (z : Int) (Z : fx_S) (kz : fx_Sok Z) (bz : -2147483648 ≤ z ∧ z ≤ 2147483647) (pz : s240 S5 v11 v12 z Z) : s240 S x1 x2 z Z := by
  obtain ⟨rfl, p1⟩ := p1
  obtain ⟨rfl, p2⟩ := p2
  obtain rfl : S = S3 := p3
  obtain ⟨rfl, p4⟩ := p4
  obtain ⟨rZ, fZ⟩ := pz
  refine ⟨(rZ).trans ((show S5.2 = S.2 by rw [d5])), ?_⟩
  · intro p i hW
    clear e12 e11 c9 c8 e10 b9 e9 c7 c6 c5 b8 b7 b6 b5 e5 c4 c3 b4 e4 c2 b3 c1 b2 e2
    exact ((fZ p i (by omega))).trans ((show S5.1 p i = S.1 p i by rw [d5]; exact if_neg (by omega)))
theorem q241_0 (S : fx_S) (x1 x3 x4 x5 : Int) (hS : fx_Sok S) (g1 : -2147483648 ≤ x1 ∧ x1 ≤ 2147483647) (g3 : -2147483648 ≤ x3 ∧ x3 ≤ 2147483647) (g4 : -2147483648 ≤ x4 ∧ x4 ≤ 2147483647) (g5 : -2147483648 ≤ x5 ∧ x5 ≤ 2147483647) (c1 : 4 ≤ x5) (z : Int) (Z : fx_S) (kz : fx_Sok Z) (bz : z = 0) (pz : s310 S x4 0 z Z) : s241 S x1 x3 x4 x5 z Z := by
  obtain ⟨rZ, fZ⟩ := pz
  refine ⟨rZ, ?_⟩
  · intro p i hW
    clear c1
    exact (fZ p i (by omega))
theorem q241_1 (S : fx_S) (x1 x3 x4 x5 : Int) (hS : fx_Sok S) (g1 : -2147483648 ≤ x1 ∧ x1 ≤ 2147483647) (g3 : -2147483648 ≤ x3 ∧ x3 ≤ 2147483647) (g4 : -2147483648 ≤ x4 ∧ x4 ≤ 2147483647) (g5 : -2147483648 ≤ x5 ∧ x5 ≤ 2147483647) (c1 : x5 < 4) (c2 : 0 < x3) (c3 : 0 ≤ x5) (c4 : x5 < 4) (v4 : Int) (e4 : v4 = S.1 63 x5) (b4 : -2147483648 ≤ v4 ∧ v4 ≤ 2147483647) (v5 : Int) (e5 : v5 = fx_mul x1 v4) (c5 : x3 ≠ 0) (v6 : Int) (e6 : v6 = fx_div v5 x3) (c6 : 0 ≤ x5) (c7 : x5 < 4) (S1 : fx_S) (d1 : S1 = (fx_up S.1 27 x5 v6, S.2)) (c8 : 0 < x3) (c9 : 0 ≤ x5) (c10 : x5 < 4) (v7 : Int) (e7 : v7 = S1.1 63 x5) (b7 : -2147483648 ≤ v7 ∧ v7 ≤ 2147483647) (v8 : Int) (e8 : v8 = fx_mul x1 v7) (c11 : x3 ≠ 0) (v9 : Int) (e9 : v9 = fx_rem v8 x3) (c12 : 0 ≤ x5) (c13 : x5 < 4) (S2 : fx_S) (d2 : S2 = (fx_up S1.1 28 x5 v9, S1.2)) (c14 : 0 ≤ x5) (c15 : x5 < 4) (v10 : Int) (e10 : v10 = S2.1 27 x5) (b10 : -2147483648 ≤ v10 ∧ v10 ≤ 2147483647) (v11 : Int) (e11 : v11 = fx_sub x4 v10) (v12 : Int) (e12 : v12 = fx_add x5 1) (z : Int) (Z : fx_S) (kz : fx_Sok Z) (bz : z = 0) (pz : s241 S2 x1 x3 v11 v12 z Z) : s241 S x1 x3 x4 x5 z Z := by
  obtain ⟨rZ, fZ⟩ := pz
  refine ⟨(rZ).trans (((show S2.2 = S1.2 by rw [d2])).trans ((show S1.2 = S.2 by rw [d1]))), ?_⟩
  · intro p i hW
    clear e12 e11 b10 e10 c15 c14 c13 c12 e9 c11 e8 b7 e7 c10 c9 c8 c7 c6 e6 c5 e5 b4 e4 c4 c3 c2 c1
    exact ((fZ p i (by omega))).trans (((show S2.1 p i = S1.1 p i by rw [d2]; exact if_neg (by omega))).trans ((show S1.1 p i = S.1 p i by rw [d1]; exact if_neg (by omega))))
theorem q241_2 (S : fx_S) (x1 x3 x4 x5 : Int) (hS : fx_Sok S) (g1 : -2147483648 ≤ x1 ∧ x1 ≤ 2147483647) (g3 : -2147483648 ≤ x3 ∧ x3 ≤ 2147483647) (g4 : -2147483648 ≤ x4 ∧ x4 ≤ 2147483647) (g5 : -2147483648 ≤ x5 ∧ x5 ≤ 2147483647) (c1 : x5 < 4) (c2 : 0 < x3) (c3 : 0 ≤ x5) (c4 : x5 < 4) (v4 : Int) (e4 : v4 = S.1 63 x5) (b4 : -2147483648 ≤ v4 ∧ v4 ≤ 2147483647) (v5 : Int) (e5 : v5 = fx_mul x1 v4) (c5 : x3 ≠ 0) (v6 : Int) (e6 : v6 = fx_div v5 x3) (c6 : 0 ≤ x5) (c7 : x5 < 4) (S1 : fx_S) (d1 : S1 = (fx_up S.1 27 x5 v6, S.2)) (c8 : x3 ≤ 0) (c9 : 0 ≤ x5) (c10 : x5 < 4) (S2 : fx_S) (d2 : S2 = (fx_up S1.1 28 x5 0, S1.2)) (c11 : 0 ≤ x5) (c12 : x5 < 4) (v7 : Int) (e7 : v7 = S2.1 27 x5) (b7 : -2147483648 ≤ v7 ∧ v7 ≤ 2147483647) (v8 : Int) (e8 : v8 = fx_sub x4 v7) (v9 : Int) (e9 : v9 = fx_add x5 1) (z : Int) (Z : fx_S) (kz : fx_Sok Z) (bz : z = 0) (pz : s241 S2 x1 x3 v8 v9 z Z) : s241 S x1 x3 x4 x5 z Z := by
  obtain ⟨rZ, fZ⟩ := pz
  refine ⟨(rZ).trans (((show S2.2 = S1.2 by rw [d2])).trans ((show S1.2 = S.2 by rw [d1]))), ?_⟩
  · intro p i hW
    clear e9 e8 b7 e7 c12 c11 c10 c9 c8 c7 c6 e6 c5 e5 b4 e4 c4 c3 c2 c1
    exact ((fZ p i (by omega))).trans (((show S2.1 p i = S1.1 p i by rw [d2]; exact if_neg (by omega))).trans ((show S1.1 p i = S.1 p i by rw [d1]; exact if_neg (by omega))))
theorem q241_3 (S : fx_S) (x1 x3 x4 x5 : Int) (hS : fx_Sok S) (g1 : -2147483648 ≤ x1 ∧ x1 ≤ 2147483647) (g3 : -2147483648 ≤ x3 ∧ x3 ≤ 2147483647) (g4 : -2147483648 ≤ x4 ∧ x4 ≤ 2147483647) (g5 : -2147483648 ≤ x5 ∧ x5 ≤ 2147483647) (c1 : x5 < 4) (c2 : x3 ≤ 0) (c3 : 0 ≤ x5) (c4 : x5 < 4) (S1 : fx_S) (d1 : S1 = (fx_up S.1 27 x5 0, S.2)) (c5 : 0 < x3) (c6 : 0 ≤ x5) (c7 : x5 < 4) (v4 : Int) (e4 : v4 = S1.1 63 x5) (b4 : -2147483648 ≤ v4 ∧ v4 ≤ 2147483647) (v5 : Int) (e5 : v5 = fx_mul x1 v4) (c8 : x3 ≠ 0) (v6 : Int) (e6 : v6 = fx_rem v5 x3) (c9 : 0 ≤ x5) (c10 : x5 < 4) (S2 : fx_S) (d2 : S2 = (fx_up S1.1 28 x5 v6, S1.2)) (c11 : 0 ≤ x5) (c12 : x5 < 4) (v7 : Int) (e7 : v7 = S2.1 27 x5) (b7 : -2147483648 ≤ v7 ∧ v7 ≤ 2147483647) (v8 : Int) (e8 : v8 = fx_sub x4 v7) (v9 : Int) (e9 : v9 = fx_add x5 1) (z : Int) (Z : fx_S) (kz : fx_Sok Z) (bz : z = 0) (pz : s241 S2 x1 x3 v8 v9 z Z) : s241 S x1 x3 x4 x5 z Z := by
  obtain ⟨rZ, fZ⟩ := pz
  refine ⟨(rZ).trans (((show S2.2 = S1.2 by rw [d2])).trans ((show S1.2 = S.2 by rw [d1]))), ?_⟩
  · intro p i hW
    clear e9 e8 b7 e7 c12 c11 c10 c9 e6 c8 e5 b4 e4 c7 c6 c5 c4 c3 c2 c1
    exact ((fZ p i (by omega))).trans (((show S2.1 p i = S1.1 p i by rw [d2]; exact if_neg (by omega))).trans ((show S1.1 p i = S.1 p i by rw [d1]; exact if_neg (by omega))))
