/-! FX: what is to be shown of the entries -/
theorem q241_4 (S : fx_S) (x1 x3 x4 x5 : Int) (hS : fx_Sok S) (g1 : -2147483648 ≤ x1 ∧ x1 ≤ 2147483647) (g3 : -2147483648 ≤ x3 ∧ x3 ≤ 2147483647) (g4 : -2147483648 ≤ x4 ∧ x4 ≤ 2147483647) (g5 : -2147483648 ≤ x5 ∧ x5 ≤ 2147483647) (c1 : x5 < 4) (c2 : x3 ≤ 0) (c3 : 0 ≤ x5) (c4 : x5 < 4) (S1 : fx_S) (d1 : S1 = (fx_up S.1 27 x5 0, S.2)) (c5 : x3 ≤ 0) (c6 : 0 ≤ x5) (c7 : x5 < 4) (S2 : fx_S) (d2 : S2 = (fx_up S1.1 28 x5 0, S1.2)) (c8 : 0 ≤ x5) (c9 : x5 < 4) (v4 : Int) (e4 : v4 = S2.1 27 x5) (b4 : -2147483648 ≤ v4 ∧ v4 ≤ 2147483647) (v5 : Int) (e5 : v5 = fx_sub x4 v4) (v6 : Int) (e6 : v6 = fx_add x5 1) (z : Int) (Z : fx_S) (kz : fx_Sok Z) (bz : z = 0) (pz : s241 S2 x1 x3 v5 v6 z Z) : s241 S x1 x3 x4 x5 z Z := by
  obtain ⟨rZ, fZ⟩ := pz
  refine ⟨(rZ).trans (((show S2.2 = S1.2 by rw [d2])).trans ((show S1.2 = S.2 by rw [d1]))), ?_⟩
  · intro p i hW
    clear e6 e5 b4 e4 c9 c8 c7 c6 c5 c4 c3 c2 c1
    exact ((fZ p i (by omega))).trans (((show S2.1 p i = S1.1 p i by rw [d2]; exact if_neg (by omega))).trans ((show S1.1 p i = S.1 p i by rw [d1]; exact if_neg (by omega))))
theorem q242_0 (S : fx_S) (x1 : Int) (hS : fx_Sok S) (g1 : -2147483648 ≤ x1 ∧ x1 ≤ 2147483647) (c1 : 4 ≤ x1) : s242 S x1 1 S := by
  exact rfl
theorem q242_1 (S : fx_S) (x1 : Int) (hS : fx_Sok S) (g1 : -2147483648 ≤ x1 ∧ x1 ≤ 2147483647) (c1 : x1 < 4) (c2 : 0 ≤ x1) (c3 : x1 < 4) (v1 : Int) (e1 : v1 = S.1 22 x1) (b1 : -2147483648 ≤ v1 ∧ v1 ≤ 2147483647) (c4 : 0 ≤ x1) (c5 : x1 < 4) (v2 : Int) (e2 : v2 = S.1 27 x1) (b2 : -2147483648 ≤ v2 ∧ v2 ≤ 2147483647) (c6 : v2 ≤ v1) (v3 : Int) (e3 : v3 = fx_add x1 1) (z : Int) (Z : fx_S) (kz : fx_Sok Z) (bz : -2147483648 ≤ z ∧ z ≤ 2147483647) (pz : s242 S v3 z Z) : s242 S x1 z Z := by
  obtain rfl : S = Z := pz
  exact rfl
theorem q242_2 (S : fx_S) (x1 : Int) (hS : fx_Sok S) (g1 : -2147483648 ≤ x1 ∧ x1 ≤ 2147483647) (c1 : x1 < 4) (c2 : 0 ≤ x1) (c3 : x1 < 4) (v1 : Int) (e1 : v1 = S.1 22 x1) (b1 : -2147483648 ≤ v1 ∧ v1 ≤ 2147483647) (c4 : 0 ≤ x1) (c5 : x1 < 4) (v2 : Int) (e2 : v2 = S.1 27 x1) (b2 : -2147483648 ≤ v2 ∧ v2 ≤ 2147483647) (c6 : v1 < v2) : s242 S x1 0 S := by
  exact rfl
theorem q243_0 (S : fx_S) (x1 x2 : Int) (hS : fx_Sok S) (g1 : -2147483648 ≤ x1 ∧ x1 ≤ 2147483647) (g2 : -2147483648 ≤ x2 ∧ x2 ≤ 2147483647) (c1 : 4 ≤ x2) (v2 : Int) (e2 : v2 = S.1 21 7) (b2 : -2147483648 ≤ v2 ∧ v2 ≤ 2147483647) (v3 : Int) (e3 : v3 = fx_add v2 x1) (S1 : fx_S) (d1 : S1 = (fx_up S.1 21 7 v3, S.2)) : s243 S x1 x2 0 S1 := by
  refine ⟨(show S1.2 = S.2 by rw [d1]), ?_⟩
  · intro p i hW
    clear e3 b2 e2 c1
    exact (show S1.1 p i = S.1 p i by rw [d1]; exact if_neg (by omega))
theorem q243_1 (S : fx_S) (x1 x2 : Int) (hS : fx_Sok S) (g1 : -2147483648 ≤ x1 ∧ x1 ≤ 2147483647) (g2 : -2147483648 ≤ x2 ∧ x2 ≤ 2147483647) (c1 : x2 < 4) (c2 : 0 ≤ x2) (c3 : x2 < 4) (v2 : Int) (e2 : v2 = S.1 22 x2) (b2 : -2147483648 ≤ v2 ∧ v2 ≤ 2147483647) (c4 : 0 ≤ x2) (c5 : x2 < 4) (v3 : Int) (e3 : v3 = S.1 27 x2) (b3 : -2147483648 ≤ v3 ∧ v3 ≤ 2147483647) (v4 : Int) (e4 : v4 = fx_sub v2 v3) (c6 : 0 ≤ x2) (c7 : x2 < 4) (S1 : fx_S) (d1 : S1 = (fx_up S.1 22 x2 v4, S.2)) (c8 : 0 ≤ x2) (c9 : x2 < 4) (v5 : Int) (e5 : v5 = S1.1 27 x2) (b5 : -2147483648 ≤ v5 ∧ v5 ≤ 2147483647) (c10 : 0 ≤ x2) (c11 : x2 < 4) (S2 : fx_S) (d2 : S2 = (fx_up S1.1 23 x2 v5, S1.2)) (v6 : Int) (e6 : v6 = fx_add x2 1) (z : Int) (Z : fx_S) (kz : fx_Sok Z) (bz : z = 0) (pz : s243 S2 x1 v6 z Z) : s243 S x1 x2 z Z := by
  obtain ⟨rZ, fZ⟩ := pz
  refine ⟨(rZ).trans (((show S2.2 = S1.2 by rw [d2])).trans ((show S1.2 = S.2 by rw [d1]))), ?_⟩
  · intro p i hW
    clear e6 c11 c10 b5 e5 c9 c8 c7 c6 e4 b3 e3 c5 c4 b2 e2 c3 c2 c1
    exact ((fZ p i (by omega))).trans (((show S2.1 p i = S1.1 p i by rw [d2]; exact if_neg (by omega))).trans ((show S1.1 p i = S.1 p i by rw [d1]; exact if_neg (by omega))))
theorem q244_0 (S : fx_S) (x1 x2 : Int) (hS : fx_Sok S) (g1 : -2147483648 ≤ x1 ∧ x1 ≤ 2147483647) (g2 : -2147483648 ≤ x2 ∧ x2 ≤ 2147483647) (c1 : 4 ≤ x2) : s244 S x1 x2 x1 S := by
  exact rfl
theorem q244_1 (S : fx_S) (x1 x2 : Int) (hS : fx_Sok S) (g1 : -2147483648 ≤ x1 ∧ x1 ≤ 2147483647) (g2 : -2147483648 ≤ x2 ∧ x2 ≤ 2147483647) (c1 : x2 < 4) (c2 : 0 ≤ x2) (c3 : x2 < 4) (v2 : Int) (e2 : v2 = S.1 22 x2) (b2 : -2147483648 ≤ v2 ∧ v2 ≤ 2147483647) (v3 : Int) (e3 : v3 = fx_add x1 v2) (v4 : Int) (e4 : v4 = fx_add x2 1) (z : Int) (Z : fx_S) (kz : fx_Sok Z) (bz : -2147483648 ≤ z ∧ z ≤ 2147483647) (pz : s244 S v3 v4 z Z) : s244 S x1 x2 z Z := by
  obtain rfl : S = Z := pz
  exact rfl
theorem q245_0 (S : fx_S) (x1 x2 x3 x4 : Int) (hS : fx_Sok S) (g1 : -2147483648 ≤ x1 ∧ x1 ≤ 2147483647) (g2 : -2147483648 ≤ x2 ∧ x2 ≤ 2147483647) (g3 : -2147483648 ≤ x3 ∧ x3 ≤ 2147483647) (g4 : -2147483648 ≤ x4 ∧ x4 ≤ 2147483647) (c1 : 4 ≤ x4) (z : Int) (Z : fx_S) (kz : fx_Sok Z) (bz : -2147483648 ≤ z ∧ z ≤ 2147483647) (pz : s311 S x1 x2 x3 z Z) : s245 S x1 x2 x3 x4 z Z := by
  unfold s311 at pz
  unfold s245
  intro hB
  have BS := hB
  have NS := fx_WB_n BS
  obtain ⟨rZ, fZ, BZ⟩ := pz BS
  refine ⟨rZ, ?_, BZ⟩
  · intro p i hW
    exact (fZ p i (by omega))
theorem q245_1 (S : fx_S) (x1 x2 x3 x4 : Int) (hS : fx_Sok S) (g1 : -2147483648 ≤ x1 ∧ x1 ≤ 2147483647) (g2 : -2147483648 ≤ x2 ∧ x2 ≤ 2147483647) (g3 : -2147483648 ≤ x3 ∧ x3 ≤ 2147483647) (g4 : -2147483648 ≤ x4 ∧ x4 ≤ 2147483647) (c1 : x4 < 4) (c2 : 0 ≤ x4) (c3 : x4 < 4) (v4 : Int) (e4 : v4 = S.1 73 x4) (b4 : -2147483648 ≤ v4 ∧ v4 ≤ 2147483647) (v5 : Int) (e5 : v5 = fx_mul x1 v4) (c4 : x2 ≠ 0) (v6 : Int) (e6 : v6 = fx_div v5 x2) (c5 : 0 ≤ x4) (c6 : x4 < 4) (S1 : fx_S) (d1 : S1 = (fx_up S.1 74 x4 v6, S.2)) (c7 : 0 ≤ x4) (c8 : x4 < 4) (v7 : Int) (e7 : v7 = S1.1 74 x4) (b7 : -2147483648 ≤ v7 ∧ v7 ≤ 2147483647) (v8 : Int) (e8 : v8 = fx_sub x3 v7) (v9 : Int) (e9 : v9 = fx_add x4 1) (z : Int) (Z : fx_S) (kz : fx_Sok Z) (bz : -2147483648 ≤ z ∧ z ≤ 2147483647) (pz : s245 S1 x1 x2 v8 v9 z Z) : s245 S x1 x2 x3 x4 z Z := by
  unfold s245 at pz
  unfold s245
  intro hB
  have BS := hB
  have NS := fx_WB_n BS
  have BS1 : fx_WB S1 := by rw [d1]; exact fx_WB_off BS (by omega)
  have t7_1 : S1.1 74 x4 = v6 := by rw [d1]; first | exact if_pos ⟨rfl, by omega⟩ | rfl
  rw [t7_1] at e7
  obtain rfl : v6 = v7 := e7.symm
  have h8 := e8
  first | rw [fx_sub_eq (by omega) (by omega)] at h8 | skip
  have h9 := e9
  first | rw [fx_add_eq (by omega) (by omega)] at h9 | skip
  obtain ⟨rZ, fZ, BZ⟩ := pz BS1
  refine ⟨(rZ).trans ((show S1.2 = S.2 by rw [d1])), ?_, BZ⟩
  · intro p i hW
    exact ((fZ p i (by omega))).trans ((show S1.1 p i = S.1 p i by rw [d1]; exact if_neg (by omega)))
theorem q246_0 (S : fx_S) (x1 x2 : Int) (hS : fx_Sok S) (g1 : -2147483648 ≤ x1 ∧ x1 ≤ 2147483647) (g2 : -2147483648 ≤ x2 ∧ x2 ≤ 2147483647) (v2 : Int) (e2 : v2 = S.1 29 0) (b2 : -2147483648 ≤ v2 ∧ v2 ≤ 2147483647) (c1 : v2 ≤ x2) (v3 : Int) (e3 : v3 = S.1 29 0) (b3 : -2147483648 ≤ v3 ∧ v3 ≤ 2147483647) (c2 : v3 < 20) (v4 : Int) (e4 : v4 = S.1 29 0) (b4 : -2147483648 ≤ v4 ∧ v4 ≤ 2147483647) (c3 : 0 ≤ v4) (c4 : v4 < 20) (S1 : fx_S) (d1 : S1 = (fx_up S.1 30 v4 x1, S.2)) (v5 : Int) (e5 : v5 = S1.1 29 0) (b5 : -2147483648 ≤ v5 ∧ v5 ≤ 2147483647) (c5 : 0 ≤ v5) (c6 : v5 < 20) (S2 : fx_S) (d2 : S2 = (fx_up S1.1 31 v5 (-1), S1.2)) (v6 : Int) (e6 : v6 = S2.1 29 0) (b6 : -2147483648 ≤ v6 ∧ v6 ≤ 2147483647) (c7 : 0 ≤ v6) (c8 : v6 < 20) (S3 : fx_S) (d3 : S3 = (fx_up S2.1 32 v6 (-1), S2.2)) (v7 : Int) (e7 : v7 = S3.1 29 0) (b7 : -2147483648 ≤ v7 ∧ v7 ≤ 2147483647) (c9 : 0 ≤ v7) (c10 : v7 < 20) (S4 : fx_S) (d4 : S4 = (fx_up S3.1 33 v7 3600, S3.2)) (z : Int) (Z : fx_S) (kz : fx_Sok Z) (bz : -2147483648 ≤ z ∧ z ≤ 2147483647) (pz : s312 S4 0 z Z) : s246 S x1 x2 z Z := by
  obtain ⟨rZ, fZ⟩ := pz
  refine ⟨(rZ).trans (((show S4.2 = S3.2 by rw [d4])).trans (((show S3.2 = S2.2 by rw [d3])).trans (((show S2.2 = S1.2 by rw [d2])).trans ((show S1.2 = S.2 by rw [d1]))))), ?_⟩
  · intro p i hW
    clear c10 c9 b7 e7 c8 c7 b6 e6 c6 c5 b5 e5 c4 c3 b4 e4 c2 b3 e3 c1 b2 e2
    exact ((fZ p i (by omega))).trans (((show S4.1 p i = S3.1 p i by rw [d4]; exact if_neg (by omega))).trans (((show S3.1 p i = S2.1 p i by rw [d3]; exact if_neg (by omega))).trans (((show S2.1 p i = S1.1 p i by rw [d2]; exact if_neg (by omega))).trans ((show S1.1 p i = S.1 p i by rw [d1]; exact if_neg (by omega))))))
theorem q246_1 (S : fx_S) (x1 x2 : Int) (hS : fx_Sok S) (g1 : -2147483648 ≤ x1 ∧ x1 ≤ 2147483647) (g2 : -2147483648 ≤ x2 ∧ x2 ≤ 2147483647) (v2 : Int) (e2 : v2 = S.1 29 0) (b2 : -2147483648 ≤ v2 ∧ v2 ≤ 2147483647) (c1 : v2 ≤ x2) (v3 : Int) (e3 : v3 = S.1 29 0) (b3 : -2147483648 ≤ v3 ∧ v3 ≤ 2147483647) (c2 : 20 ≤ v3) : s246 S x1 x2 (-3) S := by
  refine ⟨rfl, ?_⟩
  · intro p i hW
    clear c2 b3 e3 c1 b2 e2
    exact rfl
theorem q246_2 (S : fx_S) (x1 x2 : Int) (hS : fx_Sok S) (g1 : -2147483648 ≤ x1 ∧ x1 ≤ 2147483647) (g2 : -2147483648 ≤ x2 ∧ x2 ≤ 2147483647) (v2 : Int) (e2 : v2 = S.1 29 0) (b2 : -2147483648 ≤ v2 ∧ v2 ≤ 2147483647) (c1 : x2 < v2) (c2 : 0 ≤ x2) (c3 : x2 < 20) (v3 : Int) (e3 : v3 = S.1 30 x2) (b3 : -2147483648 ≤ v3 ∧ v3 ≤ 2147483647) (c4 : v3 ≠ x1) (v4 : Int) (e4 : v4 = fx_add x2 1) (z : Int) (Z : fx_S) (kz : fx_Sok Z) (bz : -2147483648 ≤ z ∧ z ≤ 2147483647) (pz : s246 S x1 v4 z Z) : s246 S x1 x2 z Z := by
  obtain ⟨rZ, fZ⟩ := pz
  refine ⟨rZ, ?_⟩
  · intro p i hW
    clear e4 c4 b3 e3 c3 c2 c1 b2 e2
    exact (fZ p i (by omega))
theorem q246_3 (S : fx_S) (x1 x2 : Int) (hS : fx_Sok S) (g1 : -2147483648 ≤ x1 ∧ x1 ≤ 2147483647) (g2 : -2147483648 ≤ x2 ∧ x2 ≤ 2147483647) (v2 : Int) (e2 : v2 = S.1 29 0) (b2 : -2147483648 ≤ v2 ∧ v2 ≤ 2147483647) (c1 : x2 < v2) (c2 : 0 ≤ x2) (c3 : x2 < 20) (v3 : Int) (e3 : v3 = S.1 30 x2) (b3 : -2147483648 ≤ v3 ∧ v3 ≤ 2147483647) (c4 : v3 = x1) (c5 : 0 ≤ x2) (c6 : x2 < 20) (v4 : Int) (e4 : v4 = S.1 31 x2) (b4 : -2147483648 ≤ v4 ∧ v4 ≤ 2147483647) (c7 : v4 = (-1)) : s246 S x1 x2 (-2) S := by
  refine ⟨rfl, ?_⟩
  · intro p i hW
    clear c7 b4 e4 c6 c5 c4 b3 e3 c3 c2 c1 b2 e2
    exact rfl
theorem q246_4 (S : fx_S) (x1 x2 : Int) (hS : fx_Sok S) (g1 : -2147483648 ≤ x1 ∧ x1 ≤ 2147483647) (g2 : -2147483648 ≤ x2 ∧ x2 ≤ 2147483647) (v2 : Int) (e2 : v2 = S.1 29 0) (b2 : -2147483648 ≤ v2 ∧ v2 ≤ 2147483647) (c1 : x2 < v2) (c2 : 0 ≤ x2) (c3 : x2 < 20) (v3 : Int) (e3 : v3 = S.1 30 x2) (b3 : -2147483648 ≤ v3 ∧ v3 ≤ 2147483647) (c4 : v3 = x1) (c5 : 0 ≤ x2) (c6 : x2 < 20) (v4 : Int) (e4 : v4 = S.1 31 x2) (b4 : -2147483648 ≤ v4 ∧ v4 ≤ 2147483647) (c7 : v4 ≠ (-1)) (v5 : Int) (e5 : v5 = fx_add x2 1) (z : Int) (Z : fx_S) (kz : fx_Sok Z) (bz : -2147483648 ≤ z ∧ z ≤ 2147483647) (pz : s246 S x1 v5 z Z) : s246 S x1 x2 z Z := by
  obtain ⟨rZ, fZ⟩ := pz
  refine ⟨rZ, ?_⟩
  · intro p i hW
    clear e5 c7 b4 e4 c6 c5 c4 b3 e3 c3 c2 c1 b2 e2
    exact (fZ p i (by omega))
theorem q247_0 (S : fx_S) (x1 x2 : Int) (hS : fx_Sok S) (g1 : -2147483648 ≤ x1 ∧ x1 ≤ 2147483647) (g2 : -2147483648 ≤ x2 ∧ x2 ≤ 2147483647) (c1 : 170 ≤ x2) (v2 : Int) (e2 : v2 = fx_mul 170 x1) (v3 : Int) (e3 : v3 = fx_add 3700 v2) (v4 : Int) (e4 : v4 = S.1 67 0) (b4 : -2147483648 ≤ v4 ∧ v4 ≤ 2147483647) (c2 : 0 ≤ v3) (c3 : v3 < 8090) (S1 : fx_S) (d1 : S1 = (fx_up S.1 67 v3 v4, S.2)) (v5 : Int) (e5 : v5 = fx_mul 170 x1) (v6 : Int) (e6 : v6 = fx_add 3700 v5) (v7 : Int) (e7 : v7 = fx_add v6 1) (c4 : 0 ≤ v7) (c5 : v7 < 8090) (S2 : fx_S) (d2 : S2 = (fx_up S1.1 67 v7 1, S1.2)) (v8 : Int) (e8 : v8 = fx_mul 170 x1) (v9 : Int) (e9 : v9 = fx_add 3700 v8) (v10 : Int) (e10 : v10 = fx_add v9 2) (c6 : 0 ≤ v10) (c7 : v10 < 8090) (S3 : fx_S) (d3 : S3 = (fx_up S2.1 67 v10 (-1), S2.2)) (v11 : Int) (e11 : v11 = fx_mul 170 x1) (v12 : Int) (e12 : v12 = fx_add 3700 v11) (v13 : Int) (e13 : v13 = fx_add v12 4) (c8 : 0 ≤ v13) (c9 : v13 < 8090) (S4 : fx_S) (d4 : S4 = (fx_up S3.1 67 v13 (-1), S3.2)) (v14 : Int) (e14 : v14 = fx_mul 170 x1) (v15 : Int) (e15 : v15 = fx_add 3700 v14) (v16 : Int) (e16 : v16 = fx_add v15 5) (c10 : 0 ≤ v16) (c11 : v16 < 8090) (S5 : fx_S) (d5 : S5 = (fx_up S4.1 67 v16 (-1), S4.2)) (v17 : Int) (e17 : v17 = S5.1 67 4) (b17 : -2147483648 ≤ v17 ∧ v17 ≤ 2147483647) (v18 : Int) (e18 : v18 = fx_add v17 1) (S6 : fx_S) (d6 : S6 = (fx_up S5.1 67 4 v18, S5.2)) : s247 S x1 x2 x1 S6 := by
  unfold s247
  intro hB hP
  have BS := hB
  have NS := fx_WB_n BS
  have h2 := e2
  first | rw [fx_mul_eq (by omega) (by omega)] at h2 | skip
  have h3 := e3
  first | rw [fx_add_eq (by omega) (by omega)] at h3 | skip
  have BS1 : fx_WB S1 := by rw [d1]; exact fx_WB_up BS (by omega) (by omega) (by omega) (by omega) (by omega) (by omega) (by omega) (by omega) (by omega) (by omega) (by omega) (fun h => absurd h (by omega))
  obtain rfl : v2 = v5 := by rw [e5, e2]
  obtain rfl : v3 = v6 := by rw [e6, e3]
  have h7 := e7
  first | rw [fx_add_eq (by omega) (by omega)] at h7 | skip
  have BS2 : fx_WB S2 := by rw [d2]; exact fx_WB_up BS1 (by omega) (by omega) (by omega) (by omega) (by omega) (by omega) (by omega) (by omega) (by omega) (by omega) (by omega) (fun h => absurd h (by omega))
  obtain rfl : v2 = v8 := by rw [e8, e2]
  obtain rfl : v3 = v9 := by rw [e9, e3]
  have h10 := e10
  first | rw [fx_add_eq (by omega) (by omega)] at h10 | skip
  have BS3 : fx_WB S3 := by rw [d3]; exact fx_WB_up BS2 (by omega) (by omega) (by omega) (by omega) (by omega) (by omega) (by omega) (by omega) (by omega) (by omega) (by omega) (fun h => absurd h (by omega))
  obtain rfl : v2 = v11 := by rw [e11, e2]
  obtain rfl : v3 = v12 := by rw [e12, e3]
  have h13 := e13
  first | rw [fx_add_eq (by omega) (by omega)] at h13 | skip
  have BS4 : fx_WB S4 := by rw [d4]; exact fx_WB_up BS3 (by omega) (by omega) (by omega) (by omega) (by omega) (by omega) (by omega) (by omega) (by omega) (by omega) (by omega) (fun h => absurd h (by omega))
  obtain rfl : v2 = v14 := by rw [e14, e2]
  obtain rfl : v3 = v15 := by rw [e15, e3]
  have h16 := e16
  first | rw [fx_add_eq (by omega) (by omega)] at h16 | skip
  have BS5 : fx_WB S5 := by rw [d5]; exact fx_WB_up BS4 (by omega) (by omega) (by omega) (by omega) (by omega) (by omega) (by omega) (by omega) (by omega) (by omega) (by omega) (fun h => absurd h (by omega))
  have t17_5 : S5.1 67 4 = S4.1 67 4 := by rw [d5]; first | exact if_neg (by omega) | rfl
  rw [t17_5] at e17
  have t17_4 : S4.1 67 4 = S3.1 67 4 := by rw [d4]; first | exact if_neg (by omega) | rfl
  rw [t17_4] at e17
  have t17_3 : S3.1 67 4 = S2.1 67 4 := by rw [d3]; first | exact if_neg (by omega) | rfl
  rw [t17_3] at e17
  have t17_2 : S2.1 67 4 = S1.1 67 4 := by rw [d2]; first | exact if_neg (by omega) | rfl
  rw [t17_2] at e17
  have t17_1 : S1.1 67 4 = S.1 67 4 := by rw [d1]; first | exact if_neg (by omega) | rfl
  rw [t17_1] at e17
  have h18 := e18
  first | rw [fx_add_eq (by omega) (by omega)] at h18 | skip
  have BS6 : fx_WB S6 := by rw [d6]; exact fx_WB_up BS5 (by omega) (by omega) (by omega) (by omega) (by omega) (by omega) (by omega) (by omega) (by omega) (by omega) (by omega) (fun h => absurd h (by omega))
  refine ⟨((show S6.2 = S5.2 by rw [d6])).trans (((show S5.2 = S4.2 by rw [d5])).trans (((show S4.2 = S3.2 by rw [d4])).trans (((show S3.2 = S2.2 by rw [d3])).trans (((show S2.2 = S1.2 by rw [d2])).trans ((show S1.2 = S.2 by rw [d1])))))), ?_, BS6⟩
  · intro p i hW
    exact ((show S6.1 p i = S5.1 p i by rw [d6]; exact if_neg (by omega))).trans (((show S5.1 p i = S4.1 p i by rw [d5]; exact if_neg (by omega))).trans (((show S4.1 p i = S3.1 p i by rw [d4]; exact if_neg (by omega))).trans (((show S3.1 p i = S2.1 p i by rw [d3]; exact if_neg (by omega))).trans (((show S2.1 p i = S1.1 p i by rw [d2]; exact if_neg (by omega))).trans ((show S1.1 p i = S.1 p i by rw [d1]; exact if_neg (by omega)))))))
theorem q247_1 (S : fx_S) (x1 x2 : Int) (hS : fx_Sok S) (g1 : -2147483648 ≤ x1 ∧ x1 ≤ 2147483647) (g2 : -2147483648 ≤ x2 ∧ x2 ≤ 2147483647) (c1 : x2 < 170) (v2 : Int) (e2 : v2 = fx_mul 170 x1) (v3 : Int) (e3 : v3 = fx_add 3700 v2) (v4 : Int) (e4 : v4 = fx_add v3 x2) (c2 : 0 ≤ v4) (c3 : v4 < 8090) (S1 : fx_S) (d1 : S1 = (fx_up S.1 67 v4 0, S.2)) (v5 : Int) (e5 : v5 = fx_add x2 1) (z : Int) (Z : fx_S) (kz : fx_Sok Z) (bz : -2147483648 ≤ z ∧ z ≤ 2147483647) (pz : s247 S1 x1 v5 z Z) : s247 S x1 x2 z Z := by
  unfold s247 at pz
  unfold s247
  intro hB hP
  have BS := hB
  have NS := fx_WB_n BS
  have h2 := e2
  first | rw [fx_mul_eq (by omega) (by omega)] at h2 | skip
  have h3 := e3
  first | rw [fx_add_eq (by omega) (by omega)] at h3 | skip
  have h4 := e4
  first | rw [fx_add_eq (by omega) (by omega)] at h4 | skip
  have BS1 : fx_WB S1 := by rw [d1]; exact fx_WB_up BS (by omega) (by omega) (by omega) (by omega) (by omega) (by omega) (by omega) (by omega) (by omega) (by omega) (by omega) (fun h => absurd h (by omega))
  have h5 := e5
  first | rw [fx_add_eq (by omega) (by omega)] at h5 | skip
  have a4 : S1.1 67 4 = S.1 67 4 := by rw [d1]; first | exact if_neg (by omega) | rfl
  obtain ⟨rZ, fZ, BZ⟩ := pz BS1 (by omega)
  refine ⟨(rZ).trans ((show S1.2 = S.2 by rw [d1])), ?_, BZ⟩
  · intro p i hW
    exact ((fZ p i (by omega))).trans ((show S1.1 p i = S.1 p i by rw [d1]; exact if_neg (by omega)))
theorem q248_0 (S : fx_S) (x1 : Int) (hS : fx_Sok S) (g1 : -2147483648 ≤ x1 ∧ x1 ≤ 2147483647) (z : Int) (Z : fx_S) (kz : fx_Sok Z) (bz : z = 0) (pz : s313 S x1 0 z Z) : s248 S x1 z Z := by
  obtain ⟨rZ, fZ⟩ := pz
  refine ⟨rZ, ?_⟩
  · intro p i hW
    exact (fZ p i (by omega))
theorem q249_0 (S : fx_S) (x1 x3 : Int) (hS : fx_Sok S) (g1 : -2147483648 ≤ x1 ∧ x1 ≤ 2147483647) (g3 : -2147483648 ≤ x3 ∧ x3 ≤ 2147483647) (v2 : Int) (e2 : v2 = S.1 13 0) (b2 : -2147483648 ≤ v2 ∧ v2 ≤ 2147483647) (c1 : v2 ≤ x3) : s249 S x1 x3 0 S := by
  refine ⟨rfl, ?_⟩
  · intro p i hW
    clear c1 b2 e2
    exact rfl
theorem q249_1 (S : fx_S) (x1 x3 : Int) (hS : fx_Sok S) (g1 : -2147483648 ≤ x1 ∧ x1 ≤ 2147483647) (g3 : -2147483648 ≤ x3 ∧ x3 ≤ 2147483647) (v2 : Int) (e2 : v2 = S.1 13 0) (b2 : -2147483648 ≤ v2 ∧ v2 ≤ 2147483647) (c1 : x3 < v2) (v3 : Int) (S1 : fx_S) (k1 : fx_Sok S1) (b3 : -2147483648 ≤ v3 ∧ v3 ≤ 2147483647) (p1 : s136 S x3 v3 S1) (c2 : v3 ≠ 0) (v4 : Int) (e4 : v4 = fx_mul x1 80) (v5 : Int) (e5 : v5 = fx_add v4 x3) (c3 : 0 ≤ v5) (c4 : v5 < 1600) (v6 : Int) (e6 : v6 = S1.1 34 v5) (b6 : -128 ≤ v6 ∧ v6 ≤ 127) (c5 : v6 = 0) (v7 : Int) (e7 : v7 = fx_add x3 1) (z : Int) (Z : fx_S) (kz : fx_Sok Z) (bz : z = 0) (pz : s249 S1 x1 v7 z Z) : s249 S x1 x3 z Z := by
  obtain ⟨rfl, p1⟩ := p1
  obtain ⟨rZ, fZ⟩ := pz
  refine ⟨rZ, ?_⟩
  · intro p i hW
    clear e7 c5 b6 e6 c4 c3 e5 e4 c2 b3 c1 b2 e2
    exact (fZ p i (by omega))
theorem q249_2 (S : fx_S) (x1 x3 : Int) (hS : fx_Sok S) (g1 : -2147483648 ≤ x1 ∧ x1 ≤ 2147483647) (g3 : -2147483648 ≤ x3 ∧ x3 ≤ 2147483647) (v2 : Int) (e2 : v2 = S.1 13 0) (b2 : -2147483648 ≤ v2 ∧ v2 ≤ 2147483647) (c1 : x3 < v2) (v3 : Int) (S1 : fx_S) (k1 : fx_Sok S1) (b3 : -2147483648 ≤ v3 ∧ v3 ≤ 2147483647) (p1 : s136 S x3 v3 S1) (c2 : v3 ≠ 0) (v4 : Int) (e4 : v4 = fx_mul x1 80) (v5 : Int) (e5 : v5 = fx_add v4 x3) (c3 : 0 ≤ v5) (c4 : v5 < 1600) (v6 : Int) (e6 : v6 = S1.1 34 v5) (b6 : -128 ≤ v6 ∧ v6 ≤ 127) (c5 : v6 ≠ 0) (v7 : Int) (e7 : v7 = S1.1 1 0) (b7 : -2147483648 ≤ v7 ∧ v7 ≤ 2147483647) (c6 : 0 ≤ x3) (c7 : x3 < 80) (v8 : Int) (e8 : v8 = S1.1 16 x3) (b8 : -2147483648 ≤ v8 ∧ v8 ≤ 2147483647) (v9 : Int) (S2 : fx_S) (k2 : fx_Sok S2) (b9 : -2147483648 ≤ v9 ∧ v9 ≤ 2147483647) (p2 : s123 S1 v8 v7 v9 S2) (v10 : Int) (S3 : fx_S) (k3 : fx_Sok S3) (b10 : -2147483648 ≤ v10 ∧ v10 ≤ 2147483647) (p3 : s137 S2 v9 x3 v7 v10 S3) (v11 : Int) (S4 : fx_S) (k4 : fx_Sok S4) (b11 : v11 = 0) (p4 : s314 S3 x1 v10 v6 v11 S4) (v12 : Int) (e12 : v12 = fx_add x3 1) (z : Int) (Z : fx_S) (kz : fx_Sok Z) (bz : z = 0) (pz : s249 S4 x1 v12 z Z) : s249 S x1 x3 z Z := by
  obtain ⟨rfl, p1⟩ := p1
  obtain ⟨rfl, p2⟩ := p2
  obtain rfl : S = S3 := p3
  obtain ⟨r4, f4⟩ := p4
  obtain ⟨rZ, fZ⟩ := pz
  refine ⟨(rZ).trans (r4), ?_⟩
  · intro p i hW
    clear e12 b11 b10 b9 b8 e8 c7 c6 b7 e7 c5 b6 e6 c4 c3 e5 e4 c2 b3 c1 b2 e2
    exact ((fZ p i (by omega))).trans ((f4 p i (by omega)))
theorem q249_3 (S : fx_S) (x1 x3 : Int) (hS : fx_Sok S) (g1 : -2147483648 ≤ x1 ∧ x1 ≤ 2147483647) (g3 : -2147483648 ≤ x3 ∧ x3 ≤ 2147483647) (v2 : Int) (e2 : v2 = S.1 13 0) (b2 : -2147483648 ≤ v2 ∧ v2 ≤ 2147483647) (c1 : x3 < v2) (v3 : Int) (S1 : fx_S) (k1 : fx_Sok S1) (b3 : -2147483648 ≤ v3 ∧ v3 ≤ 2147483647) (p1 : s136 S x3 v3 S1) (c2 : v3 = 0) (v4 : Int) (e4 : v4 = fx_mul x1 80) (v5 : Int) (e5 : v5 = fx_add v4 x3) (c3 : 0 ≤ v5) (c4 : v5 < 1600) (S2 : fx_S) (d2 : S2 = (fx_up S1.1 34 v5 0, S1.2)) (v6 : Int) (e6 : v6 = fx_mul x1 80) (v7 : Int) (e7 : v7 = fx_add v6 x3) (c5 : 0 ≤ v7) (c6 : v7 < 1600) (v8 : Int) (e8 : v8 = S2.1 34 v7) (b8 : -128 ≤ v8 ∧ v8 ≤ 127) (c7 : v8 = 0) (v9 : Int) (e9 : v9 = fx_add x3 1) (z : Int) (Z : fx_S) (kz : fx_Sok Z) (bz : z = 0) (pz : s249 S2 x1 v9 z Z) : s249 S x1 x3 z Z := by
  obtain ⟨rfl, p1⟩ := p1
  obtain ⟨rZ, fZ⟩ := pz
  refine ⟨(rZ).trans ((show S2.2 = S.2 by rw [d2])), ?_⟩
  · intro p i hW
    clear e9 c7 b8 e8 c6 c5 e7 e6 c4 c3 e5 e4 c2 b3 c1 b2 e2
    exact ((fZ p i (by omega))).trans ((show S2.1 p i = S.1 p i by rw [d2]; exact if_neg (by omega)))
theorem q249_4 (S : fx_S) (x1 x3 : Int) (hS : fx_Sok S) (g1 : -2147483648 ≤ x1 ∧ x1 ≤ 2147483647) (g3 : -2147483648 ≤ x3 ∧ x3 ≤ 2147483647) (v2 : Int) (e2 : v2 = S.1 13 0) (b2 : -2147483648 ≤ v2 ∧ v2 ≤ 2147483647) (c1 : x3 < v2) (v3 : Int) (S1 : fx_S) (k1 : fx_Sok S1) (b3 : -2147483648 ≤ v3 ∧ v3 ≤ 2147483647) (p1 : s136 S x3 v3 S1) (c2 : v3 = 0) (v4 : Int) (e4 : v4 = fx_mul x1 80) (v5 : Int) (e5 : v5 = fx_add v4 x3) (c3 : 0 ≤ v5) (c4 : v5 < 1600) (S2 : fx_S) (d2 : S2 = (fx_up S1.1 34 v5 0, S1.2)) (v6 : Int) (e6 : v6 = fx_mul x1 80) (v7 : Int) (e7 : v7 = fx_add v6 x3) (c5 : 0 ≤ v7) (c6 : v7 < 1600) (v8 : Int) (e8 : v8 = S2.1 34 v7) (b8 : -128 ≤ v8 ∧ v8 ≤ 127) (c7 : v8 ≠ 0) (v9 : Int) (e9 : v9 = S2.1 1 0) (b9 : -2147483648 ≤ v9 ∧ v9 ≤ 2147483647) (c8 : 0 ≤ x3) (c9 : x3 < 80) (v10 : Int) (e10 : v10 = S2.1 16 x3) (b10 : -2147483648 ≤ v10 ∧ v10 ≤ 2147483647) (v11 : Int) (S3 : fx_S) (k3 : fx_Sok S3) (b11 : -2147483648 ≤ v11 ∧ v11 ≤ 2147483647) (p3 : s123 S2 v10 v9 v11 S3) (v12 : Int) (S4 : fx_S) (k4 : fx_Sok S4) (b12 : -2147483648 ≤ v12 ∧ v12 ≤ 2147483647) (p4 : s137 S3 v11 x3 v9 v12 S4) (v13 : Int) (S5 : fx_S) (k5 : fx_Sok S5) (b13 : v13 = 0) (p5 : s314 S4 x1 v12 v8 v13 S5) (v14 : Int) (e14 : v14 = fx_add x3 1) (z : Int) (Z : fx_S) (kz : fx_Sok Z) (bz : z = 0) (pz : s249 S5 x1 v14 z Z) : s249 S x1 x3 z Z := by
  obtain ⟨rfl, p1⟩ := p1
  obtain ⟨rfl, p3⟩ := p3
  obtain rfl : S2 = S4 := p4
  obtain ⟨r5, f5⟩ := p5
  obtain ⟨rZ, fZ⟩ := pz
  refine ⟨(rZ).trans ((r5).trans ((show S2.2 = S.2 by rw [d2]))), ?_⟩
  · intro p i hW
    clear e14 b13 b12 b11 b10 e10 c9 c8 b9 e9 c7 b8 e8 c6 c5 e7 e6 c4 c3 e5 e4 c2 b3 c1 b2 e2
    exact ((fZ p i (by omega))).trans (((f5 p i (by omega))).trans ((show S2.1 p i = S.1 p i by rw [d2]; exact if_neg (by omega))))
theorem q250_0 (S : fx_S) (x0 x1 x2 : Int) (hS : fx_Sok S) (g0 : -2147483648 ≤ x0 ∧ x0 ≤ 2147483647) (g1 : -2147483648 ≤ x1 ∧ x1 ≤ 2147483647) (g2 : -2147483648 ≤ x2 ∧ x2 ≤ 2147483647) (c1 : x2 ≤ 0) : s250 S x0 x1 x2 0 S := by
  exact rfl
theorem q250_1 (S : fx_S) (x0 x1 x2 : Int) (hS : fx_Sok S) (g0 : -2147483648 ≤ x0 ∧ x0 ≤ 2147483647) (g1 : -2147483648 ≤ x1 ∧ x1 ≤ 2147483647) (g2 : -2147483648 ≤ x2 ∧ x2 ≤ 2147483647) (c1 : 0 < x2) (v3 : Int) (e3 : v3 = fx_mul x0 100) (v4 : Int) (e4 : v4 = fx_mul x1 x2) (c2 : v3 ≤ v4) : s250 S x0 x1 x2 0 S := by
  exact rfl
theorem q250_2 (S : fx_S) (x0 x1 x2 : Int) (hS : fx_Sok S) (g0 : -2147483648 ≤ x0 ∧ x0 ≤ 2147483647) (g1 : -2147483648 ≤ x1 ∧ x1 ≤ 2147483647) (g2 : -2147483648 ≤ x2 ∧ x2 ≤ 2147483647) (c1 : 0 < x2) (v3 : Int) (e3 : v3 = fx_mul x0 100) (v4 : Int) (e4 : v4 = fx_mul x1 x2) (c2 : v4 < v3) : s250 S x0 x1 x2 1 S := by
  exact rfl
theorem q251_0 (S : fx_S) (x1 x2 x3 x4 : Int) (hS : fx_Sok S) (g1 : -2147483648 ≤ x1 ∧ x1 ≤ 2147483647) (g2 : -2147483648 ≤ x2 ∧ x2 ≤ 2147483647) (g3 : -2147483648 ≤ x3 ∧ x3 ≤ 2147483647) (g4 : -2147483648 ≤ x4 ∧ x4 ≤ 2147483647) (c1 : 4 ≤ x4) : s251 S x1 x2 x3 x4 x3 S := by
  exact rfl
theorem q251_1 (S : fx_S) (x1 x2 x3 x4 : Int) (hS : fx_Sok S) (g1 : -2147483648 ≤ x1 ∧ x1 ≤ 2147483647) (g2 : -2147483648 ≤ x2 ∧ x2 ≤ 2147483647) (g3 : -2147483648 ≤ x3 ∧ x3 ≤ 2147483647) (g4 : -2147483648 ≤ x4 ∧ x4 ≤ 2147483647) (c1 : x4 < 4) (v4 : Int) (e4 : v4 = fx_mul x1 5) (v5 : Int) (e5 : v5 = fx_add v4 x4) (c2 : 0 ≤ v5) (c3 : v5 < 105) (v6 : Int) (e6 : v6 = S.1 35 v5) (b6 : -2147483648 ≤ v6 ∧ v6 ≤ 2147483647) (c4 : 0 ≤ v5) (c5 : v5 < 105) (v7 : Int) (e7 : v7 = S.1 36 v5) (b7 : -2147483648 ≤ v7 ∧ v7 ≤ 2147483647) (v8 : Int) (e8 : v8 = fx_sub v6 v7) (v9 : Int) (S1 : fx_S) (k1 : fx_Sok S1) (b9 : -2147483648 ≤ v9 ∧ v9 ≤ 2147483647) (p1 : s315 S v8 v9 S1) (c6 : v9 ≠ x2) (v10 : Int) (e10 : v10 = fx_add x4 1) (z : Int) (Z : fx_S) (kz : fx_Sok Z) (bz : -2147483648 ≤ z ∧ z ≤ 2147483647) (pz : s251 S1 x1 x2 x3 v10 z Z) : s251 S x1 x2 x3 x4 z Z := by
  obtain rfl : S = S1 := p1
  obtain rfl : S = Z := pz
  exact rfl
theorem q251_2 (S : fx_S) (x1 x2 x3 x4 : Int) (hS : fx_Sok S) (g1 : -2147483648 ≤ x1 ∧ x1 ≤ 2147483647) (g2 : -2147483648 ≤ x2 ∧ x2 ≤ 2147483647) (g3 : -2147483648 ≤ x3 ∧ x3 ≤ 2147483647) (g4 : -2147483648 ≤ x4 ∧ x4 ≤ 2147483647) (c1 : x4 < 4) (v4 : Int) (e4 : v4 = fx_mul x1 5) (v5 : Int) (e5 : v5 = fx_add v4 x4) (c2 : 0 ≤ v5) (c3 : v5 < 105) (v6 : Int) (e6 : v6 = S.1 35 v5) (b6 : -2147483648 ≤ v6 ∧ v6 ≤ 2147483647) (c4 : 0 ≤ v5) (c5 : v5 < 105) (v7 : Int) (e7 : v7 = S.1 36 v5) (b7 : -2147483648 ≤ v7 ∧ v7 ≤ 2147483647) (v8 : Int) (e8 : v8 = fx_sub v6 v7) (v9 : Int) (S1 : fx_S) (k1 : fx_Sok S1) (b9 : -2147483648 ≤ v9 ∧ v9 ≤ 2147483647) (p1 : s315 S v8 v9 S1) (c6 : v9 = x2) (v10 : Int) (e10 : v10 = fx_shl 1 x4) (v11 : Int) (e11 : v11 = fx_or x3 v10) (v12 : Int) (e12 : v12 = fx_add x4 1) (z : Int) (Z : fx_S) (kz : fx_Sok Z) (bz : -2147483648 ≤ z ∧ z ≤ 2147483647) (pz : s251 S1 x1 x2 v11 v12 z Z) : s251 S x1 x2 x3 x4 z Z := by
  obtain rfl : S = S1 := p1
  obtain rfl : S = Z := pz
  exact rfl
theorem q252_0 (S : fx_S) (x1 x2 x3 : Int) (hS : fx_Sok S) (g1 : -2147483648 ≤ x1 ∧ x1 ≤ 2147483647) (g2 : -2147483648 ≤ x2 ∧ x2 ≤ 2147483647) (g3 : -2147483648 ≤ x3 ∧ x3 ≤ 2147483647) (c1 : 5 ≤ x3) : s252 S x1 x2 x3 x2 S := by
  exact rfl
theorem q252_1 (S : fx_S) (x1 x2 x3 : Int) (hS : fx_Sok S) (g1 : -2147483648 ≤ x1 ∧ x1 ≤ 2147483647) (g2 : -2147483648 ≤ x2 ∧ x2 ≤ 2147483647) (g3 : -2147483648 ≤ x3 ∧ x3 ≤ 2147483647) (c1 : x3 < 5) (v3 : Int) (e3 : v3 = fx_mul x1 5) (v4 : Int) (e4 : v4 = fx_add v3 x3) (c2 : 0 ≤ v4) (c3 : v4 < 105) (v5 : Int) (e5 : v5 = S.1 35 v4) (b5 : -2147483648 ≤ v5 ∧ v5 ≤ 2147483647) (v6 : Int) (e6 : v6 = fx_add x2 v5) (v7 : Int) (e7 : v7 = fx_add x3 1) (z : Int) (Z : fx_S) (kz : fx_Sok Z) (bz : -2147483648 ≤ z ∧ z ≤ 2147483647) (pz : s252 S x1 v6 v7 z Z) : s252 S x1 x2 x3 z Z := by
  obtain rfl : S = Z := pz
  exact rfl
theorem q253_0 (S : fx_S) (x1 x2 x3 : Int) (hS : fx_Sok S) (g1 : -2147483648 ≤ x1 ∧ x1 ≤ 2147483647) (g2 : -2147483648 ≤ x2 ∧ x2 ≤ 2147483647) (g3 : -2147483648 ≤ x3 ∧ x3 ≤ 2147483647) (c1 : 5 ≤ x3) : s253 S x1 x2 x3 x2 S := by
  exact rfl
theorem q253_1 (S : fx_S) (x1 x2 x3 : Int) (hS : fx_Sok S) (g1 : -2147483648 ≤ x1 ∧ x1 ≤ 2147483647) (g2 : -2147483648 ≤ x2 ∧ x2 ≤ 2147483647) (g3 : -2147483648 ≤ x3 ∧ x3 ≤ 2147483647) (c1 : x3 < 5) (v3 : Int) (e3 : v3 = fx_mul x1 5) (v4 : Int) (e4 : v4 = fx_add v3 x3) (c2 : 0 ≤ v4) (c3 : v4 < 105) (v5 : Int) (e5 : v5 = S.1 36 v4) (b5 : -2147483648 ≤ v5 ∧ v5 ≤ 2147483647) (v6 : Int) (e6 : v6 = fx_add x2 v5) (v7 : Int) (e7 : v7 = fx_add x3 1) (z : Int) (Z : fx_S) (kz : fx_Sok Z) (bz : -2147483648 ≤ z ∧ z ≤ 2147483647) (pz : s253 S x1 v6 v7 z Z) : s253 S x1 x2 x3 z Z := by
  obtain rfl : S = Z := pz
  exact rfl
theorem q254_0 (S : fx_S) (x1 x2 x3 : Int) (hS : fx_Sok S) (g1 : -2147483648 ≤ x1 ∧ x1 ≤ 2147483647) (g2 : -2147483648 ≤ x2 ∧ x2 ≤ 2147483647) (g3 : -2147483648 ≤ x3 ∧ x3 ≤ 2147483647) (c1 : 4 ≤ x3) (z : Int) (Z : fx_S) (kz : fx_Sok Z) (bz : z = 0) (pz : s316 S x1 x2 0 z Z) : s254 S x1 x2 x3 z Z := by
  obtain ⟨rZ, fZ⟩ := pz
  refine ⟨rZ, ?_⟩
  · intro p i hW
    clear c1
    exact (fZ p i (by omega))
theorem q254_1 (S : fx_S) (x1 x2 x3 : Int) (hS : fx_Sok S) (g1 : -2147483648 ≤ x1 ∧ x1 ≤ 2147483647) (g2 : -2147483648 ≤ x2 ∧ x2 ≤ 2147483647) (g3 : -2147483648 ≤ x3 ∧ x3 ≤ 2147483647) (c1 : x3 < 4) (c2 : 0 ≤ x3) (c3 : x3 < 4) (S1 : fx_S) (d1 : S1 = (fx_up S.1 76 x3 0, S.2)) (c4 : 0 ≤ x3) (c5 : x3 < 4) (S2 : fx_S) (d2 : S2 = (fx_up S1.1 77 x3 0, S1.2)) (v3 : Int) (e3 : v3 = fx_add x3 1) (z : Int) (Z : fx_S) (kz : fx_Sok Z) (bz : z = 0) (pz : s254 S2 x1 x2 v3 z Z) : s254 S x1 x2 x3 z Z := by
  obtain ⟨rZ, fZ⟩ := pz
  refine ⟨(rZ).trans (((show S2.2 = S1.2 by rw [d2])).trans ((show S1.2 = S.2 by rw [d1]))), ?_⟩
  · intro p i hW
    clear e3 c5 c4 c3 c2 c1
    exact ((fZ p i (by omega))).trans (((show S2.1 p i = S1.1 p i by rw [d2]; exact if_neg (by omega))).trans ((show S1.1 p i = S.1 p i by rw [d1]; exact if_neg (by omega))))
theorem q255_0 (S : fx_S) (x1 x2 x3 x4 : Int) (hS : fx_Sok S) (g1 : -2147483648 ≤ x1 ∧ x1 ≤ 2147483647) (g2 : -2147483648 ≤ x2 ∧ x2 ≤ 2147483647) (g3 : -2147483648 ≤ x3 ∧ x3 ≤ 2147483647) (g4 : -2147483648 ≤ x4 ∧ x4 ≤ 2147483647) (c1 : 80 ≤ x4) : s255 S x1 x2 x3 x4 x3 S := by
  exact rfl
theorem q255_1 (S : fx_S) (x1 x2 x3 x4 : Int) (hS : fx_Sok S) (g1 : -2147483648 ≤ x1 ∧ x1 ≤ 2147483647) (g2 : -2147483648 ≤ x2 ∧ x2 ≤ 2147483647) (g3 : -2147483648 ≤ x3 ∧ x3 ≤ 2147483647) (g4 : -2147483648 ≤ x4 ∧ x4 ≤ 2147483647) (c1 : x4 < 80) (v4 : Int) (e4 : v4 = fx_mul 170 x1) (v5 : Int) (e5 : v5 = fx_add 3700 v4) (v6 : Int) (e6 : v6 = fx_add v5 6) (v7 : Int) (e7 : v7 = fx_add v6 x4) (c2 : 0 ≤ v7) (c3 : v7 < 8090) (v8 : Int) (e8 : v8 = S.1 67 v7) (b8 : -2147483648 ≤ v8 ∧ v8 ≤ 2147483647) (c4 : v8 ≠ x2) (v9 : Int) (e9 : v9 = fx_add x3 0) (v10 : Int) (e10 : v10 = fx_add x4 1) (z : Int) (Z : fx_S) (kz : fx_Sok Z) (bz : -2147483648 ≤ z ∧ z ≤ 2147483647) (pz : s255 S x1 x2 v9 v10 z Z) : s255 S x1 x2 x3 x4 z Z := by
  obtain rfl : S = Z := pz
  exact rfl
theorem q255_2 (S : fx_S) (x1 x2 x3 x4 : Int) (hS : fx_Sok S) (g1 : -2147483648 ≤ x1 ∧ x1 ≤ 2147483647) (g2 : -2147483648 ≤ x2 ∧ x2 ≤ 2147483647) (g3 : -2147483648 ≤ x3 ∧ x3 ≤ 2147483647) (g4 : -2147483648 ≤ x4 ∧ x4 ≤ 2147483647) (c1 : x4 < 80) (v4 : Int) (e4 : v4 = fx_mul 170 x1) (v5 : Int) (e5 : v5 = fx_add 3700 v4) (v6 : Int) (e6 : v6 = fx_add v5 6) (v7 : Int) (e7 : v7 = fx_add v6 x4) (c2 : 0 ≤ v7) (c3 : v7 < 8090) (v8 : Int) (e8 : v8 = S.1 67 v7) (b8 : -2147483648 ≤ v8 ∧ v8 ≤ 2147483647) (c4 : v8 = x2) (v9 : Int) (e9 : v9 = fx_add x3 1) (v10 : Int) (e10 : v10 = fx_add x4 1) (z : Int) (Z : fx_S) (kz : fx_Sok Z) (bz : -2147483648 ≤ z ∧ z ≤ 2147483647) (pz : s255 S x1 x2 v9 v10 z Z) : s255 S x1 x2 x3 x4 z Z := by
  obtain rfl : S = Z := pz
  exact rfl
theorem q256_0 (S : fx_S) (x1 x2 x3 : Int) (hS : fx_Sok S) (g1 : -2147483648 ≤ x1 ∧ x1 ≤ 2147483647) (g2 : -2147483648 ≤ x2 ∧ x2 ≤ 2147483647) (g3 : -2147483648 ≤ x3 ∧ x3 ≤ 2147483647) (c1 : 4 ≤ x3) : s256 S x1 x2 x3 x2 S := by
  exact rfl
theorem q256_1 (S : fx_S) (x1 x2 x3 : Int) (hS : fx_Sok S) (g1 : -2147483648 ≤ x1 ∧ x1 ≤ 2147483647) (g2 : -2147483648 ≤ x2 ∧ x2 ≤ 2147483647) (g3 : -2147483648 ≤ x3 ∧ x3 ≤ 2147483647) (c1 : x3 < 4) (c2 : x1 = 0) (c3 : 0 ≤ x3) (c4 : x3 < 4) (v3 : Int) (e3 : v3 = S.1 76 x3) (b3 : -2147483648 ≤ v3 ∧ v3 ≤ 2147483647) (c5 : 0 ≤ x3) (c6 : x3 < 4) (v4 : Int) (e4 : v4 = S.1 77 x3) (b4 : -2147483648 ≤ v4 ∧ v4 ≤ 2147483647) (c7 : v4 ≤ v3) (v5 : Int) (e5 : v5 = fx_or x2 0) (v6 : Int) (e6 : v6 = fx_add x3 1) (z : Int) (Z : fx_S) (kz : fx_Sok Z) (bz : -2147483648 ≤ z ∧ z ≤ 2147483647) (pz : s256 S x1 v5 v6 z Z) : s256 S x1 x2 x3 z Z := by
  obtain rfl : S = Z := pz
  exact rfl
theorem q256_2 (S : fx_S) (x1 x2 x3 : Int) (hS : fx_Sok S) (g1 : -2147483648 ≤ x1 ∧ x1 ≤ 2147483647) (g2 : -2147483648 ≤ x2 ∧ x2 ≤ 2147483647) (g3 : -2147483648 ≤ x3 ∧ x3 ≤ 2147483647) (c1 : x3 < 4) (c2 : x1 = 0) (c3 : 0 ≤ x3) (c4 : x3 < 4) (v3 : Int) (e3 : v3 = S.1 76 x3) (b3 : -2147483648 ≤ v3 ∧ v3 ≤ 2147483647) (c5 : 0 ≤ x3) (c6 : x3 < 4) (v4 : Int) (e4 : v4 = S.1 77 x3) (b4 : -2147483648 ≤ v4 ∧ v4 ≤ 2147483647) (c7 : v3 < v4) (v5 : Int) (e5 : v5 = fx_shl 1 x3) (v6 : Int) (e6 : v6 = fx_or x2 v5) (v7 : Int) (e7 : v7 = fx_add x3 1) (z : Int) (Z : fx_S) (kz : fx_Sok Z) (bz : -2147483648 ≤ z ∧ z ≤ 2147483647) (pz : s256 S x1 v6 v7 z Z) : s256 S x1 x2 x3 z Z := by
  obtain rfl : S = Z := pz
  exact rfl
theorem q256_3 (S : fx_S) (x1 x2 x3 : Int) (hS : fx_Sok S) (g1 : -2147483648 ≤ x1 ∧ x1 ≤ 2147483647) (g2 : -2147483648 ≤ x2 ∧ x2 ≤ 2147483647) (g3 : -2147483648 ≤ x3 ∧ x3 ≤ 2147483647) (c1 : x3 < 4) (c2 : x1 ≠ 0) (c3 : 0 ≤ x3) (c4 : x3 < 4) (v3 : Int) (e3 : v3 = S.1 76 x3) (b3 : -2147483648 ≤ v3 ∧ v3 ≤ 2147483647) (c5 : 0 ≤ x3) (c6 : x3 < 4) (v4 : Int) (e4 : v4 = S.1 77 x3) (b4 : -2147483648 ≤ v4 ∧ v4 ≤ 2147483647) (c7 : v3 ≤ v4) (v5 : Int) (e5 : v5 = fx_or x2 0) (v6 : Int) (e6 : v6 = fx_add x3 1) (z : Int) (Z : fx_S) (kz : fx_Sok Z) (bz : -2147483648 ≤ z ∧ z ≤ 2147483647) (pz : s256 S x1 v5 v6 z Z) : s256 S x1 x2 x3 z Z := by
  obtain rfl : S = Z := pz
  exact rfl
theorem q256_4 (S : fx_S) (x1 x2 x3 : Int) (hS : fx_Sok S) (g1 : -2147483648 ≤ x1 ∧ x1 ≤ 2147483647) (g2 : -2147483648 ≤ x2 ∧ x2 ≤ 2147483647) (g3 : -2147483648 ≤ x3 ∧ x3 ≤ 2147483647) (c1 : x3 < 4) (c2 : x1 ≠ 0) (c3 : 0 ≤ x3) (c4 : x3 < 4) (v3 : Int) (e3 : v3 = S.1 76 x3) (b3 : -2147483648 ≤ v3 ∧ v3 ≤ 2147483647) (c5 : 0 ≤ x3) (c6 : x3 < 4) (v4 : Int) (e4 : v4 = S.1 77 x3) (b4 : -2147483648 ≤ v4 ∧ v4 ≤ 2147483647) (c7 : v4 < v3) (v5 : Int) (e5 : v5 = fx_shl 1 x3) (v6 : Int) (e6 : v6 = fx_or x2 v5) (v7 : Int) (e7 : v7 = fx_add x3 1) (z : Int) (Z : fx_S) (kz : fx_Sok Z) (bz : -2147483648 ≤ z ∧ z ≤ 2147483647) (pz : s256 S x1 v6 v7 z Z) : s256 S x1 x2 x3 z Z := by
  obtain rfl : S = Z := pz
  exact rfl
theorem q257_0 (S : fx_S) (x1 x2 x4 x5 : Int) (hS : fx_Sok S) (g1 : -2147483648 ≤ x1 ∧ x1 ≤ 2147483647) (g2 : -2147483648 ≤ x2 ∧ x2 ≤ 2147483647) (g4 : -2147483648 ≤ x4 ∧ x4 ≤ 2147483647) (g5 : -2147483648 ≤ x5 ∧ x5 ≤ 2147483647) (v4 : Int) (e4 : v4 = S.1 13 0) (b4 : -2147483648 ≤ v4 ∧ v4 ≤ 2147483647) (c1 : v4 ≤ x5) : s257 S x1 x2 x4 x5 0 S := by
  refine ⟨rfl, ?_⟩
  · intro p i hW
    clear c1 b4 e4
    exact rfl
theorem q257_1 (S : fx_S) (x1 x2 x4 x5 : Int) (hS : fx_Sok S) (g1 : -2147483648 ≤ x1 ∧ x1 ≤ 2147483647) (g2 : -2147483648 ≤ x2 ∧ x2 ≤ 2147483647) (g4 : -2147483648 ≤ x4 ∧ x4 ≤ 2147483647) (g5 : -2147483648 ≤ x5 ∧ x5 ≤ 2147483647) (v4 : Int) (e4 : v4 = S.1 13 0) (b4 : -2147483648 ≤ v4 ∧ v4 ≤ 2147483647) (c1 : x5 < v4) (v5 : Int) (e5 : v5 = fx_mul x1 80) (v6 : Int) (e6 : v6 = fx_add v5 x5) (c2 : 0 ≤ v6) (c3 : v6 < 1600) (v7 : Int) (e7 : v7 = S.1 34 v6) (b7 : -128 ≤ v7 ∧ v7 ≤ 127) (c4 : v7 = 0) (v8 : Int) (e8 : v8 = fx_add x5 1) (z : Int) (Z : fx_S) (kz : fx_Sok Z) (bz : z = 0) (pz : s257 S x1 x2 x4 v8 z Z) : s257 S x1 x2 x4 x5 z Z := by
  obtain ⟨rZ, fZ⟩ := pz
  refine ⟨rZ, ?_⟩
  · intro p i hW
    clear e8 c4 b7 e7 c3 c2 e6 e5 c1 b4 e4
    exact (fZ p i (by omega))
theorem q257_2 (S : fx_S) (x1 x2 x4 x5 : Int) (hS : fx_Sok S) (g1 : -2147483648 ≤ x1 ∧ x1 ≤ 2147483647) (g2 : -2147483648 ≤ x2 ∧ x2 ≤ 2147483647) (g4 : -2147483648 ≤ x4 ∧ x4 ≤ 2147483647) (g5 : -2147483648 ≤ x5 ∧ x5 ≤ 2147483647) (v4 : Int) (e4 : v4 = S.1 13 0) (b4 : -2147483648 ≤ v4 ∧ v4 ≤ 2147483647) (c1 : x5 < v4) (v5 : Int) (e5 : v5 = fx_mul x1 80) (v6 : Int) (e6 : v6 = fx_add v5 x5) (c2 : 0 ≤ v6) (c3 : v6 < 1600) (v7 : Int) (e7 : v7 = S.1 34 v6) (b7 : -128 ≤ v7 ∧ v7 ≤ 127) (c4 : v7 ≠ 0) (v8 : Int) (S1 : fx_S) (k1 : fx_Sok S1) (b8 : -2147483648 ≤ v8 ∧ v8 ≤ 2147483647) (p1 : s137 S x2 x5 x4 v8 S1) (v9 : Int) (S2 : fx_S) (k2 : fx_Sok S2) (b9 : v9 = 0) (p2 : s314 S1 20 v8 v7 v9 S2) (v10 : Int) (e10 : v10 = fx_add x5 1) (z : Int) (Z : fx_S) (kz : fx_Sok Z) (bz : z = 0) (pz : s257 S2 x1 x2 x4 v10 z Z) : s257 S x1 x2 x4 x5 z Z := by
  obtain rfl : S = S1 := p1
  obtain ⟨r2, f2⟩ := p2
  obtain ⟨rZ, fZ⟩ := pz
  refine ⟨(rZ).trans (r2), ?_⟩
  · intro p i hW
    clear e10 b9 b8 c4 b7 e7 c3 c2 e6 e5 c1 b4 e4
    exact ((fZ p i (by omega))).trans ((f2 p i (by omega)))
theorem q258_0 (S : fx_S) (x0 : Int) (hS : fx_Sok S) (g0 : -2147483648 ≤ x0 ∧ x0 ≤ 2147483647) (v1 : Int) (e1 : v1 = fx_ush x0 1) (v2 : Int) (e2 : v2 = fx_and v1 1431655765) (v3 : Int) (e3 : v3 = fx_sub x0 v2) (v4 : Int) (e4 : v4 = fx_and v3 858993459) (v5 : Int) (e5 : v5 = fx_ush v3 2) (v6 : Int) (e6 : v6 = fx_and v5 858993459) (v7 : Int) (e7 : v7 = fx_add v4 v6) (v8 : Int) (e8 : v8 = fx_ush v7 4) (v9 : Int) (e9 : v9 = fx_add v7 v8) (v10 : Int) (e10 : v10 = fx_and v9 252645135) (v11 : Int) (e11 : v11 = fx_ush v10 8) (v12 : Int) (e12 : v12 = fx_add v10 v11) (v13 : Int) (e13 : v13 = fx_ush v12 16) (v14 : Int) (e14 : v14 = fx_add v12 v13) (v15 : Int) (e15 : v15 = fx_and v14 63) : s258 S x0 v15 S := by
  exact rfl
theorem q259_0 (S : fx_S) (x0 : Int) (hS : fx_Sok S) (g0 : -2147483648 ≤ x0 ∧ x0 ≤ 2147483647) (v1 : Int) (e1 : v1 = fx_and x0 1) (v2 : Int) (e2 : v2 = fx_shr x0 1) (v3 : Int) (e3 : v3 = fx_and v2 1) (v4 : Int) (e4 : v4 = fx_add v1 v3) (v5 : Int) (e5 : v5 = fx_shr x0 2) (v6 : Int) (e6 : v6 = fx_and v5 1) (v7 : Int) (e7 : v7 = fx_add v4 v6) (v8 : Int) (e8 : v8 = fx_shr x0 3) (v9 : Int) (e9 : v9 = fx_and v8 1) (v10 : Int) (e10 : v10 = fx_add v7 v9) : s259 S x0 v10 S := by
  exact rfl
