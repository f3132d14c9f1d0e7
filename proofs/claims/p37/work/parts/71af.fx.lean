/-! FX: what is to be shown of the entries -/
theorem q46_1 (S : fx_S) (x1 : Int) (hS : fx_Sok S) (g1 : -2147483648 ≤ x1 ∧ x1 ≤ 2147483647) (v1 : Int) (S1 : fx_S) (k1 : fx_Sok S1) (b1 : -2147483648 ≤ v1 ∧ v1 ≤ 2147483647) (p1 : s113 S x1 1 99999 v1 S1) (c1 : v1 = 0) : s46 S x1 (-2) S1 := by
  obtain ⟨rfl, p1⟩ := p1
  unfold s46
  intro hB
  have BS := hB
  have NS := fx_WB_n BS
  have m1 := fx_in01 p1
  refine ⟨rfl, ?_, BS⟩
  · intro p i hW
    exact rfl
theorem q47_0 (S : fx_S) (x1 : Int) (hS : fx_Sok S) (g1 : -2147483648 ≤ x1 ∧ x1 ≤ 2147483647) (v1 : Int) (S1 : fx_S) (k1 : fx_Sok S1) (b1 : -2147483648 ≤ v1 ∧ v1 ≤ 2147483647) (p1 : s114 S x1 0 3 v1 S1) (c1 : v1 = 0) : s47 S x1 (-2) S1 := by
  obtain ⟨rfl, p1⟩ := p1
  exact rfl
theorem q47_1 (S : fx_S) (x1 : Int) (hS : fx_Sok S) (g1 : -2147483648 ≤ x1 ∧ x1 ≤ 2147483647) (v1 : Int) (S1 : fx_S) (k1 : fx_Sok S1) (b1 : -2147483648 ≤ v1 ∧ v1 ≤ 2147483647) (p1 : s114 S x1 0 3 v1 S1) (c1 : v1 ≠ 0) (c2 : 0 ≤ x1) (c3 : x1 < 4) (v2 : Int) (e2 : v2 = S1.1 23 x1) (b2 : -2147483648 ≤ v2 ∧ v2 ≤ 2147483647) : s47 S x1 v2 S1 := by
  obtain ⟨rfl, p1⟩ := p1
  exact rfl
theorem q48_0 (S : fx_S) (x1 : Int) (hS : fx_Sok S) (g1 : -2147483648 ≤ x1 ∧ x1 ≤ 2147483647) (v1 : Int) (S1 : fx_S) (k1 : fx_Sok S1) (b1 : -2147483648 ≤ v1 ∧ v1 ≤ 2147483647) (p1 : s113 S x1 0 3 v1 S1) (c1 : v1 = 0) : s48 S x1 (-2) S1 := by
  obtain ⟨rfl, p1⟩ := p1
  exact rfl
theorem q48_1 (S : fx_S) (x1 : Int) (hS : fx_Sok S) (g1 : -2147483648 ≤ x1 ∧ x1 ≤ 2147483647) (v1 : Int) (S1 : fx_S) (k1 : fx_Sok S1) (b1 : -2147483648 ≤ v1 ∧ v1 ≤ 2147483647) (p1 : s113 S x1 0 3 v1 S1) (c1 : v1 ≠ 0) (v2 : Int) (e2 : v2 = fx_add 16 x1) (c2 : 0 ≤ v2) (c3 : v2 < 8090) (v3 : Int) (e3 : v3 = S1.1 67 v2) (b3 : -2147483648 ≤ v3 ∧ v3 ≤ 2147483647) : s48 S x1 v3 S1 := by
  obtain ⟨rfl, p1⟩ := p1
  exact rfl
theorem q49_0 (S : fx_S) (hS : fx_Sok S) (v0 : Int) (e0 : v0 = S.1 1 0) (b0 : -2147483648 ≤ v0 ∧ v0 ≤ 2147483647) (v1 : Int) (S1 : fx_S) (k1 : fx_Sok S1) (b1 : -2147483648 ≤ v1 ∧ v1 ≤ 2147483647) (p1 : s154 S v0 v1 S1) : s49 S  v1 S1 := by
  obtain ⟨r1, f1⟩ := p1
  refine ⟨r1, ?_⟩
  · intro p i hW
    clear b1 b0 e0
    exact (f1 p i (by omega))
theorem q50_0 (S : fx_S) (hS : fx_Sok S) (z : Int) (Z : fx_S) (kz : fx_Sok Z) (bz : -2147483648 ≤ z ∧ z ≤ 2147483647) (pz : s155 S 0 z Z) : s50 S  z Z := by
  unfold s155 at pz
  unfold s50
  intro hB
  have BS := hB
  have NS := fx_WB_n BS
  obtain ⟨rZ, fZ, BZ⟩ := pz BS
  refine ⟨rZ, ?_, BZ⟩
  · intro p i hW
    exact (fZ p i (by omega))
theorem q51_0 (S : fx_S) (x1 x2 x3 : Int) (hS : fx_Sok S) (g1 : -2147483648 ≤ x1 ∧ x1 ≤ 2147483647) (g2 : -2147483648 ≤ x2 ∧ x2 ≤ 2147483647) (g3 : -2147483648 ≤ x3 ∧ x3 ≤ 2147483647) (v3 : Int) (e3 : v3 = S.1 29 0) (b3 : -2147483648 ≤ v3 ∧ v3 ≤ 2147483647) (v4 : Int) (e4 : v4 = fx_sub v3 1) (v5 : Int) (S1 : fx_S) (k1 : fx_Sok S1) (b5 : -2147483648 ≤ v5 ∧ v5 ≤ 2147483647) (p1 : s114 S x1 0 v4 v5 S1) (c1 : v5 = 0) : s51 S x1 x2 x3 (-2) S1 := by
  obtain ⟨rfl, p1⟩ := p1
  refine ⟨rfl, ?_⟩
  · intro p i hW
    clear c1 b5 e4 b3 e3
    exact rfl
theorem q51_1 (S : fx_S) (x1 x2 x3 : Int) (hS : fx_Sok S) (g1 : -2147483648 ≤ x1 ∧ x1 ≤ 2147483647) (g2 : -2147483648 ≤ x2 ∧ x2 ≤ 2147483647) (g3 : -2147483648 ≤ x3 ∧ x3 ≤ 2147483647) (v3 : Int) (e3 : v3 = S.1 29 0) (b3 : -2147483648 ≤ v3 ∧ v3 ≤ 2147483647) (v4 : Int) (e4 : v4 = fx_sub v3 1) (v5 : Int) (S1 : fx_S) (k1 : fx_Sok S1) (b5 : -2147483648 ≤ v5 ∧ v5 ≤ 2147483647) (p1 : s114 S x1 0 v4 v5 S1) (c1 : v5 ≠ 0) (v6 : Int) (S2 : fx_S) (k2 : fx_Sok S2) (b6 : -2147483648 ≤ v6 ∧ v6 ≤ 2147483647) (p2 : s136 S1 x2 v6 S2) (c2 : v6 ≠ 0) (c3 : 0 ≤ x1) (c4 : x1 < 20) (v7 : Int) (e7 : v7 = S2.1 31 x1) (b7 : -2147483648 ≤ v7 ∧ v7 ≤ 2147483647) (c5 : v7 = (-1)) (c6 : x3 = 0) (v8 : Int) (e8 : v8 = fx_mul x1 80) (v9 : Int) (e9 : v9 = fx_add v8 x2) (c7 : 0 ≤ v9) (c8 : v9 < 1600) (S3 : fx_S) (d3 : S3 = (fx_up S2.1 34 v9 2, S2.2)) : s51 S x1 x2 x3 0 S3 := by
  obtain ⟨rfl, p1⟩ := p1
  obtain ⟨rfl, p2⟩ := p2
  refine ⟨(show S3.2 = S.2 by rw [d3]), ?_⟩
  · intro p i hW
    clear c8 c7 e9 e8 c6 c5 b7 e7 c4 c3 c2 b6 c1 b5 e4 b3 e3
    exact (show S3.1 p i = S.1 p i by rw [d3]; exact if_neg (by omega))
theorem q51_2 (S : fx_S) (x1 x2 x3 : Int) (hS : fx_Sok S) (g1 : -2147483648 ≤ x1 ∧ x1 ≤ 2147483647) (g2 : -2147483648 ≤ x2 ∧ x2 ≤ 2147483647) (g3 : -2147483648 ≤ x3 ∧ x3 ≤ 2147483647) (v3 : Int) (e3 : v3 = S.1 29 0) (b3 : -2147483648 ≤ v3 ∧ v3 ≤ 2147483647) (v4 : Int) (e4 : v4 = fx_sub v3 1) (v5 : Int) (S1 : fx_S) (k1 : fx_Sok S1) (b5 : -2147483648 ≤ v5 ∧ v5 ≤ 2147483647) (p1 : s114 S x1 0 v4 v5 S1) (c1 : v5 ≠ 0) (v6 : Int) (S2 : fx_S) (k2 : fx_Sok S2) (b6 : -2147483648 ≤ v6 ∧ v6 ≤ 2147483647) (p2 : s136 S1 x2 v6 S2) (c2 : v6 ≠ 0) (c3 : 0 ≤ x1) (c4 : x1 < 20) (v7 : Int) (e7 : v7 = S2.1 31 x1) (b7 : -2147483648 ≤ v7 ∧ v7 ≤ 2147483647) (c5 : v7 = (-1)) (c6 : x3 ≠ 0) (v8 : Int) (e8 : v8 = fx_mul x1 80) (v9 : Int) (e9 : v9 = fx_add v8 x2) (c7 : 0 ≤ v9) (c8 : v9 < 1600) (S3 : fx_S) (d3 : S3 = (fx_up S2.1 34 v9 1, S2.2)) : s51 S x1 x2 x3 0 S3 := by
  obtain ⟨rfl, p1⟩ := p1
  obtain ⟨rfl, p2⟩ := p2
  refine ⟨(show S3.2 = S.2 by rw [d3]), ?_⟩
  · intro p i hW
    clear c8 c7 e9 e8 c6 c5 b7 e7 c4 c3 c2 b6 c1 b5 e4 b3 e3
    exact (show S3.1 p i = S.1 p i by rw [d3]; exact if_neg (by omega))
theorem q51_3 (S : fx_S) (x1 x2 x3 : Int) (hS : fx_Sok S) (g1 : -2147483648 ≤ x1 ∧ x1 ≤ 2147483647) (g2 : -2147483648 ≤ x2 ∧ x2 ≤ 2147483647) (g3 : -2147483648 ≤ x3 ∧ x3 ≤ 2147483647) (v3 : Int) (e3 : v3 = S.1 29 0) (b3 : -2147483648 ≤ v3 ∧ v3 ≤ 2147483647) (v4 : Int) (e4 : v4 = fx_sub v3 1) (v5 : Int) (S1 : fx_S) (k1 : fx_Sok S1) (b5 : -2147483648 ≤ v5 ∧ v5 ≤ 2147483647) (p1 : s114 S x1 0 v4 v5 S1) (c1 : v5 ≠ 0) (v6 : Int) (S2 : fx_S) (k2 : fx_Sok S2) (b6 : -2147483648 ≤ v6 ∧ v6 ≤ 2147483647) (p2 : s136 S1 x2 v6 S2) (c2 : v6 ≠ 0) (c3 : 0 ≤ x1) (c4 : x1 < 20) (v7 : Int) (e7 : v7 = S2.1 31 x1) (b7 : -2147483648 ≤ v7 ∧ v7 ≤ 2147483647) (c5 : v7 ≠ (-1)) : s51 S x1 x2 x3 (-5) S2 := by
  obtain ⟨rfl, p1⟩ := p1
  obtain ⟨rfl, p2⟩ := p2
  refine ⟨rfl, ?_⟩
  · intro p i hW
    clear c5 b7 e7 c4 c3 c2 b6 c1 b5 e4 b3 e3
    exact rfl
theorem q51_4 (S : fx_S) (x1 x2 x3 : Int) (hS : fx_Sok S) (g1 : -2147483648 ≤ x1 ∧ x1 ≤ 2147483647) (g2 : -2147483648 ≤ x2 ∧ x2 ≤ 2147483647) (g3 : -2147483648 ≤ x3 ∧ x3 ≤ 2147483647) (v3 : Int) (e3 : v3 = S.1 29 0) (b3 : -2147483648 ≤ v3 ∧ v3 ≤ 2147483647) (v4 : Int) (e4 : v4 = fx_sub v3 1) (v5 : Int) (S1 : fx_S) (k1 : fx_Sok S1) (b5 : -2147483648 ≤ v5 ∧ v5 ≤ 2147483647) (p1 : s114 S x1 0 v4 v5 S1) (c1 : v5 ≠ 0) (v6 : Int) (S2 : fx_S) (k2 : fx_Sok S2) (b6 : -2147483648 ≤ v6 ∧ v6 ≤ 2147483647) (p2 : s136 S1 x2 v6 S2) (c2 : v6 = 0) : s51 S x1 x2 x3 (-2) S2 := by
  obtain ⟨rfl, p1⟩ := p1
  obtain ⟨rfl, p2⟩ := p2
  refine ⟨rfl, ?_⟩
  · intro p i hW
    clear c2 b6 c1 b5 e4 b3 e3
    exact rfl
theorem q52_0 (S : fx_S) (x1 x2 x3 : Int) (hS : fx_Sok S) (g1 : -2147483648 ≤ x1 ∧ x1 ≤ 2147483647) (g2 : -2147483648 ≤ x2 ∧ x2 ≤ 2147483647) (g3 : -2147483648 ≤ x3 ∧ x3 ≤ 2147483647) (v3 : Int) (e3 : v3 = S.1 67 4) (b3 : -2147483648 ≤ v3 ∧ v3 ≤ 2147483647) (v4 : Int) (e4 : v4 = fx_sub v3 1) (v5 : Int) (S1 : fx_S) (k1 : fx_Sok S1) (b5 : -2147483648 ≤ v5 ∧ v5 ≤ 2147483647) (p1 : s113 S x1 0 v4 v5 S1) (c1 : v5 = 0) : s52 S x1 x2 x3 (-2) S1 := by
  obtain ⟨rfl, p1⟩ := p1
  unfold s52
  intro hB
  have BS := hB
  have NS := fx_WB_n BS
  have h4 := e4
  first | rw [fx_sub_eq (by omega) (by omega)] at h4 | skip
  have m1 := fx_in01 p1
  refine ⟨rfl, ?_, BS⟩
  · intro p i hW
    exact rfl
theorem q52_1 (S : fx_S) (x1 x2 x3 : Int) (hS : fx_Sok S) (g1 : -2147483648 ≤ x1 ∧ x1 ≤ 2147483647) (g2 : -2147483648 ≤ x2 ∧ x2 ≤ 2147483647) (g3 : -2147483648 ≤ x3 ∧ x3 ≤ 2147483647) (v3 : Int) (e3 : v3 = S.1 67 4) (b3 : -2147483648 ≤ v3 ∧ v3 ≤ 2147483647) (v4 : Int) (e4 : v4 = fx_sub v3 1) (v5 : Int) (S1 : fx_S) (k1 : fx_Sok S1) (b5 : -2147483648 ≤ v5 ∧ v5 ≤ 2147483647) (p1 : s113 S x1 0 v4 v5 S1) (c1 : v5 ≠ 0) (v6 : Int) (e6 : v6 = S1.1 67 2) (b6 : -2147483648 ≤ v6 ∧ v6 ≤ 2147483647) (v7 : Int) (e7 : v7 = fx_sub v6 1) (v8 : Int) (S2 : fx_S) (k2 : fx_Sok S2) (b8 : -2147483648 ≤ v8 ∧ v8 ≤ 2147483647) (p2 : s113 S1 x2 0 v7 v8 S2) (c2 : v8 = 0) : s52 S x1 x2 x3 (-2) S2 := by
  obtain ⟨rfl, p1⟩ := p1
  obtain ⟨rfl, p2⟩ := p2
  unfold s52
  intro hB
  have BS := hB
  have NS := fx_WB_n BS
  have h4 := e4
  first | rw [fx_sub_eq (by omega) (by omega)] at h4 | skip
  have m1 := fx_in01 p1
  have h7 := e7
  first | rw [fx_sub_eq (by omega) (by omega)] at h7 | skip
  have m2 := fx_in01 p2
  refine ⟨rfl, ?_, BS⟩
  · intro p i hW
    exact rfl
theorem q52_2 (S : fx_S) (x1 x2 x3 : Int) (hS : fx_Sok S) (g1 : -2147483648 ≤ x1 ∧ x1 ≤ 2147483647) (g2 : -2147483648 ≤ x2 ∧ x2 ≤ 2147483647) (g3 : -2147483648 ≤ x3 ∧ x3 ≤ 2147483647) (v3 : Int) (e3 : v3 = S.1 67 4) (b3 : -2147483648 ≤ v3 ∧ v3 ≤ 2147483647) (v4 : Int) (e4 : v4 = fx_sub v3 1) (v5 : Int) (S1 : fx_S) (k1 : fx_Sok S1) (b5 : -2147483648 ≤ v5 ∧ v5 ≤ 2147483647) (p1 : s113 S x1 0 v4 v5 S1) (c1 : v5 ≠ 0) (v6 : Int) (e6 : v6 = S1.1 67 2) (b6 : -2147483648 ≤ v6 ∧ v6 ≤ 2147483647) (v7 : Int) (e7 : v7 = fx_sub v6 1) (v8 : Int) (S2 : fx_S) (k2 : fx_Sok S2) (b8 : -2147483648 ≤ v8 ∧ v8 ≤ 2147483647) (p2 : s113 S1 x2 0 v7 v8 S2) (c2 : v8 ≠ 0) (v9 : Int) (e9 : v9 = S2.1 67 0) (b9 : -2147483648 ≤ v9 ∧ v9 ≤ 2147483647) (v10 : Int) (S3 : fx_S) (k3 : fx_Sok S3) (b10 : -2147483648 ≤ v10 ∧ v10 ≤ 2147483647) (p3 : s156 S2 x2 v9 v10 S3) (c3 : v10 ≠ 0) (v11 : Int) (e11 : v11 = S3.1 67 4) (b11 : -2147483648 ≤ v11 ∧ v11 ≤ 2147483647) (v12 : Int) (e12 : v12 = fx_sub v11 1) (v13 : Int) (S4 : fx_S) (k4 : fx_Sok S4) (b13 : -2147483648 ≤ v13 ∧ v13 ≤ 2147483647) (p4 : s113 S3 x1 0 v12 v13 S4) (c4 : v13 = 0) (v14 : Int) (e14 : v14 = fx_mul 170 x1) (v15 : Int) (e15 : v15 = fx_add 3700 v14) (v16 : Int) (e16 : v16 = fx_add v15 6) (v17 : Int) (e17 : v17 = fx_add v16 x2) (c5 : x3 = 0) (c6 : 0 ≤ v17) (c7 : v17 < 8090) (S5 : fx_S) (d5 : S5 = (fx_up S4.1 67 v17 2, S4.2)) : s52 S x1 x2 x3 0 S5 := by
  obtain ⟨rfl, p1⟩ := p1
  obtain ⟨rfl, p2⟩ := p2
  obtain ⟨rfl, p3⟩ := p3
  obtain ⟨rfl, p4⟩ := p4
  unfold s52
  intro hB
  have BS := hB
  have NS := fx_WB_n BS
  have h4 := e4
  first | rw [fx_sub_eq (by omega) (by omega)] at h4 | skip
  have m1 := fx_in01 p1
  have h7 := e7
  first | rw [fx_sub_eq (by omega) (by omega)] at h7 | skip
  have m2 := fx_in01 p2
  obtain rfl : v3 = v11 := by rw [e11, e3]
  obtain rfl : v4 = v12 := by rw [e12, e4]
  have m4 := fx_in01 p4
  have h14 := e14
  first | rw [fx_mul_eq (by omega) (by omega)] at h14 | skip
  have h15 := e15
  first | rw [fx_add_eq (by omega) (by omega)] at h15 | skip
  have h16 := e16
  first | rw [fx_add_eq (by omega) (by omega)] at h16 | skip
  have h17 := e17
  first | rw [fx_add_eq (by omega) (by omega)] at h17 | skip
  have BS5 : fx_WB S5 := by rw [d5]; exact fx_WB_up BS (by omega) (by omega) (by omega) (by omega) (by omega) (by omega) (by omega) (by omega) (by omega) (by omega) (by omega) (fun h => absurd h (by omega))
  refine ⟨(show S5.2 = S.2 by rw [d5]), ?_, BS5⟩
  · intro p i hW
    exact (show S5.1 p i = S.1 p i by rw [d5]; exact if_neg (by omega))
theorem q52_3 (S : fx_S) (x1 x2 x3 : Int) (hS : fx_Sok S) (g1 : -2147483648 ≤ x1 ∧ x1 ≤ 2147483647) (g2 : -2147483648 ≤ x2 ∧ x2 ≤ 2147483647) (g3 : -2147483648 ≤ x3 ∧ x3 ≤ 2147483647) (v3 : Int) (e3 : v3 = S.1 67 4) (b3 : -2147483648 ≤ v3 ∧ v3 ≤ 2147483647) (v4 : Int) (e4 : v4 = fx_sub v3 1) (v5 : Int) (S1 : fx_S) (k1 : fx_Sok S1) (b5 : -2147483648 ≤ v5 ∧ v5 ≤ 2147483647) (p1 : s113 S x1 0 v4 v5 S1) (c1 : v5 ≠ 0) (v6 : Int) (e6 : v6 = S1.1 67 2) (b6 : -2147483648 ≤ v6 ∧ v6 ≤ 2147483647) (v7 : Int) (e7 : v7 = fx_sub v6 1) (v8 : Int) (S2 : fx_S) (k2 : fx_Sok S2) (b8 : -2147483648 ≤ v8 ∧ v8 ≤ 2147483647) (p2 : s113 S1 x2 0 v7 v8 S2) (c2 : v8 ≠ 0) (v9 : Int) (e9 : v9 = S2.1 67 0) (b9 : -2147483648 ≤ v9 ∧ v9 ≤ 2147483647) (v10 : Int) (S3 : fx_S) (k3 : fx_Sok S3) (b10 : -2147483648 ≤ v10 ∧ v10 ≤ 2147483647) (p3 : s156 S2 x2 v9 v10 S3) (c3 : v10 ≠ 0) (v11 : Int) (e11 : v11 = S3.1 67 4) (b11 : -2147483648 ≤ v11 ∧ v11 ≤ 2147483647) (v12 : Int) (e12 : v12 = fx_sub v11 1) (v13 : Int) (S4 : fx_S) (k4 : fx_Sok S4) (b13 : -2147483648 ≤ v13 ∧ v13 ≤ 2147483647) (p4 : s113 S3 x1 0 v12 v13 S4) (c4 : v13 = 0) (v14 : Int) (e14 : v14 = fx_mul 170 x1) (v15 : Int) (e15 : v15 = fx_add 3700 v14) (v16 : Int) (e16 : v16 = fx_add v15 6) (v17 : Int) (e17 : v17 = fx_add v16 x2) (c5 : x3 ≠ 0) (c6 : 0 ≤ v17) (c7 : v17 < 8090) (S5 : fx_S) (d5 : S5 = (fx_up S4.1 67 v17 1, S4.2)) : s52 S x1 x2 x3 0 S5 := by
  obtain ⟨rfl, p1⟩ := p1
  obtain ⟨rfl, p2⟩ := p2
  obtain ⟨rfl, p3⟩ := p3
  obtain ⟨rfl, p4⟩ := p4
  unfold s52
  intro hB
  have BS := hB
  have NS := fx_WB_n BS
  have h4 := e4
  first | rw [fx_sub_eq (by omega) (by omega)] at h4 | skip
  have m1 := fx_in01 p1
  have h7 := e7
  first | rw [fx_sub_eq (by omega) (by omega)] at h7 | skip
  have m2 := fx_in01 p2
  obtain rfl : v3 = v11 := by rw [e11, e3]
  obtain rfl : v4 = v12 := by rw [e12, e4]
  have m4 := fx_in01 p4
  have h14 := e14
  first | rw [fx_mul_eq (by omega) (by omega)] at h14 | skip
  have h15 := e15
  first | rw [fx_add_eq (by omega) (by omega)] at h15 | skip
  have h16 := e16
  first | rw [fx_add_eq (by omega) (by omega)] at h16 | skip
  have h17 := e17
  first | rw [fx_add_eq (by omega) (by omega)] at h17 | skip
  have BS5 : fx_WB S5 := by rw [d5]; exact fx_WB_up BS (by omega) (by omega) (by omega) (by omega) (by omega) (by omega) (by omega) (by omega) (by omega) (by omega) (by omega) (fun h => absurd h (by omega))
  refine ⟨(show S5.2 = S.2 by rw [d5]), ?_, BS5⟩
  · intro p i hW
    exact (show S5.1 p i = S.1 p i by rw [d5]; exact if_neg (by omega))
theorem q52_4 (S : fx_S) (x1 x2 x3 : Int) (hS : fx_Sok S) (g1 : -2147483648 ≤ x1 ∧ x1 ≤ 2147483647) (g2 : -2147483648 ≤ x2 ∧ x2 ≤ 2147483647) (g3 : -2147483648 ≤ x3 ∧ x3 ≤ 2147483647) (v3 : Int) (e3 : v3 = S.1 67 4) (b3 : -2147483648 ≤ v3 ∧ v3 ≤ 2147483647) (v4 : Int) (e4 : v4 = fx_sub v3 1) (v5 : Int) (S1 : fx_S) (k1 : fx_Sok S1) (b5 : -2147483648 ≤ v5 ∧ v5 ≤ 2147483647) (p1 : s113 S x1 0 v4 v5 S1) (c1 : v5 ≠ 0) (v6 : Int) (e6 : v6 = S1.1 67 2) (b6 : -2147483648 ≤ v6 ∧ v6 ≤ 2147483647) (v7 : Int) (e7 : v7 = fx_sub v6 1) (v8 : Int) (S2 : fx_S) (k2 : fx_Sok S2) (b8 : -2147483648 ≤ v8 ∧ v8 ≤ 2147483647) (p2 : s113 S1 x2 0 v7 v8 S2) (c2 : v8 ≠ 0) (v9 : Int) (e9 : v9 = S2.1 67 0) (b9 : -2147483648 ≤ v9 ∧ v9 ≤ 2147483647) (v10 : Int) (S3 : fx_S) (k3 : fx_Sok S3) (b10 : -2147483648 ≤ v10 ∧ v10 ≤ 2147483647) (p3 : s156 S2 x2 v9 v10 S3) (c3 : v10 ≠ 0) (v11 : Int) (e11 : v11 = S3.1 67 4) (b11 : -2147483648 ≤ v11 ∧ v11 ≤ 2147483647) (v12 : Int) (e12 : v12 = fx_sub v11 1) (v13 : Int) (S4 : fx_S) (k4 : fx_Sok S4) (b13 : -2147483648 ≤ v13 ∧ v13 ≤ 2147483647) (p4 : s113 S3 x1 0 v12 v13 S4) (c4 : v13 ≠ 0) (v14 : Int) (e14 : v14 = fx_mul 170 x1) (v15 : Int) (e15 : v15 = fx_add 3700 v14) (v16 : Int) (e16 : v16 = fx_add v15 1) (c5 : 0 ≤ v16) (c6 : v16 < 8090) (v17 : Int) (e17 : v17 = S4.1 67 v16) (b17 : -2147483648 ≤ v17 ∧ v17 ≤ 2147483647) (c7 : v17 ≠ 0) (v18 : Int) (e18 : v18 = fx_mul 170 x1) (v19 : Int) (e19 : v19 = fx_add 3700 v18) (v20 : Int) (e20 : v20 = fx_add v19 6) (v21 : Int) (e21 : v21 = fx_add v20 x2) (c8 : x3 = 0) (c9 : 0 ≤ v21) (c10 : v21 < 8090) (S5 : fx_S) (d5 : S5 = (fx_up S4.1 67 v21 2, S4.2)) : s52 S x1 x2 x3 0 S5 := by
  obtain ⟨rfl, p1⟩ := p1
  obtain ⟨rfl, p2⟩ := p2
  obtain ⟨rfl, p3⟩ := p3
  obtain ⟨rfl, p4⟩ := p4
  unfold s52
  intro hB
  have BS := hB
  have NS := fx_WB_n BS
  have h4 := e4
  first | rw [fx_sub_eq (by omega) (by omega)] at h4 | skip
  have m1 := fx_in01 p1
  have h7 := e7
  first | rw [fx_sub_eq (by omega) (by omega)] at h7 | skip
  have m2 := fx_in01 p2
  obtain rfl : v3 = v11 := by rw [e11, e3]
  obtain rfl : v4 = v12 := by rw [e12, e4]
  have m4 := fx_in01 p4
  have h14 := e14
  first | rw [fx_mul_eq (by omega) (by omega)] at h14 | skip
  have h15 := e15
  first | rw [fx_add_eq (by omega) (by omega)] at h15 | skip
  have h16 := e16
  first | rw [fx_add_eq (by omega) (by omega)] at h16 | skip
  obtain rfl : v14 = v18 := by rw [e18, e14]
  obtain rfl : v15 = v19 := by rw [e19, e15]
  have h20 := e20
  first | rw [fx_add_eq (by omega) (by omega)] at h20 | skip
  have h21 := e21
  first | rw [fx_add_eq (by omega) (by omega)] at h21 | skip
  have BS5 : fx_WB S5 := by rw [d5]; exact fx_WB_up BS (by omega) (by omega) (by omega) (by omega) (by omega) (by omega) (by omega) (by omega) (by omega) (by omega) (by omega) (fun h => absurd h (by omega))
  refine ⟨(show S5.2 = S.2 by rw [d5]), ?_, BS5⟩
  · intro p i hW
    exact (show S5.1 p i = S.1 p i by rw [d5]; exact if_neg (by omega))
theorem q52_5 (S : fx_S) (x1 x2 x3 : Int) (hS : fx_Sok S) (g1 : -2147483648 ≤ x1 ∧ x1 ≤ 2147483647) (g2 : -2147483648 ≤ x2 ∧ x2 ≤ 2147483647) (g3 : -2147483648 ≤ x3 ∧ x3 ≤ 2147483647) (v3 : Int) (e3 : v3 = S.1 67 4) (b3 : -2147483648 ≤ v3 ∧ v3 ≤ 2147483647) (v4 : Int) (e4 : v4 = fx_sub v3 1) (v5 : Int) (S1 : fx_S) (k1 : fx_Sok S1) (b5 : -2147483648 ≤ v5 ∧ v5 ≤ 2147483647) (p1 : s113 S x1 0 v4 v5 S1) (c1 : v5 ≠ 0) (v6 : Int) (e6 : v6 = S1.1 67 2) (b6 : -2147483648 ≤ v6 ∧ v6 ≤ 2147483647) (v7 : Int) (e7 : v7 = fx_sub v6 1) (v8 : Int) (S2 : fx_S) (k2 : fx_Sok S2) (b8 : -2147483648 ≤ v8 ∧ v8 ≤ 2147483647) (p2 : s113 S1 x2 0 v7 v8 S2) (c2 : v8 ≠ 0) (v9 : Int) (e9 : v9 = S2.1 67 0) (b9 : -2147483648 ≤ v9 ∧ v9 ≤ 2147483647) (v10 : Int) (S3 : fx_S) (k3 : fx_Sok S3) (b10 : -2147483648 ≤ v10 ∧ v10 ≤ 2147483647) (p3 : s156 S2 x2 v9 v10 S3) (c3 : v10 ≠ 0) (v11 : Int) (e11 : v11 = S3.1 67 4) (b11 : -2147483648 ≤ v11 ∧ v11 ≤ 2147483647) (v12 : Int) (e12 : v12 = fx_sub v11 1) (v13 : Int) (S4 : fx_S) (k4 : fx_Sok S4) (b13 : -2147483648 ≤ v13 ∧ v13 ≤ 2147483647) (p4 : s113 S3 x1 0 v12 v13 S4) (c4 : v13 ≠ 0) (v14 : Int) (e14 : v14 = fx_mul 170 x1) (v15 : Int) (e15 : v15 = fx_add 3700 v14) (v16 : Int) (e16 : v16 = fx_add v15 1) (c5 : 0 ≤ v16) (c6 : v16 < 8090) (v17 : Int) (e17 : v17 = S4.1 67 v16) (b17 : -2147483648 ≤ v17 ∧ v17 ≤ 2147483647) (c7 : v17 ≠ 0) (v18 : Int) (e18 : v18 = fx_mul 170 x1) (v19 : Int) (e19 : v19 = fx_add 3700 v18) (v20 : Int) (e20 : v20 = fx_add v19 6) (v21 : Int) (e21 : v21 = fx_add v20 x2) (c8 : x3 ≠ 0) (c9 : 0 ≤ v21) (c10 : v21 < 8090) (S5 : fx_S) (d5 : S5 = (fx_up S4.1 67 v21 1, S4.2)) : s52 S x1 x2 x3 0 S5 := by
  obtain ⟨rfl, p1⟩ := p1
  obtain ⟨rfl, p2⟩ := p2
  obtain ⟨rfl, p3⟩ := p3
  obtain ⟨rfl, p4⟩ := p4
  unfold s52
  intro hB
  have BS := hB
  have NS := fx_WB_n BS
  have h4 := e4
  first | rw [fx_sub_eq (by omega) (by omega)] at h4 | skip
  have m1 := fx_in01 p1
  have h7 := e7
  first | rw [fx_sub_eq (by omega) (by omega)] at h7 | skip
  have m2 := fx_in01 p2
  obtain rfl : v3 = v11 := by rw [e11, e3]
  obtain rfl : v4 = v12 := by rw [e12, e4]
  have m4 := fx_in01 p4
  have h14 := e14
  first | rw [fx_mul_eq (by omega) (by omega)] at h14 | skip
  have h15 := e15
  first | rw [fx_add_eq (by omega) (by omega)] at h15 | skip
  have h16 := e16
  first | rw [fx_add_eq (by omega) (by omega)] at h16 | skip
  obtain rfl : v14 = v18 := by rw [e18, e14]
  obtain rfl : v15 = v19 := by rw [e19, e15]
  have h20 := e20
  first | rw [fx_add_eq (by omega) (by omega)] at h20 | skip
  have h21 := e21
  first | rw [fx_add_eq (by omega) (by omega)] at h21 | skip
  have BS5 : fx_WB S5 := by rw [d5]; exact fx_WB_up BS (by omega) (by omega) (by omega) (by omega) (by omega) (by omega) (by omega) (by omega) (by omega) (by omega) (by omega) (fun h => absurd h (by omega))
  refine ⟨(show S5.2 = S.2 by rw [d5]), ?_, BS5⟩
  · intro p i hW
    exact (show S5.1 p i = S.1 p i by rw [d5]; exact if_neg (by omega))
theorem q52_6 (S : fx_S) (x1 x2 x3 : Int) (hS : fx_Sok S) (g1 : -2147483648 ≤ x1 ∧ x1 ≤ 2147483647) (g2 : -2147483648 ≤ x2 ∧ x2 ≤ 2147483647) (g3 : -2147483648 ≤ x3 ∧ x3 ≤ 2147483647) (v3 : Int) (e3 : v3 = S.1 67 4) (b3 : -2147483648 ≤ v3 ∧ v3 ≤ 2147483647) (v4 : Int) (e4 : v4 = fx_sub v3 1) (v5 : Int) (S1 : fx_S) (k1 : fx_Sok S1) (b5 : -2147483648 ≤ v5 ∧ v5 ≤ 2147483647) (p1 : s113 S x1 0 v4 v5 S1) (c1 : v5 ≠ 0) (v6 : Int) (e6 : v6 = S1.1 67 2) (b6 : -2147483648 ≤ v6 ∧ v6 ≤ 2147483647) (v7 : Int) (e7 : v7 = fx_sub v6 1) (v8 : Int) (S2 : fx_S) (k2 : fx_Sok S2) (b8 : -2147483648 ≤ v8 ∧ v8 ≤ 2147483647) (p2 : s113 S1 x2 0 v7 v8 S2) (c2 : v8 ≠ 0) (v9 : Int) (e9 : v9 = S2.1 67 0) (b9 : -2147483648 ≤ v9 ∧ v9 ≤ 2147483647) (v10 : Int) (S3 : fx_S) (k3 : fx_Sok S3) (b10 : -2147483648 ≤ v10 ∧ v10 ≤ 2147483647) (p3 : s156 S2 x2 v9 v10 S3) (c3 : v10 ≠ 0) (v11 : Int) (e11 : v11 = S3.1 67 4) (b11 : -2147483648 ≤ v11 ∧ v11 ≤ 2147483647) (v12 : Int) (e12 : v12 = fx_sub v11 1) (v13 : Int) (S4 : fx_S) (k4 : fx_Sok S4) (b13 : -2147483648 ≤ v13 ∧ v13 ≤ 2147483647) (p4 : s113 S3 x1 0 v12 v13 S4) (c4 : v13 ≠ 0) (v14 : Int) (e14 : v14 = fx_mul 170 x1) (v15 : Int) (e15 : v15 = fx_add 3700 v14) (v16 : Int) (e16 : v16 = fx_add v15 1) (c5 : 0 ≤ v16) (c6 : v16 < 8090) (v17 : Int) (e17 : v17 = S4.1 67 v16) (b17 : -2147483648 ≤ v17 ∧ v17 ≤ 2147483647) (c7 : v17 = 0) : s52 S x1 x2 x3 (-5) S4 := by
  obtain ⟨rfl, p1⟩ := p1
  obtain ⟨rfl, p2⟩ := p2
  obtain ⟨rfl, p3⟩ := p3
  obtain ⟨rfl, p4⟩ := p4
  unfold s52
  intro hB
  have BS := hB
  have NS := fx_WB_n BS
  have h4 := e4
  first | rw [fx_sub_eq (by omega) (by omega)] at h4 | skip
  have m1 := fx_in01 p1
  have h7 := e7
  first | rw [fx_sub_eq (by omega) (by omega)] at h7 | skip
  have m2 := fx_in01 p2
  obtain rfl : v3 = v11 := by rw [e11, e3]
  obtain rfl : v4 = v12 := by rw [e12, e4]
  have m4 := fx_in01 p4
  have h14 := e14
  first | rw [fx_mul_eq (by omega) (by omega)] at h14 | skip
  have h15 := e15
  first | rw [fx_add_eq (by omega) (by omega)] at h15 | skip
  have h16 := e16
  first | rw [fx_add_eq (by omega) (by omega)] at h16 | skip
  refine ⟨rfl, ?_, BS⟩
  · intro p i hW
    exact rfl
theorem q52_7 (S : fx_S) (x1 x2 x3 : Int) (hS : fx_Sok S) (g1 : -2147483648 ≤ x1 ∧ x1 ≤ 2147483647) (g2 : -2147483648 ≤ x2 ∧ x2 ≤ 2147483647) (g3 : -2147483648 ≤ x3 ∧ x3 ≤ 2147483647) (v3 : Int) (e3 : v3 = S.1 67 4) (b3 : -2147483648 ≤ v3 ∧ v3 ≤ 2147483647) (v4 : Int) (e4 : v4 = fx_sub v3 1) (v5 : Int) (S1 : fx_S) (k1 : fx_Sok S1) (b5 : -2147483648 ≤ v5 ∧ v5 ≤ 2147483647) (p1 : s113 S x1 0 v4 v5 S1) (c1 : v5 ≠ 0) (v6 : Int) (e6 : v6 = S1.1 67 2) (b6 : -2147483648 ≤ v6 ∧ v6 ≤ 2147483647) (v7 : Int) (e7 : v7 = fx_sub v6 1) (v8 : Int) (S2 : fx_S) (k2 : fx_Sok S2) (b8 : -2147483648 ≤ v8 ∧ v8 ≤ 2147483647) (p2 : s113 S1 x2 0 v7 v8 S2) (c2 : v8 ≠ 0) (v9 : Int) (e9 : v9 = S2.1 67 0) (b9 : -2147483648 ≤ v9 ∧ v9 ≤ 2147483647) (v10 : Int) (S3 : fx_S) (k3 : fx_Sok S3) (b10 : -2147483648 ≤ v10 ∧ v10 ≤ 2147483647) (p3 : s156 S2 x2 v9 v10 S3) (c3 : v10 = 0) : s52 S x1 x2 x3 (-2) S3 := by
  obtain ⟨rfl, p1⟩ := p1
  obtain ⟨rfl, p2⟩ := p2
  obtain ⟨rfl, p3⟩ := p3
  unfold s52
  intro hB
  have BS := hB
  have NS := fx_WB_n BS
  have h4 := e4
  first | rw [fx_sub_eq (by omega) (by omega)] at h4 | skip
  have m1 := fx_in01 p1
  have h7 := e7
  first | rw [fx_sub_eq (by omega) (by omega)] at h7 | skip
  have m2 := fx_in01 p2
  refine ⟨rfl, ?_, BS⟩
  · intro p i hW
    exact rfl
theorem q53_0 (S : fx_S) (x1 : Int) (hS : fx_Sok S) (g1 : -2147483648 ≤ x1 ∧ x1 ≤ 2147483647) (v1 : Int) (e1 : v1 = S.1 29 0) (b1 : -2147483648 ≤ v1 ∧ v1 ≤ 2147483647) (v2 : Int) (e2 : v2 = fx_sub v1 1) (v3 : Int) (S1 : fx_S) (k1 : fx_Sok S1) (b3 : -2147483648 ≤ v3 ∧ v3 ≤ 2147483647) (p1 : s114 S x1 0 v2 v3 S1) (c1 : v3 ≠ 0) (c2 : 0 ≤ x1) (c3 : x1 < 20) (v4 : Int) (e4 : v4 = S1.1 31 x1) (b4 : -2147483648 ≤ v4 ∧ v4 ≤ 2147483647) (c4 : v4 = (-1)) (v5 : Int) (S2 : fx_S) (k2 : fx_Sok S2) (b5 : v5 = 0) (p2 : s157 S1 x1 v5 S2) (v6 : Int) (e6 : v6 = S2.1 1 0) (b6 : -2147483648 ≤ v6 ∧ v6 ≤ 2147483647) (c5 : 0 ≤ x1) (c6 : x1 < 20) (S3 : fx_S) (d3 : S3 = (fx_up S2.1 31 x1 v6, S2.2)) (v7 : Int) (e7 : v7 = S3.1 1 0) (b7 : -2147483648 ≤ v7 ∧ v7 ≤ 2147483647) (v8 : Int) (e8 : v8 = S3.1 1 0) (b8 : -2147483648 ≤ v8 ∧ v8 ≤ 2147483647) (v9 : Int) (S4 : fx_S) (k4 : fx_Sok S4) (b9 : -2147483648 ≤ v9 ∧ v9 ≤ 2147483647) (p4 : s123 S3 v7 v8 v9 S4) (c7 : 0 ≤ x1) (c8 : x1 < 20) (S5 : fx_S) (d5 : S5 = (fx_up S4.1 32 x1 v9, S4.2)) (v10 : Int) (S6 : fx_S) (k6 : fx_Sok S6) (b10 : -2147483648 ≤ v10 ∧ v10 ≤ 2147483647) (p6 : s158 S5 x1 v10 S6) (c9 : v10 = 0) : s53 S x1 0 S6 := by
  obtain ⟨rfl, p1⟩ := p1
  obtain ⟨r2, f2⟩ := p2
  obtain ⟨rfl, p4⟩ := p4
  obtain rfl : S5 = S6 := p6
  refine ⟨((show S5.2 = S3.2 by rw [d5])).trans (((show S3.2 = S2.2 by rw [d3])).trans (r2)), ?_⟩
  · intro p i hW
    clear c9 b10 c8 c7 b9 b8 e8 b7 e7 c6 c5 b6 e6 b5 c4 b4 e4 c3 c2 c1 b3 e2 b1 e1
    exact ((show S5.1 p i = S3.1 p i by rw [d5]; exact if_neg (by omega))).trans (((show S3.1 p i = S2.1 p i by rw [d3]; exact if_neg (by omega))).trans ((f2 p i (by omega))))
theorem q53_1 (S : fx_S) (x1 : Int) (hS : fx_Sok S) (g1 : -2147483648 ≤ x1 ∧ x1 ≤ 2147483647) (v1 : Int) (e1 : v1 = S.1 29 0) (b1 : -2147483648 ≤ v1 ∧ v1 ≤ 2147483647) (v2 : Int) (e2 : v2 = fx_sub v1 1) (v3 : Int) (S1 : fx_S) (k1 : fx_Sok S1) (b3 : -2147483648 ≤ v3 ∧ v3 ≤ 2147483647) (p1 : s114 S x1 0 v2 v3 S1) (c1 : v3 ≠ 0) (c2 : 0 ≤ x1) (c3 : x1 < 20) (v4 : Int) (e4 : v4 = S1.1 31 x1) (b4 : -2147483648 ≤ v4 ∧ v4 ≤ 2147483647) (c4 : v4 = (-1)) (v5 : Int) (S2 : fx_S) (k2 : fx_Sok S2) (b5 : v5 = 0) (p2 : s157 S1 x1 v5 S2) (v6 : Int) (e6 : v6 = S2.1 1 0) (b6 : -2147483648 ≤ v6 ∧ v6 ≤ 2147483647) (c5 : 0 ≤ x1) (c6 : x1 < 20) (S3 : fx_S) (d3 : S3 = (fx_up S2.1 31 x1 v6, S2.2)) (v7 : Int) (e7 : v7 = S3.1 1 0) (b7 : -2147483648 ≤ v7 ∧ v7 ≤ 2147483647) (v8 : Int) (e8 : v8 = S3.1 1 0) (b8 : -2147483648 ≤ v8 ∧ v8 ≤ 2147483647) (v9 : Int) (S4 : fx_S) (k4 : fx_Sok S4) (b9 : -2147483648 ≤ v9 ∧ v9 ≤ 2147483647) (p4 : s123 S3 v7 v8 v9 S4) (c7 : 0 ≤ x1) (c8 : x1 < 20) (S5 : fx_S) (d5 : S5 = (fx_up S4.1 32 x1 v9, S4.2)) (v10 : Int) (S6 : fx_S) (k6 : fx_Sok S6) (b10 : -2147483648 ≤ v10 ∧ v10 ≤ 2147483647) (p6 : s158 S5 x1 v10 S6) (c9 : v10 ≠ 0) : s53 S x1 1 S6 := by
  obtain ⟨rfl, p1⟩ := p1
  obtain ⟨r2, f2⟩ := p2
  obtain ⟨rfl, p4⟩ := p4
  obtain rfl : S5 = S6 := p6
  refine ⟨((show S5.2 = S3.2 by rw [d5])).trans (((show S3.2 = S2.2 by rw [d3])).trans (r2)), ?_⟩
  · intro p i hW
    clear c9 b10 c8 c7 b9 b8 e8 b7 e7 c6 c5 b6 e6 b5 c4 b4 e4 c3 c2 c1 b3 e2 b1 e1
    exact ((show S5.1 p i = S3.1 p i by rw [d5]; exact if_neg (by omega))).trans (((show S3.1 p i = S2.1 p i by rw [d3]; exact if_neg (by omega))).trans ((f2 p i (by omega))))
theorem q53_2 (S : fx_S) (x1 : Int) (hS : fx_Sok S) (g1 : -2147483648 ≤ x1 ∧ x1 ≤ 2147483647) (v1 : Int) (e1 : v1 = S.1 29 0) (b1 : -2147483648 ≤ v1 ∧ v1 ≤ 2147483647) (v2 : Int) (e2 : v2 = fx_sub v1 1) (v3 : Int) (S1 : fx_S) (k1 : fx_Sok S1) (b3 : -2147483648 ≤ v3 ∧ v3 ≤ 2147483647) (p1 : s114 S x1 0 v2 v3 S1) (c1 : v3 ≠ 0) (c2 : 0 ≤ x1) (c3 : x1 < 20) (v4 : Int) (e4 : v4 = S1.1 31 x1) (b4 : -2147483648 ≤ v4 ∧ v4 ≤ 2147483647) (c4 : v4 ≠ (-1)) : s53 S x1 (-5) S1 := by
  obtain ⟨rfl, p1⟩ := p1
  refine ⟨rfl, ?_⟩
  · intro p i hW
    clear c4 b4 e4 c3 c2 c1 b3 e2 b1 e1
    exact rfl
theorem q53_3 (S : fx_S) (x1 : Int) (hS : fx_Sok S) (g1 : -2147483648 ≤ x1 ∧ x1 ≤ 2147483647) (v1 : Int) (e1 : v1 = S.1 29 0) (b1 : -2147483648 ≤ v1 ∧ v1 ≤ 2147483647) (v2 : Int) (e2 : v2 = fx_sub v1 1) (v3 : Int) (S1 : fx_S) (k1 : fx_Sok S1) (b3 : -2147483648 ≤ v3 ∧ v3 ≤ 2147483647) (p1 : s114 S x1 0 v2 v3 S1) (c1 : v3 = 0) : s53 S x1 (-2) S1 := by
  obtain ⟨rfl, p1⟩ := p1
  refine ⟨rfl, ?_⟩
  · intro p i hW
    clear c1 b3 e2 b1 e1
    exact rfl
theorem q54_0 (S : fx_S) (x1 : Int) (hS : fx_Sok S) (g1 : -2147483648 ≤ x1 ∧ x1 ≤ 2147483647) (v1 : Int) (e1 : v1 = S.1 67 4) (b1 : -2147483648 ≤ v1 ∧ v1 ≤ 2147483647) (v2 : Int) (e2 : v2 = fx_sub v1 1) (v3 : Int) (S1 : fx_S) (k1 : fx_Sok S1) (b3 : -2147483648 ≤ v3 ∧ v3 ≤ 2147483647) (p1 : s113 S x1 0 v2 v3 S1) (c1 : v3 ≠ 0) (v4 : Int) (e4 : v4 = S1.1 67 4) (b4 : -2147483648 ≤ v4 ∧ v4 ≤ 2147483647) (v5 : Int) (e5 : v5 = fx_sub v4 1) (v6 : Int) (S2 : fx_S) (k2 : fx_Sok S2) (b6 : -2147483648 ≤ v6 ∧ v6 ≤ 2147483647) (p2 : s113 S1 x1 0 v5 v6 S2) (c2 : v6 = 0) (v7 : Int) (e7 : v7 = fx_mul 170 x1) (v8 : Int) (e8 : v8 = fx_add 3700 v7) (z : Int) (Z : fx_S) (kz : fx_Sok Z) (bz : -2147483648 ≤ z ∧ z ≤ 2147483647) (pz : s159 S2 x1 v8 0 z Z) : s54 S x1 z Z := by
  obtain ⟨rfl, p1⟩ := p1
  obtain ⟨rfl, p2⟩ := p2
  unfold s159 at pz
  unfold s54
  intro hB
  have BS := hB
  have NS := fx_WB_n BS
  have h2 := e2
  first | rw [fx_sub_eq (by omega) (by omega)] at h2 | skip
  have m1 := fx_in01 p1
  obtain rfl : v1 = v4 := by rw [e4, e1]
  obtain rfl : v2 = v5 := by rw [e5, e2]
  have m2 := fx_in01 p2
  have h7 := e7
  first | rw [fx_mul_eq (by omega) (by omega)] at h7 | skip
  have h8 := e8
  first | rw [fx_add_eq (by omega) (by omega)] at h8 | skip
  obtain ⟨rZ, fZ, BZ⟩ := pz BS (by omega)
  refine ⟨rZ, ?_, BZ⟩
  · intro p i hW
    exact (fZ p i (by omega))
theorem q54_1 (S : fx_S) (x1 : Int) (hS : fx_Sok S) (g1 : -2147483648 ≤ x1 ∧ x1 ≤ 2147483647) (v1 : Int) (e1 : v1 = S.1 67 4) (b1 : -2147483648 ≤ v1 ∧ v1 ≤ 2147483647) (v2 : Int) (e2 : v2 = fx_sub v1 1) (v3 : Int) (S1 : fx_S) (k1 : fx_Sok S1) (b3 : -2147483648 ≤ v3 ∧ v3 ≤ 2147483647) (p1 : s113 S x1 0 v2 v3 S1) (c1 : v3 ≠ 0) (v4 : Int) (e4 : v4 = S1.1 67 4) (b4 : -2147483648 ≤ v4 ∧ v4 ≤ 2147483647) (v5 : Int) (e5 : v5 = fx_sub v4 1) (v6 : Int) (S2 : fx_S) (k2 : fx_Sok S2) (b6 : -2147483648 ≤ v6 ∧ v6 ≤ 2147483647) (p2 : s113 S1 x1 0 v5 v6 S2) (c2 : v6 ≠ 0) (v7 : Int) (e7 : v7 = fx_mul 170 x1) (v8 : Int) (e8 : v8 = fx_add 3700 v7) (v9 : Int) (e9 : v9 = fx_add v8 1) (c3 : 0 ≤ v9) (c4 : v9 < 8090) (v10 : Int) (e10 : v10 = S2.1 67 v9) (b10 : -2147483648 ≤ v10 ∧ v10 ≤ 2147483647) (c5 : v10 ≠ 0) (v11 : Int) (e11 : v11 = fx_mul 170 x1) (v12 : Int) (e12 : v12 = fx_add 3700 v11) (z : Int) (Z : fx_S) (kz : fx_Sok Z) (bz : -2147483648 ≤ z ∧ z ≤ 2147483647) (pz : s159 S2 x1 v12 0 z Z) : s54 S x1 z Z := by
  obtain ⟨rfl, p1⟩ := p1
  obtain ⟨rfl, p2⟩ := p2
  unfold s159 at pz
  unfold s54
  intro hB
  have BS := hB
  have NS := fx_WB_n BS
  have h2 := e2
  first | rw [fx_sub_eq (by omega) (by omega)] at h2 | skip
  have m1 := fx_in01 p1
  obtain rfl : v1 = v4 := by rw [e4, e1]
  obtain rfl : v2 = v5 := by rw [e5, e2]
  have m2 := fx_in01 p2
  have h7 := e7
  first | rw [fx_mul_eq (by omega) (by omega)] at h7 | skip
  have h8 := e8
  first | rw [fx_add_eq (by omega) (by omega)] at h8 | skip
  have h9 := e9
  first | rw [fx_add_eq (by omega) (by omega)] at h9 | skip
  obtain rfl : v7 = v11 := by rw [e11, e7]
  obtain rfl : v8 = v12 := by rw [e12, e8]
  obtain ⟨rZ, fZ, BZ⟩ := pz BS (by omega)
  refine ⟨rZ, ?_, BZ⟩
  · intro p i hW
    exact (fZ p i (by omega))
theorem q54_2 (S : fx_S) (x1 : Int) (hS : fx_Sok S) (g1 : -2147483648 ≤ x1 ∧ x1 ≤ 2147483647) (v1 : Int) (e1 : v1 = S.1 67 4) (b1 : -2147483648 ≤ v1 ∧ v1 ≤ 2147483647) (v2 : Int) (e2 : v2 = fx_sub v1 1) (v3 : Int) (S1 : fx_S) (k1 : fx_Sok S1) (b3 : -2147483648 ≤ v3 ∧ v3 ≤ 2147483647) (p1 : s113 S x1 0 v2 v3 S1) (c1 : v3 ≠ 0) (v4 : Int) (e4 : v4 = S1.1 67 4) (b4 : -2147483648 ≤ v4 ∧ v4 ≤ 2147483647) (v5 : Int) (e5 : v5 = fx_sub v4 1) (v6 : Int) (S2 : fx_S) (k2 : fx_Sok S2) (b6 : -2147483648 ≤ v6 ∧ v6 ≤ 2147483647) (p2 : s113 S1 x1 0 v5 v6 S2) (c2 : v6 ≠ 0) (v7 : Int) (e7 : v7 = fx_mul 170 x1) (v8 : Int) (e8 : v8 = fx_add 3700 v7) (v9 : Int) (e9 : v9 = fx_add v8 1) (c3 : 0 ≤ v9) (c4 : v9 < 8090) (v10 : Int) (e10 : v10 = S2.1 67 v9) (b10 : -2147483648 ≤ v10 ∧ v10 ≤ 2147483647) (c5 : v10 = 0) : s54 S x1 (-5) S2 := by
  obtain ⟨rfl, p1⟩ := p1
  obtain ⟨rfl, p2⟩ := p2
  unfold s54
  intro hB
  have BS := hB
  have NS := fx_WB_n BS
  have h2 := e2
  first | rw [fx_sub_eq (by omega) (by omega)] at h2 | skip
  have m1 := fx_in01 p1
  obtain rfl : v1 = v4 := by rw [e4, e1]
  obtain rfl : v2 = v5 := by rw [e5, e2]
  have m2 := fx_in01 p2
  have h7 := e7
  first | rw [fx_mul_eq (by omega) (by omega)] at h7 | skip
  have h8 := e8
  first | rw [fx_add_eq (by omega) (by omega)] at h8 | skip
  have h9 := e9
  first | rw [fx_add_eq (by omega) (by omega)] at h9 | skip
  refine ⟨rfl, ?_, BS⟩
  · intro p i hW
    exact rfl
theorem q54_3 (S : fx_S) (x1 : Int) (hS : fx_Sok S) (g1 : -2147483648 ≤ x1 ∧ x1 ≤ 2147483647) (v1 : Int) (e1 : v1 = S.1 67 4) (b1 : -2147483648 ≤ v1 ∧ v1 ≤ 2147483647) (v2 : Int) (e2 : v2 = fx_sub v1 1) (v3 : Int) (S1 : fx_S) (k1 : fx_Sok S1) (b3 : -2147483648 ≤ v3 ∧ v3 ≤ 2147483647) (p1 : s113 S x1 0 v2 v3 S1) (c1 : v3 = 0) : s54 S x1 (-2) S1 := by
  obtain ⟨rfl, p1⟩ := p1
  unfold s54
  intro hB
  have BS := hB
  have NS := fx_WB_n BS
  have h2 := e2
  first | rw [fx_sub_eq (by omega) (by omega)] at h2 | skip
  have m1 := fx_in01 p1
  refine ⟨rfl, ?_, BS⟩
  · intro p i hW
    exact rfl
theorem q55_0 (S : fx_S) (x1 x2 : Int) (hS : fx_Sok S) (g1 : -2147483648 ≤ x1 ∧ x1 ≤ 2147483647) (g2 : -2147483648 ≤ x2 ∧ x2 ≤ 2147483647) (v2 : Int) (e2 : v2 = S.1 29 0) (b2 : -2147483648 ≤ v2 ∧ v2 ≤ 2147483647) (v3 : Int) (e3 : v3 = fx_sub v2 1) (v4 : Int) (S1 : fx_S) (k1 : fx_Sok S1) (b4 : -2147483648 ≤ v4 ∧ v4 ≤ 2147483647) (p1 : s114 S x1 0 v3 v4 S1) (c1 : v4 = 0) : s55 S x1 x2 (-2000000000) S1 := by
  obtain ⟨rfl, p1⟩ := p1
  exact rfl
theorem q55_1 (S : fx_S) (x1 x2 : Int) (hS : fx_Sok S) (g1 : -2147483648 ≤ x1 ∧ x1 ≤ 2147483647) (g2 : -2147483648 ≤ x2 ∧ x2 ≤ 2147483647) (v2 : Int) (e2 : v2 = S.1 29 0) (b2 : -2147483648 ≤ v2 ∧ v2 ≤ 2147483647) (v3 : Int) (e3 : v3 = fx_sub v2 1) (v4 : Int) (S1 : fx_S) (k1 : fx_Sok S1) (b4 : -2147483648 ≤ v4 ∧ v4 ≤ 2147483647) (p1 : s114 S x1 0 v3 v4 S1) (c1 : v4 ≠ 0) (c2 : 0 ≤ x1) (c3 : x1 < 20) (v5 : Int) (e5 : v5 = S1.1 31 x1) (b5 : -2147483648 ≤ v5 ∧ v5 ≤ 2147483647) (c4 : v5 = (-1)) : s55 S x1 x2 (-2000000000) S1 := by
  obtain ⟨rfl, p1⟩ := p1
  exact rfl
theorem q55_2 (S : fx_S) (x1 x2 : Int) (hS : fx_Sok S) (g1 : -2147483648 ≤ x1 ∧ x1 ≤ 2147483647) (g2 : -2147483648 ≤ x2 ∧ x2 ≤ 2147483647) (v2 : Int) (e2 : v2 = S.1 29 0) (b2 : -2147483648 ≤ v2 ∧ v2 ≤ 2147483647) (v3 : Int) (e3 : v3 = fx_sub v2 1) (v4 : Int) (S1 : fx_S) (k1 : fx_Sok S1) (b4 : -2147483648 ≤ v4 ∧ v4 ≤ 2147483647) (p1 : s114 S x1 0 v3 v4 S1) (c1 : v4 ≠ 0) (c2 : 0 ≤ x1) (c3 : x1 < 20) (v5 : Int) (e5 : v5 = S1.1 31 x1) (b5 : -2147483648 ≤ v5 ∧ v5 ≤ 2147483647) (c4 : v5 ≠ (-1)) (c5 : 0 ≤ x1) (c6 : x1 < 20) (v6 : Int) (e6 : v6 = S1.1 32 x1) (b6 : -2147483648 ≤ v6 ∧ v6 ≤ 2147483647) (v7 : Int) (S2 : fx_S) (k2 : fx_Sok S2) (b7 : -2147483648 ≤ v7 ∧ v7 ≤ 2147483647) (p2 : s160 S1 v6 v7 S2) (c7 : x2 < 0) : s55 S x1 x2 (-2000000000) S2 := by
  obtain ⟨rfl, p1⟩ := p1
  obtain rfl : S = S2 := p2
  exact rfl
theorem q55_3 (S : fx_S) (x1 x2 : Int) (hS : fx_Sok S) (g1 : -2147483648 ≤ x1 ∧ x1 ≤ 2147483647) (g2 : -2147483648 ≤ x2 ∧ x2 ≤ 2147483647) (v2 : Int) (e2 : v2 = S.1 29 0) (b2 : -2147483648 ≤ v2 ∧ v2 ≤ 2147483647) (v3 : Int) (e3 : v3 = fx_sub v2 1) (v4 : Int) (S1 : fx_S) (k1 : fx_Sok S1) (b4 : -2147483648 ≤ v4 ∧ v4 ≤ 2147483647) (p1 : s114 S x1 0 v3 v4 S1) (c1 : v4 ≠ 0) (c2 : 0 ≤ x1) (c3 : x1 < 20) (v5 : Int) (e5 : v5 = S1.1 31 x1) (b5 : -2147483648 ≤ v5 ∧ v5 ≤ 2147483647) (c4 : v5 ≠ (-1)) (c5 : 0 ≤ x1) (c6 : x1 < 20) (v6 : Int) (e6 : v6 = S1.1 32 x1) (b6 : -2147483648 ≤ v6 ∧ v6 ≤ 2147483647) (v7 : Int) (S2 : fx_S) (k2 : fx_Sok S2) (b7 : -2147483648 ≤ v7 ∧ v7 ≤ 2147483647) (p2 : s160 S1 v6 v7 S2) (c7 : 7 < x2) : s55 S x1 x2 (-2000000000) S2 := by
  obtain ⟨rfl, p1⟩ := p1
  obtain rfl : S = S2 := p2
  exact rfl
theorem q55_4 (S : fx_S) (x1 x2 : Int) (hS : fx_Sok S) (g1 : -2147483648 ≤ x1 ∧ x1 ≤ 2147483647) (g2 : -2147483648 ≤ x2 ∧ x2 ≤ 2147483647) (v2 : Int) (e2 : v2 = S.1 29 0) (b2 : -2147483648 ≤ v2 ∧ v2 ≤ 2147483647) (v3 : Int) (e3 : v3 = fx_sub v2 1) (v4 : Int) (S1 : fx_S) (k1 : fx_Sok S1) (b4 : -2147483648 ≤ v4 ∧ v4 ≤ 2147483647) (p1 : s114 S x1 0 v3 v4 S1) (c1 : v4 ≠ 0) (c2 : 0 ≤ x1) (c3 : x1 < 20) (v5 : Int) (e5 : v5 = S1.1 31 x1) (b5 : -2147483648 ≤ v5 ∧ v5 ≤ 2147483647) (c4 : v5 ≠ (-1)) (c5 : 0 ≤ x1) (c6 : x1 < 20) (v6 : Int) (e6 : v6 = S1.1 32 x1) (b6 : -2147483648 ≤ v6 ∧ v6 ≤ 2147483647) (v7 : Int) (S2 : fx_S) (k2 : fx_Sok S2) (b7 : -2147483648 ≤ v7 ∧ v7 ≤ 2147483647) (p2 : s160 S1 v6 v7 S2) (c7 : x2 = 0) (v8 : Int) (S3 : fx_S) (k3 : fx_Sok S3) (b8 : -2147483648 ≤ v8 ∧ v8 ≤ 2147483647) (p3 : s158 S2 x1 v8 S3) (c8 : v8 = 0) : s55 S x1 x2 0 S3 := by
  obtain ⟨rfl, p1⟩ := p1
  obtain rfl : S = S2 := p2
  obtain rfl : S = S3 := p3
  exact rfl
theorem q55_5 (S : fx_S) (x1 x2 : Int) (hS : fx_Sok S) (g1 : -2147483648 ≤ x1 ∧ x1 ≤ 2147483647) (g2 : -2147483648 ≤ x2 ∧ x2 ≤ 2147483647) (v2 : Int) (e2 : v2 = S.1 29 0) (b2 : -2147483648 ≤ v2 ∧ v2 ≤ 2147483647) (v3 : Int) (e3 : v3 = fx_sub v2 1) (v4 : Int) (S1 : fx_S) (k1 : fx_Sok S1) (b4 : -2147483648 ≤ v4 ∧ v4 ≤ 2147483647) (p1 : s114 S x1 0 v3 v4 S1) (c1 : v4 ≠ 0) (c2 : 0 ≤ x1) (c3 : x1 < 20) (v5 : Int) (e5 : v5 = S1.1 31 x1) (b5 : -2147483648 ≤ v5 ∧ v5 ≤ 2147483647) (c4 : v5 ≠ (-1)) (c5 : 0 ≤ x1) (c6 : x1 < 20) (v6 : Int) (e6 : v6 = S1.1 32 x1) (b6 : -2147483648 ≤ v6 ∧ v6 ≤ 2147483647) (v7 : Int) (S2 : fx_S) (k2 : fx_Sok S2) (b7 : -2147483648 ≤ v7 ∧ v7 ≤ 2147483647) (p2 : s160 S1 v6 v7 S2) (c7 : x2 = 0) (v8 : Int) (S3 : fx_S) (k3 : fx_Sok S3) (b8 : -2147483648 ≤ v8 ∧ v8 ≤ 2147483647) (p3 : s158 S2 x1 v8 S3) (c8 : v8 ≠ 0) : s55 S x1 x2 1 S3 := by
  obtain ⟨rfl, p1⟩ := p1
  obtain rfl : S = S2 := p2
  obtain rfl : S = S3 := p3
  exact rfl
theorem q55_6 (S : fx_S) (x1 x2 : Int) (hS : fx_Sok S) (g1 : -2147483648 ≤ x1 ∧ x1 ≤ 2147483647) (g2 : -2147483648 ≤ x2 ∧ x2 ≤ 2147483647) (v2 : Int) (e2 : v2 = S.1 29 0) (b2 : -2147483648 ≤ v2 ∧ v2 ≤ 2147483647) (v3 : Int) (e3 : v3 = fx_sub v2 1) (v4 : Int) (S1 : fx_S) (k1 : fx_Sok S1) (b4 : -2147483648 ≤ v4 ∧ v4 ≤ 2147483647) (p1 : s114 S x1 0 v3 v4 S1) (c1 : v4 ≠ 0) (c2 : 0 ≤ x1) (c3 : x1 < 20) (v5 : Int) (e5 : v5 = S1.1 31 x1) (b5 : -2147483648 ≤ v5 ∧ v5 ≤ 2147483647) (c4 : v5 ≠ (-1)) (c5 : 0 ≤ x1) (c6 : x1 < 20) (v6 : Int) (e6 : v6 = S1.1 32 x1) (b6 : -2147483648 ≤ v6 ∧ v6 ≤ 2147483647) (v7 : Int) (S2 : fx_S) (k2 : fx_Sok S2) (b7 : -2147483648 ≤ v7 ∧ v7 ≤ 2147483647) (p2 : s160 S1 v6 v7 S2) (c7 : x2 = 1) (v8 : Int) (S3 : fx_S) (k3 : fx_Sok S3) (b8 : -2147483648 ≤ v8 ∧ v8 ≤ 2147483647) (p3 : s161 S2 x1 v7 v8 S3) (c8 : v8 = 0) : s55 S x1 x2 0 S3 := by
  obtain ⟨rfl, p1⟩ := p1
  obtain rfl : S = S2 := p2
  obtain rfl : S = S3 := p3
  exact rfl
theorem q55_7 (S : fx_S) (x1 x2 : Int) (hS : fx_Sok S) (g1 : -2147483648 ≤ x1 ∧ x1 ≤ 2147483647) (g2 : -2147483648 ≤ x2 ∧ x2 ≤ 2147483647) (v2 : Int) (e2 : v2 = S.1 29 0) (b2 : -2147483648 ≤ v2 ∧ v2 ≤ 2147483647) (v3 : Int) (e3 : v3 = fx_sub v2 1) (v4 : Int) (S1 : fx_S) (k1 : fx_Sok S1) (b4 : -2147483648 ≤ v4 ∧ v4 ≤ 2147483647) (p1 : s114 S x1 0 v3 v4 S1) (c1 : v4 ≠ 0) (c2 : 0 ≤ x1) (c3 : x1 < 20) (v5 : Int) (e5 : v5 = S1.1 31 x1) (b5 : -2147483648 ≤ v5 ∧ v5 ≤ 2147483647) (c4 : v5 ≠ (-1)) (c5 : 0 ≤ x1) (c6 : x1 < 20) (v6 : Int) (e6 : v6 = S1.1 32 x1) (b6 : -2147483648 ≤ v6 ∧ v6 ≤ 2147483647) (v7 : Int) (S2 : fx_S) (k2 : fx_Sok S2) (b7 : -2147483648 ≤ v7 ∧ v7 ≤ 2147483647) (p2 : s160 S1 v6 v7 S2) (c7 : x2 = 1) (v8 : Int) (S3 : fx_S) (k3 : fx_Sok S3) (b8 : -2147483648 ≤ v8 ∧ v8 ≤ 2147483647) (p3 : s161 S2 x1 v7 v8 S3) (c8 : v8 ≠ 0) : s55 S x1 x2 1 S3 := by
  obtain ⟨rfl, p1⟩ := p1
  obtain rfl : S = S2 := p2
  obtain rfl : S = S3 := p3
  exact rfl
theorem q55_8 (S : fx_S) (x1 x2 : Int) (hS : fx_Sok S) (g1 : -2147483648 ≤ x1 ∧ x1 ≤ 2147483647) (g2 : -2147483648 ≤ x2 ∧ x2 ≤ 2147483647) (v2 : Int) (e2 : v2 = S.1 29 0) (b2 : -2147483648 ≤ v2 ∧ v2 ≤ 2147483647) (v3 : Int) (e3 : v3 = fx_sub v2 1) (v4 : Int) (S1 : fx_S) (k1 : fx_Sok S1) (b4 : -2147483648 ≤ v4 ∧ v4 ≤ 2147483647) (p1 : s114 S x1 0 v3 v4 S1) (c1 : v4 ≠ 0) (c2 : 0 ≤ x1) (c3 : x1 < 20) (v5 : Int) (e5 : v5 = S1.1 31 x1) (b5 : -2147483648 ≤ v5 ∧ v5 ≤ 2147483647) (c4 : v5 ≠ (-1)) (c5 : 0 ≤ x1) (c6 : x1 < 20) (v6 : Int) (e6 : v6 = S1.1 32 x1) (b6 : -2147483648 ≤ v6 ∧ v6 ≤ 2147483647) (v7 : Int) (S2 : fx_S) (k2 : fx_Sok S2) (b7 : -2147483648 ≤ v7 ∧ v7 ≤ 2147483647) (p2 : s160 S1 v6 v7 S2) (c7 : x2 = 2) (v8 : Int) (S3 : fx_S) (k3 : fx_Sok S3) (b8 : -2147483648 ≤ v8 ∧ v8 ≤ 2147483647) (p3 : s162 S2 x1 1 v8 S3) : s55 S x1 x2 v8 S3 := by
  obtain ⟨rfl, p1⟩ := p1
  obtain rfl : S = S2 := p2
  obtain rfl : S = S3 := p3
  exact rfl
theorem q55_9 (S : fx_S) (x1 x2 : Int) (hS : fx_Sok S) (g1 : -2147483648 ≤ x1 ∧ x1 ≤ 2147483647) (g2 : -2147483648 ≤ x2 ∧ x2 ≤ 2147483647) (v2 : Int) (e2 : v2 = S.1 29 0) (b2 : -2147483648 ≤ v2 ∧ v2 ≤ 2147483647) (v3 : Int) (e3 : v3 = fx_sub v2 1) (v4 : Int) (S1 : fx_S) (k1 : fx_Sok S1) (b4 : -2147483648 ≤ v4 ∧ v4 ≤ 2147483647) (p1 : s114 S x1 0 v3 v4 S1) (c1 : v4 ≠ 0) (c2 : 0 ≤ x1) (c3 : x1 < 20) (v5 : Int) (e5 : v5 = S1.1 31 x1) (b5 : -2147483648 ≤ v5 ∧ v5 ≤ 2147483647) (c4 : v5 ≠ (-1)) (c5 : 0 ≤ x1) (c6 : x1 < 20) (v6 : Int) (e6 : v6 = S1.1 32 x1) (b6 : -2147483648 ≤ v6 ∧ v6 ≤ 2147483647) (v7 : Int) (S2 : fx_S) (k2 : fx_Sok S2) (b7 : -2147483648 ≤ v7 ∧ v7 ≤ 2147483647) (p2 : s160 S1 v6 v7 S2) (c7 : x2 = 3) (v8 : Int) (S3 : fx_S) (k3 : fx_Sok S3) (b8 : -2147483648 ≤ v8 ∧ v8 ≤ 2147483647) (p3 : s162 S2 x1 (-1) v8 S3) : s55 S x1 x2 v8 S3 := by
  obtain ⟨rfl, p1⟩ := p1
  obtain rfl : S = S2 := p2
  obtain rfl : S = S3 := p3
  exact rfl
theorem q55_10 (S : fx_S) (x1 x2 : Int) (hS : fx_Sok S) (g1 : -2147483648 ≤ x1 ∧ x1 ≤ 2147483647) (g2 : -2147483648 ≤ x2 ∧ x2 ≤ 2147483647) (v2 : Int) (e2 : v2 = S.1 29 0) (b2 : -2147483648 ≤ v2 ∧ v2 ≤ 2147483647) (v3 : Int) (e3 : v3 = fx_sub v2 1) (v4 : Int) (S1 : fx_S) (k1 : fx_Sok S1) (b4 : -2147483648 ≤ v4 ∧ v4 ≤ 2147483647) (p1 : s114 S x1 0 v3 v4 S1) (c1 : v4 ≠ 0) (c2 : 0 ≤ x1) (c3 : x1 < 20) (v5 : Int) (e5 : v5 = S1.1 31 x1) (b5 : -2147483648 ≤ v5 ∧ v5 ≤ 2147483647) (c4 : v5 ≠ (-1)) (c5 : 0 ≤ x1) (c6 : x1 < 20) (v6 : Int) (e6 : v6 = S1.1 32 x1) (b6 : -2147483648 ≤ v6 ∧ v6 ≤ 2147483647) (v7 : Int) (S2 : fx_S) (k2 : fx_Sok S2) (b7 : -2147483648 ≤ v7 ∧ v7 ≤ 2147483647) (p2 : s160 S1 v6 v7 S2) (c7 : x2 = 4) (v8 : Int) (S3 : fx_S) (k3 : fx_Sok S3) (b8 : -2147483648 ≤ v8 ∧ v8 ≤ 2147483647) (p3 : s163 S2 x1 v8 S3) : s55 S x1 x2 v8 S3 := by
  obtain ⟨rfl, p1⟩ := p1
  obtain rfl : S = S2 := p2
  obtain rfl : S = S3 := p3
  exact rfl
theorem q55_11 (S : fx_S) (x1 x2 : Int) (hS : fx_Sok S) (g1 : -2147483648 ≤ x1 ∧ x1 ≤ 2147483647) (g2 : -2147483648 ≤ x2 ∧ x2 ≤ 2147483647) (v2 : Int) (e2 : v2 = S.1 29 0) (b2 : -2147483648 ≤ v2 ∧ v2 ≤ 2147483647) (v3 : Int) (e3 : v3 = fx_sub v2 1) (v4 : Int) (S1 : fx_S) (k1 : fx_Sok S1) (b4 : -2147483648 ≤ v4 ∧ v4 ≤ 2147483647) (p1 : s114 S x1 0 v3 v4 S1) (c1 : v4 ≠ 0) (c2 : 0 ≤ x1) (c3 : x1 < 20) (v5 : Int) (e5 : v5 = S1.1 31 x1) (b5 : -2147483648 ≤ v5 ∧ v5 ≤ 2147483647) (c4 : v5 ≠ (-1)) (c5 : 0 ≤ x1) (c6 : x1 < 20) (v6 : Int) (e6 : v6 = S1.1 32 x1) (b6 : -2147483648 ≤ v6 ∧ v6 ≤ 2147483647) (v7 : Int) (S2 : fx_S) (k2 : fx_Sok S2) (b7 : -2147483648 ≤ v7 ∧ v7 ≤ 2147483647) (p2 : s160 S1 v6 v7 S2) (c7 : x2 = 5) (v8 : Int) (S3 : fx_S) (k3 : fx_Sok S3) (b8 : -2147483648 ≤ v8 ∧ v8 ≤ 2147483647) (p3 : s164 S2 x1 v8 S3) : s55 S x1 x2 v8 S3 := by
  obtain ⟨rfl, p1⟩ := p1
  obtain rfl : S = S2 := p2
  obtain rfl : S = S3 := p3
  exact rfl
