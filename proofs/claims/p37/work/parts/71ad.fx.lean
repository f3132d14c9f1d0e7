/-! FX: what is to be shown of the entries -/
theorem q19_0 (S : fx_S) (x1 x2 x3 : Int) (hS : fx_Sok S) (g1 : -2147483648 ≤ x1 ∧ x1 ≤ 2147483647) (g2 : -2147483648 ≤ x2 ∧ x2 ≤ 2147483647) (g3 : -2147483648 ≤ x3 ∧ x3 ≤ 2147483647) (v3 : Int) (e3 : v3 = S.1 2 0) (b3 : -2147483648 ≤ v3 ∧ v3 ≤ 2147483647) (v4 : Int) (e4 : v4 = fx_sub v3 1) (v5 : Int) (S1 : fx_S) (k1 : fx_Sok S1) (b5 : -2147483648 ≤ v5 ∧ v5 ≤ 2147483647) (p1 : s114 S x1 0 v4 v5 S1) (c1 : v5 = 0) : s19 S x1 x2 x3 (-2) S1 := by
  obtain ⟨rfl, p1⟩ := p1
  exact rfl
theorem q19_1 (S : fx_S) (x1 x2 x3 : Int) (hS : fx_Sok S) (g1 : -2147483648 ≤ x1 ∧ x1 ≤ 2147483647) (g2 : -2147483648 ≤ x2 ∧ x2 ≤ 2147483647) (g3 : -2147483648 ≤ x3 ∧ x3 ≤ 2147483647) (v3 : Int) (e3 : v3 = S.1 2 0) (b3 : -2147483648 ≤ v3 ∧ v3 ≤ 2147483647) (v4 : Int) (e4 : v4 = fx_sub v3 1) (v5 : Int) (S1 : fx_S) (k1 : fx_Sok S1) (b5 : -2147483648 ≤ v5 ∧ v5 ≤ 2147483647) (p1 : s114 S x1 0 v4 v5 S1) (c1 : v5 ≠ 0) (v6 : Int) (S2 : fx_S) (k2 : fx_Sok S2) (b6 : -2147483648 ≤ v6 ∧ v6 ≤ 2147483647) (p2 : s114 S1 x2 0 3599 v6 S2) (c2 : v6 = 0) : s19 S x1 x2 x3 (-2) S2 := by
  obtain ⟨rfl, p1⟩ := p1
  obtain ⟨rfl, p2⟩ := p2
  exact rfl
theorem q19_2 (S : fx_S) (x1 x2 x3 : Int) (hS : fx_Sok S) (g1 : -2147483648 ≤ x1 ∧ x1 ≤ 2147483647) (g2 : -2147483648 ≤ x2 ∧ x2 ≤ 2147483647) (g3 : -2147483648 ≤ x3 ∧ x3 ≤ 2147483647) (v3 : Int) (e3 : v3 = S.1 2 0) (b3 : -2147483648 ≤ v3 ∧ v3 ≤ 2147483647) (v4 : Int) (e4 : v4 = fx_sub v3 1) (v5 : Int) (S1 : fx_S) (k1 : fx_Sok S1) (b5 : -2147483648 ≤ v5 ∧ v5 ≤ 2147483647) (p1 : s114 S x1 0 v4 v5 S1) (c1 : v5 ≠ 0) (v6 : Int) (S2 : fx_S) (k2 : fx_Sok S2) (b6 : -2147483648 ≤ v6 ∧ v6 ≤ 2147483647) (p2 : s114 S1 x2 0 3599 v6 S2) (c2 : v6 ≠ 0) (v7 : Int) (S3 : fx_S) (k3 : fx_Sok S3) (b7 : -2147483648 ≤ v7 ∧ v7 ≤ 2147483647) (p3 : s114 S2 x3 0 3599 v7 S3) (c3 : v7 ≠ 0) (v8 : Int) (S4 : fx_S) (k4 : fx_Sok S4) (b8 : -2147483648 ≤ v8 ∧ v8 ≤ 2147483647) (p4 : s123 S3 x2 x3 v8 S4) (v9 : Int) (S5 : fx_S) (k5 : fx_Sok S5) (b9 : -2147483648 ≤ v9 ∧ v9 ≤ 2147483647) (p5 : s125 S4 x2 x3 v9 S5) (v10 : Int) (S6 : fx_S) (k6 : fx_Sok S6) (b10 : -2147483648 ≤ v10 ∧ v10 ≤ 2147483647) (p6 : s129 S5 x1 v9 v10 S6) (v11 : Int) (S7 : fx_S) (k7 : fx_Sok S7) (b11 : -2147483648 ≤ v11 ∧ v11 ≤ 2147483647) (p7 : s130 S6 v10 v8 x1 v11 S7) : s19 S x1 x2 x3 v11 S7 := by
  obtain ⟨rfl, p1⟩ := p1
  obtain ⟨rfl, p2⟩ := p2
  obtain ⟨rfl, p3⟩ := p3
  obtain ⟨rfl, p4⟩ := p4
  obtain ⟨rfl, p5⟩ := p5
  obtain rfl : S = S6 := p6
  obtain rfl : S = S7 := p7
  exact rfl
theorem q19_3 (S : fx_S) (x1 x2 x3 : Int) (hS : fx_Sok S) (g1 : -2147483648 ≤ x1 ∧ x1 ≤ 2147483647) (g2 : -2147483648 ≤ x2 ∧ x2 ≤ 2147483647) (g3 : -2147483648 ≤ x3 ∧ x3 ≤ 2147483647) (v3 : Int) (e3 : v3 = S.1 2 0) (b3 : -2147483648 ≤ v3 ∧ v3 ≤ 2147483647) (v4 : Int) (e4 : v4 = fx_sub v3 1) (v5 : Int) (S1 : fx_S) (k1 : fx_Sok S1) (b5 : -2147483648 ≤ v5 ∧ v5 ≤ 2147483647) (p1 : s114 S x1 0 v4 v5 S1) (c1 : v5 ≠ 0) (v6 : Int) (S2 : fx_S) (k2 : fx_Sok S2) (b6 : -2147483648 ≤ v6 ∧ v6 ≤ 2147483647) (p2 : s114 S1 x2 0 3599 v6 S2) (c2 : v6 ≠ 0) (v7 : Int) (S3 : fx_S) (k3 : fx_Sok S3) (b7 : -2147483648 ≤ v7 ∧ v7 ≤ 2147483647) (p3 : s114 S2 x3 0 3599 v7 S3) (c3 : v7 = 0) : s19 S x1 x2 x3 (-2) S3 := by
  obtain ⟨rfl, p1⟩ := p1
  obtain ⟨rfl, p2⟩ := p2
  obtain ⟨rfl, p3⟩ := p3
  exact rfl
theorem q20_0 (S : fx_S) (x1 x2 x3 : Int) (hS : fx_Sok S) (g1 : -2147483648 ≤ x1 ∧ x1 ≤ 2147483647) (g2 : -2147483648 ≤ x2 ∧ x2 ≤ 2147483647) (g3 : -2147483648 ≤ x3 ∧ x3 ≤ 2147483647) (v3 : Int) (e3 : v3 = S.1 67 1) (b3 : -2147483648 ≤ v3 ∧ v3 ≤ 2147483647) (v4 : Int) (e4 : v4 = fx_sub v3 1) (v5 : Int) (S1 : fx_S) (k1 : fx_Sok S1) (b5 : -2147483648 ≤ v5 ∧ v5 ≤ 2147483647) (p1 : s113 S x1 0 v4 v5 S1) (c1 : v5 = 0) : s20 S x1 x2 x3 (-2) S1 := by
  obtain ⟨rfl, p1⟩ := p1
  refine ⟨rfl, ?_⟩
  · intro p i hW
    clear c1 b5 e4 b3 e3
    exact rfl
theorem q20_1 (S : fx_S) (x1 x2 x3 : Int) (hS : fx_Sok S) (g1 : -2147483648 ≤ x1 ∧ x1 ≤ 2147483647) (g2 : -2147483648 ≤ x2 ∧ x2 ≤ 2147483647) (g3 : -2147483648 ≤ x3 ∧ x3 ≤ 2147483647) (v3 : Int) (e3 : v3 = S.1 67 1) (b3 : -2147483648 ≤ v3 ∧ v3 ≤ 2147483647) (v4 : Int) (e4 : v4 = fx_sub v3 1) (v5 : Int) (S1 : fx_S) (k1 : fx_Sok S1) (b5 : -2147483648 ≤ v5 ∧ v5 ≤ 2147483647) (p1 : s113 S x1 0 v4 v5 S1) (c1 : v5 ≠ 0) (v6 : Int) (S2 : fx_S) (k2 : fx_Sok S2) (b6 : -2147483648 ≤ v6 ∧ v6 ≤ 2147483647) (p2 : s113 S1 x2 0 3599 v6 S2) (c2 : v6 = 0) : s20 S x1 x2 x3 (-2) S2 := by
  obtain ⟨rfl, p1⟩ := p1
  obtain ⟨rfl, p2⟩ := p2
  refine ⟨rfl, ?_⟩
  · intro p i hW
    clear c2 b6 c1 b5 e4 b3 e3
    exact rfl
theorem q20_2 (S : fx_S) (x1 x2 x3 : Int) (hS : fx_Sok S) (g1 : -2147483648 ≤ x1 ∧ x1 ≤ 2147483647) (g2 : -2147483648 ≤ x2 ∧ x2 ≤ 2147483647) (g3 : -2147483648 ≤ x3 ∧ x3 ≤ 2147483647) (v3 : Int) (e3 : v3 = S.1 67 1) (b3 : -2147483648 ≤ v3 ∧ v3 ≤ 2147483647) (v4 : Int) (e4 : v4 = fx_sub v3 1) (v5 : Int) (S1 : fx_S) (k1 : fx_Sok S1) (b5 : -2147483648 ≤ v5 ∧ v5 ≤ 2147483647) (p1 : s113 S x1 0 v4 v5 S1) (c1 : v5 ≠ 0) (v6 : Int) (S2 : fx_S) (k2 : fx_Sok S2) (b6 : -2147483648 ≤ v6 ∧ v6 ≤ 2147483647) (p2 : s113 S1 x2 0 3599 v6 S2) (c2 : v6 ≠ 0) (v7 : Int) (S3 : fx_S) (k3 : fx_Sok S3) (b7 : -2147483648 ≤ v7 ∧ v7 ≤ 2147483647) (p3 : s113 S2 x3 0 3599 v7 S3) (c3 : v7 ≠ 0) (v8 : Int) (S4 : fx_S) (k4 : fx_Sok S4) (b8 : -2147483648 ≤ v8 ∧ v8 ≤ 2147483647) (p4 : s124 S3 x2 x3 v8 S4) (v9 : Int) (S5 : fx_S) (k5 : fx_Sok S5) (b9 : -2147483648 ≤ v9 ∧ v9 ≤ 2147483647) (p5 : s125 S4 x2 x3 v9 S5) (v10 : Int) (S6 : fx_S) (k6 : fx_Sok S6) (b10 : -2147483648 ≤ v10 ∧ v10 ≤ 2147483647) (p6 : s127 S5 x1 v9 v10 S6) (v11 : Int) (S7 : fx_S) (k7 : fx_Sok S7) (b11 : -2147483648 ≤ v11 ∧ v11 ≤ 2147483647) (p7 : s128 S6 v8 x1 v10 v11 S7) (v12 : Int) (e12 : v12 = S7.1 66 15) (b12 : -2147483648 ≤ v12 ∧ v12 ≤ 2147483647) : s20 S x1 x2 x3 v12 S7 := by
  obtain ⟨rfl, p1⟩ := p1
  obtain ⟨rfl, p2⟩ := p2
  obtain ⟨rfl, p3⟩ := p3
  obtain ⟨rfl, p4⟩ := p4
  obtain ⟨rfl, p5⟩ := p5
  obtain rfl : S = S6 := p6
  obtain ⟨r7, f7, p7⟩ := p7
  refine ⟨r7, ?_⟩
  · intro p i hW
    clear b12 e12 b11 b10 b9 b8 c3 b7 c2 b6 c1 b5 e4 b3 e3
    exact (f7 p i (by omega))
theorem q20_3 (S : fx_S) (x1 x2 x3 : Int) (hS : fx_Sok S) (g1 : -2147483648 ≤ x1 ∧ x1 ≤ 2147483647) (g2 : -2147483648 ≤ x2 ∧ x2 ≤ 2147483647) (g3 : -2147483648 ≤ x3 ∧ x3 ≤ 2147483647) (v3 : Int) (e3 : v3 = S.1 67 1) (b3 : -2147483648 ≤ v3 ∧ v3 ≤ 2147483647) (v4 : Int) (e4 : v4 = fx_sub v3 1) (v5 : Int) (S1 : fx_S) (k1 : fx_Sok S1) (b5 : -2147483648 ≤ v5 ∧ v5 ≤ 2147483647) (p1 : s113 S x1 0 v4 v5 S1) (c1 : v5 ≠ 0) (v6 : Int) (S2 : fx_S) (k2 : fx_Sok S2) (b6 : -2147483648 ≤ v6 ∧ v6 ≤ 2147483647) (p2 : s113 S1 x2 0 3599 v6 S2) (c2 : v6 ≠ 0) (v7 : Int) (S3 : fx_S) (k3 : fx_Sok S3) (b7 : -2147483648 ≤ v7 ∧ v7 ≤ 2147483647) (p3 : s113 S2 x3 0 3599 v7 S3) (c3 : v7 = 0) : s20 S x1 x2 x3 (-2) S3 := by
  obtain ⟨rfl, p1⟩ := p1
  obtain ⟨rfl, p2⟩ := p2
  obtain ⟨rfl, p3⟩ := p3
  refine ⟨rfl, ?_⟩
  · intro p i hW
    clear c3 b7 c2 b6 c1 b5 e4 b3 e3
    exact rfl
theorem q21_0 (S : fx_S) (x1 : Int) (hS : fx_Sok S) (g1 : -2147483648 ≤ x1 ∧ x1 ≤ 2147483647) (v1 : Int) (e1 : v1 = S.1 2 0) (b1 : -2147483648 ≤ v1 ∧ v1 ≤ 2147483647) (v2 : Int) (e2 : v2 = fx_sub v1 1) (v3 : Int) (S1 : fx_S) (k1 : fx_Sok S1) (b3 : -2147483648 ≤ v3 ∧ v3 ≤ 2147483647) (p1 : s114 S x1 0 v2 v3 S1) (c1 : v3 ≠ 0) (v4 : Int) (e4 : v4 = S1.1 1 0) (b4 : -2147483648 ≤ v4 ∧ v4 ≤ 2147483647) (v5 : Int) (e5 : v5 = S1.1 1 0) (b5 : -2147483648 ≤ v5 ∧ v5 ≤ 2147483647) (v6 : Int) (S2 : fx_S) (k2 : fx_Sok S2) (b6 : -2147483648 ≤ v6 ∧ v6 ≤ 2147483647) (p2 : s123 S1 v4 v5 v6 S2) (v7 : Int) (e7 : v7 = S2.1 1 0) (b7 : -2147483648 ≤ v7 ∧ v7 ≤ 2147483647) (v8 : Int) (S3 : fx_S) (k3 : fx_Sok S3) (b8 : -2147483648 ≤ v8 ∧ v8 ≤ 2147483647) (p3 : s129 S2 x1 v7 v8 S3) (v9 : Int) (S4 : fx_S) (k4 : fx_Sok S4) (b9 : -2147483648 ≤ v9 ∧ v9 ≤ 2147483647) (p4 : s130 S3 v8 v6 x1 v9 S4) (z : Int) (Z : fx_S) (kz : fx_Sok Z) (bz : -2147483648 ≤ z ∧ z ≤ 2147483647) (pz : s131 S4 x1 v6 v9 0 0 z Z) : s21 S x1 z Z := by
  obtain ⟨rfl, p1⟩ := p1
  obtain ⟨rfl, p2⟩ := p2
  obtain rfl : S = S3 := p3
  obtain rfl : S = S4 := p4
  obtain rfl : S = Z := pz
  exact rfl
theorem q21_1 (S : fx_S) (x1 : Int) (hS : fx_Sok S) (g1 : -2147483648 ≤ x1 ∧ x1 ≤ 2147483647) (v1 : Int) (e1 : v1 = S.1 2 0) (b1 : -2147483648 ≤ v1 ∧ v1 ≤ 2147483647) (v2 : Int) (e2 : v2 = fx_sub v1 1) (v3 : Int) (S1 : fx_S) (k1 : fx_Sok S1) (b3 : -2147483648 ≤ v3 ∧ v3 ≤ 2147483647) (p1 : s114 S x1 0 v2 v3 S1) (c1 : v3 = 0) : s21 S x1 (-2) S1 := by
  obtain ⟨rfl, p1⟩ := p1
  exact rfl
theorem q22_0 (S : fx_S) (x1 : Int) (hS : fx_Sok S) (g1 : -2147483648 ≤ x1 ∧ x1 ≤ 2147483647) (v1 : Int) (e1 : v1 = S.1 67 1) (b1 : -2147483648 ≤ v1 ∧ v1 ≤ 2147483647) (v2 : Int) (e2 : v2 = fx_sub v1 1) (v3 : Int) (S1 : fx_S) (k1 : fx_Sok S1) (b3 : -2147483648 ≤ v3 ∧ v3 ≤ 2147483647) (p1 : s113 S x1 0 v2 v3 S1) (c1 : v3 ≠ 0) (v4 : Int) (e4 : v4 = S1.1 67 0) (b4 : -2147483648 ≤ v4 ∧ v4 ≤ 2147483647) (v5 : Int) (e5 : v5 = S1.1 67 0) (b5 : -2147483648 ≤ v5 ∧ v5 ≤ 2147483647) (v6 : Int) (S2 : fx_S) (k2 : fx_Sok S2) (b6 : -2147483648 ≤ v6 ∧ v6 ≤ 2147483647) (p2 : s124 S1 v4 v5 v6 S2) (v7 : Int) (e7 : v7 = S2.1 67 0) (b7 : -2147483648 ≤ v7 ∧ v7 ≤ 2147483647) (v8 : Int) (S3 : fx_S) (k3 : fx_Sok S3) (b8 : -2147483648 ≤ v8 ∧ v8 ≤ 2147483647) (p3 : s127 S2 x1 v7 v8 S3) (v9 : Int) (S4 : fx_S) (k4 : fx_Sok S4) (b9 : -2147483648 ≤ v9 ∧ v9 ≤ 2147483647) (p4 : s128 S3 v6 x1 v8 v9 S4) (v10 : Int) (e10 : v10 = S4.1 66 15) (b10 : -2147483648 ≤ v10 ∧ v10 ≤ 2147483647) (z : Int) (Z : fx_S) (kz : fx_Sok Z) (bz : -2147483648 ≤ z ∧ z ≤ 2147483647) (pz : s132 S4 x1 v6 v10 0 0 z Z) : s22 S x1 z Z := by
  obtain ⟨rfl, p1⟩ := p1
  obtain ⟨rfl, p2⟩ := p2
  obtain rfl : S = S3 := p3
  obtain ⟨r4, f4, p4⟩ := p4
  obtain ⟨rZ, fZ⟩ := pz
  refine ⟨(rZ).trans (r4), ?_⟩
  · intro p i hW
    clear b10 e10 b9 b8 b7 e7 b6 b5 e5 b4 e4 c1 b3 e2 b1 e1
    exact ((fZ p i (by omega))).trans ((f4 p i (by omega)))
theorem q22_1 (S : fx_S) (x1 : Int) (hS : fx_Sok S) (g1 : -2147483648 ≤ x1 ∧ x1 ≤ 2147483647) (v1 : Int) (e1 : v1 = S.1 67 1) (b1 : -2147483648 ≤ v1 ∧ v1 ≤ 2147483647) (v2 : Int) (e2 : v2 = fx_sub v1 1) (v3 : Int) (S1 : fx_S) (k1 : fx_Sok S1) (b3 : -2147483648 ≤ v3 ∧ v3 ≤ 2147483647) (p1 : s113 S x1 0 v2 v3 S1) (c1 : v3 = 0) : s22 S x1 (-2) S1 := by
  obtain ⟨rfl, p1⟩ := p1
  refine ⟨rfl, ?_⟩
  · intro p i hW
    clear c1 b3 e2 b1 e1
    exact rfl
theorem q23_0 (S : fx_S) (x1 x2 : Int) (hS : fx_Sok S) (g1 : -2147483648 ≤ x1 ∧ x1 ≤ 2147483647) (g2 : -2147483648 ≤ x2 ∧ x2 ≤ 2147483647) (v2 : Int) (e2 : v2 = S.1 2 0) (b2 : -2147483648 ≤ v2 ∧ v2 ≤ 2147483647) (v3 : Int) (e3 : v3 = fx_sub v2 1) (v4 : Int) (S1 : fx_S) (k1 : fx_Sok S1) (b4 : -2147483648 ≤ v4 ∧ v4 ≤ 2147483647) (p1 : s114 S x1 0 v3 v4 S1) (c1 : v4 = 0) : s23 S x1 x2 (-2) S1 := by
  obtain ⟨rfl, p1⟩ := p1
  refine ⟨rfl, ?_, ?_⟩
  · intro p i hW
    clear c1 b4 e3 b2 e2
    exact rfl
  · skip
    intro h0_
    have h3 := e3
    first | rw [fx_sub_eq (by omega) (by omega)] at h3 | skip
    have m1 := fx_in01 p1
    exact .inl ⟨rfl, by omega, rfl⟩
theorem q23_1 (S : fx_S) (x1 x2 : Int) (hS : fx_Sok S) (g1 : -2147483648 ≤ x1 ∧ x1 ≤ 2147483647) (g2 : -2147483648 ≤ x2 ∧ x2 ≤ 2147483647) (v2 : Int) (e2 : v2 = S.1 2 0) (b2 : -2147483648 ≤ v2 ∧ v2 ≤ 2147483647) (v3 : Int) (e3 : v3 = fx_sub v2 1) (v4 : Int) (S1 : fx_S) (k1 : fx_Sok S1) (b4 : -2147483648 ≤ v4 ∧ v4 ≤ 2147483647) (p1 : s114 S x1 0 v3 v4 S1) (c1 : v4 ≠ 0) (v5 : Int) (S2 : fx_S) (k2 : fx_Sok S2) (b5 : -2147483648 ≤ v5 ∧ v5 ≤ 2147483647) (p2 : s114 S1 x2 0 3 v5 S2) (c2 : v5 ≠ 0) (v6 : Int) (e6 : v6 = S2.1 1 0) (b6 : -2147483648 ≤ v6 ∧ v6 ≤ 2147483647) (v7 : Int) (S3 : fx_S) (k3 : fx_Sok S3) (b7 : -2147483648 ≤ v7 ∧ v7 ≤ 2147483647) (p3 : s133 S2 x1 x2 v6 v7 S3) : s23 S x1 x2 v7 S3 := by
  obtain ⟨rfl, p1⟩ := p1
  obtain ⟨rfl, p2⟩ := p2
  obtain ⟨r3, f3, p3⟩ := p3
  refine ⟨r3, ?_, ?_⟩
  · intro p i hW
    clear b7 b6 e6 c2 b5 c1 b4 e3 b2 e2
    exact (f3 p i (by omega))
  · skip
    intro h0_
    have h3 := e3
    first | rw [fx_sub_eq (by omega) (by omega)] at h3 | skip
    have m1 := fx_in01 p1
    have m2 := fx_in01 p2
    exact .inr ⟨by omega, by rw [← e6]; exact p3⟩
theorem q23_2 (S : fx_S) (x1 x2 : Int) (hS : fx_Sok S) (g1 : -2147483648 ≤ x1 ∧ x1 ≤ 2147483647) (g2 : -2147483648 ≤ x2 ∧ x2 ≤ 2147483647) (v2 : Int) (e2 : v2 = S.1 2 0) (b2 : -2147483648 ≤ v2 ∧ v2 ≤ 2147483647) (v3 : Int) (e3 : v3 = fx_sub v2 1) (v4 : Int) (S1 : fx_S) (k1 : fx_Sok S1) (b4 : -2147483648 ≤ v4 ∧ v4 ≤ 2147483647) (p1 : s114 S x1 0 v3 v4 S1) (c1 : v4 ≠ 0) (v5 : Int) (S2 : fx_S) (k2 : fx_Sok S2) (b5 : -2147483648 ≤ v5 ∧ v5 ≤ 2147483647) (p2 : s114 S1 x2 0 3 v5 S2) (c2 : v5 = 0) : s23 S x1 x2 (-2) S2 := by
  obtain ⟨rfl, p1⟩ := p1
  obtain ⟨rfl, p2⟩ := p2
  refine ⟨rfl, ?_, ?_⟩
  · intro p i hW
    clear c2 b5 c1 b4 e3 b2 e2
    exact rfl
  · skip
    intro h0_
    have h3 := e3
    first | rw [fx_sub_eq (by omega) (by omega)] at h3 | skip
    have m1 := fx_in01 p1
    have m2 := fx_in01 p2
    exact .inl ⟨rfl, by omega, rfl⟩
theorem q24_0 (S : fx_S) (x1 x2 : Int) (hS : fx_Sok S) (g1 : -2147483648 ≤ x1 ∧ x1 ≤ 2147483647) (g2 : -2147483648 ≤ x2 ∧ x2 ≤ 2147483647) (v2 : Int) (e2 : v2 = S.1 67 1) (b2 : -2147483648 ≤ v2 ∧ v2 ≤ 2147483647) (v3 : Int) (e3 : v3 = fx_sub v2 1) (v4 : Int) (S1 : fx_S) (k1 : fx_Sok S1) (b4 : -2147483648 ≤ v4 ∧ v4 ≤ 2147483647) (p1 : s113 S x1 0 v3 v4 S1) (c1 : v4 = 0) : s24 S x1 x2 (-2) S1 := by
  obtain ⟨rfl, p1⟩ := p1
  unfold s24
  intro hB
  have BS := hB
  have NS := fx_WB_n BS
  have h3 := e3
  first | rw [fx_sub_eq (by omega) (by omega)] at h3 | skip
  have m1 := fx_in01 p1
  refine ⟨rfl, ?_, BS, ?_⟩
  · intro p i hW
    exact rfl
  · exact .inl ⟨rfl, by omega, rfl⟩
theorem q24_1 (S : fx_S) (x1 x2 : Int) (hS : fx_Sok S) (g1 : -2147483648 ≤ x1 ∧ x1 ≤ 2147483647) (g2 : -2147483648 ≤ x2 ∧ x2 ≤ 2147483647) (v2 : Int) (e2 : v2 = S.1 67 1) (b2 : -2147483648 ≤ v2 ∧ v2 ≤ 2147483647) (v3 : Int) (e3 : v3 = fx_sub v2 1) (v4 : Int) (S1 : fx_S) (k1 : fx_Sok S1) (b4 : -2147483648 ≤ v4 ∧ v4 ≤ 2147483647) (p1 : s113 S x1 0 v3 v4 S1) (c1 : v4 ≠ 0) (v5 : Int) (S2 : fx_S) (k2 : fx_Sok S2) (b5 : -2147483648 ≤ v5 ∧ v5 ≤ 2147483647) (p2 : s113 S1 x2 0 3 v5 S2) (c2 : v5 ≠ 0) (v6 : Int) (e6 : v6 = S2.1 67 2) (b6 : -2147483648 ≤ v6 ∧ v6 ≤ 2147483647) (c3 : v6 ≠ 80) (v7 : Int) (e7 : v7 = fx_mul 10 v6) (v8 : Int) (e8 : v8 = fx_add 300 v7) (c4 : 0 ≤ v8) (c5 : v8 < 8090) (S3 : fx_S) (d3 : S3 = (fx_up S2.1 67 v8 x1, S2.2)) (v9 : Int) (e9 : v9 = fx_add v8 1) (c6 : 0 ≤ v9) (c7 : v9 < 8090) (S4 : fx_S) (d4 : S4 = (fx_up S3.1 67 v9 x2, S3.2)) (v10 : Int) (e10 : v10 = fx_add v8 2) (v11 : Int) (e11 : v11 = S4.1 67 0) (b11 : -2147483648 ≤ v11 ∧ v11 ≤ 2147483647) (c8 : 0 ≤ v10) (c9 : v10 < 8090) (S5 : fx_S) (d5 : S5 = (fx_up S4.1 67 v10 v11, S4.2)) (v12 : Int) (e12 : v12 = fx_add v8 3) (c10 : 0 ≤ v12) (c11 : v12 < 8090) (S6 : fx_S) (d6 : S6 = (fx_up S5.1 67 v12 (-1), S5.2)) (v13 : Int) (e13 : v13 = fx_add v8 4) (c12 : 0 ≤ v13) (c13 : v13 < 8090) (S7 : fx_S) (d7 : S7 = (fx_up S6.1 67 v13 99, S6.2)) (v14 : Int) (e14 : v14 = fx_add v8 5) (c14 : 0 ≤ v14) (c15 : v14 < 8090) (S8 : fx_S) (d8 : S8 = (fx_up S7.1 67 v14 0, S7.2)) (v15 : Int) (e15 : v15 = S8.1 67 2) (b15 : -2147483648 ≤ v15 ∧ v15 ≤ 2147483647) (v16 : Int) (e16 : v16 = fx_add v15 1) (S9 : fx_S) (d9 : S9 = (fx_up S8.1 67 2 v16, S8.2)) : s24 S x1 x2 v6 S9 := by
  obtain ⟨rfl, p1⟩ := p1
  obtain ⟨rfl, p2⟩ := p2
  unfold s24
  intro hB
  have BS := hB
  have NS := fx_WB_n BS
  have h3 := e3
  first | rw [fx_sub_eq (by omega) (by omega)] at h3 | skip
  have m1 := fx_in01 p1
  have m2 := fx_in01 p2
  have h7 := e7
  first | rw [fx_mul_eq (by omega) (by omega)] at h7 | skip
  have h8 := e8
  first | rw [fx_add_eq (by omega) (by omega)] at h8 | skip
  have BS3 : fx_WB S3 := by rw [d3]; exact fx_WB_up BS (by omega) (by omega) (by omega) (by omega) (by omega) (by omega) (by omega) (by omega) (by omega) (by omega) (by omega) (fun h => absurd h (by omega))
  have h9 := e9
  first | rw [fx_add_eq (by omega) (by omega)] at h9 | skip
  have BS4 : fx_WB S4 := by rw [d4]; exact fx_WB_up BS3 (by omega) (by omega) (by omega) (by omega) (by omega) (by omega) (by omega) (by omega) (by omega) (by omega) (by omega) (fun h => absurd h (by omega))
  have h10 := e10
  first | rw [fx_add_eq (by omega) (by omega)] at h10 | skip
  have t11_4 : S4.1 67 0 = S3.1 67 0 := by rw [d4]; first | exact if_neg (by omega) | rfl
  rw [t11_4] at e11
  have t11_3 : S3.1 67 0 = S.1 67 0 := by rw [d3]; first | exact if_neg (by omega) | rfl
  rw [t11_3] at e11
  have BS5 : fx_WB S5 := by rw [d5]; exact fx_WB_up BS4 (by omega) (by omega) (by omega) (by omega) (by omega) (by omega) (by omega) (by omega) (by omega) (by omega) (by omega) (fun h => absurd h (by omega))
  have h12 := e12
  first | rw [fx_add_eq (by omega) (by omega)] at h12 | skip
  have BS6 : fx_WB S6 := by rw [d6]; exact fx_WB_up BS5 (by omega) (by omega) (by omega) (by omega) (by omega) (by omega) (by omega) (by omega) (by omega) (by omega) (by omega) (fun h => absurd h (by omega))
  have h13 := e13
  first | rw [fx_add_eq (by omega) (by omega)] at h13 | skip
  have BS7 : fx_WB S7 := by rw [d7]; exact fx_WB_up BS6 (by omega) (by omega) (by omega) (by omega) (by omega) (by omega) (by omega) (by omega) (by omega) (by omega) (by omega) (fun h => absurd h (by omega))
  have h14 := e14
  first | rw [fx_add_eq (by omega) (by omega)] at h14 | skip
  have BS8 : fx_WB S8 := by rw [d8]; exact fx_WB_up BS7 (by omega) (by omega) (by omega) (by omega) (by omega) (by omega) (by omega) (by omega) (by omega) (by omega) (by omega) (fun h => absurd h (by omega))
  have t15_8 : S8.1 67 2 = S7.1 67 2 := by rw [d8]; first | exact if_neg (by omega) | rfl
  rw [t15_8] at e15
  have t15_7 : S7.1 67 2 = S6.1 67 2 := by rw [d7]; first | exact if_neg (by omega) | rfl
  rw [t15_7] at e15
  have t15_6 : S6.1 67 2 = S5.1 67 2 := by rw [d6]; first | exact if_neg (by omega) | rfl
  rw [t15_6] at e15
  have t15_5 : S5.1 67 2 = S4.1 67 2 := by rw [d5]; first | exact if_neg (by omega) | rfl
  rw [t15_5] at e15
  have t15_4 : S4.1 67 2 = S3.1 67 2 := by rw [d4]; first | exact if_neg (by omega) | rfl
  rw [t15_4] at e15
  have t15_3 : S3.1 67 2 = S.1 67 2 := by rw [d3]; first | exact if_neg (by omega) | rfl
  rw [t15_3] at e15
  obtain rfl : v6 = v15 := by rw [e15, e6]
  have h16 := e16
  first | rw [fx_add_eq (by omega) (by omega)] at h16 | skip
  have BS9 : fx_WB S9 := by rw [d9]; exact fx_WB_up BS8 (by omega) (by omega) (by omega) (by omega) (by omega) (by omega) (by omega) (by omega) (by omega) (by omega) (by omega) (fun _ q q0 q1 => if hq : q = v6 then (by rw [show S8.1 67 (305 + 10 * q) = 0 from by rw [d8]; first | exact if_pos ⟨rfl, by omega⟩ | rfl]; omega) else (fx_WB_w BS8 q0 (by rw [t15_8, t15_7, t15_6, t15_5, t15_4, t15_3, ← e6]; omega)))
  refine ⟨((show S9.2 = S8.2 by rw [d9])).trans (((show S8.2 = S7.2 by rw [d8])).trans (((show S7.2 = S6.2 by rw [d7])).trans (((show S6.2 = S5.2 by rw [d6])).trans (((show S5.2 = S4.2 by rw [d5])).trans (((show S4.2 = S3.2 by rw [d4])).trans ((show S3.2 = S.2 by rw [d3]))))))), ?_, BS9, ?_⟩
  · intro p i hW
    exact ((show S9.1 p i = S8.1 p i by rw [d9]; exact if_neg (by omega))).trans (((show S8.1 p i = S7.1 p i by rw [d8]; exact if_neg (by omega))).trans (((show S7.1 p i = S6.1 p i by rw [d7]; exact if_neg (by omega))).trans (((show S6.1 p i = S5.1 p i by rw [d6]; exact if_neg (by omega))).trans (((show S5.1 p i = S4.1 p i by rw [d5]; exact if_neg (by omega))).trans (((show S4.1 p i = S3.1 p i by rw [d4]; exact if_neg (by omega))).trans ((show S3.1 p i = S.1 p i by rw [d3]; exact if_neg (by omega))))))))
  · refine .inr ⟨by omega, .inr ⟨by omega, by omega, fun i => ?_⟩⟩
    have hi : i = 2 ∨ i = 300 + 10 * S.1 67 2 ∨ i = 301 + 10 * S.1 67 2 ∨ i = 302 + 10 * S.1 67 2 ∨ i = 303 + 10 * S.1 67 2 ∨ i = 304 + 10 * S.1 67 2 ∨ i = 305 + 10 * S.1 67 2 ∨ (¬ i = 2 ∧ ¬ i = 300 + 10 * S.1 67 2 ∧ ¬ i = 301 + 10 * S.1 67 2 ∧ ¬ i = 302 + 10 * S.1 67 2 ∧ ¬ i = 303 + 10 * S.1 67 2 ∧ ¬ i = 304 + 10 * S.1 67 2 ∧ ¬ i = 305 + 10 * S.1 67 2) := by omega
    rcases hi with hi | hi | hi | hi | hi | hi | hi | hi
    all_goals (subst d9; subst d8; subst d7; subst d6; subst d5; subst d4; subst d3; dsimp only [fx_up, fx_addw]; repeat (first | rw [if_pos (by omega)] | rw [if_neg (by omega)]))
    all_goals first | omega | rfl
theorem q24_2 (S : fx_S) (x1 x2 : Int) (hS : fx_Sok S) (g1 : -2147483648 ≤ x1 ∧ x1 ≤ 2147483647) (g2 : -2147483648 ≤ x2 ∧ x2 ≤ 2147483647) (v2 : Int) (e2 : v2 = S.1 67 1) (b2 : -2147483648 ≤ v2 ∧ v2 ≤ 2147483647) (v3 : Int) (e3 : v3 = fx_sub v2 1) (v4 : Int) (S1 : fx_S) (k1 : fx_Sok S1) (b4 : -2147483648 ≤ v4 ∧ v4 ≤ 2147483647) (p1 : s113 S x1 0 v3 v4 S1) (c1 : v4 ≠ 0) (v5 : Int) (S2 : fx_S) (k2 : fx_Sok S2) (b5 : -2147483648 ≤ v5 ∧ v5 ≤ 2147483647) (p2 : s113 S1 x2 0 3 v5 S2) (c2 : v5 ≠ 0) (v6 : Int) (e6 : v6 = S2.1 67 2) (b6 : -2147483648 ≤ v6 ∧ v6 ≤ 2147483647) (c3 : v6 = 80) : s24 S x1 x2 (-3) S2 := by
  obtain ⟨rfl, p1⟩ := p1
  obtain ⟨rfl, p2⟩ := p2
  unfold s24
  intro hB
  have BS := hB
  have NS := fx_WB_n BS
  have h3 := e3
  first | rw [fx_sub_eq (by omega) (by omega)] at h3 | skip
  have m1 := fx_in01 p1
  have m2 := fx_in01 p2
  refine ⟨rfl, ?_, BS, ?_⟩
  · intro p i hW
    exact rfl
  · exact .inr ⟨by omega, .inl ⟨rfl, by omega, rfl⟩⟩
theorem q24_3 (S : fx_S) (x1 x2 : Int) (hS : fx_Sok S) (g1 : -2147483648 ≤ x1 ∧ x1 ≤ 2147483647) (g2 : -2147483648 ≤ x2 ∧ x2 ≤ 2147483647) (v2 : Int) (e2 : v2 = S.1 67 1) (b2 : -2147483648 ≤ v2 ∧ v2 ≤ 2147483647) (v3 : Int) (e3 : v3 = fx_sub v2 1) (v4 : Int) (S1 : fx_S) (k1 : fx_Sok S1) (b4 : -2147483648 ≤ v4 ∧ v4 ≤ 2147483647) (p1 : s113 S x1 0 v3 v4 S1) (c1 : v4 ≠ 0) (v5 : Int) (S2 : fx_S) (k2 : fx_Sok S2) (b5 : -2147483648 ≤ v5 ∧ v5 ≤ 2147483647) (p2 : s113 S1 x2 0 3 v5 S2) (c2 : v5 = 0) : s24 S x1 x2 (-2) S2 := by
  obtain ⟨rfl, p1⟩ := p1
  obtain ⟨rfl, p2⟩ := p2
  unfold s24
  intro hB
  have BS := hB
  have NS := fx_WB_n BS
  have h3 := e3
  first | rw [fx_sub_eq (by omega) (by omega)] at h3 | skip
  have m1 := fx_in01 p1
  have m2 := fx_in01 p2
  refine ⟨rfl, ?_, BS, ?_⟩
  · intro p i hW
    exact rfl
  · exact .inl ⟨rfl, by omega, rfl⟩
theorem q25_0 (S : fx_S) (x1 : Int) (hS : fx_Sok S) (g1 : -2147483648 ≤ x1 ∧ x1 ≤ 2147483647) (c1 : x1 < 0) : s25 S x1 (-2) S := by
  refine ⟨rfl, ?_, ?_⟩
  · intro p i hW
    clear c1
    exact rfl
  · skip
    intro w hb hd hv hp a
    exact cast (if_neg (by omega)).symm ⟨rfl, hp⟩
theorem q25_1 (S : fx_S) (x1 : Int) (hS : fx_Sok S) (g1 : -2147483648 ≤ x1 ∧ x1 ≤ 2147483647) (c1 : 0 ≤ x1) (c2 : 4 ≤ x1) : s25 S x1 (-2) S := by
  refine ⟨rfl, ?_, ?_⟩
  · intro p i hW
    clear c2 c1
    exact rfl
  · skip
    intro w hb hd hv hp a
    exact cast (if_neg (by omega)).symm ⟨rfl, hp⟩
theorem q25_2 (S : fx_S) (x1 : Int) (hS : fx_Sok S) (g1 : -2147483648 ≤ x1 ∧ x1 ≤ 2147483647) (c1 : 0 ≤ x1) (c2 : x1 < 4) (c3 : 0 ≤ x1) (c4 : x1 < 4) (v1 : Int) (e1 : v1 = S.1 54 x1) (b1 : -2147483648 ≤ v1 ∧ v1 ≤ 2147483647) (c5 : v1 = (-1)) : s25 S x1 (-6) S := by
  refine ⟨rfl, ?_, ?_⟩
  · intro p i hW
    clear c5 b1 e1 c4 c3 c2 c1
    exact rfl
  · skip
    intro w hb hd hv hp a
    exact cast (if_pos (by omega)).symm (cast (if_pos (by omega)).symm ⟨rfl, hp⟩)
theorem q25_3 (S : fx_S) (x1 : Int) (hS : fx_Sok S) (g1 : -2147483648 ≤ x1 ∧ x1 ≤ 2147483647) (c1 : 0 ≤ x1) (c2 : x1 < 4) (c3 : 0 ≤ x1) (c4 : x1 < 4) (v1 : Int) (e1 : v1 = S.1 54 x1) (b1 : -2147483648 ≤ v1 ∧ v1 ≤ 2147483647) (c5 : v1 ≠ (-1)) (z : Int) (Z : fx_S) (kz : fx_Sok Z) (bz : -2147483648 ≤ z ∧ z ≤ 2147483647) (pz : s134 S x1 0 0 z Z) : s25 S x1 z Z := by
  obtain ⟨rZ, fZ, pz⟩ := pz
  refine ⟨rZ, ?_, ?_⟩
  · intro p i hW
    clear c5 b1 e1 c4 c3 c2 c1
    exact (fZ p i (by omega))
  · skip
    intro w hb hd hv hp a
    have u := a (by omega) (by omega)
    exact cast (if_pos (by omega)).symm (cast (if_neg (by omega)).symm (pz w 31 hb hd hv hp (by omega) (by omega) (by omega) (by omega)))
theorem q26_0 (S : fx_S) (x1 : Int) (hS : fx_Sok S) (g1 : -2147483648 ≤ x1 ∧ x1 ≤ 2147483647) (v1 : Int) (S1 : fx_S) (k1 : fx_Sok S1) (b1 : -2147483648 ≤ v1 ∧ v1 ≤ 2147483647) (p1 : s113 S x1 0 3 v1 S1) (c1 : v1 ≠ 0) (c2 : 0 ≤ x1) (c3 : x1 < 4) (v2 : Int) (e2 : v2 = S1.1 87 x1) (b2 : -2147483648 ≤ v2 ∧ v2 ≤ 2147483647) (c4 : v2 ≠ (-1)) (v3 : Int) (e3 : v3 = fx_mul 60 x1) (z : Int) (Z : fx_S) (kz : fx_Sok Z) (bz : -2147483648 ≤ z ∧ z ≤ 2147483647) (pz : s135 S1 x1 0 v3 z Z) : s26 S x1 z Z := by
  obtain ⟨rfl, p1⟩ := p1
  unfold s135 at pz
  unfold s26
  intro hB
  have BS := hB
  have NS := fx_WB_n BS
  have m1 := fx_in01 p1
  have h3 := e3
  first | rw [fx_mul_eq (by omega) (by omega)] at h3 | skip
  obtain ⟨rZ, fZ, BZ, pz⟩ := pz BS
  refine ⟨rZ, ?_, BZ, ?_⟩
  · intro p i hW
    exact (fZ p i (by omega))
  · intro a
    have u := a (by omega) (by omega)
    refine cast (if_pos (by omega)).symm (cast (if_neg (by omega)).symm ?_)
    have q := pz (by omega) (by omega) (by omega) (by omega) 31 (by omega)
    rw [show v3 - 60 * x1 = 0 by omega] at q
    exact q
theorem q26_1 (S : fx_S) (x1 : Int) (hS : fx_Sok S) (g1 : -2147483648 ≤ x1 ∧ x1 ≤ 2147483647) (v1 : Int) (S1 : fx_S) (k1 : fx_Sok S1) (b1 : -2147483648 ≤ v1 ∧ v1 ≤ 2147483647) (p1 : s113 S x1 0 3 v1 S1) (c1 : v1 ≠ 0) (c2 : 0 ≤ x1) (c3 : x1 < 4) (v2 : Int) (e2 : v2 = S1.1 87 x1) (b2 : -2147483648 ≤ v2 ∧ v2 ≤ 2147483647) (c4 : v2 = (-1)) : s26 S x1 (-6) S1 := by
  obtain ⟨rfl, p1⟩ := p1
  unfold s26
  intro hB
  have BS := hB
  have NS := fx_WB_n BS
  have m1 := fx_in01 p1
  refine ⟨rfl, ?_, BS, ?_⟩
  · intro p i hW
    exact rfl
  · intro a
    exact cast (if_pos (by omega)).symm (cast (if_pos (by omega)).symm ⟨rfl, rfl⟩)
theorem q26_2 (S : fx_S) (x1 : Int) (hS : fx_Sok S) (g1 : -2147483648 ≤ x1 ∧ x1 ≤ 2147483647) (v1 : Int) (S1 : fx_S) (k1 : fx_Sok S1) (b1 : -2147483648 ≤ v1 ∧ v1 ≤ 2147483647) (p1 : s113 S x1 0 3 v1 S1) (c1 : v1 = 0) : s26 S x1 (-2) S1 := by
  obtain ⟨rfl, p1⟩ := p1
  unfold s26
  intro hB
  have BS := hB
  have NS := fx_WB_n BS
  have m1 := fx_in01 p1
  refine ⟨rfl, ?_, BS, ?_⟩
  · intro p i hW
    exact rfl
  · intro a
    exact cast (if_neg (by omega)).symm ⟨rfl, rfl⟩
theorem q27_0 (S : fx_S) (x1 : Int) (hS : fx_Sok S) (g1 : -2147483648 ≤ x1 ∧ x1 ≤ 2147483647) (v1 : Int) (S1 : fx_S) (k1 : fx_Sok S1) (b1 : -2147483648 ≤ v1 ∧ v1 ≤ 2147483647) (p1 : s136 S x1 v1 S1) (c1 : v1 ≠ 0) (v2 : Int) (e2 : v2 = S1.1 1 0) (b2 : -2147483648 ≤ v2 ∧ v2 ≤ 2147483647) (c2 : 0 ≤ x1) (c3 : x1 < 80) (S2 : fx_S) (d2 : S2 = (fx_up S1.1 17 x1 v2, S1.2)) : s27 S x1 0 S2 := by
  obtain ⟨rfl, p1⟩ := p1
  refine ⟨(show S2.2 = S.2 by rw [d2]), ?_, ?_⟩
  · intro p i hW
    clear c3 c2 b2 e2 c1 b1
    exact (show S2.1 p i = S.1 p i by rw [d2]; exact if_neg (by omega))
  · skip
    intro h0_
    skip
    have t := p1 h0_
    have m1 : (0 ≤ x1 ∧ x1 < S.1 13 0) ∧ S.1 16 x1 ≤ S.1 1 0 ∧ S.1 1 0 < S.1 17 x1 := by
      by_cases ht : (0 ≤ x1 ∧ x1 < S.1 13 0) ∧ S.1 16 x1 ≤ S.1 1 0 ∧ S.1 1 0 < S.1 17 x1
      · exact ht
      · rw [if_neg ht] at t; exact absurd t c1
    refine cast (if_pos m1).symm ⟨rfl, fun i => ?_⟩
    by_cases hi : i = x1
    all_goals (subst d2; dsimp only [fx_up]; repeat (first | rw [if_pos (by omega)] | rw [if_neg (by omega)]))
    all_goals first | omega | rfl
theorem q27_1 (S : fx_S) (x1 : Int) (hS : fx_Sok S) (g1 : -2147483648 ≤ x1 ∧ x1 ≤ 2147483647) (v1 : Int) (S1 : fx_S) (k1 : fx_Sok S1) (b1 : -2147483648 ≤ v1 ∧ v1 ≤ 2147483647) (p1 : s136 S x1 v1 S1) (c1 : v1 = 0) : s27 S x1 (-2) S1 := by
  obtain ⟨rfl, p1⟩ := p1
  refine ⟨rfl, ?_, ?_⟩
  · intro p i hW
    clear c1 b1
    exact rfl
  · skip
    intro h0_
    skip
    have t := p1 h0_
    refine cast (if_neg (fun ht => ?_)).symm ⟨rfl, rfl⟩
    rw [if_pos ht] at t
    omega
theorem q28_0 (S : fx_S) (x1 : Int) (hS : fx_Sok S) (g1 : -2147483648 ≤ x1 ∧ x1 ≤ 2147483647) (v1 : Int) (e1 : v1 = S.1 67 2) (b1 : -2147483648 ≤ v1 ∧ v1 ≤ 2147483647) (v2 : Int) (e2 : v2 = fx_sub v1 1) (v3 : Int) (S1 : fx_S) (k1 : fx_Sok S1) (b3 : -2147483648 ≤ v3 ∧ v3 ≤ 2147483647) (p1 : s113 S x1 0 v2 v3 S1) (c1 : v3 = 0) : s28 S x1 (-2) S1 := by
  obtain ⟨rfl, p1⟩ := p1
  unfold s28
  intro hB
  have BS := hB
  have NS := fx_WB_n BS
  have h2 := e2
  first | rw [fx_sub_eq (by omega) (by omega)] at h2 | skip
  have m1 := fx_in01 p1
  refine ⟨rfl, ?_, BS, ?_⟩
  · intro p i hW
    exact rfl
  · exact cast (if_neg (by omega)).symm ⟨rfl, rfl⟩
theorem q28_1 (S : fx_S) (x1 : Int) (hS : fx_Sok S) (g1 : -2147483648 ≤ x1 ∧ x1 ≤ 2147483647) (v1 : Int) (e1 : v1 = S.1 67 2) (b1 : -2147483648 ≤ v1 ∧ v1 ≤ 2147483647) (v2 : Int) (e2 : v2 = fx_sub v1 1) (v3 : Int) (S1 : fx_S) (k1 : fx_Sok S1) (b3 : -2147483648 ≤ v3 ∧ v3 ≤ 2147483647) (p1 : s113 S x1 0 v2 v3 S1) (c1 : v3 ≠ 0) (v4 : Int) (e4 : v4 = fx_mul 10 x1) (v5 : Int) (e5 : v5 = fx_add 300 v4) (v6 : Int) (e6 : v6 = fx_add v5 3) (c2 : 0 ≤ v6) (c3 : v6 < 8090) (v7 : Int) (e7 : v7 = S1.1 67 v6) (b7 : -2147483648 ≤ v7 ∧ v7 ≤ 2147483647) (c4 : v7 = (-1)) (v8 : Int) (e8 : v8 = fx_mul 10 x1) (v9 : Int) (e9 : v9 = fx_add 300 v8) (v10 : Int) (e10 : v10 = fx_add v9 3) (v11 : Int) (e11 : v11 = S1.1 67 0) (b11 : -2147483648 ≤ v11 ∧ v11 ≤ 2147483647) (c5 : 0 ≤ v10) (c6 : v10 < 8090) (S2 : fx_S) (d2 : S2 = (fx_up S1.1 67 v10 v11, S1.2)) : s28 S x1 0 S2 := by
  obtain ⟨rfl, p1⟩ := p1
  unfold s28
  intro hB
  have BS := hB
  have NS := fx_WB_n BS
  have h2 := e2
  first | rw [fx_sub_eq (by omega) (by omega)] at h2 | skip
  have m1 := fx_in01 p1
  have h4 := e4
  first | rw [fx_mul_eq (by omega) (by omega)] at h4 | skip
  have h5 := e5
  first | rw [fx_add_eq (by omega) (by omega)] at h5 | skip
  have h6 := e6
  first | rw [fx_add_eq (by omega) (by omega)] at h6 | skip
  obtain rfl : v4 = v8 := by rw [e8, e4]
  obtain rfl : v5 = v9 := by rw [e9, e5]
  obtain rfl : v6 = v10 := by rw [e10, e6]
  have BS2 : fx_WB S2 := by rw [d2]; exact fx_WB_up BS (by omega) (by omega) (by omega) (by omega) (by omega) (by omega) (by omega) (by omega) (by omega) (by omega) (by omega) (fun h => absurd h (by omega))
  refine ⟨(show S2.2 = S.2 by rw [d2]), ?_, BS2, ?_⟩
  · intro p i hW
    exact (show S2.1 p i = S.1 p i by rw [d2]; exact if_neg (by omega))
  · have u4 : S.1 67 (303 + 10 * x1) = v7 := by rw [show (303 : Int) + 10 * x1 = v6 by omega]; exact e7.symm
    refine cast (if_pos (by omega)).symm ⟨by omega, fun i => ?_⟩
    by_cases hi : i = 303 + 10 * x1
    all_goals (subst d2; dsimp only [fx_up]; repeat (first | rw [if_pos (by omega)] | rw [if_neg (by omega)]))
    all_goals first | omega | rfl
theorem q28_2 (S : fx_S) (x1 : Int) (hS : fx_Sok S) (g1 : -2147483648 ≤ x1 ∧ x1 ≤ 2147483647) (v1 : Int) (e1 : v1 = S.1 67 2) (b1 : -2147483648 ≤ v1 ∧ v1 ≤ 2147483647) (v2 : Int) (e2 : v2 = fx_sub v1 1) (v3 : Int) (S1 : fx_S) (k1 : fx_Sok S1) (b3 : -2147483648 ≤ v3 ∧ v3 ≤ 2147483647) (p1 : s113 S x1 0 v2 v3 S1) (c1 : v3 ≠ 0) (v4 : Int) (e4 : v4 = fx_mul 10 x1) (v5 : Int) (e5 : v5 = fx_add 300 v4) (v6 : Int) (e6 : v6 = fx_add v5 3) (c2 : 0 ≤ v6) (c3 : v6 < 8090) (v7 : Int) (e7 : v7 = S1.1 67 v6) (b7 : -2147483648 ≤ v7 ∧ v7 ≤ 2147483647) (c4 : v7 ≠ (-1)) : s28 S x1 (-2) S1 := by
  obtain ⟨rfl, p1⟩ := p1
  unfold s28
  intro hB
  have BS := hB
  have NS := fx_WB_n BS
  have h2 := e2
  first | rw [fx_sub_eq (by omega) (by omega)] at h2 | skip
  have m1 := fx_in01 p1
  have h4 := e4
  first | rw [fx_mul_eq (by omega) (by omega)] at h4 | skip
  have h5 := e5
  first | rw [fx_add_eq (by omega) (by omega)] at h5 | skip
  have h6 := e6
  first | rw [fx_add_eq (by omega) (by omega)] at h6 | skip
  refine ⟨rfl, ?_, BS, ?_⟩
  · intro p i hW
    exact rfl
  · have u4 : S.1 67 (303 + 10 * x1) = v7 := by rw [show (303 : Int) + 10 * x1 = v6 by omega]; exact e7.symm
    exact cast (if_neg (by omega)).symm ⟨rfl, rfl⟩
theorem q29_0 (S : fx_S) (x1 x2 : Int) (hS : fx_Sok S) (g1 : -2147483648 ≤ x1 ∧ x1 ≤ 2147483647) (g2 : -2147483648 ≤ x2 ∧ x2 ≤ 2147483647) (v2 : Int) (e2 : v2 = S.1 13 0) (b2 : -2147483648 ≤ v2 ∧ v2 ≤ 2147483647) (v3 : Int) (e3 : v3 = fx_sub v2 1) (v4 : Int) (S1 : fx_S) (k1 : fx_Sok S1) (b4 : -2147483648 ≤ v4 ∧ v4 ≤ 2147483647) (p1 : s114 S x1 0 v3 v4 S1) (c1 : v4 ≠ 0) (c2 : x2 < 0) : s29 S x1 x2 (-2000000000) S1 := by
  obtain ⟨rfl, p1⟩ := p1
  refine ⟨rfl, ?_⟩
  intro h0_
  have h3 := e3
  first | rw [fx_sub_eq (by omega) (by omega)] at h3 | skip
  have m1 := fx_in01 p1
  have m1 := fx_in01 p1
  repeat (first | rw [if_pos (by omega)] | rw [if_neg (by omega)])
  all_goals first | omega | rfl
theorem q29_1 (S : fx_S) (x1 x2 : Int) (hS : fx_Sok S) (g1 : -2147483648 ≤ x1 ∧ x1 ≤ 2147483647) (g2 : -2147483648 ≤ x2 ∧ x2 ≤ 2147483647) (v2 : Int) (e2 : v2 = S.1 13 0) (b2 : -2147483648 ≤ v2 ∧ v2 ≤ 2147483647) (v3 : Int) (e3 : v3 = fx_sub v2 1) (v4 : Int) (S1 : fx_S) (k1 : fx_Sok S1) (b4 : -2147483648 ≤ v4 ∧ v4 ≤ 2147483647) (p1 : s114 S x1 0 v3 v4 S1) (c1 : v4 ≠ 0) (c2 : 3 < x2) : s29 S x1 x2 (-2000000000) S1 := by
  obtain ⟨rfl, p1⟩ := p1
  refine ⟨rfl, ?_⟩
  intro h0_
  have h3 := e3
  first | rw [fx_sub_eq (by omega) (by omega)] at h3 | skip
  have m1 := fx_in01 p1
  have m1 := fx_in01 p1
  repeat (first | rw [if_pos (by omega)] | rw [if_neg (by omega)])
  all_goals first | omega | rfl
theorem q29_2 (S : fx_S) (x1 x2 : Int) (hS : fx_Sok S) (g1 : -2147483648 ≤ x1 ∧ x1 ≤ 2147483647) (g2 : -2147483648 ≤ x2 ∧ x2 ≤ 2147483647) (v2 : Int) (e2 : v2 = S.1 13 0) (b2 : -2147483648 ≤ v2 ∧ v2 ≤ 2147483647) (v3 : Int) (e3 : v3 = fx_sub v2 1) (v4 : Int) (S1 : fx_S) (k1 : fx_Sok S1) (b4 : -2147483648 ≤ v4 ∧ v4 ≤ 2147483647) (p1 : s114 S x1 0 v3 v4 S1) (c1 : v4 ≠ 0) (c2 : x2 = 0) (c3 : 0 ≤ x1) (c4 : x1 < 80) (v5 : Int) (e5 : v5 = S1.1 14 x1) (b5 : -2147483648 ≤ v5 ∧ v5 ≤ 2147483647) : s29 S x1 x2 v5 S1 := by
  obtain ⟨rfl, p1⟩ := p1
  refine ⟨rfl, ?_⟩
  intro h0_
  have h3 := e3
  first | rw [fx_sub_eq (by omega) (by omega)] at h3 | skip
  have m1 := fx_in01 p1
  have m1 := fx_in01 p1
  repeat (first | rw [if_pos (by omega)] | rw [if_neg (by omega)])
  all_goals first | omega | rfl
theorem q29_3 (S : fx_S) (x1 x2 : Int) (hS : fx_Sok S) (g1 : -2147483648 ≤ x1 ∧ x1 ≤ 2147483647) (g2 : -2147483648 ≤ x2 ∧ x2 ≤ 2147483647) (v2 : Int) (e2 : v2 = S.1 13 0) (b2 : -2147483648 ≤ v2 ∧ v2 ≤ 2147483647) (v3 : Int) (e3 : v3 = fx_sub v2 1) (v4 : Int) (S1 : fx_S) (k1 : fx_Sok S1) (b4 : -2147483648 ≤ v4 ∧ v4 ≤ 2147483647) (p1 : s114 S x1 0 v3 v4 S1) (c1 : v4 ≠ 0) (c2 : x2 = 1) (c3 : 0 ≤ x1) (c4 : x1 < 80) (v5 : Int) (e5 : v5 = S1.1 15 x1) (b5 : -2147483648 ≤ v5 ∧ v5 ≤ 2147483647) : s29 S x1 x2 v5 S1 := by
  obtain ⟨rfl, p1⟩ := p1
  refine ⟨rfl, ?_⟩
  intro h0_
  have h3 := e3
  first | rw [fx_sub_eq (by omega) (by omega)] at h3 | skip
  have m1 := fx_in01 p1
  have m1 := fx_in01 p1
  repeat (first | rw [if_pos (by omega)] | rw [if_neg (by omega)])
  all_goals first | omega | rfl
theorem q29_4 (S : fx_S) (x1 x2 : Int) (hS : fx_Sok S) (g1 : -2147483648 ≤ x1 ∧ x1 ≤ 2147483647) (g2 : -2147483648 ≤ x2 ∧ x2 ≤ 2147483647) (v2 : Int) (e2 : v2 = S.1 13 0) (b2 : -2147483648 ≤ v2 ∧ v2 ≤ 2147483647) (v3 : Int) (e3 : v3 = fx_sub v2 1) (v4 : Int) (S1 : fx_S) (k1 : fx_Sok S1) (b4 : -2147483648 ≤ v4 ∧ v4 ≤ 2147483647) (p1 : s114 S x1 0 v3 v4 S1) (c1 : v4 ≠ 0) (c2 : x2 = 2) (c3 : 0 ≤ x1) (c4 : x1 < 80) (v5 : Int) (e5 : v5 = S1.1 16 x1) (b5 : -2147483648 ≤ v5 ∧ v5 ≤ 2147483647) : s29 S x1 x2 v5 S1 := by
  obtain ⟨rfl, p1⟩ := p1
  refine ⟨rfl, ?_⟩
  intro h0_
  have h3 := e3
  first | rw [fx_sub_eq (by omega) (by omega)] at h3 | skip
  have m1 := fx_in01 p1
  have m1 := fx_in01 p1
  repeat (first | rw [if_pos (by omega)] | rw [if_neg (by omega)])
  all_goals first | omega | rfl
theorem q29_5 (S : fx_S) (x1 x2 : Int) (hS : fx_Sok S) (g1 : -2147483648 ≤ x1 ∧ x1 ≤ 2147483647) (g2 : -2147483648 ≤ x2 ∧ x2 ≤ 2147483647) (v2 : Int) (e2 : v2 = S.1 13 0) (b2 : -2147483648 ≤ v2 ∧ v2 ≤ 2147483647) (v3 : Int) (e3 : v3 = fx_sub v2 1) (v4 : Int) (S1 : fx_S) (k1 : fx_Sok S1) (b4 : -2147483648 ≤ v4 ∧ v4 ≤ 2147483647) (p1 : s114 S x1 0 v3 v4 S1) (c1 : v4 ≠ 0) (c2 : x2 = 3) (c3 : 0 ≤ x1) (c4 : x1 < 80) (v5 : Int) (e5 : v5 = S1.1 17 x1) (b5 : -2147483648 ≤ v5 ∧ v5 ≤ 2147483647) (c5 : v5 ≠ 3600) (c6 : 0 ≤ x1) (c7 : x1 < 80) (v6 : Int) (e6 : v6 = S1.1 17 x1) (b6 : -2147483648 ≤ v6 ∧ v6 ≤ 2147483647) : s29 S x1 x2 v6 S1 := by
  obtain ⟨rfl, p1⟩ := p1
  refine ⟨rfl, ?_⟩
  intro h0_
  have h3 := e3
  first | rw [fx_sub_eq (by omega) (by omega)] at h3 | skip
  have m1 := fx_in01 p1
  obtain rfl : v5 = v6 := by rw [e6, e5]
  have m1 := fx_in01 p1
  repeat (first | rw [if_pos (by omega)] | rw [if_neg (by omega)])
  all_goals first | omega | rfl
theorem q29_6 (S : fx_S) (x1 x2 : Int) (hS : fx_Sok S) (g1 : -2147483648 ≤ x1 ∧ x1 ≤ 2147483647) (g2 : -2147483648 ≤ x2 ∧ x2 ≤ 2147483647) (v2 : Int) (e2 : v2 = S.1 13 0) (b2 : -2147483648 ≤ v2 ∧ v2 ≤ 2147483647) (v3 : Int) (e3 : v3 = fx_sub v2 1) (v4 : Int) (S1 : fx_S) (k1 : fx_Sok S1) (b4 : -2147483648 ≤ v4 ∧ v4 ≤ 2147483647) (p1 : s114 S x1 0 v3 v4 S1) (c1 : v4 ≠ 0) (c2 : x2 = 3) (c3 : 0 ≤ x1) (c4 : x1 < 80) (v5 : Int) (e5 : v5 = S1.1 17 x1) (b5 : -2147483648 ≤ v5 ∧ v5 ≤ 2147483647) (c5 : v5 = 3600) : s29 S x1 x2 (-1) S1 := by
  obtain ⟨rfl, p1⟩ := p1
  refine ⟨rfl, ?_⟩
  intro h0_
  have h3 := e3
  first | rw [fx_sub_eq (by omega) (by omega)] at h3 | skip
  have m1 := fx_in01 p1
  have m1 := fx_in01 p1
  repeat (first | rw [if_pos (by omega)] | rw [if_neg (by omega)])
  all_goals first | omega | rfl
theorem q29_7 (S : fx_S) (x1 x2 : Int) (hS : fx_Sok S) (g1 : -2147483648 ≤ x1 ∧ x1 ≤ 2147483647) (g2 : -2147483648 ≤ x2 ∧ x2 ≤ 2147483647) (v2 : Int) (e2 : v2 = S.1 13 0) (b2 : -2147483648 ≤ v2 ∧ v2 ≤ 2147483647) (v3 : Int) (e3 : v3 = fx_sub v2 1) (v4 : Int) (S1 : fx_S) (k1 : fx_Sok S1) (b4 : -2147483648 ≤ v4 ∧ v4 ≤ 2147483647) (p1 : s114 S x1 0 v3 v4 S1) (c1 : v4 = 0) : s29 S x1 x2 (-2000000000) S1 := by
  obtain ⟨rfl, p1⟩ := p1
  refine ⟨rfl, ?_⟩
  intro h0_
  have h3 := e3
  first | rw [fx_sub_eq (by omega) (by omega)] at h3 | skip
  have m1 := fx_in01 p1
  have m1 := fx_in01 p1
  repeat (first | rw [if_pos (by omega)] | rw [if_neg (by omega)])
  all_goals first | omega | rfl
theorem q30_0 (S : fx_S) (x1 x2 : Int) (hS : fx_Sok S) (g1 : -2147483648 ≤ x1 ∧ x1 ≤ 2147483647) (g2 : -2147483648 ≤ x2 ∧ x2 ≤ 2147483647) (v2 : Int) (e2 : v2 = S.1 67 2) (b2 : -2147483648 ≤ v2 ∧ v2 ≤ 2147483647) (v3 : Int) (e3 : v3 = fx_sub v2 1) (v4 : Int) (S1 : fx_S) (k1 : fx_Sok S1) (b4 : -2147483648 ≤ v4 ∧ v4 ≤ 2147483647) (p1 : s113 S x1 0 v3 v4 S1) (c1 : v4 = 0) : s30 S x1 x2 (-2000000000) S1 := by
  obtain ⟨rfl, p1⟩ := p1
  refine ⟨rfl, ?_⟩
  intro hB
  have N := fx_WB_n hB
  have h3 := e3
  first | rw [fx_sub_eq (by omega) (by omega)] at h3 | skip
  have m1 := fx_in01 p1
  rw [if_neg (by omega)]
theorem q30_1 (S : fx_S) (x1 x2 : Int) (hS : fx_Sok S) (g1 : -2147483648 ≤ x1 ∧ x1 ≤ 2147483647) (g2 : -2147483648 ≤ x2 ∧ x2 ≤ 2147483647) (v2 : Int) (e2 : v2 = S.1 67 2) (b2 : -2147483648 ≤ v2 ∧ v2 ≤ 2147483647) (v3 : Int) (e3 : v3 = fx_sub v2 1) (v4 : Int) (S1 : fx_S) (k1 : fx_Sok S1) (b4 : -2147483648 ≤ v4 ∧ v4 ≤ 2147483647) (p1 : s113 S x1 0 v3 v4 S1) (c1 : v4 ≠ 0) (v5 : Int) (S2 : fx_S) (k2 : fx_Sok S2) (b5 : -2147483648 ≤ v5 ∧ v5 ≤ 2147483647) (p2 : s113 S1 x2 0 3 v5 S2) (c2 : v5 = 0) : s30 S x1 x2 (-2000000000) S2 := by
  obtain ⟨rfl, p1⟩ := p1
  obtain ⟨rfl, p2⟩ := p2
  refine ⟨rfl, ?_⟩
  intro hB
  have N := fx_WB_n hB
  have h3 := e3
  first | rw [fx_sub_eq (by omega) (by omega)] at h3 | skip
  have m1 := fx_in01 p1
  have m2 := fx_in01 p2
  rw [if_neg (by omega)]
theorem q30_2 (S : fx_S) (x1 x2 : Int) (hS : fx_Sok S) (g1 : -2147483648 ≤ x1 ∧ x1 ≤ 2147483647) (g2 : -2147483648 ≤ x2 ∧ x2 ≤ 2147483647) (v2 : Int) (e2 : v2 = S.1 67 2) (b2 : -2147483648 ≤ v2 ∧ v2 ≤ 2147483647) (v3 : Int) (e3 : v3 = fx_sub v2 1) (v4 : Int) (S1 : fx_S) (k1 : fx_Sok S1) (b4 : -2147483648 ≤ v4 ∧ v4 ≤ 2147483647) (p1 : s113 S x1 0 v3 v4 S1) (c1 : v4 ≠ 0) (v5 : Int) (S2 : fx_S) (k2 : fx_Sok S2) (b5 : -2147483648 ≤ v5 ∧ v5 ≤ 2147483647) (p2 : s113 S1 x2 0 3 v5 S2) (c2 : v5 ≠ 0) (v6 : Int) (e6 : v6 = fx_mul 10 x1) (v7 : Int) (e7 : v7 = fx_add 300 v6) (v8 : Int) (e8 : v8 = fx_add v7 x2) (c3 : 0 ≤ v8) (c4 : v8 < 8090) (v9 : Int) (e9 : v9 = S2.1 67 v8) (b9 : -2147483648 ≤ v9 ∧ v9 ≤ 2147483647) : s30 S x1 x2 v9 S2 := by
  obtain ⟨rfl, p1⟩ := p1
  obtain ⟨rfl, p2⟩ := p2
  refine ⟨rfl, ?_⟩
  intro hB
  have N := fx_WB_n hB
  have h3 := e3
  first | rw [fx_sub_eq (by omega) (by omega)] at h3 | skip
  have m1 := fx_in01 p1
  have m2 := fx_in01 p2
  have h6 := e6
  first | rw [fx_mul_eq (by omega) (by omega)] at h6 | skip
  have h7 := e7
  first | rw [fx_add_eq (by omega) (by omega)] at h7 | skip
  have h8 := e8
  first | rw [fx_add_eq (by omega) (by omega)] at h8 | skip
  rw [if_pos (by omega), show 300 + 10 * x1 + x2 = v8 by omega]
  omega
theorem q31_0 (S : fx_S) (x1 x2 : Int) (hS : fx_Sok S) (g1 : -2147483648 ≤ x1 ∧ x1 ≤ 2147483647) (g2 : -2147483648 ≤ x2 ∧ x2 ≤ 2147483647) (v2 : Int) (e2 : v2 = S.1 13 0) (b2 : -2147483648 ≤ v2 ∧ v2 ≤ 2147483647) (v3 : Int) (e3 : v3 = fx_sub v2 1) (v4 : Int) (S1 : fx_S) (k1 : fx_Sok S1) (b4 : -2147483648 ≤ v4 ∧ v4 ≤ 2147483647) (p1 : s114 S x1 0 v3 v4 S1) (c1 : v4 = 0) : s31 S x1 x2 (-2) S1 := by
  obtain ⟨rfl, p1⟩ := p1
  exact rfl
theorem q31_1 (S : fx_S) (x1 x2 : Int) (hS : fx_Sok S) (g1 : -2147483648 ≤ x1 ∧ x1 ≤ 2147483647) (g2 : -2147483648 ≤ x2 ∧ x2 ≤ 2147483647) (v2 : Int) (e2 : v2 = S.1 13 0) (b2 : -2147483648 ≤ v2 ∧ v2 ≤ 2147483647) (v3 : Int) (e3 : v3 = fx_sub v2 1) (v4 : Int) (S1 : fx_S) (k1 : fx_Sok S1) (b4 : -2147483648 ≤ v4 ∧ v4 ≤ 2147483647) (p1 : s114 S x1 0 v3 v4 S1) (c1 : v4 ≠ 0) (v5 : Int) (S2 : fx_S) (k2 : fx_Sok S2) (b5 : -2147483648 ≤ v5 ∧ v5 ≤ 2147483647) (p2 : s114 S1 x2 0 3599 v5 S2) (c2 : v5 ≠ 0) (c3 : 0 ≤ x1) (c4 : x1 < 80) (v6 : Int) (e6 : v6 = S2.1 16 x1) (b6 : -2147483648 ≤ v6 ∧ v6 ≤ 2147483647) (v7 : Int) (S3 : fx_S) (k3 : fx_Sok S3) (b7 : -2147483648 ≤ v7 ∧ v7 ≤ 2147483647) (p3 : s123 S2 v6 x2 v7 S3) (v8 : Int) (S4 : fx_S) (k4 : fx_Sok S4) (b8 : -2147483648 ≤ v8 ∧ v8 ≤ 2147483647) (p4 : s137 S3 v7 x1 x2 v8 S4) : s31 S x1 x2 v8 S4 := by
  obtain ⟨rfl, p1⟩ := p1
  obtain ⟨rfl, p2⟩ := p2
  obtain ⟨rfl, p3⟩ := p3
  obtain rfl : S = S4 := p4
  exact rfl
theorem q31_2 (S : fx_S) (x1 x2 : Int) (hS : fx_Sok S) (g1 : -2147483648 ≤ x1 ∧ x1 ≤ 2147483647) (g2 : -2147483648 ≤ x2 ∧ x2 ≤ 2147483647) (v2 : Int) (e2 : v2 = S.1 13 0) (b2 : -2147483648 ≤ v2 ∧ v2 ≤ 2147483647) (v3 : Int) (e3 : v3 = fx_sub v2 1) (v4 : Int) (S1 : fx_S) (k1 : fx_Sok S1) (b4 : -2147483648 ≤ v4 ∧ v4 ≤ 2147483647) (p1 : s114 S x1 0 v3 v4 S1) (c1 : v4 ≠ 0) (v5 : Int) (S2 : fx_S) (k2 : fx_Sok S2) (b5 : -2147483648 ≤ v5 ∧ v5 ≤ 2147483647) (p2 : s114 S1 x2 0 3599 v5 S2) (c2 : v5 = 0) : s31 S x1 x2 (-2) S2 := by
  obtain ⟨rfl, p1⟩ := p1
  obtain ⟨rfl, p2⟩ := p2
  exact rfl
theorem q32_0 (S : fx_S) (x1 x2 : Int) (hS : fx_Sok S) (g1 : -2147483648 ≤ x1 ∧ x1 ≤ 2147483647) (g2 : -2147483648 ≤ x2 ∧ x2 ≤ 2147483647) (v2 : Int) (e2 : v2 = S.1 67 2) (b2 : -2147483648 ≤ v2 ∧ v2 ≤ 2147483647) (v3 : Int) (e3 : v3 = fx_sub v2 1) (v4 : Int) (S1 : fx_S) (k1 : fx_Sok S1) (b4 : -2147483648 ≤ v4 ∧ v4 ≤ 2147483647) (p1 : s113 S x1 0 v3 v4 S1) (c1 : v4 = 0) : s32 S x1 x2 (-2) S1 := by
  obtain ⟨rfl, p1⟩ := p1
  refine ⟨rfl, ?_⟩
  · intro p i hW
    clear c1 b4 e3 b2 e2
    exact rfl
theorem q32_1 (S : fx_S) (x1 x2 : Int) (hS : fx_Sok S) (g1 : -2147483648 ≤ x1 ∧ x1 ≤ 2147483647) (g2 : -2147483648 ≤ x2 ∧ x2 ≤ 2147483647) (v2 : Int) (e2 : v2 = S.1 67 2) (b2 : -2147483648 ≤ v2 ∧ v2 ≤ 2147483647) (v3 : Int) (e3 : v3 = fx_sub v2 1) (v4 : Int) (S1 : fx_S) (k1 : fx_Sok S1) (b4 : -2147483648 ≤ v4 ∧ v4 ≤ 2147483647) (p1 : s113 S x1 0 v3 v4 S1) (c1 : v4 ≠ 0) (v5 : Int) (S2 : fx_S) (k2 : fx_Sok S2) (b5 : -2147483648 ≤ v5 ∧ v5 ≤ 2147483647) (p2 : s113 S1 x2 0 3599 v5 S2) (c2 : v5 = 0) : s32 S x1 x2 (-2) S2 := by
  obtain ⟨rfl, p1⟩ := p1
  obtain ⟨rfl, p2⟩ := p2
  refine ⟨rfl, ?_⟩
  · intro p i hW
    clear c2 b5 c1 b4 e3 b2 e2
    exact rfl
theorem q32_2 (S : fx_S) (x1 x2 : Int) (hS : fx_Sok S) (g1 : -2147483648 ≤ x1 ∧ x1 ≤ 2147483647) (g2 : -2147483648 ≤ x2 ∧ x2 ≤ 2147483647) (v2 : Int) (e2 : v2 = S.1 67 2) (b2 : -2147483648 ≤ v2 ∧ v2 ≤ 2147483647) (v3 : Int) (e3 : v3 = fx_sub v2 1) (v4 : Int) (S1 : fx_S) (k1 : fx_Sok S1) (b4 : -2147483648 ≤ v4 ∧ v4 ≤ 2147483647) (p1 : s113 S x1 0 v3 v4 S1) (c1 : v4 ≠ 0) (v5 : Int) (S2 : fx_S) (k2 : fx_Sok S2) (b5 : -2147483648 ≤ v5 ∧ v5 ≤ 2147483647) (p2 : s113 S1 x2 0 3599 v5 S2) (c2 : v5 ≠ 0) (v6 : Int) (S3 : fx_S) (k3 : fx_Sok S3) (b6 : -2147483648 ≤ v6 ∧ v6 ≤ 2147483647) (p3 : s138 S2 x1 x2 v6 S3) : s32 S x1 x2 v6 S3 := by
  obtain ⟨rfl, p1⟩ := p1
  obtain ⟨rfl, p2⟩ := p2
  obtain ⟨r3, f3, p3⟩ := p3
  refine ⟨r3, ?_⟩
  · intro p i hW
    clear b6 c2 b5 c1 b4 e3 b2 e2
    exact (f3 p i (by omega))
theorem q33_0 (S : fx_S) (x1 x2 x3 : Int) (hS : fx_Sok S) (g1 : -2147483648 ≤ x1 ∧ x1 ≤ 2147483647) (g2 : -2147483648 ≤ x2 ∧ x2 ≤ 2147483647) (g3 : -2147483648 ≤ x3 ∧ x3 ≤ 2147483647) (c1 : x1 = (-1)) (v3 : Int) (S1 : fx_S) (k1 : fx_Sok S1) (b3 : -2147483648 ≤ v3 ∧ v3 ≤ 2147483647) (p1 : s114 S x2 0 3599 v3 S1) (c2 : v3 = 0) : s33 S x1 x2 x3 (-2) S1 := by
  obtain ⟨rfl, p1⟩ := p1
  exact rfl
theorem q33_1 (S : fx_S) (x1 x2 x3 : Int) (hS : fx_Sok S) (g1 : -2147483648 ≤ x1 ∧ x1 ≤ 2147483647) (g2 : -2147483648 ≤ x2 ∧ x2 ≤ 2147483647) (g3 : -2147483648 ≤ x3 ∧ x3 ≤ 2147483647) (c1 : x1 = (-1)) (v3 : Int) (S1 : fx_S) (k1 : fx_Sok S1) (b3 : -2147483648 ≤ v3 ∧ v3 ≤ 2147483647) (p1 : s114 S x2 0 3599 v3 S1) (c2 : v3 ≠ 0) (v4 : Int) (S2 : fx_S) (k2 : fx_Sok S2) (b4 : -2147483648 ≤ v4 ∧ v4 ≤ 2147483647) (p2 : s114 S1 x3 0 3599 v4 S2) (c3 : v4 ≠ 0) (z : Int) (Z : fx_S) (kz : fx_Sok Z) (bz : -2147483648 ≤ z ∧ z ≤ 2147483647) (pz : s139 S2 x1 x2 x3 0 0 z Z) : s33 S x1 x2 x3 z Z := by
  obtain ⟨rfl, p1⟩ := p1
  obtain ⟨rfl, p2⟩ := p2
  obtain rfl : S = Z := pz
  exact rfl
theorem q33_2 (S : fx_S) (x1 x2 x3 : Int) (hS : fx_Sok S) (g1 : -2147483648 ≤ x1 ∧ x1 ≤ 2147483647) (g2 : -2147483648 ≤ x2 ∧ x2 ≤ 2147483647) (g3 : -2147483648 ≤ x3 ∧ x3 ≤ 2147483647) (c1 : x1 = (-1)) (v3 : Int) (S1 : fx_S) (k1 : fx_Sok S1) (b3 : -2147483648 ≤ v3 ∧ v3 ≤ 2147483647) (p1 : s114 S x2 0 3599 v3 S1) (c2 : v3 ≠ 0) (v4 : Int) (S2 : fx_S) (k2 : fx_Sok S2) (b4 : -2147483648 ≤ v4 ∧ v4 ≤ 2147483647) (p2 : s114 S1 x3 0 3599 v4 S2) (c3 : v4 = 0) : s33 S x1 x2 x3 (-2) S2 := by
  obtain ⟨rfl, p1⟩ := p1
  obtain ⟨rfl, p2⟩ := p2
  exact rfl
theorem q33_3 (S : fx_S) (x1 x2 x3 : Int) (hS : fx_Sok S) (g1 : -2147483648 ≤ x1 ∧ x1 ≤ 2147483647) (g2 : -2147483648 ≤ x2 ∧ x2 ≤ 2147483647) (g3 : -2147483648 ≤ x3 ∧ x3 ≤ 2147483647) (c1 : x1 ≠ (-1)) (v3 : Int) (S1 : fx_S) (k1 : fx_Sok S1) (b3 : -2147483648 ≤ v3 ∧ v3 ≤ 2147483647) (p1 : s114 S x1 0 3 v3 S1) (c2 : v3 = 0) : s33 S x1 x2 x3 (-2) S1 := by
  obtain ⟨rfl, p1⟩ := p1
  exact rfl
theorem q33_4 (S : fx_S) (x1 x2 x3 : Int) (hS : fx_Sok S) (g1 : -2147483648 ≤ x1 ∧ x1 ≤ 2147483647) (g2 : -2147483648 ≤ x2 ∧ x2 ≤ 2147483647) (g3 : -2147483648 ≤ x3 ∧ x3 ≤ 2147483647) (c1 : x1 ≠ (-1)) (v3 : Int) (S1 : fx_S) (k1 : fx_Sok S1) (b3 : -2147483648 ≤ v3 ∧ v3 ≤ 2147483647) (p1 : s114 S x1 0 3 v3 S1) (c2 : v3 ≠ 0) (v4 : Int) (S2 : fx_S) (k2 : fx_Sok S2) (b4 : -2147483648 ≤ v4 ∧ v4 ≤ 2147483647) (p2 : s114 S1 x2 0 3599 v4 S2) (c3 : v4 = 0) : s33 S x1 x2 x3 (-2) S2 := by
  obtain ⟨rfl, p1⟩ := p1
  obtain ⟨rfl, p2⟩ := p2
  exact rfl
theorem q33_5 (S : fx_S) (x1 x2 x3 : Int) (hS : fx_Sok S) (g1 : -2147483648 ≤ x1 ∧ x1 ≤ 2147483647) (g2 : -2147483648 ≤ x2 ∧ x2 ≤ 2147483647) (g3 : -2147483648 ≤ x3 ∧ x3 ≤ 2147483647) (c1 : x1 ≠ (-1)) (v3 : Int) (S1 : fx_S) (k1 : fx_Sok S1) (b3 : -2147483648 ≤ v3 ∧ v3 ≤ 2147483647) (p1 : s114 S x1 0 3 v3 S1) (c2 : v3 ≠ 0) (v4 : Int) (S2 : fx_S) (k2 : fx_Sok S2) (b4 : -2147483648 ≤ v4 ∧ v4 ≤ 2147483647) (p2 : s114 S1 x2 0 3599 v4 S2) (c3 : v4 ≠ 0) (v5 : Int) (S3 : fx_S) (k3 : fx_Sok S3) (b5 : -2147483648 ≤ v5 ∧ v5 ≤ 2147483647) (p3 : s114 S2 x3 0 3599 v5 S3) (c4 : v5 ≠ 0) (z : Int) (Z : fx_S) (kz : fx_Sok Z) (bz : -2147483648 ≤ z ∧ z ≤ 2147483647) (pz : s139 S3 x1 x2 x3 0 0 z Z) : s33 S x1 x2 x3 z Z := by
  obtain ⟨rfl, p1⟩ := p1
  obtain ⟨rfl, p2⟩ := p2
  obtain ⟨rfl, p3⟩ := p3
  obtain rfl : S = Z := pz
  exact rfl
