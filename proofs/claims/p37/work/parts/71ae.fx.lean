/-! FX: what is to be shown of the entries -/
theorem q33_6 (S : fx_S) (x1 x2 x3 : Int) (hS : fx_Sok S) (g1 : -2147483648 ≤ x1 ∧ x1 ≤ 2147483647) (g2 : -2147483648 ≤ x2 ∧ x2 ≤ 2147483647) (g3 : -2147483648 ≤ x3 ∧ x3 ≤ 2147483647) (c1 : x1 ≠ (-1)) (v3 : Int) (S1 : fx_S) (k1 : fx_Sok S1) (b3 : -2147483648 ≤ v3 ∧ v3 ≤ 2147483647) (p1 : s114 S x1 0 3 v3 S1) (c2 : v3 ≠ 0) (v4 : Int) (S2 : fx_S) (k2 : fx_Sok S2) (b4 : -2147483648 ≤ v4 ∧ v4 ≤ 2147483647) (p2 : s114 S1 x2 0 3599 v4 S2) (c3 : v4 ≠ 0) (v5 : Int) (S3 : fx_S) (k3 : fx_Sok S3) (b5 : -2147483648 ≤ v5 ∧ v5 ≤ 2147483647) (p3 : s114 S2 x3 0 3599 v5 S3) (c4 : v5 = 0) : s33 S x1 x2 x3 (-2) S3 := by
  obtain ⟨rfl, p1⟩ := p1
  obtain ⟨rfl, p2⟩ := p2
  obtain ⟨rfl, p3⟩ := p3
  exact rfl
theorem q34_0 (S : fx_S) (x1 x2 x3 : Int) (hS : fx_Sok S) (g1 : -2147483648 ≤ x1 ∧ x1 ≤ 2147483647) (g2 : -2147483648 ≤ x2 ∧ x2 ≤ 2147483647) (g3 : -2147483648 ≤ x3 ∧ x3 ≤ 2147483647) (v3 : Int) (S1 : fx_S) (k1 : fx_Sok S1) (b3 : -2147483648 ≤ v3 ∧ v3 ≤ 2147483647) (p1 : s113 S x1 (-1) 3 v3 S1) (c1 : v3 = 0) : s34 S x1 x2 x3 (-2) S1 := by
  obtain ⟨rfl, p1⟩ := p1
  refine ⟨rfl, ?_⟩
  · intro p i hW
    clear c1 b3
    exact rfl
theorem q34_1 (S : fx_S) (x1 x2 x3 : Int) (hS : fx_Sok S) (g1 : -2147483648 ≤ x1 ∧ x1 ≤ 2147483647) (g2 : -2147483648 ≤ x2 ∧ x2 ≤ 2147483647) (g3 : -2147483648 ≤ x3 ∧ x3 ≤ 2147483647) (v3 : Int) (S1 : fx_S) (k1 : fx_Sok S1) (b3 : -2147483648 ≤ v3 ∧ v3 ≤ 2147483647) (p1 : s113 S x1 (-1) 3 v3 S1) (c1 : v3 ≠ 0) (v4 : Int) (S2 : fx_S) (k2 : fx_Sok S2) (b4 : -2147483648 ≤ v4 ∧ v4 ≤ 2147483647) (p2 : s113 S1 x2 0 3599 v4 S2) (c2 : v4 = 0) : s34 S x1 x2 x3 (-2) S2 := by
  obtain ⟨rfl, p1⟩ := p1
  obtain ⟨rfl, p2⟩ := p2
  refine ⟨rfl, ?_⟩
  · intro p i hW
    clear c2 b4 c1 b3
    exact rfl
theorem q34_2 (S : fx_S) (x1 x2 x3 : Int) (hS : fx_Sok S) (g1 : -2147483648 ≤ x1 ∧ x1 ≤ 2147483647) (g2 : -2147483648 ≤ x2 ∧ x2 ≤ 2147483647) (g3 : -2147483648 ≤ x3 ∧ x3 ≤ 2147483647) (v3 : Int) (S1 : fx_S) (k1 : fx_Sok S1) (b3 : -2147483648 ≤ v3 ∧ v3 ≤ 2147483647) (p1 : s113 S x1 (-1) 3 v3 S1) (c1 : v3 ≠ 0) (v4 : Int) (S2 : fx_S) (k2 : fx_Sok S2) (b4 : -2147483648 ≤ v4 ∧ v4 ≤ 2147483647) (p2 : s113 S1 x2 0 3599 v4 S2) (c2 : v4 ≠ 0) (v5 : Int) (S3 : fx_S) (k3 : fx_Sok S3) (b5 : -2147483648 ≤ v5 ∧ v5 ≤ 2147483647) (p3 : s113 S2 x3 0 3599 v5 S3) (c3 : v5 ≠ 0) (z : Int) (Z : fx_S) (kz : fx_Sok Z) (bz : -2147483648 ≤ z ∧ z ≤ 2147483647) (pz : s140 S3 x1 x2 x3 0 0 z Z) : s34 S x1 x2 x3 z Z := by
  obtain ⟨rfl, p1⟩ := p1
  obtain ⟨rfl, p2⟩ := p2
  obtain ⟨rfl, p3⟩ := p3
  obtain ⟨rZ, fZ⟩ := pz
  refine ⟨rZ, ?_⟩
  · intro p i hW
    clear c3 b5 c2 b4 c1 b3
    exact (fZ p i (by omega))
theorem q34_3 (S : fx_S) (x1 x2 x3 : Int) (hS : fx_Sok S) (g1 : -2147483648 ≤ x1 ∧ x1 ≤ 2147483647) (g2 : -2147483648 ≤ x2 ∧ x2 ≤ 2147483647) (g3 : -2147483648 ≤ x3 ∧ x3 ≤ 2147483647) (v3 : Int) (S1 : fx_S) (k1 : fx_Sok S1) (b3 : -2147483648 ≤ v3 ∧ v3 ≤ 2147483647) (p1 : s113 S x1 (-1) 3 v3 S1) (c1 : v3 ≠ 0) (v4 : Int) (S2 : fx_S) (k2 : fx_Sok S2) (b4 : -2147483648 ≤ v4 ∧ v4 ≤ 2147483647) (p2 : s113 S1 x2 0 3599 v4 S2) (c2 : v4 ≠ 0) (v5 : Int) (S3 : fx_S) (k3 : fx_Sok S3) (b5 : -2147483648 ≤ v5 ∧ v5 ≤ 2147483647) (p3 : s113 S2 x3 0 3599 v5 S3) (c3 : v5 = 0) : s34 S x1 x2 x3 (-2) S3 := by
  obtain ⟨rfl, p1⟩ := p1
  obtain ⟨rfl, p2⟩ := p2
  obtain ⟨rfl, p3⟩ := p3
  refine ⟨rfl, ?_⟩
  · intro p i hW
    clear c3 b5 c2 b4 c1 b3
    exact rfl
theorem q35_0 (S : fx_S) (x1 x2 x3 : Int) (hS : fx_Sok S) (g1 : -2147483648 ≤ x1 ∧ x1 ≤ 2147483647) (g2 : -2147483648 ≤ x2 ∧ x2 ≤ 2147483647) (g3 : -2147483648 ≤ x3 ∧ x3 ≤ 2147483647) (v3 : Int) (S1 : fx_S) (k1 : fx_Sok S1) (b3 : -2147483648 ≤ v3 ∧ v3 ≤ 2147483647) (p1 : s114 S x1 0 3 v3 S1) (c1 : v3 = 0) : s35 S x1 x2 x3 (-2) S1 := by
  obtain ⟨rfl, p1⟩ := p1
  exact rfl
theorem q35_1 (S : fx_S) (x1 x2 x3 : Int) (hS : fx_Sok S) (g1 : -2147483648 ≤ x1 ∧ x1 ≤ 2147483647) (g2 : -2147483648 ≤ x2 ∧ x2 ≤ 2147483647) (g3 : -2147483648 ≤ x3 ∧ x3 ≤ 2147483647) (v3 : Int) (S1 : fx_S) (k1 : fx_Sok S1) (b3 : -2147483648 ≤ v3 ∧ v3 ≤ 2147483647) (p1 : s114 S x1 0 3 v3 S1) (c1 : v3 ≠ 0) (v4 : Int) (e4 : v4 = S1.1 2 8) (b4 : -2147483648 ≤ v4 ∧ v4 ≤ 2147483647) (v5 : Int) (e5 : v5 = fx_sub v4 1) (v6 : Int) (S2 : fx_S) (k2 : fx_Sok S2) (b6 : -2147483648 ≤ v6 ∧ v6 ≤ 2147483647) (p2 : s114 S1 x2 0 v5 v6 S2) (c2 : v6 = 0) : s35 S x1 x2 x3 (-2) S2 := by
  obtain ⟨rfl, p1⟩ := p1
  obtain ⟨rfl, p2⟩ := p2
  exact rfl
theorem q35_2 (S : fx_S) (x1 x2 x3 : Int) (hS : fx_Sok S) (g1 : -2147483648 ≤ x1 ∧ x1 ≤ 2147483647) (g2 : -2147483648 ≤ x2 ∧ x2 ≤ 2147483647) (g3 : -2147483648 ≤ x3 ∧ x3 ≤ 2147483647) (v3 : Int) (S1 : fx_S) (k1 : fx_Sok S1) (b3 : -2147483648 ≤ v3 ∧ v3 ≤ 2147483647) (p1 : s114 S x1 0 3 v3 S1) (c1 : v3 ≠ 0) (v4 : Int) (e4 : v4 = S1.1 2 8) (b4 : -2147483648 ≤ v4 ∧ v4 ≤ 2147483647) (v5 : Int) (e5 : v5 = fx_sub v4 1) (v6 : Int) (S2 : fx_S) (k2 : fx_Sok S2) (b6 : -2147483648 ≤ v6 ∧ v6 ≤ 2147483647) (p2 : s114 S1 x2 0 v5 v6 S2) (c2 : v6 ≠ 0) (v7 : Int) (S3 : fx_S) (k3 : fx_Sok S3) (b7 : -2147483648 ≤ v7 ∧ v7 ≤ 2147483647) (p3 : s114 S2 x3 0 3599 v7 S3) (c3 : v7 ≠ 0) (z : Int) (Z : fx_S) (kz : fx_Sok Z) (bz : -2147483648 ≤ z ∧ z ≤ 2147483647) (pz : s141 S3 x1 x2 x3 0 0 z Z) : s35 S x1 x2 x3 z Z := by
  obtain ⟨rfl, p1⟩ := p1
  obtain ⟨rfl, p2⟩ := p2
  obtain ⟨rfl, p3⟩ := p3
  obtain rfl : S = Z := pz
  exact rfl
theorem q35_3 (S : fx_S) (x1 x2 x3 : Int) (hS : fx_Sok S) (g1 : -2147483648 ≤ x1 ∧ x1 ≤ 2147483647) (g2 : -2147483648 ≤ x2 ∧ x2 ≤ 2147483647) (g3 : -2147483648 ≤ x3 ∧ x3 ≤ 2147483647) (v3 : Int) (S1 : fx_S) (k1 : fx_Sok S1) (b3 : -2147483648 ≤ v3 ∧ v3 ≤ 2147483647) (p1 : s114 S x1 0 3 v3 S1) (c1 : v3 ≠ 0) (v4 : Int) (e4 : v4 = S1.1 2 8) (b4 : -2147483648 ≤ v4 ∧ v4 ≤ 2147483647) (v5 : Int) (e5 : v5 = fx_sub v4 1) (v6 : Int) (S2 : fx_S) (k2 : fx_Sok S2) (b6 : -2147483648 ≤ v6 ∧ v6 ≤ 2147483647) (p2 : s114 S1 x2 0 v5 v6 S2) (c2 : v6 ≠ 0) (v7 : Int) (S3 : fx_S) (k3 : fx_Sok S3) (b7 : -2147483648 ≤ v7 ∧ v7 ≤ 2147483647) (p3 : s114 S2 x3 0 3599 v7 S3) (c3 : v7 = 0) : s35 S x1 x2 x3 (-2) S3 := by
  obtain ⟨rfl, p1⟩ := p1
  obtain ⟨rfl, p2⟩ := p2
  obtain ⟨rfl, p3⟩ := p3
  exact rfl
theorem q36_0 (S : fx_S) (x1 x2 x3 : Int) (hS : fx_Sok S) (g1 : -2147483648 ≤ x1 ∧ x1 ≤ 2147483647) (g2 : -2147483648 ≤ x2 ∧ x2 ≤ 2147483647) (g3 : -2147483648 ≤ x3 ∧ x3 ≤ 2147483647) (v3 : Int) (S1 : fx_S) (k1 : fx_Sok S1) (b3 : -2147483648 ≤ v3 ∧ v3 ≤ 2147483647) (p1 : s113 S x1 (-1) 3 v3 S1) (c1 : v3 = 0) : s36 S x1 x2 x3 (-2) S1 := by
  obtain ⟨rfl, p1⟩ := p1
  refine ⟨rfl, ?_⟩
  · intro p i hW
    clear c1 b3
    exact rfl
theorem q36_1 (S : fx_S) (x1 x2 x3 : Int) (hS : fx_Sok S) (g1 : -2147483648 ≤ x1 ∧ x1 ≤ 2147483647) (g2 : -2147483648 ≤ x2 ∧ x2 ≤ 2147483647) (g3 : -2147483648 ≤ x3 ∧ x3 ≤ 2147483647) (v3 : Int) (S1 : fx_S) (k1 : fx_Sok S1) (b3 : -2147483648 ≤ v3 ∧ v3 ≤ 2147483647) (p1 : s113 S x1 (-1) 3 v3 S1) (c1 : v3 ≠ 0) (v4 : Int) (e4 : v4 = S1.1 67 3) (b4 : -2147483648 ≤ v4 ∧ v4 ≤ 2147483647) (v5 : Int) (e5 : v5 = fx_sub v4 1) (v6 : Int) (S2 : fx_S) (k2 : fx_Sok S2) (b6 : -2147483648 ≤ v6 ∧ v6 ≤ 2147483647) (p2 : s113 S1 x2 0 v5 v6 S2) (c2 : v6 = 0) : s36 S x1 x2 x3 (-2) S2 := by
  obtain ⟨rfl, p1⟩ := p1
  obtain ⟨rfl, p2⟩ := p2
  refine ⟨rfl, ?_⟩
  · intro p i hW
    clear c2 b6 e5 b4 e4 c1 b3
    exact rfl
theorem q36_2 (S : fx_S) (x1 x2 x3 : Int) (hS : fx_Sok S) (g1 : -2147483648 ≤ x1 ∧ x1 ≤ 2147483647) (g2 : -2147483648 ≤ x2 ∧ x2 ≤ 2147483647) (g3 : -2147483648 ≤ x3 ∧ x3 ≤ 2147483647) (v3 : Int) (S1 : fx_S) (k1 : fx_Sok S1) (b3 : -2147483648 ≤ v3 ∧ v3 ≤ 2147483647) (p1 : s113 S x1 (-1) 3 v3 S1) (c1 : v3 ≠ 0) (v4 : Int) (e4 : v4 = S1.1 67 3) (b4 : -2147483648 ≤ v4 ∧ v4 ≤ 2147483647) (v5 : Int) (e5 : v5 = fx_sub v4 1) (v6 : Int) (S2 : fx_S) (k2 : fx_Sok S2) (b6 : -2147483648 ≤ v6 ∧ v6 ≤ 2147483647) (p2 : s113 S1 x2 0 v5 v6 S2) (c2 : v6 ≠ 0) (v7 : Int) (S3 : fx_S) (k3 : fx_Sok S3) (b7 : -2147483648 ≤ v7 ∧ v7 ≤ 2147483647) (p3 : s113 S2 x3 0 3599 v7 S3) (c3 : v7 ≠ 0) (z : Int) (Z : fx_S) (kz : fx_Sok Z) (bz : -2147483648 ≤ z ∧ z ≤ 2147483647) (pz : s142 S3 x1 x2 x3 0 0 z Z) : s36 S x1 x2 x3 z Z := by
  obtain ⟨rfl, p1⟩ := p1
  obtain ⟨rfl, p2⟩ := p2
  obtain ⟨rfl, p3⟩ := p3
  obtain ⟨rZ, fZ⟩ := pz
  refine ⟨rZ, ?_⟩
  · intro p i hW
    clear c3 b7 c2 b6 e5 b4 e4 c1 b3
    exact (fZ p i (by omega))
theorem q36_3 (S : fx_S) (x1 x2 x3 : Int) (hS : fx_Sok S) (g1 : -2147483648 ≤ x1 ∧ x1 ≤ 2147483647) (g2 : -2147483648 ≤ x2 ∧ x2 ≤ 2147483647) (g3 : -2147483648 ≤ x3 ∧ x3 ≤ 2147483647) (v3 : Int) (S1 : fx_S) (k1 : fx_Sok S1) (b3 : -2147483648 ≤ v3 ∧ v3 ≤ 2147483647) (p1 : s113 S x1 (-1) 3 v3 S1) (c1 : v3 ≠ 0) (v4 : Int) (e4 : v4 = S1.1 67 3) (b4 : -2147483648 ≤ v4 ∧ v4 ≤ 2147483647) (v5 : Int) (e5 : v5 = fx_sub v4 1) (v6 : Int) (S2 : fx_S) (k2 : fx_Sok S2) (b6 : -2147483648 ≤ v6 ∧ v6 ≤ 2147483647) (p2 : s113 S1 x2 0 v5 v6 S2) (c2 : v6 ≠ 0) (v7 : Int) (S3 : fx_S) (k3 : fx_Sok S3) (b7 : -2147483648 ≤ v7 ∧ v7 ≤ 2147483647) (p3 : s113 S2 x3 0 3599 v7 S3) (c3 : v7 = 0) : s36 S x1 x2 x3 (-2) S3 := by
  obtain ⟨rfl, p1⟩ := p1
  obtain ⟨rfl, p2⟩ := p2
  obtain ⟨rfl, p3⟩ := p3
  refine ⟨rfl, ?_⟩
  · intro p i hW
    clear c3 b7 c2 b6 e5 b4 e4 c1 b3
    exact rfl
theorem q37_0 (S : fx_S) (x1 x2 x3 : Int) (hS : fx_Sok S) (g1 : -2147483648 ≤ x1 ∧ x1 ≤ 2147483647) (g2 : -2147483648 ≤ x2 ∧ x2 ≤ 2147483647) (g3 : -2147483648 ≤ x3 ∧ x3 ≤ 2147483647) (v3 : Int) (e3 : v3 = S.1 13 0) (b3 : -2147483648 ≤ v3 ∧ v3 ≤ 2147483647) (v4 : Int) (e4 : v4 = fx_sub v3 1) (v5 : Int) (S1 : fx_S) (k1 : fx_Sok S1) (b5 : -2147483648 ≤ v5 ∧ v5 ≤ 2147483647) (p1 : s114 S x1 0 v4 v5 S1) (c1 : v5 = 0) : s37 S x1 x2 x3 (-2) S1 := by
  obtain ⟨rfl, p1⟩ := p1
  exact rfl
theorem q37_1 (S : fx_S) (x1 x2 x3 : Int) (hS : fx_Sok S) (g1 : -2147483648 ≤ x1 ∧ x1 ≤ 2147483647) (g2 : -2147483648 ≤ x2 ∧ x2 ≤ 2147483647) (g3 : -2147483648 ≤ x3 ∧ x3 ≤ 2147483647) (v3 : Int) (e3 : v3 = S.1 13 0) (b3 : -2147483648 ≤ v3 ∧ v3 ≤ 2147483647) (v4 : Int) (e4 : v4 = fx_sub v3 1) (v5 : Int) (S1 : fx_S) (k1 : fx_Sok S1) (b5 : -2147483648 ≤ v5 ∧ v5 ≤ 2147483647) (p1 : s114 S x1 0 v4 v5 S1) (c1 : v5 ≠ 0) (v6 : Int) (S2 : fx_S) (k2 : fx_Sok S2) (b6 : -2147483648 ≤ v6 ∧ v6 ≤ 2147483647) (p2 : s114 S1 x2 0 3599 v6 S2) (c2 : v6 = 0) : s37 S x1 x2 x3 (-2) S2 := by
  obtain ⟨rfl, p1⟩ := p1
  obtain ⟨rfl, p2⟩ := p2
  exact rfl
theorem q37_2 (S : fx_S) (x1 x2 x3 : Int) (hS : fx_Sok S) (g1 : -2147483648 ≤ x1 ∧ x1 ≤ 2147483647) (g2 : -2147483648 ≤ x2 ∧ x2 ≤ 2147483647) (g3 : -2147483648 ≤ x3 ∧ x3 ≤ 2147483647) (v3 : Int) (e3 : v3 = S.1 13 0) (b3 : -2147483648 ≤ v3 ∧ v3 ≤ 2147483647) (v4 : Int) (e4 : v4 = fx_sub v3 1) (v5 : Int) (S1 : fx_S) (k1 : fx_Sok S1) (b5 : -2147483648 ≤ v5 ∧ v5 ≤ 2147483647) (p1 : s114 S x1 0 v4 v5 S1) (c1 : v5 ≠ 0) (v6 : Int) (S2 : fx_S) (k2 : fx_Sok S2) (b6 : -2147483648 ≤ v6 ∧ v6 ≤ 2147483647) (p2 : s114 S1 x2 0 3599 v6 S2) (c2 : v6 ≠ 0) (v7 : Int) (S3 : fx_S) (k3 : fx_Sok S3) (b7 : -2147483648 ≤ v7 ∧ v7 ≤ 2147483647) (p3 : s114 S2 x3 0 3599 v7 S3) (c3 : v7 ≠ 0) (v8 : Int) (S4 : fx_S) (k4 : fx_Sok S4) (b8 : -2147483648 ≤ v8 ∧ v8 ≤ 2147483647) (p4 : s143 S3 x1 x2 x3 v8 S4) : s37 S x1 x2 x3 v8 S4 := by
  obtain ⟨rfl, p1⟩ := p1
  obtain ⟨rfl, p2⟩ := p2
  obtain ⟨rfl, p3⟩ := p3
  obtain rfl : S = S4 := p4
  exact rfl
theorem q37_3 (S : fx_S) (x1 x2 x3 : Int) (hS : fx_Sok S) (g1 : -2147483648 ≤ x1 ∧ x1 ≤ 2147483647) (g2 : -2147483648 ≤ x2 ∧ x2 ≤ 2147483647) (g3 : -2147483648 ≤ x3 ∧ x3 ≤ 2147483647) (v3 : Int) (e3 : v3 = S.1 13 0) (b3 : -2147483648 ≤ v3 ∧ v3 ≤ 2147483647) (v4 : Int) (e4 : v4 = fx_sub v3 1) (v5 : Int) (S1 : fx_S) (k1 : fx_Sok S1) (b5 : -2147483648 ≤ v5 ∧ v5 ≤ 2147483647) (p1 : s114 S x1 0 v4 v5 S1) (c1 : v5 ≠ 0) (v6 : Int) (S2 : fx_S) (k2 : fx_Sok S2) (b6 : -2147483648 ≤ v6 ∧ v6 ≤ 2147483647) (p2 : s114 S1 x2 0 3599 v6 S2) (c2 : v6 ≠ 0) (v7 : Int) (S3 : fx_S) (k3 : fx_Sok S3) (b7 : -2147483648 ≤ v7 ∧ v7 ≤ 2147483647) (p3 : s114 S2 x3 0 3599 v7 S3) (c3 : v7 = 0) : s37 S x1 x2 x3 (-2) S3 := by
  obtain ⟨rfl, p1⟩ := p1
  obtain ⟨rfl, p2⟩ := p2
  obtain ⟨rfl, p3⟩ := p3
  exact rfl
theorem q38_0 (S : fx_S) (x1 x2 x3 : Int) (hS : fx_Sok S) (g1 : -2147483648 ≤ x1 ∧ x1 ≤ 2147483647) (g2 : -2147483648 ≤ x2 ∧ x2 ≤ 2147483647) (g3 : -2147483648 ≤ x3 ∧ x3 ≤ 2147483647) (v3 : Int) (e3 : v3 = S.1 67 2) (b3 : -2147483648 ≤ v3 ∧ v3 ≤ 2147483647) (v4 : Int) (e4 : v4 = fx_sub v3 1) (v5 : Int) (S1 : fx_S) (k1 : fx_Sok S1) (b5 : -2147483648 ≤ v5 ∧ v5 ≤ 2147483647) (p1 : s113 S x1 0 v4 v5 S1) (c1 : v5 = 0) : s38 S x1 x2 x3 (-2) S1 := by
  obtain ⟨rfl, p1⟩ := p1
  exact rfl
theorem q38_1 (S : fx_S) (x1 x2 x3 : Int) (hS : fx_Sok S) (g1 : -2147483648 ≤ x1 ∧ x1 ≤ 2147483647) (g2 : -2147483648 ≤ x2 ∧ x2 ≤ 2147483647) (g3 : -2147483648 ≤ x3 ∧ x3 ≤ 2147483647) (v3 : Int) (e3 : v3 = S.1 67 2) (b3 : -2147483648 ≤ v3 ∧ v3 ≤ 2147483647) (v4 : Int) (e4 : v4 = fx_sub v3 1) (v5 : Int) (S1 : fx_S) (k1 : fx_Sok S1) (b5 : -2147483648 ≤ v5 ∧ v5 ≤ 2147483647) (p1 : s113 S x1 0 v4 v5 S1) (c1 : v5 ≠ 0) (v6 : Int) (S2 : fx_S) (k2 : fx_Sok S2) (b6 : -2147483648 ≤ v6 ∧ v6 ≤ 2147483647) (p2 : s113 S1 x2 0 3599 v6 S2) (c2 : v6 = 0) : s38 S x1 x2 x3 (-2) S2 := by
  obtain ⟨rfl, p1⟩ := p1
  obtain ⟨rfl, p2⟩ := p2
  exact rfl
theorem q38_2 (S : fx_S) (x1 x2 x3 : Int) (hS : fx_Sok S) (g1 : -2147483648 ≤ x1 ∧ x1 ≤ 2147483647) (g2 : -2147483648 ≤ x2 ∧ x2 ≤ 2147483647) (g3 : -2147483648 ≤ x3 ∧ x3 ≤ 2147483647) (v3 : Int) (e3 : v3 = S.1 67 2) (b3 : -2147483648 ≤ v3 ∧ v3 ≤ 2147483647) (v4 : Int) (e4 : v4 = fx_sub v3 1) (v5 : Int) (S1 : fx_S) (k1 : fx_Sok S1) (b5 : -2147483648 ≤ v5 ∧ v5 ≤ 2147483647) (p1 : s113 S x1 0 v4 v5 S1) (c1 : v5 ≠ 0) (v6 : Int) (S2 : fx_S) (k2 : fx_Sok S2) (b6 : -2147483648 ≤ v6 ∧ v6 ≤ 2147483647) (p2 : s113 S1 x2 0 3599 v6 S2) (c2 : v6 ≠ 0) (v7 : Int) (S3 : fx_S) (k3 : fx_Sok S3) (b7 : -2147483648 ≤ v7 ∧ v7 ≤ 2147483647) (p3 : s113 S2 x3 0 3599 v7 S3) (c3 : v7 = 0) : s38 S x1 x2 x3 (-2) S3 := by
  obtain ⟨rfl, p1⟩ := p1
  obtain ⟨rfl, p2⟩ := p2
  obtain ⟨rfl, p3⟩ := p3
  exact rfl
theorem q38_3 (S : fx_S) (x1 x2 x3 : Int) (hS : fx_Sok S) (g1 : -2147483648 ≤ x1 ∧ x1 ≤ 2147483647) (g2 : -2147483648 ≤ x2 ∧ x2 ≤ 2147483647) (g3 : -2147483648 ≤ x3 ∧ x3 ≤ 2147483647) (v3 : Int) (e3 : v3 = S.1 67 2) (b3 : -2147483648 ≤ v3 ∧ v3 ≤ 2147483647) (v4 : Int) (e4 : v4 = fx_sub v3 1) (v5 : Int) (S1 : fx_S) (k1 : fx_Sok S1) (b5 : -2147483648 ≤ v5 ∧ v5 ≤ 2147483647) (p1 : s113 S x1 0 v4 v5 S1) (c1 : v5 ≠ 0) (v6 : Int) (S2 : fx_S) (k2 : fx_Sok S2) (b6 : -2147483648 ≤ v6 ∧ v6 ≤ 2147483647) (p2 : s113 S1 x2 0 3599 v6 S2) (c2 : v6 ≠ 0) (v7 : Int) (S3 : fx_S) (k3 : fx_Sok S3) (b7 : -2147483648 ≤ v7 ∧ v7 ≤ 2147483647) (p3 : s113 S2 x3 0 3599 v7 S3) (c3 : v7 ≠ 0) (v8 : Int) (S4 : fx_S) (k4 : fx_Sok S4) (b8 : -2147483648 ≤ v8 ∧ v8 ≤ 2147483647) (p4 : s144 S3 x1 x2 x3 v8 S4) : s38 S x1 x2 x3 v8 S4 := by
  obtain ⟨rfl, p1⟩ := p1
  obtain ⟨rfl, p2⟩ := p2
  obtain ⟨rfl, p3⟩ := p3
  obtain rfl : S = S4 := p4
  exact rfl
theorem q39_0 (S : fx_S) (x1 x2 : Int) (hS : fx_Sok S) (g1 : -2147483648 ≤ x1 ∧ x1 ≤ 2147483647) (g2 : -2147483648 ≤ x2 ∧ x2 ≤ 2147483647) (v2 : Int) (e2 : v2 = S.1 13 0) (b2 : -2147483648 ≤ v2 ∧ v2 ≤ 2147483647) (v3 : Int) (e3 : v3 = fx_sub v2 1) (v4 : Int) (S1 : fx_S) (k1 : fx_Sok S1) (b4 : -2147483648 ≤ v4 ∧ v4 ≤ 2147483647) (p1 : s114 S x1 0 v3 v4 S1) (c1 : v4 = 0) : s39 S x1 x2 (-2) S1 := by
  obtain ⟨rfl, p1⟩ := p1
  refine ⟨rfl, ?_⟩
  · intro p i hW
    clear c1 b4 e3 b2 e2
    exact rfl
theorem q39_1 (S : fx_S) (x1 x2 : Int) (hS : fx_Sok S) (g1 : -2147483648 ≤ x1 ∧ x1 ≤ 2147483647) (g2 : -2147483648 ≤ x2 ∧ x2 ≤ 2147483647) (v2 : Int) (e2 : v2 = S.1 13 0) (b2 : -2147483648 ≤ v2 ∧ v2 ≤ 2147483647) (v3 : Int) (e3 : v3 = fx_sub v2 1) (v4 : Int) (S1 : fx_S) (k1 : fx_Sok S1) (b4 : -2147483648 ≤ v4 ∧ v4 ≤ 2147483647) (p1 : s114 S x1 0 v3 v4 S1) (c1 : v4 ≠ 0) (v5 : Int) (S2 : fx_S) (k2 : fx_Sok S2) (b5 : -2147483648 ≤ v5 ∧ v5 ≤ 2147483647) (p2 : s114 S1 x2 1 9999 v5 S2) (c2 : v5 ≠ 0) (v6 : Int) (e6 : v6 = S2.1 1 0) (b6 : -2147483648 ≤ v6 ∧ v6 ≤ 2147483647) (c3 : 0 ≤ x1) (c4 : x1 < 80) (v7 : Int) (e7 : v7 = S2.1 16 x1) (b7 : -2147483648 ≤ v7 ∧ v7 ≤ 2147483647) (v8 : Int) (S3 : fx_S) (k3 : fx_Sok S3) (b8 : -2147483648 ≤ v8 ∧ v8 ≤ 2147483647) (p3 : s123 S2 v7 v6 v8 S3) (v9 : Int) (S4 : fx_S) (k4 : fx_Sok S4) (b9 : -2147483648 ≤ v9 ∧ v9 ≤ 2147483647) (p4 : s137 S3 v8 x1 v6 v9 S4) (v10 : Int) (S5 : fx_S) (k5 : fx_Sok S5) (b10 : -2147483648 ≤ v10 ∧ v10 ≤ 2147483647) (p5 : s114 S4 v9 0 3 v10 S5) (c5 : v10 ≠ 0) (v11 : Int) (e11 : v11 = S5.1 21 2) (b11 : -2147483648 ≤ v11 ∧ v11 ≤ 2147483647) (c6 : v11 < 300) (v12 : Int) (e12 : v12 = S5.1 1 0) (b12 : -2147483648 ≤ v12 ∧ v12 ≤ 2147483647) (v13 : Int) (S6 : fx_S) (k6 : fx_Sok S6) (b13 : v13 = 0) (p6 : s145 S5 x1 v12 x2 v13 S6) (c7 : 0 ≤ v9) (c8 : v9 < 4) (v14 : Int) (e14 : v14 = S6.1 22 v9) (b14 : -2147483648 ≤ v14 ∧ v14 ≤ 2147483647) (v15 : Int) (e15 : v15 = fx_add v14 x2) (c9 : 0 ≤ v9) (c10 : v9 < 4) (S7 : fx_S) (d7 : S7 = (fx_up S6.1 22 v9 v15, S6.2)) (c11 : 0 ≤ v9) (c12 : v9 < 4) (v16 : Int) (e16 : v16 = S7.1 22 v9) (b16 : -2147483648 ≤ v16 ∧ v16 ≤ 2147483647) : s39 S x1 x2 v16 S7 := by
  obtain ⟨rfl, p1⟩ := p1
  obtain ⟨rfl, p2⟩ := p2
  obtain ⟨rfl, p3⟩ := p3
  obtain rfl : S = S4 := p4
  obtain ⟨rfl, p5⟩ := p5
  obtain ⟨r6, f6⟩ := p6
  refine ⟨((show S7.2 = S6.2 by rw [d7])).trans (r6), ?_⟩
  · intro p i hW
    clear b16 e16 c12 c11 c10 c9 e15 b14 e14 c8 c7 b13 b12 e12 c6 b11 e11 c5 b10 b9 b8 b7 e7 c4 c3 b6 e6 c2 b5 c1 b4 e3 b2 e2
    exact ((show S7.1 p i = S6.1 p i by rw [d7]; exact if_neg (by omega))).trans ((f6 p i (by omega)))
theorem q39_2 (S : fx_S) (x1 x2 : Int) (hS : fx_Sok S) (g1 : -2147483648 ≤ x1 ∧ x1 ≤ 2147483647) (g2 : -2147483648 ≤ x2 ∧ x2 ≤ 2147483647) (v2 : Int) (e2 : v2 = S.1 13 0) (b2 : -2147483648 ≤ v2 ∧ v2 ≤ 2147483647) (v3 : Int) (e3 : v3 = fx_sub v2 1) (v4 : Int) (S1 : fx_S) (k1 : fx_Sok S1) (b4 : -2147483648 ≤ v4 ∧ v4 ≤ 2147483647) (p1 : s114 S x1 0 v3 v4 S1) (c1 : v4 ≠ 0) (v5 : Int) (S2 : fx_S) (k2 : fx_Sok S2) (b5 : -2147483648 ≤ v5 ∧ v5 ≤ 2147483647) (p2 : s114 S1 x2 1 9999 v5 S2) (c2 : v5 ≠ 0) (v6 : Int) (e6 : v6 = S2.1 1 0) (b6 : -2147483648 ≤ v6 ∧ v6 ≤ 2147483647) (c3 : 0 ≤ x1) (c4 : x1 < 80) (v7 : Int) (e7 : v7 = S2.1 16 x1) (b7 : -2147483648 ≤ v7 ∧ v7 ≤ 2147483647) (v8 : Int) (S3 : fx_S) (k3 : fx_Sok S3) (b8 : -2147483648 ≤ v8 ∧ v8 ≤ 2147483647) (p3 : s123 S2 v7 v6 v8 S3) (v9 : Int) (S4 : fx_S) (k4 : fx_Sok S4) (b9 : -2147483648 ≤ v9 ∧ v9 ≤ 2147483647) (p4 : s137 S3 v8 x1 v6 v9 S4) (v10 : Int) (S5 : fx_S) (k5 : fx_Sok S5) (b10 : -2147483648 ≤ v10 ∧ v10 ≤ 2147483647) (p5 : s114 S4 v9 0 3 v10 S5) (c5 : v10 ≠ 0) (v11 : Int) (e11 : v11 = S5.1 21 2) (b11 : -2147483648 ≤ v11 ∧ v11 ≤ 2147483647) (c6 : 300 ≤ v11) : s39 S x1 x2 (-3) S5 := by
  obtain ⟨rfl, p1⟩ := p1
  obtain ⟨rfl, p2⟩ := p2
  obtain ⟨rfl, p3⟩ := p3
  obtain rfl : S = S4 := p4
  obtain ⟨rfl, p5⟩ := p5
  refine ⟨rfl, ?_⟩
  · intro p i hW
    clear c6 b11 e11 c5 b10 b9 b8 b7 e7 c4 c3 b6 e6 c2 b5 c1 b4 e3 b2 e2
    exact rfl
theorem q39_3 (S : fx_S) (x1 x2 : Int) (hS : fx_Sok S) (g1 : -2147483648 ≤ x1 ∧ x1 ≤ 2147483647) (g2 : -2147483648 ≤ x2 ∧ x2 ≤ 2147483647) (v2 : Int) (e2 : v2 = S.1 13 0) (b2 : -2147483648 ≤ v2 ∧ v2 ≤ 2147483647) (v3 : Int) (e3 : v3 = fx_sub v2 1) (v4 : Int) (S1 : fx_S) (k1 : fx_Sok S1) (b4 : -2147483648 ≤ v4 ∧ v4 ≤ 2147483647) (p1 : s114 S x1 0 v3 v4 S1) (c1 : v4 ≠ 0) (v5 : Int) (S2 : fx_S) (k2 : fx_Sok S2) (b5 : -2147483648 ≤ v5 ∧ v5 ≤ 2147483647) (p2 : s114 S1 x2 1 9999 v5 S2) (c2 : v5 ≠ 0) (v6 : Int) (e6 : v6 = S2.1 1 0) (b6 : -2147483648 ≤ v6 ∧ v6 ≤ 2147483647) (c3 : 0 ≤ x1) (c4 : x1 < 80) (v7 : Int) (e7 : v7 = S2.1 16 x1) (b7 : -2147483648 ≤ v7 ∧ v7 ≤ 2147483647) (v8 : Int) (S3 : fx_S) (k3 : fx_Sok S3) (b8 : -2147483648 ≤ v8 ∧ v8 ≤ 2147483647) (p3 : s123 S2 v7 v6 v8 S3) (v9 : Int) (S4 : fx_S) (k4 : fx_Sok S4) (b9 : -2147483648 ≤ v9 ∧ v9 ≤ 2147483647) (p4 : s137 S3 v8 x1 v6 v9 S4) (v10 : Int) (S5 : fx_S) (k5 : fx_Sok S5) (b10 : -2147483648 ≤ v10 ∧ v10 ≤ 2147483647) (p5 : s114 S4 v9 0 3 v10 S5) (c5 : v10 = 0) : s39 S x1 x2 (-2) S5 := by
  obtain ⟨rfl, p1⟩ := p1
  obtain ⟨rfl, p2⟩ := p2
  obtain ⟨rfl, p3⟩ := p3
  obtain rfl : S = S4 := p4
  obtain ⟨rfl, p5⟩ := p5
  refine ⟨rfl, ?_⟩
  · intro p i hW
    clear c5 b10 b9 b8 b7 e7 c4 c3 b6 e6 c2 b5 c1 b4 e3 b2 e2
    exact rfl
theorem q39_4 (S : fx_S) (x1 x2 : Int) (hS : fx_Sok S) (g1 : -2147483648 ≤ x1 ∧ x1 ≤ 2147483647) (g2 : -2147483648 ≤ x2 ∧ x2 ≤ 2147483647) (v2 : Int) (e2 : v2 = S.1 13 0) (b2 : -2147483648 ≤ v2 ∧ v2 ≤ 2147483647) (v3 : Int) (e3 : v3 = fx_sub v2 1) (v4 : Int) (S1 : fx_S) (k1 : fx_Sok S1) (b4 : -2147483648 ≤ v4 ∧ v4 ≤ 2147483647) (p1 : s114 S x1 0 v3 v4 S1) (c1 : v4 ≠ 0) (v5 : Int) (S2 : fx_S) (k2 : fx_Sok S2) (b5 : -2147483648 ≤ v5 ∧ v5 ≤ 2147483647) (p2 : s114 S1 x2 1 9999 v5 S2) (c2 : v5 = 0) : s39 S x1 x2 (-2) S2 := by
  obtain ⟨rfl, p1⟩ := p1
  obtain ⟨rfl, p2⟩ := p2
  refine ⟨rfl, ?_⟩
  · intro p i hW
    clear c2 b5 c1 b4 e3 b2 e2
    exact rfl
theorem q40_0 (S : fx_S) (x1 x2 : Int) (hS : fx_Sok S) (g1 : -2147483648 ≤ x1 ∧ x1 ≤ 2147483647) (g2 : -2147483648 ≤ x2 ∧ x2 ≤ 2147483647) (v2 : Int) (e2 : v2 = S.1 67 2) (b2 : -2147483648 ≤ v2 ∧ v2 ≤ 2147483647) (v3 : Int) (e3 : v3 = fx_sub v2 1) (v4 : Int) (S1 : fx_S) (k1 : fx_Sok S1) (b4 : -2147483648 ≤ v4 ∧ v4 ≤ 2147483647) (p1 : s113 S x1 0 v3 v4 S1) (c1 : v4 = 0) : s40 S x1 x2 (-2) S1 := by
  obtain ⟨rfl, p1⟩ := p1
  unfold s40
  intro hB
  have BS := hB
  have NS := fx_WB_n BS
  have h3 := e3
  first | rw [fx_sub_eq (by omega) (by omega)] at h3 | skip
  have m1 := fx_in01 p1
  refine ⟨rfl, ?_, BS⟩
  · intro p i hW
    exact rfl
theorem q40_1 (S : fx_S) (x1 x2 : Int) (hS : fx_Sok S) (g1 : -2147483648 ≤ x1 ∧ x1 ≤ 2147483647) (g2 : -2147483648 ≤ x2 ∧ x2 ≤ 2147483647) (v2 : Int) (e2 : v2 = S.1 67 2) (b2 : -2147483648 ≤ v2 ∧ v2 ≤ 2147483647) (v3 : Int) (e3 : v3 = fx_sub v2 1) (v4 : Int) (S1 : fx_S) (k1 : fx_Sok S1) (b4 : -2147483648 ≤ v4 ∧ v4 ≤ 2147483647) (p1 : s113 S x1 0 v3 v4 S1) (c1 : v4 ≠ 0) (v5 : Int) (S2 : fx_S) (k2 : fx_Sok S2) (b5 : -2147483648 ≤ v5 ∧ v5 ≤ 2147483647) (p2 : s113 S1 x2 1 9999 v5 S2) (c2 : v5 ≠ 0) (v6 : Int) (e6 : v6 = S2.1 67 0) (b6 : -2147483648 ≤ v6 ∧ v6 ≤ 2147483647) (v7 : Int) (S3 : fx_S) (k3 : fx_Sok S3) (b7 : -2147483648 ≤ v7 ∧ v7 ≤ 2147483647) (p3 : s138 S2 x1 v6 v7 S3) (c3 : v7 ≠ (-1)) (v8 : Int) (e8 : v8 = S3.1 67 7) (b8 : -2147483648 ≤ v8 ∧ v8 ≤ 2147483647) (c4 : v8 ≠ 300) (v9 : Int) (e9 : v9 = S3.1 67 7) (b9 : -2147483648 ≤ v9 ∧ v9 ≤ 2147483647) (v10 : Int) (e10 : v10 = fx_mul 3 v9) (v11 : Int) (e11 : v11 = fx_add 7148 v10) (c5 : 0 ≤ v11) (c6 : v11 < 8090) (S4 : fx_S) (d4 : S4 = (fx_up S3.1 67 v11 x1, S3.2)) (v12 : Int) (e12 : v12 = fx_add v11 1) (c7 : 0 ≤ v12) (c8 : v12 < 8090) (S5 : fx_S) (d5 : S5 = (fx_up S4.1 67 v12 x2, S4.2)) (v13 : Int) (e13 : v13 = fx_add v11 2) (v14 : Int) (e14 : v14 = S5.1 67 0) (b14 : -2147483648 ≤ v14 ∧ v14 ≤ 2147483647) (c9 : 0 ≤ v13) (c10 : v13 < 8090) (S6 : fx_S) (d6 : S6 = (fx_up S5.1 67 v13 v14, S5.2)) (v15 : Int) (e15 : v15 = S6.1 67 7) (b15 : -2147483648 ≤ v15 ∧ v15 ≤ 2147483647) (v16 : Int) (e16 : v16 = fx_add v15 1) (S7 : fx_S) (d7 : S7 = (fx_up S6.1 67 7 v16, S6.2)) (v17 : Int) (e17 : v17 = fx_add 12 v7) (c11 : 0 ≤ v17) (c12 : v17 < 8090) (v18 : Int) (e18 : v18 = S7.1 67 v17) (b18 : -2147483648 ≤ v18 ∧ v18 ≤ 2147483647) (v19 : Int) (e19 : v19 = fx_add v18 x2) (c13 : 0 ≤ v17) (c14 : v17 < 8090) (S8 : fx_S) (d8 : S8 = (fx_up S7.1 67 v17 v19, S7.2)) (v20 : Int) (e20 : v20 = fx_add 12 v7) (c15 : 0 ≤ v20) (c16 : v20 < 8090) (v21 : Int) (e21 : v21 = S8.1 67 v20) (b21 : -2147483648 ≤ v21 ∧ v21 ≤ 2147483647) : s40 S x1 x2 v21 S8 := by
  obtain ⟨rfl, p1⟩ := p1
  obtain ⟨rfl, p2⟩ := p2
  obtain ⟨r3, f3, p3⟩ := p3
  unfold s40
  intro hB
  have q3 := p3 hB
  have BS := hB
  have NS := fx_WB_n BS
  have h3 := e3
  first | rw [fx_sub_eq (by omega) (by omega)] at h3 | skip
  have m1 := fx_in01 p1
  have m2 := fx_in01 p2
  have BS3 : fx_WB S3 := fx_WB_eq BS (fun q => f3 67 q (by omega)) (fun q => f3 68 q (by omega)) (fun q => f3 69 q (by omega))
  have NS3 := fx_WB_n BS3
  rw [f3 67 7 (by omega)] at e8
  rw [f3 67 7 (by omega)] at e9
  obtain rfl : v8 = v9 := by rw [e9, e8]
  have h10 := e10
  first | rw [fx_mul_eq (by omega) (by omega)] at h10 | skip
  have h11 := e11
  first | rw [fx_add_eq (by omega) (by omega)] at h11 | skip
  have BS4 : fx_WB S4 := by rw [d4]; exact fx_WB_up BS3 (by omega) (by omega) (by omega) (by omega) (by omega) (by omega) (by omega) (by omega) (by omega) (by omega) (by omega) (fun h => absurd h (by omega))
  have h12 := e12
  first | rw [fx_add_eq (by omega) (by omega)] at h12 | skip
  have BS5 : fx_WB S5 := by rw [d5]; exact fx_WB_up BS4 (by omega) (by omega) (by omega) (by omega) (by omega) (by omega) (by omega) (by omega) (by omega) (by omega) (by omega) (fun h => absurd h (by omega))
  have h13 := e13
  first | rw [fx_add_eq (by omega) (by omega)] at h13 | skip
  have t14_5 : S5.1 67 0 = S4.1 67 0 := by rw [d5]; first | exact if_neg (by omega) | rfl
  rw [t14_5] at e14
  have t14_4 : S4.1 67 0 = S3.1 67 0 := by rw [d4]; first | exact if_neg (by omega) | rfl
  rw [t14_4] at e14
  rw [f3 67 0 (by omega)] at e14
  obtain rfl : v6 = v14 := by rw [e14, e6]
  have BS6 : fx_WB S6 := by rw [d6]; exact fx_WB_up BS5 (by omega) (by omega) (by omega) (by omega) (by omega) (by omega) (by omega) (by omega) (by omega) (by omega) (by omega) (fun h => absurd h (by omega))
  have t15_6 : S6.1 67 7 = S5.1 67 7 := by rw [d6]; first | exact if_neg (by omega) | rfl
  rw [t15_6] at e15
  have t15_5 : S5.1 67 7 = S4.1 67 7 := by rw [d5]; first | exact if_neg (by omega) | rfl
  rw [t15_5] at e15
  have t15_4 : S4.1 67 7 = S3.1 67 7 := by rw [d4]; first | exact if_neg (by omega) | rfl
  rw [t15_4] at e15
  rw [f3 67 7 (by omega)] at e15
  obtain rfl : v8 = v15 := by rw [e15, e8]
  have h16 := e16
  first | rw [fx_add_eq (by omega) (by omega)] at h16 | skip
  have BS7 : fx_WB S7 := by rw [d7]; exact fx_WB_up BS6 (by omega) (by omega) (by omega) (by omega) (by omega) (by omega) (by omega) (by omega) (by omega) (by omega) (by omega) (fun h => absurd h (by omega))
  have h17 := e17
  first | rw [fx_add_eq (by omega) (by omega)] at h17 | skip
  have t18_7 : S7.1 67 v17 = S6.1 67 v17 := by rw [d7]; first | exact if_neg (by omega) | rfl
  rw [t18_7] at e18
  have h19 := e19
  first | rw [fx_add_eq (by omega) (by omega)] at h19 | skip
  have BS8 : fx_WB S8 := by rw [d8]; exact fx_WB_up BS7 (by omega) (by omega) (by omega) (by omega) (by omega) (by omega) (by omega) (by omega) (by omega) (by omega) (by omega) (fun h => absurd h (by omega))
  obtain rfl : v17 = v20 := by rw [e20, e17]
  have t21_8 : S8.1 67 v17 = v19 := by rw [d8]; first | exact if_pos ⟨rfl, by omega⟩ | rfl
  rw [t21_8] at e21
  obtain rfl : v19 = v21 := e21.symm
  refine ⟨((show S8.2 = S7.2 by rw [d8])).trans (((show S7.2 = S6.2 by rw [d7])).trans (((show S6.2 = S5.2 by rw [d6])).trans (((show S5.2 = S4.2 by rw [d5])).trans (((show S4.2 = S3.2 by rw [d4])).trans (r3))))), ?_, BS8⟩
  · intro p i hW
    exact ((show S8.1 p i = S7.1 p i by rw [d8]; exact if_neg (by omega))).trans (((show S7.1 p i = S6.1 p i by rw [d7]; exact if_neg (by omega))).trans (((show S6.1 p i = S5.1 p i by rw [d6]; exact if_neg (by omega))).trans (((show S5.1 p i = S4.1 p i by rw [d5]; exact if_neg (by omega))).trans (((show S4.1 p i = S3.1 p i by rw [d4]; exact if_neg (by omega))).trans ((f3 p i (by omega)))))))
theorem q40_2 (S : fx_S) (x1 x2 : Int) (hS : fx_Sok S) (g1 : -2147483648 ≤ x1 ∧ x1 ≤ 2147483647) (g2 : -2147483648 ≤ x2 ∧ x2 ≤ 2147483647) (v2 : Int) (e2 : v2 = S.1 67 2) (b2 : -2147483648 ≤ v2 ∧ v2 ≤ 2147483647) (v3 : Int) (e3 : v3 = fx_sub v2 1) (v4 : Int) (S1 : fx_S) (k1 : fx_Sok S1) (b4 : -2147483648 ≤ v4 ∧ v4 ≤ 2147483647) (p1 : s113 S x1 0 v3 v4 S1) (c1 : v4 ≠ 0) (v5 : Int) (S2 : fx_S) (k2 : fx_Sok S2) (b5 : -2147483648 ≤ v5 ∧ v5 ≤ 2147483647) (p2 : s113 S1 x2 1 9999 v5 S2) (c2 : v5 ≠ 0) (v6 : Int) (e6 : v6 = S2.1 67 0) (b6 : -2147483648 ≤ v6 ∧ v6 ≤ 2147483647) (v7 : Int) (S3 : fx_S) (k3 : fx_Sok S3) (b7 : -2147483648 ≤ v7 ∧ v7 ≤ 2147483647) (p3 : s138 S2 x1 v6 v7 S3) (c3 : v7 ≠ (-1)) (v8 : Int) (e8 : v8 = S3.1 67 7) (b8 : -2147483648 ≤ v8 ∧ v8 ≤ 2147483647) (c4 : v8 = 300) : s40 S x1 x2 (-3) S3 := by
  obtain ⟨rfl, p1⟩ := p1
  obtain ⟨rfl, p2⟩ := p2
  obtain ⟨r3, f3, p3⟩ := p3
  unfold s40
  intro hB
  have BS := hB
  have NS := fx_WB_n BS
  have h3 := e3
  first | rw [fx_sub_eq (by omega) (by omega)] at h3 | skip
  have m1 := fx_in01 p1
  have m2 := fx_in01 p2
  have BS3 : fx_WB S3 := fx_WB_eq BS (fun q => f3 67 q (by omega)) (fun q => f3 68 q (by omega)) (fun q => f3 69 q (by omega))
  have NS3 := fx_WB_n BS3
  rw [f3 67 7 (by omega)] at e8
  refine ⟨r3, ?_, BS3⟩
  · intro p i hW
    exact (f3 p i (by omega))
theorem q40_3 (S : fx_S) (x1 x2 : Int) (hS : fx_Sok S) (g1 : -2147483648 ≤ x1 ∧ x1 ≤ 2147483647) (g2 : -2147483648 ≤ x2 ∧ x2 ≤ 2147483647) (v2 : Int) (e2 : v2 = S.1 67 2) (b2 : -2147483648 ≤ v2 ∧ v2 ≤ 2147483647) (v3 : Int) (e3 : v3 = fx_sub v2 1) (v4 : Int) (S1 : fx_S) (k1 : fx_Sok S1) (b4 : -2147483648 ≤ v4 ∧ v4 ≤ 2147483647) (p1 : s113 S x1 0 v3 v4 S1) (c1 : v4 ≠ 0) (v5 : Int) (S2 : fx_S) (k2 : fx_Sok S2) (b5 : -2147483648 ≤ v5 ∧ v5 ≤ 2147483647) (p2 : s113 S1 x2 1 9999 v5 S2) (c2 : v5 ≠ 0) (v6 : Int) (e6 : v6 = S2.1 67 0) (b6 : -2147483648 ≤ v6 ∧ v6 ≤ 2147483647) (v7 : Int) (S3 : fx_S) (k3 : fx_Sok S3) (b7 : -2147483648 ≤ v7 ∧ v7 ≤ 2147483647) (p3 : s138 S2 x1 v6 v7 S3) (c3 : v7 = (-1)) : s40 S x1 x2 (-2) S3 := by
  obtain ⟨rfl, p1⟩ := p1
  obtain ⟨rfl, p2⟩ := p2
  obtain ⟨r3, f3, p3⟩ := p3
  unfold s40
  intro hB
  have BS := hB
  have NS := fx_WB_n BS
  have h3 := e3
  first | rw [fx_sub_eq (by omega) (by omega)] at h3 | skip
  have m1 := fx_in01 p1
  have m2 := fx_in01 p2
  have BS3 : fx_WB S3 := fx_WB_eq BS (fun q => f3 67 q (by omega)) (fun q => f3 68 q (by omega)) (fun q => f3 69 q (by omega))
  have NS3 := fx_WB_n BS3
  refine ⟨r3, ?_, BS3⟩
  · intro p i hW
    exact (f3 p i (by omega))
theorem q40_4 (S : fx_S) (x1 x2 : Int) (hS : fx_Sok S) (g1 : -2147483648 ≤ x1 ∧ x1 ≤ 2147483647) (g2 : -2147483648 ≤ x2 ∧ x2 ≤ 2147483647) (v2 : Int) (e2 : v2 = S.1 67 2) (b2 : -2147483648 ≤ v2 ∧ v2 ≤ 2147483647) (v3 : Int) (e3 : v3 = fx_sub v2 1) (v4 : Int) (S1 : fx_S) (k1 : fx_Sok S1) (b4 : -2147483648 ≤ v4 ∧ v4 ≤ 2147483647) (p1 : s113 S x1 0 v3 v4 S1) (c1 : v4 ≠ 0) (v5 : Int) (S2 : fx_S) (k2 : fx_Sok S2) (b5 : -2147483648 ≤ v5 ∧ v5 ≤ 2147483647) (p2 : s113 S1 x2 1 9999 v5 S2) (c2 : v5 = 0) : s40 S x1 x2 (-2) S2 := by
  obtain ⟨rfl, p1⟩ := p1
  obtain ⟨rfl, p2⟩ := p2
  unfold s40
  intro hB
  have BS := hB
  have NS := fx_WB_n BS
  have h3 := e3
  first | rw [fx_sub_eq (by omega) (by omega)] at h3 | skip
  have m1 := fx_in01 p1
  have m2 := fx_in01 p2
  refine ⟨rfl, ?_, BS⟩
  · intro p i hW
    exact rfl
theorem q41_0 (S : fx_S) (x1 x2 : Int) (hS : fx_Sok S) (g1 : -2147483648 ≤ x1 ∧ x1 ≤ 2147483647) (g2 : -2147483648 ≤ x2 ∧ x2 ≤ 2147483647) (v2 : Int) (S1 : fx_S) (k1 : fx_Sok S1) (b2 : -2147483648 ≤ v2 ∧ v2 ≤ 2147483647) (p1 : s114 S x1 0 3 v2 S1) (c1 : v2 = 0) : s41 S x1 x2 (-2) S1 := by
  obtain ⟨rfl, p1⟩ := p1
  refine ⟨rfl, ?_⟩
  · intro p i hW
    clear c1 b2
    exact rfl
theorem q41_1 (S : fx_S) (x1 x2 : Int) (hS : fx_Sok S) (g1 : -2147483648 ≤ x1 ∧ x1 ≤ 2147483647) (g2 : -2147483648 ≤ x2 ∧ x2 ≤ 2147483647) (v2 : Int) (S1 : fx_S) (k1 : fx_Sok S1) (b2 : -2147483648 ≤ v2 ∧ v2 ≤ 2147483647) (p1 : s114 S x1 0 3 v2 S1) (c1 : v2 ≠ 0) (v3 : Int) (S2 : fx_S) (k2 : fx_Sok S2) (b3 : -2147483648 ≤ v3 ∧ v3 ≤ 2147483647) (p2 : s114 S1 x2 1 99999 v3 S2) (c2 : v3 ≠ 0) (c3 : 0 ≤ x1) (c4 : x1 < 4) (v4 : Int) (e4 : v4 = S2.1 22 x1) (b4 : -2147483648 ≤ v4 ∧ v4 ≤ 2147483647) (c5 : x2 ≤ v4) (c6 : 0 ≤ x1) (c7 : x1 < 4) (v5 : Int) (e5 : v5 = S2.1 22 x1) (b5 : -2147483648 ≤ v5 ∧ v5 ≤ 2147483647) (v6 : Int) (e6 : v6 = fx_sub v5 x2) (c8 : 0 ≤ x1) (c9 : x1 < 4) (S3 : fx_S) (d3 : S3 = (fx_up S2.1 22 x1 v6, S2.2)) (v7 : Int) (e7 : v7 = S3.1 21 6) (b7 : -2147483648 ≤ v7 ∧ v7 ≤ 2147483647) (v8 : Int) (e8 : v8 = fx_add v7 x2) (S4 : fx_S) (d4 : S4 = (fx_up S3.1 21 6 v8, S3.2)) (c10 : 0 ≤ x1) (c11 : x1 < 4) (v9 : Int) (e9 : v9 = S4.1 22 x1) (b9 : -2147483648 ≤ v9 ∧ v9 ≤ 2147483647) : s41 S x1 x2 v9 S4 := by
  obtain ⟨rfl, p1⟩ := p1
  obtain ⟨rfl, p2⟩ := p2
  refine ⟨((show S4.2 = S3.2 by rw [d4])).trans ((show S3.2 = S.2 by rw [d3])), ?_⟩
  · intro p i hW
    clear b9 e9 c11 c10 e8 b7 e7 c9 c8 e6 b5 e5 c7 c6 c5 b4 e4 c4 c3 c2 b3 c1 b2
    exact ((show S4.1 p i = S3.1 p i by rw [d4]; exact if_neg (by omega))).trans ((show S3.1 p i = S.1 p i by rw [d3]; exact if_neg (by omega)))
theorem q41_2 (S : fx_S) (x1 x2 : Int) (hS : fx_Sok S) (g1 : -2147483648 ≤ x1 ∧ x1 ≤ 2147483647) (g2 : -2147483648 ≤ x2 ∧ x2 ≤ 2147483647) (v2 : Int) (S1 : fx_S) (k1 : fx_Sok S1) (b2 : -2147483648 ≤ v2 ∧ v2 ≤ 2147483647) (p1 : s114 S x1 0 3 v2 S1) (c1 : v2 ≠ 0) (v3 : Int) (S2 : fx_S) (k2 : fx_Sok S2) (b3 : -2147483648 ≤ v3 ∧ v3 ≤ 2147483647) (p2 : s114 S1 x2 1 99999 v3 S2) (c2 : v3 ≠ 0) (c3 : 0 ≤ x1) (c4 : x1 < 4) (v4 : Int) (e4 : v4 = S2.1 22 x1) (b4 : -2147483648 ≤ v4 ∧ v4 ≤ 2147483647) (c5 : v4 < x2) : s41 S x1 x2 (-5) S2 := by
  obtain ⟨rfl, p1⟩ := p1
  obtain ⟨rfl, p2⟩ := p2
  refine ⟨rfl, ?_⟩
  · intro p i hW
    clear c5 b4 e4 c4 c3 c2 b3 c1 b2
    exact rfl
theorem q41_3 (S : fx_S) (x1 x2 : Int) (hS : fx_Sok S) (g1 : -2147483648 ≤ x1 ∧ x1 ≤ 2147483647) (g2 : -2147483648 ≤ x2 ∧ x2 ≤ 2147483647) (v2 : Int) (S1 : fx_S) (k1 : fx_Sok S1) (b2 : -2147483648 ≤ v2 ∧ v2 ≤ 2147483647) (p1 : s114 S x1 0 3 v2 S1) (c1 : v2 ≠ 0) (v3 : Int) (S2 : fx_S) (k2 : fx_Sok S2) (b3 : -2147483648 ≤ v3 ∧ v3 ≤ 2147483647) (p2 : s114 S1 x2 1 99999 v3 S2) (c2 : v3 = 0) : s41 S x1 x2 (-2) S2 := by
  obtain ⟨rfl, p1⟩ := p1
  obtain ⟨rfl, p2⟩ := p2
  refine ⟨rfl, ?_⟩
  · intro p i hW
    clear c2 b3 c1 b2
    exact rfl
theorem q42_0 (S : fx_S) (x1 x2 : Int) (hS : fx_Sok S) (g1 : -2147483648 ≤ x1 ∧ x1 ≤ 2147483647) (g2 : -2147483648 ≤ x2 ∧ x2 ≤ 2147483647) (v2 : Int) (S1 : fx_S) (k1 : fx_Sok S1) (b2 : -2147483648 ≤ v2 ∧ v2 ≤ 2147483647) (p1 : s113 S x1 0 3 v2 S1) (c1 : v2 = 0) : s42 S x1 x2 (-2) S1 := by
  obtain ⟨rfl, p1⟩ := p1
  unfold s42
  intro hB
  have BS := hB
  have NS := fx_WB_n BS
  have m1 := fx_in01 p1
  refine ⟨rfl, ?_, BS⟩
  · intro p i hW
    exact rfl
theorem q42_1 (S : fx_S) (x1 x2 : Int) (hS : fx_Sok S) (g1 : -2147483648 ≤ x1 ∧ x1 ≤ 2147483647) (g2 : -2147483648 ≤ x2 ∧ x2 ≤ 2147483647) (v2 : Int) (S1 : fx_S) (k1 : fx_Sok S1) (b2 : -2147483648 ≤ v2 ∧ v2 ≤ 2147483647) (p1 : s113 S x1 0 3 v2 S1) (c1 : v2 ≠ 0) (v3 : Int) (S2 : fx_S) (k2 : fx_Sok S2) (b3 : -2147483648 ≤ v3 ∧ v3 ≤ 2147483647) (p2 : s113 S1 x2 1 99999 v3 S2) (c2 : v3 ≠ 0) (v4 : Int) (e4 : v4 = fx_add 12 x1) (c3 : 0 ≤ v4) (c4 : v4 < 8090) (v5 : Int) (e5 : v5 = S2.1 67 v4) (b5 : -2147483648 ≤ v5 ∧ v5 ≤ 2147483647) (c5 : x2 ≤ v5) (v6 : Int) (e6 : v6 = fx_add 12 x1) (c6 : 0 ≤ v6) (c7 : v6 < 8090) (v7 : Int) (e7 : v7 = S2.1 67 v6) (b7 : -2147483648 ≤ v7 ∧ v7 ≤ 2147483647) (v8 : Int) (e8 : v8 = fx_sub v7 x2) (c8 : 0 ≤ v6) (c9 : v6 < 8090) (S3 : fx_S) (d3 : S3 = (fx_up S2.1 67 v6 v8, S2.2)) (v9 : Int) (e9 : v9 = S3.1 67 8) (b9 : -2147483648 ≤ v9 ∧ v9 ≤ 2147483647) (v10 : Int) (e10 : v10 = fx_add v9 x2) (S4 : fx_S) (d4 : S4 = (fx_up S3.1 67 8 v10, S3.2)) (v11 : Int) (e11 : v11 = fx_add 12 x1) (c10 : 0 ≤ v11) (c11 : v11 < 8090) (v12 : Int) (e12 : v12 = S4.1 67 v11) (b12 : -2147483648 ≤ v12 ∧ v12 ≤ 2147483647) : s42 S x1 x2 v12 S4 := by
  obtain ⟨rfl, p1⟩ := p1
  obtain ⟨rfl, p2⟩ := p2
  unfold s42
  intro hB
  have BS := hB
  have NS := fx_WB_n BS
  have m1 := fx_in01 p1
  have m2 := fx_in01 p2
  have h4 := e4
  first | rw [fx_add_eq (by omega) (by omega)] at h4 | skip
  obtain rfl : v4 = v6 := by rw [e6, e4]
  obtain rfl : v5 = v7 := by rw [e7, e5]
  have h8 := e8
  first | rw [fx_sub_eq (by omega) (by omega)] at h8 | skip
  have BS3 : fx_WB S3 := by rw [d3]; exact fx_WB_up BS (by omega) (by omega) (by omega) (by omega) (by omega) (by omega) (by omega) (by omega) (by omega) (by omega) (by omega) (fun h => absurd h (by omega))
  have t9_3 : S3.1 67 8 = S.1 67 8 := by rw [d3]; first | exact if_neg (by omega) | rfl
  rw [t9_3] at e9
  have h10 := e10
  first | rw [fx_add_eq (by omega) (by omega)] at h10 | skip
  have BS4 : fx_WB S4 := by rw [d4]; exact fx_WB_up BS3 (by omega) (by omega) (by omega) (by omega) (by omega) (by omega) (by omega) (by omega) (by omega) (by omega) (by omega) (fun h => absurd h (by omega))
  obtain rfl : v4 = v11 := by rw [e11, e4]
  have t12_4 : S4.1 67 v4 = S3.1 67 v4 := by rw [d4]; first | exact if_neg (by omega) | rfl
  rw [t12_4] at e12
  have t12_3 : S3.1 67 v4 = v8 := by rw [d3]; first | exact if_pos ⟨rfl, by omega⟩ | rfl
  rw [t12_3] at e12
  obtain rfl : v8 = v12 := e12.symm
  refine ⟨((show S4.2 = S3.2 by rw [d4])).trans ((show S3.2 = S.2 by rw [d3])), ?_, BS4⟩
  · intro p i hW
    exact ((show S4.1 p i = S3.1 p i by rw [d4]; exact if_neg (by omega))).trans ((show S3.1 p i = S.1 p i by rw [d3]; exact if_neg (by omega)))
theorem q42_2 (S : fx_S) (x1 x2 : Int) (hS : fx_Sok S) (g1 : -2147483648 ≤ x1 ∧ x1 ≤ 2147483647) (g2 : -2147483648 ≤ x2 ∧ x2 ≤ 2147483647) (v2 : Int) (S1 : fx_S) (k1 : fx_Sok S1) (b2 : -2147483648 ≤ v2 ∧ v2 ≤ 2147483647) (p1 : s113 S x1 0 3 v2 S1) (c1 : v2 ≠ 0) (v3 : Int) (S2 : fx_S) (k2 : fx_Sok S2) (b3 : -2147483648 ≤ v3 ∧ v3 ≤ 2147483647) (p2 : s113 S1 x2 1 99999 v3 S2) (c2 : v3 ≠ 0) (v4 : Int) (e4 : v4 = fx_add 12 x1) (c3 : 0 ≤ v4) (c4 : v4 < 8090) (v5 : Int) (e5 : v5 = S2.1 67 v4) (b5 : -2147483648 ≤ v5 ∧ v5 ≤ 2147483647) (c5 : v5 < x2) : s42 S x1 x2 (-5) S2 := by
  obtain ⟨rfl, p1⟩ := p1
  obtain ⟨rfl, p2⟩ := p2
  unfold s42
  intro hB
  have BS := hB
  have NS := fx_WB_n BS
  have m1 := fx_in01 p1
  have m2 := fx_in01 p2
  have h4 := e4
  first | rw [fx_add_eq (by omega) (by omega)] at h4 | skip
  refine ⟨rfl, ?_, BS⟩
  · intro p i hW
    exact rfl
theorem q42_3 (S : fx_S) (x1 x2 : Int) (hS : fx_Sok S) (g1 : -2147483648 ≤ x1 ∧ x1 ≤ 2147483647) (g2 : -2147483648 ≤ x2 ∧ x2 ≤ 2147483647) (v2 : Int) (S1 : fx_S) (k1 : fx_Sok S1) (b2 : -2147483648 ≤ v2 ∧ v2 ≤ 2147483647) (p1 : s113 S x1 0 3 v2 S1) (c1 : v2 ≠ 0) (v3 : Int) (S2 : fx_S) (k2 : fx_Sok S2) (b3 : -2147483648 ≤ v3 ∧ v3 ≤ 2147483647) (p2 : s113 S1 x2 1 99999 v3 S2) (c2 : v3 = 0) : s42 S x1 x2 (-2) S2 := by
  obtain ⟨rfl, p1⟩ := p1
  obtain ⟨rfl, p2⟩ := p2
  unfold s42
  intro hB
  have BS := hB
  have NS := fx_WB_n BS
  have m1 := fx_in01 p1
  have m2 := fx_in01 p2
  refine ⟨rfl, ?_, BS⟩
  · intro p i hW
    exact rfl
theorem q43_0 (S : fx_S) (x1 x2 : Int) (hS : fx_Sok S) (g1 : -2147483648 ≤ x1 ∧ x1 ≤ 2147483647) (g2 : -2147483648 ≤ x2 ∧ x2 ≤ 2147483647) (v2 : Int) (e2 : v2 = S.1 13 0) (b2 : -2147483648 ≤ v2 ∧ v2 ≤ 2147483647) (v3 : Int) (e3 : v3 = fx_sub v2 1) (v4 : Int) (S1 : fx_S) (k1 : fx_Sok S1) (b4 : -2147483648 ≤ v4 ∧ v4 ≤ 2147483647) (p1 : s114 S x1 0 v3 v4 S1) (c1 : v4 = 0) : s43 S x1 x2 (-2000000000) S1 := by
  obtain ⟨rfl, p1⟩ := p1
  exact rfl
theorem q43_1 (S : fx_S) (x1 x2 : Int) (hS : fx_Sok S) (g1 : -2147483648 ≤ x1 ∧ x1 ≤ 2147483647) (g2 : -2147483648 ≤ x2 ∧ x2 ≤ 2147483647) (v2 : Int) (e2 : v2 = S.1 13 0) (b2 : -2147483648 ≤ v2 ∧ v2 ≤ 2147483647) (v3 : Int) (e3 : v3 = fx_sub v2 1) (v4 : Int) (S1 : fx_S) (k1 : fx_Sok S1) (b4 : -2147483648 ≤ v4 ∧ v4 ≤ 2147483647) (p1 : s114 S x1 0 v3 v4 S1) (c1 : v4 ≠ 0) (v5 : Int) (S2 : fx_S) (k2 : fx_Sok S2) (b5 : -2147483648 ≤ v5 ∧ v5 ≤ 2147483647) (p2 : s114 S1 x2 0 3599 v5 S2) (c2 : v5 ≠ 0) (v6 : Int) (S3 : fx_S) (k3 : fx_Sok S3) (b6 : -2147483648 ≤ v6 ∧ v6 ≤ 2147483647) (p3 : s146 S2 x1 x2 v6 S3) (v7 : Int) (e7 : v7 = S3.1 1 0) (b7 : -2147483648 ≤ v7 ∧ v7 ≤ 2147483647) (v8 : Int) (S4 : fx_S) (k4 : fx_Sok S4) (b8 : -2147483648 ≤ v8 ∧ v8 ≤ 2147483647) (p4 : s143 S3 x1 x2 v7 v8 S4) (v9 : Int) (e9 : v9 = fx_sub v6 v8) : s43 S x1 x2 v9 S4 := by
  obtain ⟨rfl, p1⟩ := p1
  obtain ⟨rfl, p2⟩ := p2
  obtain rfl : S = S3 := p3
  obtain rfl : S = S4 := p4
  exact rfl
theorem q43_2 (S : fx_S) (x1 x2 : Int) (hS : fx_Sok S) (g1 : -2147483648 ≤ x1 ∧ x1 ≤ 2147483647) (g2 : -2147483648 ≤ x2 ∧ x2 ≤ 2147483647) (v2 : Int) (e2 : v2 = S.1 13 0) (b2 : -2147483648 ≤ v2 ∧ v2 ≤ 2147483647) (v3 : Int) (e3 : v3 = fx_sub v2 1) (v4 : Int) (S1 : fx_S) (k1 : fx_Sok S1) (b4 : -2147483648 ≤ v4 ∧ v4 ≤ 2147483647) (p1 : s114 S x1 0 v3 v4 S1) (c1 : v4 ≠ 0) (v5 : Int) (S2 : fx_S) (k2 : fx_Sok S2) (b5 : -2147483648 ≤ v5 ∧ v5 ≤ 2147483647) (p2 : s114 S1 x2 0 3599 v5 S2) (c2 : v5 = 0) : s43 S x1 x2 (-2000000000) S2 := by
  obtain ⟨rfl, p1⟩ := p1
  obtain ⟨rfl, p2⟩ := p2
  exact rfl
theorem q44_0 (S : fx_S) (x1 x2 : Int) (hS : fx_Sok S) (g1 : -2147483648 ≤ x1 ∧ x1 ≤ 2147483647) (g2 : -2147483648 ≤ x2 ∧ x2 ≤ 2147483647) (v2 : Int) (e2 : v2 = S.1 67 2) (b2 : -2147483648 ≤ v2 ∧ v2 ≤ 2147483647) (v3 : Int) (e3 : v3 = fx_sub v2 1) (v4 : Int) (S1 : fx_S) (k1 : fx_Sok S1) (b4 : -2147483648 ≤ v4 ∧ v4 ≤ 2147483647) (p1 : s113 S x1 0 v3 v4 S1) (c1 : v4 = 0) : s44 S x1 x2 (-2000000000) S1 := by
  obtain ⟨rfl, p1⟩ := p1
  exact rfl
theorem q44_1 (S : fx_S) (x1 x2 : Int) (hS : fx_Sok S) (g1 : -2147483648 ≤ x1 ∧ x1 ≤ 2147483647) (g2 : -2147483648 ≤ x2 ∧ x2 ≤ 2147483647) (v2 : Int) (e2 : v2 = S.1 67 2) (b2 : -2147483648 ≤ v2 ∧ v2 ≤ 2147483647) (v3 : Int) (e3 : v3 = fx_sub v2 1) (v4 : Int) (S1 : fx_S) (k1 : fx_Sok S1) (b4 : -2147483648 ≤ v4 ∧ v4 ≤ 2147483647) (p1 : s113 S x1 0 v3 v4 S1) (c1 : v4 ≠ 0) (v5 : Int) (S2 : fx_S) (k2 : fx_Sok S2) (b5 : -2147483648 ≤ v5 ∧ v5 ≤ 2147483647) (p2 : s113 S1 x2 0 3599 v5 S2) (c2 : v5 ≠ 0) (v6 : Int) (e6 : v6 = S2.1 67 0) (b6 : -2147483648 ≤ v6 ∧ v6 ≤ 2147483647) (v7 : Int) (S3 : fx_S) (k3 : fx_Sok S3) (b7 : -2147483648 ≤ v7 ∧ v7 ≤ 2147483647) (p3 : s144 S2 x1 x2 v6 v7 S3) (v8 : Int) (e8 : v8 = fx_neg v7) (z : Int) (Z : fx_S) (kz : fx_Sok Z) (bz : -2147483648 ≤ z ∧ z ≤ 2147483647) (pz : s147 S3 x1 x2 v8 7148 z Z) : s44 S x1 x2 z Z := by
  obtain ⟨rfl, p1⟩ := p1
  obtain ⟨rfl, p2⟩ := p2
  obtain rfl : S = S3 := p3
  obtain rfl : S = Z := pz
  exact rfl
theorem q44_2 (S : fx_S) (x1 x2 : Int) (hS : fx_Sok S) (g1 : -2147483648 ≤ x1 ∧ x1 ≤ 2147483647) (g2 : -2147483648 ≤ x2 ∧ x2 ≤ 2147483647) (v2 : Int) (e2 : v2 = S.1 67 2) (b2 : -2147483648 ≤ v2 ∧ v2 ≤ 2147483647) (v3 : Int) (e3 : v3 = fx_sub v2 1) (v4 : Int) (S1 : fx_S) (k1 : fx_Sok S1) (b4 : -2147483648 ≤ v4 ∧ v4 ≤ 2147483647) (p1 : s113 S x1 0 v3 v4 S1) (c1 : v4 ≠ 0) (v5 : Int) (S2 : fx_S) (k2 : fx_Sok S2) (b5 : -2147483648 ≤ v5 ∧ v5 ≤ 2147483647) (p2 : s113 S1 x2 0 3599 v5 S2) (c2 : v5 = 0) : s44 S x1 x2 (-2000000000) S2 := by
  obtain ⟨rfl, p1⟩ := p1
  obtain ⟨rfl, p2⟩ := p2
  exact rfl
theorem q45_0 (S : fx_S) (x1 : Int) (hS : fx_Sok S) (g1 : -2147483648 ≤ x1 ∧ x1 ≤ 2147483647) (v1 : Int) (S1 : fx_S) (k1 : fx_Sok S1) (b1 : -2147483648 ≤ v1 ∧ v1 ≤ 2147483647) (p1 : s114 S x1 1 99999 v1 S1) (c1 : v1 ≠ 0) (v2 : Int) (S2 : fx_S) (k2 : fx_Sok S2) (b2 : -2147483648 ≤ v2 ∧ v2 ≤ 2147483647) (p2 : s148 S1  v2 S2) (c2 : 0 < v2) (v3 : Int) (S3 : fx_S) (k3 : fx_Sok S3) (b3 : v3 = 0) (p3 : s149 S2 x1 v2 v3 S3) (v4 : Int) (S4 : fx_S) (k4 : fx_Sok S4) (b4 : -2147483648 ≤ v4 ∧ v4 ≤ 2147483647) (p4 : s150 S3  v4 S4) (c3 : v4 ≠ 0) (v5 : Int) (S5 : fx_S) (k5 : fx_Sok S5) (b5 : v5 = 0) (p5 : s151 S4 x1 v5 S5) (v6 : Int) (S6 : fx_S) (k6 : fx_Sok S6) (b6 : -2147483648 ≤ v6 ∧ v6 ≤ 2147483647) (p6 : s152 S5  v6 S6) : s45 S x1 v6 S6 := by
  obtain ⟨rfl, p1⟩ := p1
  obtain ⟨r2, f2⟩ := p2
  obtain ⟨r3, f3⟩ := p3
  obtain rfl : S3 = S4 := p4
  obtain ⟨r5, f5⟩ := p5
  obtain rfl : S5 = S6 := p6
  refine ⟨(r5).trans ((r3).trans (r2)), ?_⟩
  · intro p i hW
    clear b6 b5 c3 b4 b3 c2 b2 c1 b1
    exact ((f5 p i (by omega))).trans (((f3 p i (by omega))).trans ((f2 p i (by omega))))
theorem q45_1 (S : fx_S) (x1 : Int) (hS : fx_Sok S) (g1 : -2147483648 ≤ x1 ∧ x1 ≤ 2147483647) (v1 : Int) (S1 : fx_S) (k1 : fx_Sok S1) (b1 : -2147483648 ≤ v1 ∧ v1 ≤ 2147483647) (p1 : s114 S x1 1 99999 v1 S1) (c1 : v1 ≠ 0) (v2 : Int) (S2 : fx_S) (k2 : fx_Sok S2) (b2 : -2147483648 ≤ v2 ∧ v2 ≤ 2147483647) (p2 : s148 S1  v2 S2) (c2 : 0 < v2) (v3 : Int) (S3 : fx_S) (k3 : fx_Sok S3) (b3 : v3 = 0) (p3 : s149 S2 x1 v2 v3 S3) (v4 : Int) (S4 : fx_S) (k4 : fx_Sok S4) (b4 : -2147483648 ≤ v4 ∧ v4 ≤ 2147483647) (p4 : s150 S3  v4 S4) (c3 : v4 = 0) : s45 S x1 (-5) S4 := by
  obtain ⟨rfl, p1⟩ := p1
  obtain ⟨r2, f2⟩ := p2
  obtain ⟨r3, f3⟩ := p3
  obtain rfl : S3 = S4 := p4
  refine ⟨(r3).trans (r2), ?_⟩
  · intro p i hW
    clear c3 b4 b3 c2 b2 c1 b1
    exact ((f3 p i (by omega))).trans ((f2 p i (by omega)))
theorem q45_2 (S : fx_S) (x1 : Int) (hS : fx_Sok S) (g1 : -2147483648 ≤ x1 ∧ x1 ≤ 2147483647) (v1 : Int) (S1 : fx_S) (k1 : fx_Sok S1) (b1 : -2147483648 ≤ v1 ∧ v1 ≤ 2147483647) (p1 : s114 S x1 1 99999 v1 S1) (c1 : v1 ≠ 0) (v2 : Int) (S2 : fx_S) (k2 : fx_Sok S2) (b2 : -2147483648 ≤ v2 ∧ v2 ≤ 2147483647) (p2 : s148 S1  v2 S2) (c2 : v2 ≤ 0) : s45 S x1 (-5) S2 := by
  obtain ⟨rfl, p1⟩ := p1
  obtain ⟨r2, f2⟩ := p2
  refine ⟨r2, ?_⟩
  · intro p i hW
    clear c2 b2 c1 b1
    exact (f2 p i (by omega))
theorem q45_3 (S : fx_S) (x1 : Int) (hS : fx_Sok S) (g1 : -2147483648 ≤ x1 ∧ x1 ≤ 2147483647) (v1 : Int) (S1 : fx_S) (k1 : fx_Sok S1) (b1 : -2147483648 ≤ v1 ∧ v1 ≤ 2147483647) (p1 : s114 S x1 1 99999 v1 S1) (c1 : v1 = 0) : s45 S x1 (-2) S1 := by
  obtain ⟨rfl, p1⟩ := p1
  refine ⟨rfl, ?_⟩
  · intro p i hW
    clear c1 b1
    exact rfl
theorem q46_0 (S : fx_S) (x1 : Int) (hS : fx_Sok S) (g1 : -2147483648 ≤ x1 ∧ x1 ≤ 2147483647) (v1 : Int) (S1 : fx_S) (k1 : fx_Sok S1) (b1 : -2147483648 ≤ v1 ∧ v1 ≤ 2147483647) (p1 : s113 S x1 1 99999 v1 S1) (c1 : v1 ≠ 0) (z : Int) (Z : fx_S) (kz : fx_Sok Z) (bz : -2147483648 ≤ z ∧ z ≤ 2147483647) (pz : s153 S1 x1 0 0 z Z) : s46 S x1 z Z := by
  obtain ⟨rfl, p1⟩ := p1
  unfold s153 at pz
  unfold s46
  intro hB
  have BS := hB
  have NS := fx_WB_n BS
  have m1 := fx_in01 p1
  obtain ⟨rZ, fZ, BZ⟩ := pz BS
  refine ⟨rZ, ?_, BZ⟩
  · intro p i hW
    exact (fZ p i (by omega))
