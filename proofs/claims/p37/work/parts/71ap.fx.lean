/-! FX: what is to be shown of the entries -/
theorem q176_12 (S : fx_S) (x2 x3 x4 x5 x6 : Int) (hS : fx_Sok S) (g2 : -2147483648 ≤ x2 ∧ x2 ≤ 2147483647) (g3 : -2147483648 ≤ x3 ∧ x3 ≤ 2147483647) (g4 : -2147483648 ≤ x4 ∧ x4 ≤ 2147483647) (g5 : -2147483648 ≤ x5 ∧ x5 ≤ 2147483647) (g6 : -2147483648 ≤ x6 ∧ x6 ≤ 2147483647) (c1 : x3 ≠ 0) (c2 : x6 ≤ x4) (c3 : x3 = 0) (v5 : Int) (e5 : v5 = fx_add x4 x6) (c4 : x3 ≠ 0) (v6 : Int) (e6 : v6 = fx_add x5 x6) (v7 : Int) (S1 : fx_S) (k1 : fx_Sok S1) (b7 : -2147483648 ≤ v7 ∧ v7 ≤ 2147483647) (p1 : s167 S v5 v6 x2 v7 S1) (c5 : v7 = x3) (v8 : Int) (e8 : v8 = fx_add x6 1) (z : Int) (Z : fx_S) (kz : fx_Sok Z) (bz : -2147483648 ≤ z ∧ z ≤ 2147483647) (pz : s176 S1 x2 x3 x4 x5 v8 z Z) : s176 S x2 x3 x4 x5 x6 z Z := by
  obtain rfl : S = S1 := p1
  obtain rfl : S = Z := pz
  exact rfl
theorem q176_13 (S : fx_S) (x2 x3 x4 x5 x6 : Int) (hS : fx_Sok S) (g2 : -2147483648 ≤ x2 ∧ x2 ≤ 2147483647) (g3 : -2147483648 ≤ x3 ∧ x3 ≤ 2147483647) (g4 : -2147483648 ≤ x4 ∧ x4 ≤ 2147483647) (g5 : -2147483648 ≤ x5 ∧ x5 ≤ 2147483647) (g6 : -2147483648 ≤ x6 ∧ x6 ≤ 2147483647) (c1 : x3 ≠ 0) (c2 : x6 ≤ x4) (c3 : x3 = 0) (v5 : Int) (e5 : v5 = fx_add x4 x6) (c4 : x3 ≠ 0) (v6 : Int) (e6 : v6 = fx_add x5 x6) (v7 : Int) (S1 : fx_S) (k1 : fx_Sok S1) (b7 : -2147483648 ≤ v7 ∧ v7 ≤ 2147483647) (p1 : s167 S v5 v6 x2 v7 S1) (c5 : v7 ≠ x3) : s176 S x2 x3 x4 x5 x6 x6 S1 := by
  obtain rfl : S = S1 := p1
  exact rfl
theorem q176_14 (S : fx_S) (x2 x3 x4 x5 x6 : Int) (hS : fx_Sok S) (g2 : -2147483648 ≤ x2 ∧ x2 ≤ 2147483647) (g3 : -2147483648 ≤ x3 ∧ x3 ≤ 2147483647) (g4 : -2147483648 ≤ x4 ∧ x4 ≤ 2147483647) (g5 : -2147483648 ≤ x5 ∧ x5 ≤ 2147483647) (g6 : -2147483648 ≤ x6 ∧ x6 ≤ 2147483647) (c1 : x3 ≠ 0) (c2 : x6 ≤ x4) (c3 : x3 ≠ 0) (v5 : Int) (e5 : v5 = fx_sub x4 x6) (c4 : x3 = 0) (v6 : Int) (e6 : v6 = fx_sub x5 x6) (v7 : Int) (S1 : fx_S) (k1 : fx_Sok S1) (b7 : -2147483648 ≤ v7 ∧ v7 ≤ 2147483647) (p1 : s167 S v5 v6 x2 v7 S1) (c5 : v7 = x3) (v8 : Int) (e8 : v8 = fx_add x6 1) (z : Int) (Z : fx_S) (kz : fx_Sok Z) (bz : -2147483648 ≤ z ∧ z ≤ 2147483647) (pz : s176 S1 x2 x3 x4 x5 v8 z Z) : s176 S x2 x3 x4 x5 x6 z Z := by
  obtain rfl : S = S1 := p1
  obtain rfl : S = Z := pz
  exact rfl
theorem q176_15 (S : fx_S) (x2 x3 x4 x5 x6 : Int) (hS : fx_Sok S) (g2 : -2147483648 ≤ x2 ∧ x2 ≤ 2147483647) (g3 : -2147483648 ≤ x3 ∧ x3 ≤ 2147483647) (g4 : -2147483648 ≤ x4 ∧ x4 ≤ 2147483647) (g5 : -2147483648 ≤ x5 ∧ x5 ≤ 2147483647) (g6 : -2147483648 ≤ x6 ∧ x6 ≤ 2147483647) (c1 : x3 ≠ 0) (c2 : x6 ≤ x4) (c3 : x3 ≠ 0) (v5 : Int) (e5 : v5 = fx_sub x4 x6) (c4 : x3 = 0) (v6 : Int) (e6 : v6 = fx_sub x5 x6) (v7 : Int) (S1 : fx_S) (k1 : fx_Sok S1) (b7 : -2147483648 ≤ v7 ∧ v7 ≤ 2147483647) (p1 : s167 S v5 v6 x2 v7 S1) (c5 : v7 ≠ x3) : s176 S x2 x3 x4 x5 x6 x6 S1 := by
  obtain rfl : S = S1 := p1
  exact rfl
theorem q176_16 (S : fx_S) (x2 x3 x4 x5 x6 : Int) (hS : fx_Sok S) (g2 : -2147483648 ≤ x2 ∧ x2 ≤ 2147483647) (g3 : -2147483648 ≤ x3 ∧ x3 ≤ 2147483647) (g4 : -2147483648 ≤ x4 ∧ x4 ≤ 2147483647) (g5 : -2147483648 ≤ x5 ∧ x5 ≤ 2147483647) (g6 : -2147483648 ≤ x6 ∧ x6 ≤ 2147483647) (c1 : x3 ≠ 0) (c2 : x6 ≤ x4) (c3 : x3 ≠ 0) (v5 : Int) (e5 : v5 = fx_sub x4 x6) (c4 : x3 ≠ 0) (v6 : Int) (e6 : v6 = fx_add x5 x6) (v7 : Int) (S1 : fx_S) (k1 : fx_Sok S1) (b7 : -2147483648 ≤ v7 ∧ v7 ≤ 2147483647) (p1 : s167 S v5 v6 x2 v7 S1) (c5 : v7 = x3) (v8 : Int) (e8 : v8 = fx_add x6 1) (z : Int) (Z : fx_S) (kz : fx_Sok Z) (bz : -2147483648 ≤ z ∧ z ≤ 2147483647) (pz : s176 S1 x2 x3 x4 x5 v8 z Z) : s176 S x2 x3 x4 x5 x6 z Z := by
  obtain rfl : S = S1 := p1
  obtain rfl : S = Z := pz
  exact rfl
theorem q176_17 (S : fx_S) (x2 x3 x4 x5 x6 : Int) (hS : fx_Sok S) (g2 : -2147483648 ≤ x2 ∧ x2 ≤ 2147483647) (g3 : -2147483648 ≤ x3 ∧ x3 ≤ 2147483647) (g4 : -2147483648 ≤ x4 ∧ x4 ≤ 2147483647) (g5 : -2147483648 ≤ x5 ∧ x5 ≤ 2147483647) (g6 : -2147483648 ≤ x6 ∧ x6 ≤ 2147483647) (c1 : x3 ≠ 0) (c2 : x6 ≤ x4) (c3 : x3 ≠ 0) (v5 : Int) (e5 : v5 = fx_sub x4 x6) (c4 : x3 ≠ 0) (v6 : Int) (e6 : v6 = fx_add x5 x6) (v7 : Int) (S1 : fx_S) (k1 : fx_Sok S1) (b7 : -2147483648 ≤ v7 ∧ v7 ≤ 2147483647) (p1 : s167 S v5 v6 x2 v7 S1) (c5 : v7 ≠ x3) : s176 S x2 x3 x4 x5 x6 x6 S1 := by
  obtain rfl : S = S1 := p1
  exact rfl
theorem q177_0 (S : fx_S) (x1 : Int) (hS : fx_Sok S) (g1 : -2147483648 ≤ x1 ∧ x1 ≤ 2147483647) (z : Int) (Z : fx_S) (kz : fx_Sok Z) (bz : -2147483648 ≤ z ∧ z ≤ 2147483647) (pz : s263 S x1 0 z Z) : s177 S x1 z Z := by
  obtain ⟨rZ, fZ⟩ := pz
  refine ⟨rZ, ?_⟩
  · intro p i hW
    exact (fZ p i (by omega))
theorem q178_0 (S : fx_S) (x3 x4 : Int) (hS : fx_Sok S) (g3 : -2147483648 ≤ x3 ∧ x3 ≤ 2147483647) (g4 : -2147483648 ≤ x4 ∧ x4 ≤ 2147483647) (c1 : 10 < x4) : s178 S x3 x4 x3 S := by
  refine ⟨rfl, ?_⟩
  · intro p i hW
    clear c1
    exact rfl
theorem q178_1 (S : fx_S) (x3 x4 : Int) (hS : fx_Sok S) (g3 : -2147483648 ≤ x3 ∧ x3 ≤ 2147483647) (g4 : -2147483648 ≤ x4 ∧ x4 ≤ 2147483647) (c1 : x4 ≤ 10) (v2 : Int) (S1 : fx_S) (k1 : fx_Sok S1) (b2 : -2147483648 ≤ v2 ∧ v2 ≤ 2147483647) (p1 : s264 S  v2 S1) (v3 : Int) (S2 : fx_S) (k2 : fx_Sok S2) (b3 : -2147483648 ≤ v3 ∧ v3 ≤ 2147483647) (p2 : s265 S1  v3 S2) (v4 : Int) (e4 : v4 = fx_add v2 v3) (v5 : Int) (e5 : v5 = fx_add x3 v4) (v6 : Int) (e6 : v6 = fx_add x4 1) (z : Int) (Z : fx_S) (kz : fx_Sok Z) (bz : -2147483648 ≤ z ∧ z ≤ 2147483647) (pz : s178 S2 v5 v6 z Z) : s178 S x3 x4 z Z := by
  obtain ⟨r1, f1⟩ := p1
  obtain ⟨r2, f2⟩ := p2
  obtain ⟨rZ, fZ⟩ := pz
  refine ⟨(rZ).trans ((r2).trans (r1)), ?_⟩
  · intro p i hW
    clear e6 e5 e4 b3 b2 c1
    exact ((fZ p i (by omega))).trans (((f2 p i (by omega))).trans ((f1 p i (by omega))))
theorem q179_0 (S : fx_S) (hS : fx_Sok S) (z : Int) (Z : fx_S) (kz : fx_Sok Z) (bz : -2147483648 ≤ z ∧ z ≤ 2147483647) (pz : s266 S 0 1 z Z) : s179 S  z Z := by
  unfold s266 at pz
  unfold s179
  intro hB
  have BS := hB
  have NS := fx_WB_n BS
  obtain ⟨rZ, fZ, BZ⟩ := pz BS
  refine ⟨rZ, ?_, BZ⟩
  · intro p i hW
    exact (fZ p i (by omega))
theorem q180_0 (S : fx_S) (x1 : Int) (hS : fx_Sok S) (g1 : -2147483648 ≤ x1 ∧ x1 ≤ 2147483647) (z : Int) (Z : fx_S) (kz : fx_Sok Z) (bz : z = 0) (pz : s267 S x1 0 z Z) : s180 S x1 z Z := by
  obtain ⟨rZ, fZ⟩ := pz
  refine ⟨rZ, ?_⟩
  · intro p i hW
    exact (fZ p i (by omega))
theorem q181_0 (S : fx_S) (x1 x2 : Int) (hS : fx_Sok S) (g1 : -2147483648 ≤ x1 ∧ x1 ≤ 2147483647) (g2 : -2147483648 ≤ x2 ∧ x2 ≤ 2147483647) (z : Int) (Z : fx_S) (kz : fx_Sok Z) (bz : -2147483648 ≤ z ∧ z ≤ 2147483647) (pz : s268 S x1 x2 0 0 z Z) : s181 S x1 x2 z Z := by
  obtain rfl : S = Z := pz
  exact rfl
theorem q182_0 (S : fx_S) (x1 : Int) (hS : fx_Sok S) (g1 : -2147483648 ≤ x1 ∧ x1 ≤ 2147483647) (z : Int) (Z : fx_S) (kz : fx_Sok Z) (bz : z = 0) (pz : s269 S x1 0 z Z) : s182 S x1 z Z := by
  obtain ⟨rZ, fZ⟩ := pz
  refine ⟨rZ, ?_⟩
  · intro p i hW
    exact (fZ p i (by omega))
theorem q183_0 (S : fx_S) (x1 x2 : Int) (hS : fx_Sok S) (g1 : -2147483648 ≤ x1 ∧ x1 ≤ 2147483647) (g2 : -2147483648 ≤ x2 ∧ x2 ≤ 2147483647) (v2 : Int) (S1 : fx_S) (k1 : fx_Sok S1) (b2 : -2147483648 ≤ v2 ∧ v2 ≤ 2147483647) (p1 : s124 S x1 x2 v2 S1) (v3 : Int) (S2 : fx_S) (k2 : fx_Sok S2) (b3 : -2147483648 ≤ v3 ∧ v3 ≤ 2147483647) (p2 : s175 S1 v2 4 0 3 v3 S2) (v4 : Int) (e4 : v4 = fx_mul 30 v3) (c1 : v4 ≠ 0) (v5 : Int) (e5 : v5 = fx_div x1 v4) (z : Int) (Z : fx_S) (kz : fx_Sok Z) (bz : -2147483648 ≤ z ∧ z ≤ 2147483647) (pz : s270 S2 x1 v5 0 z Z) : s183 S x1 x2 z Z := by
  obtain ⟨rfl, p1⟩ := p1
  obtain rfl : S = S2 := p2
  obtain rfl : S = Z := pz
  exact rfl
theorem q184_0 (S : fx_S) (x1 x3 x4 : Int) (hS : fx_Sok S) (g1 : -2147483648 ≤ x1 ∧ x1 ≤ 2147483647) (g3 : -2147483648 ≤ x3 ∧ x3 ≤ 2147483647) (g4 : -2147483648 ≤ x4 ∧ x4 ≤ 2147483647) (c1 : 3600 ≤ x4) : s184 S x1 x3 x4 (-1) S := by
  exact rfl
theorem q184_1 (S : fx_S) (x1 x3 x4 : Int) (hS : fx_Sok S) (g1 : -2147483648 ≤ x1 ∧ x1 ≤ 2147483647) (g3 : -2147483648 ≤ x3 ∧ x3 ≤ 2147483647) (g4 : -2147483648 ≤ x4 ∧ x4 ≤ 2147483647) (c1 : x4 < 3600) (c2 : 3600 ≤ x3) : s184 S x1 x3 x4 (-1) S := by
  exact rfl
theorem q184_2 (S : fx_S) (x1 x3 x4 : Int) (hS : fx_Sok S) (g1 : -2147483648 ≤ x1 ∧ x1 ≤ 2147483647) (g3 : -2147483648 ≤ x3 ∧ x3 ≤ 2147483647) (g4 : -2147483648 ≤ x4 ∧ x4 ≤ 2147483647) (c1 : x4 < 3600) (c2 : x3 < 3600) (v3 : Int) (e3 : v3 = S.1 1 0) (b3 : -2147483648 ≤ v3 ∧ v3 ≤ 2147483647) (v4 : Int) (S1 : fx_S) (k1 : fx_Sok S1) (b4 : -2147483648 ≤ v4 ∧ v4 ≤ 2147483647) (p1 : s181 S x3 v3 v4 S1) (c3 : v4 ≠ x1) (v5 : Int) (S2 : fx_S) (k2 : fx_Sok S2) (b5 : -2147483648 ≤ v5 ∧ v5 ≤ 2147483647) (p2 : s271 S1 x3 v5 S2) (v6 : Int) (e6 : v6 = fx_add x4 1) (z : Int) (Z : fx_S) (kz : fx_Sok Z) (bz : -2147483648 ≤ z ∧ z ≤ 2147483647) (pz : s184 S2 x1 v5 v6 z Z) : s184 S x1 x3 x4 z Z := by
  obtain rfl : S = S1 := p1
  obtain rfl : S = S2 := p2
  obtain rfl : S = Z := pz
  exact rfl
theorem q184_3 (S : fx_S) (x1 x3 x4 : Int) (hS : fx_Sok S) (g1 : -2147483648 ≤ x1 ∧ x1 ≤ 2147483647) (g3 : -2147483648 ≤ x3 ∧ x3 ≤ 2147483647) (g4 : -2147483648 ≤ x4 ∧ x4 ≤ 2147483647) (c1 : x4 < 3600) (c2 : x3 < 3600) (v3 : Int) (e3 : v3 = S.1 1 0) (b3 : -2147483648 ≤ v3 ∧ v3 ≤ 2147483647) (v4 : Int) (S1 : fx_S) (k1 : fx_Sok S1) (b4 : -2147483648 ≤ v4 ∧ v4 ≤ 2147483647) (p1 : s181 S x3 v3 v4 S1) (c3 : v4 = x1) : s184 S x1 x3 x4 x3 S1 := by
  obtain rfl : S = S1 := p1
  exact rfl
theorem q185_0 (S : fx_S) (x1 x3 : Int) (hS : fx_Sok S) (g1 : -2147483648 ≤ x1 ∧ x1 ≤ 2147483647) (g3 : -2147483648 ≤ x3 ∧ x3 ≤ 2147483647) (c1 : 3599 < x3) : s185 S x1 x3 (-1) S := by
  exact rfl
theorem q185_1 (S : fx_S) (x1 x3 : Int) (hS : fx_Sok S) (g1 : -2147483648 ≤ x1 ∧ x1 ≤ 2147483647) (g3 : -2147483648 ≤ x3 ∧ x3 ≤ 2147483647) (c1 : x3 ≤ 3599) (v2 : Int) (e2 : v2 = S.1 67 0) (b2 : -2147483648 ≤ v2 ∧ v2 ≤ 2147483647) (v3 : Int) (S1 : fx_S) (k1 : fx_Sok S1) (b3 : -2147483648 ≤ v3 ∧ v3 ≤ 2147483647) (p1 : s183 S x3 v2 v3 S1) (c2 : v3 ≠ x1) (v4 : Int) (e4 : v4 = fx_add x3 1) (z : Int) (Z : fx_S) (kz : fx_Sok Z) (bz : -2147483648 ≤ z ∧ z ≤ 2147483647) (pz : s185 S1 x1 v4 z Z) : s185 S x1 x3 z Z := by
  obtain rfl : S = S1 := p1
  obtain rfl : S = Z := pz
  exact rfl
theorem q185_2 (S : fx_S) (x1 x3 : Int) (hS : fx_Sok S) (g1 : -2147483648 ≤ x1 ∧ x1 ≤ 2147483647) (g3 : -2147483648 ≤ x3 ∧ x3 ≤ 2147483647) (c1 : x3 ≤ 3599) (v2 : Int) (e2 : v2 = S.1 67 0) (b2 : -2147483648 ≤ v2 ∧ v2 ≤ 2147483647) (v3 : Int) (S1 : fx_S) (k1 : fx_Sok S1) (b3 : -2147483648 ≤ v3 ∧ v3 ≤ 2147483647) (p1 : s183 S x3 v2 v3 S1) (c2 : v3 = x1) : s185 S x1 x3 x3 S1 := by
  obtain rfl : S = S1 := p1
  exact rfl
theorem q186_0 (S : fx_S) (x1 x2 x3 : Int) (hS : fx_Sok S) (g1 : -2147483648 ≤ x1 ∧ x1 ≤ 2147483647) (g2 : -2147483648 ≤ x2 ∧ x2 ≤ 2147483647) (g3 : -2147483648 ≤ x3 ∧ x3 ≤ 2147483647) (v3 : Int) (e3 : v3 = S.1 38 0) (b3 : -2147483648 ≤ v3 ∧ v3 ≤ 2147483647) (c1 : v3 < 12) (v4 : Int) (e4 : v4 = S.1 38 0) (b4 : -2147483648 ≤ v4 ∧ v4 ≤ 2147483647) (c2 : 0 ≤ v4) (c3 : v4 < 12) (S1 : fx_S) (d1 : S1 = (fx_up S.1 39 v4 x1, S.2)) (v5 : Int) (e5 : v5 = S1.1 38 0) (b5 : -2147483648 ≤ v5 ∧ v5 ≤ 2147483647) (c4 : 0 ≤ v5) (c5 : v5 < 12) (S2 : fx_S) (d2 : S2 = (fx_up S1.1 40 v5 x2, S1.2)) (v6 : Int) (e6 : v6 = S2.1 38 0) (b6 : -2147483648 ≤ v6 ∧ v6 ≤ 2147483647) (c6 : 0 ≤ v6) (c7 : v6 < 12) (S3 : fx_S) (d3 : S3 = (fx_up S2.1 41 v6 x3, S2.2)) (v7 : Int) (e7 : v7 = S3.1 38 0) (b7 : -2147483648 ≤ v7 ∧ v7 ≤ 2147483647) (c8 : 0 ≤ v7) (c9 : v7 < 12) (S4 : fx_S) (d4 : S4 = (fx_up S3.1 42 v7 (-1), S3.2)) (v8 : Int) (e8 : v8 = S4.1 38 0) (b8 : -2147483648 ≤ v8 ∧ v8 ≤ 2147483647) (v9 : Int) (e9 : v9 = fx_add v8 1) (S5 : fx_S) (d5 : S5 = (fx_up S4.1 38 0 v9, S4.2)) (v10 : Int) (e10 : v10 = S5.1 38 0) (b10 : -2147483648 ≤ v10 ∧ v10 ≤ 2147483647) (v11 : Int) (e11 : v11 = fx_sub v10 1) : s186 S x1 x2 x3 v11 S5 := by
  refine ⟨((show S5.2 = S4.2 by rw [d5])).trans (((show S4.2 = S3.2 by rw [d4])).trans (((show S3.2 = S2.2 by rw [d3])).trans (((show S2.2 = S1.2 by rw [d2])).trans ((show S1.2 = S.2 by rw [d1]))))), ?_, ?_⟩
  · intro p i hW
    clear e11 b10 e10 e9 b8 e8 c9 c8 b7 e7 c7 c6 b6 e6 c5 c4 b5 e5 c3 c2 b4 e4 c1 b3 e3
    exact ((show S5.1 p i = S4.1 p i by rw [d5]; exact if_neg (by omega))).trans (((show S4.1 p i = S3.1 p i by rw [d4]; exact if_neg (by omega))).trans (((show S3.1 p i = S2.1 p i by rw [d3]; exact if_neg (by omega))).trans (((show S2.1 p i = S1.1 p i by rw [d2]; exact if_neg (by omega))).trans ((show S1.1 p i = S.1 p i by rw [d1]; exact if_neg (by omega))))))
  · skip
    obtain rfl : v3 = v4 := by rw [e4, e3]
    have t5_1 : S1.1 38 0 = S.1 38 0 := by rw [d1]; first | exact if_neg (by omega) | rfl
    rw [t5_1] at e5
    obtain rfl : v3 = v5 := by rw [e5, e3]
    have t6_2 : S2.1 38 0 = S1.1 38 0 := by rw [d2]; first | exact if_neg (by omega) | rfl
    rw [t6_2] at e6
    have t6_1 : S1.1 38 0 = S.1 38 0 := by rw [d1]; first | exact if_neg (by omega) | rfl
    rw [t6_1] at e6
    obtain rfl : v3 = v6 := by rw [e6, e3]
    have t7_3 : S3.1 38 0 = S2.1 38 0 := by rw [d3]; first | exact if_neg (by omega) | rfl
    rw [t7_3] at e7
    have t7_2 : S2.1 38 0 = S1.1 38 0 := by rw [d2]; first | exact if_neg (by omega) | rfl
    rw [t7_2] at e7
    have t7_1 : S1.1 38 0 = S.1 38 0 := by rw [d1]; first | exact if_neg (by omega) | rfl
    rw [t7_1] at e7
    obtain rfl : v3 = v7 := by rw [e7, e3]
    have t8_4 : S4.1 38 0 = S3.1 38 0 := by rw [d4]; first | exact if_neg (by omega) | rfl
    rw [t8_4] at e8
    have t8_3 : S3.1 38 0 = S2.1 38 0 := by rw [d3]; first | exact if_neg (by omega) | rfl
    rw [t8_3] at e8
    have t8_2 : S2.1 38 0 = S1.1 38 0 := by rw [d2]; first | exact if_neg (by omega) | rfl
    rw [t8_2] at e8
    have t8_1 : S1.1 38 0 = S.1 38 0 := by rw [d1]; first | exact if_neg (by omega) | rfl
    rw [t8_1] at e8
    obtain rfl : v3 = v8 := by rw [e8, e3]
    have h9 := e9
    first | rw [fx_add_eq (by omega) (by omega)] at h9 | skip
    have t10_5 : S5.1 38 0 = v9 := by rw [d5]; first | exact if_pos ⟨rfl, by omega⟩ | rfl
    rw [t10_5] at e10
    obtain rfl : v9 = v10 := e10.symm
    have h11 := e11
    first | rw [fx_sub_eq (by omega) (by omega)] at h11 | skip
    refine .inr ⟨by omega, by omega, ?_, fun i => ?_⟩
    · rw [d5]
      show v9 = S.1 38 0 + 1
      omega
    · by_cases hi : i = S.1 38 0
      · refine ⟨?_, ?_, ?_, ?_⟩
        all_goals (subst d5; subst d4; subst d3; subst d2; subst d1; dsimp only [fx_up]; repeat (first | rw [if_pos (by omega)] | rw [if_neg (by omega)]))
        all_goals omega
      · refine ⟨?_, ?_, ?_, ?_⟩
        all_goals (subst d5; subst d4; subst d3; subst d2; subst d1; dsimp only [fx_up]; repeat (first | rw [if_pos (by omega)] | rw [if_neg (by omega)]))
        all_goals omega
theorem q186_1 (S : fx_S) (x1 x2 x3 : Int) (hS : fx_Sok S) (g1 : -2147483648 ≤ x1 ∧ x1 ≤ 2147483647) (g2 : -2147483648 ≤ x2 ∧ x2 ≤ 2147483647) (g3 : -2147483648 ≤ x3 ∧ x3 ≤ 2147483647) (v3 : Int) (e3 : v3 = S.1 38 0) (b3 : -2147483648 ≤ v3 ∧ v3 ≤ 2147483647) (c1 : 12 ≤ v3) : s186 S x1 x2 x3 (-3) S := by
  refine ⟨rfl, ?_, ?_⟩
  · intro p i hW
    clear c1 b3 e3
    exact rfl
  · skip
    exact .inl ⟨rfl, by omega, rfl⟩
theorem q187_0 (S : fx_S) (x1 : Int) (hS : fx_Sok S) (g1 : -2147483648 ≤ x1 ∧ x1 ≤ 2147483647) (c1 : 0 ≤ x1) (c2 : x1 < 12) (v1 : Int) (e1 : v1 = S.1 40 x1) (b1 : -2147483648 ≤ v1 ∧ v1 ≤ 2147483647) (c3 : 0 ≤ x1) (c4 : x1 < 12) (v2 : Int) (e2 : v2 = S.1 41 x1) (b2 : -2147483648 ≤ v2 ∧ v2 ≤ 2147483647) (v3 : Int) (S1 : fx_S) (k1 : fx_Sok S1) (b3 : -2147483648 ≤ v3 ∧ v3 ≤ 2147483647) (p1 : s125 S v1 v2 v3 S1) (c5 : 0 ≤ x1) (c6 : x1 < 12) (v4 : Int) (e4 : v4 = S1.1 40 x1) (b4 : -2147483648 ≤ v4 ∧ v4 ≤ 2147483647) (c7 : 0 ≤ x1) (c8 : x1 < 12) (v5 : Int) (e5 : v5 = S1.1 41 x1) (b5 : -2147483648 ≤ v5 ∧ v5 ≤ 2147483647) (v6 : Int) (S2 : fx_S) (k2 : fx_Sok S2) (b6 : -2147483648 ≤ v6 ∧ v6 ≤ 2147483647) (p2 : s188 S1 v4 v5 v6 S2) (c9 : 0 ≤ x1) (c10 : x1 < 12) (v7 : Int) (e7 : v7 = S2.1 42 x1) (b7 : -2147483648 ≤ v7 ∧ v7 ≤ 2147483647) (c11 : v7 ≠ (-1)) (c12 : 0 ≤ x1) (c13 : x1 < 12) (v8 : Int) (e8 : v8 = S2.1 42 x1) (b8 : -2147483648 ≤ v8 ∧ v8 ≤ 2147483647) (v9 : Int) (S3 : fx_S) (k3 : fx_Sok S3) (b9 : -2147483648 ≤ v9 ∧ v9 ≤ 2147483647) (p3 : s125 S2 v6 v8 v9 S3) (v10 : Int) (S4 : fx_S) (k4 : fx_Sok S4) (b10 : -2147483648 ≤ v10 ∧ v10 ≤ 2147483647) (p4 : s188 S3 v3 v9 v10 S4) : s187 S x1 v10 S4 := by
  obtain ⟨rfl, p1⟩ := p1
  obtain ⟨rfl, p2⟩ := p2
  obtain ⟨rfl, p3⟩ := p3
  obtain ⟨rfl, p4⟩ := p4
  refine ⟨rfl, ?_⟩
  obtain rfl : v1 = v4 := by rw [e4, e1]
  obtain rfl : v2 = v5 := by rw [e5, e2]
  obtain rfl : v7 = v8 := by rw [e8, e7]
  unfold fx_rent
  rw [← e1, ← e2, ← e7, if_neg c11, p4, p3, p2, p1]
theorem q187_1 (S : fx_S) (x1 : Int) (hS : fx_Sok S) (g1 : -2147483648 ≤ x1 ∧ x1 ≤ 2147483647) (c1 : 0 ≤ x1) (c2 : x1 < 12) (v1 : Int) (e1 : v1 = S.1 40 x1) (b1 : -2147483648 ≤ v1 ∧ v1 ≤ 2147483647) (c3 : 0 ≤ x1) (c4 : x1 < 12) (v2 : Int) (e2 : v2 = S.1 41 x1) (b2 : -2147483648 ≤ v2 ∧ v2 ≤ 2147483647) (v3 : Int) (S1 : fx_S) (k1 : fx_Sok S1) (b3 : -2147483648 ≤ v3 ∧ v3 ≤ 2147483647) (p1 : s125 S v1 v2 v3 S1) (c5 : 0 ≤ x1) (c6 : x1 < 12) (v4 : Int) (e4 : v4 = S1.1 40 x1) (b4 : -2147483648 ≤ v4 ∧ v4 ≤ 2147483647) (c7 : 0 ≤ x1) (c8 : x1 < 12) (v5 : Int) (e5 : v5 = S1.1 41 x1) (b5 : -2147483648 ≤ v5 ∧ v5 ≤ 2147483647) (v6 : Int) (S2 : fx_S) (k2 : fx_Sok S2) (b6 : -2147483648 ≤ v6 ∧ v6 ≤ 2147483647) (p2 : s188 S1 v4 v5 v6 S2) (c9 : 0 ≤ x1) (c10 : x1 < 12) (v7 : Int) (e7 : v7 = S2.1 42 x1) (b7 : -2147483648 ≤ v7 ∧ v7 ≤ 2147483647) (c11 : v7 = (-1)) (v8 : Int) (e8 : v8 = fx_add v3 v6) (v9 : Int) (e9 : v9 = fx_div v8 2) : s187 S x1 v9 S2 := by
  obtain ⟨rfl, p1⟩ := p1
  obtain ⟨rfl, p2⟩ := p2
  refine ⟨rfl, ?_⟩
  obtain rfl : v1 = v4 := by rw [e4, e1]
  obtain rfl : v2 = v5 := by rw [e5, e2]
  have h8 := e8
  first | rw [fx_add_eq (by omega) (by omega)] at h8 | skip
  unfold fx_rent
  rw [← e1, ← e2, ← e7, if_pos c11, e9, e8, p2, p1]
  by_cases h : v1 ≤ v2
  · rw [if_pos h, if_pos h]
  · rw [if_neg h, if_neg h, fx_add_comm]
theorem q188_0 (S : fx_S) (x0 x1 : Int) (hS : fx_Sok S) (g0 : -2147483648 ≤ x0 ∧ x0 ≤ 2147483647) (g1 : -2147483648 ≤ x1 ∧ x1 ≤ 2147483647) (c1 : x0 < x1) : s188 S x0 x1 x1 S := by
  refine ⟨rfl, ?_⟩
  split <;> omega
theorem q188_1 (S : fx_S) (x0 x1 : Int) (hS : fx_Sok S) (g0 : -2147483648 ≤ x0 ∧ x0 ≤ 2147483647) (g1 : -2147483648 ≤ x1 ∧ x1 ≤ 2147483647) (c1 : x1 ≤ x0) : s188 S x0 x1 x0 S := by
  refine ⟨rfl, ?_⟩
  split <;> omega
theorem q189_0 (S : fx_S) (x1 x2 : Int) (hS : fx_Sok S) (g1 : -2147483648 ≤ x1 ∧ x1 ≤ 2147483647) (g2 : -2147483648 ≤ x2 ∧ x2 ≤ 2147483647) (z : Int) (Z : fx_S) (kz : fx_Sok Z) (bz : -2147483648 ≤ z ∧ z ≤ 2147483647) (pz : s272 S x1 x2 0 z Z) : s189 S x1 x2 z Z := by
  obtain ⟨rZ, fZ, pz⟩ := pz
  refine ⟨rZ, ?_, ?_⟩
  · intro p i hW
    exact (fZ p i (by omega))
  · skip
    intro a1 a2
    exact pz (by omega) a1 a2
theorem q190_0 (S : fx_S) (x2 x3 x4 : Int) (hS : fx_Sok S) (g2 : -2147483648 ≤ x2 ∧ x2 ≤ 2147483647) (g3 : -2147483648 ≤ x3 ∧ x3 ≤ 2147483647) (g4 : -2147483648 ≤ x4 ∧ x4 ≤ 2147483647) (c1 : 0 ≤ x3) (c2 : x3 < 8090) (v3 : Int) (e3 : v3 = S.1 67 x3) (b3 : -2147483648 ≤ v3 ∧ v3 ≤ 2147483647) (c3 : v3 ≤ x4) (c4 : 0 ≤ x3) (c5 : x3 < 8090) (v4 : Int) (e4 : v4 = S.1 67 x3) (b4 : -2147483648 ≤ v4 ∧ v4 ≤ 2147483647) (c6 : v4 ≠ 4) (v5 : Int) (e5 : v5 = fx_add x3 1) (c7 : 0 ≤ x3) (c8 : x3 < 8090) (v6 : Int) (e6 : v6 = S.1 67 x3) (b6 : -2147483648 ≤ v6 ∧ v6 ≤ 2147483647) (v7 : Int) (e7 : v7 = fx_add v5 v6) (c9 : 0 ≤ v7) (c10 : v7 < 8090) (S1 : fx_S) (d1 : S1 = (fx_up S.1 67 v7 x2, S.2)) (c11 : 0 ≤ x3) (c12 : x3 < 8090) (v8 : Int) (e8 : v8 = S1.1 67 x3) (b8 : -2147483648 ≤ v8 ∧ v8 ≤ 2147483647) (v9 : Int) (e9 : v9 = fx_add v8 1) (c13 : 0 ≤ x3) (c14 : x3 < 8090) (S2 : fx_S) (d2 : S2 = (fx_up S1.1 67 x3 v9, S1.2)) (c15 : 0 ≤ x3) (c16 : x3 < 8090) (v10 : Int) (e10 : v10 = S2.1 67 x3) (b10 : -2147483648 ≤ v10 ∧ v10 ≤ 2147483647) : s190 S x2 x3 x4 v10 S2 := by
  unfold s190
  intro hB hP
  have hw := fx_WB_w hB (q := (x3 - 305) / 10) (by omega) (by omega)
  rw [show 305 + 10 * ((x3 - 305) / 10) = x3 by omega] at hw
  rw [← e3] at hw
  have BS := hB
  have NS := fx_WB_n BS
  obtain rfl : v3 = v4 := by rw [e4, e3]
  have h5 := e5
  first | rw [fx_add_eq (by omega) (by omega)] at h5 | skip
  obtain rfl : v3 = v6 := by rw [e6, e3]
  have h7 := e7
  first | rw [fx_add_eq (by omega) (by omega)] at h7 | skip
  have BS1 : fx_WB S1 := by rw [d1]; exact fx_WB_up BS (by omega) (by omega) (by omega) (by omega) (by omega) (by omega) (by omega) (by omega) (by omega) (by omega) (by omega) (fun h => absurd h (by omega))
  have t8_1 : S1.1 67 x3 = S.1 67 x3 := by rw [d1]; first | exact if_neg (by omega) | rfl
  rw [t8_1] at e8
  obtain rfl : v3 = v8 := by rw [e8, e3]
  have h9 := e9
  first | rw [fx_add_eq (by omega) (by omega)] at h9 | skip
  have BS2 : fx_WB S2 := by rw [d2]; exact fx_WB_up BS1 (by omega) (by omega) (by omega) (by omega) (by omega) (by omega) (by omega) (by omega) (by omega) (by omega) (by omega) (fun h => absurd h (by omega))
  have t10_2 : S2.1 67 x3 = v9 := by rw [d2]; first | exact if_pos ⟨rfl, by omega⟩ | rfl
  rw [t10_2] at e10
  obtain rfl : v9 = v10 := e10.symm
  refine ⟨((show S2.2 = S1.2 by rw [d2])).trans ((show S1.2 = S.2 by rw [d1])), ?_, BS2, ?_⟩
  · intro p i hW
    exact ((show S2.1 p i = S1.1 p i by rw [d2]; exact if_neg (by omega))).trans ((show S1.1 p i = S.1 p i by rw [d1]; exact if_neg (by omega)))
  · refine .inr ⟨fun k k0 k1 => absurd k1 (by omega), .inr ⟨by omega, by omega, fun i => ?_⟩⟩
    have hi : i = x3 ∨ i = x3 + 1 + S.1 67 (x3) ∨ (¬ i = x3 ∧ ¬ i = x3 + 1 + S.1 67 (x3)) := by omega
    rcases hi with hi | hi | hi
    all_goals (subst d2; subst d1; dsimp only [fx_up]; repeat (first | rw [if_pos (by omega)] | rw [if_neg (by omega)]))
    all_goals first | omega | rfl
theorem q190_1 (S : fx_S) (x2 x3 x4 : Int) (hS : fx_Sok S) (g2 : -2147483648 ≤ x2 ∧ x2 ≤ 2147483647) (g3 : -2147483648 ≤ x3 ∧ x3 ≤ 2147483647) (g4 : -2147483648 ≤ x4 ∧ x4 ≤ 2147483647) (c1 : 0 ≤ x3) (c2 : x3 < 8090) (v3 : Int) (e3 : v3 = S.1 67 x3) (b3 : -2147483648 ≤ v3 ∧ v3 ≤ 2147483647) (c3 : v3 ≤ x4) (c4 : 0 ≤ x3) (c5 : x3 < 8090) (v4 : Int) (e4 : v4 = S.1 67 x3) (b4 : -2147483648 ≤ v4 ∧ v4 ≤ 2147483647) (c6 : v4 = 4) : s190 S x2 x3 x4 (-3) S := by
  unfold s190
  intro hB hP
  have hw := fx_WB_w hB (q := (x3 - 305) / 10) (by omega) (by omega)
  rw [show 305 + 10 * ((x3 - 305) / 10) = x3 by omega] at hw
  rw [← e3] at hw
  have BS := hB
  have NS := fx_WB_n BS
  obtain rfl : v3 = v4 := by rw [e4, e3]
  refine ⟨rfl, ?_, BS, ?_⟩
  · intro p i hW
    exact rfl
  · exact .inr ⟨fun k k0 k1 => absurd k1 (by omega), .inl ⟨rfl, by omega, rfl⟩⟩
theorem q190_2 (S : fx_S) (x2 x3 x4 : Int) (hS : fx_Sok S) (g2 : -2147483648 ≤ x2 ∧ x2 ≤ 2147483647) (g3 : -2147483648 ≤ x3 ∧ x3 ≤ 2147483647) (g4 : -2147483648 ≤ x4 ∧ x4 ≤ 2147483647) (c1 : 0 ≤ x3) (c2 : x3 < 8090) (v3 : Int) (e3 : v3 = S.1 67 x3) (b3 : -2147483648 ≤ v3 ∧ v3 ≤ 2147483647) (c3 : x4 < v3) (v4 : Int) (e4 : v4 = fx_add x3 1) (v5 : Int) (e5 : v5 = fx_add v4 x4) (c4 : 0 ≤ v5) (c5 : v5 < 8090) (v6 : Int) (e6 : v6 = S.1 67 v5) (b6 : -2147483648 ≤ v6 ∧ v6 ≤ 2147483647) (c6 : v6 ≠ x2) (v7 : Int) (e7 : v7 = fx_add x4 1) (z : Int) (Z : fx_S) (kz : fx_Sok Z) (bz : -2147483648 ≤ z ∧ z ≤ 2147483647) (pz : s190 S x2 x3 v7 z Z) : s190 S x2 x3 x4 z Z := by
  unfold s190 at pz
  unfold s190
  intro hB hP
  have hw := fx_WB_w hB (q := (x3 - 305) / 10) (by omega) (by omega)
  rw [show 305 + 10 * ((x3 - 305) / 10) = x3 by omega] at hw
  rw [← e3] at hw
  have BS := hB
  have NS := fx_WB_n BS
  have h4 := e4
  first | rw [fx_add_eq (by omega) (by omega)] at h4 | skip
  have h5 := e5
  first | rw [fx_add_eq (by omega) (by omega)] at h5 | skip
  have h7 := e7
  first | rw [fx_add_eq (by omega) (by omega)] at h7 | skip
  obtain ⟨rZ, fZ, BZ, pz⟩ := pz BS (by omega)
  refine ⟨rZ, ?_, BZ, ?_⟩
  · intro p i hW
    exact (fZ p i (by omega))
  · rcases pz with ⟨b1, ⟨k, k0, k1, k2⟩, b3⟩ | ⟨b1, b2⟩
    · exact .inl ⟨b1, ⟨k, by omega, k1, k2⟩, b3⟩
    · refine .inr ⟨fun k k0 k1 => ?_, b2⟩
      by_cases hk : k = x4
      · rw [hk, show x3 + 1 + x4 = v5 by omega, ← e6]
        exact c6
      · exact b1 k (by omega) k1
theorem q190_3 (S : fx_S) (x2 x3 x4 : Int) (hS : fx_Sok S) (g2 : -2147483648 ≤ x2 ∧ x2 ≤ 2147483647) (g3 : -2147483648 ≤ x3 ∧ x3 ≤ 2147483647) (g4 : -2147483648 ≤ x4 ∧ x4 ≤ 2147483647) (c1 : 0 ≤ x3) (c2 : x3 < 8090) (v3 : Int) (e3 : v3 = S.1 67 x3) (b3 : -2147483648 ≤ v3 ∧ v3 ≤ 2147483647) (c3 : x4 < v3) (v4 : Int) (e4 : v4 = fx_add x3 1) (v5 : Int) (e5 : v5 = fx_add v4 x4) (c4 : 0 ≤ v5) (c5 : v5 < 8090) (v6 : Int) (e6 : v6 = S.1 67 v5) (b6 : -2147483648 ≤ v6 ∧ v6 ≤ 2147483647) (c6 : v6 = x2) : s190 S x2 x3 x4 (-2) S := by
  unfold s190
  intro hB hP
  have hw := fx_WB_w hB (q := (x3 - 305) / 10) (by omega) (by omega)
  rw [show 305 + 10 * ((x3 - 305) / 10) = x3 by omega] at hw
  rw [← e3] at hw
  have BS := hB
  have NS := fx_WB_n BS
  have h4 := e4
  first | rw [fx_add_eq (by omega) (by omega)] at h4 | skip
  have h5 := e5
  first | rw [fx_add_eq (by omega) (by omega)] at h5 | skip
  refine ⟨rfl, ?_, BS, ?_⟩
  · intro p i hW
    exact rfl
  · exact .inl ⟨rfl, ⟨x4, by omega, by omega, by show S.1 67 (x3 + 1 + x4) = x2; rw [show x3 + 1 + x4 = v5 by omega, ← e6]; exact c6⟩, rfl⟩
theorem q191_0 (S : fx_S) (x1 : Int) (hS : fx_Sok S) (g1 : -2147483648 ≤ x1 ∧ x1 ≤ 2147483647) (z : Int) (Z : fx_S) (kz : fx_Sok Z) (bz : z = 0) (pz : s273 S x1 0 80 z Z) : s191 S x1 z Z := by
  obtain ⟨rZ, fZ⟩ := pz
  refine ⟨rZ, ?_⟩
  · intro p i hW
    exact (fZ p i (by omega))
theorem q192_0 (S : fx_S) (x1 x2 : Int) (hS : fx_Sok S) (g1 : -2147483648 ≤ x1 ∧ x1 ≤ 2147483647) (g2 : -2147483648 ≤ x2 ∧ x2 ≤ 2147483647) (c1 : x2 < 0) : s192 S x1 x2 x1 S := by
  refine ⟨rfl, ?_⟩
  · intro p i hW
    clear c1
    exact rfl
theorem q192_1 (S : fx_S) (x1 x2 : Int) (hS : fx_Sok S) (g1 : -2147483648 ≤ x1 ∧ x1 ≤ 2147483647) (g2 : -2147483648 ≤ x2 ∧ x2 ≤ 2147483647) (c1 : 0 ≤ x2) (v2 : Int) (S1 : fx_S) (k1 : fx_Sok S1) (b2 : -2147483648 ≤ v2 ∧ v2 ≤ 2147483647) (p1 : s274 S x2 v2 S1) (v3 : Int) (e3 : v3 = fx_add x1 v2) (v4 : Int) (e4 : v4 = fx_add x2 (-1)) (z : Int) (Z : fx_S) (kz : fx_Sok Z) (bz : -2147483648 ≤ z ∧ z ≤ 2147483647) (pz : s192 S1 v3 v4 z Z) : s192 S x1 x2 z Z := by
  obtain ⟨r1, f1⟩ := p1
  obtain ⟨rZ, fZ⟩ := pz
  refine ⟨(rZ).trans (r1), ?_⟩
  · intro p i hW
    clear e4 e3 b2 c1
    exact ((fZ p i (by omega))).trans ((f1 p i (by omega)))
theorem q193_0 (S : fx_S) (x1 x2 : Int) (hS : fx_Sok S) (g1 : -2147483648 ≤ x1 ∧ x1 ≤ 2147483647) (g2 : -2147483648 ≤ x2 ∧ x2 ≤ 2147483647) (c1 : 80 ≤ x2) (z : Int) (Z : fx_S) (kz : fx_Sok Z) (bz : -2147483648 ≤ z ∧ z ≤ 2147483647) (pz : s275 S x1 0 z Z) : s193 S x1 x2 z Z := by
  obtain ⟨rZ, fZ⟩ := pz
  refine ⟨rZ, ?_⟩
  · intro p i hW
    clear c1
    exact (fZ p i (by omega))
theorem q193_1 (S : fx_S) (x1 x2 : Int) (hS : fx_Sok S) (g1 : -2147483648 ≤ x1 ∧ x1 ≤ 2147483647) (g2 : -2147483648 ≤ x2 ∧ x2 ≤ 2147483647) (c1 : x2 < 80) (c2 : 0 ≤ x2) (c3 : x2 < 80) (S1 : fx_S) (d1 : S1 = (fx_up S.1 81 x2 (-1), S.2)) (v2 : Int) (e2 : v2 = fx_add x2 1) (z : Int) (Z : fx_S) (kz : fx_Sok Z) (bz : -2147483648 ≤ z ∧ z ≤ 2147483647) (pz : s193 S1 x1 v2 z Z) : s193 S x1 x2 z Z := by
  obtain ⟨rZ, fZ⟩ := pz
  refine ⟨(rZ).trans ((show S1.2 = S.2 by rw [d1])), ?_⟩
  · intro p i hW
    clear e2 c3 c2 c1
    exact ((fZ p i (by omega))).trans ((show S1.1 p i = S.1 p i by rw [d1]; exact if_neg (by omega)))
theorem q194_0 (S : fx_S) (hS : fx_Sok S) (v0 : Int) (S1 : fx_S) (k1 : fx_Sok S1) (b0 : -2147483648 ≤ v0 ∧ v0 ≤ 2147483647) (p1 : s276 S  v0 S1) (S2 : fx_S) (d2 : S2 = (fx_up S1.1 0 10 0, S1.2)) (z : Int) (Z : fx_S) (kz : fx_Sok Z) (bz : -2147483648 ≤ z ∧ z ≤ 2147483647) (pz : s277 S2 v0 0 z Z) : s194 S  z Z := by
  obtain ⟨r1, f1⟩ := p1
  obtain ⟨rZ, fZ⟩ := pz
  refine ⟨(rZ).trans (((show S2.2 = S1.2 by rw [d2])).trans (r1)), ?_⟩
  · intro p i hW
    clear b0
    exact ((fZ p i (by omega))).trans (((show S2.1 p i = S1.1 p i by rw [d2]; exact if_neg (by omega))).trans ((f1 p i (by omega))))
theorem q195_0 (S : fx_S) (hS : fx_Sok S) (v0 : Int) (S1 : fx_S) (k1 : fx_Sok S1) (b0 : v0 = 0) (p1 : s278 S 0 v0 S1) (z : Int) (Z : fx_S) (kz : fx_Sok Z) (bz : -2147483648 ≤ z ∧ z ≤ 2147483647) (pz : s279 S1 0 0 z Z) : s195 S  z Z := by
  obtain ⟨r1, f1⟩ := p1
  obtain ⟨rZ, fZ⟩ := pz
  refine ⟨(rZ).trans (r1), ?_⟩
  · intro p i hW
    clear b0
    exact ((fZ p i (by omega))).trans ((f1 p i (by omega)))
theorem q196_0 (S : fx_S) (hS : fx_Sok S) (S1 : fx_S) (d1 : S1 = (fx_up S.1 66 29 0, S.2)) (z : Int) (Z : fx_S) (kz : fx_Sok Z) (bz : z = 0) (pz : s280 S1 0 z Z) : s196 S  z Z := by
  obtain ⟨rZ, fZ⟩ := pz
  refine ⟨(rZ).trans ((show S1.2 = S.2 by rw [d1])), ?_⟩
  · intro p i hW
    exact ((fZ p i (by omega))).trans ((show S1.1 p i = S.1 p i by rw [d1]; exact if_neg (by omega)))
theorem q197_0 (S : fx_S) (hS : fx_Sok S) (S1 : fx_S) (d1 : S1 = (fx_up S.1 66 29 0, S.2)) (S2 : fx_S) (d2 : S2 = (fx_up S1.1 66 30 0, S1.2)) (z : Int) (Z : fx_S) (kz : fx_Sok Z) (bz : z = 0) (pz : s281 S2 0 z Z) : s197 S  z Z := by
  obtain ⟨rZ, fZ⟩ := pz
  refine ⟨(rZ).trans (((show S2.2 = S1.2 by rw [d2])).trans ((show S1.2 = S.2 by rw [d1]))), ?_⟩
  · intro p i hW
    exact ((fZ p i (by omega))).trans (((show S2.1 p i = S1.1 p i by rw [d2]; exact if_neg (by omega))).trans ((show S1.1 p i = S.1 p i by rw [d1]; exact if_neg (by omega))))
theorem q198_0 (S : fx_S) (x1 x2 : Int) (hS : fx_Sok S) (g1 : -2147483648 ≤ x1 ∧ x1 ≤ 2147483647) (g2 : -2147483648 ≤ x2 ∧ x2 ≤ 2147483647) (c1 : 32 ≤ x2) (v2 : Int) (S1 : fx_S) (k1 : fx_Sok S1) (b2 : -2147483648 ≤ v2 ∧ v2 ≤ 2147483647) (p1 : s258 S x1 v2 S1) (z : Int) (Z : fx_S) (kz : fx_Sok Z) (bz : -2147483648 ≤ z ∧ z ≤ 2147483647) (pz : s282 S1 x1 v2 0 0 z Z) : s198 S x1 x2 z Z := by
  obtain rfl : S = S1 := p1
  obtain rfl : S = Z := pz
  exact rfl
theorem q198_1 (S : fx_S) (x1 x2 : Int) (hS : fx_Sok S) (g1 : -2147483648 ≤ x1 ∧ x1 ≤ 2147483647) (g2 : -2147483648 ≤ x2 ∧ x2 ≤ 2147483647) (c1 : x2 < 32) (c2 : 32 ≤ x2) (v2 : Int) (e2 : v2 = fx_add x2 1) (z : Int) (Z : fx_S) (kz : fx_Sok Z) (bz : -2147483648 ≤ z ∧ z ≤ 2147483647) (pz : s198 S x1 v2 z Z) : s198 S x1 x2 z Z := by
  obtain rfl : S = Z := pz
  exact rfl
theorem q198_2 (S : fx_S) (x1 x2 : Int) (hS : fx_Sok S) (g1 : -2147483648 ≤ x1 ∧ x1 ≤ 2147483647) (g2 : -2147483648 ≤ x2 ∧ x2 ≤ 2147483647) (c1 : x2 < 32) (c2 : x2 < 32) (v2 : Int) (e2 : v2 = fx_ush x1 x2) (v3 : Int) (e3 : v3 = fx_and v2 1) (c3 : v3 ≠ 1) (v4 : Int) (e4 : v4 = fx_add x2 1) (z : Int) (Z : fx_S) (kz : fx_Sok Z) (bz : -2147483648 ≤ z ∧ z ≤ 2147483647) (pz : s198 S x1 v4 z Z) : s198 S x1 x2 z Z := by
  obtain rfl : S = Z := pz
  exact rfl
theorem q198_3 (S : fx_S) (x1 x2 : Int) (hS : fx_Sok S) (g1 : -2147483648 ≤ x1 ∧ x1 ≤ 2147483647) (g2 : -2147483648 ≤ x2 ∧ x2 ≤ 2147483647) (c1 : x2 < 32) (c2 : x2 < 32) (v2 : Int) (e2 : v2 = fx_ush x1 x2) (v3 : Int) (e3 : v3 = fx_and v2 1) (c3 : v3 = 1) (v4 : Int) (S1 : fx_S) (k1 : fx_Sok S1) (b4 : -2147483648 ≤ v4 ∧ v4 ≤ 2147483647) (p1 : s136 S x2 v4 S1) (c4 : v4 ≠ 0) (v5 : Int) (e5 : v5 = fx_add x2 1) (z : Int) (Z : fx_S) (kz : fx_Sok Z) (bz : -2147483648 ≤ z ∧ z ≤ 2147483647) (pz : s198 S1 x1 v5 z Z) : s198 S x1 x2 z Z := by
  obtain ⟨rfl, p1⟩ := p1
  obtain rfl : S = Z := pz
  exact rfl
theorem q198_4 (S : fx_S) (x1 x2 : Int) (hS : fx_Sok S) (g1 : -2147483648 ≤ x1 ∧ x1 ≤ 2147483647) (g2 : -2147483648 ≤ x2 ∧ x2 ≤ 2147483647) (c1 : x2 < 32) (c2 : x2 < 32) (v2 : Int) (e2 : v2 = fx_ush x1 x2) (v3 : Int) (e3 : v3 = fx_and v2 1) (c3 : v3 = 1) (v4 : Int) (S1 : fx_S) (k1 : fx_Sok S1) (b4 : -2147483648 ≤ v4 ∧ v4 ≤ 2147483647) (p1 : s136 S x2 v4 S1) (c4 : v4 = 0) : s198 S x1 x2 (-2) S1 := by
  obtain ⟨rfl, p1⟩ := p1
  exact rfl
theorem q199_0 (S : fx_S) (x1 x2 x3 : Int) (hS : fx_Sok S) (g1 : -2147483648 ≤ x1 ∧ x1 ≤ 2147483647) (g2 : -2147483648 ≤ x2 ∧ x2 ≤ 2147483647) (g3 : -2147483648 ≤ x3 ∧ x3 ≤ 2147483647) (c1 : 32 ≤ x3) (z : Int) (Z : fx_S) (kz : fx_Sok Z) (bz : -2147483648 ≤ z ∧ z ≤ 2147483647) (pz : s283 S x1 x2 0 0 z Z) : s199 S x1 x2 x3 z Z := by
  obtain rfl : S = Z := pz
  exact rfl
theorem q199_1 (S : fx_S) (x1 x2 x3 : Int) (hS : fx_Sok S) (g1 : -2147483648 ≤ x1 ∧ x1 ≤ 2147483647) (g2 : -2147483648 ≤ x2 ∧ x2 ≤ 2147483647) (g3 : -2147483648 ≤ x3 ∧ x3 ≤ 2147483647) (c1 : x3 < 32) (v3 : Int) (e3 : v3 = fx_shr x1 x3) (v4 : Int) (e4 : v4 = fx_and v3 1) (c2 : v4 ≠ 0) (v5 : Int) (e5 : v5 = S.1 67 2) (b5 : -2147483648 ≤ v5 ∧ v5 ≤ 2147483647) (v6 : Int) (e6 : v6 = fx_sub v5 1) (v7 : Int) (S1 : fx_S) (k1 : fx_Sok S1) (b7 : -2147483648 ≤ v7 ∧ v7 ≤ 2147483647) (p1 : s113 S x3 0 v6 v7 S1) (c3 : v7 = 0) : s199 S x1 x2 x3 (-2) S1 := by
  obtain ⟨rfl, p1⟩ := p1
  exact rfl
theorem q199_2 (S : fx_S) (x1 x2 x3 : Int) (hS : fx_Sok S) (g1 : -2147483648 ≤ x1 ∧ x1 ≤ 2147483647) (g2 : -2147483648 ≤ x2 ∧ x2 ≤ 2147483647) (g3 : -2147483648 ≤ x3 ∧ x3 ≤ 2147483647) (c1 : x3 < 32) (v3 : Int) (e3 : v3 = fx_shr x1 x3) (v4 : Int) (e4 : v4 = fx_and v3 1) (c2 : v4 ≠ 0) (v5 : Int) (e5 : v5 = S.1 67 2) (b5 : -2147483648 ≤ v5 ∧ v5 ≤ 2147483647) (v6 : Int) (e6 : v6 = fx_sub v5 1) (v7 : Int) (S1 : fx_S) (k1 : fx_Sok S1) (b7 : -2147483648 ≤ v7 ∧ v7 ≤ 2147483647) (p1 : s113 S x3 0 v6 v7 S1) (c3 : v7 ≠ 0) (v8 : Int) (e8 : v8 = S1.1 67 0) (b8 : -2147483648 ≤ v8 ∧ v8 ≤ 2147483647) (v9 : Int) (S2 : fx_S) (k2 : fx_Sok S2) (b9 : -2147483648 ≤ v9 ∧ v9 ≤ 2147483647) (p2 : s156 S1 x3 v8 v9 S2) (c4 : v9 ≠ 0) (v10 : Int) (e10 : v10 = fx_add x2 1) (v11 : Int) (e11 : v11 = fx_add x3 1) (z : Int) (Z : fx_S) (kz : fx_Sok Z) (bz : -2147483648 ≤ z ∧ z ≤ 2147483647) (pz : s199 S2 x1 v10 v11 z Z) : s199 S x1 x2 x3 z Z := by
  obtain ⟨rfl, p1⟩ := p1
  obtain ⟨rfl, p2⟩ := p2
  obtain rfl : S = Z := pz
  exact rfl
theorem q199_3 (S : fx_S) (x1 x2 x3 : Int) (hS : fx_Sok S) (g1 : -2147483648 ≤ x1 ∧ x1 ≤ 2147483647) (g2 : -2147483648 ≤ x2 ∧ x2 ≤ 2147483647) (g3 : -2147483648 ≤ x3 ∧ x3 ≤ 2147483647) (c1 : x3 < 32) (v3 : Int) (e3 : v3 = fx_shr x1 x3) (v4 : Int) (e4 : v4 = fx_and v3 1) (c2 : v4 ≠ 0) (v5 : Int) (e5 : v5 = S.1 67 2) (b5 : -2147483648 ≤ v5 ∧ v5 ≤ 2147483647) (v6 : Int) (e6 : v6 = fx_sub v5 1) (v7 : Int) (S1 : fx_S) (k1 : fx_Sok S1) (b7 : -2147483648 ≤ v7 ∧ v7 ≤ 2147483647) (p1 : s113 S x3 0 v6 v7 S1) (c3 : v7 ≠ 0) (v8 : Int) (e8 : v8 = S1.1 67 0) (b8 : -2147483648 ≤ v8 ∧ v8 ≤ 2147483647) (v9 : Int) (S2 : fx_S) (k2 : fx_Sok S2) (b9 : -2147483648 ≤ v9 ∧ v9 ≤ 2147483647) (p2 : s156 S1 x3 v8 v9 S2) (c4 : v9 = 0) : s199 S x1 x2 x3 (-2) S2 := by
  obtain ⟨rfl, p1⟩ := p1
  obtain ⟨rfl, p2⟩ := p2
  exact rfl
theorem q199_4 (S : fx_S) (x1 x2 x3 : Int) (hS : fx_Sok S) (g1 : -2147483648 ≤ x1 ∧ x1 ≤ 2147483647) (g2 : -2147483648 ≤ x2 ∧ x2 ≤ 2147483647) (g3 : -2147483648 ≤ x3 ∧ x3 ≤ 2147483647) (c1 : x3 < 32) (v3 : Int) (e3 : v3 = fx_shr x1 x3) (v4 : Int) (e4 : v4 = fx_and v3 1) (c2 : v4 = 0) (v5 : Int) (e5 : v5 = fx_add x3 1) (z : Int) (Z : fx_S) (kz : fx_Sok Z) (bz : -2147483648 ≤ z ∧ z ≤ 2147483647) (pz : s199 S x1 x2 v5 z Z) : s199 S x1 x2 x3 z Z := by
  obtain rfl : S = Z := pz
  exact rfl
theorem q200_0 (S : fx_S) (x1 x2 x3 x4 : Int) (hS : fx_Sok S) (g1 : -2147483648 ≤ x1 ∧ x1 ≤ 2147483647) (g2 : -2147483648 ≤ x2 ∧ x2 ≤ 2147483647) (g3 : -2147483648 ≤ x3 ∧ x3 ≤ 2147483647) (g4 : -2147483648 ≤ x4 ∧ x4 ≤ 2147483647) (c1 : 0 ≤ x1) (c2 : x1 < 2) (v4 : Int) (e4 : v4 = S.1 45 x1) (b4 : -2147483648 ≤ v4 ∧ v4 ≤ 2147483647) (c3 : v4 < 7) (v5 : Int) (e5 : v5 = fx_mul x1 7) (c4 : 0 ≤ x1) (c5 : x1 < 2) (v6 : Int) (e6 : v6 = S.1 45 x1) (b6 : -2147483648 ≤ v6 ∧ v6 ≤ 2147483647) (v7 : Int) (e7 : v7 = fx_add v5 v6) (c6 : 0 ≤ v7) (c7 : v7 < 14) (S1 : fx_S) (d1 : S1 = (fx_up S.1 46 v7 x2, S.2)) (c8 : 0 ≤ v7) (c9 : v7 < 14) (S2 : fx_S) (d2 : S2 = (fx_up S1.1 47 v7 x3, S1.2)) (c10 : 0 ≤ v7) (c11 : v7 < 14) (S3 : fx_S) (d3 : S3 = (fx_up S2.1 48 v7 x4, S2.2)) (c12 : 0 ≤ x1) (c13 : x1 < 2) (v8 : Int) (e8 : v8 = S3.1 45 x1) (b8 : -2147483648 ≤ v8 ∧ v8 ≤ 2147483647) (v9 : Int) (e9 : v9 = fx_add v8 1) (c14 : 0 ≤ x1) (c15 : x1 < 2) (S4 : fx_S) (d4 : S4 = (fx_up S3.1 45 x1 v9, S3.2)) (c16 : 0 ≤ x1) (c17 : x1 < 2) (v10 : Int) (e10 : v10 = S4.1 45 x1) (b10 : -2147483648 ≤ v10 ∧ v10 ≤ 2147483647) : s200 S x1 x2 x3 x4 v10 S4 := by
  refine ⟨((show S4.2 = S3.2 by rw [d4])).trans (((show S3.2 = S2.2 by rw [d3])).trans (((show S2.2 = S1.2 by rw [d2])).trans ((show S1.2 = S.2 by rw [d1])))), ?_⟩
  · intro p i hW
    clear b10 e10 c17 c16 c15 c14 e9 b8 e8 c13 c12 c11 c10 c9 c8 c7 c6 e7 b6 e6 c5 c4 e5 c3 b4 e4 c2 c1
    exact ((show S4.1 p i = S3.1 p i by rw [d4]; exact if_neg (by omega))).trans (((show S3.1 p i = S2.1 p i by rw [d3]; exact if_neg (by omega))).trans (((show S2.1 p i = S1.1 p i by rw [d2]; exact if_neg (by omega))).trans ((show S1.1 p i = S.1 p i by rw [d1]; exact if_neg (by omega)))))
theorem q200_1 (S : fx_S) (x1 x2 x3 x4 : Int) (hS : fx_Sok S) (g1 : -2147483648 ≤ x1 ∧ x1 ≤ 2147483647) (g2 : -2147483648 ≤ x2 ∧ x2 ≤ 2147483647) (g3 : -2147483648 ≤ x3 ∧ x3 ≤ 2147483647) (g4 : -2147483648 ≤ x4 ∧ x4 ≤ 2147483647) (c1 : 0 ≤ x1) (c2 : x1 < 2) (v4 : Int) (e4 : v4 = S.1 45 x1) (b4 : -2147483648 ≤ v4 ∧ v4 ≤ 2147483647) (c3 : 7 ≤ v4) : s200 S x1 x2 x3 x4 (-3) S := by
  refine ⟨rfl, ?_⟩
  · intro p i hW
    clear c3 b4 e4 c2 c1
    exact rfl
theorem q201_0 (S : fx_S) (hS : fx_Sok S) (v0 : Int) (e0 : v0 = S.1 45 0) (b0 : -2147483648 ≤ v0 ∧ v0 ≤ 2147483647) (S1 : fx_S) (d1 : S1 = (fx_up S.1 56 2 v0, S.2)) (v1 : Int) (e1 : v1 = S1.1 45 1) (b1 : -2147483648 ≤ v1 ∧ v1 ≤ 2147483647) (S2 : fx_S) (d2 : S2 = (fx_up S1.1 56 3 v1, S1.2)) (z : Int) (Z : fx_S) (kz : fx_Sok Z) (bz : -2147483648 ≤ z ∧ z ≤ 2147483647) (pz : s284 S2 0 z Z) : s201 S  z Z := by
  obtain ⟨rZ, fZ⟩ := pz
  refine ⟨(rZ).trans (((show S2.2 = S1.2 by rw [d2])).trans ((show S1.2 = S.2 by rw [d1]))), ?_⟩
  · intro p i hW
    clear b1 e1 b0 e0
    exact ((fZ p i (by omega))).trans (((show S2.1 p i = S1.1 p i by rw [d2]; exact if_neg (by omega))).trans ((show S1.1 p i = S.1 p i by rw [d1]; exact if_neg (by omega))))
theorem q202_0 (S : fx_S) (x1 x2 x3 : Int) (hS : fx_Sok S) (g1 : -2147483648 ≤ x1 ∧ x1 ≤ 2147483647) (g2 : -2147483648 ≤ x2 ∧ x2 ≤ 2147483647) (g3 : -2147483648 ≤ x3 ∧ x3 ≤ 2147483647) (v3 : Int) (e3 : v3 = S.1 67 10) (b3 : -2147483648 ≤ v3 ∧ v3 ≤ 2147483647) (c1 : x1 ≠ v3) (z : Int) (Z : fx_S) (kz : fx_Sok Z) (bz : z = 0) (pz : s285 S x1 x2 x3 0 z Z) : s202 S x1 x2 x3 z Z := by
  obtain ⟨rZ, fZ⟩ := pz
  refine ⟨rZ, ?_⟩
  · intro p i hW
    clear c1 b3 e3
    exact (fZ p i (by omega))
theorem q202_1 (S : fx_S) (x1 x2 x3 : Int) (hS : fx_Sok S) (g1 : -2147483648 ≤ x1 ∧ x1 ≤ 2147483647) (g2 : -2147483648 ≤ x2 ∧ x2 ≤ 2147483647) (g3 : -2147483648 ≤ x3 ∧ x3 ≤ 2147483647) (v3 : Int) (e3 : v3 = S.1 67 10) (b3 : -2147483648 ≤ v3 ∧ v3 ≤ 2147483647) (c1 : x1 = v3) (v4 : Int) (e4 : v4 = S.1 66 33) (b4 : -2147483648 ≤ v4 ∧ v4 ≤ 2147483647) (c2 : x3 ≠ v4) (v5 : Int) (e5 : v5 = S.1 66 33) (b5 : -2147483648 ≤ v5 ∧ v5 ≤ 2147483647) (c3 : v5 < x3) (S1 : fx_S) (d1 : S1 = (fx_up S.1 66 33 x3, S.2)) (S2 : fx_S) (d2 : S2 = (fx_up S1.1 66 34 1, S1.2)) (z : Int) (Z : fx_S) (kz : fx_Sok Z) (bz : z = 0) (pz : s286 S2 0 z Z) : s202 S x1 x2 x3 z Z := by
  obtain ⟨rZ, fZ⟩ := pz
  refine ⟨(rZ).trans (((show S2.2 = S1.2 by rw [d2])).trans ((show S1.2 = S.2 by rw [d1]))), ?_⟩
  · intro p i hW
    clear c3 b5 e5 c2 b4 e4 c1 b3 e3
    exact ((fZ p i (by omega))).trans (((show S2.1 p i = S1.1 p i by rw [d2]; exact if_neg (by omega))).trans ((show S1.1 p i = S.1 p i by rw [d1]; exact if_neg (by omega))))
theorem q202_2 (S : fx_S) (x1 x2 x3 : Int) (hS : fx_Sok S) (g1 : -2147483648 ≤ x1 ∧ x1 ≤ 2147483647) (g2 : -2147483648 ≤ x2 ∧ x2 ≤ 2147483647) (g3 : -2147483648 ≤ x3 ∧ x3 ≤ 2147483647) (v3 : Int) (e3 : v3 = S.1 67 10) (b3 : -2147483648 ≤ v3 ∧ v3 ≤ 2147483647) (c1 : x1 = v3) (v4 : Int) (e4 : v4 = S.1 66 33) (b4 : -2147483648 ≤ v4 ∧ v4 ≤ 2147483647) (c2 : x3 ≠ v4) (v5 : Int) (e5 : v5 = S.1 66 33) (b5 : -2147483648 ≤ v5 ∧ v5 ≤ 2147483647) (c3 : x3 ≤ v5) : s202 S x1 x2 x3 0 S := by
  refine ⟨rfl, ?_⟩
  · intro p i hW
    clear c3 b5 e5 c2 b4 e4 c1 b3 e3
    exact rfl
theorem q202_3 (S : fx_S) (x1 x2 x3 : Int) (hS : fx_Sok S) (g1 : -2147483648 ≤ x1 ∧ x1 ≤ 2147483647) (g2 : -2147483648 ≤ x2 ∧ x2 ≤ 2147483647) (g3 : -2147483648 ≤ x3 ∧ x3 ≤ 2147483647) (v3 : Int) (e3 : v3 = S.1 67 10) (b3 : -2147483648 ≤ v3 ∧ v3 ≤ 2147483647) (c1 : x1 = v3) (v4 : Int) (e4 : v4 = S.1 66 33) (b4 : -2147483648 ≤ v4 ∧ v4 ≤ 2147483647) (c2 : x3 = v4) (v5 : Int) (e5 : v5 = S.1 66 34) (b5 : -2147483648 ≤ v5 ∧ v5 ≤ 2147483647) (v6 : Int) (e6 : v6 = fx_add v5 1) (S1 : fx_S) (d1 : S1 = (fx_up S.1 66 34 v6, S.2)) (v7 : Int) (e7 : v7 = S1.1 66 33) (b7 : -2147483648 ≤ v7 ∧ v7 ≤ 2147483647) (c3 : v7 < x3) (S2 : fx_S) (d2 : S2 = (fx_up S1.1 66 33 x3, S1.2)) (S3 : fx_S) (d3 : S3 = (fx_up S2.1 66 34 1, S2.2)) (z : Int) (Z : fx_S) (kz : fx_Sok Z) (bz : z = 0) (pz : s286 S3 0 z Z) : s202 S x1 x2 x3 z Z := by
  obtain ⟨rZ, fZ⟩ := pz
  refine ⟨(rZ).trans (((show S3.2 = S2.2 by rw [d3])).trans (((show S2.2 = S1.2 by rw [d2])).trans ((show S1.2 = S.2 by rw [d1])))), ?_⟩
  · intro p i hW
    clear c3 b7 e7 e6 b5 e5 c2 b4 e4 c1 b3 e3
    exact ((fZ p i (by omega))).trans (((show S3.1 p i = S2.1 p i by rw [d3]; exact if_neg (by omega))).trans (((show S2.1 p i = S1.1 p i by rw [d2]; exact if_neg (by omega))).trans ((show S1.1 p i = S.1 p i by rw [d1]; exact if_neg (by omega)))))
