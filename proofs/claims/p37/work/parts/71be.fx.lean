/-! FX: what is to be shown of the entries -/
theorem q368_1 (S : fx_S) (x1 x2 x3 : Int) (hS : fx_Sok S) (g1 : -2147483648 ≤ x1 ∧ x1 ≤ 2147483647) (g2 : -2147483648 ≤ x2 ∧ x2 ≤ 2147483647) (g3 : -2147483648 ≤ x3 ∧ x3 ≤ 2147483647) (v3 : Int) (e3 : v3 = S.1 67 2) (b3 : -2147483648 ≤ v3 ∧ v3 ≤ 2147483647) (c1 : x3 < v3) (v4 : Int) (e4 : v4 = fx_mul 10 x3) (v5 : Int) (e5 : v5 = fx_add 300 v4) (v6 : Int) (e6 : v6 = fx_add v5 1) (c2 : 0 ≤ v6) (c3 : v6 < 8090) (v7 : Int) (e7 : v7 = S.1 67 v6) (b7 : -2147483648 ≤ v7 ∧ v7 ≤ 2147483647) (c4 : v7 ≠ x2) (v8 : Int) (e8 : v8 = fx_add x3 1) (z : Int) (Z : fx_S) (kz : fx_Sok Z) (bz : -2147483648 ≤ z ∧ z ≤ 2147483647) (pz : s368 S x1 x2 v8 z Z) : s368 S x1 x2 x3 z Z := by
  obtain ⟨rZ, fZ⟩ := pz
  refine ⟨rZ, ?_⟩
  · intro p i hW
    clear e8 c4 b7 e7 c3 c2 e6 e5 e4 c1 b3 e3
    exact (fZ p i (by omega))
theorem q368_2 (S : fx_S) (x1 x2 x3 : Int) (hS : fx_Sok S) (g1 : -2147483648 ≤ x1 ∧ x1 ≤ 2147483647) (g2 : -2147483648 ≤ x2 ∧ x2 ≤ 2147483647) (g3 : -2147483648 ≤ x3 ∧ x3 ≤ 2147483647) (v3 : Int) (e3 : v3 = S.1 67 2) (b3 : -2147483648 ≤ v3 ∧ v3 ≤ 2147483647) (c1 : x3 < v3) (v4 : Int) (e4 : v4 = fx_mul 10 x3) (v5 : Int) (e5 : v5 = fx_add 300 v4) (v6 : Int) (e6 : v6 = fx_add v5 1) (c2 : 0 ≤ v6) (c3 : v6 < 8090) (v7 : Int) (e7 : v7 = S.1 67 v6) (b7 : -2147483648 ≤ v7 ∧ v7 ≤ 2147483647) (c4 : v7 = x2) (v8 : Int) (e8 : v8 = S.1 67 0) (b8 : -2147483648 ≤ v8 ∧ v8 ≤ 2147483647) (v9 : Int) (S1 : fx_S) (k1 : fx_Sok S1) (b9 : -2147483648 ≤ v9 ∧ v9 ≤ 2147483647) (p1 : s156 S x3 v8 v9 S1) (c5 : v9 ≠ 0) (v10 : Int) (S2 : fx_S) (k2 : fx_Sok S2) (b10 : -2147483648 ≤ v10 ∧ v10 ≤ 2147483647) (p2 : s387 S1 x3 v10 S2) (c6 : 0 ≤ x3) (c7 : x3 < 80) (S3 : fx_S) (d3 : S3 = (fx_up S2.1 81 x3 v10, S2.2)) (c8 : 0 ≤ x3) (c9 : x3 < 80) (v11 : Int) (e11 : v11 = S3.1 81 x3) (b11 : -2147483648 ≤ v11 ∧ v11 ≤ 2147483647) (c10 : v11 ≠ (-1)) (v12 : Int) (e12 : v12 = fx_add x1 1) (v13 : Int) (e13 : v13 = fx_add x3 1) (z : Int) (Z : fx_S) (kz : fx_Sok Z) (bz : -2147483648 ≤ z ∧ z ≤ 2147483647) (pz : s368 S3 v12 x2 v13 z Z) : s368 S x1 x2 x3 z Z := by
  obtain ⟨rfl, p1⟩ := p1
  obtain ⟨r2, f2⟩ := p2
  obtain ⟨rZ, fZ⟩ := pz
  refine ⟨(rZ).trans (((show S3.2 = S2.2 by rw [d3])).trans (r2)), ?_⟩
  · intro p i hW
    clear e13 e12 c10 b11 e11 c9 c8 c7 c6 b10 c5 b9 b8 e8 c4 b7 e7 c3 c2 e6 e5 e4 c1 b3 e3
    exact ((fZ p i (by omega))).trans (((show S3.1 p i = S2.1 p i by rw [d3]; exact if_neg (by omega))).trans ((f2 p i (by omega))))
theorem q368_3 (S : fx_S) (x1 x2 x3 : Int) (hS : fx_Sok S) (g1 : -2147483648 ≤ x1 ∧ x1 ≤ 2147483647) (g2 : -2147483648 ≤ x2 ∧ x2 ≤ 2147483647) (g3 : -2147483648 ≤ x3 ∧ x3 ≤ 2147483647) (v3 : Int) (e3 : v3 = S.1 67 2) (b3 : -2147483648 ≤ v3 ∧ v3 ≤ 2147483647) (c1 : x3 < v3) (v4 : Int) (e4 : v4 = fx_mul 10 x3) (v5 : Int) (e5 : v5 = fx_add 300 v4) (v6 : Int) (e6 : v6 = fx_add v5 1) (c2 : 0 ≤ v6) (c3 : v6 < 8090) (v7 : Int) (e7 : v7 = S.1 67 v6) (b7 : -2147483648 ≤ v7 ∧ v7 ≤ 2147483647) (c4 : v7 = x2) (v8 : Int) (e8 : v8 = S.1 67 0) (b8 : -2147483648 ≤ v8 ∧ v8 ≤ 2147483647) (v9 : Int) (S1 : fx_S) (k1 : fx_Sok S1) (b9 : -2147483648 ≤ v9 ∧ v9 ≤ 2147483647) (p1 : s156 S x3 v8 v9 S1) (c5 : v9 ≠ 0) (v10 : Int) (S2 : fx_S) (k2 : fx_Sok S2) (b10 : -2147483648 ≤ v10 ∧ v10 ≤ 2147483647) (p2 : s387 S1 x3 v10 S2) (c6 : 0 ≤ x3) (c7 : x3 < 80) (S3 : fx_S) (d3 : S3 = (fx_up S2.1 81 x3 v10, S2.2)) (c8 : 0 ≤ x3) (c9 : x3 < 80) (v11 : Int) (e11 : v11 = S3.1 81 x3) (b11 : -2147483648 ≤ v11 ∧ v11 ≤ 2147483647) (c10 : v11 = (-1)) (v12 : Int) (e12 : v12 = fx_add x1 0) (v13 : Int) (e13 : v13 = fx_add x3 1) (z : Int) (Z : fx_S) (kz : fx_Sok Z) (bz : -2147483648 ≤ z ∧ z ≤ 2147483647) (pz : s368 S3 v12 x2 v13 z Z) : s368 S x1 x2 x3 z Z := by
  obtain ⟨rfl, p1⟩ := p1
  obtain ⟨r2, f2⟩ := p2
  obtain ⟨rZ, fZ⟩ := pz
  refine ⟨(rZ).trans (((show S3.2 = S2.2 by rw [d3])).trans (r2)), ?_⟩
  · intro p i hW
    clear e13 e12 c10 b11 e11 c9 c8 c7 c6 b10 c5 b9 b8 e8 c4 b7 e7 c3 c2 e6 e5 e4 c1 b3 e3
    exact ((fZ p i (by omega))).trans (((show S3.1 p i = S2.1 p i by rw [d3]; exact if_neg (by omega))).trans ((f2 p i (by omega))))
theorem q368_4 (S : fx_S) (x1 x2 x3 : Int) (hS : fx_Sok S) (g1 : -2147483648 ≤ x1 ∧ x1 ≤ 2147483647) (g2 : -2147483648 ≤ x2 ∧ x2 ≤ 2147483647) (g3 : -2147483648 ≤ x3 ∧ x3 ≤ 2147483647) (v3 : Int) (e3 : v3 = S.1 67 2) (b3 : -2147483648 ≤ v3 ∧ v3 ≤ 2147483647) (c1 : x3 < v3) (v4 : Int) (e4 : v4 = fx_mul 10 x3) (v5 : Int) (e5 : v5 = fx_add 300 v4) (v6 : Int) (e6 : v6 = fx_add v5 1) (c2 : 0 ≤ v6) (c3 : v6 < 8090) (v7 : Int) (e7 : v7 = S.1 67 v6) (b7 : -2147483648 ≤ v7 ∧ v7 ≤ 2147483647) (c4 : v7 = x2) (v8 : Int) (e8 : v8 = S.1 67 0) (b8 : -2147483648 ≤ v8 ∧ v8 ≤ 2147483647) (v9 : Int) (S1 : fx_S) (k1 : fx_Sok S1) (b9 : -2147483648 ≤ v9 ∧ v9 ≤ 2147483647) (p1 : s156 S x3 v8 v9 S1) (c5 : v9 = 0) (v10 : Int) (e10 : v10 = fx_add x3 1) (z : Int) (Z : fx_S) (kz : fx_Sok Z) (bz : -2147483648 ≤ z ∧ z ≤ 2147483647) (pz : s368 S1 x1 x2 v10 z Z) : s368 S x1 x2 x3 z Z := by
  obtain ⟨rfl, p1⟩ := p1
  obtain ⟨rZ, fZ⟩ := pz
  refine ⟨rZ, ?_⟩
  · intro p i hW
    clear e10 c5 b9 b8 e8 c4 b7 e7 c3 c2 e6 e5 e4 c1 b3 e3
    exact (fZ p i (by omega))
theorem q369_0 (S : fx_S) (x1 x2 x3 x4 : Int) (hS : fx_Sok S) (g1 : -2147483648 ≤ x1 ∧ x1 ≤ 2147483647) (g2 : -2147483648 ≤ x2 ∧ x2 ≤ 2147483647) (g3 : -2147483648 ≤ x3 ∧ x3 ≤ 2147483647) (g4 : -2147483648 ≤ x4 ∧ x4 ≤ 2147483647) (v4 : Int) (e4 : v4 = S.1 13 0) (b4 : -2147483648 ≤ v4 ∧ v4 ≤ 2147483647) (c1 : v4 ≤ x4) : s369 S x1 x2 x3 x4 x2 S := by
  exact rfl
theorem q369_1 (S : fx_S) (x1 x2 x3 x4 : Int) (hS : fx_Sok S) (g1 : -2147483648 ≤ x1 ∧ x1 ≤ 2147483647) (g2 : -2147483648 ≤ x2 ∧ x2 ≤ 2147483647) (g3 : -2147483648 ≤ x3 ∧ x3 ≤ 2147483647) (g4 : -2147483648 ≤ x4 ∧ x4 ≤ 2147483647) (v4 : Int) (e4 : v4 = S.1 13 0) (b4 : -2147483648 ≤ v4 ∧ v4 ≤ 2147483647) (c1 : x4 < v4) (c2 : 0 ≤ x4) (c3 : x4 < 80) (v5 : Int) (e5 : v5 = S.1 18 x4) (b5 : -2147483648 ≤ v5 ∧ v5 ≤ 2147483647) (c4 : v5 ≤ x1) (c5 : 0 ≤ x4) (c6 : x4 < 80) (v6 : Int) (e6 : v6 = S.1 64 x4) (b6 : -128 ≤ v6 ∧ v6 ≤ 127) (c7 : v6 ≠ 1) (v7 : Int) (e7 : v7 = fx_add x4 1) (z : Int) (Z : fx_S) (kz : fx_Sok Z) (bz : -2147483648 ≤ z ∧ z ≤ 2147483647) (pz : s369 S x1 x2 x3 v7 z Z) : s369 S x1 x2 x3 x4 z Z := by
  obtain rfl : S = Z := pz
  exact rfl
theorem q369_2 (S : fx_S) (x1 x2 x3 x4 : Int) (hS : fx_Sok S) (g1 : -2147483648 ≤ x1 ∧ x1 ≤ 2147483647) (g2 : -2147483648 ≤ x2 ∧ x2 ≤ 2147483647) (g3 : -2147483648 ≤ x3 ∧ x3 ≤ 2147483647) (g4 : -2147483648 ≤ x4 ∧ x4 ≤ 2147483647) (v4 : Int) (e4 : v4 = S.1 13 0) (b4 : -2147483648 ≤ v4 ∧ v4 ≤ 2147483647) (c1 : x4 < v4) (c2 : 0 ≤ x4) (c3 : x4 < 80) (v5 : Int) (e5 : v5 = S.1 18 x4) (b5 : -2147483648 ≤ v5 ∧ v5 ≤ 2147483647) (c4 : v5 ≤ x1) (c5 : 0 ≤ x4) (c6 : x4 < 80) (v6 : Int) (e6 : v6 = S.1 64 x4) (b6 : -128 ≤ v6 ∧ v6 ≤ 127) (c7 : v6 = 1) (v7 : Int) (e7 : v7 = fx_add x4 1) (z : Int) (Z : fx_S) (kz : fx_Sok Z) (bz : -2147483648 ≤ z ∧ z ≤ 2147483647) (pz : s369 S x1 x2 x3 v7 z Z) : s369 S x1 x2 x3 x4 z Z := by
  obtain rfl : S = Z := pz
  exact rfl
theorem q369_3 (S : fx_S) (x1 x2 x3 x4 : Int) (hS : fx_Sok S) (g1 : -2147483648 ≤ x1 ∧ x1 ≤ 2147483647) (g2 : -2147483648 ≤ x2 ∧ x2 ≤ 2147483647) (g3 : -2147483648 ≤ x3 ∧ x3 ≤ 2147483647) (g4 : -2147483648 ≤ x4 ∧ x4 ≤ 2147483647) (v4 : Int) (e4 : v4 = S.1 13 0) (b4 : -2147483648 ≤ v4 ∧ v4 ≤ 2147483647) (c1 : x4 < v4) (c2 : 0 ≤ x4) (c3 : x4 < 80) (v5 : Int) (e5 : v5 = S.1 18 x4) (b5 : -2147483648 ≤ v5 ∧ v5 ≤ 2147483647) (c4 : x1 < v5) (c5 : v5 < x3) (c6 : 0 ≤ x4) (c7 : x4 < 80) (v6 : Int) (e6 : v6 = S.1 64 x4) (b6 : -128 ≤ v6 ∧ v6 ≤ 127) (c8 : v6 ≠ 1) (v7 : Int) (e7 : v7 = fx_add x4 1) (z : Int) (Z : fx_S) (kz : fx_Sok Z) (bz : -2147483648 ≤ z ∧ z ≤ 2147483647) (pz : s369 S x1 x2 x3 v7 z Z) : s369 S x1 x2 x3 x4 z Z := by
  obtain rfl : S = Z := pz
  exact rfl
theorem q369_4 (S : fx_S) (x1 x2 x3 x4 : Int) (hS : fx_Sok S) (g1 : -2147483648 ≤ x1 ∧ x1 ≤ 2147483647) (g2 : -2147483648 ≤ x2 ∧ x2 ≤ 2147483647) (g3 : -2147483648 ≤ x3 ∧ x3 ≤ 2147483647) (g4 : -2147483648 ≤ x4 ∧ x4 ≤ 2147483647) (v4 : Int) (e4 : v4 = S.1 13 0) (b4 : -2147483648 ≤ v4 ∧ v4 ≤ 2147483647) (c1 : x4 < v4) (c2 : 0 ≤ x4) (c3 : x4 < 80) (v5 : Int) (e5 : v5 = S.1 18 x4) (b5 : -2147483648 ≤ v5 ∧ v5 ≤ 2147483647) (c4 : x1 < v5) (c5 : v5 < x3) (c6 : 0 ≤ x4) (c7 : x4 < 80) (v6 : Int) (e6 : v6 = S.1 64 x4) (b6 : -128 ≤ v6 ∧ v6 ≤ 127) (c8 : v6 = 1) (v7 : Int) (e7 : v7 = fx_add x4 1) (z : Int) (Z : fx_S) (kz : fx_Sok Z) (bz : -2147483648 ≤ z ∧ z ≤ 2147483647) (pz : s369 S x1 x2 x3 v7 z Z) : s369 S x1 x2 x3 x4 z Z := by
  obtain rfl : S = Z := pz
  exact rfl
theorem q369_5 (S : fx_S) (x1 x2 x3 x4 : Int) (hS : fx_Sok S) (g1 : -2147483648 ≤ x1 ∧ x1 ≤ 2147483647) (g2 : -2147483648 ≤ x2 ∧ x2 ≤ 2147483647) (g3 : -2147483648 ≤ x3 ∧ x3 ≤ 2147483647) (g4 : -2147483648 ≤ x4 ∧ x4 ≤ 2147483647) (v4 : Int) (e4 : v4 = S.1 13 0) (b4 : -2147483648 ≤ v4 ∧ v4 ≤ 2147483647) (c1 : x4 < v4) (c2 : 0 ≤ x4) (c3 : x4 < 80) (v5 : Int) (e5 : v5 = S.1 18 x4) (b5 : -2147483648 ≤ v5 ∧ v5 ≤ 2147483647) (c4 : x1 < v5) (c5 : x3 ≤ v5) (c6 : 0 ≤ x4) (c7 : x4 < 80) (v6 : Int) (e6 : v6 = S.1 64 x4) (b6 : -128 ≤ v6 ∧ v6 ≤ 127) (c8 : v6 ≠ 1) (v7 : Int) (e7 : v7 = fx_add x4 1) (z : Int) (Z : fx_S) (kz : fx_Sok Z) (bz : -2147483648 ≤ z ∧ z ≤ 2147483647) (pz : s369 S x1 x2 x3 v7 z Z) : s369 S x1 x2 x3 x4 z Z := by
  obtain rfl : S = Z := pz
  exact rfl
theorem q369_6 (S : fx_S) (x1 x2 x3 x4 : Int) (hS : fx_Sok S) (g1 : -2147483648 ≤ x1 ∧ x1 ≤ 2147483647) (g2 : -2147483648 ≤ x2 ∧ x2 ≤ 2147483647) (g3 : -2147483648 ≤ x3 ∧ x3 ≤ 2147483647) (g4 : -2147483648 ≤ x4 ∧ x4 ≤ 2147483647) (v4 : Int) (e4 : v4 = S.1 13 0) (b4 : -2147483648 ≤ v4 ∧ v4 ≤ 2147483647) (c1 : x4 < v4) (c2 : 0 ≤ x4) (c3 : x4 < 80) (v5 : Int) (e5 : v5 = S.1 18 x4) (b5 : -2147483648 ≤ v5 ∧ v5 ≤ 2147483647) (c4 : x1 < v5) (c5 : x3 ≤ v5) (c6 : 0 ≤ x4) (c7 : x4 < 80) (v6 : Int) (e6 : v6 = S.1 64 x4) (b6 : -128 ≤ v6 ∧ v6 ≤ 127) (c8 : v6 = 1) (v7 : Int) (e7 : v7 = fx_add x4 1) (z : Int) (Z : fx_S) (kz : fx_Sok Z) (bz : -2147483648 ≤ z ∧ z ≤ 2147483647) (pz : s369 S x1 x4 v5 v7 z Z) : s369 S x1 x2 x3 x4 z Z := by
  obtain rfl : S = Z := pz
  exact rfl
theorem q370_0 (S : fx_S) (x1 x2 x3 : Int) (hS : fx_Sok S) (g1 : -2147483648 ≤ x1 ∧ x1 ≤ 2147483647) (g2 : -2147483648 ≤ x2 ∧ x2 ≤ 2147483647) (g3 : -2147483648 ≤ x3 ∧ x3 ≤ 2147483647) (v3 : Int) (e3 : v3 = S.1 13 0) (b3 : -2147483648 ≤ v3 ∧ v3 ≤ 2147483647) (c1 : v3 ≤ x3) : s370 S x1 x2 x3 x2 S := by
  refine ⟨rfl, ?_⟩
  · intro p i hW
    clear c1 b3 e3
    exact rfl
theorem q370_1 (S : fx_S) (x1 x2 x3 : Int) (hS : fx_Sok S) (g1 : -2147483648 ≤ x1 ∧ x1 ≤ 2147483647) (g2 : -2147483648 ≤ x2 ∧ x2 ≤ 2147483647) (g3 : -2147483648 ≤ x3 ∧ x3 ≤ 2147483647) (v3 : Int) (e3 : v3 = S.1 13 0) (b3 : -2147483648 ≤ v3 ∧ v3 ≤ 2147483647) (c1 : x3 < v3) (c2 : 0 ≤ x3) (c3 : x3 < 80) (v4 : Int) (e4 : v4 = S.1 18 x3) (b4 : -2147483648 ≤ v4 ∧ v4 ≤ 2147483647) (c4 : x1 < v4) (c5 : 0 ≤ x3) (c6 : x3 < 80) (v5 : Int) (e5 : v5 = S.1 64 x3) (b5 : -128 ≤ v5 ∧ v5 ≤ 127) (c7 : v5 ≠ 0) (v6 : Int) (e6 : v6 = fx_add x3 1) (z : Int) (Z : fx_S) (kz : fx_Sok Z) (bz : -2147483648 ≤ z ∧ z ≤ 2147483647) (pz : s370 S x1 x2 v6 z Z) : s370 S x1 x2 x3 z Z := by
  obtain ⟨rZ, fZ⟩ := pz
  refine ⟨rZ, ?_⟩
  · intro p i hW
    clear e6 c7 b5 e5 c6 c5 c4 b4 e4 c3 c2 c1 b3 e3
    exact (fZ p i (by omega))
theorem q370_2 (S : fx_S) (x1 x2 x3 : Int) (hS : fx_Sok S) (g1 : -2147483648 ≤ x1 ∧ x1 ≤ 2147483647) (g2 : -2147483648 ≤ x2 ∧ x2 ≤ 2147483647) (g3 : -2147483648 ≤ x3 ∧ x3 ≤ 2147483647) (v3 : Int) (e3 : v3 = S.1 13 0) (b3 : -2147483648 ≤ v3 ∧ v3 ≤ 2147483647) (c1 : x3 < v3) (c2 : 0 ≤ x3) (c3 : x3 < 80) (v4 : Int) (e4 : v4 = S.1 18 x3) (b4 : -2147483648 ≤ v4 ∧ v4 ≤ 2147483647) (c4 : x1 < v4) (c5 : 0 ≤ x3) (c6 : x3 < 80) (v5 : Int) (e5 : v5 = S.1 64 x3) (b5 : -128 ≤ v5 ∧ v5 ≤ 127) (c7 : v5 = 0) (v6 : Int) (e6 : v6 = fx_add x3 1) (z : Int) (Z : fx_S) (kz : fx_Sok Z) (bz : -2147483648 ≤ z ∧ z ≤ 2147483647) (pz : s370 S x1 x2 v6 z Z) : s370 S x1 x2 x3 z Z := by
  obtain ⟨rZ, fZ⟩ := pz
  refine ⟨rZ, ?_⟩
  · intro p i hW
    clear e6 c7 b5 e5 c6 c5 c4 b4 e4 c3 c2 c1 b3 e3
    exact (fZ p i (by omega))
theorem q370_3 (S : fx_S) (x1 x2 x3 : Int) (hS : fx_Sok S) (g1 : -2147483648 ≤ x1 ∧ x1 ≤ 2147483647) (g2 : -2147483648 ≤ x2 ∧ x2 ≤ 2147483647) (g3 : -2147483648 ≤ x3 ∧ x3 ≤ 2147483647) (v3 : Int) (e3 : v3 = S.1 13 0) (b3 : -2147483648 ≤ v3 ∧ v3 ≤ 2147483647) (c1 : x3 < v3) (c2 : 0 ≤ x3) (c3 : x3 < 80) (v4 : Int) (e4 : v4 = S.1 18 x3) (b4 : -2147483648 ≤ v4 ∧ v4 ≤ 2147483647) (c4 : v4 ≤ x1) (c5 : 0 ≤ x3) (c6 : x3 < 80) (v5 : Int) (e5 : v5 = S.1 64 x3) (b5 : -128 ≤ v5 ∧ v5 ≤ 127) (c7 : v5 ≠ 0) (v6 : Int) (e6 : v6 = fx_add x3 1) (z : Int) (Z : fx_S) (kz : fx_Sok Z) (bz : -2147483648 ≤ z ∧ z ≤ 2147483647) (pz : s370 S x1 x2 v6 z Z) : s370 S x1 x2 x3 z Z := by
  obtain ⟨rZ, fZ⟩ := pz
  refine ⟨rZ, ?_⟩
  · intro p i hW
    clear e6 c7 b5 e5 c6 c5 c4 b4 e4 c3 c2 c1 b3 e3
    exact (fZ p i (by omega))
theorem q370_4 (S : fx_S) (x1 x2 x3 : Int) (hS : fx_Sok S) (g1 : -2147483648 ≤ x1 ∧ x1 ≤ 2147483647) (g2 : -2147483648 ≤ x2 ∧ x2 ≤ 2147483647) (g3 : -2147483648 ≤ x3 ∧ x3 ≤ 2147483647) (v3 : Int) (e3 : v3 = S.1 13 0) (b3 : -2147483648 ≤ v3 ∧ v3 ≤ 2147483647) (c1 : x3 < v3) (c2 : 0 ≤ x3) (c3 : x3 < 80) (v4 : Int) (e4 : v4 = S.1 18 x3) (b4 : -2147483648 ≤ v4 ∧ v4 ≤ 2147483647) (c4 : v4 ≤ x1) (c5 : 0 ≤ x3) (c6 : x3 < 80) (v5 : Int) (e5 : v5 = S.1 64 x3) (b5 : -128 ≤ v5 ∧ v5 ≤ 127) (c7 : v5 = 0) (v6 : Int) (S1 : fx_S) (k1 : fx_Sok S1) (b6 : -2147483648 ≤ v6 ∧ v6 ≤ 2147483647) (p1 : s136 S x3 v6 S1) (c8 : v6 = 0) (v7 : Int) (e7 : v7 = fx_add x3 1) (z : Int) (Z : fx_S) (kz : fx_Sok Z) (bz : -2147483648 ≤ z ∧ z ≤ 2147483647) (pz : s370 S1 x1 x2 v7 z Z) : s370 S x1 x2 x3 z Z := by
  obtain ⟨rfl, p1⟩ := p1
  obtain ⟨rZ, fZ⟩ := pz
  refine ⟨rZ, ?_⟩
  · intro p i hW
    clear e7 c8 b6 c7 b5 e5 c6 c5 c4 b4 e4 c3 c2 c1 b3 e3
    exact (fZ p i (by omega))
theorem q370_5 (S : fx_S) (x1 x2 x3 : Int) (hS : fx_Sok S) (g1 : -2147483648 ≤ x1 ∧ x1 ≤ 2147483647) (g2 : -2147483648 ≤ x2 ∧ x2 ≤ 2147483647) (g3 : -2147483648 ≤ x3 ∧ x3 ≤ 2147483647) (v3 : Int) (e3 : v3 = S.1 13 0) (b3 : -2147483648 ≤ v3 ∧ v3 ≤ 2147483647) (c1 : x3 < v3) (c2 : 0 ≤ x3) (c3 : x3 < 80) (v4 : Int) (e4 : v4 = S.1 18 x3) (b4 : -2147483648 ≤ v4 ∧ v4 ≤ 2147483647) (c4 : v4 ≤ x1) (c5 : 0 ≤ x3) (c6 : x3 < 80) (v5 : Int) (e5 : v5 = S.1 64 x3) (b5 : -128 ≤ v5 ∧ v5 ≤ 127) (c7 : v5 = 0) (v6 : Int) (S1 : fx_S) (k1 : fx_Sok S1) (b6 : -2147483648 ≤ v6 ∧ v6 ≤ 2147483647) (p1 : s136 S x3 v6 S1) (c8 : v6 ≠ 0) (c9 : 0 ≤ x3) (c10 : x3 < 80) (S2 : fx_S) (d2 : S2 = (fx_up S1.1 64 x3 1, S1.2)) (v7 : Int) (e7 : v7 = fx_add x2 1) (v8 : Int) (e8 : v8 = fx_add x3 1) (z : Int) (Z : fx_S) (kz : fx_Sok Z) (bz : -2147483648 ≤ z ∧ z ≤ 2147483647) (pz : s370 S2 x1 v7 v8 z Z) : s370 S x1 x2 x3 z Z := by
  obtain ⟨rfl, p1⟩ := p1
  obtain ⟨rZ, fZ⟩ := pz
  refine ⟨(rZ).trans ((show S2.2 = S.2 by rw [d2])), ?_⟩
  · intro p i hW
    clear e8 e7 c10 c9 c8 b6 c7 b5 e5 c6 c5 c4 b4 e4 c3 c2 c1 b3 e3
    exact ((fZ p i (by omega))).trans ((show S2.1 p i = S.1 p i by rw [d2]; exact if_neg (by omega)))
theorem q371_0 (S : fx_S) (x2 x3 : Int) (hS : fx_Sok S) (g2 : -2147483648 ≤ x2 ∧ x2 ≤ 2147483647) (g3 : -2147483648 ≤ x3 ∧ x3 ≤ 2147483647) (v2 : Int) (e2 : v2 = S.1 67 2) (b2 : -2147483648 ≤ v2 ∧ v2 ≤ 2147483647) (c1 : v2 ≤ x3) (v3 : Int) (e3 : v3 = S.1 66 29) (b3 : -2147483648 ≤ v3 ∧ v3 ≤ 2147483647) (c2 : v3 ≤ x2) (z : Int) (Z : fx_S) (kz : fx_Sok Z) (bz : z = 0) (pz : s333 S 0 z Z) : s371 S x2 x3 z Z := by
  obtain ⟨rZ, fZ⟩ := pz
  refine ⟨rZ, ?_⟩
  · intro p i hW
    clear c2 b3 e3 c1 b2 e2
    exact (fZ p i (by omega))
theorem q371_1 (S : fx_S) (x2 x3 : Int) (hS : fx_Sok S) (g2 : -2147483648 ≤ x2 ∧ x2 ≤ 2147483647) (g3 : -2147483648 ≤ x3 ∧ x3 ≤ 2147483647) (v2 : Int) (e2 : v2 = S.1 67 2) (b2 : -2147483648 ≤ v2 ∧ v2 ≤ 2147483647) (c1 : v2 ≤ x3) (v3 : Int) (e3 : v3 = S.1 66 29) (b3 : -2147483648 ≤ v3 ∧ v3 ≤ 2147483647) (c2 : x2 < v3) (z : Int) (Z : fx_S) (kz : fx_Sok Z) (bz : z = 0) (pz : s333 S 1 z Z) : s371 S x2 x3 z Z := by
  obtain ⟨rZ, fZ⟩ := pz
  refine ⟨rZ, ?_⟩
  · intro p i hW
    clear c2 b3 e3 c1 b2 e2
    exact (fZ p i (by omega))
theorem q371_2 (S : fx_S) (x2 x3 : Int) (hS : fx_Sok S) (g2 : -2147483648 ≤ x2 ∧ x2 ≤ 2147483647) (g3 : -2147483648 ≤ x3 ∧ x3 ≤ 2147483647) (v2 : Int) (e2 : v2 = S.1 67 2) (b2 : -2147483648 ≤ v2 ∧ v2 ≤ 2147483647) (c1 : x3 < v2) (c2 : 0 ≤ x3) (c3 : x3 < 80) (v3 : Int) (e3 : v3 = S.1 83 x3) (b3 : 0 ≤ v3 ∧ v3 ≤ 1) (c4 : v3 ≠ 0) (v4 : Int) (e4 : v4 = fx_add x3 1) (z : Int) (Z : fx_S) (kz : fx_Sok Z) (bz : z = 0) (pz : s371 S x2 v4 z Z) : s371 S x2 x3 z Z := by
  obtain ⟨rZ, fZ⟩ := pz
  refine ⟨rZ, ?_⟩
  · intro p i hW
    clear e4 c4 b3 e3 c3 c2 c1 b2 e2
    exact (fZ p i (by omega))
theorem q371_3 (S : fx_S) (x2 x3 : Int) (hS : fx_Sok S) (g2 : -2147483648 ≤ x2 ∧ x2 ≤ 2147483647) (g3 : -2147483648 ≤ x3 ∧ x3 ≤ 2147483647) (v2 : Int) (e2 : v2 = S.1 67 2) (b2 : -2147483648 ≤ v2 ∧ v2 ≤ 2147483647) (c1 : x3 < v2) (c2 : 0 ≤ x3) (c3 : x3 < 80) (v3 : Int) (e3 : v3 = S.1 83 x3) (b3 : 0 ≤ v3 ∧ v3 ≤ 1) (c4 : v3 = 0) (v4 : Int) (e4 : v4 = S.1 67 0) (b4 : -2147483648 ≤ v4 ∧ v4 ≤ 2147483647) (v5 : Int) (S1 : fx_S) (k1 : fx_Sok S1) (b5 : -2147483648 ≤ v5 ∧ v5 ≤ 2147483647) (p1 : s156 S x3 v4 v5 S1) (c5 : v5 = 0) (v6 : Int) (e6 : v6 = fx_add x3 1) (z : Int) (Z : fx_S) (kz : fx_Sok Z) (bz : z = 0) (pz : s371 S1 x2 v6 z Z) : s371 S x2 x3 z Z := by
  obtain ⟨rfl, p1⟩ := p1
  obtain ⟨rZ, fZ⟩ := pz
  refine ⟨rZ, ?_⟩
  · intro p i hW
    clear e6 c5 b5 b4 e4 c4 b3 e3 c3 c2 c1 b2 e2
    exact (fZ p i (by omega))
theorem q371_4 (S : fx_S) (x2 x3 : Int) (hS : fx_Sok S) (g2 : -2147483648 ≤ x2 ∧ x2 ≤ 2147483647) (g3 : -2147483648 ≤ x3 ∧ x3 ≤ 2147483647) (v2 : Int) (e2 : v2 = S.1 67 2) (b2 : -2147483648 ≤ v2 ∧ v2 ≤ 2147483647) (c1 : x3 < v2) (c2 : 0 ≤ x3) (c3 : x3 < 80) (v3 : Int) (e3 : v3 = S.1 83 x3) (b3 : 0 ≤ v3 ∧ v3 ≤ 1) (c4 : v3 = 0) (v4 : Int) (e4 : v4 = S.1 67 0) (b4 : -2147483648 ≤ v4 ∧ v4 ≤ 2147483647) (v5 : Int) (S1 : fx_S) (k1 : fx_Sok S1) (b5 : -2147483648 ≤ v5 ∧ v5 ≤ 2147483647) (p1 : s156 S x3 v4 v5 S1) (c5 : v5 ≠ 0) (v6 : Int) (e6 : v6 = fx_mul 10 x3) (v7 : Int) (e7 : v7 = fx_add 300 v6) (v8 : Int) (e8 : v8 = fx_add v7 4) (c6 : 0 ≤ v8) (c7 : v8 < 8090) (v9 : Int) (e9 : v9 = S1.1 67 v8) (b9 : -2147483648 ≤ v9 ∧ v9 ≤ 2147483647) (c8 : v9 ≤ x2) (c9 : 0 ≤ x3) (c10 : x3 < 80) (S2 : fx_S) (d2 : S2 = (fx_up S1.1 83 x3 1, S1.2)) (v10 : Int) (e10 : v10 = S2.1 66 29) (b10 : -2147483648 ≤ v10 ∧ v10 ≤ 2147483647) (v11 : Int) (e11 : v11 = fx_add v10 1) (S3 : fx_S) (d3 : S3 = (fx_up S2.1 66 29 v11, S2.2)) (v12 : Int) (e12 : v12 = fx_add x3 1) (z : Int) (Z : fx_S) (kz : fx_Sok Z) (bz : z = 0) (pz : s371 S3 x2 v12 z Z) : s371 S x2 x3 z Z := by
  obtain ⟨rfl, p1⟩ := p1
  obtain ⟨rZ, fZ⟩ := pz
  refine ⟨(rZ).trans (((show S3.2 = S2.2 by rw [d3])).trans ((show S2.2 = S.2 by rw [d2]))), ?_⟩
  · intro p i hW
    clear e12 e11 b10 e10 c10 c9 c8 b9 e9 c7 c6 e8 e7 e6 c5 b5 b4 e4 c4 b3 e3 c3 c2 c1 b2 e2
    exact ((fZ p i (by omega))).trans (((show S3.1 p i = S2.1 p i by rw [d3]; exact if_neg (by omega))).trans ((show S2.1 p i = S.1 p i by rw [d2]; exact if_neg (by omega))))
theorem q371_5 (S : fx_S) (x2 x3 : Int) (hS : fx_Sok S) (g2 : -2147483648 ≤ x2 ∧ x2 ≤ 2147483647) (g3 : -2147483648 ≤ x3 ∧ x3 ≤ 2147483647) (v2 : Int) (e2 : v2 = S.1 67 2) (b2 : -2147483648 ≤ v2 ∧ v2 ≤ 2147483647) (c1 : x3 < v2) (c2 : 0 ≤ x3) (c3 : x3 < 80) (v3 : Int) (e3 : v3 = S.1 83 x3) (b3 : 0 ≤ v3 ∧ v3 ≤ 1) (c4 : v3 = 0) (v4 : Int) (e4 : v4 = S.1 67 0) (b4 : -2147483648 ≤ v4 ∧ v4 ≤ 2147483647) (v5 : Int) (S1 : fx_S) (k1 : fx_Sok S1) (b5 : -2147483648 ≤ v5 ∧ v5 ≤ 2147483647) (p1 : s156 S x3 v4 v5 S1) (c5 : v5 ≠ 0) (v6 : Int) (e6 : v6 = fx_mul 10 x3) (v7 : Int) (e7 : v7 = fx_add 300 v6) (v8 : Int) (e8 : v8 = fx_add v7 4) (c6 : 0 ≤ v8) (c7 : v8 < 8090) (v9 : Int) (e9 : v9 = S1.1 67 v8) (b9 : -2147483648 ≤ v9 ∧ v9 ≤ 2147483647) (c8 : x2 < v9) (v10 : Int) (e10 : v10 = fx_add x3 1) (z : Int) (Z : fx_S) (kz : fx_Sok Z) (bz : z = 0) (pz : s371 S1 x2 v10 z Z) : s371 S x2 x3 z Z := by
  obtain ⟨rfl, p1⟩ := p1
  obtain ⟨rZ, fZ⟩ := pz
  refine ⟨rZ, ?_⟩
  · intro p i hW
    clear e10 c8 b9 e9 c7 c6 e8 e7 e6 c5 b5 b4 e4 c4 b3 e3 c3 c2 c1 b2 e2
    exact (fZ p i (by omega))
theorem q372_0 (S : fx_S) (x2 x3 : Int) (hS : fx_Sok S) (g2 : -2147483648 ≤ x2 ∧ x2 ≤ 2147483647) (g3 : -2147483648 ≤ x3 ∧ x3 ≤ 2147483647) (v2 : Int) (e2 : v2 = S.1 67 2) (b2 : -2147483648 ≤ v2 ∧ v2 ≤ 2147483647) (c1 : v2 ≤ x3) (c2 : x2 = (-1)) (z : Int) (Z : fx_S) (kz : fx_Sok Z) (bz : z = 0) (pz : s334 S 0 z Z) : s372 S x2 x3 z Z := by
  obtain ⟨rZ, fZ⟩ := pz
  refine ⟨rZ, ?_⟩
  · intro p i hW
    clear c2 c1 b2 e2
    exact (fZ p i (by omega))
theorem q372_1 (S : fx_S) (x2 x3 : Int) (hS : fx_Sok S) (g2 : -2147483648 ≤ x2 ∧ x2 ≤ 2147483647) (g3 : -2147483648 ≤ x3 ∧ x3 ≤ 2147483647) (v2 : Int) (e2 : v2 = S.1 67 2) (b2 : -2147483648 ≤ v2 ∧ v2 ≤ 2147483647) (c1 : v2 ≤ x3) (c2 : x2 ≠ (-1)) (c3 : 0 ≤ x2) (c4 : x2 < 80) (S1 : fx_S) (d1 : S1 = (fx_up S.1 83 x2 0, S.2)) (v3 : Int) (e3 : v3 = S1.1 66 29) (b3 : -2147483648 ≤ v3 ∧ v3 ≤ 2147483647) (v4 : Int) (e4 : v4 = fx_sub v3 1) (S2 : fx_S) (d2 : S2 = (fx_up S1.1 66 29 v4, S1.2)) (v5 : Int) (e5 : v5 = S2.1 66 30) (b5 : -2147483648 ≤ v5 ∧ v5 ≤ 2147483647) (c5 : 0 ≤ v5) (c6 : v5 < 80) (S3 : fx_S) (d3 : S3 = (fx_up S2.1 84 v5 x2, S2.2)) (v6 : Int) (e6 : v6 = S3.1 66 30) (b6 : -2147483648 ≤ v6 ∧ v6 ≤ 2147483647) (v7 : Int) (e7 : v7 = fx_add v6 1) (S4 : fx_S) (d4 : S4 = (fx_up S3.1 66 30 v7, S3.2)) (z : Int) (Z : fx_S) (kz : fx_Sok Z) (bz : z = 0) (pz : s334 S4 1 z Z) : s372 S x2 x3 z Z := by
  obtain ⟨rZ, fZ⟩ := pz
  refine ⟨(rZ).trans (((show S4.2 = S3.2 by rw [d4])).trans (((show S3.2 = S2.2 by rw [d3])).trans (((show S2.2 = S1.2 by rw [d2])).trans ((show S1.2 = S.2 by rw [d1]))))), ?_⟩
  · intro p i hW
    clear e7 b6 e6 c6 c5 b5 e5 e4 b3 e3 c4 c3 c2 c1 b2 e2
    exact ((fZ p i (by omega))).trans (((show S4.1 p i = S3.1 p i by rw [d4]; exact if_neg (by omega))).trans (((show S3.1 p i = S2.1 p i by rw [d3]; exact if_neg (by omega))).trans (((show S2.1 p i = S1.1 p i by rw [d2]; exact if_neg (by omega))).trans ((show S1.1 p i = S.1 p i by rw [d1]; exact if_neg (by omega))))))
theorem q372_2 (S : fx_S) (x2 x3 : Int) (hS : fx_Sok S) (g2 : -2147483648 ≤ x2 ∧ x2 ≤ 2147483647) (g3 : -2147483648 ≤ x3 ∧ x3 ≤ 2147483647) (v2 : Int) (e2 : v2 = S.1 67 2) (b2 : -2147483648 ≤ v2 ∧ v2 ≤ 2147483647) (c1 : x3 < v2) (c2 : 0 ≤ x3) (c3 : x3 < 80) (v3 : Int) (e3 : v3 = S.1 83 x3) (b3 : 0 ≤ v3 ∧ v3 ≤ 1) (c4 : v3 = 0) (v4 : Int) (e4 : v4 = fx_add x3 1) (z : Int) (Z : fx_S) (kz : fx_Sok Z) (bz : z = 0) (pz : s372 S x2 v4 z Z) : s372 S x2 x3 z Z := by
  obtain ⟨rZ, fZ⟩ := pz
  refine ⟨rZ, ?_⟩
  · intro p i hW
    clear e4 c4 b3 e3 c3 c2 c1 b2 e2
    exact (fZ p i (by omega))
theorem q372_3 (S : fx_S) (x2 x3 : Int) (hS : fx_Sok S) (g2 : -2147483648 ≤ x2 ∧ x2 ≤ 2147483647) (g3 : -2147483648 ≤ x3 ∧ x3 ≤ 2147483647) (v2 : Int) (e2 : v2 = S.1 67 2) (b2 : -2147483648 ≤ v2 ∧ v2 ≤ 2147483647) (c1 : x3 < v2) (c2 : 0 ≤ x3) (c3 : x3 < 80) (v3 : Int) (e3 : v3 = S.1 83 x3) (b3 : 0 ≤ v3 ∧ v3 ≤ 1) (c4 : v3 ≠ 0) (v4 : Int) (e4 : v4 = fx_mul 10 x3) (v5 : Int) (e5 : v5 = fx_add 300 v4) (v6 : Int) (e6 : v6 = fx_add v5 4) (c5 : 0 ≤ v6) (c6 : v6 < 8090) (v7 : Int) (e7 : v7 = S.1 67 v6) (b7 : -2147483648 ≤ v7 ∧ v7 ≤ 2147483647) (v8 : Int) (e8 : v8 = S.1 66 29) (b8 : -2147483648 ≤ v8 ∧ v8 ≤ 2147483647) (v9 : Int) (e9 : v9 = fx_sub v8 1) (c7 : v7 ≤ v9) (v10 : Int) (e10 : v10 = fx_add x3 1) (z : Int) (Z : fx_S) (kz : fx_Sok Z) (bz : z = 0) (pz : s372 S x2 v10 z Z) : s372 S x2 x3 z Z := by
  obtain ⟨rZ, fZ⟩ := pz
  refine ⟨rZ, ?_⟩
  · intro p i hW
    clear e10 c7 e9 b8 e8 b7 e7 c6 c5 e6 e5 e4 c4 b3 e3 c3 c2 c1 b2 e2
    exact (fZ p i (by omega))
theorem q372_4 (S : fx_S) (x2 x3 : Int) (hS : fx_Sok S) (g2 : -2147483648 ≤ x2 ∧ x2 ≤ 2147483647) (g3 : -2147483648 ≤ x3 ∧ x3 ≤ 2147483647) (v2 : Int) (e2 : v2 = S.1 67 2) (b2 : -2147483648 ≤ v2 ∧ v2 ≤ 2147483647) (c1 : x3 < v2) (c2 : 0 ≤ x3) (c3 : x3 < 80) (v3 : Int) (e3 : v3 = S.1 83 x3) (b3 : 0 ≤ v3 ∧ v3 ≤ 1) (c4 : v3 ≠ 0) (v4 : Int) (e4 : v4 = fx_mul 10 x3) (v5 : Int) (e5 : v5 = fx_add 300 v4) (v6 : Int) (e6 : v6 = fx_add v5 4) (c5 : 0 ≤ v6) (c6 : v6 < 8090) (v7 : Int) (e7 : v7 = S.1 67 v6) (b7 : -2147483648 ≤ v7 ∧ v7 ≤ 2147483647) (v8 : Int) (e8 : v8 = S.1 66 29) (b8 : -2147483648 ≤ v8 ∧ v8 ≤ 2147483647) (v9 : Int) (e9 : v9 = fx_sub v8 1) (c7 : v9 < v7) (c8 : x2 = (-1)) (v10 : Int) (e10 : v10 = fx_add x3 1) (z : Int) (Z : fx_S) (kz : fx_Sok Z) (bz : z = 0) (pz : s372 S x3 v10 z Z) : s372 S x2 x3 z Z := by
  obtain ⟨rZ, fZ⟩ := pz
  refine ⟨rZ, ?_⟩
  · intro p i hW
    clear e10 c8 c7 e9 b8 e8 b7 e7 c6 c5 e6 e5 e4 c4 b3 e3 c3 c2 c1 b2 e2
    exact (fZ p i (by omega))
theorem q372_5 (S : fx_S) (x2 x3 : Int) (hS : fx_Sok S) (g2 : -2147483648 ≤ x2 ∧ x2 ≤ 2147483647) (g3 : -2147483648 ≤ x3 ∧ x3 ≤ 2147483647) (v2 : Int) (e2 : v2 = S.1 67 2) (b2 : -2147483648 ≤ v2 ∧ v2 ≤ 2147483647) (c1 : x3 < v2) (c2 : 0 ≤ x3) (c3 : x3 < 80) (v3 : Int) (e3 : v3 = S.1 83 x3) (b3 : 0 ≤ v3 ∧ v3 ≤ 1) (c4 : v3 ≠ 0) (v4 : Int) (e4 : v4 = fx_mul 10 x3) (v5 : Int) (e5 : v5 = fx_add 300 v4) (v6 : Int) (e6 : v6 = fx_add v5 4) (c5 : 0 ≤ v6) (c6 : v6 < 8090) (v7 : Int) (e7 : v7 = S.1 67 v6) (b7 : -2147483648 ≤ v7 ∧ v7 ≤ 2147483647) (v8 : Int) (e8 : v8 = S.1 66 29) (b8 : -2147483648 ≤ v8 ∧ v8 ≤ 2147483647) (v9 : Int) (e9 : v9 = fx_sub v8 1) (c7 : v9 < v7) (c8 : x2 ≠ (-1)) (v10 : Int) (e10 : v10 = fx_mul 10 x3) (v11 : Int) (e11 : v11 = fx_add 300 v10) (v12 : Int) (e12 : v12 = fx_add v11 4) (c9 : 0 ≤ v12) (c10 : v12 < 8090) (v13 : Int) (e13 : v13 = S.1 67 v12) (b13 : -2147483648 ≤ v13 ∧ v13 ≤ 2147483647) (v14 : Int) (e14 : v14 = fx_mul 10 x2) (v15 : Int) (e15 : v15 = fx_add 300 v14) (v16 : Int) (e16 : v16 = fx_add v15 4) (c11 : 0 ≤ v16) (c12 : v16 < 8090) (v17 : Int) (e17 : v17 = S.1 67 v16) (b17 : -2147483648 ≤ v17 ∧ v17 ≤ 2147483647) (c13 : v13 < v17) (v18 : Int) (e18 : v18 = fx_add x3 1) (z : Int) (Z : fx_S) (kz : fx_Sok Z) (bz : z = 0) (pz : s372 S x2 v18 z Z) : s372 S x2 x3 z Z := by
  obtain ⟨rZ, fZ⟩ := pz
  refine ⟨rZ, ?_⟩
  · intro p i hW
    clear e18 c13 b17 e17 c12 c11 e16 e15 e14 b13 e13 c10 c9 e12 e11 e10 c8 c7 e9 b8 e8 b7 e7 c6 c5 e6 e5 e4 c4 b3 e3 c3 c2 c1 b2 e2
    exact (fZ p i (by omega))
theorem q372_6 (S : fx_S) (x2 x3 : Int) (hS : fx_Sok S) (g2 : -2147483648 ≤ x2 ∧ x2 ≤ 2147483647) (g3 : -2147483648 ≤ x3 ∧ x3 ≤ 2147483647) (v2 : Int) (e2 : v2 = S.1 67 2) (b2 : -2147483648 ≤ v2 ∧ v2 ≤ 2147483647) (c1 : x3 < v2) (c2 : 0 ≤ x3) (c3 : x3 < 80) (v3 : Int) (e3 : v3 = S.1 83 x3) (b3 : 0 ≤ v3 ∧ v3 ≤ 1) (c4 : v3 ≠ 0) (v4 : Int) (e4 : v4 = fx_mul 10 x3) (v5 : Int) (e5 : v5 = fx_add 300 v4) (v6 : Int) (e6 : v6 = fx_add v5 4) (c5 : 0 ≤ v6) (c6 : v6 < 8090) (v7 : Int) (e7 : v7 = S.1 67 v6) (b7 : -2147483648 ≤ v7 ∧ v7 ≤ 2147483647) (v8 : Int) (e8 : v8 = S.1 66 29) (b8 : -2147483648 ≤ v8 ∧ v8 ≤ 2147483647) (v9 : Int) (e9 : v9 = fx_sub v8 1) (c7 : v9 < v7) (c8 : x2 ≠ (-1)) (v10 : Int) (e10 : v10 = fx_mul 10 x3) (v11 : Int) (e11 : v11 = fx_add 300 v10) (v12 : Int) (e12 : v12 = fx_add v11 4) (c9 : 0 ≤ v12) (c10 : v12 < 8090) (v13 : Int) (e13 : v13 = S.1 67 v12) (b13 : -2147483648 ≤ v13 ∧ v13 ≤ 2147483647) (v14 : Int) (e14 : v14 = fx_mul 10 x2) (v15 : Int) (e15 : v15 = fx_add 300 v14) (v16 : Int) (e16 : v16 = fx_add v15 4) (c11 : 0 ≤ v16) (c12 : v16 < 8090) (v17 : Int) (e17 : v17 = S.1 67 v16) (b17 : -2147483648 ≤ v17 ∧ v17 ≤ 2147483647) (c13 : v17 ≤ v13) (v18 : Int) (e18 : v18 = fx_add x3 1) (z : Int) (Z : fx_S) (kz : fx_Sok Z) (bz : z = 0) (pz : s372 S x3 v18 z Z) : s372 S x2 x3 z Z := by
  obtain ⟨rZ, fZ⟩ := pz
  refine ⟨rZ, ?_⟩
  · intro p i hW
    clear e18 c13 b17 e17 c12 c11 e16 e15 e14 b13 e13 c10 c9 e12 e11 e10 c8 c7 e9 b8 e8 b7 e7 c6 c5 e6 e5 e4 c4 b3 e3 c3 c2 c1 b2 e2
    exact (fZ p i (by omega))
theorem q373_0 (S : fx_S) (x2 : Int) (hS : fx_Sok S) (g2 : -2147483648 ≤ x2 ∧ x2 ≤ 2147483647) (c1 : x2 < 0) (v1 : Int) (S1 : fx_S) (k1 : fx_Sok S1) (b1 : v1 = 0) (p1 : s388 S  v1 S1) (v2 : Int) (e2 : v2 = S1.1 60 0) (b2 : -2147483648 ≤ v2 ∧ v2 ≤ 2147483647) (S2 : fx_S) (d2 : S2 = (fx_up S1.1 56 1 v2, S1.2)) (v3 : Int) (e3 : v3 = S2.1 59 0) (b3 : -2147483648 ≤ v3 ∧ v3 ≤ 2147483647) : s373 S x2 v3 S2 := by
  obtain ⟨r1, f1⟩ := p1
  refine ⟨((show S2.2 = S1.2 by rw [d2])).trans (r1), ?_⟩
  · intro p i hW
    clear b3 e3 b2 e2 b1 c1
    exact ((show S2.1 p i = S1.1 p i by rw [d2]; exact if_neg (by omega))).trans ((f1 p i (by omega)))
theorem q373_1 (S : fx_S) (x2 : Int) (hS : fx_Sok S) (g2 : -2147483648 ≤ x2 ∧ x2 ≤ 2147483647) (c1 : 0 ≤ x2) (z : Int) (Z : fx_S) (kz : fx_Sok Z) (bz : -2147483648 ≤ z ∧ z ≤ 2147483647) (pz : s389 S x2 0 z Z) : s373 S x2 z Z := by
  obtain ⟨rZ, fZ⟩ := pz
  refine ⟨rZ, ?_⟩
  · intro p i hW
    clear c1
    exact (fZ p i (by omega))
theorem q374_0 (S : fx_S) (x1 x2 : Int) (hS : fx_Sok S) (g1 : -2147483648 ≤ x1 ∧ x1 ≤ 2147483647) (g2 : -2147483648 ≤ x2 ∧ x2 ≤ 2147483647) (v2 : Int) (e2 : v2 = fx_add 7 x2) (c1 : 0 ≤ x1) (c2 : x1 < 14) (v3 : Int) (e3 : v3 = S.1 47 x1) (b3 : -2147483648 ≤ v3 ∧ v3 ≤ 2147483647) (c3 : 0 ≤ v2) (c4 : v2 < 14) (v4 : Int) (e4 : v4 = S.1 47 v2) (b4 : -2147483648 ≤ v4 ∧ v4 ≤ 2147483647) (c5 : v3 ≠ v4) (c6 : 0 ≤ x1) (c7 : x1 < 14) (v5 : Int) (e5 : v5 = S.1 48 x1) (b5 : -2147483648 ≤ v5 ∧ v5 ≤ 2147483647) (c8 : 0 ≤ v2) (c9 : v2 < 14) (v6 : Int) (e6 : v6 = S.1 48 v2) (b6 : -2147483648 ≤ v6 ∧ v6 ≤ 2147483647) (c10 : v5 ≠ v6) (c11 : 0 ≤ x1) (c12 : x1 < 14) (v7 : Int) (e7 : v7 = S.1 46 x1) (b7 : -2147483648 ≤ v7 ∧ v7 ≤ 2147483647) (c13 : 0 ≤ v2) (c14 : v2 < 14) (v8 : Int) (e8 : v8 = S.1 46 v2) (b8 : -2147483648 ≤ v8 ∧ v8 ≤ 2147483647) (v9 : Int) (e9 : v9 = fx_sub v7 v8) (v10 : Int) (S1 : fx_S) (k1 : fx_Sok S1) (b10 : -2147483648 ≤ v10 ∧ v10 ≤ 2147483647) (p1 : s375 S v9 v10 S1) (v11 : Int) (e11 : v11 = fx_sub 4 v10) (v12 : Int) (S2 : fx_S) (k2 : fx_Sok S2) (b12 : -2147483648 ≤ v12 ∧ v12 ≤ 2147483647) (p2 : s188 S1 0 v11 v12 S2) (v13 : Int) (e13 : v13 = fx_add 0 v12) : s374 S x1 x2 v13 S2 := by
  obtain rfl : S = S1 := p1
  obtain ⟨rfl, p2⟩ := p2
  exact rfl
theorem q374_1 (S : fx_S) (x1 x2 : Int) (hS : fx_Sok S) (g1 : -2147483648 ≤ x1 ∧ x1 ≤ 2147483647) (g2 : -2147483648 ≤ x2 ∧ x2 ≤ 2147483647) (v2 : Int) (e2 : v2 = fx_add 7 x2) (c1 : 0 ≤ x1) (c2 : x1 < 14) (v3 : Int) (e3 : v3 = S.1 47 x1) (b3 : -2147483648 ≤ v3 ∧ v3 ≤ 2147483647) (c3 : 0 ≤ v2) (c4 : v2 < 14) (v4 : Int) (e4 : v4 = S.1 47 v2) (b4 : -2147483648 ≤ v4 ∧ v4 ≤ 2147483647) (c5 : v3 ≠ v4) (c6 : 0 ≤ x1) (c7 : x1 < 14) (v5 : Int) (e5 : v5 = S.1 48 x1) (b5 : -2147483648 ≤ v5 ∧ v5 ≤ 2147483647) (c8 : 0 ≤ v2) (c9 : v2 < 14) (v6 : Int) (e6 : v6 = S.1 48 v2) (b6 : -2147483648 ≤ v6 ∧ v6 ≤ 2147483647) (c10 : v5 = v6) (c11 : 0 ≤ x1) (c12 : x1 < 14) (v7 : Int) (e7 : v7 = S.1 46 x1) (b7 : -2147483648 ≤ v7 ∧ v7 ≤ 2147483647) (c13 : 0 ≤ v2) (c14 : v2 < 14) (v8 : Int) (e8 : v8 = S.1 46 v2) (b8 : -2147483648 ≤ v8 ∧ v8 ≤ 2147483647) (v9 : Int) (e9 : v9 = fx_sub v7 v8) (v10 : Int) (S1 : fx_S) (k1 : fx_Sok S1) (b10 : -2147483648 ≤ v10 ∧ v10 ≤ 2147483647) (p1 : s375 S v9 v10 S1) (v11 : Int) (e11 : v11 = fx_sub 4 v10) (v12 : Int) (S2 : fx_S) (k2 : fx_Sok S2) (b12 : -2147483648 ≤ v12 ∧ v12 ≤ 2147483647) (p2 : s188 S1 0 v11 v12 S2) (v13 : Int) (e13 : v13 = fx_add 3 v12) : s374 S x1 x2 v13 S2 := by
  obtain rfl : S = S1 := p1
  obtain ⟨rfl, p2⟩ := p2
  exact rfl
theorem q374_2 (S : fx_S) (x1 x2 : Int) (hS : fx_Sok S) (g1 : -2147483648 ≤ x1 ∧ x1 ≤ 2147483647) (g2 : -2147483648 ≤ x2 ∧ x2 ≤ 2147483647) (v2 : Int) (e2 : v2 = fx_add 7 x2) (c1 : 0 ≤ x1) (c2 : x1 < 14) (v3 : Int) (e3 : v3 = S.1 47 x1) (b3 : -2147483648 ≤ v3 ∧ v3 ≤ 2147483647) (c3 : 0 ≤ v2) (c4 : v2 < 14) (v4 : Int) (e4 : v4 = S.1 47 v2) (b4 : -2147483648 ≤ v4 ∧ v4 ≤ 2147483647) (c5 : v3 = v4) (c6 : 0 ≤ x1) (c7 : x1 < 14) (v5 : Int) (e5 : v5 = S.1 48 x1) (b5 : -2147483648 ≤ v5 ∧ v5 ≤ 2147483647) (c8 : 0 ≤ v2) (c9 : v2 < 14) (v6 : Int) (e6 : v6 = S.1 48 v2) (b6 : -2147483648 ≤ v6 ∧ v6 ≤ 2147483647) (c10 : v5 ≠ v6) (c11 : 0 ≤ x1) (c12 : x1 < 14) (v7 : Int) (e7 : v7 = S.1 46 x1) (b7 : -2147483648 ≤ v7 ∧ v7 ≤ 2147483647) (c13 : 0 ≤ v2) (c14 : v2 < 14) (v8 : Int) (e8 : v8 = S.1 46 v2) (b8 : -2147483648 ≤ v8 ∧ v8 ≤ 2147483647) (v9 : Int) (e9 : v9 = fx_sub v7 v8) (v10 : Int) (S1 : fx_S) (k1 : fx_Sok S1) (b10 : -2147483648 ≤ v10 ∧ v10 ≤ 2147483647) (p1 : s375 S v9 v10 S1) (v11 : Int) (e11 : v11 = fx_sub 4 v10) (v12 : Int) (S2 : fx_S) (k2 : fx_Sok S2) (b12 : -2147483648 ≤ v12 ∧ v12 ≤ 2147483647) (p2 : s188 S1 0 v11 v12 S2) (v13 : Int) (e13 : v13 = fx_add 5 v12) : s374 S x1 x2 v13 S2 := by
  obtain rfl : S = S1 := p1
  obtain ⟨rfl, p2⟩ := p2
  exact rfl
theorem q374_3 (S : fx_S) (x1 x2 : Int) (hS : fx_Sok S) (g1 : -2147483648 ≤ x1 ∧ x1 ≤ 2147483647) (g2 : -2147483648 ≤ x2 ∧ x2 ≤ 2147483647) (v2 : Int) (e2 : v2 = fx_add 7 x2) (c1 : 0 ≤ x1) (c2 : x1 < 14) (v3 : Int) (e3 : v3 = S.1 47 x1) (b3 : -2147483648 ≤ v3 ∧ v3 ≤ 2147483647) (c3 : 0 ≤ v2) (c4 : v2 < 14) (v4 : Int) (e4 : v4 = S.1 47 v2) (b4 : -2147483648 ≤ v4 ∧ v4 ≤ 2147483647) (c5 : v3 = v4) (c6 : 0 ≤ x1) (c7 : x1 < 14) (v5 : Int) (e5 : v5 = S.1 48 x1) (b5 : -2147483648 ≤ v5 ∧ v5 ≤ 2147483647) (c8 : 0 ≤ v2) (c9 : v2 < 14) (v6 : Int) (e6 : v6 = S.1 48 v2) (b6 : -2147483648 ≤ v6 ∧ v6 ≤ 2147483647) (c10 : v5 = v6) (c11 : 0 ≤ x1) (c12 : x1 < 14) (v7 : Int) (e7 : v7 = S.1 46 x1) (b7 : -2147483648 ≤ v7 ∧ v7 ≤ 2147483647) (c13 : 0 ≤ v2) (c14 : v2 < 14) (v8 : Int) (e8 : v8 = S.1 46 v2) (b8 : -2147483648 ≤ v8 ∧ v8 ≤ 2147483647) (v9 : Int) (e9 : v9 = fx_sub v7 v8) (v10 : Int) (S1 : fx_S) (k1 : fx_Sok S1) (b10 : -2147483648 ≤ v10 ∧ v10 ≤ 2147483647) (p1 : s375 S v9 v10 S1) (v11 : Int) (e11 : v11 = fx_sub 4 v10) (v12 : Int) (S2 : fx_S) (k2 : fx_Sok S2) (b12 : -2147483648 ≤ v12 ∧ v12 ≤ 2147483647) (p2 : s188 S1 0 v11 v12 S2) (v13 : Int) (e13 : v13 = fx_add 8 v12) : s374 S x1 x2 v13 S2 := by
  obtain rfl : S = S1 := p1
  obtain ⟨rfl, p2⟩ := p2
  exact rfl
