/-! FX: what is to be shown of the entries -/
theorem q275_1 (S : fx_S) (x1 x2 : Int) (hS : fx_Sok S) (g1 : -2147483648 ≤ x1 ∧ x1 ≤ 2147483647) (g2 : -2147483648 ≤ x2 ∧ x2 ≤ 2147483647) (v2 : Int) (e2 : v2 = S.1 67 5) (b2 : -2147483648 ≤ v2 ∧ v2 ≤ 2147483647) (c1 : x2 < v2) (v3 : Int) (e3 : v3 = fx_mul 4 x2) (v4 : Int) (e4 : v4 = fx_add 7100 v3) (c2 : 0 ≤ v4) (c3 : v4 < 8090) (v5 : Int) (e5 : v5 = S.1 67 v4) (b5 : -2147483648 ≤ v5 ∧ v5 ≤ 2147483647) (c4 : 0 ≤ x2) (c5 : x2 < 12) (S1 : fx_S) (d1 : S1 = (fx_up S.1 82 x2 v5, S.2)) (v6 : Int) (e6 : v6 = fx_add x2 1) (z : Int) (Z : fx_S) (kz : fx_Sok Z) (bz : -2147483648 ≤ z ∧ z ≤ 2147483647) (pz : s275 S1 x1 v6 z Z) : s275 S x1 x2 z Z := by
  obtain ⟨rZ, fZ⟩ := pz
  refine ⟨(rZ).trans ((show S1.2 = S.2 by rw [d1])), ?_⟩
  · intro p i hW
    clear e6 c5 c4 b5 e5 c3 c2 e4 e3 c1 b2 e2
    exact ((fZ p i (by omega))).trans ((show S1.1 p i = S.1 p i by rw [d1]; exact if_neg (by omega)))
theorem q276_0 (S : fx_S) (hS : fx_Sok S) (v0 : Int) (S1 : fx_S) (k1 : fx_Sok S1) (b0 : v0 = 0) (p1 : s278 S 0 v0 S1) (z : Int) (Z : fx_S) (kz : fx_Sok Z) (bz : -2147483648 ≤ z ∧ z ≤ 2147483647) (pz : s329 S1 0 0 z Z) : s276 S  z Z := by
  obtain ⟨r1, f1⟩ := p1
  obtain ⟨rZ, fZ⟩ := pz
  refine ⟨(rZ).trans (r1), ?_⟩
  · intro p i hW
    clear b0
    exact ((fZ p i (by omega))).trans ((f1 p i (by omega)))
theorem q277_0 (S : fx_S) (x1 x2 : Int) (hS : fx_Sok S) (g1 : -2147483648 ≤ x1 ∧ x1 ≤ 2147483647) (g2 : -2147483648 ≤ x2 ∧ x2 ≤ 2147483647) (c1 : 80 ≤ x2) : s277 S x1 x2 x1 S := by
  refine ⟨rfl, ?_⟩
  · intro p i hW
    clear c1
    exact rfl
theorem q277_1 (S : fx_S) (x1 x2 : Int) (hS : fx_Sok S) (g1 : -2147483648 ≤ x1 ∧ x1 ≤ 2147483647) (g2 : -2147483648 ≤ x2 ∧ x2 ≤ 2147483647) (c1 : x2 < 80) (v2 : Int) (e2 : v2 = fx_sub x1 1) (v3 : Int) (S1 : fx_S) (k1 : fx_Sok S1) (b3 : -2147483648 ≤ v3 ∧ v3 ≤ 2147483647) (p1 : s330 S v2 v3 S1) (c2 : v3 ≠ (-1)) (c3 : 0 ≤ v3) (c4 : v3 < 80) (S2 : fx_S) (d2 : S2 = (fx_up S1.1 64 v3 0, S1.2)) (v4 : Int) (e4 : v4 = S2.1 0 10) (b4 : -2147483648 ≤ v4 ∧ v4 ≤ 2147483647) (c5 : 0 ≤ v4) (c6 : v4 < 80) (S3 : fx_S) (d3 : S3 = (fx_up S2.1 65 v4 v3, S2.2)) (v5 : Int) (e5 : v5 = S3.1 0 10) (b5 : -2147483648 ≤ v5 ∧ v5 ≤ 2147483647) (v6 : Int) (e6 : v6 = fx_add v5 1) (S4 : fx_S) (d4 : S4 = (fx_up S3.1 0 10 v6, S3.2)) (v7 : Int) (e7 : v7 = fx_add x1 (-1)) (v8 : Int) (e8 : v8 = fx_add x2 1) (z : Int) (Z : fx_S) (kz : fx_Sok Z) (bz : -2147483648 ≤ z ∧ z ≤ 2147483647) (pz : s277 S4 v7 v8 z Z) : s277 S x1 x2 z Z := by
  obtain rfl : S = S1 := p1
  obtain ⟨rZ, fZ⟩ := pz
  refine ⟨(rZ).trans (((show S4.2 = S3.2 by rw [d4])).trans (((show S3.2 = S2.2 by rw [d3])).trans ((show S2.2 = S.2 by rw [d2])))), ?_⟩
  · intro p i hW
    clear e8 e7 e6 b5 e5 c6 c5 b4 e4 c4 c3 c2 b3 e2 c1
    exact ((fZ p i (by omega))).trans (((show S4.1 p i = S3.1 p i by rw [d4]; exact if_neg (by omega))).trans (((show S3.1 p i = S2.1 p i by rw [d3]; exact if_neg (by omega))).trans ((show S2.1 p i = S.1 p i by rw [d2]; exact if_neg (by omega)))))
theorem q277_2 (S : fx_S) (x1 x2 : Int) (hS : fx_Sok S) (g1 : -2147483648 ≤ x1 ∧ x1 ≤ 2147483647) (g2 : -2147483648 ≤ x2 ∧ x2 ≤ 2147483647) (c1 : x2 < 80) (v2 : Int) (e2 : v2 = fx_sub x1 1) (v3 : Int) (S1 : fx_S) (k1 : fx_Sok S1) (b3 : -2147483648 ≤ v3 ∧ v3 ≤ 2147483647) (p1 : s330 S v2 v3 S1) (c2 : v3 = (-1)) : s277 S x1 x2 x1 S1 := by
  obtain rfl : S = S1 := p1
  refine ⟨rfl, ?_⟩
  · intro p i hW
    clear c2 b3 e2 c1
    exact rfl
theorem q278_0 (S : fx_S) (x1 : Int) (hS : fx_Sok S) (g1 : -2147483648 ≤ x1 ∧ x1 ≤ 2147483647) (z : Int) (Z : fx_S) (kz : fx_Sok Z) (bz : z = 0) (pz : s331 S x1 0 80 z Z) : s278 S x1 z Z := by
  obtain ⟨rZ, fZ⟩ := pz
  refine ⟨rZ, ?_⟩
  · intro p i hW
    exact (fZ p i (by omega))
theorem q279_0 (S : fx_S) (x1 x2 : Int) (hS : fx_Sok S) (g1 : -2147483648 ≤ x1 ∧ x1 ≤ 2147483647) (g2 : -2147483648 ≤ x2 ∧ x2 ≤ 2147483647) (c1 : 80 ≤ x2) : s279 S x1 x2 x1 S := by
  refine ⟨rfl, ?_⟩
  · intro p i hW
    clear c1
    exact rfl
theorem q279_1 (S : fx_S) (x1 x2 : Int) (hS : fx_Sok S) (g1 : -2147483648 ≤ x1 ∧ x1 ≤ 2147483647) (g2 : -2147483648 ≤ x2 ∧ x2 ≤ 2147483647) (c1 : x2 < 80) (v2 : Int) (S1 : fx_S) (k1 : fx_Sok S1) (b2 : -2147483648 ≤ v2 ∧ v2 ≤ 2147483647) (p1 : s332 S x1 v2 S1) (c2 : v2 ≠ 0) (v3 : Int) (e3 : v3 = fx_add x1 v2) (v4 : Int) (e4 : v4 = fx_add x2 1) (z : Int) (Z : fx_S) (kz : fx_Sok Z) (bz : -2147483648 ≤ z ∧ z ≤ 2147483647) (pz : s279 S1 v3 v4 z Z) : s279 S x1 x2 z Z := by
  obtain ⟨r1, f1⟩ := p1
  obtain ⟨rZ, fZ⟩ := pz
  refine ⟨(rZ).trans (r1), ?_⟩
  · intro p i hW
    clear e4 e3 c2 b2 c1
    exact ((fZ p i (by omega))).trans ((f1 p i (by omega)))
theorem q279_2 (S : fx_S) (x1 x2 : Int) (hS : fx_Sok S) (g1 : -2147483648 ≤ x1 ∧ x1 ≤ 2147483647) (g2 : -2147483648 ≤ x2 ∧ x2 ≤ 2147483647) (c1 : x2 < 80) (v2 : Int) (S1 : fx_S) (k1 : fx_Sok S1) (b2 : -2147483648 ≤ v2 ∧ v2 ≤ 2147483647) (p1 : s332 S x1 v2 S1) (c2 : v2 = 0) : s279 S x1 x2 x1 S1 := by
  obtain ⟨r1, f1⟩ := p1
  refine ⟨r1, ?_⟩
  · intro p i hW
    clear c2 b2 c1
    exact (f1 p i (by omega))
theorem q280_0 (S : fx_S) (x1 : Int) (hS : fx_Sok S) (g1 : -2147483648 ≤ x1 ∧ x1 ≤ 2147483647) (c1 : 80 ≤ x1) (z : Int) (Z : fx_S) (kz : fx_Sok Z) (bz : z = 0) (pz : s333 S 1 z Z) : s280 S x1 z Z := by
  obtain ⟨rZ, fZ⟩ := pz
  refine ⟨rZ, ?_⟩
  · intro p i hW
    clear c1
    exact (fZ p i (by omega))
theorem q280_1 (S : fx_S) (x1 : Int) (hS : fx_Sok S) (g1 : -2147483648 ≤ x1 ∧ x1 ≤ 2147483647) (c1 : x1 < 80) (c2 : 0 ≤ x1) (c3 : x1 < 80) (S1 : fx_S) (d1 : S1 = (fx_up S.1 83 x1 0, S.2)) (v1 : Int) (e1 : v1 = fx_add x1 1) (z : Int) (Z : fx_S) (kz : fx_Sok Z) (bz : z = 0) (pz : s280 S1 v1 z Z) : s280 S x1 z Z := by
  obtain ⟨rZ, fZ⟩ := pz
  refine ⟨(rZ).trans ((show S1.2 = S.2 by rw [d1])), ?_⟩
  · intro p i hW
    clear e1 c3 c2 c1
    exact ((fZ p i (by omega))).trans ((show S1.1 p i = S.1 p i by rw [d1]; exact if_neg (by omega)))
theorem q281_0 (S : fx_S) (x1 : Int) (hS : fx_Sok S) (g1 : -2147483648 ≤ x1 ∧ x1 ≤ 2147483647) (c1 : 80 ≤ x1) (z : Int) (Z : fx_S) (kz : fx_Sok Z) (bz : z = 0) (pz : s334 S 1 z Z) : s281 S x1 z Z := by
  obtain ⟨rZ, fZ⟩ := pz
  refine ⟨rZ, ?_⟩
  · intro p i hW
    clear c1
    exact (fZ p i (by omega))
theorem q281_1 (S : fx_S) (x1 : Int) (hS : fx_Sok S) (g1 : -2147483648 ≤ x1 ∧ x1 ≤ 2147483647) (c1 : x1 < 80) (v1 : Int) (e1 : v1 = S.1 67 2) (b1 : -2147483648 ≤ v1 ∧ v1 ≤ 2147483647) (v2 : Int) (e2 : v2 = fx_sub v1 1) (v3 : Int) (S1 : fx_S) (k1 : fx_Sok S1) (b3 : -2147483648 ≤ v3 ∧ v3 ≤ 2147483647) (p1 : s113 S x1 0 v2 v3 S1) (c2 : v3 = 0) (c3 : 0 ≤ x1) (c4 : x1 < 80) (S2 : fx_S) (d2 : S2 = (fx_up S1.1 83 x1 0, S1.2)) (v4 : Int) (e4 : v4 = S2.1 66 29) (b4 : -2147483648 ≤ v4 ∧ v4 ≤ 2147483647) (c5 : 0 ≤ x1) (c6 : x1 < 80) (v5 : Int) (e5 : v5 = S2.1 83 x1) (b5 : 0 ≤ v5 ∧ v5 ≤ 1) (c7 : v5 = 0) (v6 : Int) (e6 : v6 = fx_add v4 0) (S3 : fx_S) (d3 : S3 = (fx_up S2.1 66 29 v6, S2.2)) (v7 : Int) (e7 : v7 = fx_add x1 1) (z : Int) (Z : fx_S) (kz : fx_Sok Z) (bz : z = 0) (pz : s281 S3 v7 z Z) : s281 S x1 z Z := by
  obtain ⟨rfl, p1⟩ := p1
  obtain ⟨rZ, fZ⟩ := pz
  refine ⟨(rZ).trans (((show S3.2 = S2.2 by rw [d3])).trans ((show S2.2 = S.2 by rw [d2]))), ?_⟩
  · intro p i hW
    clear e7 e6 c7 b5 e5 c6 c5 b4 e4 c4 c3 c2 b3 e2 b1 e1 c1
    exact ((fZ p i (by omega))).trans (((show S3.1 p i = S2.1 p i by rw [d3]; exact if_neg (by omega))).trans ((show S2.1 p i = S.1 p i by rw [d2]; exact if_neg (by omega))))
theorem q281_2 (S : fx_S) (x1 : Int) (hS : fx_Sok S) (g1 : -2147483648 ≤ x1 ∧ x1 ≤ 2147483647) (c1 : x1 < 80) (v1 : Int) (e1 : v1 = S.1 67 2) (b1 : -2147483648 ≤ v1 ∧ v1 ≤ 2147483647) (v2 : Int) (e2 : v2 = fx_sub v1 1) (v3 : Int) (S1 : fx_S) (k1 : fx_Sok S1) (b3 : -2147483648 ≤ v3 ∧ v3 ≤ 2147483647) (p1 : s113 S x1 0 v2 v3 S1) (c2 : v3 = 0) (c3 : 0 ≤ x1) (c4 : x1 < 80) (S2 : fx_S) (d2 : S2 = (fx_up S1.1 83 x1 0, S1.2)) (v4 : Int) (e4 : v4 = S2.1 66 29) (b4 : -2147483648 ≤ v4 ∧ v4 ≤ 2147483647) (c5 : 0 ≤ x1) (c6 : x1 < 80) (v5 : Int) (e5 : v5 = S2.1 83 x1) (b5 : 0 ≤ v5 ∧ v5 ≤ 1) (c7 : v5 ≠ 0) (v6 : Int) (e6 : v6 = fx_add v4 1) (S3 : fx_S) (d3 : S3 = (fx_up S2.1 66 29 v6, S2.2)) (v7 : Int) (e7 : v7 = fx_add x1 1) (z : Int) (Z : fx_S) (kz : fx_Sok Z) (bz : z = 0) (pz : s281 S3 v7 z Z) : s281 S x1 z Z := by
  obtain ⟨rfl, p1⟩ := p1
  obtain ⟨rZ, fZ⟩ := pz
  refine ⟨(rZ).trans (((show S3.2 = S2.2 by rw [d3])).trans ((show S2.2 = S.2 by rw [d2]))), ?_⟩
  · intro p i hW
    clear e7 e6 c7 b5 e5 c6 c5 b4 e4 c4 c3 c2 b3 e2 b1 e1 c1
    exact ((fZ p i (by omega))).trans (((show S3.1 p i = S2.1 p i by rw [d3]; exact if_neg (by omega))).trans ((show S2.1 p i = S.1 p i by rw [d2]; exact if_neg (by omega))))
theorem q281_3 (S : fx_S) (x1 : Int) (hS : fx_Sok S) (g1 : -2147483648 ≤ x1 ∧ x1 ≤ 2147483647) (c1 : x1 < 80) (v1 : Int) (e1 : v1 = S.1 67 2) (b1 : -2147483648 ≤ v1 ∧ v1 ≤ 2147483647) (v2 : Int) (e2 : v2 = fx_sub v1 1) (v3 : Int) (S1 : fx_S) (k1 : fx_Sok S1) (b3 : -2147483648 ≤ v3 ∧ v3 ≤ 2147483647) (p1 : s113 S x1 0 v2 v3 S1) (c2 : v3 ≠ 0) (v4 : Int) (e4 : v4 = S1.1 67 0) (b4 : -2147483648 ≤ v4 ∧ v4 ≤ 2147483647) (v5 : Int) (S2 : fx_S) (k2 : fx_Sok S2) (b5 : -2147483648 ≤ v5 ∧ v5 ≤ 2147483647) (p2 : s156 S1 x1 v4 v5 S2) (c3 : v5 = 0) (c4 : 0 ≤ x1) (c5 : x1 < 80) (S3 : fx_S) (d3 : S3 = (fx_up S2.1 83 x1 0, S2.2)) (v6 : Int) (e6 : v6 = S3.1 66 29) (b6 : -2147483648 ≤ v6 ∧ v6 ≤ 2147483647) (c6 : 0 ≤ x1) (c7 : x1 < 80) (v7 : Int) (e7 : v7 = S3.1 83 x1) (b7 : 0 ≤ v7 ∧ v7 ≤ 1) (c8 : v7 = 0) (v8 : Int) (e8 : v8 = fx_add v6 0) (S4 : fx_S) (d4 : S4 = (fx_up S3.1 66 29 v8, S3.2)) (v9 : Int) (e9 : v9 = fx_add x1 1) (z : Int) (Z : fx_S) (kz : fx_Sok Z) (bz : z = 0) (pz : s281 S4 v9 z Z) : s281 S x1 z Z := by
  obtain ⟨rfl, p1⟩ := p1
  obtain ⟨rfl, p2⟩ := p2
  obtain ⟨rZ, fZ⟩ := pz
  refine ⟨(rZ).trans (((show S4.2 = S3.2 by rw [d4])).trans ((show S3.2 = S.2 by rw [d3]))), ?_⟩
  · intro p i hW
    clear e9 e8 c8 b7 e7 c7 c6 b6 e6 c5 c4 c3 b5 b4 e4 c2 b3 e2 b1 e1 c1
    exact ((fZ p i (by omega))).trans (((show S4.1 p i = S3.1 p i by rw [d4]; exact if_neg (by omega))).trans ((show S3.1 p i = S.1 p i by rw [d3]; exact if_neg (by omega))))
theorem q281_4 (S : fx_S) (x1 : Int) (hS : fx_Sok S) (g1 : -2147483648 ≤ x1 ∧ x1 ≤ 2147483647) (c1 : x1 < 80) (v1 : Int) (e1 : v1 = S.1 67 2) (b1 : -2147483648 ≤ v1 ∧ v1 ≤ 2147483647) (v2 : Int) (e2 : v2 = fx_sub v1 1) (v3 : Int) (S1 : fx_S) (k1 : fx_Sok S1) (b3 : -2147483648 ≤ v3 ∧ v3 ≤ 2147483647) (p1 : s113 S x1 0 v2 v3 S1) (c2 : v3 ≠ 0) (v4 : Int) (e4 : v4 = S1.1 67 0) (b4 : -2147483648 ≤ v4 ∧ v4 ≤ 2147483647) (v5 : Int) (S2 : fx_S) (k2 : fx_Sok S2) (b5 : -2147483648 ≤ v5 ∧ v5 ≤ 2147483647) (p2 : s156 S1 x1 v4 v5 S2) (c3 : v5 = 0) (c4 : 0 ≤ x1) (c5 : x1 < 80) (S3 : fx_S) (d3 : S3 = (fx_up S2.1 83 x1 0, S2.2)) (v6 : Int) (e6 : v6 = S3.1 66 29) (b6 : -2147483648 ≤ v6 ∧ v6 ≤ 2147483647) (c6 : 0 ≤ x1) (c7 : x1 < 80) (v7 : Int) (e7 : v7 = S3.1 83 x1) (b7 : 0 ≤ v7 ∧ v7 ≤ 1) (c8 : v7 ≠ 0) (v8 : Int) (e8 : v8 = fx_add v6 1) (S4 : fx_S) (d4 : S4 = (fx_up S3.1 66 29 v8, S3.2)) (v9 : Int) (e9 : v9 = fx_add x1 1) (z : Int) (Z : fx_S) (kz : fx_Sok Z) (bz : z = 0) (pz : s281 S4 v9 z Z) : s281 S x1 z Z := by
  obtain ⟨rfl, p1⟩ := p1
  obtain ⟨rfl, p2⟩ := p2
  obtain ⟨rZ, fZ⟩ := pz
  refine ⟨(rZ).trans (((show S4.2 = S3.2 by rw [d4])).trans ((show S3.2 = S.2 by rw [d3]))), ?_⟩
  · intro p i hW
    clear e9 e8 c8 b7 e7 c7 c6 b6 e6 c5 c4 c3 b5 b4 e4 c2 b3 e2 b1 e1 c1
    exact ((fZ p i (by omega))).trans (((show S4.1 p i = S3.1 p i by rw [d4]; exact if_neg (by omega))).trans ((show S3.1 p i = S.1 p i by rw [d3]; exact if_neg (by omega))))
theorem q281_5 (S : fx_S) (x1 : Int) (hS : fx_Sok S) (g1 : -2147483648 ≤ x1 ∧ x1 ≤ 2147483647) (c1 : x1 < 80) (v1 : Int) (e1 : v1 = S.1 67 2) (b1 : -2147483648 ≤ v1 ∧ v1 ≤ 2147483647) (v2 : Int) (e2 : v2 = fx_sub v1 1) (v3 : Int) (S1 : fx_S) (k1 : fx_Sok S1) (b3 : -2147483648 ≤ v3 ∧ v3 ≤ 2147483647) (p1 : s113 S x1 0 v2 v3 S1) (c2 : v3 ≠ 0) (v4 : Int) (e4 : v4 = S1.1 67 0) (b4 : -2147483648 ≤ v4 ∧ v4 ≤ 2147483647) (v5 : Int) (S2 : fx_S) (k2 : fx_Sok S2) (b5 : -2147483648 ≤ v5 ∧ v5 ≤ 2147483647) (p2 : s156 S1 x1 v4 v5 S2) (c3 : v5 ≠ 0) (c4 : 0 ≤ x1) (c5 : x1 < 80) (S3 : fx_S) (d3 : S3 = (fx_up S2.1 83 x1 1, S2.2)) (v6 : Int) (e6 : v6 = S3.1 66 29) (b6 : -2147483648 ≤ v6 ∧ v6 ≤ 2147483647) (c6 : 0 ≤ x1) (c7 : x1 < 80) (v7 : Int) (e7 : v7 = S3.1 83 x1) (b7 : 0 ≤ v7 ∧ v7 ≤ 1) (c8 : v7 = 0) (v8 : Int) (e8 : v8 = fx_add v6 0) (S4 : fx_S) (d4 : S4 = (fx_up S3.1 66 29 v8, S3.2)) (v9 : Int) (e9 : v9 = fx_add x1 1) (z : Int) (Z : fx_S) (kz : fx_Sok Z) (bz : z = 0) (pz : s281 S4 v9 z Z) : s281 S x1 z Z := by
  obtain ⟨rfl, p1⟩ := p1
  obtain ⟨rfl, p2⟩ := p2
  obtain ⟨rZ, fZ⟩ := pz
  refine ⟨(rZ).trans (((show S4.2 = S3.2 by rw [d4])).trans ((show S3.2 = S.2 by rw [d3]))), ?_⟩
  · intro p i hW
    clear e9 e8 c8 b7 e7 c7 c6 b6 e6 c5 c4 c3 b5 b4 e4 c2 b3 e2 b1 e1 c1
    exact ((fZ p i (by omega))).trans (((show S4.1 p i = S3.1 p i by rw [d4]; exact if_neg (by omega))).trans ((show S3.1 p i = S.1 p i by rw [d3]; exact if_neg (by omega))))
theorem q281_6 (S : fx_S) (x1 : Int) (hS : fx_Sok S) (g1 : -2147483648 ≤ x1 ∧ x1 ≤ 2147483647) (c1 : x1 < 80) (v1 : Int) (e1 : v1 = S.1 67 2) (b1 : -2147483648 ≤ v1 ∧ v1 ≤ 2147483647) (v2 : Int) (e2 : v2 = fx_sub v1 1) (v3 : Int) (S1 : fx_S) (k1 : fx_Sok S1) (b3 : -2147483648 ≤ v3 ∧ v3 ≤ 2147483647) (p1 : s113 S x1 0 v2 v3 S1) (c2 : v3 ≠ 0) (v4 : Int) (e4 : v4 = S1.1 67 0) (b4 : -2147483648 ≤ v4 ∧ v4 ≤ 2147483647) (v5 : Int) (S2 : fx_S) (k2 : fx_Sok S2) (b5 : -2147483648 ≤ v5 ∧ v5 ≤ 2147483647) (p2 : s156 S1 x1 v4 v5 S2) (c3 : v5 ≠ 0) (c4 : 0 ≤ x1) (c5 : x1 < 80) (S3 : fx_S) (d3 : S3 = (fx_up S2.1 83 x1 1, S2.2)) (v6 : Int) (e6 : v6 = S3.1 66 29) (b6 : -2147483648 ≤ v6 ∧ v6 ≤ 2147483647) (c6 : 0 ≤ x1) (c7 : x1 < 80) (v7 : Int) (e7 : v7 = S3.1 83 x1) (b7 : 0 ≤ v7 ∧ v7 ≤ 1) (c8 : v7 ≠ 0) (v8 : Int) (e8 : v8 = fx_add v6 1) (S4 : fx_S) (d4 : S4 = (fx_up S3.1 66 29 v8, S3.2)) (v9 : Int) (e9 : v9 = fx_add x1 1) (z : Int) (Z : fx_S) (kz : fx_Sok Z) (bz : z = 0) (pz : s281 S4 v9 z Z) : s281 S x1 z Z := by
  obtain ⟨rfl, p1⟩ := p1
  obtain ⟨rfl, p2⟩ := p2
  obtain ⟨rZ, fZ⟩ := pz
  refine ⟨(rZ).trans (((show S4.2 = S3.2 by rw [d4])).trans ((show S3.2 = S.2 by rw [d3]))), ?_⟩
  · intro p i hW
    clear e9 e8 c8 b7 e7 c7 c6 b6 e6 c5 c4 c3 b5 b4 e4 c2 b3 e2 b1 e1 c1
    exact ((fZ p i (by omega))).trans (((show S4.1 p i = S3.1 p i by rw [d4]; exact if_neg (by omega))).trans ((show S3.1 p i = S.1 p i by rw [d3]; exact if_neg (by omega))))
theorem q282_0 (S : fx_S) (x1 x2 x3 x4 : Int) (hS : fx_Sok S) (g1 : -2147483648 ≤ x1 ∧ x1 ≤ 2147483647) (g2 : -2147483648 ≤ x2 ∧ x2 ≤ 2147483647) (g3 : -2147483648 ≤ x3 ∧ x3 ≤ 2147483647) (g4 : -2147483648 ≤ x4 ∧ x4 ≤ 2147483647) (v4 : Int) (e4 : v4 = S.1 13 0) (b4 : -2147483648 ≤ v4 ∧ v4 ≤ 2147483647) (c1 : v4 ≤ x4) (c2 : x3 = 0) : s282 S x1 x2 x3 x4 0 S := by
  exact rfl
theorem q282_1 (S : fx_S) (x1 x2 x3 x4 : Int) (hS : fx_Sok S) (g1 : -2147483648 ≤ x1 ∧ x1 ≤ 2147483647) (g2 : -2147483648 ≤ x2 ∧ x2 ≤ 2147483647) (g3 : -2147483648 ≤ x3 ∧ x3 ≤ 2147483647) (g4 : -2147483648 ≤ x4 ∧ x4 ≤ 2147483647) (v4 : Int) (e4 : v4 = S.1 13 0) (b4 : -2147483648 ≤ v4 ∧ v4 ≤ 2147483647) (c1 : v4 ≤ x4) (c2 : x3 ≠ 0) : s282 S x1 x2 x3 x4 2 S := by
  exact rfl
theorem q282_2 (S : fx_S) (x1 x2 x3 x4 : Int) (hS : fx_Sok S) (g1 : -2147483648 ≤ x1 ∧ x1 ≤ 2147483647) (g2 : -2147483648 ≤ x2 ∧ x2 ≤ 2147483647) (g3 : -2147483648 ≤ x3 ∧ x3 ≤ 2147483647) (g4 : -2147483648 ≤ x4 ∧ x4 ≤ 2147483647) (v4 : Int) (e4 : v4 = S.1 13 0) (b4 : -2147483648 ≤ v4 ∧ v4 ≤ 2147483647) (c1 : x4 < v4) (c2 : 0 ≤ x4) (c3 : x4 < 80) (v5 : Int) (e5 : v5 = S.1 18 x4) (b5 : -2147483648 ≤ v5 ∧ v5 ≤ 2147483647) (c4 : 32 ≤ x4) (v6 : Int) (S1 : fx_S) (k1 : fx_Sok S1) (b6 : -2147483648 ≤ v6 ∧ v6 ≤ 2147483647) (p1 : s136 S x4 v6 S1) (c5 : v6 = 0) (v7 : Int) (e7 : v7 = fx_add x4 1) (z : Int) (Z : fx_S) (kz : fx_Sok Z) (bz : -2147483648 ≤ z ∧ z ≤ 2147483647) (pz : s282 S1 x1 x2 x3 v7 z Z) : s282 S x1 x2 x3 x4 z Z := by
  obtain ⟨rfl, p1⟩ := p1
  obtain rfl : S = Z := pz
  exact rfl
theorem q282_3 (S : fx_S) (x1 x2 x3 x4 : Int) (hS : fx_Sok S) (g1 : -2147483648 ≤ x1 ∧ x1 ≤ 2147483647) (g2 : -2147483648 ≤ x2 ∧ x2 ≤ 2147483647) (g3 : -2147483648 ≤ x3 ∧ x3 ≤ 2147483647) (g4 : -2147483648 ≤ x4 ∧ x4 ≤ 2147483647) (v4 : Int) (e4 : v4 = S.1 13 0) (b4 : -2147483648 ≤ v4 ∧ v4 ≤ 2147483647) (c1 : x4 < v4) (c2 : 0 ≤ x4) (c3 : x4 < 80) (v5 : Int) (e5 : v5 = S.1 18 x4) (b5 : -2147483648 ≤ v5 ∧ v5 ≤ 2147483647) (c4 : 32 ≤ x4) (v6 : Int) (S1 : fx_S) (k1 : fx_Sok S1) (b6 : -2147483648 ≤ v6 ∧ v6 ≤ 2147483647) (p1 : s136 S x4 v6 S1) (c5 : v6 ≠ 0) (c6 : x2 < v5) (v7 : Int) (e7 : v7 = fx_add x4 1) (z : Int) (Z : fx_S) (kz : fx_Sok Z) (bz : -2147483648 ≤ z ∧ z ≤ 2147483647) (pz : s282 S1 x1 x2 x3 v7 z Z) : s282 S x1 x2 x3 x4 z Z := by
  obtain ⟨rfl, p1⟩ := p1
  obtain rfl : S = Z := pz
  exact rfl
theorem q282_4 (S : fx_S) (x1 x2 x3 x4 : Int) (hS : fx_Sok S) (g1 : -2147483648 ≤ x1 ∧ x1 ≤ 2147483647) (g2 : -2147483648 ≤ x2 ∧ x2 ≤ 2147483647) (g3 : -2147483648 ≤ x3 ∧ x3 ≤ 2147483647) (g4 : -2147483648 ≤ x4 ∧ x4 ≤ 2147483647) (v4 : Int) (e4 : v4 = S.1 13 0) (b4 : -2147483648 ≤ v4 ∧ v4 ≤ 2147483647) (c1 : x4 < v4) (c2 : 0 ≤ x4) (c3 : x4 < 80) (v5 : Int) (e5 : v5 = S.1 18 x4) (b5 : -2147483648 ≤ v5 ∧ v5 ≤ 2147483647) (c4 : 32 ≤ x4) (v6 : Int) (S1 : fx_S) (k1 : fx_Sok S1) (b6 : -2147483648 ≤ v6 ∧ v6 ≤ 2147483647) (p1 : s136 S x4 v6 S1) (c5 : v6 ≠ 0) (c6 : v5 ≤ x2) (v7 : Int) (e7 : v7 = fx_add x4 1) (z : Int) (Z : fx_S) (kz : fx_Sok Z) (bz : -2147483648 ≤ z ∧ z ≤ 2147483647) (pz : s282 S1 x1 x2 1 v7 z Z) : s282 S x1 x2 x3 x4 z Z := by
  obtain ⟨rfl, p1⟩ := p1
  obtain rfl : S = Z := pz
  exact rfl
theorem q282_5 (S : fx_S) (x1 x2 x3 x4 : Int) (hS : fx_Sok S) (g1 : -2147483648 ≤ x1 ∧ x1 ≤ 2147483647) (g2 : -2147483648 ≤ x2 ∧ x2 ≤ 2147483647) (g3 : -2147483648 ≤ x3 ∧ x3 ≤ 2147483647) (g4 : -2147483648 ≤ x4 ∧ x4 ≤ 2147483647) (v4 : Int) (e4 : v4 = S.1 13 0) (b4 : -2147483648 ≤ v4 ∧ v4 ≤ 2147483647) (c1 : x4 < v4) (c2 : 0 ≤ x4) (c3 : x4 < 80) (v5 : Int) (e5 : v5 = S.1 18 x4) (b5 : -2147483648 ≤ v5 ∧ v5 ≤ 2147483647) (c4 : x4 < 32) (v6 : Int) (e6 : v6 = fx_ush x1 x4) (v7 : Int) (e7 : v7 = fx_and v6 1) (c5 : v7 ≠ 1) (v8 : Int) (S1 : fx_S) (k1 : fx_Sok S1) (b8 : -2147483648 ≤ v8 ∧ v8 ≤ 2147483647) (p1 : s136 S x4 v8 S1) (c6 : v8 = 0) (v9 : Int) (e9 : v9 = fx_add x4 1) (z : Int) (Z : fx_S) (kz : fx_Sok Z) (bz : -2147483648 ≤ z ∧ z ≤ 2147483647) (pz : s282 S1 x1 x2 x3 v9 z Z) : s282 S x1 x2 x3 x4 z Z := by
  obtain ⟨rfl, p1⟩ := p1
  obtain rfl : S = Z := pz
  exact rfl
theorem q282_6 (S : fx_S) (x1 x2 x3 x4 : Int) (hS : fx_Sok S) (g1 : -2147483648 ≤ x1 ∧ x1 ≤ 2147483647) (g2 : -2147483648 ≤ x2 ∧ x2 ≤ 2147483647) (g3 : -2147483648 ≤ x3 ∧ x3 ≤ 2147483647) (g4 : -2147483648 ≤ x4 ∧ x4 ≤ 2147483647) (v4 : Int) (e4 : v4 = S.1 13 0) (b4 : -2147483648 ≤ v4 ∧ v4 ≤ 2147483647) (c1 : x4 < v4) (c2 : 0 ≤ x4) (c3 : x4 < 80) (v5 : Int) (e5 : v5 = S.1 18 x4) (b5 : -2147483648 ≤ v5 ∧ v5 ≤ 2147483647) (c4 : x4 < 32) (v6 : Int) (e6 : v6 = fx_ush x1 x4) (v7 : Int) (e7 : v7 = fx_and v6 1) (c5 : v7 ≠ 1) (v8 : Int) (S1 : fx_S) (k1 : fx_Sok S1) (b8 : -2147483648 ≤ v8 ∧ v8 ≤ 2147483647) (p1 : s136 S x4 v8 S1) (c6 : v8 ≠ 0) (c7 : x2 < v5) (v9 : Int) (e9 : v9 = fx_add x4 1) (z : Int) (Z : fx_S) (kz : fx_Sok Z) (bz : -2147483648 ≤ z ∧ z ≤ 2147483647) (pz : s282 S1 x1 x2 x3 v9 z Z) : s282 S x1 x2 x3 x4 z Z := by
  obtain ⟨rfl, p1⟩ := p1
  obtain rfl : S = Z := pz
  exact rfl
theorem q282_7 (S : fx_S) (x1 x2 x3 x4 : Int) (hS : fx_Sok S) (g1 : -2147483648 ≤ x1 ∧ x1 ≤ 2147483647) (g2 : -2147483648 ≤ x2 ∧ x2 ≤ 2147483647) (g3 : -2147483648 ≤ x3 ∧ x3 ≤ 2147483647) (g4 : -2147483648 ≤ x4 ∧ x4 ≤ 2147483647) (v4 : Int) (e4 : v4 = S.1 13 0) (b4 : -2147483648 ≤ v4 ∧ v4 ≤ 2147483647) (c1 : x4 < v4) (c2 : 0 ≤ x4) (c3 : x4 < 80) (v5 : Int) (e5 : v5 = S.1 18 x4) (b5 : -2147483648 ≤ v5 ∧ v5 ≤ 2147483647) (c4 : x4 < 32) (v6 : Int) (e6 : v6 = fx_ush x1 x4) (v7 : Int) (e7 : v7 = fx_and v6 1) (c5 : v7 ≠ 1) (v8 : Int) (S1 : fx_S) (k1 : fx_Sok S1) (b8 : -2147483648 ≤ v8 ∧ v8 ≤ 2147483647) (p1 : s136 S x4 v8 S1) (c6 : v8 ≠ 0) (c7 : v5 ≤ x2) (v9 : Int) (e9 : v9 = fx_add x4 1) (z : Int) (Z : fx_S) (kz : fx_Sok Z) (bz : -2147483648 ≤ z ∧ z ≤ 2147483647) (pz : s282 S1 x1 x2 1 v9 z Z) : s282 S x1 x2 x3 x4 z Z := by
  obtain ⟨rfl, p1⟩ := p1
  obtain rfl : S = Z := pz
  exact rfl
theorem q282_8 (S : fx_S) (x1 x2 x3 x4 : Int) (hS : fx_Sok S) (g1 : -2147483648 ≤ x1 ∧ x1 ≤ 2147483647) (g2 : -2147483648 ≤ x2 ∧ x2 ≤ 2147483647) (g3 : -2147483648 ≤ x3 ∧ x3 ≤ 2147483647) (g4 : -2147483648 ≤ x4 ∧ x4 ≤ 2147483647) (v4 : Int) (e4 : v4 = S.1 13 0) (b4 : -2147483648 ≤ v4 ∧ v4 ≤ 2147483647) (c1 : x4 < v4) (c2 : 0 ≤ x4) (c3 : x4 < 80) (v5 : Int) (e5 : v5 = S.1 18 x4) (b5 : -2147483648 ≤ v5 ∧ v5 ≤ 2147483647) (c4 : x4 < 32) (v6 : Int) (e6 : v6 = fx_ush x1 x4) (v7 : Int) (e7 : v7 = fx_and v6 1) (c5 : v7 = 1) (v8 : Int) (e8 : v8 = fx_sub x2 1) (c6 : v5 ≤ v8) (v9 : Int) (e9 : v9 = fx_add x4 1) (z : Int) (Z : fx_S) (kz : fx_Sok Z) (bz : -2147483648 ≤ z ∧ z ≤ 2147483647) (pz : s282 S x1 x2 x3 v9 z Z) : s282 S x1 x2 x3 x4 z Z := by
  obtain rfl : S = Z := pz
  exact rfl
theorem q282_9 (S : fx_S) (x1 x2 x3 x4 : Int) (hS : fx_Sok S) (g1 : -2147483648 ≤ x1 ∧ x1 ≤ 2147483647) (g2 : -2147483648 ≤ x2 ∧ x2 ≤ 2147483647) (g3 : -2147483648 ≤ x3 ∧ x3 ≤ 2147483647) (g4 : -2147483648 ≤ x4 ∧ x4 ≤ 2147483647) (v4 : Int) (e4 : v4 = S.1 13 0) (b4 : -2147483648 ≤ v4 ∧ v4 ≤ 2147483647) (c1 : x4 < v4) (c2 : 0 ≤ x4) (c3 : x4 < 80) (v5 : Int) (e5 : v5 = S.1 18 x4) (b5 : -2147483648 ≤ v5 ∧ v5 ≤ 2147483647) (c4 : x4 < 32) (v6 : Int) (e6 : v6 = fx_ush x1 x4) (v7 : Int) (e7 : v7 = fx_and v6 1) (c5 : v7 = 1) (v8 : Int) (e8 : v8 = fx_sub x2 1) (c6 : v8 < v5) : s282 S x1 x2 x3 x4 1 S := by
  exact rfl
theorem q283_0 (S : fx_S) (x1 x2 x3 x4 : Int) (hS : fx_Sok S) (g1 : -2147483648 ≤ x1 ∧ x1 ≤ 2147483647) (g2 : -2147483648 ≤ x2 ∧ x2 ≤ 2147483647) (g3 : -2147483648 ≤ x3 ∧ x3 ≤ 2147483647) (g4 : -2147483648 ≤ x4 ∧ x4 ≤ 2147483647) (v4 : Int) (e4 : v4 = S.1 67 2) (b4 : -2147483648 ≤ v4 ∧ v4 ≤ 2147483647) (c1 : v4 ≤ x4) : s283 S x1 x2 x3 x4 x3 S := by
  exact rfl
theorem q283_1 (S : fx_S) (x1 x2 x3 x4 : Int) (hS : fx_Sok S) (g1 : -2147483648 ≤ x1 ∧ x1 ≤ 2147483647) (g2 : -2147483648 ≤ x2 ∧ x2 ≤ 2147483647) (g3 : -2147483648 ≤ x3 ∧ x3 ≤ 2147483647) (g4 : -2147483648 ≤ x4 ∧ x4 ≤ 2147483647) (v4 : Int) (e4 : v4 = S.1 67 2) (b4 : -2147483648 ≤ v4 ∧ v4 ≤ 2147483647) (c1 : x4 < v4) (v5 : Int) (e5 : v5 = S.1 67 0) (b5 : -2147483648 ≤ v5 ∧ v5 ≤ 2147483647) (v6 : Int) (S1 : fx_S) (k1 : fx_Sok S1) (b6 : -2147483648 ≤ v6 ∧ v6 ≤ 2147483647) (p1 : s156 S x4 v5 v6 S1) (c2 : v6 ≠ 0) (c3 : 32 ≤ x4) (v7 : Int) (e7 : v7 = fx_mul 10 x4) (v8 : Int) (e8 : v8 = fx_add 300 v7) (v9 : Int) (e9 : v9 = fx_add v8 4) (c4 : 0 ≤ v9) (c5 : v9 < 8090) (v10 : Int) (e10 : v10 = S1.1 67 v9) (b10 : -2147483648 ≤ v10 ∧ v10 ≤ 2147483647) (c6 : x2 < v10) (v11 : Int) (e11 : v11 = fx_add x4 1) (z : Int) (Z : fx_S) (kz : fx_Sok Z) (bz : -2147483648 ≤ z ∧ z ≤ 2147483647) (pz : s283 S1 x1 x2 x3 v11 z Z) : s283 S x1 x2 x3 x4 z Z := by
  obtain ⟨rfl, p1⟩ := p1
  obtain rfl : S = Z := pz
  exact rfl
theorem q283_2 (S : fx_S) (x1 x2 x3 x4 : Int) (hS : fx_Sok S) (g1 : -2147483648 ≤ x1 ∧ x1 ≤ 2147483647) (g2 : -2147483648 ≤ x2 ∧ x2 ≤ 2147483647) (g3 : -2147483648 ≤ x3 ∧ x3 ≤ 2147483647) (g4 : -2147483648 ≤ x4 ∧ x4 ≤ 2147483647) (v4 : Int) (e4 : v4 = S.1 67 2) (b4 : -2147483648 ≤ v4 ∧ v4 ≤ 2147483647) (c1 : x4 < v4) (v5 : Int) (e5 : v5 = S.1 67 0) (b5 : -2147483648 ≤ v5 ∧ v5 ≤ 2147483647) (v6 : Int) (S1 : fx_S) (k1 : fx_Sok S1) (b6 : -2147483648 ≤ v6 ∧ v6 ≤ 2147483647) (p1 : s156 S x4 v5 v6 S1) (c2 : v6 ≠ 0) (c3 : 32 ≤ x4) (v7 : Int) (e7 : v7 = fx_mul 10 x4) (v8 : Int) (e8 : v8 = fx_add 300 v7) (v9 : Int) (e9 : v9 = fx_add v8 4) (c4 : 0 ≤ v9) (c5 : v9 < 8090) (v10 : Int) (e10 : v10 = S1.1 67 v9) (b10 : -2147483648 ≤ v10 ∧ v10 ≤ 2147483647) (c6 : v10 ≤ x2) (v11 : Int) (e11 : v11 = fx_add x4 1) (z : Int) (Z : fx_S) (kz : fx_Sok Z) (bz : -2147483648 ≤ z ∧ z ≤ 2147483647) (pz : s283 S1 x1 x2 2 v11 z Z) : s283 S x1 x2 x3 x4 z Z := by
  obtain ⟨rfl, p1⟩ := p1
  obtain rfl : S = Z := pz
  exact rfl
theorem q283_3 (S : fx_S) (x1 x2 x3 x4 : Int) (hS : fx_Sok S) (g1 : -2147483648 ≤ x1 ∧ x1 ≤ 2147483647) (g2 : -2147483648 ≤ x2 ∧ x2 ≤ 2147483647) (g3 : -2147483648 ≤ x3 ∧ x3 ≤ 2147483647) (g4 : -2147483648 ≤ x4 ∧ x4 ≤ 2147483647) (v4 : Int) (e4 : v4 = S.1 67 2) (b4 : -2147483648 ≤ v4 ∧ v4 ≤ 2147483647) (c1 : x4 < v4) (v5 : Int) (e5 : v5 = S.1 67 0) (b5 : -2147483648 ≤ v5 ∧ v5 ≤ 2147483647) (v6 : Int) (S1 : fx_S) (k1 : fx_Sok S1) (b6 : -2147483648 ≤ v6 ∧ v6 ≤ 2147483647) (p1 : s156 S x4 v5 v6 S1) (c2 : v6 ≠ 0) (c3 : x4 < 32) (v7 : Int) (e7 : v7 = fx_shr x1 x4) (v8 : Int) (e8 : v8 = fx_and v7 1) (c4 : v8 ≠ 1) (v9 : Int) (e9 : v9 = fx_mul 10 x4) (v10 : Int) (e10 : v10 = fx_add 300 v9) (v11 : Int) (e11 : v11 = fx_add v10 4) (c5 : 0 ≤ v11) (c6 : v11 < 8090) (v12 : Int) (e12 : v12 = S1.1 67 v11) (b12 : -2147483648 ≤ v12 ∧ v12 ≤ 2147483647) (c7 : x2 < v12) (v13 : Int) (e13 : v13 = fx_add x4 1) (z : Int) (Z : fx_S) (kz : fx_Sok Z) (bz : -2147483648 ≤ z ∧ z ≤ 2147483647) (pz : s283 S1 x1 x2 x3 v13 z Z) : s283 S x1 x2 x3 x4 z Z := by
  obtain ⟨rfl, p1⟩ := p1
  obtain rfl : S = Z := pz
  exact rfl
theorem q283_4 (S : fx_S) (x1 x2 x3 x4 : Int) (hS : fx_Sok S) (g1 : -2147483648 ≤ x1 ∧ x1 ≤ 2147483647) (g2 : -2147483648 ≤ x2 ∧ x2 ≤ 2147483647) (g3 : -2147483648 ≤ x3 ∧ x3 ≤ 2147483647) (g4 : -2147483648 ≤ x4 ∧ x4 ≤ 2147483647) (v4 : Int) (e4 : v4 = S.1 67 2) (b4 : -2147483648 ≤ v4 ∧ v4 ≤ 2147483647) (c1 : x4 < v4) (v5 : Int) (e5 : v5 = S.1 67 0) (b5 : -2147483648 ≤ v5 ∧ v5 ≤ 2147483647) (v6 : Int) (S1 : fx_S) (k1 : fx_Sok S1) (b6 : -2147483648 ≤ v6 ∧ v6 ≤ 2147483647) (p1 : s156 S x4 v5 v6 S1) (c2 : v6 ≠ 0) (c3 : x4 < 32) (v7 : Int) (e7 : v7 = fx_shr x1 x4) (v8 : Int) (e8 : v8 = fx_and v7 1) (c4 : v8 ≠ 1) (v9 : Int) (e9 : v9 = fx_mul 10 x4) (v10 : Int) (e10 : v10 = fx_add 300 v9) (v11 : Int) (e11 : v11 = fx_add v10 4) (c5 : 0 ≤ v11) (c6 : v11 < 8090) (v12 : Int) (e12 : v12 = S1.1 67 v11) (b12 : -2147483648 ≤ v12 ∧ v12 ≤ 2147483647) (c7 : v12 ≤ x2) (v13 : Int) (e13 : v13 = fx_add x4 1) (z : Int) (Z : fx_S) (kz : fx_Sok Z) (bz : -2147483648 ≤ z ∧ z ≤ 2147483647) (pz : s283 S1 x1 x2 2 v13 z Z) : s283 S x1 x2 x3 x4 z Z := by
  obtain ⟨rfl, p1⟩ := p1
  obtain rfl : S = Z := pz
  exact rfl
theorem q283_5 (S : fx_S) (x1 x2 x3 x4 : Int) (hS : fx_Sok S) (g1 : -2147483648 ≤ x1 ∧ x1 ≤ 2147483647) (g2 : -2147483648 ≤ x2 ∧ x2 ≤ 2147483647) (g3 : -2147483648 ≤ x3 ∧ x3 ≤ 2147483647) (g4 : -2147483648 ≤ x4 ∧ x4 ≤ 2147483647) (v4 : Int) (e4 : v4 = S.1 67 2) (b4 : -2147483648 ≤ v4 ∧ v4 ≤ 2147483647) (c1 : x4 < v4) (v5 : Int) (e5 : v5 = S.1 67 0) (b5 : -2147483648 ≤ v5 ∧ v5 ≤ 2147483647) (v6 : Int) (S1 : fx_S) (k1 : fx_Sok S1) (b6 : -2147483648 ≤ v6 ∧ v6 ≤ 2147483647) (p1 : s156 S x4 v5 v6 S1) (c2 : v6 ≠ 0) (c3 : x4 < 32) (v7 : Int) (e7 : v7 = fx_shr x1 x4) (v8 : Int) (e8 : v8 = fx_and v7 1) (c4 : v8 = 1) (v9 : Int) (e9 : v9 = fx_mul 10 x4) (v10 : Int) (e10 : v10 = fx_add 300 v9) (v11 : Int) (e11 : v11 = fx_add v10 4) (c5 : 0 ≤ v11) (c6 : v11 < 8090) (v12 : Int) (e12 : v12 = S1.1 67 v11) (b12 : -2147483648 ≤ v12 ∧ v12 ≤ 2147483647) (v13 : Int) (e13 : v13 = fx_sub x2 1) (c7 : v12 ≤ v13) (v14 : Int) (e14 : v14 = fx_add x4 1) (z : Int) (Z : fx_S) (kz : fx_Sok Z) (bz : -2147483648 ≤ z ∧ z ≤ 2147483647) (pz : s283 S1 x1 x2 x3 v14 z Z) : s283 S x1 x2 x3 x4 z Z := by
  obtain ⟨rfl, p1⟩ := p1
  obtain rfl : S = Z := pz
  exact rfl
theorem q283_6 (S : fx_S) (x1 x2 x3 x4 : Int) (hS : fx_Sok S) (g1 : -2147483648 ≤ x1 ∧ x1 ≤ 2147483647) (g2 : -2147483648 ≤ x2 ∧ x2 ≤ 2147483647) (g3 : -2147483648 ≤ x3 ∧ x3 ≤ 2147483647) (g4 : -2147483648 ≤ x4 ∧ x4 ≤ 2147483647) (v4 : Int) (e4 : v4 = S.1 67 2) (b4 : -2147483648 ≤ v4 ∧ v4 ≤ 2147483647) (c1 : x4 < v4) (v5 : Int) (e5 : v5 = S.1 67 0) (b5 : -2147483648 ≤ v5 ∧ v5 ≤ 2147483647) (v6 : Int) (S1 : fx_S) (k1 : fx_Sok S1) (b6 : -2147483648 ≤ v6 ∧ v6 ≤ 2147483647) (p1 : s156 S x4 v5 v6 S1) (c2 : v6 ≠ 0) (c3 : x4 < 32) (v7 : Int) (e7 : v7 = fx_shr x1 x4) (v8 : Int) (e8 : v8 = fx_and v7 1) (c4 : v8 = 1) (v9 : Int) (e9 : v9 = fx_mul 10 x4) (v10 : Int) (e10 : v10 = fx_add 300 v9) (v11 : Int) (e11 : v11 = fx_add v10 4) (c5 : 0 ≤ v11) (c6 : v11 < 8090) (v12 : Int) (e12 : v12 = S1.1 67 v11) (b12 : -2147483648 ≤ v12 ∧ v12 ≤ 2147483647) (v13 : Int) (e13 : v13 = fx_sub x2 1) (c7 : v13 < v12) : s283 S x1 x2 x3 x4 1 S1 := by
  obtain ⟨rfl, p1⟩ := p1
  exact rfl
theorem q283_7 (S : fx_S) (x1 x2 x3 x4 : Int) (hS : fx_Sok S) (g1 : -2147483648 ≤ x1 ∧ x1 ≤ 2147483647) (g2 : -2147483648 ≤ x2 ∧ x2 ≤ 2147483647) (g3 : -2147483648 ≤ x3 ∧ x3 ≤ 2147483647) (g4 : -2147483648 ≤ x4 ∧ x4 ≤ 2147483647) (v4 : Int) (e4 : v4 = S.1 67 2) (b4 : -2147483648 ≤ v4 ∧ v4 ≤ 2147483647) (c1 : x4 < v4) (v5 : Int) (e5 : v5 = S.1 67 0) (b5 : -2147483648 ≤ v5 ∧ v5 ≤ 2147483647) (v6 : Int) (S1 : fx_S) (k1 : fx_Sok S1) (b6 : -2147483648 ≤ v6 ∧ v6 ≤ 2147483647) (p1 : s156 S x4 v5 v6 S1) (c2 : v6 = 0) (v7 : Int) (e7 : v7 = fx_add x4 1) (z : Int) (Z : fx_S) (kz : fx_Sok Z) (bz : -2147483648 ≤ z ∧ z ≤ 2147483647) (pz : s283 S1 x1 x2 x3 v7 z Z) : s283 S x1 x2 x3 x4 z Z := by
  obtain ⟨rfl, p1⟩ := p1
  obtain rfl : S = Z := pz
  exact rfl
theorem q284_0 (S : fx_S) (x2 : Int) (hS : fx_Sok S) (g2 : -2147483648 ≤ x2 ∧ x2 ≤ 2147483647) (v1 : Int) (e1 : v1 = S.1 56 2) (b1 : -2147483648 ≤ v1 ∧ v1 ≤ 2147483647) (c1 : v1 ≤ x2) (z : Int) (Z : fx_S) (kz : fx_Sok Z) (bz : -2147483648 ≤ z ∧ z ≤ 2147483647) (pz : s335 S 0 z Z) : s284 S x2 z Z := by
  obtain ⟨rZ, fZ⟩ := pz
  refine ⟨rZ, ?_⟩
  · intro p i hW
    clear c1 b1 e1
    exact (fZ p i (by omega))
theorem q284_1 (S : fx_S) (x2 : Int) (hS : fx_Sok S) (g2 : -2147483648 ≤ x2 ∧ x2 ≤ 2147483647) (v1 : Int) (e1 : v1 = S.1 56 2) (b1 : -2147483648 ≤ v1 ∧ v1 ≤ 2147483647) (c1 : x2 < v1) (z : Int) (Z : fx_S) (kz : fx_Sok Z) (bz : -2147483648 ≤ z ∧ z ≤ 2147483647) (pz : s336 S x2 0 z Z) : s284 S x2 z Z := by
  obtain ⟨rZ, fZ⟩ := pz
  refine ⟨rZ, ?_⟩
  · intro p i hW
    clear c1 b1 e1
    exact (fZ p i (by omega))
theorem q285_0 (S : fx_S) (x1 x2 x3 x4 : Int) (hS : fx_Sok S) (g1 : -2147483648 ≤ x1 ∧ x1 ≤ 2147483647) (g2 : -2147483648 ≤ x2 ∧ x2 ≤ 2147483647) (g3 : -2147483648 ≤ x3 ∧ x3 ≤ 2147483647) (g4 : -2147483648 ≤ x4 ∧ x4 ≤ 2147483647) (v4 : Int) (e4 : v4 = S.1 67 11) (b4 : -2147483648 ≤ v4 ∧ v4 ≤ 2147483647) (c1 : v4 ≤ x4) (c2 : 0 ≤ x1) (c3 : x1 < 7) (S1 : fx_S) (d1 : S1 = (fx_up S.1 85 x1 (-1), S.2)) (v5 : Int) (e5 : v5 = fx_add x1 1) (v6 : Int) (S2 : fx_S) (k2 : fx_Sok S2) (b6 : v6 = 0) (p2 : s202 S1 v5 x2 x3 v6 S2) : s285 S x1 x2 x3 x4 0 S2 := by
  obtain ⟨r2, f2⟩ := p2
  refine ⟨(r2).trans ((show S1.2 = S.2 by rw [d1])), ?_⟩
  · intro p i hW
    clear b6 e5 c3 c2 c1 b4 e4
    exact ((f2 p i (by omega))).trans ((show S1.1 p i = S.1 p i by rw [d1]; exact if_neg (by omega)))
theorem q285_1 (S : fx_S) (x1 x2 x3 x4 : Int) (hS : fx_Sok S) (g1 : -2147483648 ≤ x1 ∧ x1 ≤ 2147483647) (g2 : -2147483648 ≤ x2 ∧ x2 ≤ 2147483647) (g3 : -2147483648 ≤ x3 ∧ x3 ≤ 2147483647) (g4 : -2147483648 ≤ x4 ∧ x4 ≤ 2147483647) (v4 : Int) (e4 : v4 = S.1 67 11) (b4 : -2147483648 ≤ v4 ∧ v4 ≤ 2147483647) (c1 : x4 < v4) (v5 : Int) (S1 : fx_S) (k1 : fx_Sok S1) (b5 : -2147483648 ≤ v5 ∧ v5 ≤ 2147483647) (p1 : s337 S x1 x4 v5 S1) (c2 : v5 < 5) (v6 : Int) (e6 : v6 = fx_add x4 1) (z : Int) (Z : fx_S) (kz : fx_Sok Z) (bz : z = 0) (pz : s285 S1 x1 x2 x3 v6 z Z) : s285 S x1 x2 x3 x4 z Z := by
  obtain rfl : S = S1 := p1
  obtain ⟨rZ, fZ⟩ := pz
  refine ⟨rZ, ?_⟩
  · intro p i hW
    clear e6 c2 b5 c1 b4 e4
    exact (fZ p i (by omega))
theorem q285_2 (S : fx_S) (x1 x2 x3 x4 : Int) (hS : fx_Sok S) (g1 : -2147483648 ≤ x1 ∧ x1 ≤ 2147483647) (g2 : -2147483648 ≤ x2 ∧ x2 ≤ 2147483647) (g3 : -2147483648 ≤ x3 ∧ x3 ≤ 2147483647) (g4 : -2147483648 ≤ x4 ∧ x4 ≤ 2147483647) (v4 : Int) (e4 : v4 = S.1 67 11) (b4 : -2147483648 ≤ v4 ∧ v4 ≤ 2147483647) (c1 : x4 < v4) (v5 : Int) (S1 : fx_S) (k1 : fx_Sok S1) (b5 : -2147483648 ≤ v5 ∧ v5 ≤ 2147483647) (p1 : s337 S x1 x4 v5 S1) (c2 : 5 ≤ v5) (v6 : Int) (e6 : v6 = fx_shr x2 x4) (v7 : Int) (e7 : v7 = fx_and v6 1) (c3 : v7 ≠ 1) (c4 : 0 ≤ x1) (c5 : x1 < 7) (S2 : fx_S) (d2 : S2 = (fx_up S1.1 85 x1 x4, S1.2)) (v8 : Int) (e8 : v8 = fx_add x1 1) (v9 : Int) (e9 : v9 = fx_shl 1 x4) (v10 : Int) (e10 : v10 = fx_or x2 v9) (v11 : Int) (e11 : v11 = fx_add x3 v5) (v12 : Int) (S3 : fx_S) (k3 : fx_Sok S3) (b12 : v12 = 0) (p3 : s202 S2 v8 v10 v11 v12 S3) (v13 : Int) (e13 : v13 = fx_add x4 1) (z : Int) (Z : fx_S) (kz : fx_Sok Z) (bz : z = 0) (pz : s285 S3 x1 x2 x3 v13 z Z) : s285 S x1 x2 x3 x4 z Z := by
  obtain rfl : S = S1 := p1
  obtain ⟨r3, f3⟩ := p3
  obtain ⟨rZ, fZ⟩ := pz
  refine ⟨(rZ).trans ((r3).trans ((show S2.2 = S.2 by rw [d2]))), ?_⟩
  · intro p i hW
    clear e13 b12 e11 e10 e9 e8 c5 c4 c3 e7 e6 c2 b5 c1 b4 e4
    exact ((fZ p i (by omega))).trans (((f3 p i (by omega))).trans ((show S2.1 p i = S.1 p i by rw [d2]; exact if_neg (by omega))))
theorem q285_3 (S : fx_S) (x1 x2 x3 x4 : Int) (hS : fx_Sok S) (g1 : -2147483648 ≤ x1 ∧ x1 ≤ 2147483647) (g2 : -2147483648 ≤ x2 ∧ x2 ≤ 2147483647) (g3 : -2147483648 ≤ x3 ∧ x3 ≤ 2147483647) (g4 : -2147483648 ≤ x4 ∧ x4 ≤ 2147483647) (v4 : Int) (e4 : v4 = S.1 67 11) (b4 : -2147483648 ≤ v4 ∧ v4 ≤ 2147483647) (c1 : x4 < v4) (v5 : Int) (S1 : fx_S) (k1 : fx_Sok S1) (b5 : -2147483648 ≤ v5 ∧ v5 ≤ 2147483647) (p1 : s337 S x1 x4 v5 S1) (c2 : 5 ≤ v5) (v6 : Int) (e6 : v6 = fx_shr x2 x4) (v7 : Int) (e7 : v7 = fx_and v6 1) (c3 : v7 = 1) (v8 : Int) (e8 : v8 = fx_add x4 1) (z : Int) (Z : fx_S) (kz : fx_Sok Z) (bz : z = 0) (pz : s285 S1 x1 x2 x3 v8 z Z) : s285 S x1 x2 x3 x4 z Z := by
  obtain rfl : S = S1 := p1
  obtain ⟨rZ, fZ⟩ := pz
  refine ⟨rZ, ?_⟩
  · intro p i hW
    clear e8 c3 e7 e6 c2 b5 c1 b4 e4
    exact (fZ p i (by omega))
theorem q286_0 (S : fx_S) (x4 : Int) (hS : fx_Sok S) (g4 : -2147483648 ≤ x4 ∧ x4 ≤ 2147483647) (c1 : 7 ≤ x4) : s286 S x4 0 S := by
  refine ⟨rfl, ?_⟩
  · intro p i hW
    clear c1
    exact rfl
theorem q286_1 (S : fx_S) (x4 : Int) (hS : fx_Sok S) (g4 : -2147483648 ≤ x4 ∧ x4 ≤ 2147483647) (c1 : x4 < 7) (c2 : 0 ≤ x4) (c3 : x4 < 7) (v1 : Int) (e1 : v1 = S.1 85 x4) (b1 : -2147483648 ≤ v1 ∧ v1 ≤ 2147483647) (c4 : 0 ≤ x4) (c5 : x4 < 7) (S1 : fx_S) (d1 : S1 = (fx_up S.1 86 x4 v1, S.2)) (v2 : Int) (e2 : v2 = fx_add x4 1) (z : Int) (Z : fx_S) (kz : fx_Sok Z) (bz : z = 0) (pz : s286 S1 v2 z Z) : s286 S x4 z Z := by
  obtain ⟨rZ, fZ⟩ := pz
  refine ⟨(rZ).trans ((show S1.2 = S.2 by rw [d1])), ?_⟩
  · intro p i hW
    clear e2 c5 c4 b1 e1 c3 c2 c1
    exact ((fZ p i (by omega))).trans ((show S1.1 p i = S.1 p i by rw [d1]; exact if_neg (by omega)))
theorem q287_0 (S : fx_S) (x1 x2 : Int) (hS : fx_Sok S) (g1 : -2147483648 ≤ x1 ∧ x1 ≤ 2147483647) (g2 : -2147483648 ≤ x2 ∧ x2 ≤ 2147483647) (c1 : 4 ≤ x2) : s287 S x1 x2 x1 S := by
  exact rfl
theorem q287_1 (S : fx_S) (x1 x2 : Int) (hS : fx_Sok S) (g1 : -2147483648 ≤ x1 ∧ x1 ≤ 2147483647) (g2 : -2147483648 ≤ x2 ∧ x2 ≤ 2147483647) (c1 : x2 < 4) (c2 : 0 ≤ x2) (c3 : x2 < 4) (v2 : Int) (e2 : v2 = S.1 54 x2) (b2 : -2147483648 ≤ v2 ∧ v2 ≤ 2147483647) (c4 : v2 = (-1)) (v3 : Int) (e3 : v3 = fx_add x2 1) (z : Int) (Z : fx_S) (kz : fx_Sok Z) (bz : -2147483648 ≤ z ∧ z ≤ 2147483647) (pz : s287 S x1 v3 z Z) : s287 S x1 x2 z Z := by
  obtain rfl : S = Z := pz
  exact rfl
theorem q287_2 (S : fx_S) (x1 x2 : Int) (hS : fx_Sok S) (g1 : -2147483648 ≤ x1 ∧ x1 ≤ 2147483647) (g2 : -2147483648 ≤ x2 ∧ x2 ≤ 2147483647) (c1 : x2 < 4) (c2 : 0 ≤ x2) (c3 : x2 < 4) (v2 : Int) (e2 : v2 = S.1 54 x2) (b2 : -2147483648 ≤ v2 ∧ v2 ≤ 2147483647) (c4 : v2 ≠ (-1)) (v3 : Int) (e3 : v3 = fx_add x1 1) (v4 : Int) (e4 : v4 = fx_add x2 1) (z : Int) (Z : fx_S) (kz : fx_Sok Z) (bz : -2147483648 ≤ z ∧ z ≤ 2147483647) (pz : s287 S v3 v4 z Z) : s287 S x1 x2 z Z := by
  obtain rfl : S = Z := pz
  exact rfl
