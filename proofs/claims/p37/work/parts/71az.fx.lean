/-! FX: what is to be shown of the entries -/
theorem q321_7 (S : fx_S) (x2 x3 : Int) (hS : fx_Sok S) (g2 : -2147483648 ≤ x2 ∧ x2 ≤ 2147483647) (g3 : -2147483648 ≤ x3 ∧ x3 ≤ 2147483647) (v2 : Int) (e2 : v2 = S.1 29 0) (b2 : -2147483648 ≤ v2 ∧ v2 ≤ 2147483647) (c1 : x3 < v2) (c2 : 0 ≤ x3) (v3 : Int) (e3 : v3 = S.1 29 0) (b3 : -2147483648 ≤ v3 ∧ v3 ≤ 2147483647) (c3 : v3 ≤ x3) (c4 : 0 ≤ x3) (c5 : x3 < 20) (v4 : Int) (e4 : v4 = S.1 32 x3) (b4 : -2147483648 ≤ v4 ∧ v4 ≤ 2147483647) (c6 : 0 ≤ v4) (v5 : Int) (e5 : v5 = S.1 2 8) (b5 : -2147483648 ≤ v5 ∧ v5 ≤ 2147483647) (c7 : v4 < v5) (c8 : 0 ≤ v4) (c9 : v4 < 10) (v6 : Int) (e6 : v6 = S.1 12 v4) (b6 : -2147483648 ≤ v6 ∧ v6 ≤ 2147483647) (c10 : v6 = 3600) (v7 : Int) (e7 : v7 = fx_add x3 1) (z : Int) (Z : fx_S) (kz : fx_Sok Z) (bz : -2147483648 ≤ z ∧ z ≤ 2147483647) (pz : s321 S x2 v7 z Z) : s321 S x2 x3 z Z := by
  obtain ⟨rZ, fZ⟩ := pz
  refine ⟨rZ, ?_⟩
  · intro p i hW
    clear e7 c10 b6 e6 c9 c8 c7 b5 e5 c6 b4 e4 c5 c4 c3 b3 e3 c2 c1 b2 e2
    exact (fZ p i (by omega))
theorem q321_8 (S : fx_S) (x2 x3 : Int) (hS : fx_Sok S) (g2 : -2147483648 ≤ x2 ∧ x2 ≤ 2147483647) (g3 : -2147483648 ≤ x3 ∧ x3 ≤ 2147483647) (v2 : Int) (e2 : v2 = S.1 29 0) (b2 : -2147483648 ≤ v2 ∧ v2 ≤ 2147483647) (c1 : x3 < v2) (c2 : 0 ≤ x3) (v3 : Int) (e3 : v3 = S.1 29 0) (b3 : -2147483648 ≤ v3 ∧ v3 ≤ 2147483647) (c3 : v3 ≤ x3) (c4 : 0 ≤ x3) (c5 : x3 < 20) (v4 : Int) (e4 : v4 = S.1 32 x3) (b4 : -2147483648 ≤ v4 ∧ v4 ≤ 2147483647) (c6 : 0 ≤ v4) (v5 : Int) (e5 : v5 = S.1 2 8) (b5 : -2147483648 ≤ v5 ∧ v5 ≤ 2147483647) (c7 : v4 < v5) (c8 : 0 ≤ v4) (c9 : v4 < 10) (v6 : Int) (e6 : v6 = S.1 12 v4) (b6 : -2147483648 ≤ v6 ∧ v6 ≤ 2147483647) (c10 : v6 ≠ 3600) (v7 : Int) (e7 : v7 = S.1 1 0) (b7 : -2147483648 ≤ v7 ∧ v7 ≤ 2147483647) (c11 : 0 ≤ x3) (c12 : x3 < 20) (S1 : fx_S) (d1 : S1 = (fx_up S.1 33 x3 v7, S.2)) (v8 : Int) (e8 : v8 = fx_add x2 1) (v9 : Int) (e9 : v9 = fx_add x3 1) (z : Int) (Z : fx_S) (kz : fx_Sok Z) (bz : -2147483648 ≤ z ∧ z ≤ 2147483647) (pz : s321 S1 v8 v9 z Z) : s321 S x2 x3 z Z := by
  obtain ⟨rZ, fZ⟩ := pz
  refine ⟨(rZ).trans ((show S1.2 = S.2 by rw [d1])), ?_⟩
  · intro p i hW
    clear e9 e8 c12 c11 b7 e7 c10 b6 e6 c9 c8 c7 b5 e5 c6 b4 e4 c5 c4 c3 b3 e3 c2 c1 b2 e2
    exact ((fZ p i (by omega))).trans ((show S1.1 p i = S.1 p i by rw [d1]; exact if_neg (by omega)))
theorem q321_9 (S : fx_S) (x2 x3 : Int) (hS : fx_Sok S) (g2 : -2147483648 ≤ x2 ∧ x2 ≤ 2147483647) (g3 : -2147483648 ≤ x3 ∧ x3 ≤ 2147483647) (v2 : Int) (e2 : v2 = S.1 29 0) (b2 : -2147483648 ≤ v2 ∧ v2 ≤ 2147483647) (c1 : x3 < v2) (c2 : 0 ≤ x3) (v3 : Int) (e3 : v3 = S.1 29 0) (b3 : -2147483648 ≤ v3 ∧ v3 ≤ 2147483647) (c3 : x3 < v3) (c4 : 0 ≤ x3) (c5 : x3 < 20) (v4 : Int) (e4 : v4 = S.1 33 x3) (b4 : -2147483648 ≤ v4 ∧ v4 ≤ 2147483647) (c6 : v4 = 3600) (c7 : 0 ≤ x3) (c8 : x3 < 20) (v5 : Int) (e5 : v5 = S.1 32 x3) (b5 : -2147483648 ≤ v5 ∧ v5 ≤ 2147483647) (c9 : v5 < 0) (v6 : Int) (e6 : v6 = fx_add x3 1) (z : Int) (Z : fx_S) (kz : fx_Sok Z) (bz : -2147483648 ≤ z ∧ z ≤ 2147483647) (pz : s321 S x2 v6 z Z) : s321 S x2 x3 z Z := by
  obtain ⟨rZ, fZ⟩ := pz
  refine ⟨rZ, ?_⟩
  · intro p i hW
    clear e6 c9 b5 e5 c8 c7 c6 b4 e4 c5 c4 c3 b3 e3 c2 c1 b2 e2
    exact (fZ p i (by omega))
theorem q321_10 (S : fx_S) (x2 x3 : Int) (hS : fx_Sok S) (g2 : -2147483648 ≤ x2 ∧ x2 ≤ 2147483647) (g3 : -2147483648 ≤ x3 ∧ x3 ≤ 2147483647) (v2 : Int) (e2 : v2 = S.1 29 0) (b2 : -2147483648 ≤ v2 ∧ v2 ≤ 2147483647) (c1 : x3 < v2) (c2 : 0 ≤ x3) (v3 : Int) (e3 : v3 = S.1 29 0) (b3 : -2147483648 ≤ v3 ∧ v3 ≤ 2147483647) (c3 : x3 < v3) (c4 : 0 ≤ x3) (c5 : x3 < 20) (v4 : Int) (e4 : v4 = S.1 33 x3) (b4 : -2147483648 ≤ v4 ∧ v4 ≤ 2147483647) (c6 : v4 = 3600) (c7 : 0 ≤ x3) (c8 : x3 < 20) (v5 : Int) (e5 : v5 = S.1 32 x3) (b5 : -2147483648 ≤ v5 ∧ v5 ≤ 2147483647) (c9 : 0 ≤ v5) (v6 : Int) (e6 : v6 = S.1 2 8) (b6 : -2147483648 ≤ v6 ∧ v6 ≤ 2147483647) (c10 : v6 ≤ v5) (v7 : Int) (e7 : v7 = fx_add x3 1) (z : Int) (Z : fx_S) (kz : fx_Sok Z) (bz : -2147483648 ≤ z ∧ z ≤ 2147483647) (pz : s321 S x2 v7 z Z) : s321 S x2 x3 z Z := by
  obtain ⟨rZ, fZ⟩ := pz
  refine ⟨rZ, ?_⟩
  · intro p i hW
    clear e7 c10 b6 e6 c9 b5 e5 c8 c7 c6 b4 e4 c5 c4 c3 b3 e3 c2 c1 b2 e2
    exact (fZ p i (by omega))
theorem q321_11 (S : fx_S) (x2 x3 : Int) (hS : fx_Sok S) (g2 : -2147483648 ≤ x2 ∧ x2 ≤ 2147483647) (g3 : -2147483648 ≤ x3 ∧ x3 ≤ 2147483647) (v2 : Int) (e2 : v2 = S.1 29 0) (b2 : -2147483648 ≤ v2 ∧ v2 ≤ 2147483647) (c1 : x3 < v2) (c2 : 0 ≤ x3) (v3 : Int) (e3 : v3 = S.1 29 0) (b3 : -2147483648 ≤ v3 ∧ v3 ≤ 2147483647) (c3 : x3 < v3) (c4 : 0 ≤ x3) (c5 : x3 < 20) (v4 : Int) (e4 : v4 = S.1 33 x3) (b4 : -2147483648 ≤ v4 ∧ v4 ≤ 2147483647) (c6 : v4 = 3600) (c7 : 0 ≤ x3) (c8 : x3 < 20) (v5 : Int) (e5 : v5 = S.1 32 x3) (b5 : -2147483648 ≤ v5 ∧ v5 ≤ 2147483647) (c9 : 0 ≤ v5) (v6 : Int) (e6 : v6 = S.1 2 8) (b6 : -2147483648 ≤ v6 ∧ v6 ≤ 2147483647) (c10 : v5 < v6) (c11 : 0 ≤ v5) (c12 : v5 < 10) (v7 : Int) (e7 : v7 = S.1 12 v5) (b7 : -2147483648 ≤ v7 ∧ v7 ≤ 2147483647) (c13 : v7 = 3600) (v8 : Int) (e8 : v8 = fx_add x3 1) (z : Int) (Z : fx_S) (kz : fx_Sok Z) (bz : -2147483648 ≤ z ∧ z ≤ 2147483647) (pz : s321 S x2 v8 z Z) : s321 S x2 x3 z Z := by
  obtain ⟨rZ, fZ⟩ := pz
  refine ⟨rZ, ?_⟩
  · intro p i hW
    clear e8 c13 b7 e7 c12 c11 c10 b6 e6 c9 b5 e5 c8 c7 c6 b4 e4 c5 c4 c3 b3 e3 c2 c1 b2 e2
    exact (fZ p i (by omega))
theorem q321_12 (S : fx_S) (x2 x3 : Int) (hS : fx_Sok S) (g2 : -2147483648 ≤ x2 ∧ x2 ≤ 2147483647) (g3 : -2147483648 ≤ x3 ∧ x3 ≤ 2147483647) (v2 : Int) (e2 : v2 = S.1 29 0) (b2 : -2147483648 ≤ v2 ∧ v2 ≤ 2147483647) (c1 : x3 < v2) (c2 : 0 ≤ x3) (v3 : Int) (e3 : v3 = S.1 29 0) (b3 : -2147483648 ≤ v3 ∧ v3 ≤ 2147483647) (c3 : x3 < v3) (c4 : 0 ≤ x3) (c5 : x3 < 20) (v4 : Int) (e4 : v4 = S.1 33 x3) (b4 : -2147483648 ≤ v4 ∧ v4 ≤ 2147483647) (c6 : v4 = 3600) (c7 : 0 ≤ x3) (c8 : x3 < 20) (v5 : Int) (e5 : v5 = S.1 32 x3) (b5 : -2147483648 ≤ v5 ∧ v5 ≤ 2147483647) (c9 : 0 ≤ v5) (v6 : Int) (e6 : v6 = S.1 2 8) (b6 : -2147483648 ≤ v6 ∧ v6 ≤ 2147483647) (c10 : v5 < v6) (c11 : 0 ≤ v5) (c12 : v5 < 10) (v7 : Int) (e7 : v7 = S.1 12 v5) (b7 : -2147483648 ≤ v7 ∧ v7 ≤ 2147483647) (c13 : v7 ≠ 3600) (v8 : Int) (e8 : v8 = S.1 1 0) (b8 : -2147483648 ≤ v8 ∧ v8 ≤ 2147483647) (c14 : 0 ≤ x3) (c15 : x3 < 20) (S1 : fx_S) (d1 : S1 = (fx_up S.1 33 x3 v8, S.2)) (v9 : Int) (e9 : v9 = fx_add x2 1) (v10 : Int) (e10 : v10 = fx_add x3 1) (z : Int) (Z : fx_S) (kz : fx_Sok Z) (bz : -2147483648 ≤ z ∧ z ≤ 2147483647) (pz : s321 S1 v9 v10 z Z) : s321 S x2 x3 z Z := by
  obtain ⟨rZ, fZ⟩ := pz
  refine ⟨(rZ).trans ((show S1.2 = S.2 by rw [d1])), ?_⟩
  · intro p i hW
    clear e10 e9 c15 c14 b8 e8 c13 b7 e7 c12 c11 c10 b6 e6 c9 b5 e5 c8 c7 c6 b4 e4 c5 c4 c3 b3 e3 c2 c1 b2 e2
    exact ((fZ p i (by omega))).trans ((show S1.1 p i = S.1 p i by rw [d1]; exact if_neg (by omega)))
theorem q321_13 (S : fx_S) (x2 x3 : Int) (hS : fx_Sok S) (g2 : -2147483648 ≤ x2 ∧ x2 ≤ 2147483647) (g3 : -2147483648 ≤ x3 ∧ x3 ≤ 2147483647) (v2 : Int) (e2 : v2 = S.1 29 0) (b2 : -2147483648 ≤ v2 ∧ v2 ≤ 2147483647) (c1 : x3 < v2) (c2 : 0 ≤ x3) (v3 : Int) (e3 : v3 = S.1 29 0) (b3 : -2147483648 ≤ v3 ∧ v3 ≤ 2147483647) (c3 : x3 < v3) (c4 : 0 ≤ x3) (c5 : x3 < 20) (v4 : Int) (e4 : v4 = S.1 33 x3) (b4 : -2147483648 ≤ v4 ∧ v4 ≤ 2147483647) (c6 : v4 ≠ 3600) (v5 : Int) (e5 : v5 = fx_add x3 1) (z : Int) (Z : fx_S) (kz : fx_Sok Z) (bz : -2147483648 ≤ z ∧ z ≤ 2147483647) (pz : s321 S x2 v5 z Z) : s321 S x2 x3 z Z := by
  obtain ⟨rZ, fZ⟩ := pz
  refine ⟨rZ, ?_⟩
  · intro p i hW
    clear e5 c6 b4 e4 c5 c4 c3 b3 e3 c2 c1 b2 e2
    exact (fZ p i (by omega))
theorem q322_0 (S : fx_S) (x1 x2 x3 : Int) (hS : fx_Sok S) (g1 : -2147483648 ≤ x1 ∧ x1 ≤ 2147483647) (g2 : -2147483648 ≤ x2 ∧ x2 ≤ 2147483647) (g3 : -2147483648 ≤ x3 ∧ x3 ≤ 2147483647) (v3 : Int) (e3 : v3 = S.1 67 3) (b3 : -2147483648 ≤ v3 ∧ v3 ≤ 2147483647) (c1 : v3 ≤ x3) (z : Int) (Z : fx_S) (kz : fx_Sok Z) (bz : -2147483648 ≤ z ∧ z ≤ 2147483647) (pz : s364 S x1 x2 0 z Z) : s322 S x1 x2 x3 z Z := by
  unfold s364 at pz
  unfold s322
  intro hB hP
  have BS := hB
  have NS := fx_WB_n BS
  obtain ⟨rZ, fZ, BZ⟩ := pz BS (by omega)
  refine ⟨rZ, ?_, BZ⟩
  · intro p i hW
    exact (fZ p i (by omega))
theorem q322_1 (S : fx_S) (x1 x2 x3 : Int) (hS : fx_Sok S) (g1 : -2147483648 ≤ x1 ∧ x1 ≤ 2147483647) (g2 : -2147483648 ≤ x2 ∧ x2 ≤ 2147483647) (g3 : -2147483648 ≤ x3 ∧ x3 ≤ 2147483647) (v3 : Int) (e3 : v3 = S.1 67 3) (b3 : -2147483648 ≤ v3 ∧ v3 ≤ 2147483647) (c1 : x3 < v3) (v4 : Int) (e4 : v4 = fx_mul 260 x3) (v5 : Int) (e5 : v5 = fx_add 1100 v4) (v6 : Int) (e6 : v6 = fx_add v5 1) (c2 : 0 ≤ v6) (c3 : v6 < 8090) (v7 : Int) (e7 : v7 = S.1 67 v6) (b7 : -2147483648 ≤ v7 ∧ v7 ≤ 2147483647) (v8 : Int) (e8 : v8 = fx_mul 260 x3) (v9 : Int) (e9 : v9 = fx_add 1100 v8) (v10 : Int) (e10 : v10 = fx_add v9 2) (c4 : 0 ≤ v10) (c5 : v10 < 8090) (v11 : Int) (e11 : v11 = S.1 67 v10) (b11 : -2147483648 ≤ v11 ∧ v11 ≤ 2147483647) (c6 : v11 ≠ (-1)) (v12 : Int) (e12 : v12 = fx_add x3 1) (z : Int) (Z : fx_S) (kz : fx_Sok Z) (bz : -2147483648 ≤ z ∧ z ≤ 2147483647) (pz : s322 S x1 x2 v12 z Z) : s322 S x1 x2 x3 z Z := by
  unfold s322 at pz
  unfold s322
  intro hB hP
  have BS := hB
  have NS := fx_WB_n BS
  have h4 := e4
  first | rw [fx_mul_eq (by omega) (by omega)] at h4 | skip
  have h5 := e5
  first | rw [fx_add_eq (by omega) (by omega)] at h5 | skip
  have h6 := e6
  first | rw [fx_add_eq (by omega) (by omega)] at h6 | skip
  obtain rfl : v4 = v8 := by rw [e8, e4]
  obtain rfl : v5 = v9 := by rw [e9, e5]
  have h10 := e10
  first | rw [fx_add_eq (by omega) (by omega)] at h10 | skip
  have h12 := e12
  first | rw [fx_add_eq (by omega) (by omega)] at h12 | skip
  obtain ⟨rZ, fZ, BZ⟩ := pz BS (by omega)
  refine ⟨rZ, ?_, BZ⟩
  · intro p i hW
    exact (fZ p i (by omega))
theorem q322_2 (S : fx_S) (x1 x2 x3 : Int) (hS : fx_Sok S) (g1 : -2147483648 ≤ x1 ∧ x1 ≤ 2147483647) (g2 : -2147483648 ≤ x2 ∧ x2 ≤ 2147483647) (g3 : -2147483648 ≤ x3 ∧ x3 ≤ 2147483647) (v3 : Int) (e3 : v3 = S.1 67 3) (b3 : -2147483648 ≤ v3 ∧ v3 ≤ 2147483647) (c1 : x3 < v3) (v4 : Int) (e4 : v4 = fx_mul 260 x3) (v5 : Int) (e5 : v5 = fx_add 1100 v4) (v6 : Int) (e6 : v6 = fx_add v5 1) (c2 : 0 ≤ v6) (c3 : v6 < 8090) (v7 : Int) (e7 : v7 = S.1 67 v6) (b7 : -2147483648 ≤ v7 ∧ v7 ≤ 2147483647) (v8 : Int) (e8 : v8 = fx_mul 260 x3) (v9 : Int) (e9 : v9 = fx_add 1100 v8) (v10 : Int) (e10 : v10 = fx_add v9 2) (c4 : 0 ≤ v10) (c5 : v10 < 8090) (v11 : Int) (e11 : v11 = S.1 67 v10) (b11 : -2147483648 ≤ v11 ∧ v11 ≤ 2147483647) (c6 : v11 = (-1)) (c7 : v7 = (-1)) (v12 : Int) (e12 : v12 = fx_add x3 1) (z : Int) (Z : fx_S) (kz : fx_Sok Z) (bz : -2147483648 ≤ z ∧ z ≤ 2147483647) (pz : s322 S x1 x2 v12 z Z) : s322 S x1 x2 x3 z Z := by
  unfold s322 at pz
  unfold s322
  intro hB hP
  have BS := hB
  have NS := fx_WB_n BS
  have h4 := e4
  first | rw [fx_mul_eq (by omega) (by omega)] at h4 | skip
  have h5 := e5
  first | rw [fx_add_eq (by omega) (by omega)] at h5 | skip
  have h6 := e6
  first | rw [fx_add_eq (by omega) (by omega)] at h6 | skip
  obtain rfl : v4 = v8 := by rw [e8, e4]
  obtain rfl : v5 = v9 := by rw [e9, e5]
  have h10 := e10
  first | rw [fx_add_eq (by omega) (by omega)] at h10 | skip
  have h12 := e12
  first | rw [fx_add_eq (by omega) (by omega)] at h12 | skip
  obtain ⟨rZ, fZ, BZ⟩ := pz BS (by omega)
  refine ⟨rZ, ?_, BZ⟩
  · intro p i hW
    exact (fZ p i (by omega))
theorem q322_3 (S : fx_S) (x1 x2 x3 : Int) (hS : fx_Sok S) (g1 : -2147483648 ≤ x1 ∧ x1 ≤ 2147483647) (g2 : -2147483648 ≤ x2 ∧ x2 ≤ 2147483647) (g3 : -2147483648 ≤ x3 ∧ x3 ≤ 2147483647) (v3 : Int) (e3 : v3 = S.1 67 3) (b3 : -2147483648 ≤ v3 ∧ v3 ≤ 2147483647) (c1 : x3 < v3) (v4 : Int) (e4 : v4 = fx_mul 260 x3) (v5 : Int) (e5 : v5 = fx_add 1100 v4) (v6 : Int) (e6 : v6 = fx_add v5 1) (c2 : 0 ≤ v6) (c3 : v6 < 8090) (v7 : Int) (e7 : v7 = S.1 67 v6) (b7 : -2147483648 ≤ v7 ∧ v7 ≤ 2147483647) (v8 : Int) (e8 : v8 = fx_mul 260 x3) (v9 : Int) (e9 : v9 = fx_add 1100 v8) (v10 : Int) (e10 : v10 = fx_add v9 2) (c4 : 0 ≤ v10) (c5 : v10 < 8090) (v11 : Int) (e11 : v11 = S.1 67 v10) (b11 : -2147483648 ≤ v11 ∧ v11 ≤ 2147483647) (c6 : v11 = (-1)) (c7 : v7 ≠ (-1)) (v12 : Int) (e12 : v12 = fx_mul 170 v7) (v13 : Int) (e13 : v13 = fx_add 3700 v12) (v14 : Int) (e14 : v14 = fx_add v13 5) (c8 : 0 ≤ v14) (c9 : v14 < 8090) (v15 : Int) (e15 : v15 = S.1 67 v14) (b15 : -2147483648 ≤ v15 ∧ v15 ≤ 2147483647) (c10 : v15 ≠ (-1)) (v16 : Int) (e16 : v16 = fx_mul 260 x3) (v17 : Int) (e17 : v17 = fx_add 1100 v16) (v18 : Int) (e18 : v18 = fx_add v17 2) (v19 : Int) (e19 : v19 = S.1 67 0) (b19 : -2147483648 ≤ v19 ∧ v19 ≤ 2147483647) (c11 : 0 ≤ v18) (c12 : v18 < 8090) (S1 : fx_S) (d1 : S1 = (fx_up S.1 67 v18 v19, S.2)) (v20 : Int) (e20 : v20 = fx_add x1 1) (v21 : Int) (e21 : v21 = fx_add x3 1) (z : Int) (Z : fx_S) (kz : fx_Sok Z) (bz : -2147483648 ≤ z ∧ z ≤ 2147483647) (pz : s322 S1 v20 1 v21 z Z) : s322 S x1 x2 x3 z Z := by
  unfold s322 at pz
  unfold s322
  intro hB hP
  have BS := hB
  have NS := fx_WB_n BS
  have h4 := e4
  first | rw [fx_mul_eq (by omega) (by omega)] at h4 | skip
  have h5 := e5
  first | rw [fx_add_eq (by omega) (by omega)] at h5 | skip
  have h6 := e6
  first | rw [fx_add_eq (by omega) (by omega)] at h6 | skip
  obtain rfl : v4 = v8 := by rw [e8, e4]
  obtain rfl : v5 = v9 := by rw [e9, e5]
  have h10 := e10
  first | rw [fx_add_eq (by omega) (by omega)] at h10 | skip
  have h12 := e12
  first | rw [fx_mul_eq (by omega) (by omega)] at h12 | skip
  have h13 := e13
  first | rw [fx_add_eq (by omega) (by omega)] at h13 | skip
  have h14 := e14
  first | rw [fx_add_eq (by omega) (by omega)] at h14 | skip
  obtain rfl : v4 = v16 := by rw [e16, e4]
  obtain rfl : v5 = v17 := by rw [e17, e5]
  obtain rfl : v10 = v18 := by rw [e18, e10]
  have BS1 : fx_WB S1 := by rw [d1]; exact fx_WB_up BS (by omega) (by omega) (by omega) (by omega) (by omega) (by omega) (by omega) (by omega) (by omega) (by omega) (by omega) (fun h => absurd h (by omega))
  have h20 := e20
  first | rw [fx_add_eq (by omega) (by omega)] at h20 | skip
  have h21 := e21
  first | rw [fx_add_eq (by omega) (by omega)] at h21 | skip
  obtain ⟨rZ, fZ, BZ⟩ := pz BS1 (by omega)
  refine ⟨(rZ).trans ((show S1.2 = S.2 by rw [d1])), ?_, BZ⟩
  · intro p i hW
    exact ((fZ p i (by omega))).trans ((show S1.1 p i = S.1 p i by rw [d1]; exact if_neg (by omega)))
theorem q322_4 (S : fx_S) (x1 x2 x3 : Int) (hS : fx_Sok S) (g1 : -2147483648 ≤ x1 ∧ x1 ≤ 2147483647) (g2 : -2147483648 ≤ x2 ∧ x2 ≤ 2147483647) (g3 : -2147483648 ≤ x3 ∧ x3 ≤ 2147483647) (v3 : Int) (e3 : v3 = S.1 67 3) (b3 : -2147483648 ≤ v3 ∧ v3 ≤ 2147483647) (c1 : x3 < v3) (v4 : Int) (e4 : v4 = fx_mul 260 x3) (v5 : Int) (e5 : v5 = fx_add 1100 v4) (v6 : Int) (e6 : v6 = fx_add v5 1) (c2 : 0 ≤ v6) (c3 : v6 < 8090) (v7 : Int) (e7 : v7 = S.1 67 v6) (b7 : -2147483648 ≤ v7 ∧ v7 ≤ 2147483647) (v8 : Int) (e8 : v8 = fx_mul 260 x3) (v9 : Int) (e9 : v9 = fx_add 1100 v8) (v10 : Int) (e10 : v10 = fx_add v9 2) (c4 : 0 ≤ v10) (c5 : v10 < 8090) (v11 : Int) (e11 : v11 = S.1 67 v10) (b11 : -2147483648 ≤ v11 ∧ v11 ≤ 2147483647) (c6 : v11 = (-1)) (c7 : v7 ≠ (-1)) (v12 : Int) (e12 : v12 = fx_mul 170 v7) (v13 : Int) (e13 : v13 = fx_add 3700 v12) (v14 : Int) (e14 : v14 = fx_add v13 5) (c8 : 0 ≤ v14) (c9 : v14 < 8090) (v15 : Int) (e15 : v15 = S.1 67 v14) (b15 : -2147483648 ≤ v15 ∧ v15 ≤ 2147483647) (c10 : v15 = (-1)) (v16 : Int) (e16 : v16 = fx_add x3 1) (z : Int) (Z : fx_S) (kz : fx_Sok Z) (bz : -2147483648 ≤ z ∧ z ≤ 2147483647) (pz : s322 S x1 x2 v16 z Z) : s322 S x1 x2 x3 z Z := by
  unfold s322 at pz
  unfold s322
  intro hB hP
  have BS := hB
  have NS := fx_WB_n BS
  have h4 := e4
  first | rw [fx_mul_eq (by omega) (by omega)] at h4 | skip
  have h5 := e5
  first | rw [fx_add_eq (by omega) (by omega)] at h5 | skip
  have h6 := e6
  first | rw [fx_add_eq (by omega) (by omega)] at h6 | skip
  obtain rfl : v4 = v8 := by rw [e8, e4]
  obtain rfl : v5 = v9 := by rw [e9, e5]
  have h10 := e10
  first | rw [fx_add_eq (by omega) (by omega)] at h10 | skip
  have h12 := e12
  first | rw [fx_mul_eq (by omega) (by omega)] at h12 | skip
  have h13 := e13
  first | rw [fx_add_eq (by omega) (by omega)] at h13 | skip
  have h14 := e14
  first | rw [fx_add_eq (by omega) (by omega)] at h14 | skip
  have h16 := e16
  first | rw [fx_add_eq (by omega) (by omega)] at h16 | skip
  obtain ⟨rZ, fZ, BZ⟩ := pz BS (by omega)
  refine ⟨rZ, ?_, BZ⟩
  · intro p i hW
    exact (fZ p i (by omega))
theorem q323_0 (S : fx_S) (x3 x4 x5 : Int) (hS : fx_Sok S) (g3 : -2147483648 ≤ x3 ∧ x3 ≤ 2147483647) (g4 : -2147483648 ≤ x4 ∧ x4 ≤ 2147483647) (g5 : -2147483648 ≤ x5 ∧ x5 ≤ 2147483647) (c1 : 4 ≤ x5) : s323 S x3 x4 x5 (-1) S := by
  exact rfl
theorem q323_1 (S : fx_S) (x3 x4 x5 : Int) (hS : fx_Sok S) (g3 : -2147483648 ≤ x3 ∧ x3 ≤ 2147483647) (g4 : -2147483648 ≤ x4 ∧ x4 ≤ 2147483647) (g5 : -2147483648 ≤ x5 ∧ x5 ≤ 2147483647) (c1 : x5 < 4) (v3 : Int) (e3 : v3 = fx_add x4 x5) (v4 : Int) (e4 : v4 = fx_rem v3 4) (v5 : Int) (e5 : v5 = fx_shr x3 v4) (v6 : Int) (e6 : v6 = fx_and v5 1) (c2 : v6 ≠ 1) (v7 : Int) (e7 : v7 = fx_add x5 1) (z : Int) (Z : fx_S) (kz : fx_Sok Z) (bz : -2147483648 ≤ z ∧ z ≤ 2147483647) (pz : s323 S x3 x4 v7 z Z) : s323 S x3 x4 x5 z Z := by
  obtain rfl : S = Z := pz
  exact rfl
theorem q323_2 (S : fx_S) (x3 x4 x5 : Int) (hS : fx_Sok S) (g3 : -2147483648 ≤ x3 ∧ x3 ≤ 2147483647) (g4 : -2147483648 ≤ x4 ∧ x4 ≤ 2147483647) (g5 : -2147483648 ≤ x5 ∧ x5 ≤ 2147483647) (c1 : x5 < 4) (v3 : Int) (e3 : v3 = fx_add x4 x5) (v4 : Int) (e4 : v4 = fx_rem v3 4) (v5 : Int) (e5 : v5 = fx_shr x3 v4) (v6 : Int) (e6 : v6 = fx_and v5 1) (c2 : v6 = 1) : s323 S x3 x4 x5 v4 S := by
  exact rfl
theorem q324_0 (S : fx_S) (x1 x4 x5 x6 : Int) (hS : fx_Sok S) (g1 : -2147483648 ≤ x1 ∧ x1 ≤ 2147483647) (g4 : -2147483648 ≤ x4 ∧ x4 ≤ 2147483647) (g5 : -2147483648 ≤ x5 ∧ x5 ≤ 2147483647) (g6 : -2147483648 ≤ x6 ∧ x6 ≤ 2147483647) (v4 : Int) (e4 : v4 = S.1 67 2) (b4 : -2147483648 ≤ v4 ∧ v4 ≤ 2147483647) (c1 : v4 ≤ x6) (v5 : Int) (e5 : v5 = fx_add x5 1) (z : Int) (Z : fx_S) (kz : fx_Sok Z) (bz : -2147483648 ≤ z ∧ z ≤ 2147483647) (pz : s270 S x1 x4 v5 z Z) : s324 S x1 x4 x5 x6 z Z := by
  obtain rfl : S = Z := pz
  exact rfl
theorem q324_1 (S : fx_S) (x1 x4 x5 x6 : Int) (hS : fx_Sok S) (g1 : -2147483648 ≤ x1 ∧ x1 ≤ 2147483647) (g4 : -2147483648 ≤ x4 ∧ x4 ≤ 2147483647) (g5 : -2147483648 ≤ x5 ∧ x5 ≤ 2147483647) (g6 : -2147483648 ≤ x6 ∧ x6 ≤ 2147483647) (v4 : Int) (e4 : v4 = S.1 67 2) (b4 : -2147483648 ≤ v4 ∧ v4 ≤ 2147483647) (c1 : x6 < v4) (c2 : 0 ≤ x6) (c3 : x6 < 80) (v5 : Int) (e5 : v5 = S.1 80 x6) (b5 : -2147483648 ≤ v5 ∧ v5 ≤ 2147483647) (v6 : Int) (e6 : v6 = fx_add x4 x5) (v7 : Int) (e7 : v7 = fx_rem v6 4) (c4 : v5 ≠ v7) (v8 : Int) (e8 : v8 = fx_add x6 1) (z : Int) (Z : fx_S) (kz : fx_Sok Z) (bz : -2147483648 ≤ z ∧ z ≤ 2147483647) (pz : s324 S x1 x4 x5 v8 z Z) : s324 S x1 x4 x5 x6 z Z := by
  obtain rfl : S = Z := pz
  exact rfl
theorem q324_2 (S : fx_S) (x1 x4 x5 x6 : Int) (hS : fx_Sok S) (g1 : -2147483648 ≤ x1 ∧ x1 ≤ 2147483647) (g4 : -2147483648 ≤ x4 ∧ x4 ≤ 2147483647) (g5 : -2147483648 ≤ x5 ∧ x5 ≤ 2147483647) (g6 : -2147483648 ≤ x6 ∧ x6 ≤ 2147483647) (v4 : Int) (e4 : v4 = S.1 67 2) (b4 : -2147483648 ≤ v4 ∧ v4 ≤ 2147483647) (c1 : x6 < v4) (c2 : 0 ≤ x6) (c3 : x6 < 80) (v5 : Int) (e5 : v5 = S.1 80 x6) (b5 : -2147483648 ≤ v5 ∧ v5 ≤ 2147483647) (v6 : Int) (e6 : v6 = fx_add x4 x5) (v7 : Int) (e7 : v7 = fx_rem v6 4) (c4 : v5 = v7) (v8 : Int) (S1 : fx_S) (k1 : fx_Sok S1) (b8 : -2147483648 ≤ v8 ∧ v8 ≤ 2147483647) (p1 : s156 S x6 x1 v8 S1) (c5 : v8 = 0) (v9 : Int) (e9 : v9 = fx_add x6 1) (z : Int) (Z : fx_S) (kz : fx_Sok Z) (bz : -2147483648 ≤ z ∧ z ≤ 2147483647) (pz : s324 S1 x1 x4 x5 v9 z Z) : s324 S x1 x4 x5 x6 z Z := by
  obtain ⟨rfl, p1⟩ := p1
  obtain rfl : S = Z := pz
  exact rfl
theorem q324_3 (S : fx_S) (x1 x4 x5 x6 : Int) (hS : fx_Sok S) (g1 : -2147483648 ≤ x1 ∧ x1 ≤ 2147483647) (g4 : -2147483648 ≤ x4 ∧ x4 ≤ 2147483647) (g5 : -2147483648 ≤ x5 ∧ x5 ≤ 2147483647) (g6 : -2147483648 ≤ x6 ∧ x6 ≤ 2147483647) (v4 : Int) (e4 : v4 = S.1 67 2) (b4 : -2147483648 ≤ v4 ∧ v4 ≤ 2147483647) (c1 : x6 < v4) (c2 : 0 ≤ x6) (c3 : x6 < 80) (v5 : Int) (e5 : v5 = S.1 80 x6) (b5 : -2147483648 ≤ v5 ∧ v5 ≤ 2147483647) (v6 : Int) (e6 : v6 = fx_add x4 x5) (v7 : Int) (e7 : v7 = fx_rem v6 4) (c4 : v5 = v7) (v8 : Int) (S1 : fx_S) (k1 : fx_Sok S1) (b8 : -2147483648 ≤ v8 ∧ v8 ≤ 2147483647) (p1 : s156 S x6 x1 v8 S1) (c5 : v8 ≠ 0) (v9 : Int) (e9 : v9 = fx_add x4 x5) (v10 : Int) (e10 : v10 = fx_rem v9 4) : s324 S x1 x4 x5 x6 v10 S1 := by
  obtain ⟨rfl, p1⟩ := p1
  exact rfl
theorem q325_0 (S : fx_S) (x1 : Int) (hS : fx_Sok S) (g1 : -2147483648 ≤ x1 ∧ x1 ≤ 2147483647) (z : Int) (Z : fx_S) (kz : fx_Sok Z) (bz : -2147483648 ≤ z ∧ z ≤ 2147483647) (pz : s365 S x1 3600 0 z Z) : s325 S x1 z Z := by
  obtain rfl : S = Z := pz
  exact rfl
theorem q326_0 (S : fx_S) (x1 : Int) (hS : fx_Sok S) (g1 : -2147483648 ≤ x1 ∧ x1 ≤ 2147483647) (z : Int) (Z : fx_S) (kz : fx_Sok Z) (bz : -2147483648 ≤ z ∧ z ≤ 2147483647) (pz : s366 S x1 3600 0 z Z) : s326 S x1 z Z := by
  obtain rfl : S = Z := pz
  exact rfl
theorem q327_0 (S : fx_S) (x1 x3 x4 : Int) (hS : fx_Sok S) (g1 : -2147483648 ≤ x1 ∧ x1 ≤ 2147483647) (g3 : -2147483648 ≤ x3 ∧ x3 ≤ 2147483647) (g4 : -2147483648 ≤ x4 ∧ x4 ≤ 2147483647) (v3 : Int) (e3 : v3 = S.1 13 0) (b3 : -2147483648 ≤ v3 ∧ v3 ≤ 2147483647) (c1 : v3 ≤ x4) : s327 S x1 x3 x4 x3 S := by
  refine ⟨rfl, ?_⟩
  · intro p i hW
    clear c1 b3 e3
    exact rfl
theorem q327_1 (S : fx_S) (x1 x3 x4 : Int) (hS : fx_Sok S) (g1 : -2147483648 ≤ x1 ∧ x1 ≤ 2147483647) (g3 : -2147483648 ≤ x3 ∧ x3 ≤ 2147483647) (g4 : -2147483648 ≤ x4 ∧ x4 ≤ 2147483647) (v3 : Int) (e3 : v3 = S.1 13 0) (b3 : -2147483648 ≤ v3 ∧ v3 ≤ 2147483647) (c1 : x4 < v3) (c2 : 0 ≤ x4) (c3 : x4 < 80) (v4 : Int) (e4 : v4 = S.1 15 x4) (b4 : -2147483648 ≤ v4 ∧ v4 ≤ 2147483647) (c4 : v4 ≠ x1) (v5 : Int) (e5 : v5 = fx_add x4 1) (z : Int) (Z : fx_S) (kz : fx_Sok Z) (bz : -2147483648 ≤ z ∧ z ≤ 2147483647) (pz : s327 S x1 x3 v5 z Z) : s327 S x1 x3 x4 z Z := by
  obtain ⟨rZ, fZ⟩ := pz
  refine ⟨rZ, ?_⟩
  · intro p i hW
    clear e5 c4 b4 e4 c3 c2 c1 b3 e3
    exact (fZ p i (by omega))
theorem q327_2 (S : fx_S) (x1 x3 x4 : Int) (hS : fx_Sok S) (g1 : -2147483648 ≤ x1 ∧ x1 ≤ 2147483647) (g3 : -2147483648 ≤ x3 ∧ x3 ≤ 2147483647) (g4 : -2147483648 ≤ x4 ∧ x4 ≤ 2147483647) (v3 : Int) (e3 : v3 = S.1 13 0) (b3 : -2147483648 ≤ v3 ∧ v3 ≤ 2147483647) (c1 : x4 < v3) (c2 : 0 ≤ x4) (c3 : x4 < 80) (v4 : Int) (e4 : v4 = S.1 15 x4) (b4 : -2147483648 ≤ v4 ∧ v4 ≤ 2147483647) (c4 : v4 = x1) (v5 : Int) (S1 : fx_S) (k1 : fx_Sok S1) (b5 : -2147483648 ≤ v5 ∧ v5 ≤ 2147483647) (p1 : s136 S x4 v5 S1) (c5 : v5 = 0) (v6 : Int) (e6 : v6 = fx_add x4 1) (z : Int) (Z : fx_S) (kz : fx_Sok Z) (bz : -2147483648 ≤ z ∧ z ≤ 2147483647) (pz : s327 S1 x1 x3 v6 z Z) : s327 S x1 x3 x4 z Z := by
  obtain ⟨rfl, p1⟩ := p1
  obtain ⟨rZ, fZ⟩ := pz
  refine ⟨rZ, ?_⟩
  · intro p i hW
    clear e6 c5 b5 c4 b4 e4 c3 c2 c1 b3 e3
    exact (fZ p i (by omega))
theorem q327_3 (S : fx_S) (x1 x3 x4 : Int) (hS : fx_Sok S) (g1 : -2147483648 ≤ x1 ∧ x1 ≤ 2147483647) (g3 : -2147483648 ≤ x3 ∧ x3 ≤ 2147483647) (g4 : -2147483648 ≤ x4 ∧ x4 ≤ 2147483647) (v3 : Int) (e3 : v3 = S.1 13 0) (b3 : -2147483648 ≤ v3 ∧ v3 ≤ 2147483647) (c1 : x4 < v3) (c2 : 0 ≤ x4) (c3 : x4 < 80) (v4 : Int) (e4 : v4 = S.1 15 x4) (b4 : -2147483648 ≤ v4 ∧ v4 ≤ 2147483647) (c4 : v4 = x1) (v5 : Int) (S1 : fx_S) (k1 : fx_Sok S1) (b5 : -2147483648 ≤ v5 ∧ v5 ≤ 2147483647) (p1 : s136 S x4 v5 S1) (c5 : v5 ≠ 0) (v6 : Int) (S2 : fx_S) (k2 : fx_Sok S2) (b6 : -2147483648 ≤ v6 ∧ v6 ≤ 2147483647) (p2 : s367 S1 x4 v6 S2) (c6 : 0 ≤ x4) (c7 : x4 < 80) (S3 : fx_S) (d3 : S3 = (fx_up S2.1 61 x4 v6, S2.2)) (c8 : 0 ≤ x4) (c9 : x4 < 80) (v7 : Int) (e7 : v7 = S3.1 61 x4) (b7 : -2147483648 ≤ v7 ∧ v7 ≤ 2147483647) (c10 : v7 = (-1)) (v8 : Int) (e8 : v8 = fx_add x4 1) (z : Int) (Z : fx_S) (kz : fx_Sok Z) (bz : -2147483648 ≤ z ∧ z ≤ 2147483647) (pz : s327 S3 x1 x3 v8 z Z) : s327 S x1 x3 x4 z Z := by
  obtain ⟨rfl, p1⟩ := p1
  obtain ⟨r2, f2⟩ := p2
  obtain ⟨rZ, fZ⟩ := pz
  refine ⟨(rZ).trans (((show S3.2 = S2.2 by rw [d3])).trans (r2)), ?_⟩
  · intro p i hW
    clear e8 c10 b7 e7 c9 c8 c7 c6 b6 c5 b5 c4 b4 e4 c3 c2 c1 b3 e3
    exact ((fZ p i (by omega))).trans (((show S3.1 p i = S2.1 p i by rw [d3]; exact if_neg (by omega))).trans ((f2 p i (by omega))))
theorem q327_4 (S : fx_S) (x1 x3 x4 : Int) (hS : fx_Sok S) (g1 : -2147483648 ≤ x1 ∧ x1 ≤ 2147483647) (g3 : -2147483648 ≤ x3 ∧ x3 ≤ 2147483647) (g4 : -2147483648 ≤ x4 ∧ x4 ≤ 2147483647) (v3 : Int) (e3 : v3 = S.1 13 0) (b3 : -2147483648 ≤ v3 ∧ v3 ≤ 2147483647) (c1 : x4 < v3) (c2 : 0 ≤ x4) (c3 : x4 < 80) (v4 : Int) (e4 : v4 = S.1 15 x4) (b4 : -2147483648 ≤ v4 ∧ v4 ≤ 2147483647) (c4 : v4 = x1) (v5 : Int) (S1 : fx_S) (k1 : fx_Sok S1) (b5 : -2147483648 ≤ v5 ∧ v5 ≤ 2147483647) (p1 : s136 S x4 v5 S1) (c5 : v5 ≠ 0) (v6 : Int) (S2 : fx_S) (k2 : fx_Sok S2) (b6 : -2147483648 ≤ v6 ∧ v6 ≤ 2147483647) (p2 : s367 S1 x4 v6 S2) (c6 : 0 ≤ x4) (c7 : x4 < 80) (S3 : fx_S) (d3 : S3 = (fx_up S2.1 61 x4 v6, S2.2)) (c8 : 0 ≤ x4) (c9 : x4 < 80) (v7 : Int) (e7 : v7 = S3.1 61 x4) (b7 : -2147483648 ≤ v7 ∧ v7 ≤ 2147483647) (c10 : v7 ≠ (-1)) (v8 : Int) (e8 : v8 = fx_add x3 1) (v9 : Int) (e9 : v9 = fx_add x4 1) (z : Int) (Z : fx_S) (kz : fx_Sok Z) (bz : -2147483648 ≤ z ∧ z ≤ 2147483647) (pz : s327 S3 x1 v8 v9 z Z) : s327 S x1 x3 x4 z Z := by
  obtain ⟨rfl, p1⟩ := p1
  obtain ⟨r2, f2⟩ := p2
  obtain ⟨rZ, fZ⟩ := pz
  refine ⟨(rZ).trans (((show S3.2 = S2.2 by rw [d3])).trans (r2)), ?_⟩
  · intro p i hW
    clear e9 e8 c10 b7 e7 c9 c8 c7 c6 b6 c5 b5 c4 b4 e4 c3 c2 c1 b3 e3
    exact ((fZ p i (by omega))).trans (((show S3.1 p i = S2.1 p i by rw [d3]; exact if_neg (by omega))).trans ((f2 p i (by omega))))
theorem q328_0 (S : fx_S) (x1 x2 : Int) (hS : fx_Sok S) (g1 : -2147483648 ≤ x1 ∧ x1 ≤ 2147483647) (g2 : -2147483648 ≤ x2 ∧ x2 ≤ 2147483647) (c1 : x2 < 0) : s328 S x1 x2 x1 S := by
  refine ⟨rfl, ?_⟩
  · intro p i hW
    clear c1
    exact rfl
theorem q328_1 (S : fx_S) (x1 x2 : Int) (hS : fx_Sok S) (g1 : -2147483648 ≤ x1 ∧ x1 ≤ 2147483647) (g2 : -2147483648 ≤ x2 ∧ x2 ≤ 2147483647) (c1 : 0 ≤ x2) (z : Int) (Z : fx_S) (kz : fx_Sok Z) (bz : -2147483648 ≤ z ∧ z ≤ 2147483647) (pz : s368 S x1 x2 0 z Z) : s328 S x1 x2 z Z := by
  obtain ⟨rZ, fZ⟩ := pz
  refine ⟨rZ, ?_⟩
  · intro p i hW
    clear c1
    exact (fZ p i (by omega))
theorem q329_0 (S : fx_S) (x1 x2 : Int) (hS : fx_Sok S) (g1 : -2147483648 ≤ x1 ∧ x1 ≤ 2147483647) (g2 : -2147483648 ≤ x2 ∧ x2 ≤ 2147483647) (v2 : Int) (e2 : v2 = S.1 13 0) (b2 : -2147483648 ≤ v2 ∧ v2 ≤ 2147483647) (c1 : v2 ≤ x2) : s329 S x1 x2 x1 S := by
  refine ⟨rfl, ?_⟩
  · intro p i hW
    clear c1 b2 e2
    exact rfl
theorem q329_1 (S : fx_S) (x1 x2 : Int) (hS : fx_Sok S) (g1 : -2147483648 ≤ x1 ∧ x1 ≤ 2147483647) (g2 : -2147483648 ≤ x2 ∧ x2 ≤ 2147483647) (v2 : Int) (e2 : v2 = S.1 13 0) (b2 : -2147483648 ≤ v2 ∧ v2 ≤ 2147483647) (c1 : x2 < v2) (v3 : Int) (S1 : fx_S) (k1 : fx_Sok S1) (b3 : -2147483648 ≤ v3 ∧ v3 ≤ 2147483647) (p1 : s136 S x2 v3 S1) (c2 : v3 = 0) (v4 : Int) (e4 : v4 = fx_add x2 1) (z : Int) (Z : fx_S) (kz : fx_Sok Z) (bz : -2147483648 ≤ z ∧ z ≤ 2147483647) (pz : s329 S1 x1 v4 z Z) : s329 S x1 x2 z Z := by
  obtain ⟨rfl, p1⟩ := p1
  obtain ⟨rZ, fZ⟩ := pz
  refine ⟨rZ, ?_⟩
  · intro p i hW
    clear e4 c2 b3 c1 b2 e2
    exact (fZ p i (by omega))
theorem q329_2 (S : fx_S) (x1 x2 : Int) (hS : fx_Sok S) (g1 : -2147483648 ≤ x1 ∧ x1 ≤ 2147483647) (g2 : -2147483648 ≤ x2 ∧ x2 ≤ 2147483647) (v2 : Int) (e2 : v2 = S.1 13 0) (b2 : -2147483648 ≤ v2 ∧ v2 ≤ 2147483647) (c1 : x2 < v2) (v3 : Int) (S1 : fx_S) (k1 : fx_Sok S1) (b3 : -2147483648 ≤ v3 ∧ v3 ≤ 2147483647) (p1 : s136 S x2 v3 S1) (c2 : v3 ≠ 0) (c3 : 0 ≤ x2) (c4 : x2 < 80) (S2 : fx_S) (d2 : S2 = (fx_up S1.1 64 x2 1, S1.2)) (v4 : Int) (e4 : v4 = fx_add x1 1) (v5 : Int) (e5 : v5 = fx_add x2 1) (z : Int) (Z : fx_S) (kz : fx_Sok Z) (bz : -2147483648 ≤ z ∧ z ≤ 2147483647) (pz : s329 S2 v4 v5 z Z) : s329 S x1 x2 z Z := by
  obtain ⟨rfl, p1⟩ := p1
  obtain ⟨rZ, fZ⟩ := pz
  refine ⟨(rZ).trans ((show S2.2 = S.2 by rw [d2])), ?_⟩
  · intro p i hW
    clear e5 e4 c4 c3 c2 b3 c1 b2 e2
    exact ((fZ p i (by omega))).trans ((show S2.1 p i = S.1 p i by rw [d2]; exact if_neg (by omega)))
theorem q330_0 (S : fx_S) (x1 : Int) (hS : fx_Sok S) (g1 : -2147483648 ≤ x1 ∧ x1 ≤ 2147483647) (z : Int) (Z : fx_S) (kz : fx_Sok Z) (bz : -2147483648 ≤ z ∧ z ≤ 2147483647) (pz : s369 S x1 (-1) x1 0 z Z) : s330 S x1 z Z := by
  obtain rfl : S = Z := pz
  exact rfl
theorem q331_0 (S : fx_S) (x1 x2 x3 : Int) (hS : fx_Sok S) (g1 : -2147483648 ≤ x1 ∧ x1 ≤ 2147483647) (g2 : -2147483648 ≤ x2 ∧ x2 ≤ 2147483647) (g3 : -2147483648 ≤ x3 ∧ x3 ≤ 2147483647) (c1 : x3 ≤ x2) : s331 S x1 x2 x3 0 S := by
  refine ⟨rfl, ?_⟩
  · intro p i hW
    clear c1
    exact rfl
theorem q331_1 (S : fx_S) (x1 x2 x3 : Int) (hS : fx_Sok S) (g1 : -2147483648 ≤ x1 ∧ x1 ≤ 2147483647) (g2 : -2147483648 ≤ x2 ∧ x2 ≤ 2147483647) (g3 : -2147483648 ≤ x3 ∧ x3 ≤ 2147483647) (c1 : x2 < x3) (v3 : Int) (e3 : v3 = fx_nar 1 x1) (c2 : 0 ≤ x2) (c3 : x2 < 80) (S1 : fx_S) (d1 : S1 = (fx_up S.1 64 x2 v3, S.2)) (v4 : Int) (e4 : v4 = fx_add x2 1) (z : Int) (Z : fx_S) (kz : fx_Sok Z) (bz : z = 0) (pz : s331 S1 x1 v4 x3 z Z) : s331 S x1 x2 x3 z Z := by
  obtain ⟨rZ, fZ⟩ := pz
  refine ⟨(rZ).trans ((show S1.2 = S.2 by rw [d1])), ?_⟩
  · intro p i hW
    clear e4 c3 c2 e3 c1
    exact ((fZ p i (by omega))).trans ((show S1.1 p i = S.1 p i by rw [d1]; exact if_neg (by omega)))
theorem q332_0 (S : fx_S) (x1 : Int) (hS : fx_Sok S) (g1 : -2147483648 ≤ x1 ∧ x1 ≤ 2147483647) (z : Int) (Z : fx_S) (kz : fx_Sok Z) (bz : -2147483648 ≤ z ∧ z ≤ 2147483647) (pz : s370 S x1 0 0 z Z) : s332 S x1 z Z := by
  obtain ⟨rZ, fZ⟩ := pz
  refine ⟨rZ, ?_⟩
  · intro p i hW
    exact (fZ p i (by omega))
theorem q333_0 (S : fx_S) (x1 : Int) (hS : fx_Sok S) (g1 : -2147483648 ≤ x1 ∧ x1 ≤ 2147483647) (c1 : x1 = 0) : s333 S x1 0 S := by
  refine ⟨rfl, ?_⟩
  · intro p i hW
    clear c1
    exact rfl
theorem q333_1 (S : fx_S) (x1 : Int) (hS : fx_Sok S) (g1 : -2147483648 ≤ x1 ∧ x1 ≤ 2147483647) (c1 : x1 ≠ 0) (v1 : Int) (e1 : v1 = S.1 66 29) (b1 : -2147483648 ≤ v1 ∧ v1 ≤ 2147483647) (z : Int) (Z : fx_S) (kz : fx_Sok Z) (bz : z = 0) (pz : s371 S v1 0 z Z) : s333 S x1 z Z := by
  obtain ⟨rZ, fZ⟩ := pz
  refine ⟨rZ, ?_⟩
  · intro p i hW
    clear b1 e1 c1
    exact (fZ p i (by omega))
theorem q334_0 (S : fx_S) (x1 : Int) (hS : fx_Sok S) (g1 : -2147483648 ≤ x1 ∧ x1 ≤ 2147483647) (c1 : x1 = 0) : s334 S x1 0 S := by
  refine ⟨rfl, ?_⟩
  · intro p i hW
    clear c1
    exact rfl
theorem q334_1 (S : fx_S) (x1 : Int) (hS : fx_Sok S) (g1 : -2147483648 ≤ x1 ∧ x1 ≤ 2147483647) (c1 : x1 ≠ 0) (z : Int) (Z : fx_S) (kz : fx_Sok Z) (bz : z = 0) (pz : s372 S (-1) 0 z Z) : s334 S x1 z Z := by
  obtain ⟨rZ, fZ⟩ := pz
  refine ⟨rZ, ?_⟩
  · intro p i hW
    clear c1
    exact (fZ p i (by omega))
theorem q335_0 (S : fx_S) (x2 : Int) (hS : fx_Sok S) (g2 : -2147483648 ≤ x2 ∧ x2 ≤ 2147483647) (c1 : 128 ≤ x2) (v1 : Int) (e1 : v1 = S.1 56 2) (b1 : -2147483648 ≤ v1 ∧ v1 ≤ 2147483647) (v2 : Int) (e2 : v2 = fx_sub v1 1) (z : Int) (Z : fx_S) (kz : fx_Sok Z) (bz : -2147483648 ≤ z ∧ z ≤ 2147483647) (pz : s373 S v2 z Z) : s335 S x2 z Z := by
  obtain ⟨rZ, fZ⟩ := pz
  refine ⟨rZ, ?_⟩
  · intro p i hW
    clear e2 b1 e1 c1
    exact (fZ p i (by omega))
theorem q335_1 (S : fx_S) (x2 : Int) (hS : fx_Sok S) (g2 : -2147483648 ≤ x2 ∧ x2 ≤ 2147483647) (c1 : x2 < 128) (v1 : Int) (e1 : v1 = S.1 56 2) (b1 : -2147483648 ≤ v1 ∧ v1 ≤ 2147483647) (v2 : Int) (e2 : v2 = fx_mul v1 128) (v3 : Int) (e3 : v3 = fx_add v2 x2) (c2 : 0 ≤ v3) (c3 : v3 < 1024) (S1 : fx_S) (d1 : S1 = (fx_up S.1 59 v3 0, S.2)) (v4 : Int) (e4 : v4 = S1.1 56 2) (b4 : -2147483648 ≤ v4 ∧ v4 ≤ 2147483647) (v5 : Int) (e5 : v5 = fx_mul v4 128) (v6 : Int) (e6 : v6 = fx_add v5 x2) (c4 : 0 ≤ v6) (c5 : v6 < 1024) (S2 : fx_S) (d2 : S2 = (fx_up S1.1 60 v6 1, S1.2)) (v7 : Int) (e7 : v7 = fx_add x2 1) (z : Int) (Z : fx_S) (kz : fx_Sok Z) (bz : -2147483648 ≤ z ∧ z ≤ 2147483647) (pz : s335 S2 v7 z Z) : s335 S x2 z Z := by
  obtain ⟨rZ, fZ⟩ := pz
  refine ⟨(rZ).trans (((show S2.2 = S1.2 by rw [d2])).trans ((show S1.2 = S.2 by rw [d1]))), ?_⟩
  · intro p i hW
    clear e7 c5 c4 e6 e5 b4 e4 c3 c2 e3 e2 b1 e1 c1
    exact ((fZ p i (by omega))).trans (((show S2.1 p i = S1.1 p i by rw [d2]; exact if_neg (by omega))).trans ((show S1.1 p i = S.1 p i by rw [d1]; exact if_neg (by omega))))
theorem q336_0 (S : fx_S) (x2 x3 : Int) (hS : fx_Sok S) (g2 : -2147483648 ≤ x2 ∧ x2 ≤ 2147483647) (g3 : -2147483648 ≤ x3 ∧ x3 ≤ 2147483647) (v2 : Int) (e2 : v2 = S.1 56 3) (b2 : -2147483648 ≤ v2 ∧ v2 ≤ 2147483647) (c1 : v2 ≤ x3) (v3 : Int) (e3 : v3 = fx_add x2 1) (z : Int) (Z : fx_S) (kz : fx_Sok Z) (bz : -2147483648 ≤ z ∧ z ≤ 2147483647) (pz : s284 S v3 z Z) : s336 S x2 x3 z Z := by
  obtain ⟨rZ, fZ⟩ := pz
  refine ⟨rZ, ?_⟩
  · intro p i hW
    clear e3 c1 b2 e2
    exact (fZ p i (by omega))
theorem q336_1 (S : fx_S) (x2 x3 : Int) (hS : fx_Sok S) (g2 : -2147483648 ≤ x2 ∧ x2 ≤ 2147483647) (g3 : -2147483648 ≤ x3 ∧ x3 ≤ 2147483647) (v2 : Int) (e2 : v2 = S.1 56 3) (b2 : -2147483648 ≤ v2 ∧ v2 ≤ 2147483647) (c1 : x3 < v2) (v3 : Int) (e3 : v3 = fx_mul x2 7) (v4 : Int) (e4 : v4 = fx_add v3 x3) (v5 : Int) (S1 : fx_S) (k1 : fx_Sok S1) (b5 : -2147483648 ≤ v5 ∧ v5 ≤ 2147483647) (p1 : s374 S x2 x3 v5 S1) (c2 : 0 ≤ v4) (c3 : v4 < 49) (S2 : fx_S) (d2 : S2 = (fx_up S1.1 58 v4 v5, S1.2)) (v6 : Int) (e6 : v6 = fx_add x3 1) (z : Int) (Z : fx_S) (kz : fx_Sok Z) (bz : -2147483648 ≤ z ∧ z ≤ 2147483647) (pz : s336 S2 x2 v6 z Z) : s336 S x2 x3 z Z := by
  obtain rfl : S = S1 := p1
  obtain ⟨rZ, fZ⟩ := pz
  refine ⟨(rZ).trans ((show S2.2 = S.2 by rw [d2])), ?_⟩
  · intro p i hW
    clear e6 c3 c2 b5 e4 e3 c1 b2 e2
    exact ((fZ p i (by omega))).trans ((show S2.1 p i = S.1 p i by rw [d2]; exact if_neg (by omega)))
theorem q337_0 (S : fx_S) (x1 x2 : Int) (hS : fx_Sok S) (g1 : -2147483648 ≤ x1 ∧ x1 ≤ 2147483647) (g2 : -2147483648 ≤ x2 ∧ x2 ≤ 2147483647) (v2 : Int) (e2 : v2 = fx_mul 3 x1) (v3 : Int) (e3 : v3 = fx_add 8048 v2) (v4 : Int) (e4 : v4 = fx_mul 3 x2) (v5 : Int) (e5 : v5 = fx_add 8069 v4) (v6 : Int) (e6 : v6 = fx_add v3 1) (c1 : 0 ≤ v6) (c2 : v6 < 8090) (v7 : Int) (e7 : v7 = S.1 67 v6) (b7 : -2147483648 ≤ v7 ∧ v7 ≤ 2147483647) (v8 : Int) (e8 : v8 = fx_add v5 1) (c3 : 0 ≤ v8) (c4 : v8 < 8090) (v9 : Int) (e9 : v9 = S.1 67 v8) (b9 : -2147483648 ≤ v9 ∧ v9 ≤ 2147483647) (c5 : v7 ≠ v9) (v10 : Int) (e10 : v10 = fx_add v3 2) (c6 : 0 ≤ v10) (c7 : v10 < 8090) (v11 : Int) (e11 : v11 = S.1 67 v10) (b11 : -2147483648 ≤ v11 ∧ v11 ≤ 2147483647) (v12 : Int) (e12 : v12 = fx_add v5 2) (c8 : 0 ≤ v12) (c9 : v12 < 8090) (v13 : Int) (e13 : v13 = S.1 67 v12) (b13 : -2147483648 ≤ v13 ∧ v13 ≤ 2147483647) (c10 : v11 ≠ v13) (c11 : 0 ≤ v3) (c12 : v3 < 8090) (v14 : Int) (e14 : v14 = S.1 67 v3) (b14 : -2147483648 ≤ v14 ∧ v14 ≤ 2147483647) (c13 : 0 ≤ v5) (c14 : v5 < 8090) (v15 : Int) (e15 : v15 = S.1 67 v5) (b15 : -2147483648 ≤ v15 ∧ v15 ≤ 2147483647) (v16 : Int) (e16 : v16 = fx_sub v14 v15) (v17 : Int) (S1 : fx_S) (k1 : fx_Sok S1) (b17 : -2147483648 ≤ v17 ∧ v17 ≤ 2147483647) (p1 : s375 S v16 v17 S1) (v18 : Int) (e18 : v18 = fx_sub 4 v17) (v19 : Int) (S2 : fx_S) (k2 : fx_Sok S2) (b19 : -2147483648 ≤ v19 ∧ v19 ≤ 2147483647) (p2 : s188 S1 0 v18 v19 S2) (v20 : Int) (e20 : v20 = fx_add 0 v19) : s337 S x1 x2 v20 S2 := by
  obtain rfl : S = S1 := p1
  obtain ⟨rfl, p2⟩ := p2
  exact rfl
theorem q337_1 (S : fx_S) (x1 x2 : Int) (hS : fx_Sok S) (g1 : -2147483648 ≤ x1 ∧ x1 ≤ 2147483647) (g2 : -2147483648 ≤ x2 ∧ x2 ≤ 2147483647) (v2 : Int) (e2 : v2 = fx_mul 3 x1) (v3 : Int) (e3 : v3 = fx_add 8048 v2) (v4 : Int) (e4 : v4 = fx_mul 3 x2) (v5 : Int) (e5 : v5 = fx_add 8069 v4) (v6 : Int) (e6 : v6 = fx_add v3 1) (c1 : 0 ≤ v6) (c2 : v6 < 8090) (v7 : Int) (e7 : v7 = S.1 67 v6) (b7 : -2147483648 ≤ v7 ∧ v7 ≤ 2147483647) (v8 : Int) (e8 : v8 = fx_add v5 1) (c3 : 0 ≤ v8) (c4 : v8 < 8090) (v9 : Int) (e9 : v9 = S.1 67 v8) (b9 : -2147483648 ≤ v9 ∧ v9 ≤ 2147483647) (c5 : v7 ≠ v9) (v10 : Int) (e10 : v10 = fx_add v3 2) (c6 : 0 ≤ v10) (c7 : v10 < 8090) (v11 : Int) (e11 : v11 = S.1 67 v10) (b11 : -2147483648 ≤ v11 ∧ v11 ≤ 2147483647) (v12 : Int) (e12 : v12 = fx_add v5 2) (c8 : 0 ≤ v12) (c9 : v12 < 8090) (v13 : Int) (e13 : v13 = S.1 67 v12) (b13 : -2147483648 ≤ v13 ∧ v13 ≤ 2147483647) (c10 : v11 = v13) (c11 : 0 ≤ v3) (c12 : v3 < 8090) (v14 : Int) (e14 : v14 = S.1 67 v3) (b14 : -2147483648 ≤ v14 ∧ v14 ≤ 2147483647) (c13 : 0 ≤ v5) (c14 : v5 < 8090) (v15 : Int) (e15 : v15 = S.1 67 v5) (b15 : -2147483648 ≤ v15 ∧ v15 ≤ 2147483647) (v16 : Int) (e16 : v16 = fx_sub v14 v15) (v17 : Int) (S1 : fx_S) (k1 : fx_Sok S1) (b17 : -2147483648 ≤ v17 ∧ v17 ≤ 2147483647) (p1 : s375 S v16 v17 S1) (v18 : Int) (e18 : v18 = fx_sub 4 v17) (v19 : Int) (S2 : fx_S) (k2 : fx_Sok S2) (b19 : -2147483648 ≤ v19 ∧ v19 ≤ 2147483647) (p2 : s188 S1 0 v18 v19 S2) (v20 : Int) (e20 : v20 = fx_add 3 v19) : s337 S x1 x2 v20 S2 := by
  obtain rfl : S = S1 := p1
  obtain ⟨rfl, p2⟩ := p2
  exact rfl
