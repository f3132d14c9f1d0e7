/-! FX: what is to be shown of the entries -/
theorem q356_26 (S : fx_S) (x1 x2 x3 : Int) (hS : fx_Sok S) (g1 : -2147483648 ≤ x1 ∧ x1 ≤ 2147483647) (g2 : -2147483648 ≤ x2 ∧ x2 ≤ 2147483647) (g3 : -2147483648 ≤ x3 ∧ x3 ≤ 2147483647) (v3 : Int) (e3 : v3 = fx_add x1 3) (c1 : 0 ≤ v3) (c2 : v3 < 8090) (v4 : Int) (e4 : v4 = S.1 67 v3) (b4 : -2147483648 ≤ v4 ∧ v4 ≤ 2147483647) (v5 : Int) (e5 : v5 = fx_add x1 1) (c3 : 0 ≤ v5) (c4 : v5 < 8090) (v6 : Int) (e6 : v6 = S.1 67 v5) (b6 : -2147483648 ≤ v6 ∧ v6 ≤ 2147483647) (c5 : v6 = 3) (v7 : Int) (e7 : v7 = fx_add x1 2) (c6 : 0 ≤ v7) (c7 : v7 < 8090) (v8 : Int) (e8 : v8 = S.1 67 v7) (b8 : -2147483648 ≤ v8 ∧ v8 ≤ 2147483647) (v9 : Int) (S1 : fx_S) (k1 : fx_Sok S1) (b9 : -2147483648 ≤ v9 ∧ v9 ≤ 2147483647) (p1 : s381 S x2 v8 v4 v9 S1) (c8 : 0 ≤ x1) (c9 : x1 < 8090) (v10 : Int) (e10 : v10 = S1.1 67 x1) (b10 : -2147483648 ≤ v10 ∧ v10 ≤ 2147483647) (c10 : v10 = 1) (c11 : v9 = 1) : s356 S x1 x2 x3 0 S1 := by
  obtain rfl : S = S1 := p1
  exact rfl
theorem q356_27 (S : fx_S) (x1 x2 x3 : Int) (hS : fx_Sok S) (g1 : -2147483648 ≤ x1 ∧ x1 ≤ 2147483647) (g2 : -2147483648 ≤ x2 ∧ x2 ≤ 2147483647) (g3 : -2147483648 ≤ x3 ∧ x3 ≤ 2147483647) (v3 : Int) (e3 : v3 = fx_add x1 3) (c1 : 0 ≤ v3) (c2 : v3 < 8090) (v4 : Int) (e4 : v4 = S.1 67 v3) (b4 : -2147483648 ≤ v4 ∧ v4 ≤ 2147483647) (v5 : Int) (e5 : v5 = fx_add x1 1) (c3 : 0 ≤ v5) (c4 : v5 < 8090) (v6 : Int) (e6 : v6 = S.1 67 v5) (b6 : -2147483648 ≤ v6 ∧ v6 ≤ 2147483647) (c5 : v6 = 3) (v7 : Int) (e7 : v7 = fx_add x1 2) (c6 : 0 ≤ v7) (c7 : v7 < 8090) (v8 : Int) (e8 : v8 = S.1 67 v7) (b8 : -2147483648 ≤ v8 ∧ v8 ≤ 2147483647) (v9 : Int) (S1 : fx_S) (k1 : fx_Sok S1) (b9 : -2147483648 ≤ v9 ∧ v9 ≤ 2147483647) (p1 : s381 S x2 v8 v4 v9 S1) (c8 : 0 ≤ x1) (c9 : x1 < 8090) (v10 : Int) (e10 : v10 = S1.1 67 x1) (b10 : -2147483648 ≤ v10 ∧ v10 ≤ 2147483647) (c10 : v10 = 1) (c11 : v9 ≠ 1) : s356 S x1 x2 x3 1 S1 := by
  obtain rfl : S = S1 := p1
  exact rfl
theorem q357_0 (S : fx_S) (hS : fx_Sok S) (z : Int) (Z : fx_S) (kz : fx_Sok Z) (bz : -2147483648 ≤ z ∧ z ≤ 2147483647) (pz : s382 S 0 1 z Z) : s357 S  z Z := by
  obtain rfl : S = Z := pz
  exact rfl
theorem q358_0 (S : fx_S) (x1 x4 : Int) (hS : fx_Sok S) (g1 : -2147483648 ≤ x1 ∧ x1 ≤ 2147483647) (g4 : -2147483648 ≤ x4 ∧ x4 ≤ 2147483647) (c1 : 4 ≤ x4) (z : Int) (Z : fx_S) (kz : fx_Sok Z) (bz : -2147483648 ≤ z ∧ z ≤ 2147483647) (pz : s383 S x1 0 z Z) : s358 S x1 x4 z Z := by
  unfold s383 at pz
  unfold s358
  intro hB hP
  have BS := hB
  have NS := fx_WB_n BS
  obtain ⟨rZ, fZ, BZ⟩ := pz BS (by omega)
  refine ⟨rZ, ?_, BZ⟩
  · intro p i hW
    exact (fZ p i (by omega))
theorem q358_1 (S : fx_S) (x1 x4 : Int) (hS : fx_Sok S) (g1 : -2147483648 ≤ x1 ∧ x1 ≤ 2147483647) (g4 : -2147483648 ≤ x4 ∧ x4 ≤ 2147483647) (c1 : x4 < 4) (v2 : Int) (e2 : v2 = fx_add 12 x4) (c2 : 0 ≤ v2) (c3 : v2 < 8090) (v3 : Int) (e3 : v3 = S.1 67 v2) (b3 : -2147483648 ≤ v3 ∧ v3 ≤ 2147483647) (c4 : 0 ≤ x4) (c5 : x4 < 4) (v4 : Int) (e4 : v4 = S.1 74 x4) (b4 : -2147483648 ≤ v4 ∧ v4 ≤ 2147483647) (c6 : v4 ≤ v3) (v5 : Int) (e5 : v5 = fx_add x4 1) (z : Int) (Z : fx_S) (kz : fx_Sok Z) (bz : -2147483648 ≤ z ∧ z ≤ 2147483647) (pz : s358 S x1 v5 z Z) : s358 S x1 x4 z Z := by
  unfold s358 at pz
  unfold s358
  intro hB hP
  have BS := hB
  have NS := fx_WB_n BS
  have h2 := e2
  first | rw [fx_add_eq (by omega) (by omega)] at h2 | skip
  have h5 := e5
  first | rw [fx_add_eq (by omega) (by omega)] at h5 | skip
  obtain ⟨rZ, fZ, BZ⟩ := pz BS (by omega)
  refine ⟨rZ, ?_, BZ⟩
  · intro p i hW
    exact (fZ p i (by omega))
theorem q358_2 (S : fx_S) (x1 x4 : Int) (hS : fx_Sok S) (g1 : -2147483648 ≤ x1 ∧ x1 ≤ 2147483647) (g4 : -2147483648 ≤ x4 ∧ x4 ≤ 2147483647) (c1 : x4 < 4) (v2 : Int) (e2 : v2 = fx_add 12 x4) (c2 : 0 ≤ v2) (c3 : v2 < 8090) (v3 : Int) (e3 : v3 = S.1 67 v2) (b3 : -2147483648 ≤ v3 ∧ v3 ≤ 2147483647) (c4 : 0 ≤ x4) (c5 : x4 < 4) (v4 : Int) (e4 : v4 = S.1 74 x4) (b4 : -2147483648 ≤ v4 ∧ v4 ≤ 2147483647) (c6 : v3 < v4) : s358 S x1 x4 (-5) S := by
  unfold s358
  intro hB hP
  have BS := hB
  have NS := fx_WB_n BS
  have h2 := e2
  first | rw [fx_add_eq (by omega) (by omega)] at h2 | skip
  refine ⟨rfl, ?_, BS⟩
  · intro p i hW
    exact rfl
theorem q359_0 (S : fx_S) (x1 x2 x3 x4 x5 : Int) (hS : fx_Sok S) (g1 : -2147483648 ≤ x1 ∧ x1 ≤ 2147483647) (g2 : -2147483648 ≤ x2 ∧ x2 ≤ 2147483647) (g3 : -2147483648 ≤ x3 ∧ x3 ≤ 2147483647) (g4 : -2147483648 ≤ x4 ∧ x4 ≤ 2147483647) (g5 : -2147483648 ≤ x5 ∧ x5 ≤ 2147483647) (c1 : 4 ≤ x5) (c2 : 0 ≤ x4) (c3 : x4 < 4) (S1 : fx_S) (d1 : S1 = (fx_up S.1 75 x4 1, S.2)) (c4 : 0 ≤ x4) (c5 : x4 < 4) (v5 : Int) (e5 : v5 = S1.1 74 x4) (b5 : -2147483648 ≤ v5 ∧ v5 ≤ 2147483647) (v6 : Int) (e6 : v6 = fx_add v5 1) (c6 : 0 ≤ x4) (c7 : x4 < 4) (S2 : fx_S) (d2 : S2 = (fx_up S1.1 74 x4 v6, S1.2)) (v7 : Int) (e7 : v7 = fx_add x3 (-1)) (z : Int) (Z : fx_S) (kz : fx_Sok Z) (bz : -2147483648 ≤ z ∧ z ≤ 2147483647) (pz : s311 S2 x1 x2 v7 z Z) : s359 S x1 x2 x3 x4 x5 z Z := by
  unfold s311 at pz
  unfold s359
  intro hB
  have BS := hB
  have NS := fx_WB_n BS
  have BS1 : fx_WB S1 := by rw [d1]; exact fx_WB_off BS (by omega)
  have t5_1 : S1.1 74 x4 = S.1 74 x4 := by rw [d1]; first | exact if_neg (by omega) | rfl
  rw [t5_1] at e5
  have h6 := e6
  first | rw [fx_add_eq (by omega) (by omega)] at h6 | skip
  have BS2 : fx_WB S2 := by rw [d2]; exact fx_WB_off BS1 (by omega)
  have h7 := e7
  first | rw [fx_add_eq (by omega) (by omega)] at h7 | skip
  obtain ⟨rZ, fZ, BZ⟩ := pz BS2
  refine ⟨(rZ).trans (((show S2.2 = S1.2 by rw [d2])).trans ((show S1.2 = S.2 by rw [d1]))), ?_, BZ⟩
  · intro p i hW
    exact ((fZ p i (by omega))).trans (((show S2.1 p i = S1.1 p i by rw [d2]; exact if_neg (by omega))).trans ((show S1.1 p i = S.1 p i by rw [d1]; exact if_neg (by omega))))
theorem q359_1 (S : fx_S) (x1 x2 x3 x4 x5 : Int) (hS : fx_Sok S) (g1 : -2147483648 ≤ x1 ∧ x1 ≤ 2147483647) (g2 : -2147483648 ≤ x2 ∧ x2 ≤ 2147483647) (g3 : -2147483648 ≤ x3 ∧ x3 ≤ 2147483647) (g4 : -2147483648 ≤ x4 ∧ x4 ≤ 2147483647) (g5 : -2147483648 ≤ x5 ∧ x5 ≤ 2147483647) (c1 : x5 < 4) (c2 : 0 ≤ x5) (c3 : x5 < 4) (v5 : Int) (e5 : v5 = S.1 75 x5) (b5 : 0 ≤ v5 ∧ v5 ≤ 1) (c4 : v5 ≠ 0) (v6 : Int) (e6 : v6 = fx_add x5 1) (z : Int) (Z : fx_S) (kz : fx_Sok Z) (bz : -2147483648 ≤ z ∧ z ≤ 2147483647) (pz : s359 S x1 x2 x3 x4 v6 z Z) : s359 S x1 x2 x3 x4 x5 z Z := by
  unfold s359 at pz
  unfold s359
  intro hB
  have BS := hB
  have NS := fx_WB_n BS
  have h6 := e6
  first | rw [fx_add_eq (by omega) (by omega)] at h6 | skip
  obtain ⟨rZ, fZ, BZ⟩ := pz BS
  refine ⟨rZ, ?_, BZ⟩
  · intro p i hW
    exact (fZ p i (by omega))
theorem q359_2 (S : fx_S) (x1 x2 x3 x4 x5 : Int) (hS : fx_Sok S) (g1 : -2147483648 ≤ x1 ∧ x1 ≤ 2147483647) (g2 : -2147483648 ≤ x2 ∧ x2 ≤ 2147483647) (g3 : -2147483648 ≤ x3 ∧ x3 ≤ 2147483647) (g4 : -2147483648 ≤ x4 ∧ x4 ≤ 2147483647) (g5 : -2147483648 ≤ x5 ∧ x5 ≤ 2147483647) (c1 : x5 < 4) (c2 : 0 ≤ x5) (c3 : x5 < 4) (v5 : Int) (e5 : v5 = S.1 75 x5) (b5 : 0 ≤ v5 ∧ v5 ≤ 1) (c4 : v5 = 0) (c5 : x4 = (-1)) (v6 : Int) (e6 : v6 = fx_add x5 1) (z : Int) (Z : fx_S) (kz : fx_Sok Z) (bz : -2147483648 ≤ z ∧ z ≤ 2147483647) (pz : s359 S x1 x2 x3 x5 v6 z Z) : s359 S x1 x2 x3 x4 x5 z Z := by
  unfold s359 at pz
  unfold s359
  intro hB
  have BS := hB
  have NS := fx_WB_n BS
  have h6 := e6
  first | rw [fx_add_eq (by omega) (by omega)] at h6 | skip
  obtain ⟨rZ, fZ, BZ⟩ := pz BS
  refine ⟨rZ, ?_, BZ⟩
  · intro p i hW
    exact (fZ p i (by omega))
theorem q359_3 (S : fx_S) (x1 x2 x3 x4 x5 : Int) (hS : fx_Sok S) (g1 : -2147483648 ≤ x1 ∧ x1 ≤ 2147483647) (g2 : -2147483648 ≤ x2 ∧ x2 ≤ 2147483647) (g3 : -2147483648 ≤ x3 ∧ x3 ≤ 2147483647) (g4 : -2147483648 ≤ x4 ∧ x4 ≤ 2147483647) (g5 : -2147483648 ≤ x5 ∧ x5 ≤ 2147483647) (c1 : x5 < 4) (c2 : 0 ≤ x5) (c3 : x5 < 4) (v5 : Int) (e5 : v5 = S.1 75 x5) (b5 : 0 ≤ v5 ∧ v5 ≤ 1) (c4 : v5 = 0) (c5 : x4 ≠ (-1)) (c6 : 0 ≤ x5) (c7 : x5 < 4) (v6 : Int) (e6 : v6 = S.1 73 x5) (b6 : -2147483648 ≤ v6 ∧ v6 ≤ 2147483647) (v7 : Int) (e7 : v7 = fx_mul x1 v6) (c8 : x2 ≠ 0) (v8 : Int) (e8 : v8 = fx_rem v7 x2) (c9 : 0 ≤ x4) (c10 : x4 < 4) (v9 : Int) (e9 : v9 = S.1 73 x4) (b9 : -2147483648 ≤ v9 ∧ v9 ≤ 2147483647) (v10 : Int) (e10 : v10 = fx_mul x1 v9) (c11 : x2 ≠ 0) (v11 : Int) (e11 : v11 = fx_rem v10 x2) (c12 : v8 ≤ v11) (v12 : Int) (e12 : v12 = fx_add x5 1) (z : Int) (Z : fx_S) (kz : fx_Sok Z) (bz : -2147483648 ≤ z ∧ z ≤ 2147483647) (pz : s359 S x1 x2 x3 x4 v12 z Z) : s359 S x1 x2 x3 x4 x5 z Z := by
  unfold s359 at pz
  unfold s359
  intro hB
  have BS := hB
  have NS := fx_WB_n BS
  have h12 := e12
  first | rw [fx_add_eq (by omega) (by omega)] at h12 | skip
  obtain ⟨rZ, fZ, BZ⟩ := pz BS
  refine ⟨rZ, ?_, BZ⟩
  · intro p i hW
    exact (fZ p i (by omega))
theorem q359_4 (S : fx_S) (x1 x2 x3 x4 x5 : Int) (hS : fx_Sok S) (g1 : -2147483648 ≤ x1 ∧ x1 ≤ 2147483647) (g2 : -2147483648 ≤ x2 ∧ x2 ≤ 2147483647) (g3 : -2147483648 ≤ x3 ∧ x3 ≤ 2147483647) (g4 : -2147483648 ≤ x4 ∧ x4 ≤ 2147483647) (g5 : -2147483648 ≤ x5 ∧ x5 ≤ 2147483647) (c1 : x5 < 4) (c2 : 0 ≤ x5) (c3 : x5 < 4) (v5 : Int) (e5 : v5 = S.1 75 x5) (b5 : 0 ≤ v5 ∧ v5 ≤ 1) (c4 : v5 = 0) (c5 : x4 ≠ (-1)) (c6 : 0 ≤ x5) (c7 : x5 < 4) (v6 : Int) (e6 : v6 = S.1 73 x5) (b6 : -2147483648 ≤ v6 ∧ v6 ≤ 2147483647) (v7 : Int) (e7 : v7 = fx_mul x1 v6) (c8 : x2 ≠ 0) (v8 : Int) (e8 : v8 = fx_rem v7 x2) (c9 : 0 ≤ x4) (c10 : x4 < 4) (v9 : Int) (e9 : v9 = S.1 73 x4) (b9 : -2147483648 ≤ v9 ∧ v9 ≤ 2147483647) (v10 : Int) (e10 : v10 = fx_mul x1 v9) (c11 : x2 ≠ 0) (v11 : Int) (e11 : v11 = fx_rem v10 x2) (c12 : v11 < v8) (v12 : Int) (e12 : v12 = fx_add x5 1) (z : Int) (Z : fx_S) (kz : fx_Sok Z) (bz : -2147483648 ≤ z ∧ z ≤ 2147483647) (pz : s359 S x1 x2 x3 x5 v12 z Z) : s359 S x1 x2 x3 x4 x5 z Z := by
  unfold s359 at pz
  unfold s359
  intro hB
  have BS := hB
  have NS := fx_WB_n BS
  have h12 := e12
  first | rw [fx_add_eq (by omega) (by omega)] at h12 | skip
  obtain ⟨rZ, fZ, BZ⟩ := pz BS
  refine ⟨rZ, ?_, BZ⟩
  · intro p i hW
    exact (fZ p i (by omega))
theorem q360_0 (S : fx_S) (x2 x3 x4 x5 x6 x7 x8 : Int) (hS : fx_Sok S) (g2 : -2147483648 ≤ x2 ∧ x2 ≤ 2147483647) (g3 : -2147483648 ≤ x3 ∧ x3 ≤ 2147483647) (g4 : -2147483648 ≤ x4 ∧ x4 ≤ 2147483647) (g5 : -2147483648 ≤ x5 ∧ x5 ≤ 2147483647) (g6 : -2147483648 ≤ x6 ∧ x6 ≤ 2147483647) (g7 : -2147483648 ≤ x7 ∧ x7 ≤ 2147483647) (g8 : -2147483648 ≤ x8 ∧ x8 ≤ 2147483647) (c1 : 4 ≤ x8) (c2 : x5 ≤ 0) (c3 : 0 = x2) (v7 : Int) (e7 : v7 = fx_add x4 1) (z : Int) (Z : fx_S) (kz : fx_Sok Z) (bz : -2147483648 ≤ z ∧ z ≤ 2147483647) (pz : s317 S x2 x3 v7 z Z) : s360 S x2 x3 x4 x5 x6 x7 x8 z Z := by
  obtain rfl : S = Z := pz
  exact rfl
theorem q360_1 (S : fx_S) (x2 x3 x4 x5 x6 x7 x8 : Int) (hS : fx_Sok S) (g2 : -2147483648 ≤ x2 ∧ x2 ≤ 2147483647) (g3 : -2147483648 ≤ x3 ∧ x3 ≤ 2147483647) (g4 : -2147483648 ≤ x4 ∧ x4 ≤ 2147483647) (g5 : -2147483648 ≤ x5 ∧ x5 ≤ 2147483647) (g6 : -2147483648 ≤ x6 ∧ x6 ≤ 2147483647) (g7 : -2147483648 ≤ x7 ∧ x7 ≤ 2147483647) (g8 : -2147483648 ≤ x8 ∧ x8 ≤ 2147483647) (c1 : 4 ≤ x8) (c2 : x5 ≤ 0) (c3 : 0 ≠ x2) (v7 : Int) (S1 : fx_S) (k1 : fx_Sok S1) (b7 : -2147483648 ≤ v7 ∧ v7 ≤ 2147483647) (p1 : s125 S x3 x6 v7 S1) (v8 : Int) (e8 : v8 = fx_add x4 1) (z : Int) (Z : fx_S) (kz : fx_Sok Z) (bz : -2147483648 ≤ z ∧ z ≤ 2147483647) (pz : s317 S1 x2 v7 v8 z Z) : s360 S x2 x3 x4 x5 x6 x7 x8 z Z := by
  obtain ⟨rfl, p1⟩ := p1
  obtain rfl : S = Z := pz
  exact rfl
theorem q360_2 (S : fx_S) (x2 x3 x4 x5 x6 x7 x8 : Int) (hS : fx_Sok S) (g2 : -2147483648 ≤ x2 ∧ x2 ≤ 2147483647) (g3 : -2147483648 ≤ x3 ∧ x3 ≤ 2147483647) (g4 : -2147483648 ≤ x4 ∧ x4 ≤ 2147483647) (g5 : -2147483648 ≤ x5 ∧ x5 ≤ 2147483647) (g6 : -2147483648 ≤ x6 ∧ x6 ≤ 2147483647) (g7 : -2147483648 ≤ x7 ∧ x7 ≤ 2147483647) (g8 : -2147483648 ≤ x8 ∧ x8 ≤ 2147483647) (c1 : 4 ≤ x8) (c2 : 0 < x5) (c3 : 1 = x2) (v7 : Int) (e7 : v7 = fx_add x4 1) (z : Int) (Z : fx_S) (kz : fx_Sok Z) (bz : -2147483648 ≤ z ∧ z ≤ 2147483647) (pz : s317 S x2 x3 v7 z Z) : s360 S x2 x3 x4 x5 x6 x7 x8 z Z := by
  obtain rfl : S = Z := pz
  exact rfl
theorem q360_3 (S : fx_S) (x2 x3 x4 x5 x6 x7 x8 : Int) (hS : fx_Sok S) (g2 : -2147483648 ≤ x2 ∧ x2 ≤ 2147483647) (g3 : -2147483648 ≤ x3 ∧ x3 ≤ 2147483647) (g4 : -2147483648 ≤ x4 ∧ x4 ≤ 2147483647) (g5 : -2147483648 ≤ x5 ∧ x5 ≤ 2147483647) (g6 : -2147483648 ≤ x6 ∧ x6 ≤ 2147483647) (g7 : -2147483648 ≤ x7 ∧ x7 ≤ 2147483647) (g8 : -2147483648 ≤ x8 ∧ x8 ≤ 2147483647) (c1 : 4 ≤ x8) (c2 : 0 < x5) (c3 : 1 ≠ x2) (v7 : Int) (S1 : fx_S) (k1 : fx_Sok S1) (b7 : -2147483648 ≤ v7 ∧ v7 ≤ 2147483647) (p1 : s125 S x3 x6 v7 S1) (v8 : Int) (e8 : v8 = fx_add x4 1) (z : Int) (Z : fx_S) (kz : fx_Sok Z) (bz : -2147483648 ≤ z ∧ z ≤ 2147483647) (pz : s317 S1 x2 v7 v8 z Z) : s360 S x2 x3 x4 x5 x6 x7 x8 z Z := by
  obtain ⟨rfl, p1⟩ := p1
  obtain rfl : S = Z := pz
  exact rfl
theorem q360_4 (S : fx_S) (x2 x3 x4 x5 x6 x7 x8 : Int) (hS : fx_Sok S) (g2 : -2147483648 ≤ x2 ∧ x2 ≤ 2147483647) (g3 : -2147483648 ≤ x3 ∧ x3 ≤ 2147483647) (g4 : -2147483648 ≤ x4 ∧ x4 ≤ 2147483647) (g5 : -2147483648 ≤ x5 ∧ x5 ≤ 2147483647) (g6 : -2147483648 ≤ x6 ∧ x6 ≤ 2147483647) (g7 : -2147483648 ≤ x7 ∧ x7 ≤ 2147483647) (g8 : -2147483648 ≤ x8 ∧ x8 ≤ 2147483647) (c1 : x8 < 4) (v7 : Int) (e7 : v7 = fx_rem x7 3) (v8 : Int) (e8 : v8 = fx_sub v7 1) (v9 : Int) (e9 : v9 = fx_add x5 v8) (v10 : Int) (e10 : v10 = fx_mul x8 3) (v11 : Int) (e11 : v11 = fx_rem x7 3) (v12 : Int) (e12 : v12 = fx_add v10 v11) (c2 : 0 ≤ v12) (c3 : v12 < 12) (v13 : Int) (e13 : v13 = S.1 37 v12) (b13 : -2147483648 ≤ v13 ∧ v13 ≤ 2147483647) (v14 : Int) (e14 : v14 = fx_add x6 v13) (v15 : Int) (e15 : v15 = fx_div x7 3) (v16 : Int) (e16 : v16 = fx_add x8 1) (z : Int) (Z : fx_S) (kz : fx_Sok Z) (bz : -2147483648 ≤ z ∧ z ≤ 2147483647) (pz : s360 S x2 x3 x4 v9 v14 v15 v16 z Z) : s360 S x2 x3 x4 x5 x6 x7 x8 z Z := by
  obtain rfl : S = Z := pz
  exact rfl
theorem q361_0 (S : fx_S) (x1 x2 x3 : Int) (hS : fx_Sok S) (g1 : -2147483648 ≤ x1 ∧ x1 ≤ 2147483647) (g2 : -2147483648 ≤ x2 ∧ x2 ≤ 2147483647) (g3 : -2147483648 ≤ x3 ∧ x3 ≤ 2147483647) (v3 : Int) (e3 : v3 = fx_mul x1 5) (v4 : Int) (e4 : v4 = fx_add v3 x2) (v5 : Int) (e5 : v5 = fx_mul x1 5) (v6 : Int) (e6 : v6 = fx_add v5 x2) (c1 : 0 ≤ v6) (c2 : v6 < 105) (v7 : Int) (e7 : v7 = S.1 35 v6) (b7 : -2147483648 ≤ v7 ∧ v7 ≤ 2147483647) (c3 : 0 ≤ v6) (c4 : v6 < 105) (v8 : Int) (e8 : v8 = S.1 36 v6) (b8 : -2147483648 ≤ v8 ∧ v8 ≤ 2147483647) (v9 : Int) (e9 : v9 = fx_sub v7 v8) (z : Int) (Z : fx_S) (kz : fx_Sok Z) (bz : -2147483648 ≤ z ∧ z ≤ 2147483647) (pz : s384 S x3 v4 v9 0 z Z) : s361 S x1 x2 x3 z Z := by
  obtain rfl : S = Z := pz
  exact rfl
theorem q362_0 (S : fx_S) (x1 x2 x3 : Int) (hS : fx_Sok S) (g1 : -2147483648 ≤ x1 ∧ x1 ≤ 2147483647) (g2 : -2147483648 ≤ x2 ∧ x2 ≤ 2147483647) (g3 : -2147483648 ≤ x3 ∧ x3 ≤ 2147483647) (c1 : 9 ≤ x3) (c2 : x2 < 1000000) : s362 S x1 x2 x3 x2 S := by
  exact rfl
theorem q362_1 (S : fx_S) (x1 x2 x3 : Int) (hS : fx_Sok S) (g1 : -2147483648 ≤ x1 ∧ x1 ≤ 2147483647) (g2 : -2147483648 ≤ x2 ∧ x2 ≤ 2147483647) (g3 : -2147483648 ≤ x3 ∧ x3 ≤ 2147483647) (c1 : 9 ≤ x3) (c2 : 1000000 ≤ x2) : s362 S x1 x2 x3 (-1) S := by
  exact rfl
theorem q362_2 (S : fx_S) (x1 x2 x3 : Int) (hS : fx_Sok S) (g1 : -2147483648 ≤ x1 ∧ x1 ≤ 2147483647) (g2 : -2147483648 ≤ x2 ∧ x2 ≤ 2147483647) (g3 : -2147483648 ≤ x3 ∧ x3 ≤ 2147483647) (c1 : x3 < 9) (c2 : x3 ≤ 4) (c3 : 0 = x1) (v3 : Int) (e3 : v3 = fx_add x3 1) (z : Int) (Z : fx_S) (kz : fx_Sok Z) (bz : -2147483648 ≤ z ∧ z ≤ 2147483647) (pz : s362 S x1 x2 v3 z Z) : s362 S x1 x2 x3 z Z := by
  obtain rfl : S = Z := pz
  exact rfl
theorem q362_3 (S : fx_S) (x1 x2 x3 : Int) (hS : fx_Sok S) (g1 : -2147483648 ≤ x1 ∧ x1 ≤ 2147483647) (g2 : -2147483648 ≤ x2 ∧ x2 ≤ 2147483647) (g3 : -2147483648 ≤ x3 ∧ x3 ≤ 2147483647) (c1 : x3 < 9) (c2 : x3 ≤ 4) (c3 : 0 ≠ x1) (c4 : 0 ≤ x3) (c5 : x3 < 9) (v3 : Int) (e3 : v3 = S.1 78 x3) (b3 : -2147483648 ≤ v3 ∧ v3 ≤ 2147483647) (v4 : Int) (S1 : fx_S) (k1 : fx_Sok S1) (b4 : -2147483648 ≤ v4 ∧ v4 ≤ 2147483647) (p1 : s125 S x2 v3 v4 S1) (v5 : Int) (e5 : v5 = fx_add x3 1) (z : Int) (Z : fx_S) (kz : fx_Sok Z) (bz : -2147483648 ≤ z ∧ z ≤ 2147483647) (pz : s362 S1 x1 v4 v5 z Z) : s362 S x1 x2 x3 z Z := by
  obtain ⟨rfl, p1⟩ := p1
  obtain rfl : S = Z := pz
  exact rfl
theorem q362_4 (S : fx_S) (x1 x2 x3 : Int) (hS : fx_Sok S) (g1 : -2147483648 ≤ x1 ∧ x1 ≤ 2147483647) (g2 : -2147483648 ≤ x2 ∧ x2 ≤ 2147483647) (g3 : -2147483648 ≤ x3 ∧ x3 ≤ 2147483647) (c1 : x3 < 9) (c2 : 4 < x3) (c3 : 1 = x1) (v3 : Int) (e3 : v3 = fx_add x3 1) (z : Int) (Z : fx_S) (kz : fx_Sok Z) (bz : -2147483648 ≤ z ∧ z ≤ 2147483647) (pz : s362 S x1 x2 v3 z Z) : s362 S x1 x2 x3 z Z := by
  obtain rfl : S = Z := pz
  exact rfl
theorem q362_5 (S : fx_S) (x1 x2 x3 : Int) (hS : fx_Sok S) (g1 : -2147483648 ≤ x1 ∧ x1 ≤ 2147483647) (g2 : -2147483648 ≤ x2 ∧ x2 ≤ 2147483647) (g3 : -2147483648 ≤ x3 ∧ x3 ≤ 2147483647) (c1 : x3 < 9) (c2 : 4 < x3) (c3 : 1 ≠ x1) (c4 : 0 ≤ x3) (c5 : x3 < 9) (v3 : Int) (e3 : v3 = S.1 78 x3) (b3 : -2147483648 ≤ v3 ∧ v3 ≤ 2147483647) (v4 : Int) (S1 : fx_S) (k1 : fx_Sok S1) (b4 : -2147483648 ≤ v4 ∧ v4 ≤ 2147483647) (p1 : s125 S x2 v3 v4 S1) (v5 : Int) (e5 : v5 = fx_add x3 1) (z : Int) (Z : fx_S) (kz : fx_Sok Z) (bz : -2147483648 ≤ z ∧ z ≤ 2147483647) (pz : s362 S1 x1 v4 v5 z Z) : s362 S x1 x2 x3 z Z := by
  obtain ⟨rfl, p1⟩ := p1
  obtain rfl : S = Z := pz
  exact rfl
theorem q363_0 (S : fx_S) (x1 x2 x3 : Int) (hS : fx_Sok S) (g1 : -2147483648 ≤ x1 ∧ x1 ≤ 2147483647) (g2 : -2147483648 ≤ x2 ∧ x2 ≤ 2147483647) (g3 : -2147483648 ≤ x3 ∧ x3 ≤ 2147483647) (c1 : 9 ≤ x3) (z : Int) (Z : fx_S) (kz : fx_Sok Z) (bz : -2147483648 ≤ z ∧ z ≤ 2147483647) (pz : s385 S x1 x2 0 z Z) : s363 S x1 x2 x3 z Z := by
  obtain ⟨rZ, fZ⟩ := pz
  refine ⟨rZ, ?_⟩
  · intro p i hW
    clear c1
    exact (fZ p i (by omega))
theorem q363_1 (S : fx_S) (x1 x2 x3 : Int) (hS : fx_Sok S) (g1 : -2147483648 ≤ x1 ∧ x1 ≤ 2147483647) (g2 : -2147483648 ≤ x2 ∧ x2 ≤ 2147483647) (g3 : -2147483648 ≤ x3 ∧ x3 ≤ 2147483647) (c1 : x3 < 9) (c2 : 0 ≤ x3) (c3 : x3 < 9) (S1 : fx_S) (d1 : S1 = (fx_up S.1 79 x3 1000000, S.2)) (v3 : Int) (e3 : v3 = fx_add x3 1) (z : Int) (Z : fx_S) (kz : fx_Sok Z) (bz : -2147483648 ≤ z ∧ z ≤ 2147483647) (pz : s363 S1 x1 x2 v3 z Z) : s363 S x1 x2 x3 z Z := by
  obtain ⟨rZ, fZ⟩ := pz
  refine ⟨(rZ).trans ((show S1.2 = S.2 by rw [d1])), ?_⟩
  · intro p i hW
    clear e3 c3 c2 c1
    exact ((fZ p i (by omega))).trans ((show S1.1 p i = S.1 p i by rw [d1]; exact if_neg (by omega)))
theorem q364_0 (S : fx_S) (x1 x2 x3 : Int) (hS : fx_Sok S) (g1 : -2147483648 ≤ x1 ∧ x1 ≤ 2147483647) (g2 : -2147483648 ≤ x2 ∧ x2 ≤ 2147483647) (g3 : -2147483648 ≤ x3 ∧ x3 ≤ 2147483647) (v3 : Int) (e3 : v3 = S.1 67 4) (b3 : -2147483648 ≤ v3 ∧ v3 ≤ 2147483647) (c1 : v3 ≤ x3) (z : Int) (Z : fx_S) (kz : fx_Sok Z) (bz : -2147483648 ≤ z ∧ z ≤ 2147483647) (pz : s266 S x1 x2 z Z) : s364 S x1 x2 x3 z Z := by
  unfold s266 at pz
  unfold s364
  intro hB hP
  have BS := hB
  have NS := fx_WB_n BS
  obtain ⟨rZ, fZ, BZ⟩ := pz BS
  refine ⟨rZ, ?_, BZ⟩
  · intro p i hW
    exact (fZ p i (by omega))
theorem q364_1 (S : fx_S) (x1 x2 x3 : Int) (hS : fx_Sok S) (g1 : -2147483648 ≤ x1 ∧ x1 ≤ 2147483647) (g2 : -2147483648 ≤ x2 ∧ x2 ≤ 2147483647) (g3 : -2147483648 ≤ x3 ∧ x3 ≤ 2147483647) (v3 : Int) (e3 : v3 = S.1 67 4) (b3 : -2147483648 ≤ v3 ∧ v3 ≤ 2147483647) (c1 : x3 < v3) (v4 : Int) (e4 : v4 = fx_mul 170 x3) (v5 : Int) (e5 : v5 = fx_add 3700 v4) (v6 : Int) (e6 : v6 = fx_add v5 4) (c2 : 0 ≤ v6) (c3 : v6 < 8090) (v7 : Int) (e7 : v7 = S.1 67 v6) (b7 : -2147483648 ≤ v7 ∧ v7 ≤ 2147483647) (v8 : Int) (e8 : v8 = S.1 67 4) (b8 : -2147483648 ≤ v8 ∧ v8 ≤ 2147483647) (v9 : Int) (e9 : v9 = fx_sub v8 1) (v10 : Int) (S1 : fx_S) (k1 : fx_Sok S1) (b10 : -2147483648 ≤ v10 ∧ v10 ≤ 2147483647) (p1 : s113 S x3 0 v9 v10 S1) (c4 : v10 = 0) (v11 : Int) (e11 : v11 = fx_add x3 1) (z : Int) (Z : fx_S) (kz : fx_Sok Z) (bz : -2147483648 ≤ z ∧ z ≤ 2147483647) (pz : s364 S1 x1 x2 v11 z Z) : s364 S x1 x2 x3 z Z := by
  obtain ⟨rfl, p1⟩ := p1
  unfold s364 at pz
  unfold s364
  intro hB hP
  have BS := hB
  have NS := fx_WB_n BS
  have h4 := e4
  first | rw [fx_mul_eq (by omega) (by omega)] at h4 | skip
  have h5 := e5
  first | rw [fx_add_eq (by omega) (by omega)] at h5 | skip
  have h6 := e6
  first | rw [fx_add_eq (by omega) (by omega)] at h6 | skip
  obtain rfl : v3 = v8 := by rw [e8, e3]
  have h9 := e9
  first | rw [fx_sub_eq (by omega) (by omega)] at h9 | skip
  have m1 := fx_in01 p1
  have h11 := e11
  first | rw [fx_add_eq (by omega) (by omega)] at h11 | skip
  obtain ⟨rZ, fZ, BZ⟩ := pz BS (by omega)
  refine ⟨rZ, ?_, BZ⟩
  · intro p i hW
    exact (fZ p i (by omega))
theorem q364_2 (S : fx_S) (x1 x2 x3 : Int) (hS : fx_Sok S) (g1 : -2147483648 ≤ x1 ∧ x1 ≤ 2147483647) (g2 : -2147483648 ≤ x2 ∧ x2 ≤ 2147483647) (g3 : -2147483648 ≤ x3 ∧ x3 ≤ 2147483647) (v3 : Int) (e3 : v3 = S.1 67 4) (b3 : -2147483648 ≤ v3 ∧ v3 ≤ 2147483647) (c1 : x3 < v3) (v4 : Int) (e4 : v4 = fx_mul 170 x3) (v5 : Int) (e5 : v5 = fx_add 3700 v4) (v6 : Int) (e6 : v6 = fx_add v5 4) (c2 : 0 ≤ v6) (c3 : v6 < 8090) (v7 : Int) (e7 : v7 = S.1 67 v6) (b7 : -2147483648 ≤ v7 ∧ v7 ≤ 2147483647) (v8 : Int) (e8 : v8 = S.1 67 4) (b8 : -2147483648 ≤ v8 ∧ v8 ≤ 2147483647) (v9 : Int) (e9 : v9 = fx_sub v8 1) (v10 : Int) (S1 : fx_S) (k1 : fx_Sok S1) (b10 : -2147483648 ≤ v10 ∧ v10 ≤ 2147483647) (p1 : s113 S x3 0 v9 v10 S1) (c4 : v10 ≠ 0) (v11 : Int) (e11 : v11 = fx_mul 170 x3) (v12 : Int) (e12 : v12 = fx_add 3700 v11) (v13 : Int) (e13 : v13 = fx_add v12 1) (c5 : 0 ≤ v13) (c6 : v13 < 8090) (v14 : Int) (e14 : v14 = S1.1 67 v13) (b14 : -2147483648 ≤ v14 ∧ v14 ≤ 2147483647) (c7 : v14 ≠ 0) (v15 : Int) (e15 : v15 = fx_add x3 1) (z : Int) (Z : fx_S) (kz : fx_Sok Z) (bz : -2147483648 ≤ z ∧ z ≤ 2147483647) (pz : s364 S1 x1 x2 v15 z Z) : s364 S x1 x2 x3 z Z := by
  obtain ⟨rfl, p1⟩ := p1
  unfold s364 at pz
  unfold s364
  intro hB hP
  have BS := hB
  have NS := fx_WB_n BS
  have h4 := e4
  first | rw [fx_mul_eq (by omega) (by omega)] at h4 | skip
  have h5 := e5
  first | rw [fx_add_eq (by omega) (by omega)] at h5 | skip
  have h6 := e6
  first | rw [fx_add_eq (by omega) (by omega)] at h6 | skip
  obtain rfl : v3 = v8 := by rw [e8, e3]
  have h9 := e9
  first | rw [fx_sub_eq (by omega) (by omega)] at h9 | skip
  have m1 := fx_in01 p1
  obtain rfl : v4 = v11 := by rw [e11, e4]
  obtain rfl : v5 = v12 := by rw [e12, e5]
  have h13 := e13
  first | rw [fx_add_eq (by omega) (by omega)] at h13 | skip
  have h15 := e15
  first | rw [fx_add_eq (by omega) (by omega)] at h15 | skip
  obtain ⟨rZ, fZ, BZ⟩ := pz BS (by omega)
  refine ⟨rZ, ?_, BZ⟩
  · intro p i hW
    exact (fZ p i (by omega))
theorem q364_3 (S : fx_S) (x1 x2 x3 : Int) (hS : fx_Sok S) (g1 : -2147483648 ≤ x1 ∧ x1 ≤ 2147483647) (g2 : -2147483648 ≤ x2 ∧ x2 ≤ 2147483647) (g3 : -2147483648 ≤ x3 ∧ x3 ≤ 2147483647) (v3 : Int) (e3 : v3 = S.1 67 4) (b3 : -2147483648 ≤ v3 ∧ v3 ≤ 2147483647) (c1 : x3 < v3) (v4 : Int) (e4 : v4 = fx_mul 170 x3) (v5 : Int) (e5 : v5 = fx_add 3700 v4) (v6 : Int) (e6 : v6 = fx_add v5 4) (c2 : 0 ≤ v6) (c3 : v6 < 8090) (v7 : Int) (e7 : v7 = S.1 67 v6) (b7 : -2147483648 ≤ v7 ∧ v7 ≤ 2147483647) (v8 : Int) (e8 : v8 = S.1 67 4) (b8 : -2147483648 ≤ v8 ∧ v8 ≤ 2147483647) (v9 : Int) (e9 : v9 = fx_sub v8 1) (v10 : Int) (S1 : fx_S) (k1 : fx_Sok S1) (b10 : -2147483648 ≤ v10 ∧ v10 ≤ 2147483647) (p1 : s113 S x3 0 v9 v10 S1) (c4 : v10 ≠ 0) (v11 : Int) (e11 : v11 = fx_mul 170 x3) (v12 : Int) (e12 : v12 = fx_add 3700 v11) (v13 : Int) (e13 : v13 = fx_add v12 1) (c5 : 0 ≤ v13) (c6 : v13 < 8090) (v14 : Int) (e14 : v14 = S1.1 67 v13) (b14 : -2147483648 ≤ v14 ∧ v14 ≤ 2147483647) (c7 : v14 = 0) (v15 : Int) (e15 : v15 = fx_mul 170 x3) (v16 : Int) (e16 : v16 = fx_add 3700 v15) (v17 : Int) (e17 : v17 = fx_add v16 5) (c8 : 0 ≤ v17) (c9 : v17 < 8090) (v18 : Int) (e18 : v18 = S1.1 67 v17) (b18 : -2147483648 ≤ v18 ∧ v18 ≤ 2147483647) (c10 : v18 ≠ (-1)) (v19 : Int) (e19 : v19 = fx_add x3 1) (z : Int) (Z : fx_S) (kz : fx_Sok Z) (bz : -2147483648 ≤ z ∧ z ≤ 2147483647) (pz : s364 S1 x1 x2 v19 z Z) : s364 S x1 x2 x3 z Z := by
  obtain ⟨rfl, p1⟩ := p1
  unfold s364 at pz
  unfold s364
  intro hB hP
  have BS := hB
  have NS := fx_WB_n BS
  have h4 := e4
  first | rw [fx_mul_eq (by omega) (by omega)] at h4 | skip
  have h5 := e5
  first | rw [fx_add_eq (by omega) (by omega)] at h5 | skip
  have h6 := e6
  first | rw [fx_add_eq (by omega) (by omega)] at h6 | skip
  obtain rfl : v3 = v8 := by rw [e8, e3]
  have h9 := e9
  first | rw [fx_sub_eq (by omega) (by omega)] at h9 | skip
  have m1 := fx_in01 p1
  obtain rfl : v4 = v11 := by rw [e11, e4]
  obtain rfl : v5 = v12 := by rw [e12, e5]
  have h13 := e13
  first | rw [fx_add_eq (by omega) (by omega)] at h13 | skip
  obtain rfl : v4 = v15 := by rw [e15, e4]
  obtain rfl : v5 = v16 := by rw [e16, e5]
  have h17 := e17
  first | rw [fx_add_eq (by omega) (by omega)] at h17 | skip
  have h19 := e19
  first | rw [fx_add_eq (by omega) (by omega)] at h19 | skip
  obtain ⟨rZ, fZ, BZ⟩ := pz BS (by omega)
  refine ⟨rZ, ?_, BZ⟩
  · intro p i hW
    exact (fZ p i (by omega))
theorem q364_4 (S : fx_S) (x1 x2 x3 : Int) (hS : fx_Sok S) (g1 : -2147483648 ≤ x1 ∧ x1 ≤ 2147483647) (g2 : -2147483648 ≤ x2 ∧ x2 ≤ 2147483647) (g3 : -2147483648 ≤ x3 ∧ x3 ≤ 2147483647) (v3 : Int) (e3 : v3 = S.1 67 4) (b3 : -2147483648 ≤ v3 ∧ v3 ≤ 2147483647) (c1 : x3 < v3) (v4 : Int) (e4 : v4 = fx_mul 170 x3) (v5 : Int) (e5 : v5 = fx_add 3700 v4) (v6 : Int) (e6 : v6 = fx_add v5 4) (c2 : 0 ≤ v6) (c3 : v6 < 8090) (v7 : Int) (e7 : v7 = S.1 67 v6) (b7 : -2147483648 ≤ v7 ∧ v7 ≤ 2147483647) (v8 : Int) (e8 : v8 = S.1 67 4) (b8 : -2147483648 ≤ v8 ∧ v8 ≤ 2147483647) (v9 : Int) (e9 : v9 = fx_sub v8 1) (v10 : Int) (S1 : fx_S) (k1 : fx_Sok S1) (b10 : -2147483648 ≤ v10 ∧ v10 ≤ 2147483647) (p1 : s113 S x3 0 v9 v10 S1) (c4 : v10 ≠ 0) (v11 : Int) (e11 : v11 = fx_mul 170 x3) (v12 : Int) (e12 : v12 = fx_add 3700 v11) (v13 : Int) (e13 : v13 = fx_add v12 1) (c5 : 0 ≤ v13) (c6 : v13 < 8090) (v14 : Int) (e14 : v14 = S1.1 67 v13) (b14 : -2147483648 ≤ v14 ∧ v14 ≤ 2147483647) (c7 : v14 = 0) (v15 : Int) (e15 : v15 = fx_mul 170 x3) (v16 : Int) (e16 : v16 = fx_add 3700 v15) (v17 : Int) (e17 : v17 = fx_add v16 5) (c8 : 0 ≤ v17) (c9 : v17 < 8090) (v18 : Int) (e18 : v18 = S1.1 67 v17) (b18 : -2147483648 ≤ v18 ∧ v18 ≤ 2147483647) (c10 : v18 = (-1)) (c11 : v7 = (-1)) (v19 : Int) (e19 : v19 = fx_add x3 1) (z : Int) (Z : fx_S) (kz : fx_Sok Z) (bz : -2147483648 ≤ z ∧ z ≤ 2147483647) (pz : s364 S1 x1 x2 v19 z Z) : s364 S x1 x2 x3 z Z := by
  obtain ⟨rfl, p1⟩ := p1
  unfold s364 at pz
  unfold s364
  intro hB hP
  have BS := hB
  have NS := fx_WB_n BS
  have h4 := e4
  first | rw [fx_mul_eq (by omega) (by omega)] at h4 | skip
  have h5 := e5
  first | rw [fx_add_eq (by omega) (by omega)] at h5 | skip
  have h6 := e6
  first | rw [fx_add_eq (by omega) (by omega)] at h6 | skip
  obtain rfl : v3 = v8 := by rw [e8, e3]
  have h9 := e9
  first | rw [fx_sub_eq (by omega) (by omega)] at h9 | skip
  have m1 := fx_in01 p1
  obtain rfl : v4 = v11 := by rw [e11, e4]
  obtain rfl : v5 = v12 := by rw [e12, e5]
  have h13 := e13
  first | rw [fx_add_eq (by omega) (by omega)] at h13 | skip
  obtain rfl : v4 = v15 := by rw [e15, e4]
  obtain rfl : v5 = v16 := by rw [e16, e5]
  have h17 := e17
  first | rw [fx_add_eq (by omega) (by omega)] at h17 | skip
  have h19 := e19
  first | rw [fx_add_eq (by omega) (by omega)] at h19 | skip
  obtain ⟨rZ, fZ, BZ⟩ := pz BS (by omega)
  refine ⟨rZ, ?_, BZ⟩
  · intro p i hW
    exact (fZ p i (by omega))
theorem q364_5 (S : fx_S) (x1 x2 x3 : Int) (hS : fx_Sok S) (g1 : -2147483648 ≤ x1 ∧ x1 ≤ 2147483647) (g2 : -2147483648 ≤ x2 ∧ x2 ≤ 2147483647) (g3 : -2147483648 ≤ x3 ∧ x3 ≤ 2147483647) (v3 : Int) (e3 : v3 = S.1 67 4) (b3 : -2147483648 ≤ v3 ∧ v3 ≤ 2147483647) (c1 : x3 < v3) (v4 : Int) (e4 : v4 = fx_mul 170 x3) (v5 : Int) (e5 : v5 = fx_add 3700 v4) (v6 : Int) (e6 : v6 = fx_add v5 4) (c2 : 0 ≤ v6) (c3 : v6 < 8090) (v7 : Int) (e7 : v7 = S.1 67 v6) (b7 : -2147483648 ≤ v7 ∧ v7 ≤ 2147483647) (v8 : Int) (e8 : v8 = S.1 67 4) (b8 : -2147483648 ≤ v8 ∧ v8 ≤ 2147483647) (v9 : Int) (e9 : v9 = fx_sub v8 1) (v10 : Int) (S1 : fx_S) (k1 : fx_Sok S1) (b10 : -2147483648 ≤ v10 ∧ v10 ≤ 2147483647) (p1 : s113 S x3 0 v9 v10 S1) (c4 : v10 ≠ 0) (v11 : Int) (e11 : v11 = fx_mul 170 x3) (v12 : Int) (e12 : v12 = fx_add 3700 v11) (v13 : Int) (e13 : v13 = fx_add v12 1) (c5 : 0 ≤ v13) (c6 : v13 < 8090) (v14 : Int) (e14 : v14 = S1.1 67 v13) (b14 : -2147483648 ≤ v14 ∧ v14 ≤ 2147483647) (c7 : v14 = 0) (v15 : Int) (e15 : v15 = fx_mul 170 x3) (v16 : Int) (e16 : v16 = fx_add 3700 v15) (v17 : Int) (e17 : v17 = fx_add v16 5) (c8 : 0 ≤ v17) (c9 : v17 < 8090) (v18 : Int) (e18 : v18 = S1.1 67 v17) (b18 : -2147483648 ≤ v18 ∧ v18 ≤ 2147483647) (c10 : v18 = (-1)) (c11 : v7 ≠ (-1)) (v19 : Int) (e19 : v19 = fx_mul 260 v7) (v20 : Int) (e20 : v20 = fx_add 1100 v19) (v21 : Int) (e21 : v21 = fx_add v20 2) (c12 : 0 ≤ v21) (c13 : v21 < 8090) (v22 : Int) (e22 : v22 = S1.1 67 v21) (b22 : -2147483648 ≤ v22 ∧ v22 ≤ 2147483647) (c14 : v22 ≠ (-1)) (v23 : Int) (e23 : v23 = fx_mul 170 x3) (v24 : Int) (e24 : v24 = fx_add 3700 v23) (v25 : Int) (e25 : v25 = fx_add v24 5) (v26 : Int) (e26 : v26 = S1.1 67 0) (b26 : -2147483648 ≤ v26 ∧ v26 ≤ 2147483647) (c15 : 0 ≤ v25) (c16 : v25 < 8090) (S2 : fx_S) (d2 : S2 = (fx_up S1.1 67 v25 v26, S1.2)) (v27 : Int) (e27 : v27 = fx_add x1 1) (v28 : Int) (e28 : v28 = fx_add x3 1) (z : Int) (Z : fx_S) (kz : fx_Sok Z) (bz : -2147483648 ≤ z ∧ z ≤ 2147483647) (pz : s364 S2 v27 1 v28 z Z) : s364 S x1 x2 x3 z Z := by
  obtain ⟨rfl, p1⟩ := p1
  unfold s364 at pz
  unfold s364
  intro hB hP
  have BS := hB
  have NS := fx_WB_n BS
  have h4 := e4
  first | rw [fx_mul_eq (by omega) (by omega)] at h4 | skip
  have h5 := e5
  first | rw [fx_add_eq (by omega) (by omega)] at h5 | skip
  have h6 := e6
  first | rw [fx_add_eq (by omega) (by omega)] at h6 | skip
  obtain rfl : v3 = v8 := by rw [e8, e3]
  have h9 := e9
  first | rw [fx_sub_eq (by omega) (by omega)] at h9 | skip
  have m1 := fx_in01 p1
  obtain rfl : v4 = v11 := by rw [e11, e4]
  obtain rfl : v5 = v12 := by rw [e12, e5]
  have h13 := e13
  first | rw [fx_add_eq (by omega) (by omega)] at h13 | skip
  obtain rfl : v4 = v15 := by rw [e15, e4]
  obtain rfl : v5 = v16 := by rw [e16, e5]
  have h17 := e17
  first | rw [fx_add_eq (by omega) (by omega)] at h17 | skip
  have h19 := e19
  first | rw [fx_mul_eq (by omega) (by omega)] at h19 | skip
  have h20 := e20
  first | rw [fx_add_eq (by omega) (by omega)] at h20 | skip
  have h21 := e21
  first | rw [fx_add_eq (by omega) (by omega)] at h21 | skip
  obtain rfl : v4 = v23 := by rw [e23, e4]
  obtain rfl : v5 = v24 := by rw [e24, e5]
  obtain rfl : v17 = v25 := by rw [e25, e17]
  have BS2 : fx_WB S2 := by rw [d2]; exact fx_WB_up BS (by omega) (by omega) (by omega) (by omega) (by omega) (by omega) (by omega) (by omega) (by omega) (by omega) (by omega) (fun h => absurd h (by omega))
  have h27 := e27
  first | rw [fx_add_eq (by omega) (by omega)] at h27 | skip
  have h28 := e28
  first | rw [fx_add_eq (by omega) (by omega)] at h28 | skip
  obtain ⟨rZ, fZ, BZ⟩ := pz BS2 (by omega)
  refine ⟨(rZ).trans ((show S2.2 = S.2 by rw [d2])), ?_, BZ⟩
  · intro p i hW
    exact ((fZ p i (by omega))).trans ((show S2.1 p i = S.1 p i by rw [d2]; exact if_neg (by omega)))
theorem q364_6 (S : fx_S) (x1 x2 x3 : Int) (hS : fx_Sok S) (g1 : -2147483648 ≤ x1 ∧ x1 ≤ 2147483647) (g2 : -2147483648 ≤ x2 ∧ x2 ≤ 2147483647) (g3 : -2147483648 ≤ x3 ∧ x3 ≤ 2147483647) (v3 : Int) (e3 : v3 = S.1 67 4) (b3 : -2147483648 ≤ v3 ∧ v3 ≤ 2147483647) (c1 : x3 < v3) (v4 : Int) (e4 : v4 = fx_mul 170 x3) (v5 : Int) (e5 : v5 = fx_add 3700 v4) (v6 : Int) (e6 : v6 = fx_add v5 4) (c2 : 0 ≤ v6) (c3 : v6 < 8090) (v7 : Int) (e7 : v7 = S.1 67 v6) (b7 : -2147483648 ≤ v7 ∧ v7 ≤ 2147483647) (v8 : Int) (e8 : v8 = S.1 67 4) (b8 : -2147483648 ≤ v8 ∧ v8 ≤ 2147483647) (v9 : Int) (e9 : v9 = fx_sub v8 1) (v10 : Int) (S1 : fx_S) (k1 : fx_Sok S1) (b10 : -2147483648 ≤ v10 ∧ v10 ≤ 2147483647) (p1 : s113 S x3 0 v9 v10 S1) (c4 : v10 ≠ 0) (v11 : Int) (e11 : v11 = fx_mul 170 x3) (v12 : Int) (e12 : v12 = fx_add 3700 v11) (v13 : Int) (e13 : v13 = fx_add v12 1) (c5 : 0 ≤ v13) (c6 : v13 < 8090) (v14 : Int) (e14 : v14 = S1.1 67 v13) (b14 : -2147483648 ≤ v14 ∧ v14 ≤ 2147483647) (c7 : v14 = 0) (v15 : Int) (e15 : v15 = fx_mul 170 x3) (v16 : Int) (e16 : v16 = fx_add 3700 v15) (v17 : Int) (e17 : v17 = fx_add v16 5) (c8 : 0 ≤ v17) (c9 : v17 < 8090) (v18 : Int) (e18 : v18 = S1.1 67 v17) (b18 : -2147483648 ≤ v18 ∧ v18 ≤ 2147483647) (c10 : v18 = (-1)) (c11 : v7 ≠ (-1)) (v19 : Int) (e19 : v19 = fx_mul 260 v7) (v20 : Int) (e20 : v20 = fx_add 1100 v19) (v21 : Int) (e21 : v21 = fx_add v20 2) (c12 : 0 ≤ v21) (c13 : v21 < 8090) (v22 : Int) (e22 : v22 = S1.1 67 v21) (b22 : -2147483648 ≤ v22 ∧ v22 ≤ 2147483647) (c14 : v22 = (-1)) (v23 : Int) (e23 : v23 = fx_add x3 1) (z : Int) (Z : fx_S) (kz : fx_Sok Z) (bz : -2147483648 ≤ z ∧ z ≤ 2147483647) (pz : s364 S1 x1 x2 v23 z Z) : s364 S x1 x2 x3 z Z := by
  obtain ⟨rfl, p1⟩ := p1
  unfold s364 at pz
  unfold s364
  intro hB hP
  have BS := hB
  have NS := fx_WB_n BS
  have h4 := e4
  first | rw [fx_mul_eq (by omega) (by omega)] at h4 | skip
  have h5 := e5
  first | rw [fx_add_eq (by omega) (by omega)] at h5 | skip
  have h6 := e6
  first | rw [fx_add_eq (by omega) (by omega)] at h6 | skip
  obtain rfl : v3 = v8 := by rw [e8, e3]
  have h9 := e9
  first | rw [fx_sub_eq (by omega) (by omega)] at h9 | skip
  have m1 := fx_in01 p1
  obtain rfl : v4 = v11 := by rw [e11, e4]
  obtain rfl : v5 = v12 := by rw [e12, e5]
  have h13 := e13
  first | rw [fx_add_eq (by omega) (by omega)] at h13 | skip
  obtain rfl : v4 = v15 := by rw [e15, e4]
  obtain rfl : v5 = v16 := by rw [e16, e5]
  have h17 := e17
  first | rw [fx_add_eq (by omega) (by omega)] at h17 | skip
  have h19 := e19
  first | rw [fx_mul_eq (by omega) (by omega)] at h19 | skip
  have h20 := e20
  first | rw [fx_add_eq (by omega) (by omega)] at h20 | skip
  have h21 := e21
  first | rw [fx_add_eq (by omega) (by omega)] at h21 | skip
  have h23 := e23
  first | rw [fx_add_eq (by omega) (by omega)] at h23 | skip
  obtain ⟨rZ, fZ, BZ⟩ := pz BS (by omega)
  refine ⟨rZ, ?_, BZ⟩
  · intro p i hW
    exact (fZ p i (by omega))
theorem q365_0 (S : fx_S) (x1 x2 x3 : Int) (hS : fx_Sok S) (g1 : -2147483648 ≤ x1 ∧ x1 ≤ 2147483647) (g2 : -2147483648 ≤ x2 ∧ x2 ≤ 2147483647) (g3 : -2147483648 ≤ x3 ∧ x3 ≤ 2147483647) (v3 : Int) (e3 : v3 = S.1 13 0) (b3 : -2147483648 ≤ v3 ∧ v3 ≤ 2147483647) (c1 : v3 ≤ x3) : s365 S x1 x2 x3 x2 S := by
  exact rfl
theorem q365_1 (S : fx_S) (x1 x2 x3 : Int) (hS : fx_Sok S) (g1 : -2147483648 ≤ x1 ∧ x1 ≤ 2147483647) (g2 : -2147483648 ≤ x2 ∧ x2 ≤ 2147483647) (g3 : -2147483648 ≤ x3 ∧ x3 ≤ 2147483647) (v3 : Int) (e3 : v3 = S.1 13 0) (b3 : -2147483648 ≤ v3 ∧ v3 ≤ 2147483647) (c1 : x3 < v3) (c2 : 0 ≤ x3) (c3 : x3 < 80) (v4 : Int) (e4 : v4 = S.1 16 x3) (b4 : -2147483648 ≤ v4 ∧ v4 ≤ 2147483647) (c4 : v4 ≤ x1) (c5 : 0 ≤ x3) (c6 : x3 < 80) (v5 : Int) (e5 : v5 = S.1 17 x3) (b5 : -2147483648 ≤ v5 ∧ v5 ≤ 2147483647) (c7 : v5 ≤ x1) (v6 : Int) (e6 : v6 = fx_add x3 1) (z : Int) (Z : fx_S) (kz : fx_Sok Z) (bz : -2147483648 ≤ z ∧ z ≤ 2147483647) (pz : s365 S x1 x2 v6 z Z) : s365 S x1 x2 x3 z Z := by
  obtain rfl : S = Z := pz
  exact rfl
theorem q365_2 (S : fx_S) (x1 x2 x3 : Int) (hS : fx_Sok S) (g1 : -2147483648 ≤ x1 ∧ x1 ≤ 2147483647) (g2 : -2147483648 ≤ x2 ∧ x2 ≤ 2147483647) (g3 : -2147483648 ≤ x3 ∧ x3 ≤ 2147483647) (v3 : Int) (e3 : v3 = S.1 13 0) (b3 : -2147483648 ≤ v3 ∧ v3 ≤ 2147483647) (c1 : x3 < v3) (c2 : 0 ≤ x3) (c3 : x3 < 80) (v4 : Int) (e4 : v4 = S.1 16 x3) (b4 : -2147483648 ≤ v4 ∧ v4 ≤ 2147483647) (c4 : v4 ≤ x1) (c5 : 0 ≤ x3) (c6 : x3 < 80) (v5 : Int) (e5 : v5 = S.1 17 x3) (b5 : -2147483648 ≤ v5 ∧ v5 ≤ 2147483647) (c7 : x1 < v5) (c8 : 0 ≤ x3) (c9 : x3 < 80) (v6 : Int) (e6 : v6 = S.1 17 x3) (b6 : -2147483648 ≤ v6 ∧ v6 ≤ 2147483647) (v7 : Int) (S1 : fx_S) (k1 : fx_Sok S1) (b7 : -2147483648 ≤ v7 ∧ v7 ≤ 2147483647) (p1 : s125 S x2 v6 v7 S1) (v8 : Int) (e8 : v8 = fx_add x3 1) (z : Int) (Z : fx_S) (kz : fx_Sok Z) (bz : -2147483648 ≤ z ∧ z ≤ 2147483647) (pz : s365 S1 x1 v7 v8 z Z) : s365 S x1 x2 x3 z Z := by
  obtain ⟨rfl, p1⟩ := p1
  obtain rfl : S = Z := pz
  exact rfl
theorem q365_3 (S : fx_S) (x1 x2 x3 : Int) (hS : fx_Sok S) (g1 : -2147483648 ≤ x1 ∧ x1 ≤ 2147483647) (g2 : -2147483648 ≤ x2 ∧ x2 ≤ 2147483647) (g3 : -2147483648 ≤ x3 ∧ x3 ≤ 2147483647) (v3 : Int) (e3 : v3 = S.1 13 0) (b3 : -2147483648 ≤ v3 ∧ v3 ≤ 2147483647) (c1 : x3 < v3) (c2 : 0 ≤ x3) (c3 : x3 < 80) (v4 : Int) (e4 : v4 = S.1 16 x3) (b4 : -2147483648 ≤ v4 ∧ v4 ≤ 2147483647) (c4 : x1 < v4) (c5 : 0 ≤ x3) (c6 : x3 < 80) (v5 : Int) (e5 : v5 = S.1 16 x3) (b5 : -2147483648 ≤ v5 ∧ v5 ≤ 2147483647) (v6 : Int) (S1 : fx_S) (k1 : fx_Sok S1) (b6 : -2147483648 ≤ v6 ∧ v6 ≤ 2147483647) (p1 : s125 S x2 v5 v6 S1) (c7 : 0 ≤ x3) (c8 : x3 < 80) (v7 : Int) (e7 : v7 = S1.1 17 x3) (b7 : -2147483648 ≤ v7 ∧ v7 ≤ 2147483647) (c9 : v7 ≤ x1) (v8 : Int) (e8 : v8 = fx_add x3 1) (z : Int) (Z : fx_S) (kz : fx_Sok Z) (bz : -2147483648 ≤ z ∧ z ≤ 2147483647) (pz : s365 S1 x1 v6 v8 z Z) : s365 S x1 x2 x3 z Z := by
  obtain ⟨rfl, p1⟩ := p1
  obtain rfl : S = Z := pz
  exact rfl
theorem q365_4 (S : fx_S) (x1 x2 x3 : Int) (hS : fx_Sok S) (g1 : -2147483648 ≤ x1 ∧ x1 ≤ 2147483647) (g2 : -2147483648 ≤ x2 ∧ x2 ≤ 2147483647) (g3 : -2147483648 ≤ x3 ∧ x3 ≤ 2147483647) (v3 : Int) (e3 : v3 = S.1 13 0) (b3 : -2147483648 ≤ v3 ∧ v3 ≤ 2147483647) (c1 : x3 < v3) (c2 : 0 ≤ x3) (c3 : x3 < 80) (v4 : Int) (e4 : v4 = S.1 16 x3) (b4 : -2147483648 ≤ v4 ∧ v4 ≤ 2147483647) (c4 : x1 < v4) (c5 : 0 ≤ x3) (c6 : x3 < 80) (v5 : Int) (e5 : v5 = S.1 16 x3) (b5 : -2147483648 ≤ v5 ∧ v5 ≤ 2147483647) (v6 : Int) (S1 : fx_S) (k1 : fx_Sok S1) (b6 : -2147483648 ≤ v6 ∧ v6 ≤ 2147483647) (p1 : s125 S x2 v5 v6 S1) (c7 : 0 ≤ x3) (c8 : x3 < 80) (v7 : Int) (e7 : v7 = S1.1 17 x3) (b7 : -2147483648 ≤ v7 ∧ v7 ≤ 2147483647) (c9 : x1 < v7) (c10 : 0 ≤ x3) (c11 : x3 < 80) (v8 : Int) (e8 : v8 = S1.1 17 x3) (b8 : -2147483648 ≤ v8 ∧ v8 ≤ 2147483647) (v9 : Int) (S2 : fx_S) (k2 : fx_Sok S2) (b9 : -2147483648 ≤ v9 ∧ v9 ≤ 2147483647) (p2 : s125 S1 v6 v8 v9 S2) (v10 : Int) (e10 : v10 = fx_add x3 1) (z : Int) (Z : fx_S) (kz : fx_Sok Z) (bz : -2147483648 ≤ z ∧ z ≤ 2147483647) (pz : s365 S2 x1 v9 v10 z Z) : s365 S x1 x2 x3 z Z := by
  obtain ⟨rfl, p1⟩ := p1
  obtain ⟨rfl, p2⟩ := p2
  obtain rfl : S = Z := pz
  exact rfl
theorem q366_0 (S : fx_S) (x1 x2 x3 : Int) (hS : fx_Sok S) (g1 : -2147483648 ≤ x1 ∧ x1 ≤ 2147483647) (g2 : -2147483648 ≤ x2 ∧ x2 ≤ 2147483647) (g3 : -2147483648 ≤ x3 ∧ x3 ≤ 2147483647) (v3 : Int) (e3 : v3 = S.1 2 8) (b3 : -2147483648 ≤ v3 ∧ v3 ≤ 2147483647) (c1 : v3 ≤ x3) : s366 S x1 x2 x3 x2 S := by
  exact rfl
theorem q366_1 (S : fx_S) (x1 x2 x3 : Int) (hS : fx_Sok S) (g1 : -2147483648 ≤ x1 ∧ x1 ≤ 2147483647) (g2 : -2147483648 ≤ x2 ∧ x2 ≤ 2147483647) (g3 : -2147483648 ≤ x3 ∧ x3 ≤ 2147483647) (v3 : Int) (e3 : v3 = S.1 2 8) (b3 : -2147483648 ≤ v3 ∧ v3 ≤ 2147483647) (c1 : x3 < v3) (c2 : 0 ≤ x3) (c3 : x3 < 10) (v4 : Int) (e4 : v4 = S.1 10 x3) (b4 : -2147483648 ≤ v4 ∧ v4 ≤ 2147483647) (c4 : v4 ≤ x1) (v5 : Int) (e5 : v5 = fx_add x3 1) (z : Int) (Z : fx_S) (kz : fx_Sok Z) (bz : -2147483648 ≤ z ∧ z ≤ 2147483647) (pz : s366 S x1 x2 v5 z Z) : s366 S x1 x2 x3 z Z := by
  obtain rfl : S = Z := pz
  exact rfl
theorem q366_2 (S : fx_S) (x1 x2 x3 : Int) (hS : fx_Sok S) (g1 : -2147483648 ≤ x1 ∧ x1 ≤ 2147483647) (g2 : -2147483648 ≤ x2 ∧ x2 ≤ 2147483647) (g3 : -2147483648 ≤ x3 ∧ x3 ≤ 2147483647) (v3 : Int) (e3 : v3 = S.1 2 8) (b3 : -2147483648 ≤ v3 ∧ v3 ≤ 2147483647) (c1 : x3 < v3) (c2 : 0 ≤ x3) (c3 : x3 < 10) (v4 : Int) (e4 : v4 = S.1 10 x3) (b4 : -2147483648 ≤ v4 ∧ v4 ≤ 2147483647) (c4 : x1 < v4) (c5 : 0 ≤ x3) (c6 : x3 < 10) (v5 : Int) (e5 : v5 = S.1 10 x3) (b5 : -2147483648 ≤ v5 ∧ v5 ≤ 2147483647) (v6 : Int) (S1 : fx_S) (k1 : fx_Sok S1) (b6 : -2147483648 ≤ v6 ∧ v6 ≤ 2147483647) (p1 : s125 S x2 v5 v6 S1) (v7 : Int) (e7 : v7 = fx_add x3 1) (z : Int) (Z : fx_S) (kz : fx_Sok Z) (bz : -2147483648 ≤ z ∧ z ≤ 2147483647) (pz : s366 S1 x1 v6 v7 z Z) : s366 S x1 x2 x3 z Z := by
  obtain ⟨rfl, p1⟩ := p1
  obtain rfl : S = Z := pz
  exact rfl
theorem q367_0 (S : fx_S) (x1 : Int) (hS : fx_Sok S) (g1 : -2147483648 ≤ x1 ∧ x1 ≤ 2147483647) (z : Int) (Z : fx_S) (kz : fx_Sok Z) (bz : -2147483648 ≤ z ∧ z ≤ 2147483647) (pz : s386 S x1 0 z Z) : s367 S x1 z Z := by
  obtain ⟨rZ, fZ⟩ := pz
  refine ⟨rZ, ?_⟩
  · intro p i hW
    exact (fZ p i (by omega))
theorem q368_0 (S : fx_S) (x1 x2 x3 : Int) (hS : fx_Sok S) (g1 : -2147483648 ≤ x1 ∧ x1 ≤ 2147483647) (g2 : -2147483648 ≤ x2 ∧ x2 ≤ 2147483647) (g3 : -2147483648 ≤ x3 ∧ x3 ≤ 2147483647) (v3 : Int) (e3 : v3 = S.1 67 2) (b3 : -2147483648 ≤ v3 ∧ v3 ≤ 2147483647) (c1 : v3 ≤ x3) (v4 : Int) (e4 : v4 = fx_add x2 (-1)) (z : Int) (Z : fx_S) (kz : fx_Sok Z) (bz : -2147483648 ≤ z ∧ z ≤ 2147483647) (pz : s328 S x1 v4 z Z) : s368 S x1 x2 x3 z Z := by
  obtain ⟨rZ, fZ⟩ := pz
  refine ⟨rZ, ?_⟩
  · intro p i hW
    clear e4 c1 b3 e3
    exact (fZ p i (by omega))
