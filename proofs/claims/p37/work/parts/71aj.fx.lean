/-! FX: what is to be shown of the entries -/
theorem q89_1 (S : fx_S) (x1 x2 x3 x4 : Int) (hS : fx_Sok S) (g1 : -2147483648 ≤ x1 ∧ x1 ≤ 2147483647) (g2 : -2147483648 ≤ x2 ∧ x2 ≤ 2147483647) (g3 : -2147483648 ≤ x3 ∧ x3 ≤ 2147483647) (g4 : -2147483648 ≤ x4 ∧ x4 ≤ 2147483647) (v4 : Int) (S1 : fx_S) (k1 : fx_Sok S1) (b4 : -2147483648 ≤ v4 ∧ v4 ≤ 2147483647) (p1 : s114 S x1 0 1 v4 S1) (c1 : v4 ≠ 0) (v5 : Int) (S2 : fx_S) (k2 : fx_Sok S2) (b5 : -2147483648 ≤ v5 ∧ v5 ≤ 2147483647) (p2 : s114 S1 x2 0 999 v5 S2) (c2 : v5 = 0) : s89 S x1 x2 x3 x4 (-2) S2 := by
  obtain ⟨rfl, p1⟩ := p1
  obtain ⟨rfl, p2⟩ := p2
  refine ⟨rfl, ?_⟩
  · intro p i hW
    clear c2 b5 c1 b4
    exact rfl
theorem q89_2 (S : fx_S) (x1 x2 x3 x4 : Int) (hS : fx_Sok S) (g1 : -2147483648 ≤ x1 ∧ x1 ≤ 2147483647) (g2 : -2147483648 ≤ x2 ∧ x2 ≤ 2147483647) (g3 : -2147483648 ≤ x3 ∧ x3 ≤ 2147483647) (g4 : -2147483648 ≤ x4 ∧ x4 ≤ 2147483647) (v4 : Int) (S1 : fx_S) (k1 : fx_Sok S1) (b4 : -2147483648 ≤ v4 ∧ v4 ≤ 2147483647) (p1 : s114 S x1 0 1 v4 S1) (c1 : v4 ≠ 0) (v5 : Int) (S2 : fx_S) (k2 : fx_Sok S2) (b5 : -2147483648 ≤ v5 ∧ v5 ≤ 2147483647) (p2 : s114 S1 x2 0 999 v5 S2) (c2 : v5 ≠ 0) (v6 : Int) (S3 : fx_S) (k3 : fx_Sok S3) (b6 : -2147483648 ≤ v6 ∧ v6 ≤ 2147483647) (p3 : s114 S2 x3 0 99 v6 S3) (c3 : v6 = 0) : s89 S x1 x2 x3 x4 (-2) S3 := by
  obtain ⟨rfl, p1⟩ := p1
  obtain ⟨rfl, p2⟩ := p2
  obtain ⟨rfl, p3⟩ := p3
  refine ⟨rfl, ?_⟩
  · intro p i hW
    clear c3 b6 c2 b5 c1 b4
    exact rfl
theorem q89_3 (S : fx_S) (x1 x2 x3 x4 : Int) (hS : fx_Sok S) (g1 : -2147483648 ≤ x1 ∧ x1 ≤ 2147483647) (g2 : -2147483648 ≤ x2 ∧ x2 ≤ 2147483647) (g3 : -2147483648 ≤ x3 ∧ x3 ≤ 2147483647) (g4 : -2147483648 ≤ x4 ∧ x4 ≤ 2147483647) (v4 : Int) (S1 : fx_S) (k1 : fx_Sok S1) (b4 : -2147483648 ≤ v4 ∧ v4 ≤ 2147483647) (p1 : s114 S x1 0 1 v4 S1) (c1 : v4 ≠ 0) (v5 : Int) (S2 : fx_S) (k2 : fx_Sok S2) (b5 : -2147483648 ≤ v5 ∧ v5 ≤ 2147483647) (p2 : s114 S1 x2 0 999 v5 S2) (c2 : v5 ≠ 0) (v6 : Int) (S3 : fx_S) (k3 : fx_Sok S3) (b6 : -2147483648 ≤ v6 ∧ v6 ≤ 2147483647) (p3 : s114 S2 x3 0 99 v6 S3) (c3 : v6 ≠ 0) (v7 : Int) (S4 : fx_S) (k4 : fx_Sok S4) (b7 : -2147483648 ≤ v7 ∧ v7 ≤ 2147483647) (p4 : s114 S3 x4 0 9 v7 S4) (c4 : v7 ≠ 0) (v8 : Int) (S5 : fx_S) (k5 : fx_Sok S5) (b8 : -2147483648 ≤ v8 ∧ v8 ≤ 2147483647) (p5 : s200 S4 x1 x2 x3 x4 v8 S5) : s89 S x1 x2 x3 x4 v8 S5 := by
  obtain ⟨rfl, p1⟩ := p1
  obtain ⟨rfl, p2⟩ := p2
  obtain ⟨rfl, p3⟩ := p3
  obtain ⟨rfl, p4⟩ := p4
  obtain ⟨r5, f5⟩ := p5
  refine ⟨r5, ?_⟩
  · intro p i hW
    clear b8 c4 b7 c3 b6 c2 b5 c1 b4
    exact (f5 p i (by omega))
theorem q89_4 (S : fx_S) (x1 x2 x3 x4 : Int) (hS : fx_Sok S) (g1 : -2147483648 ≤ x1 ∧ x1 ≤ 2147483647) (g2 : -2147483648 ≤ x2 ∧ x2 ≤ 2147483647) (g3 : -2147483648 ≤ x3 ∧ x3 ≤ 2147483647) (g4 : -2147483648 ≤ x4 ∧ x4 ≤ 2147483647) (v4 : Int) (S1 : fx_S) (k1 : fx_Sok S1) (b4 : -2147483648 ≤ v4 ∧ v4 ≤ 2147483647) (p1 : s114 S x1 0 1 v4 S1) (c1 : v4 ≠ 0) (v5 : Int) (S2 : fx_S) (k2 : fx_Sok S2) (b5 : -2147483648 ≤ v5 ∧ v5 ≤ 2147483647) (p2 : s114 S1 x2 0 999 v5 S2) (c2 : v5 ≠ 0) (v6 : Int) (S3 : fx_S) (k3 : fx_Sok S3) (b6 : -2147483648 ≤ v6 ∧ v6 ≤ 2147483647) (p3 : s114 S2 x3 0 99 v6 S3) (c3 : v6 ≠ 0) (v7 : Int) (S4 : fx_S) (k4 : fx_Sok S4) (b7 : -2147483648 ≤ v7 ∧ v7 ≤ 2147483647) (p4 : s114 S3 x4 0 9 v7 S4) (c4 : v7 = 0) : s89 S x1 x2 x3 x4 (-2) S4 := by
  obtain ⟨rfl, p1⟩ := p1
  obtain ⟨rfl, p2⟩ := p2
  obtain ⟨rfl, p3⟩ := p3
  obtain ⟨rfl, p4⟩ := p4
  refine ⟨rfl, ?_⟩
  · intro p i hW
    clear c4 b7 c3 b6 c2 b5 c1 b4
    exact rfl
theorem q90_0 (S : fx_S) (x1 x2 x3 x4 : Int) (hS : fx_Sok S) (g1 : -2147483648 ≤ x1 ∧ x1 ≤ 2147483647) (g2 : -2147483648 ≤ x2 ∧ x2 ≤ 2147483647) (g3 : -2147483648 ≤ x3 ∧ x3 ≤ 2147483647) (g4 : -2147483648 ≤ x4 ∧ x4 ≤ 2147483647) (v4 : Int) (S1 : fx_S) (k1 : fx_Sok S1) (b4 : -2147483648 ≤ v4 ∧ v4 ≤ 2147483647) (p1 : s113 S x1 0 1 v4 S1) (c1 : v4 = 0) : s90 S x1 x2 x3 x4 (-2) S1 := by
  obtain ⟨rfl, p1⟩ := p1
  unfold s90
  intro hB
  have BS := hB
  have NS := fx_WB_n BS
  have m1 := fx_in01 p1
  refine ⟨rfl, ?_, BS⟩
  · intro p i hW
    exact rfl
theorem q90_1 (S : fx_S) (x1 x2 x3 x4 : Int) (hS : fx_Sok S) (g1 : -2147483648 ≤ x1 ∧ x1 ≤ 2147483647) (g2 : -2147483648 ≤ x2 ∧ x2 ≤ 2147483647) (g3 : -2147483648 ≤ x3 ∧ x3 ≤ 2147483647) (g4 : -2147483648 ≤ x4 ∧ x4 ≤ 2147483647) (v4 : Int) (S1 : fx_S) (k1 : fx_Sok S1) (b4 : -2147483648 ≤ v4 ∧ v4 ≤ 2147483647) (p1 : s113 S x1 0 1 v4 S1) (c1 : v4 ≠ 0) (v5 : Int) (S2 : fx_S) (k2 : fx_Sok S2) (b5 : -2147483648 ≤ v5 ∧ v5 ≤ 2147483647) (p2 : s113 S1 x2 0 999 v5 S2) (c2 : v5 = 0) : s90 S x1 x2 x3 x4 (-2) S2 := by
  obtain ⟨rfl, p1⟩ := p1
  obtain ⟨rfl, p2⟩ := p2
  unfold s90
  intro hB
  have BS := hB
  have NS := fx_WB_n BS
  have m1 := fx_in01 p1
  have m2 := fx_in01 p2
  refine ⟨rfl, ?_, BS⟩
  · intro p i hW
    exact rfl
theorem q90_2 (S : fx_S) (x1 x2 x3 x4 : Int) (hS : fx_Sok S) (g1 : -2147483648 ≤ x1 ∧ x1 ≤ 2147483647) (g2 : -2147483648 ≤ x2 ∧ x2 ≤ 2147483647) (g3 : -2147483648 ≤ x3 ∧ x3 ≤ 2147483647) (g4 : -2147483648 ≤ x4 ∧ x4 ≤ 2147483647) (v4 : Int) (S1 : fx_S) (k1 : fx_Sok S1) (b4 : -2147483648 ≤ v4 ∧ v4 ≤ 2147483647) (p1 : s113 S x1 0 1 v4 S1) (c1 : v4 ≠ 0) (v5 : Int) (S2 : fx_S) (k2 : fx_Sok S2) (b5 : -2147483648 ≤ v5 ∧ v5 ≤ 2147483647) (p2 : s113 S1 x2 0 999 v5 S2) (c2 : v5 ≠ 0) (v6 : Int) (S3 : fx_S) (k3 : fx_Sok S3) (b6 : -2147483648 ≤ v6 ∧ v6 ≤ 2147483647) (p3 : s113 S2 x3 0 99 v6 S3) (c3 : v6 = 0) : s90 S x1 x2 x3 x4 (-2) S3 := by
  obtain ⟨rfl, p1⟩ := p1
  obtain ⟨rfl, p2⟩ := p2
  obtain ⟨rfl, p3⟩ := p3
  unfold s90
  intro hB
  have BS := hB
  have NS := fx_WB_n BS
  have m1 := fx_in01 p1
  have m2 := fx_in01 p2
  have m3 := fx_in01 p3
  refine ⟨rfl, ?_, BS⟩
  · intro p i hW
    exact rfl
theorem q90_3 (S : fx_S) (x1 x2 x3 x4 : Int) (hS : fx_Sok S) (g1 : -2147483648 ≤ x1 ∧ x1 ≤ 2147483647) (g2 : -2147483648 ≤ x2 ∧ x2 ≤ 2147483647) (g3 : -2147483648 ≤ x3 ∧ x3 ≤ 2147483647) (g4 : -2147483648 ≤ x4 ∧ x4 ≤ 2147483647) (v4 : Int) (S1 : fx_S) (k1 : fx_Sok S1) (b4 : -2147483648 ≤ v4 ∧ v4 ≤ 2147483647) (p1 : s113 S x1 0 1 v4 S1) (c1 : v4 ≠ 0) (v5 : Int) (S2 : fx_S) (k2 : fx_Sok S2) (b5 : -2147483648 ≤ v5 ∧ v5 ≤ 2147483647) (p2 : s113 S1 x2 0 999 v5 S2) (c2 : v5 ≠ 0) (v6 : Int) (S3 : fx_S) (k3 : fx_Sok S3) (b6 : -2147483648 ≤ v6 ∧ v6 ≤ 2147483647) (p3 : s113 S2 x3 0 99 v6 S3) (c3 : v6 ≠ 0) (v7 : Int) (S4 : fx_S) (k4 : fx_Sok S4) (b7 : -2147483648 ≤ v7 ∧ v7 ≤ 2147483647) (p4 : s113 S3 x4 0 9 v7 S4) (c4 : v7 ≠ 0) (v8 : Int) (e8 : v8 = fx_add 10 x1) (c5 : 0 ≤ v8) (c6 : v8 < 8090) (v9 : Int) (e9 : v9 = S4.1 67 v8) (b9 : -2147483648 ≤ v9 ∧ v9 ≤ 2147483647) (c7 : v9 ≠ 7) (v10 : Int) (e10 : v10 = fx_mul 21 x1) (v11 : Int) (e11 : v11 = fx_add 8048 v10) (v12 : Int) (e12 : v12 = fx_mul 3 v9) (v13 : Int) (e13 : v13 = fx_add v11 v12) (c8 : 0 ≤ v13) (c9 : v13 < 8090) (S5 : fx_S) (d5 : S5 = (fx_up S4.1 67 v13 x2, S4.2)) (v14 : Int) (e14 : v14 = fx_add v13 1) (c10 : 0 ≤ v14) (c11 : v14 < 8090) (S6 : fx_S) (d6 : S6 = (fx_up S5.1 67 v14 x3, S5.2)) (v15 : Int) (e15 : v15 = fx_add v13 2) (c12 : 0 ≤ v15) (c13 : v15 < 8090) (S7 : fx_S) (d7 : S7 = (fx_up S6.1 67 v15 x4, S6.2)) (v16 : Int) (e16 : v16 = fx_add 10 x1) (c14 : 0 ≤ v16) (c15 : v16 < 8090) (v17 : Int) (e17 : v17 = S7.1 67 v16) (b17 : -2147483648 ≤ v17 ∧ v17 ≤ 2147483647) (v18 : Int) (e18 : v18 = fx_add v17 1) (c16 : 0 ≤ v16) (c17 : v16 < 8090) (S8 : fx_S) (d8 : S8 = (fx_up S7.1 67 v16 v18, S7.2)) (v19 : Int) (e19 : v19 = fx_add v9 1) : s90 S x1 x2 x3 x4 v19 S8 := by
  obtain ⟨rfl, p1⟩ := p1
  obtain ⟨rfl, p2⟩ := p2
  obtain ⟨rfl, p3⟩ := p3
  obtain ⟨rfl, p4⟩ := p4
  unfold s90
  intro hB
  have M := fx_in01 p1
  have hv9 : 0 ≤ v9 ∧ v9 ≤ 7 := by
    have N := fx_WB_n hB
    have f8 := e8
    rw [fx_add_eq (by omega) (by omega)] at f8
    rw [e9]
    by_cases hx : x1 = 0
    · rw [show v8 = 10 by omega]; omega
    · rw [show v8 = 11 by omega]; omega
  have BS := hB
  have NS := fx_WB_n BS
  have m1 := fx_in01 p1
  have m2 := fx_in01 p2
  have m3 := fx_in01 p3
  have m4 := fx_in01 p4
  have h8 := e8
  first | rw [fx_add_eq (by omega) (by omega)] at h8 | skip
  have h10 := e10
  first | rw [fx_mul_eq (by omega) (by omega)] at h10 | skip
  have h11 := e11
  first | rw [fx_add_eq (by omega) (by omega)] at h11 | skip
  have h12 := e12
  first | rw [fx_mul_eq (by omega) (by omega)] at h12 | skip
  have h13 := e13
  first | rw [fx_add_eq (by omega) (by omega)] at h13 | skip
  have BS5 : fx_WB S5 := by rw [d5]; exact fx_WB_up BS (by omega) (by omega) (by omega) (by omega) (by omega) (by omega) (by omega) (by omega) (by omega) (by omega) (by omega) (fun h => absurd h (by omega))
  have h14 := e14
  first | rw [fx_add_eq (by omega) (by omega)] at h14 | skip
  have BS6 : fx_WB S6 := by rw [d6]; exact fx_WB_up BS5 (by omega) (by omega) (by omega) (by omega) (by omega) (by omega) (by omega) (by omega) (by omega) (by omega) (by omega) (fun h => absurd h (by omega))
  have h15 := e15
  first | rw [fx_add_eq (by omega) (by omega)] at h15 | skip
  have BS7 : fx_WB S7 := by rw [d7]; exact fx_WB_up BS6 (by omega) (by omega) (by omega) (by omega) (by omega) (by omega) (by omega) (by omega) (by omega) (by omega) (by omega) (fun h => absurd h (by omega))
  obtain rfl : v8 = v16 := by rw [e16, e8]
  have t17_7 : S7.1 67 v8 = S6.1 67 v8 := by rw [d7]; first | exact if_neg (by omega) | rfl
  rw [t17_7] at e17
  have t17_6 : S6.1 67 v8 = S5.1 67 v8 := by rw [d6]; first | exact if_neg (by omega) | rfl
  rw [t17_6] at e17
  have t17_5 : S5.1 67 v8 = S.1 67 v8 := by rw [d5]; first | exact if_neg (by omega) | rfl
  rw [t17_5] at e17
  obtain rfl : v9 = v17 := by rw [e17, e9]
  have h18 := e18
  first | rw [fx_add_eq (by omega) (by omega)] at h18 | skip
  have BS8 : fx_WB S8 := by rw [d8]; exact fx_WB_up BS7 (by omega) (by omega) (by omega) (by omega) (by omega) (by omega) (by omega) (by omega) (by omega) (by omega) (by omega) (fun h => absurd h (by omega))
  obtain rfl : v18 = v19 := by rw [e19, e18]
  refine ⟨((show S8.2 = S7.2 by rw [d8])).trans (((show S7.2 = S6.2 by rw [d7])).trans (((show S6.2 = S5.2 by rw [d6])).trans ((show S5.2 = S.2 by rw [d5])))), ?_, BS8⟩
  · intro p i hW
    exact ((show S8.1 p i = S7.1 p i by rw [d8]; exact if_neg (by omega))).trans (((show S7.1 p i = S6.1 p i by rw [d7]; exact if_neg (by omega))).trans (((show S6.1 p i = S5.1 p i by rw [d6]; exact if_neg (by omega))).trans ((show S5.1 p i = S.1 p i by rw [d5]; exact if_neg (by omega)))))
theorem q90_4 (S : fx_S) (x1 x2 x3 x4 : Int) (hS : fx_Sok S) (g1 : -2147483648 ≤ x1 ∧ x1 ≤ 2147483647) (g2 : -2147483648 ≤ x2 ∧ x2 ≤ 2147483647) (g3 : -2147483648 ≤ x3 ∧ x3 ≤ 2147483647) (g4 : -2147483648 ≤ x4 ∧ x4 ≤ 2147483647) (v4 : Int) (S1 : fx_S) (k1 : fx_Sok S1) (b4 : -2147483648 ≤ v4 ∧ v4 ≤ 2147483647) (p1 : s113 S x1 0 1 v4 S1) (c1 : v4 ≠ 0) (v5 : Int) (S2 : fx_S) (k2 : fx_Sok S2) (b5 : -2147483648 ≤ v5 ∧ v5 ≤ 2147483647) (p2 : s113 S1 x2 0 999 v5 S2) (c2 : v5 ≠ 0) (v6 : Int) (S3 : fx_S) (k3 : fx_Sok S3) (b6 : -2147483648 ≤ v6 ∧ v6 ≤ 2147483647) (p3 : s113 S2 x3 0 99 v6 S3) (c3 : v6 ≠ 0) (v7 : Int) (S4 : fx_S) (k4 : fx_Sok S4) (b7 : -2147483648 ≤ v7 ∧ v7 ≤ 2147483647) (p4 : s113 S3 x4 0 9 v7 S4) (c4 : v7 ≠ 0) (v8 : Int) (e8 : v8 = fx_add 10 x1) (c5 : 0 ≤ v8) (c6 : v8 < 8090) (v9 : Int) (e9 : v9 = S4.1 67 v8) (b9 : -2147483648 ≤ v9 ∧ v9 ≤ 2147483647) (c7 : v9 = 7) : s90 S x1 x2 x3 x4 (-3) S4 := by
  obtain ⟨rfl, p1⟩ := p1
  obtain ⟨rfl, p2⟩ := p2
  obtain ⟨rfl, p3⟩ := p3
  obtain ⟨rfl, p4⟩ := p4
  unfold s90
  intro hB
  have BS := hB
  have NS := fx_WB_n BS
  have m1 := fx_in01 p1
  have m2 := fx_in01 p2
  have m3 := fx_in01 p3
  have m4 := fx_in01 p4
  have h8 := e8
  first | rw [fx_add_eq (by omega) (by omega)] at h8 | skip
  refine ⟨rfl, ?_, BS⟩
  · intro p i hW
    exact rfl
theorem q90_5 (S : fx_S) (x1 x2 x3 x4 : Int) (hS : fx_Sok S) (g1 : -2147483648 ≤ x1 ∧ x1 ≤ 2147483647) (g2 : -2147483648 ≤ x2 ∧ x2 ≤ 2147483647) (g3 : -2147483648 ≤ x3 ∧ x3 ≤ 2147483647) (g4 : -2147483648 ≤ x4 ∧ x4 ≤ 2147483647) (v4 : Int) (S1 : fx_S) (k1 : fx_Sok S1) (b4 : -2147483648 ≤ v4 ∧ v4 ≤ 2147483647) (p1 : s113 S x1 0 1 v4 S1) (c1 : v4 ≠ 0) (v5 : Int) (S2 : fx_S) (k2 : fx_Sok S2) (b5 : -2147483648 ≤ v5 ∧ v5 ≤ 2147483647) (p2 : s113 S1 x2 0 999 v5 S2) (c2 : v5 ≠ 0) (v6 : Int) (S3 : fx_S) (k3 : fx_Sok S3) (b6 : -2147483648 ≤ v6 ∧ v6 ≤ 2147483647) (p3 : s113 S2 x3 0 99 v6 S3) (c3 : v6 ≠ 0) (v7 : Int) (S4 : fx_S) (k4 : fx_Sok S4) (b7 : -2147483648 ≤ v7 ∧ v7 ≤ 2147483647) (p4 : s113 S3 x4 0 9 v7 S4) (c4 : v7 = 0) : s90 S x1 x2 x3 x4 (-2) S4 := by
  obtain ⟨rfl, p1⟩ := p1
  obtain ⟨rfl, p2⟩ := p2
  obtain ⟨rfl, p3⟩ := p3
  obtain ⟨rfl, p4⟩ := p4
  unfold s90
  intro hB
  have BS := hB
  have NS := fx_WB_n BS
  have m1 := fx_in01 p1
  have m2 := fx_in01 p2
  have m3 := fx_in01 p3
  have m4 := fx_in01 p4
  refine ⟨rfl, ?_, BS⟩
  · intro p i hW
    exact rfl
theorem q91_0 (S : fx_S) (hS : fx_Sok S) (v0 : Int) (S1 : fx_S) (k1 : fx_Sok S1) (b0 : -2147483648 ≤ v0 ∧ v0 ≤ 2147483647) (p1 : s201 S  v0 S1) : s91 S  v0 S1 := by
  obtain ⟨r1, f1⟩ := p1
  refine ⟨r1, ?_⟩
  · intro p i hW
    clear b0
    exact (f1 p i (by omega))
theorem q92_0 (S : fx_S) (hS : fx_Sok S) (S1 : fx_S) (d1 : S1 = (fx_up S.1 66 33 (-1), S.2)) (S2 : fx_S) (d2 : S2 = (fx_up S1.1 66 34 0, S1.2)) (v0 : Int) (S3 : fx_S) (k3 : fx_Sok S3) (b0 : v0 = 0) (p3 : s202 S2 0 0 0 v0 S3) (v1 : Int) (e1 : v1 = S3.1 67 10) (b1 : -2147483648 ≤ v1 ∧ v1 ≤ 2147483647) (S4 : fx_S) (d4 : S4 = (fx_up S3.1 66 35 v1, S3.2)) (v2 : Int) (e2 : v2 = S4.1 66 33) (b2 : -2147483648 ≤ v2 ∧ v2 ≤ 2147483647) : s92 S  v2 S4 := by
  obtain ⟨r3, f3⟩ := p3
  refine ⟨((show S4.2 = S3.2 by rw [d4])).trans ((r3).trans (((show S2.2 = S1.2 by rw [d2])).trans ((show S1.2 = S.2 by rw [d1])))), ?_⟩
  · intro p i hW
    clear b2 e2 b1 e1 b0
    exact ((show S4.1 p i = S3.1 p i by rw [d4]; exact if_neg (by omega))).trans (((f3 p i (by omega))).trans (((show S2.1 p i = S1.1 p i by rw [d2]; exact if_neg (by omega))).trans ((show S1.1 p i = S.1 p i by rw [d1]; exact if_neg (by omega)))))
theorem q93_0 (S : fx_S) (x1 : Int) (hS : fx_Sok S) (g1 : -2147483648 ≤ x1 ∧ x1 ≤ 2147483647) (v1 : Int) (S1 : fx_S) (k1 : fx_Sok S1) (b1 : -2147483648 ≤ v1 ∧ v1 ≤ 2147483647) (p1 : s114 S x1 0 6 v1 S1) (c1 : v1 = 0) : s93 S x1 (-1) S1 := by
  obtain ⟨rfl, p1⟩ := p1
  exact rfl
theorem q93_1 (S : fx_S) (x1 : Int) (hS : fx_Sok S) (g1 : -2147483648 ≤ x1 ∧ x1 ≤ 2147483647) (v1 : Int) (S1 : fx_S) (k1 : fx_Sok S1) (b1 : -2147483648 ≤ v1 ∧ v1 ≤ 2147483647) (p1 : s114 S x1 0 6 v1 S1) (c1 : v1 ≠ 0) (c2 : 0 ≤ x1) (c3 : x1 < 7) (v2 : Int) (e2 : v2 = S1.1 57 x1) (b2 : -2147483648 ≤ v2 ∧ v2 ≤ 2147483647) : s93 S x1 v2 S1 := by
  obtain ⟨rfl, p1⟩ := p1
  exact rfl
theorem q94_0 (S : fx_S) (x1 : Int) (hS : fx_Sok S) (g1 : -2147483648 ≤ x1 ∧ x1 ≤ 2147483647) (v1 : Int) (e1 : v1 = S.1 66 35) (b1 : -2147483648 ≤ v1 ∧ v1 ≤ 2147483647) (v2 : Int) (e2 : v2 = fx_sub v1 1) (v3 : Int) (S1 : fx_S) (k1 : fx_Sok S1) (b3 : -2147483648 ≤ v3 ∧ v3 ≤ 2147483647) (p1 : s113 S x1 0 v2 v3 S1) (c1 : v3 = 0) : s94 S x1 (-1) S1 := by
  obtain ⟨rfl, p1⟩ := p1
  exact rfl
theorem q94_1 (S : fx_S) (x1 : Int) (hS : fx_Sok S) (g1 : -2147483648 ≤ x1 ∧ x1 ≤ 2147483647) (v1 : Int) (e1 : v1 = S.1 66 35) (b1 : -2147483648 ≤ v1 ∧ v1 ≤ 2147483647) (v2 : Int) (e2 : v2 = fx_sub v1 1) (v3 : Int) (S1 : fx_S) (k1 : fx_Sok S1) (b3 : -2147483648 ≤ v3 ∧ v3 ≤ 2147483647) (p1 : s113 S x1 0 v2 v3 S1) (c1 : v3 ≠ 0) (c2 : 0 ≤ x1) (c3 : x1 < 7) (v4 : Int) (e4 : v4 = S1.1 86 x1) (b4 : -2147483648 ≤ v4 ∧ v4 ≤ 2147483647) : s94 S x1 v4 S1 := by
  obtain ⟨rfl, p1⟩ := p1
  exact rfl
theorem q95_0 (S : fx_S) (hS : fx_Sok S) (v0 : Int) (e0 : v0 = S.1 56 1) (b0 : -2147483648 ≤ v0 ∧ v0 ≤ 2147483647) : s95 S  v0 S := by
  exact rfl
theorem q96_0 (S : fx_S) (hS : fx_Sok S) (v0 : Int) (e0 : v0 = S.1 66 34) (b0 : -2147483648 ≤ v0 ∧ v0 ≤ 2147483647) : s96 S  v0 S := by
  exact rfl
theorem q97_0 (S : fx_S) (x1 : Int) (hS : fx_Sok S) (g1 : -2147483648 ≤ x1 ∧ x1 ≤ 2147483647) (c1 : x1 < 0) : s97 S x1 (-1) S := by
  exact rfl
theorem q97_1 (S : fx_S) (x1 : Int) (hS : fx_Sok S) (g1 : -2147483648 ≤ x1 ∧ x1 ≤ 2147483647) (c1 : 13 < x1) : s97 S x1 (-1) S := by
  exact rfl
theorem q97_2 (S : fx_S) (x1 : Int) (hS : fx_Sok S) (g1 : -2147483648 ≤ x1 ∧ x1 ≤ 2147483647) (c1 : x1 = 0) (v1 : Int) (e1 : v1 = S.1 1 0) (b1 : -2147483648 ≤ v1 ∧ v1 ≤ 2147483647) : s97 S x1 v1 S := by
  exact rfl
theorem q97_3 (S : fx_S) (x1 : Int) (hS : fx_Sok S) (g1 : -2147483648 ≤ x1 ∧ x1 ≤ 2147483647) (c1 : x1 = 1) (v1 : Int) (e1 : v1 = S.1 2 0) (b1 : -2147483648 ≤ v1 ∧ v1 ≤ 2147483647) : s97 S x1 v1 S := by
  exact rfl
theorem q97_4 (S : fx_S) (x1 : Int) (hS : fx_Sok S) (g1 : -2147483648 ≤ x1 ∧ x1 ≤ 2147483647) (c1 : x1 = 2) (v1 : Int) (e1 : v1 = S.1 13 0) (b1 : -2147483648 ≤ v1 ∧ v1 ≤ 2147483647) : s97 S x1 v1 S := by
  exact rfl
theorem q97_5 (S : fx_S) (x1 : Int) (hS : fx_Sok S) (g1 : -2147483648 ≤ x1 ∧ x1 ≤ 2147483647) (c1 : x1 = 3) (v1 : Int) (e1 : v1 = S.1 2 8) (b1 : -2147483648 ≤ v1 ∧ v1 ≤ 2147483647) : s97 S x1 v1 S := by
  exact rfl
theorem q97_6 (S : fx_S) (x1 : Int) (hS : fx_Sok S) (g1 : -2147483648 ≤ x1 ∧ x1 ≤ 2147483647) (c1 : x1 = 4) (v1 : Int) (e1 : v1 = S.1 29 0) (b1 : -2147483648 ≤ v1 ∧ v1 ≤ 2147483647) : s97 S x1 v1 S := by
  exact rfl
theorem q97_7 (S : fx_S) (x1 : Int) (hS : fx_Sok S) (g1 : -2147483648 ≤ x1 ∧ x1 ≤ 2147483647) (c1 : x1 = 5) (v1 : Int) (e1 : v1 = S.1 38 0) (b1 : -2147483648 ≤ v1 ∧ v1 ≤ 2147483647) : s97 S x1 v1 S := by
  exact rfl
theorem q97_8 (S : fx_S) (x1 : Int) (hS : fx_Sok S) (g1 : -2147483648 ≤ x1 ∧ x1 ≤ 2147483647) (c1 : x1 = 6) (v1 : Int) (e1 : v1 = S.1 50 1) (b1 : -2147483648 ≤ v1 ∧ v1 ≤ 2147483647) : s97 S x1 v1 S := by
  exact rfl
theorem q97_9 (S : fx_S) (x1 : Int) (hS : fx_Sok S) (g1 : -2147483648 ≤ x1 ∧ x1 ≤ 2147483647) (c1 : x1 = 7) (v1 : Int) (S1 : fx_S) (k1 : fx_Sok S1) (b1 : -2147483648 ≤ v1 ∧ v1 ≤ 2147483647) (p1 : s152 S  v1 S1) : s97 S x1 v1 S1 := by
  obtain rfl : S = S1 := p1
  exact rfl
theorem q97_10 (S : fx_S) (x1 : Int) (hS : fx_Sok S) (g1 : -2147483648 ≤ x1 ∧ x1 ≤ 2147483647) (c1 : x1 = 8) (v1 : Int) (e1 : v1 = S.1 21 6) (b1 : -2147483648 ≤ v1 ∧ v1 ≤ 2147483647) : s97 S x1 v1 S := by
  exact rfl
theorem q97_11 (S : fx_S) (x1 : Int) (hS : fx_Sok S) (g1 : -2147483648 ≤ x1 ∧ x1 ≤ 2147483647) (c1 : x1 = 9) (v1 : Int) (e1 : v1 = S.1 21 2) (b1 : -2147483648 ≤ v1 ∧ v1 ≤ 2147483647) : s97 S x1 v1 S := by
  exact rfl
theorem q97_12 (S : fx_S) (x1 : Int) (hS : fx_Sok S) (g1 : -2147483648 ≤ x1 ∧ x1 ≤ 2147483647) (c1 : x1 = 10) (v1 : Int) (e1 : v1 = S.1 45 0) (b1 : -2147483648 ≤ v1 ∧ v1 ≤ 2147483647) : s97 S x1 v1 S := by
  exact rfl
theorem q97_13 (S : fx_S) (x1 : Int) (hS : fx_Sok S) (g1 : -2147483648 ≤ x1 ∧ x1 ≤ 2147483647) (c1 : x1 = 11) (v1 : Int) (e1 : v1 = S.1 45 1) (b1 : -2147483648 ≤ v1 ∧ v1 ≤ 2147483647) : s97 S x1 v1 S := by
  exact rfl
theorem q97_14 (S : fx_S) (x1 : Int) (hS : fx_Sok S) (g1 : -2147483648 ≤ x1 ∧ x1 ≤ 2147483647) (c1 : x1 = 12) (v1 : Int) (S1 : fx_S) (k1 : fx_Sok S1) (b1 : -2147483648 ≤ v1 ∧ v1 ≤ 2147483647) (p1 : s203 S  v1 S1) : s97 S x1 v1 S1 := by
  obtain rfl : S = S1 := p1
  exact rfl
theorem q97_15 (S : fx_S) (x1 : Int) (hS : fx_Sok S) (g1 : -2147483648 ≤ x1 ∧ x1 ≤ 2147483647) (c1 : x1 = 13) (v1 : Int) (e1 : v1 = S.1 21 7) (b1 : -2147483648 ≤ v1 ∧ v1 ≤ 2147483647) : s97 S x1 v1 S := by
  exact rfl
theorem q98_0 (S : fx_S) (x1 : Int) (hS : fx_Sok S) (g1 : -2147483648 ≤ x1 ∧ x1 ≤ 2147483647) (c1 : x1 < 0) : s98 S x1 (-1) S := by
  exact rfl
theorem q98_1 (S : fx_S) (x1 : Int) (hS : fx_Sok S) (g1 : -2147483648 ≤ x1 ∧ x1 ≤ 2147483647) (c1 : 13 < x1) : s98 S x1 (-1) S := by
  exact rfl
theorem q98_2 (S : fx_S) (x1 : Int) (hS : fx_Sok S) (g1 : -2147483648 ≤ x1 ∧ x1 ≤ 2147483647) (c1 : x1 = 0) (v1 : Int) (e1 : v1 = S.1 67 0) (b1 : -2147483648 ≤ v1 ∧ v1 ≤ 2147483647) : s98 S x1 v1 S := by
  exact rfl
theorem q98_3 (S : fx_S) (x1 : Int) (hS : fx_Sok S) (g1 : -2147483648 ≤ x1 ∧ x1 ≤ 2147483647) (c1 : x1 = 1) (v1 : Int) (e1 : v1 = S.1 67 1) (b1 : -2147483648 ≤ v1 ∧ v1 ≤ 2147483647) : s98 S x1 v1 S := by
  exact rfl
theorem q98_4 (S : fx_S) (x1 : Int) (hS : fx_Sok S) (g1 : -2147483648 ≤ x1 ∧ x1 ≤ 2147483647) (c1 : x1 = 2) (v1 : Int) (e1 : v1 = S.1 67 2) (b1 : -2147483648 ≤ v1 ∧ v1 ≤ 2147483647) : s98 S x1 v1 S := by
  exact rfl
theorem q98_5 (S : fx_S) (x1 : Int) (hS : fx_Sok S) (g1 : -2147483648 ≤ x1 ∧ x1 ≤ 2147483647) (c1 : x1 = 3) (v1 : Int) (e1 : v1 = S.1 67 3) (b1 : -2147483648 ≤ v1 ∧ v1 ≤ 2147483647) : s98 S x1 v1 S := by
  exact rfl
theorem q98_6 (S : fx_S) (x1 : Int) (hS : fx_Sok S) (g1 : -2147483648 ≤ x1 ∧ x1 ≤ 2147483647) (c1 : x1 = 4) (v1 : Int) (e1 : v1 = S.1 67 4) (b1 : -2147483648 ≤ v1 ∧ v1 ≤ 2147483647) : s98 S x1 v1 S := by
  exact rfl
theorem q98_7 (S : fx_S) (x1 : Int) (hS : fx_Sok S) (g1 : -2147483648 ≤ x1 ∧ x1 ≤ 2147483647) (c1 : x1 = 5) (v1 : Int) (e1 : v1 = S.1 67 5) (b1 : -2147483648 ≤ v1 ∧ v1 ≤ 2147483647) : s98 S x1 v1 S := by
  exact rfl
theorem q98_8 (S : fx_S) (x1 : Int) (hS : fx_Sok S) (g1 : -2147483648 ≤ x1 ∧ x1 ≤ 2147483647) (c1 : x1 = 6) (v1 : Int) (e1 : v1 = S.1 66 5) (b1 : -2147483648 ≤ v1 ∧ v1 ≤ 2147483647) : s98 S x1 v1 S := by
  exact rfl
theorem q98_9 (S : fx_S) (x1 : Int) (hS : fx_Sok S) (g1 : -2147483648 ≤ x1 ∧ x1 ≤ 2147483647) (c1 : x1 = 7) (v1 : Int) (S1 : fx_S) (k1 : fx_Sok S1) (b1 : -2147483648 ≤ v1 ∧ v1 ≤ 2147483647) (p1 : s204 S  v1 S1) : s98 S x1 v1 S1 := by
  obtain rfl : S = S1 := p1
  exact rfl
theorem q98_10 (S : fx_S) (x1 : Int) (hS : fx_Sok S) (g1 : -2147483648 ≤ x1 ∧ x1 ≤ 2147483647) (c1 : x1 = 8) (v1 : Int) (e1 : v1 = S.1 67 8) (b1 : -2147483648 ≤ v1 ∧ v1 ≤ 2147483647) : s98 S x1 v1 S := by
  exact rfl
theorem q98_11 (S : fx_S) (x1 : Int) (hS : fx_Sok S) (g1 : -2147483648 ≤ x1 ∧ x1 ≤ 2147483647) (c1 : x1 = 9) (v1 : Int) (e1 : v1 = S.1 67 7) (b1 : -2147483648 ≤ v1 ∧ v1 ≤ 2147483647) : s98 S x1 v1 S := by
  exact rfl
theorem q98_12 (S : fx_S) (x1 : Int) (hS : fx_Sok S) (g1 : -2147483648 ≤ x1 ∧ x1 ≤ 2147483647) (c1 : x1 = 10) (v1 : Int) (e1 : v1 = S.1 67 10) (b1 : -2147483648 ≤ v1 ∧ v1 ≤ 2147483647) : s98 S x1 v1 S := by
  exact rfl
theorem q98_13 (S : fx_S) (x1 : Int) (hS : fx_Sok S) (g1 : -2147483648 ≤ x1 ∧ x1 ≤ 2147483647) (c1 : x1 = 11) (v1 : Int) (e1 : v1 = S.1 67 11) (b1 : -2147483648 ≤ v1 ∧ v1 ≤ 2147483647) : s98 S x1 v1 S := by
  exact rfl
theorem q98_14 (S : fx_S) (x1 : Int) (hS : fx_Sok S) (g1 : -2147483648 ≤ x1 ∧ x1 ≤ 2147483647) (c1 : x1 = 12) (z : Int) (Z : fx_S) (kz : fx_Sok Z) (bz : -2147483648 ≤ z ∧ z ≤ 2147483647) (pz : s205 S 0 0 z Z) : s98 S x1 z Z := by
  obtain rfl : S = Z := pz
  exact rfl
theorem q98_15 (S : fx_S) (x1 : Int) (hS : fx_Sok S) (g1 : -2147483648 ≤ x1 ∧ x1 ≤ 2147483647) (c1 : x1 = 13) (v1 : Int) (e1 : v1 = S.1 67 9) (b1 : -2147483648 ≤ v1 ∧ v1 ≤ 2147483647) : s98 S x1 v1 S := by
  exact rfl
theorem q99_0 (S : fx_S) (x1 : Int) (hS : fx_Sok S) (g1 : -2147483648 ≤ x1 ∧ x1 ≤ 2147483647) (v1 : Int) (S1 : fx_S) (k1 : fx_Sok S1) (b1 : -2147483648 ≤ v1 ∧ v1 ≤ 2147483647) (p1 : s114 S x1 0 3 v1 S1) (c1 : v1 = 0) : s99 S x1 (-2) S1 := by
  obtain ⟨rfl, p1⟩ := p1
  exact rfl
theorem q99_1 (S : fx_S) (x1 : Int) (hS : fx_Sok S) (g1 : -2147483648 ≤ x1 ∧ x1 ≤ 2147483647) (v1 : Int) (S1 : fx_S) (k1 : fx_Sok S1) (b1 : -2147483648 ≤ v1 ∧ v1 ≤ 2147483647) (p1 : s114 S x1 0 3 v1 S1) (c1 : v1 ≠ 0) (c2 : 0 ≤ x1) (c3 : x1 < 4) (v2 : Int) (e2 : v2 = S1.1 22 x1) (b2 : -2147483648 ≤ v2 ∧ v2 ≤ 2147483647) : s99 S x1 v2 S1 := by
  obtain ⟨rfl, p1⟩ := p1
  exact rfl
theorem q100_0 (S : fx_S) (x1 : Int) (hS : fx_Sok S) (g1 : -2147483648 ≤ x1 ∧ x1 ≤ 2147483647) (v1 : Int) (S1 : fx_S) (k1 : fx_Sok S1) (b1 : -2147483648 ≤ v1 ∧ v1 ≤ 2147483647) (p1 : s113 S x1 0 3 v1 S1) (c1 : v1 = 0) : s100 S x1 (-2) S1 := by
  obtain ⟨rfl, p1⟩ := p1
  exact rfl
theorem q100_1 (S : fx_S) (x1 : Int) (hS : fx_Sok S) (g1 : -2147483648 ≤ x1 ∧ x1 ≤ 2147483647) (v1 : Int) (S1 : fx_S) (k1 : fx_Sok S1) (b1 : -2147483648 ≤ v1 ∧ v1 ≤ 2147483647) (p1 : s113 S x1 0 3 v1 S1) (c1 : v1 ≠ 0) (v2 : Int) (e2 : v2 = fx_add 12 x1) (c2 : 0 ≤ v2) (c3 : v2 < 8090) (v3 : Int) (e3 : v3 = S1.1 67 v2) (b3 : -2147483648 ≤ v3 ∧ v3 ≤ 2147483647) : s100 S x1 v3 S1 := by
  obtain ⟨rfl, p1⟩ := p1
  exact rfl
theorem q101_0 (S : fx_S) (x1 : Int) (hS : fx_Sok S) (g1 : -2147483648 ≤ x1 ∧ x1 ≤ 2147483647) (v1 : Int) (S1 : fx_S) (k1 : fx_Sok S1) (b1 : -2147483648 ≤ v1 ∧ v1 ≤ 2147483647) (p1 : s114 S x1 0 2 v1 S1) (c1 : v1 ≠ 0) (c2 : 0 ≤ x1) (c3 : x1 < 3) (v2 : Int) (e2 : v2 = S1.2.1 49 x1) (c4 : v2 = (-1)) (v3 : Int) (e3 : v3 = S1.2.2) (S2 : fx_S) (d2 : S2 = (S1.1, S1.2.1, S1.2.2 + 1)) (S3 : fx_S) (d3 : S3 = (S2.1, S2.2.1, S2.2.2 + 1)) (S4 : fx_S) (d4 : S4 = (S3.1, S3.2.1, S3.2.2 + 1)) (S5 : fx_S) (d5 : S5 = (S4.1, S4.2.1, S4.2.2 + 1)) (S6 : fx_S) (d6 : S6 = (S5.1, S5.2.1, S5.2.2 + 1)) (S7 : fx_S) (d7 : S7 = (S6.1, S6.2.1, S6.2.2 + 1)) (S8 : fx_S) (d8 : S8 = (S7.1, S7.2.1, S7.2.2 + 1)) (S9 : fx_S) (d9 : S9 = (S8.1, S8.2.1, S8.2.2 + 1)) (S10 : fx_S) (d10 : S10 = (S9.1, S9.2.1, S9.2.2 + 1)) (S11 : fx_S) (d11 : S11 = (S10.1, S10.2.1, S10.2.2 + 1)) (S12 : fx_S) (d12 : S12 = (S11.1, S11.2.1, S11.2.2 + 1)) (S13 : fx_S) (d13 : S13 = (S12.1, S12.2.1, S12.2.2 + 1)) (S14 : fx_S) (d14 : S14 = (S13.1, S13.2.1, S13.2.2 + 1)) (S15 : fx_S) (d15 : S15 = (S14.1, S14.2.1, S14.2.2 + 1)) (S16 : fx_S) (d16 : S16 = (S15.1, S15.2.1, S15.2.2 + 1)) (S17 : fx_S) (d17 : S17 = (S16.1, S16.2.1, S16.2.2 + 1)) (S18 : fx_S) (d18 : S18 = (S17.1, S17.2.1, S17.2.2 + 1)) (S19 : fx_S) (d19 : S19 = (S18.1, S18.2.1, S18.2.2 + 1)) (S20 : fx_S) (d20 : S20 = (S19.1, S19.2.1, S19.2.2 + 1)) (S21 : fx_S) (d21 : S21 = (S20.1, S20.2.1, S20.2.2 + 1)) (S22 : fx_S) (d22 : S22 = (S21.1, S21.2.1, S21.2.2 + 1)) (S23 : fx_S) (d23 : S23 = (S22.1, S22.2.1, S22.2.2 + 1)) (S24 : fx_S) (d24 : S24 = (S23.1, S23.2.1, S23.2.2 + 1)) (S25 : fx_S) (d25 : S25 = (S24.1, S24.2.1, S24.2.2 + 1)) (S26 : fx_S) (d26 : S26 = (S25.1, S25.2.1, S25.2.2 + 1)) (S27 : fx_S) (d27 : S27 = (S26.1, S26.2.1, S26.2.2 + 1)) (S28 : fx_S) (d28 : S28 = (S27.1, S27.2.1, S27.2.2 + 1)) (S29 : fx_S) (d29 : S29 = (S28.1, S28.2.1, S28.2.2 + 1)) (S30 : fx_S) (d30 : S30 = (S29.1, S29.2.1, S29.2.2 + 1)) (S31 : fx_S) (d31 : S31 = (S30.1, S30.2.1, S30.2.2 + 1)) (S32 : fx_S) (d32 : S32 = (S31.1, S31.2.1, S31.2.2 + 1)) (S33 : fx_S) (d33 : S33 = (S32.1, S32.2.1, S32.2.2 + 1)) (S34 : fx_S) (d34 : S34 = (S33.1, S33.2.1, S33.2.2 + 1)) (S35 : fx_S) (d35 : S35 = (S34.1, S34.2.1, S34.2.2 + 1)) (S36 : fx_S) (d36 : S36 = (S35.1, S35.2.1, S35.2.2 + 1)) (S37 : fx_S) (d37 : S37 = (S36.1, S36.2.1, S36.2.2 + 1)) (S38 : fx_S) (d38 : S38 = (S37.1, S37.2.1, S37.2.2 + 1)) (S39 : fx_S) (d39 : S39 = (S38.1, S38.2.1, S38.2.2 + 1)) (S40 : fx_S) (d40 : S40 = (S39.1, S39.2.1, S39.2.2 + 1)) (S41 : fx_S) (d41 : S41 = (S40.1, S40.2.1, S40.2.2 + 1)) (S42 : fx_S) (d42 : S42 = (S41.1, S41.2.1, S41.2.2 + 1)) (S43 : fx_S) (d43 : S43 = (S42.1, S42.2.1, S42.2.2 + 1)) (S44 : fx_S) (d44 : S44 = (S43.1, S43.2.1, S43.2.2 + 1)) (S45 : fx_S) (d45 : S45 = (S44.1, S44.2.1, S44.2.2 + 1)) (S46 : fx_S) (d46 : S46 = (S45.1, S45.2.1, S45.2.2 + 1)) (S47 : fx_S) (d47 : S47 = (S46.1, S46.2.1, S46.2.2 + 1)) (S48 : fx_S) (d48 : S48 = (S47.1, S47.2.1, S47.2.2 + 1)) (S49 : fx_S) (d49 : S49 = (S48.1, S48.2.1, S48.2.2 + 1)) (c5 : 0 ≤ x1) (c6 : x1 < 3) (S50 : fx_S) (d50 : S50 = (S49.1, fx_up S49.2.1 49 x1 v3, S49.2.2)) (v4 : Int) (S51 : fx_S) (k51 : fx_Sok S51) (b4 : v4 = 0) (p51 : s206 S50 v3 v4 S51) : s101 S x1 0 S51 := by
  obtain ⟨rfl, p1⟩ := p1
  unfold s206 at p51
  unfold s101
  intro hn hk
  have m1 := fx_in01 p1
  have h91 := hk x1 (by omega) (by omega)
  have z2 : S2.2.2 = S.2.2 + 1 := by rw [d2]
  have x2_ : S2.1 = S.1 := by rw [d2]
  have w2 : S2.2.1 = S.2.1 := by rw [d2]
  have z3 : S3.2.2 = S2.2.2 + 1 := by rw [d3]
  have x3_ : S3.1 = S.1 := by rw [d3]; exact x2_
  have w3 : S3.2.1 = S.2.1 := by rw [d3]; exact w2
  have z4 : S4.2.2 = S3.2.2 + 1 := by rw [d4]
  have x4_ : S4.1 = S.1 := by rw [d4]; exact x3_
  have w4 : S4.2.1 = S.2.1 := by rw [d4]; exact w3
  have z5 : S5.2.2 = S4.2.2 + 1 := by rw [d5]
  have x5_ : S5.1 = S.1 := by rw [d5]; exact x4_
  have w5 : S5.2.1 = S.2.1 := by rw [d5]; exact w4
  have z6 : S6.2.2 = S5.2.2 + 1 := by rw [d6]
  have x6_ : S6.1 = S.1 := by rw [d6]; exact x5_
  have w6 : S6.2.1 = S.2.1 := by rw [d6]; exact w5
  have z7 : S7.2.2 = S6.2.2 + 1 := by rw [d7]
  have x7_ : S7.1 = S.1 := by rw [d7]; exact x6_
  have w7 : S7.2.1 = S.2.1 := by rw [d7]; exact w6
  have z8 : S8.2.2 = S7.2.2 + 1 := by rw [d8]
  have x8_ : S8.1 = S.1 := by rw [d8]; exact x7_
  have w8 : S8.2.1 = S.2.1 := by rw [d8]; exact w7
  have z9 : S9.2.2 = S8.2.2 + 1 := by rw [d9]
  have x9_ : S9.1 = S.1 := by rw [d9]; exact x8_
  have w9 : S9.2.1 = S.2.1 := by rw [d9]; exact w8
  have z10 : S10.2.2 = S9.2.2 + 1 := by rw [d10]
  have x10_ : S10.1 = S.1 := by rw [d10]; exact x9_
  have w10 : S10.2.1 = S.2.1 := by rw [d10]; exact w9
  have z11 : S11.2.2 = S10.2.2 + 1 := by rw [d11]
  have x11_ : S11.1 = S.1 := by rw [d11]; exact x10_
  have w11 : S11.2.1 = S.2.1 := by rw [d11]; exact w10
  have z12 : S12.2.2 = S11.2.2 + 1 := by rw [d12]
  have x12_ : S12.1 = S.1 := by rw [d12]; exact x11_
  have w12 : S12.2.1 = S.2.1 := by rw [d12]; exact w11
  have z13 : S13.2.2 = S12.2.2 + 1 := by rw [d13]
  have x13_ : S13.1 = S.1 := by rw [d13]; exact x12_
  have w13 : S13.2.1 = S.2.1 := by rw [d13]; exact w12
  have z14 : S14.2.2 = S13.2.2 + 1 := by rw [d14]
  have x14_ : S14.1 = S.1 := by rw [d14]; exact x13_
  have w14 : S14.2.1 = S.2.1 := by rw [d14]; exact w13
  have z15 : S15.2.2 = S14.2.2 + 1 := by rw [d15]
  have x15_ : S15.1 = S.1 := by rw [d15]; exact x14_
  have w15 : S15.2.1 = S.2.1 := by rw [d15]; exact w14
  have z16 : S16.2.2 = S15.2.2 + 1 := by rw [d16]
  have x16_ : S16.1 = S.1 := by rw [d16]; exact x15_
  have w16 : S16.2.1 = S.2.1 := by rw [d16]; exact w15
  have z17 : S17.2.2 = S16.2.2 + 1 := by rw [d17]
  have x17_ : S17.1 = S.1 := by rw [d17]; exact x16_
  have w17 : S17.2.1 = S.2.1 := by rw [d17]; exact w16
  have z18 : S18.2.2 = S17.2.2 + 1 := by rw [d18]
  have x18_ : S18.1 = S.1 := by rw [d18]; exact x17_
  have w18 : S18.2.1 = S.2.1 := by rw [d18]; exact w17
  have z19 : S19.2.2 = S18.2.2 + 1 := by rw [d19]
  have x19_ : S19.1 = S.1 := by rw [d19]; exact x18_
  have w19 : S19.2.1 = S.2.1 := by rw [d19]; exact w18
  have z20 : S20.2.2 = S19.2.2 + 1 := by rw [d20]
  have x20_ : S20.1 = S.1 := by rw [d20]; exact x19_
  have w20 : S20.2.1 = S.2.1 := by rw [d20]; exact w19
  have z21 : S21.2.2 = S20.2.2 + 1 := by rw [d21]
  have x21_ : S21.1 = S.1 := by rw [d21]; exact x20_
  have w21 : S21.2.1 = S.2.1 := by rw [d21]; exact w20
  have z22 : S22.2.2 = S21.2.2 + 1 := by rw [d22]
  have x22_ : S22.1 = S.1 := by rw [d22]; exact x21_
  have w22 : S22.2.1 = S.2.1 := by rw [d22]; exact w21
  have z23 : S23.2.2 = S22.2.2 + 1 := by rw [d23]
  have x23_ : S23.1 = S.1 := by rw [d23]; exact x22_
  have w23 : S23.2.1 = S.2.1 := by rw [d23]; exact w22
  have z24 : S24.2.2 = S23.2.2 + 1 := by rw [d24]
  have x24_ : S24.1 = S.1 := by rw [d24]; exact x23_
  have w24 : S24.2.1 = S.2.1 := by rw [d24]; exact w23
  have z25 : S25.2.2 = S24.2.2 + 1 := by rw [d25]
  have x25_ : S25.1 = S.1 := by rw [d25]; exact x24_
  have w25 : S25.2.1 = S.2.1 := by rw [d25]; exact w24
  have z26 : S26.2.2 = S25.2.2 + 1 := by rw [d26]
  have x26_ : S26.1 = S.1 := by rw [d26]; exact x25_
  have w26 : S26.2.1 = S.2.1 := by rw [d26]; exact w25
  have z27 : S27.2.2 = S26.2.2 + 1 := by rw [d27]
  have x27_ : S27.1 = S.1 := by rw [d27]; exact x26_
  have w27 : S27.2.1 = S.2.1 := by rw [d27]; exact w26
  have z28 : S28.2.2 = S27.2.2 + 1 := by rw [d28]
  have x28_ : S28.1 = S.1 := by rw [d28]; exact x27_
  have w28 : S28.2.1 = S.2.1 := by rw [d28]; exact w27
  have z29 : S29.2.2 = S28.2.2 + 1 := by rw [d29]
  have x29_ : S29.1 = S.1 := by rw [d29]; exact x28_
  have w29 : S29.2.1 = S.2.1 := by rw [d29]; exact w28
  have z30 : S30.2.2 = S29.2.2 + 1 := by rw [d30]
  have x30_ : S30.1 = S.1 := by rw [d30]; exact x29_
  have w30 : S30.2.1 = S.2.1 := by rw [d30]; exact w29
  have z31 : S31.2.2 = S30.2.2 + 1 := by rw [d31]
  have x31_ : S31.1 = S.1 := by rw [d31]; exact x30_
  have w31 : S31.2.1 = S.2.1 := by rw [d31]; exact w30
  have z32 : S32.2.2 = S31.2.2 + 1 := by rw [d32]
  have x32_ : S32.1 = S.1 := by rw [d32]; exact x31_
  have w32 : S32.2.1 = S.2.1 := by rw [d32]; exact w31
  have z33 : S33.2.2 = S32.2.2 + 1 := by rw [d33]
  have x33_ : S33.1 = S.1 := by rw [d33]; exact x32_
  have w33 : S33.2.1 = S.2.1 := by rw [d33]; exact w32
  have z34 : S34.2.2 = S33.2.2 + 1 := by rw [d34]
  have x34_ : S34.1 = S.1 := by rw [d34]; exact x33_
  have w34 : S34.2.1 = S.2.1 := by rw [d34]; exact w33
  have z35 : S35.2.2 = S34.2.2 + 1 := by rw [d35]
  have x35_ : S35.1 = S.1 := by rw [d35]; exact x34_
  have w35 : S35.2.1 = S.2.1 := by rw [d35]; exact w34
  have z36 : S36.2.2 = S35.2.2 + 1 := by rw [d36]
  have x36_ : S36.1 = S.1 := by rw [d36]; exact x35_
  have w36 : S36.2.1 = S.2.1 := by rw [d36]; exact w35
  have z37 : S37.2.2 = S36.2.2 + 1 := by rw [d37]
  have x37_ : S37.1 = S.1 := by rw [d37]; exact x36_
  have w37 : S37.2.1 = S.2.1 := by rw [d37]; exact w36
  have z38 : S38.2.2 = S37.2.2 + 1 := by rw [d38]
  have x38_ : S38.1 = S.1 := by rw [d38]; exact x37_
  have w38 : S38.2.1 = S.2.1 := by rw [d38]; exact w37
  have z39 : S39.2.2 = S38.2.2 + 1 := by rw [d39]
  have x39_ : S39.1 = S.1 := by rw [d39]; exact x38_
  have w39 : S39.2.1 = S.2.1 := by rw [d39]; exact w38
  have z40 : S40.2.2 = S39.2.2 + 1 := by rw [d40]
  have x40_ : S40.1 = S.1 := by rw [d40]; exact x39_
  have w40 : S40.2.1 = S.2.1 := by rw [d40]; exact w39
  have z41 : S41.2.2 = S40.2.2 + 1 := by rw [d41]
  have x41_ : S41.1 = S.1 := by rw [d41]; exact x40_
  have w41 : S41.2.1 = S.2.1 := by rw [d41]; exact w40
  have z42 : S42.2.2 = S41.2.2 + 1 := by rw [d42]
  have x42_ : S42.1 = S.1 := by rw [d42]; exact x41_
  have w42 : S42.2.1 = S.2.1 := by rw [d42]; exact w41
  have z43 : S43.2.2 = S42.2.2 + 1 := by rw [d43]
  have x43_ : S43.1 = S.1 := by rw [d43]; exact x42_
  have w43 : S43.2.1 = S.2.1 := by rw [d43]; exact w42
  have z44 : S44.2.2 = S43.2.2 + 1 := by rw [d44]
  have x44_ : S44.1 = S.1 := by rw [d44]; exact x43_
  have w44 : S44.2.1 = S.2.1 := by rw [d44]; exact w43
  have z45 : S45.2.2 = S44.2.2 + 1 := by rw [d45]
  have x45_ : S45.1 = S.1 := by rw [d45]; exact x44_
  have w45 : S45.2.1 = S.2.1 := by rw [d45]; exact w44
  have z46 : S46.2.2 = S45.2.2 + 1 := by rw [d46]
  have x46_ : S46.1 = S.1 := by rw [d46]; exact x45_
  have w46 : S46.2.1 = S.2.1 := by rw [d46]; exact w45
  have z47 : S47.2.2 = S46.2.2 + 1 := by rw [d47]
  have x47_ : S47.1 = S.1 := by rw [d47]; exact x46_
  have w47 : S47.2.1 = S.2.1 := by rw [d47]; exact w46
  have z48 : S48.2.2 = S47.2.2 + 1 := by rw [d48]
  have x48_ : S48.1 = S.1 := by rw [d48]; exact x47_
  have w48 : S48.2.1 = S.2.1 := by rw [d48]; exact w47
  have z49 : S49.2.2 = S48.2.2 + 1 := by rw [d49]
  have x49_ : S49.1 = S.1 := by rw [d49]; exact x48_
  have w49 : S49.2.1 = S.2.1 := by rw [d49]; exact w48
  have zP0 : S50.2.2 = S49.2.2 := by rw [d50]
  have zP : S50.2.2 = S.2.2 + 48 := by omega
  clear z2 z3 z4 z5 z6 z7 z8 z9 z10 z11 z12 z13 z14 z15 z16 z17 z18 z19 z20 z21 z22 z23 z24 z25 z26 z27 z28 z29 z30 z31 z32 z33 z34 z35 z36 z37 z38 z39 z40 z41 z42 z43 z44 z45 z46 z47 z48 z49
  have xP : ∀ p i, S50.1 p i = S.1 p i := fun p i => by rw [d50]; show S49.1 p i = _; rw [x49_]
  obtain ⟨a1, a2, a3, a4⟩ := p51 (by omega)
  refine .inr ⟨rfl, by omega, by omega, v3, .inl ⟨by omega, e3, by omega⟩, fun k => ?_, fun p i hp => (a3 p i (by omega)).trans (xP p i), fun j i ht => (a4 j i ht).trans (xP _ _)⟩
  rw [a2, if_neg (by omega), d50]
  show fx_up S49.2.1 49 x1 v3 49 k = _
  rw [w49]
  by_cases h : k = x1
  · rw [if_pos h]; exact if_pos ⟨rfl, h⟩
  · rw [if_neg h]; exact if_neg (fun z => h z.2)
theorem q101_1 (S : fx_S) (x1 : Int) (hS : fx_Sok S) (g1 : -2147483648 ≤ x1 ∧ x1 ≤ 2147483647) (v1 : Int) (S1 : fx_S) (k1 : fx_Sok S1) (b1 : -2147483648 ≤ v1 ∧ v1 ≤ 2147483647) (p1 : s114 S x1 0 2 v1 S1) (c1 : v1 ≠ 0) (c2 : 0 ≤ x1) (c3 : x1 < 3) (v2 : Int) (e2 : v2 = S1.2.1 49 x1) (c4 : v2 ≠ (-1)) (v3 : Int) (S2 : fx_S) (k2 : fx_Sok S2) (b3 : v3 = 0) (p2 : s207 S1 v2 v3 S2) : s101 S x1 0 S2 := by
  obtain ⟨rfl, p1⟩ := p1
  unfold s207 at p2
  unfold s101
  intro hn hk
  have m1 := fx_in01 p1
  have h91 := hk x1 (by omega) (by omega)
  obtain ⟨a1, a2, a3, a4⟩ := p2 (by omega)
  refine .inr ⟨rfl, by omega, by omega, v2, .inr ⟨by omega, e2, a1⟩, fun k => ?_, fun p i hp => a3 p i (by omega), a4⟩
  rw [a2, if_neg (by omega)]
  by_cases h : k = x1
  · rw [if_pos h, h]; exact e2.symm
  · rw [if_neg h]
theorem q101_2 (S : fx_S) (x1 : Int) (hS : fx_Sok S) (g1 : -2147483648 ≤ x1 ∧ x1 ≤ 2147483647) (v1 : Int) (S1 : fx_S) (k1 : fx_Sok S1) (b1 : -2147483648 ≤ v1 ∧ v1 ≤ 2147483647) (p1 : s114 S x1 0 2 v1 S1) (c1 : v1 = 0) : s101 S x1 (-2) S1 := by
  obtain ⟨rfl, p1⟩ := p1
  unfold s101
  intro hn hk
  have m1 := fx_in01 p1
  exact .inl ⟨rfl, by omega, rfl⟩
theorem q102_0 (S : fx_S) (x1 : Int) (hS : fx_Sok S) (g1 : -2147483648 ≤ x1 ∧ x1 ≤ 2147483647) (v1 : Int) (S1 : fx_S) (k1 : fx_Sok S1) (b1 : -2147483648 ≤ v1 ∧ v1 ≤ 2147483647) (p1 : s113 S x1 0 2 v1 S1) (c1 : v1 ≠ 0) (z : Int) (Z : fx_S) (kz : fx_Sok Z) (bz : -2147483648 ≤ z ∧ z ≤ 2147483647) (pz : s208 S1 x1 0 z Z) : s102 S x1 z Z := by
  obtain ⟨rfl, p1⟩ := p1
  obtain ⟨rZ, fZ, pz⟩ := pz
  refine ⟨rZ, ?_, ?_⟩
  · intro p i hW
    clear c1 b1
    exact (fZ p i (by omega))
  · skip
    have m1 := fx_in01 p1
    obtain ⟨b0, b1, b2⟩ := pz (by omega) (by omega) (by omega) (by omega)
    exact .inr ⟨b0, by omega, by omega, b1, fun i => by rw [b2, show 8090 * x1 + 0 = 8090 * x1 by omega]⟩
theorem q102_1 (S : fx_S) (x1 : Int) (hS : fx_Sok S) (g1 : -2147483648 ≤ x1 ∧ x1 ≤ 2147483647) (v1 : Int) (S1 : fx_S) (k1 : fx_Sok S1) (b1 : -2147483648 ≤ v1 ∧ v1 ≤ 2147483647) (p1 : s113 S x1 0 2 v1 S1) (c1 : v1 = 0) : s102 S x1 (-2) S1 := by
  obtain ⟨rfl, p1⟩ := p1
  refine ⟨rfl, ?_, ?_⟩
  · intro p i hW
    clear c1 b1
    exact rfl
  · skip
    have m1 := fx_in01 p1
    exact .inl ⟨rfl, by omega, rfl⟩
theorem q103_0 (S : fx_S) (x1 : Int) (hS : fx_Sok S) (g1 : -2147483648 ≤ x1 ∧ x1 ≤ 2147483647) (v1 : Int) (S1 : fx_S) (k1 : fx_Sok S1) (b1 : -2147483648 ≤ v1 ∧ v1 ≤ 2147483647) (p1 : s114 S x1 0 2 v1 S1) (c1 : v1 ≠ 0) (c2 : 0 ≤ x1) (c3 : x1 < 3) (v2 : Int) (e2 : v2 = S1.2.1 49 x1) (c4 : v2 = (-1)) : s103 S x1 (-6) S1 := by
  obtain ⟨rfl, p1⟩ := p1
  unfold s103
  intro hk
  have m1 := fx_in01 p1
  exact .inr (.inl ⟨rfl, by omega, by omega, by omega, rfl⟩)
theorem q103_1 (S : fx_S) (x1 : Int) (hS : fx_Sok S) (g1 : -2147483648 ≤ x1 ∧ x1 ≤ 2147483647) (v1 : Int) (S1 : fx_S) (k1 : fx_Sok S1) (b1 : -2147483648 ≤ v1 ∧ v1 ≤ 2147483647) (p1 : s114 S x1 0 2 v1 S1) (c1 : v1 ≠ 0) (c2 : 0 ≤ x1) (c3 : x1 < 3) (v2 : Int) (e2 : v2 = S1.2.1 49 x1) (c4 : v2 ≠ (-1)) (v3 : Int) (S2 : fx_S) (k2 : fx_Sok S2) (b3 : v3 = 0) (p2 : s209 S1 v2 v3 S2) : s103 S x1 0 S2 := by
  obtain ⟨rfl, p1⟩ := p1
  unfold s209 at p2
  unfold s103
  intro hk
  have m1 := fx_in01 p1
  have h91 := hk x1 (by omega) (by omega)
  obtain ⟨a1, a2, a3, a4⟩ := p2 (by omega)
  refine .inr (.inr ⟨rfl, by omega, by omega, by omega, fun k => by rw [a2, if_neg (by omega)], a1, fun p i hp => a3 p i (by omega), fun j i ht => ?_⟩)
  rw [← e2]
  exact a4 j i ht
theorem q103_2 (S : fx_S) (x1 : Int) (hS : fx_Sok S) (g1 : -2147483648 ≤ x1 ∧ x1 ≤ 2147483647) (v1 : Int) (S1 : fx_S) (k1 : fx_Sok S1) (b1 : -2147483648 ≤ v1 ∧ v1 ≤ 2147483647) (p1 : s114 S x1 0 2 v1 S1) (c1 : v1 = 0) : s103 S x1 (-2) S1 := by
  obtain ⟨rfl, p1⟩ := p1
  unfold s103
  intro hk
  have m1 := fx_in01 p1
  exact .inl ⟨rfl, by omega, rfl⟩
theorem q104_0 (S : fx_S) (x1 : Int) (hS : fx_Sok S) (g1 : -2147483648 ≤ x1 ∧ x1 ≤ 2147483647) (v1 : Int) (S1 : fx_S) (k1 : fx_Sok S1) (b1 : -2147483648 ≤ v1 ∧ v1 ≤ 2147483647) (p1 : s113 S x1 0 2 v1 S1) (c1 : v1 ≠ 0) (c2 : 0 ≤ x1) (c3 : x1 < 3) (v2 : Int) (e2 : v2 = S1.1 69 x1) (b2 : 0 ≤ v2 ∧ v2 ≤ 1) (c4 : v2 ≠ 0) (z : Int) (Z : fx_S) (kz : fx_Sok Z) (bz : -2147483648 ≤ z ∧ z ≤ 2147483647) (pz : s210 S1 x1 0 z Z) : s104 S x1 z Z := by
  obtain ⟨rfl, p1⟩ := p1
  obtain ⟨rZ, fZ, pz⟩ := pz
  refine ⟨rZ, ?_, ?_⟩
  · intro p i hW
    clear c4 b2 e2 c3 c2 c1 b1
    exact (fZ p i (by omega))
  · skip
    have m1 := fx_in01 p1
    obtain ⟨b0, b2⟩ := pz (by omega) (by omega) (by omega) (by omega)
    exact .inr (.inr ⟨b0, by omega, by omega, by omega, b2⟩)
theorem q104_1 (S : fx_S) (x1 : Int) (hS : fx_Sok S) (g1 : -2147483648 ≤ x1 ∧ x1 ≤ 2147483647) (v1 : Int) (S1 : fx_S) (k1 : fx_Sok S1) (b1 : -2147483648 ≤ v1 ∧ v1 ≤ 2147483647) (p1 : s113 S x1 0 2 v1 S1) (c1 : v1 ≠ 0) (c2 : 0 ≤ x1) (c3 : x1 < 3) (v2 : Int) (e2 : v2 = S1.1 69 x1) (b2 : 0 ≤ v2 ∧ v2 ≤ 1) (c4 : v2 = 0) : s104 S x1 (-6) S1 := by
  obtain ⟨rfl, p1⟩ := p1
  refine ⟨rfl, ?_, ?_⟩
  · intro p i hW
    clear c4 b2 e2 c3 c2 c1 b1
    exact rfl
  · skip
    have m1 := fx_in01 p1
    exact .inr (.inl ⟨rfl, by omega, by omega, by omega, rfl⟩)
theorem q104_2 (S : fx_S) (x1 : Int) (hS : fx_Sok S) (g1 : -2147483648 ≤ x1 ∧ x1 ≤ 2147483647) (v1 : Int) (S1 : fx_S) (k1 : fx_Sok S1) (b1 : -2147483648 ≤ v1 ∧ v1 ≤ 2147483647) (p1 : s113 S x1 0 2 v1 S1) (c1 : v1 = 0) : s104 S x1 (-2) S1 := by
  obtain ⟨rfl, p1⟩ := p1
  refine ⟨rfl, ?_, ?_⟩
  · intro p i hW
    clear c1 b1
    exact rfl
  · skip
    have m1 := fx_in01 p1
    exact .inl ⟨rfl, by omega, rfl⟩
theorem q105_0 (S : fx_S) (x1 x2 x3 : Int) (hS : fx_Sok S) (g1 : -2147483648 ≤ x1 ∧ x1 ≤ 2147483647) (g2 : -2147483648 ≤ x2 ∧ x2 ≤ 2147483647) (g3 : -2147483648 ≤ x3 ∧ x3 ≤ 2147483647) (c1 : x1 < 0) : s105 S x1 x2 x3 (-2) S := by
  refine ⟨rfl, ?_, ?_⟩
  · intro p i hW
    clear c1
    exact rfl
  · skip
    skip
    first | have m1 := fx_in01 p1 | skip
    first | have m2 := fx_in01 p2 | skip
    exact .inl ⟨rfl, by omega, rfl⟩
theorem q105_1 (S : fx_S) (x1 x2 x3 : Int) (hS : fx_Sok S) (g1 : -2147483648 ≤ x1 ∧ x1 ≤ 2147483647) (g2 : -2147483648 ≤ x2 ∧ x2 ≤ 2147483647) (g3 : -2147483648 ≤ x3 ∧ x3 ≤ 2147483647) (c1 : 0 ≤ x1) (c2 : 4 ≤ x1) : s105 S x1 x2 x3 (-2) S := by
  refine ⟨rfl, ?_, ?_⟩
  · intro p i hW
    clear c2 c1
    exact rfl
  · skip
    skip
    first | have m1 := fx_in01 p1 | skip
    first | have m2 := fx_in01 p2 | skip
    exact .inl ⟨rfl, by omega, rfl⟩
