/-! FX: what is to be shown of the entries -/
theorem q68_3 (S : fx_S) (x1 x2 x3 : Int) (hS : fx_Sok S) (g1 : -2147483648 ≤ x1 ∧ x1 ≤ 2147483647) (g2 : -2147483648 ≤ x2 ∧ x2 ≤ 2147483647) (g3 : -2147483648 ≤ x3 ∧ x3 ≤ 2147483647) (v3 : Int) (S1 : fx_S) (k1 : fx_Sok S1) (b3 : -2147483648 ≤ v3 ∧ v3 ≤ 2147483647) (p1 : s113 S x1 1 9 v3 S1) (c1 : v3 ≠ 0) (v4 : Int) (S2 : fx_S) (k2 : fx_Sok S2) (b4 : -2147483648 ≤ v4 ∧ v4 ≤ 2147483647) (p2 : s113 S1 x2 0 999 v4 S2) (c2 : v4 ≠ 0) (v5 : Int) (S3 : fx_S) (k3 : fx_Sok S3) (b5 : -2147483648 ≤ v5 ∧ v5 ≤ 2147483647) (p3 : s113 S2 x3 0 999 v5 S3) (c3 : v5 ≠ 0) (v6 : Int) (e6 : v6 = S3.1 67 5) (b6 : -2147483648 ≤ v6 ∧ v6 ≤ 2147483647) (c4 : v6 = 12) : s68 S x1 x2 x3 (-3) S3 := by
  obtain ⟨rfl, p1⟩ := p1
  obtain ⟨rfl, p2⟩ := p2
  obtain ⟨rfl, p3⟩ := p3
  unfold s68
  intro hB
  have BS := hB
  have NS := fx_WB_n BS
  have m1 := fx_in01 p1
  have m2 := fx_in01 p2
  have m3 := fx_in01 p3
  refine ⟨rfl, ?_, BS, ?_⟩
  · intro p i hW
    exact rfl
  · exact .inr (.inl ⟨rfl, by omega, by omega, rfl⟩)
theorem q68_4 (S : fx_S) (x1 x2 x3 : Int) (hS : fx_Sok S) (g1 : -2147483648 ≤ x1 ∧ x1 ≤ 2147483647) (g2 : -2147483648 ≤ x2 ∧ x2 ≤ 2147483647) (g3 : -2147483648 ≤ x3 ∧ x3 ≤ 2147483647) (v3 : Int) (S1 : fx_S) (k1 : fx_Sok S1) (b3 : -2147483648 ≤ v3 ∧ v3 ≤ 2147483647) (p1 : s113 S x1 1 9 v3 S1) (c1 : v3 ≠ 0) (v4 : Int) (S2 : fx_S) (k2 : fx_Sok S2) (b4 : -2147483648 ≤ v4 ∧ v4 ≤ 2147483647) (p2 : s113 S1 x2 0 999 v4 S2) (c2 : v4 ≠ 0) (v5 : Int) (S3 : fx_S) (k3 : fx_Sok S3) (b5 : -2147483648 ≤ v5 ∧ v5 ≤ 2147483647) (p3 : s113 S2 x3 0 999 v5 S3) (c3 : v5 = 0) : s68 S x1 x2 x3 (-2) S3 := by
  obtain ⟨rfl, p1⟩ := p1
  obtain ⟨rfl, p2⟩ := p2
  obtain ⟨rfl, p3⟩ := p3
  unfold s68
  intro hB
  have BS := hB
  have NS := fx_WB_n BS
  have m1 := fx_in01 p1
  have m2 := fx_in01 p2
  have m3 := fx_in01 p3
  refine ⟨rfl, ?_, BS, ?_⟩
  · intro p i hW
    exact rfl
  · exact .inl ⟨rfl, by omega, rfl⟩
theorem q69_0 (S : fx_S) (x1 x2 : Int) (hS : fx_Sok S) (g1 : -2147483648 ≤ x1 ∧ x1 ≤ 2147483647) (g2 : -2147483648 ≤ x2 ∧ x2 ≤ 2147483647) (v2 : Int) (e2 : v2 = S.1 38 0) (b2 : -2147483648 ≤ v2 ∧ v2 ≤ 2147483647) (v3 : Int) (e3 : v3 = fx_sub v2 1) (v4 : Int) (S1 : fx_S) (k1 : fx_Sok S1) (b4 : -2147483648 ≤ v4 ∧ v4 ≤ 2147483647) (p1 : s114 S x1 0 v3 v4 S1) (c1 : v4 = 0) : s69 S x1 x2 (-2) S1 := by
  obtain ⟨rfl, p1⟩ := p1
  refine ⟨rfl, ?_, ?_⟩
  · intro p i hW
    clear c1 b4 e3 b2 e2
    exact rfl
  · skip
    intro h0
    have h3 := e3
    first | rw [fx_sub_eq (by omega) (by omega)] at h3 | skip
    have m1 := fx_in01 p1
    exact .inl ⟨rfl, by omega, rfl⟩
theorem q69_1 (S : fx_S) (x1 x2 : Int) (hS : fx_Sok S) (g1 : -2147483648 ≤ x1 ∧ x1 ≤ 2147483647) (g2 : -2147483648 ≤ x2 ∧ x2 ≤ 2147483647) (v2 : Int) (e2 : v2 = S.1 38 0) (b2 : -2147483648 ≤ v2 ∧ v2 ≤ 2147483647) (v3 : Int) (e3 : v3 = fx_sub v2 1) (v4 : Int) (S1 : fx_S) (k1 : fx_Sok S1) (b4 : -2147483648 ≤ v4 ∧ v4 ≤ 2147483647) (p1 : s114 S x1 0 v3 v4 S1) (c1 : v4 ≠ 0) (v5 : Int) (S2 : fx_S) (k2 : fx_Sok S2) (b5 : -2147483648 ≤ v5 ∧ v5 ≤ 2147483647) (p2 : s114 S1 x2 0 999 v5 S2) (c2 : v5 ≠ 0) (c3 : 0 ≤ x1) (c4 : x1 < 12) (S3 : fx_S) (d3 : S3 = (fx_up S2.1 42 x1 x2, S2.2)) (v6 : Int) (S4 : fx_S) (k4 : fx_Sok S4) (b6 : -2147483648 ≤ v6 ∧ v6 ≤ 2147483647) (p4 : s187 S3 x1 v6 S4) : s69 S x1 x2 v6 S4 := by
  obtain ⟨rfl, p1⟩ := p1
  obtain ⟨rfl, p2⟩ := p2
  obtain ⟨rfl, p4⟩ := p4
  refine ⟨(show S3.2 = S.2 by rw [d3]), ?_, ?_⟩
  · intro p i hW
    clear b6 c4 c3 c2 b5 c1 b4 e3 b2 e2
    exact (show S3.1 p i = S.1 p i by rw [d3]; exact if_neg (by omega))
  · skip
    intro h0
    have h3 := e3
    first | rw [fx_sub_eq (by omega) (by omega)] at h3 | skip
    have m1 := fx_in01 p1
    have m2 := fx_in01 p2
    have a1 : S3.1 40 x1 = S.1 40 x1 := by rw [d3]; first | exact if_neg (by omega) | rfl
    have a2 : S3.1 41 x1 = S.1 41 x1 := by rw [d3]; first | exact if_neg (by omega) | rfl
    have a3 : S3.1 42 x1 = x2 := by rw [d3]; first | exact if_pos ⟨rfl, rfl⟩ | rfl
    rw [a1, a2, a3] at p4
    refine .inr ⟨by omega, p4, fun i => ?_⟩
    by_cases hi : i = x1
    · rw [if_pos hi, hi]
      exact a3
    · rw [if_neg hi, d3]
      first | exact if_neg (by omega) | rfl
theorem q69_2 (S : fx_S) (x1 x2 : Int) (hS : fx_Sok S) (g1 : -2147483648 ≤ x1 ∧ x1 ≤ 2147483647) (g2 : -2147483648 ≤ x2 ∧ x2 ≤ 2147483647) (v2 : Int) (e2 : v2 = S.1 38 0) (b2 : -2147483648 ≤ v2 ∧ v2 ≤ 2147483647) (v3 : Int) (e3 : v3 = fx_sub v2 1) (v4 : Int) (S1 : fx_S) (k1 : fx_Sok S1) (b4 : -2147483648 ≤ v4 ∧ v4 ≤ 2147483647) (p1 : s114 S x1 0 v3 v4 S1) (c1 : v4 ≠ 0) (v5 : Int) (S2 : fx_S) (k2 : fx_Sok S2) (b5 : -2147483648 ≤ v5 ∧ v5 ≤ 2147483647) (p2 : s114 S1 x2 0 999 v5 S2) (c2 : v5 = 0) : s69 S x1 x2 (-2) S2 := by
  obtain ⟨rfl, p1⟩ := p1
  obtain ⟨rfl, p2⟩ := p2
  refine ⟨rfl, ?_, ?_⟩
  · intro p i hW
    clear c2 b5 c1 b4 e3 b2 e2
    exact rfl
  · skip
    intro h0
    have h3 := e3
    first | rw [fx_sub_eq (by omega) (by omega)] at h3 | skip
    have m1 := fx_in01 p1
    have m2 := fx_in01 p2
    exact .inl ⟨rfl, by omega, rfl⟩
theorem q70_0 (S : fx_S) (x1 x2 : Int) (hS : fx_Sok S) (g1 : -2147483648 ≤ x1 ∧ x1 ≤ 2147483647) (g2 : -2147483648 ≤ x2 ∧ x2 ≤ 2147483647) (v2 : Int) (e2 : v2 = S.1 67 5) (b2 : -2147483648 ≤ v2 ∧ v2 ≤ 2147483647) (v3 : Int) (e3 : v3 = fx_sub v2 1) (v4 : Int) (S1 : fx_S) (k1 : fx_Sok S1) (b4 : -2147483648 ≤ v4 ∧ v4 ≤ 2147483647) (p1 : s113 S x1 0 v3 v4 S1) (c1 : v4 = 0) : s70 S x1 x2 (-2) S1 := by
  obtain ⟨rfl, p1⟩ := p1
  unfold s70
  intro hB
  have BS := hB
  have NS := fx_WB_n BS
  have h3 := e3
  first | rw [fx_sub_eq (by omega) (by omega)] at h3 | skip
  have m1 := fx_in01 p1
  refine ⟨rfl, ?_, BS, ?_⟩
  · intro p i hW
    exact rfl
  · exact .inl ⟨rfl, by omega, rfl⟩
theorem q70_1 (S : fx_S) (x1 x2 : Int) (hS : fx_Sok S) (g1 : -2147483648 ≤ x1 ∧ x1 ≤ 2147483647) (g2 : -2147483648 ≤ x2 ∧ x2 ≤ 2147483647) (v2 : Int) (e2 : v2 = S.1 67 5) (b2 : -2147483648 ≤ v2 ∧ v2 ≤ 2147483647) (v3 : Int) (e3 : v3 = fx_sub v2 1) (v4 : Int) (S1 : fx_S) (k1 : fx_Sok S1) (b4 : -2147483648 ≤ v4 ∧ v4 ≤ 2147483647) (p1 : s113 S x1 0 v3 v4 S1) (c1 : v4 ≠ 0) (v5 : Int) (S2 : fx_S) (k2 : fx_Sok S2) (b5 : -2147483648 ≤ v5 ∧ v5 ≤ 2147483647) (p2 : s113 S1 x2 0 999 v5 S2) (c2 : v5 ≠ 0) (v6 : Int) (e6 : v6 = fx_mul 4 x1) (v7 : Int) (e7 : v7 = fx_add 7100 v6) (v8 : Int) (e8 : v8 = fx_add v7 3) (c3 : 0 ≤ v8) (c4 : v8 < 8090) (S3 : fx_S) (d3 : S3 = (fx_up S2.1 67 v8 x2, S2.2)) (v9 : Int) (S4 : fx_S) (k4 : fx_Sok S4) (b9 : -2147483648 ≤ v9 ∧ v9 ≤ 2147483647) (p4 : s72 S3 x1 v9 S4) : s70 S x1 x2 v9 S4 := by
  obtain ⟨rfl, p1⟩ := p1
  obtain ⟨rfl, p2⟩ := p2
  obtain ⟨rfl, p4⟩ := p4
  unfold s70
  intro hB
  have BS := hB
  have NS := fx_WB_n BS
  have h3 := e3
  first | rw [fx_sub_eq (by omega) (by omega)] at h3 | skip
  have m1 := fx_in01 p1
  have m2 := fx_in01 p2
  have h6 := e6
  first | rw [fx_mul_eq (by omega) (by omega)] at h6 | skip
  have h7 := e7
  first | rw [fx_add_eq (by omega) (by omega)] at h7 | skip
  have h8 := e8
  first | rw [fx_add_eq (by omega) (by omega)] at h8 | skip
  have BS3 : fx_WB S3 := by rw [d3]; exact fx_WB_up BS (by omega) (by omega) (by omega) (by omega) (by omega) (by omega) (by omega) (by omega) (by omega) (by omega) (by omega) (fun h => absurd h (by omega))
  refine ⟨(show S3.2 = S.2 by rw [d3]), ?_, BS3, ?_⟩
  · intro p i hW
    exact (show S3.1 p i = S.1 p i by rw [d3]; exact if_neg (by omega))
  · have a5 : S3.1 67 5 = S.1 67 5 := by rw [d3]; first | exact if_neg (by omega) | rfl
    have a1 : S3.1 67 (7101 + 4 * x1) = S.1 67 (7101 + 4 * x1) := by rw [d3]; first | exact if_neg (by omega) | rfl
    have a2 : S3.1 67 (7102 + 4 * x1) = S.1 67 (7102 + 4 * x1) := by rw [d3]; first | exact if_neg (by omega) | rfl
    have a3 : S3.1 67 (7103 + 4 * x1) = x2 := by rw [d3]; first | exact if_pos ⟨rfl, by omega⟩ | rfl
    have q := p4 BS3
    rw [a5, if_pos (by omega), a1, a2, a3] at q
    exact .inr ⟨by omega, q, a3, fun i i0 i1 i2 => by rw [d3]; first | exact if_neg (by omega) | rfl⟩
theorem q70_2 (S : fx_S) (x1 x2 : Int) (hS : fx_Sok S) (g1 : -2147483648 ≤ x1 ∧ x1 ≤ 2147483647) (g2 : -2147483648 ≤ x2 ∧ x2 ≤ 2147483647) (v2 : Int) (e2 : v2 = S.1 67 5) (b2 : -2147483648 ≤ v2 ∧ v2 ≤ 2147483647) (v3 : Int) (e3 : v3 = fx_sub v2 1) (v4 : Int) (S1 : fx_S) (k1 : fx_Sok S1) (b4 : -2147483648 ≤ v4 ∧ v4 ≤ 2147483647) (p1 : s113 S x1 0 v3 v4 S1) (c1 : v4 ≠ 0) (v5 : Int) (S2 : fx_S) (k2 : fx_Sok S2) (b5 : -2147483648 ≤ v5 ∧ v5 ≤ 2147483647) (p2 : s113 S1 x2 0 999 v5 S2) (c2 : v5 = 0) : s70 S x1 x2 (-2) S2 := by
  obtain ⟨rfl, p1⟩ := p1
  obtain ⟨rfl, p2⟩ := p2
  unfold s70
  intro hB
  have BS := hB
  have NS := fx_WB_n BS
  have h3 := e3
  first | rw [fx_sub_eq (by omega) (by omega)] at h3 | skip
  have m1 := fx_in01 p1
  have m2 := fx_in01 p2
  refine ⟨rfl, ?_, BS, ?_⟩
  · intro p i hW
    exact rfl
  · exact .inl ⟨rfl, by omega, rfl⟩
theorem q71_0 (S : fx_S) (x1 : Int) (hS : fx_Sok S) (g1 : -2147483648 ≤ x1 ∧ x1 ≤ 2147483647) (v1 : Int) (e1 : v1 = S.1 38 0) (b1 : -2147483648 ≤ v1 ∧ v1 ≤ 2147483647) (v2 : Int) (e2 : v2 = fx_sub v1 1) (v3 : Int) (S1 : fx_S) (k1 : fx_Sok S1) (b3 : -2147483648 ≤ v3 ∧ v3 ≤ 2147483647) (p1 : s114 S x1 0 v2 v3 S1) (c1 : v3 = 0) : s71 S x1 (-2) S1 := by
  obtain ⟨rfl, p1⟩ := p1
  refine ⟨rfl, ?_⟩
  intro h0_
  have h2 := e2
  first | rw [fx_sub_eq (by omega) (by omega)] at h2 | skip
  have m1 := fx_in01 p1
  first | have m1 := fx_in01 p1 | skip
  rw [if_neg (by omega)]
theorem q71_1 (S : fx_S) (x1 : Int) (hS : fx_Sok S) (g1 : -2147483648 ≤ x1 ∧ x1 ≤ 2147483647) (v1 : Int) (e1 : v1 = S.1 38 0) (b1 : -2147483648 ≤ v1 ∧ v1 ≤ 2147483647) (v2 : Int) (e2 : v2 = fx_sub v1 1) (v3 : Int) (S1 : fx_S) (k1 : fx_Sok S1) (b3 : -2147483648 ≤ v3 ∧ v3 ≤ 2147483647) (p1 : s114 S x1 0 v2 v3 S1) (c1 : v3 ≠ 0) (v4 : Int) (S2 : fx_S) (k2 : fx_Sok S2) (b4 : -2147483648 ≤ v4 ∧ v4 ≤ 2147483647) (p2 : s187 S1 x1 v4 S2) : s71 S x1 v4 S2 := by
  obtain ⟨rfl, p1⟩ := p1
  obtain ⟨rfl, p2⟩ := p2
  refine ⟨rfl, ?_⟩
  intro h0_
  have h2 := e2
  first | rw [fx_sub_eq (by omega) (by omega)] at h2 | skip
  have m1 := fx_in01 p1
  first | have m1 := fx_in01 p1 | skip
  rw [if_pos (by omega)]
  omega
theorem q72_0 (S : fx_S) (x1 : Int) (hS : fx_Sok S) (g1 : -2147483648 ≤ x1 ∧ x1 ≤ 2147483647) (v1 : Int) (e1 : v1 = S.1 67 5) (b1 : -2147483648 ≤ v1 ∧ v1 ≤ 2147483647) (v2 : Int) (e2 : v2 = fx_sub v1 1) (v3 : Int) (S1 : fx_S) (k1 : fx_Sok S1) (b3 : -2147483648 ≤ v3 ∧ v3 ≤ 2147483647) (p1 : s113 S x1 0 v2 v3 S1) (c1 : v3 ≠ 0) (v4 : Int) (e4 : v4 = fx_mul 4 x1) (v5 : Int) (e5 : v5 = fx_add 7100 v4) (v6 : Int) (e6 : v6 = fx_add v5 1) (c2 : 0 ≤ v6) (c3 : v6 < 8090) (v7 : Int) (e7 : v7 = S1.1 67 v6) (b7 : -2147483648 ≤ v7 ∧ v7 ≤ 2147483647) (v8 : Int) (e8 : v8 = fx_mul 4 x1) (v9 : Int) (e9 : v9 = fx_add 7100 v8) (v10 : Int) (e10 : v10 = fx_add v9 2) (c4 : 0 ≤ v10) (c5 : v10 < 8090) (v11 : Int) (e11 : v11 = S1.1 67 v10) (b11 : -2147483648 ≤ v11 ∧ v11 ≤ 2147483647) (v12 : Int) (e12 : v12 = fx_mul 4 x1) (v13 : Int) (e13 : v13 = fx_add 7100 v12) (v14 : Int) (e14 : v14 = fx_add v13 3) (c6 : 0 ≤ v14) (c7 : v14 < 8090) (v15 : Int) (e15 : v15 = S1.1 67 v14) (b15 : -2147483648 ≤ v15 ∧ v15 ≤ 2147483647) (c8 : v15 ≠ (-1)) (v16 : Int) (S2 : fx_S) (k2 : fx_Sok S2) (b16 : -2147483648 ≤ v16 ∧ v16 ≤ 2147483647) (p2 : s125 S1 v7 v11 v16 S2) (v17 : Int) (S3 : fx_S) (k3 : fx_Sok S3) (b17 : -2147483648 ≤ v17 ∧ v17 ≤ 2147483647) (p3 : s188 S2 v7 v11 v17 S3) (v18 : Int) (S4 : fx_S) (k4 : fx_Sok S4) (b18 : -2147483648 ≤ v18 ∧ v18 ≤ 2147483647) (p4 : s125 S3 v17 v15 v18 S4) (v19 : Int) (S5 : fx_S) (k5 : fx_Sok S5) (b19 : -2147483648 ≤ v19 ∧ v19 ≤ 2147483647) (p5 : s188 S4 v16 v18 v19 S5) : s72 S x1 v19 S5 := by
  obtain ⟨rfl, p1⟩ := p1
  obtain ⟨rfl, p2⟩ := p2
  obtain ⟨rfl, p3⟩ := p3
  obtain ⟨rfl, p4⟩ := p4
  obtain ⟨rfl, p5⟩ := p5
  refine ⟨rfl, ?_⟩
  intro hB
  have N := fx_WB_n hB
  have h2 := e2
  first | rw [fx_sub_eq (by omega) (by omega)] at h2 | skip
  have m1 := fx_in01 p1
  have h4 := e4
  first | rw [fx_mul_eq (by omega) (by omega)] at h4 | skip
  have h5 := e5
  first | rw [fx_add_eq (by omega) (by omega)] at h5 | skip
  have h6 := e6
  first | rw [fx_add_eq (by omega) (by omega)] at h6 | skip
  obtain rfl : v4 = v8 := by rw [e8, e4]
  obtain rfl : v5 = v9 := by rw [e9, e5]
  have h10 := e10
  first | rw [fx_add_eq (by omega) (by omega)] at h10 | skip
  obtain rfl : v4 = v12 := by rw [e12, e4]
  obtain rfl : v5 = v13 := by rw [e13, e5]
  have h14 := e14
  first | rw [fx_add_eq (by omega) (by omega)] at h14 | skip
  rw [if_pos (by omega), show 7101 + 4 * x1 = v6 by omega, show 7102 + 4 * x1 = v10 by omega, show 7103 + 4 * x1 = v14 by omega, ← e7, ← e11, ← e15]
  unfold fx_rent
  rw [if_neg c8, p5, p4, p3, p2]
theorem q72_1 (S : fx_S) (x1 : Int) (hS : fx_Sok S) (g1 : -2147483648 ≤ x1 ∧ x1 ≤ 2147483647) (v1 : Int) (e1 : v1 = S.1 67 5) (b1 : -2147483648 ≤ v1 ∧ v1 ≤ 2147483647) (v2 : Int) (e2 : v2 = fx_sub v1 1) (v3 : Int) (S1 : fx_S) (k1 : fx_Sok S1) (b3 : -2147483648 ≤ v3 ∧ v3 ≤ 2147483647) (p1 : s113 S x1 0 v2 v3 S1) (c1 : v3 ≠ 0) (v4 : Int) (e4 : v4 = fx_mul 4 x1) (v5 : Int) (e5 : v5 = fx_add 7100 v4) (v6 : Int) (e6 : v6 = fx_add v5 1) (c2 : 0 ≤ v6) (c3 : v6 < 8090) (v7 : Int) (e7 : v7 = S1.1 67 v6) (b7 : -2147483648 ≤ v7 ∧ v7 ≤ 2147483647) (v8 : Int) (e8 : v8 = fx_mul 4 x1) (v9 : Int) (e9 : v9 = fx_add 7100 v8) (v10 : Int) (e10 : v10 = fx_add v9 2) (c4 : 0 ≤ v10) (c5 : v10 < 8090) (v11 : Int) (e11 : v11 = S1.1 67 v10) (b11 : -2147483648 ≤ v11 ∧ v11 ≤ 2147483647) (v12 : Int) (e12 : v12 = fx_mul 4 x1) (v13 : Int) (e13 : v13 = fx_add 7100 v12) (v14 : Int) (e14 : v14 = fx_add v13 3) (c6 : 0 ≤ v14) (c7 : v14 < 8090) (v15 : Int) (e15 : v15 = S1.1 67 v14) (b15 : -2147483648 ≤ v15 ∧ v15 ≤ 2147483647) (c8 : v15 = (-1)) (v16 : Int) (e16 : v16 = fx_add v7 v11) (v17 : Int) (e17 : v17 = fx_div v16 2) : s72 S x1 v17 S1 := by
  obtain ⟨rfl, p1⟩ := p1
  refine ⟨rfl, ?_⟩
  intro hB
  have N := fx_WB_n hB
  have h2 := e2
  first | rw [fx_sub_eq (by omega) (by omega)] at h2 | skip
  have m1 := fx_in01 p1
  have h4 := e4
  first | rw [fx_mul_eq (by omega) (by omega)] at h4 | skip
  have h5 := e5
  first | rw [fx_add_eq (by omega) (by omega)] at h5 | skip
  have h6 := e6
  first | rw [fx_add_eq (by omega) (by omega)] at h6 | skip
  obtain rfl : v4 = v8 := by rw [e8, e4]
  obtain rfl : v5 = v9 := by rw [e9, e5]
  have h10 := e10
  first | rw [fx_add_eq (by omega) (by omega)] at h10 | skip
  obtain rfl : v4 = v12 := by rw [e12, e4]
  obtain rfl : v5 = v13 := by rw [e13, e5]
  have h14 := e14
  first | rw [fx_add_eq (by omega) (by omega)] at h14 | skip
  have h16 := e16
  first | rw [fx_add_eq (by omega) (by omega)] at h16 | skip
  rw [if_pos (by omega), show 7101 + 4 * x1 = v6 by omega, show 7102 + 4 * x1 = v10 by omega, show 7103 + 4 * x1 = v14 by omega, ← e7, ← e11, ← e15]
  unfold fx_rent
  rw [if_pos c8, e17, e16]
theorem q72_2 (S : fx_S) (x1 : Int) (hS : fx_Sok S) (g1 : -2147483648 ≤ x1 ∧ x1 ≤ 2147483647) (v1 : Int) (e1 : v1 = S.1 67 5) (b1 : -2147483648 ≤ v1 ∧ v1 ≤ 2147483647) (v2 : Int) (e2 : v2 = fx_sub v1 1) (v3 : Int) (S1 : fx_S) (k1 : fx_Sok S1) (b3 : -2147483648 ≤ v3 ∧ v3 ≤ 2147483647) (p1 : s113 S x1 0 v2 v3 S1) (c1 : v3 = 0) : s72 S x1 (-2) S1 := by
  obtain ⟨rfl, p1⟩ := p1
  refine ⟨rfl, ?_⟩
  intro hB
  have N := fx_WB_n hB
  have h2 := e2
  first | rw [fx_sub_eq (by omega) (by omega)] at h2 | skip
  have m1 := fx_in01 p1
  rw [if_neg (by omega)]
theorem q73_0 (S : fx_S) (x1 x2 : Int) (hS : fx_Sok S) (g1 : -2147483648 ≤ x1 ∧ x1 ≤ 2147483647) (g2 : -2147483648 ≤ x2 ∧ x2 ≤ 2147483647) (v2 : Int) (e2 : v2 = S.1 13 0) (b2 : -2147483648 ≤ v2 ∧ v2 ≤ 2147483647) (v3 : Int) (e3 : v3 = fx_sub v2 1) (v4 : Int) (S1 : fx_S) (k1 : fx_Sok S1) (b4 : -2147483648 ≤ v4 ∧ v4 ≤ 2147483647) (p1 : s114 S x1 0 v3 v4 S1) (c1 : v4 = 0) : s73 S x1 x2 (-2) S1 := by
  obtain ⟨rfl, p1⟩ := p1
  refine ⟨rfl, ?_, ?_⟩
  · intro p i hW
    clear c1 b4 e3 b2 e2
    exact rfl
  · skip
    intro a0 a1 a2
    have h3 := e3
    first | rw [fx_sub_eq (by omega) (by omega)] at h3 | skip
    have m1 := fx_in01 p1
    exact .inl ⟨rfl, by omega, rfl⟩
theorem q73_1 (S : fx_S) (x1 x2 : Int) (hS : fx_Sok S) (g1 : -2147483648 ≤ x1 ∧ x1 ≤ 2147483647) (g2 : -2147483648 ≤ x2 ∧ x2 ≤ 2147483647) (v2 : Int) (e2 : v2 = S.1 13 0) (b2 : -2147483648 ≤ v2 ∧ v2 ≤ 2147483647) (v3 : Int) (e3 : v3 = fx_sub v2 1) (v4 : Int) (S1 : fx_S) (k1 : fx_Sok S1) (b4 : -2147483648 ≤ v4 ∧ v4 ≤ 2147483647) (p1 : s114 S x1 0 v3 v4 S1) (c1 : v4 ≠ 0) (v5 : Int) (e5 : v5 = S1.1 38 0) (b5 : -2147483648 ≤ v5 ∧ v5 ≤ 2147483647) (v6 : Int) (e6 : v6 = fx_sub v5 1) (v7 : Int) (S2 : fx_S) (k2 : fx_Sok S2) (b7 : -2147483648 ≤ v7 ∧ v7 ≤ 2147483647) (p2 : s114 S1 x2 0 v6 v7 S2) (c2 : v7 ≠ 0) (v8 : Int) (S3 : fx_S) (k3 : fx_Sok S3) (b8 : -2147483648 ≤ v8 ∧ v8 ≤ 2147483647) (p3 : s189 S2 x1 x2 v8 S3) : s73 S x1 x2 v8 S3 := by
  obtain ⟨rfl, p1⟩ := p1
  obtain ⟨rfl, p2⟩ := p2
  obtain ⟨r3, f3, p3⟩ := p3
  refine ⟨r3, ?_, ?_⟩
  · intro p i hW
    clear b8 c2 b7 e6 b5 e5 c1 b4 e3 b2 e2
    exact (f3 p i (by omega))
  · skip
    intro a0 a1 a2
    have h3 := e3
    first | rw [fx_sub_eq (by omega) (by omega)] at h3 | skip
    have m1 := fx_in01 p1
    have h6 := e6
    first | rw [fx_sub_eq (by omega) (by omega)] at h6 | skip
    have m2 := fx_in01 p2
    have hq := a2 x1 (by omega) (by omega)
    exact .inr ⟨by omega, p3 hq.1 hq.2⟩
theorem q73_2 (S : fx_S) (x1 x2 : Int) (hS : fx_Sok S) (g1 : -2147483648 ≤ x1 ∧ x1 ≤ 2147483647) (g2 : -2147483648 ≤ x2 ∧ x2 ≤ 2147483647) (v2 : Int) (e2 : v2 = S.1 13 0) (b2 : -2147483648 ≤ v2 ∧ v2 ≤ 2147483647) (v3 : Int) (e3 : v3 = fx_sub v2 1) (v4 : Int) (S1 : fx_S) (k1 : fx_Sok S1) (b4 : -2147483648 ≤ v4 ∧ v4 ≤ 2147483647) (p1 : s114 S x1 0 v3 v4 S1) (c1 : v4 ≠ 0) (v5 : Int) (e5 : v5 = S1.1 38 0) (b5 : -2147483648 ≤ v5 ∧ v5 ≤ 2147483647) (v6 : Int) (e6 : v6 = fx_sub v5 1) (v7 : Int) (S2 : fx_S) (k2 : fx_Sok S2) (b7 : -2147483648 ≤ v7 ∧ v7 ≤ 2147483647) (p2 : s114 S1 x2 0 v6 v7 S2) (c2 : v7 = 0) : s73 S x1 x2 (-2) S2 := by
  obtain ⟨rfl, p1⟩ := p1
  obtain ⟨rfl, p2⟩ := p2
  refine ⟨rfl, ?_, ?_⟩
  · intro p i hW
    clear c2 b7 e6 b5 e5 c1 b4 e3 b2 e2
    exact rfl
  · skip
    intro a0 a1 a2
    have h3 := e3
    first | rw [fx_sub_eq (by omega) (by omega)] at h3 | skip
    have m1 := fx_in01 p1
    have h6 := e6
    first | rw [fx_sub_eq (by omega) (by omega)] at h6 | skip
    have m2 := fx_in01 p2
    exact .inl ⟨rfl, by omega, rfl⟩
theorem q74_0 (S : fx_S) (x1 x2 : Int) (hS : fx_Sok S) (g1 : -2147483648 ≤ x1 ∧ x1 ≤ 2147483647) (g2 : -2147483648 ≤ x2 ∧ x2 ≤ 2147483647) (v2 : Int) (e2 : v2 = S.1 67 2) (b2 : -2147483648 ≤ v2 ∧ v2 ≤ 2147483647) (v3 : Int) (e3 : v3 = fx_sub v2 1) (v4 : Int) (S1 : fx_S) (k1 : fx_Sok S1) (b4 : -2147483648 ≤ v4 ∧ v4 ≤ 2147483647) (p1 : s113 S x1 0 v3 v4 S1) (c1 : v4 = 0) : s74 S x1 x2 (-2) S1 := by
  obtain ⟨rfl, p1⟩ := p1
  unfold s74
  intro hB
  have BS := hB
  have NS := fx_WB_n BS
  have h3 := e3
  first | rw [fx_sub_eq (by omega) (by omega)] at h3 | skip
  have m1 := fx_in01 p1
  refine ⟨rfl, ?_, BS, ?_⟩
  · intro p i hW
    exact rfl
  · exact .inl ⟨rfl, by omega, rfl⟩
theorem q74_1 (S : fx_S) (x1 x2 : Int) (hS : fx_Sok S) (g1 : -2147483648 ≤ x1 ∧ x1 ≤ 2147483647) (g2 : -2147483648 ≤ x2 ∧ x2 ≤ 2147483647) (v2 : Int) (e2 : v2 = S.1 67 2) (b2 : -2147483648 ≤ v2 ∧ v2 ≤ 2147483647) (v3 : Int) (e3 : v3 = fx_sub v2 1) (v4 : Int) (S1 : fx_S) (k1 : fx_Sok S1) (b4 : -2147483648 ≤ v4 ∧ v4 ≤ 2147483647) (p1 : s113 S x1 0 v3 v4 S1) (c1 : v4 ≠ 0) (v5 : Int) (e5 : v5 = S1.1 67 5) (b5 : -2147483648 ≤ v5 ∧ v5 ≤ 2147483647) (v6 : Int) (e6 : v6 = fx_sub v5 1) (v7 : Int) (S2 : fx_S) (k2 : fx_Sok S2) (b7 : -2147483648 ≤ v7 ∧ v7 ≤ 2147483647) (p2 : s113 S1 x2 0 v6 v7 S2) (c2 : v7 ≠ 0) (v8 : Int) (e8 : v8 = fx_mul 10 x1) (v9 : Int) (e9 : v9 = fx_add 300 v8) (v10 : Int) (e10 : v10 = fx_add v9 5) (z : Int) (Z : fx_S) (kz : fx_Sok Z) (bz : -2147483648 ≤ z ∧ z ≤ 2147483647) (pz : s190 S2 x2 v10 0 z Z) : s74 S x1 x2 z Z := by
  obtain ⟨rfl, p1⟩ := p1
  obtain ⟨rfl, p2⟩ := p2
  unfold s190 at pz
  unfold s74
  intro hB
  have BS := hB
  have NS := fx_WB_n BS
  have h3 := e3
  first | rw [fx_sub_eq (by omega) (by omega)] at h3 | skip
  have m1 := fx_in01 p1
  have h6 := e6
  first | rw [fx_sub_eq (by omega) (by omega)] at h6 | skip
  have m2 := fx_in01 p2
  have h8 := e8
  first | rw [fx_mul_eq (by omega) (by omega)] at h8 | skip
  have h9 := e9
  first | rw [fx_add_eq (by omega) (by omega)] at h9 | skip
  have h10 := e10
  first | rw [fx_add_eq (by omega) (by omega)] at h10 | skip
  obtain ⟨rZ, fZ, BZ, pz⟩ := pz BS (by omega)
  refine ⟨rZ, ?_, BZ, ?_⟩
  · intro p i hW
    exact (fZ p i (by omega))
  · have hv : v10 = 305 + 10 * x1 := by omega
    rw [hv] at pz
    exact .inr ⟨by omega, pz⟩
theorem q74_2 (S : fx_S) (x1 x2 : Int) (hS : fx_Sok S) (g1 : -2147483648 ≤ x1 ∧ x1 ≤ 2147483647) (g2 : -2147483648 ≤ x2 ∧ x2 ≤ 2147483647) (v2 : Int) (e2 : v2 = S.1 67 2) (b2 : -2147483648 ≤ v2 ∧ v2 ≤ 2147483647) (v3 : Int) (e3 : v3 = fx_sub v2 1) (v4 : Int) (S1 : fx_S) (k1 : fx_Sok S1) (b4 : -2147483648 ≤ v4 ∧ v4 ≤ 2147483647) (p1 : s113 S x1 0 v3 v4 S1) (c1 : v4 ≠ 0) (v5 : Int) (e5 : v5 = S1.1 67 5) (b5 : -2147483648 ≤ v5 ∧ v5 ≤ 2147483647) (v6 : Int) (e6 : v6 = fx_sub v5 1) (v7 : Int) (S2 : fx_S) (k2 : fx_Sok S2) (b7 : -2147483648 ≤ v7 ∧ v7 ≤ 2147483647) (p2 : s113 S1 x2 0 v6 v7 S2) (c2 : v7 = 0) : s74 S x1 x2 (-2) S2 := by
  obtain ⟨rfl, p1⟩ := p1
  obtain ⟨rfl, p2⟩ := p2
  unfold s74
  intro hB
  have BS := hB
  have NS := fx_WB_n BS
  have h3 := e3
  first | rw [fx_sub_eq (by omega) (by omega)] at h3 | skip
  have m1 := fx_in01 p1
  have h6 := e6
  first | rw [fx_sub_eq (by omega) (by omega)] at h6 | skip
  have m2 := fx_in01 p2
  refine ⟨rfl, ?_, BS, ?_⟩
  · intro p i hW
    exact rfl
  · exact .inl ⟨rfl, by omega, rfl⟩
theorem q75_0 (S : fx_S) (hS : fx_Sok S) (v0 : Int) (S1 : fx_S) (k1 : fx_Sok S1) (b0 : v0 = 0) (p1 : s191 S (-1) v0 S1) (S2 : fx_S) (d2 : S2 = (fx_cy S1.1 39 0 43 0 12, S1.2)) (z : Int) (Z : fx_S) (kz : fx_Sok Z) (bz : -2147483648 ≤ z ∧ z ≤ 2147483647) (pz : s192 S2 0 3 z Z) : s75 S  z Z := by
  obtain ⟨r1, f1⟩ := p1
  obtain ⟨rZ, fZ⟩ := pz
  refine ⟨(rZ).trans (((show S2.2 = S1.2 by rw [d2])).trans (r1)), ?_⟩
  · intro p i hW
    clear b0
    exact ((fZ p i (by omega))).trans (((show S2.1 p i = S1.1 p i by rw [d2]; exact if_neg (by omega))).trans ((f1 p i (by omega))))
theorem q76_0 (S : fx_S) (hS : fx_Sok S) (S1 : fx_S) (d1 : S1 = (fx_up S.1 66 25 1, S.2)) (z : Int) (Z : fx_S) (kz : fx_Sok Z) (bz : -2147483648 ≤ z ∧ z ≤ 2147483647) (pz : s193 S1 0 0 z Z) : s76 S  z Z := by
  obtain ⟨rZ, fZ⟩ := pz
  refine ⟨(rZ).trans ((show S1.2 = S.2 by rw [d1])), ?_⟩
  · intro p i hW
    exact ((fZ p i (by omega))).trans ((show S1.1 p i = S.1 p i by rw [d1]; exact if_neg (by omega)))
theorem q77_0 (S : fx_S) (x1 : Int) (hS : fx_Sok S) (g1 : -2147483648 ≤ x1 ∧ x1 ≤ 2147483647) (v1 : Int) (S1 : fx_S) (k1 : fx_Sok S1) (b1 : -2147483648 ≤ v1 ∧ v1 ≤ 2147483647) (p1 : s114 S x1 0 79 v1 S1) (c1 : v1 = 0) : s77 S x1 (-1) S1 := by
  obtain ⟨rfl, p1⟩ := p1
  exact rfl
theorem q77_1 (S : fx_S) (x1 : Int) (hS : fx_Sok S) (g1 : -2147483648 ≤ x1 ∧ x1 ≤ 2147483647) (v1 : Int) (S1 : fx_S) (k1 : fx_Sok S1) (b1 : -2147483648 ≤ v1 ∧ v1 ≤ 2147483647) (p1 : s114 S x1 0 79 v1 S1) (c1 : v1 ≠ 0) (c2 : 0 ≤ x1) (c3 : x1 < 80) (v2 : Int) (e2 : v2 = S1.1 61 x1) (b2 : -2147483648 ≤ v2 ∧ v2 ≤ 2147483647) : s77 S x1 v2 S1 := by
  obtain ⟨rfl, p1⟩ := p1
  exact rfl
theorem q78_0 (S : fx_S) (x1 : Int) (hS : fx_Sok S) (g1 : -2147483648 ≤ x1 ∧ x1 ≤ 2147483647) (v1 : Int) (e1 : v1 = S.1 66 25) (b1 : -2147483648 ≤ v1 ∧ v1 ≤ 2147483647) (c1 : v1 = 0) : s78 S x1 (-1) S := by
  exact rfl
theorem q78_1 (S : fx_S) (x1 : Int) (hS : fx_Sok S) (g1 : -2147483648 ≤ x1 ∧ x1 ≤ 2147483647) (v1 : Int) (e1 : v1 = S.1 66 25) (b1 : -2147483648 ≤ v1 ∧ v1 ≤ 2147483647) (c1 : v1 ≠ 0) (v2 : Int) (S1 : fx_S) (k1 : fx_Sok S1) (b2 : -2147483648 ≤ v2 ∧ v2 ≤ 2147483647) (p1 : s113 S x1 0 79 v2 S1) (c2 : v2 = 0) : s78 S x1 (-1) S1 := by
  obtain ⟨rfl, p1⟩ := p1
  exact rfl
theorem q78_2 (S : fx_S) (x1 : Int) (hS : fx_Sok S) (g1 : -2147483648 ≤ x1 ∧ x1 ≤ 2147483647) (v1 : Int) (e1 : v1 = S.1 66 25) (b1 : -2147483648 ≤ v1 ∧ v1 ≤ 2147483647) (c1 : v1 ≠ 0) (v2 : Int) (S1 : fx_S) (k1 : fx_Sok S1) (b2 : -2147483648 ≤ v2 ∧ v2 ≤ 2147483647) (p1 : s113 S x1 0 79 v2 S1) (c2 : v2 ≠ 0) (c3 : 0 ≤ x1) (c4 : x1 < 80) (v3 : Int) (e3 : v3 = S1.1 81 x1) (b3 : -2147483648 ≤ v3 ∧ v3 ≤ 2147483647) : s78 S x1 v3 S1 := by
  obtain ⟨rfl, p1⟩ := p1
  exact rfl
theorem q79_0 (S : fx_S) (x1 x2 : Int) (hS : fx_Sok S) (g1 : -2147483648 ≤ x1 ∧ x1 ≤ 2147483647) (g2 : -2147483648 ≤ x2 ∧ x2 ≤ 2147483647) (v2 : Int) (e2 : v2 = S.1 13 0) (b2 : -2147483648 ≤ v2 ∧ v2 ≤ 2147483647) (v3 : Int) (e3 : v3 = fx_sub v2 1) (v4 : Int) (S1 : fx_S) (k1 : fx_Sok S1) (b4 : -2147483648 ≤ v4 ∧ v4 ≤ 2147483647) (p1 : s114 S x1 0 v3 v4 S1) (c1 : v4 = 0) : s79 S x1 x2 (-2) S1 := by
  obtain ⟨rfl, p1⟩ := p1
  refine ⟨rfl, ?_, ?_⟩
  · intro p i hW
    clear c1 b4 e3 b2 e2
    exact rfl
  · skip
    intro h0_
    have h3 := e3
    first | rw [fx_sub_eq (by omega) (by omega)] at h3 | skip
    have m1 := fx_in01 p1
    exact cast (if_neg (by omega)).symm ⟨rfl, rfl⟩
theorem q79_1 (S : fx_S) (x1 x2 : Int) (hS : fx_Sok S) (g1 : -2147483648 ≤ x1 ∧ x1 ≤ 2147483647) (g2 : -2147483648 ≤ x2 ∧ x2 ≤ 2147483647) (v2 : Int) (e2 : v2 = S.1 13 0) (b2 : -2147483648 ≤ v2 ∧ v2 ≤ 2147483647) (v3 : Int) (e3 : v3 = fx_sub v2 1) (v4 : Int) (S1 : fx_S) (k1 : fx_Sok S1) (b4 : -2147483648 ≤ v4 ∧ v4 ≤ 2147483647) (p1 : s114 S x1 0 v3 v4 S1) (c1 : v4 ≠ 0) (v5 : Int) (S2 : fx_S) (k2 : fx_Sok S2) (b5 : -2147483648 ≤ v5 ∧ v5 ≤ 2147483647) (p2 : s114 S1 x2 0 99 v5 S2) (c2 : v5 ≠ 0) (c3 : 0 ≤ x1) (c4 : x1 < 80) (v6 : Int) (e6 : v6 = S2.1 18 x1) (b6 : -2147483648 ≤ v6 ∧ v6 ≤ 2147483647) (c5 : 0 ≤ x1) (c6 : x1 < 80) (S3 : fx_S) (d3 : S3 = (fx_up S2.1 18 x1 x2, S2.2)) : s79 S x1 x2 v6 S3 := by
  obtain ⟨rfl, p1⟩ := p1
  obtain ⟨rfl, p2⟩ := p2
  refine ⟨(show S3.2 = S.2 by rw [d3]), ?_, ?_⟩
  · intro p i hW
    clear c6 c5 b6 e6 c4 c3 c2 b5 c1 b4 e3 b2 e2
    exact (show S3.1 p i = S.1 p i by rw [d3]; exact if_neg (by omega))
  · skip
    intro h0_
    have h3 := e3
    first | rw [fx_sub_eq (by omega) (by omega)] at h3 | skip
    have m1 := fx_in01 p1
    have m2 := fx_in01 p2
    refine cast (if_pos (by omega)).symm ⟨by omega, fun i => ?_⟩
    by_cases hi : i = x1
    all_goals (subst d3; dsimp only [fx_up]; repeat (first | rw [if_pos (by omega)] | rw [if_neg (by omega)]))
    all_goals first | omega | rfl
theorem q79_2 (S : fx_S) (x1 x2 : Int) (hS : fx_Sok S) (g1 : -2147483648 ≤ x1 ∧ x1 ≤ 2147483647) (g2 : -2147483648 ≤ x2 ∧ x2 ≤ 2147483647) (v2 : Int) (e2 : v2 = S.1 13 0) (b2 : -2147483648 ≤ v2 ∧ v2 ≤ 2147483647) (v3 : Int) (e3 : v3 = fx_sub v2 1) (v4 : Int) (S1 : fx_S) (k1 : fx_Sok S1) (b4 : -2147483648 ≤ v4 ∧ v4 ≤ 2147483647) (p1 : s114 S x1 0 v3 v4 S1) (c1 : v4 ≠ 0) (v5 : Int) (S2 : fx_S) (k2 : fx_Sok S2) (b5 : -2147483648 ≤ v5 ∧ v5 ≤ 2147483647) (p2 : s114 S1 x2 0 99 v5 S2) (c2 : v5 = 0) : s79 S x1 x2 (-2) S2 := by
  obtain ⟨rfl, p1⟩ := p1
  obtain ⟨rfl, p2⟩ := p2
  refine ⟨rfl, ?_, ?_⟩
  · intro p i hW
    clear c2 b5 c1 b4 e3 b2 e2
    exact rfl
  · skip
    intro h0_
    have h3 := e3
    first | rw [fx_sub_eq (by omega) (by omega)] at h3 | skip
    have m1 := fx_in01 p1
    have m2 := fx_in01 p2
    exact cast (if_neg (by omega)).symm ⟨rfl, rfl⟩
theorem q80_0 (S : fx_S) (x1 x2 : Int) (hS : fx_Sok S) (g1 : -2147483648 ≤ x1 ∧ x1 ≤ 2147483647) (g2 : -2147483648 ≤ x2 ∧ x2 ≤ 2147483647) (v2 : Int) (e2 : v2 = S.1 67 2) (b2 : -2147483648 ≤ v2 ∧ v2 ≤ 2147483647) (v3 : Int) (e3 : v3 = fx_sub v2 1) (v4 : Int) (S1 : fx_S) (k1 : fx_Sok S1) (b4 : -2147483648 ≤ v4 ∧ v4 ≤ 2147483647) (p1 : s113 S x1 0 v3 v4 S1) (c1 : v4 = 0) : s80 S x1 x2 (-2) S1 := by
  obtain ⟨rfl, p1⟩ := p1
  unfold s80
  intro hB
  have BS := hB
  have NS := fx_WB_n BS
  have h3 := e3
  first | rw [fx_sub_eq (by omega) (by omega)] at h3 | skip
  have m1 := fx_in01 p1
  refine ⟨rfl, ?_, BS, ?_⟩
  · intro p i hW
    exact rfl
  · exact cast (if_neg (by omega)).symm ⟨rfl, rfl⟩
theorem q80_1 (S : fx_S) (x1 x2 : Int) (hS : fx_Sok S) (g1 : -2147483648 ≤ x1 ∧ x1 ≤ 2147483647) (g2 : -2147483648 ≤ x2 ∧ x2 ≤ 2147483647) (v2 : Int) (e2 : v2 = S.1 67 2) (b2 : -2147483648 ≤ v2 ∧ v2 ≤ 2147483647) (v3 : Int) (e3 : v3 = fx_sub v2 1) (v4 : Int) (S1 : fx_S) (k1 : fx_Sok S1) (b4 : -2147483648 ≤ v4 ∧ v4 ≤ 2147483647) (p1 : s113 S x1 0 v3 v4 S1) (c1 : v4 ≠ 0) (v5 : Int) (S2 : fx_S) (k2 : fx_Sok S2) (b5 : -2147483648 ≤ v5 ∧ v5 ≤ 2147483647) (p2 : s113 S1 x2 0 99 v5 S2) (c2 : v5 ≠ 0) (v6 : Int) (e6 : v6 = fx_mul 10 x1) (v7 : Int) (e7 : v7 = fx_add 300 v6) (v8 : Int) (e8 : v8 = fx_add v7 4) (c3 : 0 ≤ v8) (c4 : v8 < 8090) (v9 : Int) (e9 : v9 = S2.1 67 v8) (b9 : -2147483648 ≤ v9 ∧ v9 ≤ 2147483647) (c5 : 0 ≤ v8) (c6 : v8 < 8090) (S3 : fx_S) (d3 : S3 = (fx_up S2.1 67 v8 x2, S2.2)) : s80 S x1 x2 v9 S3 := by
  obtain ⟨rfl, p1⟩ := p1
  obtain ⟨rfl, p2⟩ := p2
  unfold s80
  intro hB
  have BS := hB
  have NS := fx_WB_n BS
  have h3 := e3
  first | rw [fx_sub_eq (by omega) (by omega)] at h3 | skip
  have m1 := fx_in01 p1
  have m2 := fx_in01 p2
  have h6 := e6
  first | rw [fx_mul_eq (by omega) (by omega)] at h6 | skip
  have h7 := e7
  first | rw [fx_add_eq (by omega) (by omega)] at h7 | skip
  have h8 := e8
  first | rw [fx_add_eq (by omega) (by omega)] at h8 | skip
  have BS3 : fx_WB S3 := by rw [d3]; exact fx_WB_up BS (by omega) (by omega) (by omega) (by omega) (by omega) (by omega) (by omega) (by omega) (by omega) (by omega) (by omega) (fun h => absurd h (by omega))
  refine ⟨(show S3.2 = S.2 by rw [d3]), ?_, BS3, ?_⟩
  · intro p i hW
    exact (show S3.1 p i = S.1 p i by rw [d3]; exact if_neg (by omega))
  · have u4 : S.1 67 (304 + 10 * x1) = v9 := by rw [show (304 : Int) + 10 * x1 = v8 by omega]; exact e9.symm
    refine cast (if_pos (by omega)).symm ⟨by omega, fun i => ?_⟩
    by_cases hi : i = 304 + 10 * x1
    all_goals (subst d3; dsimp only [fx_up]; repeat (first | rw [if_pos (by omega)] | rw [if_neg (by omega)]))
    all_goals first | omega | rfl
theorem q80_2 (S : fx_S) (x1 x2 : Int) (hS : fx_Sok S) (g1 : -2147483648 ≤ x1 ∧ x1 ≤ 2147483647) (g2 : -2147483648 ≤ x2 ∧ x2 ≤ 2147483647) (v2 : Int) (e2 : v2 = S.1 67 2) (b2 : -2147483648 ≤ v2 ∧ v2 ≤ 2147483647) (v3 : Int) (e3 : v3 = fx_sub v2 1) (v4 : Int) (S1 : fx_S) (k1 : fx_Sok S1) (b4 : -2147483648 ≤ v4 ∧ v4 ≤ 2147483647) (p1 : s113 S x1 0 v3 v4 S1) (c1 : v4 ≠ 0) (v5 : Int) (S2 : fx_S) (k2 : fx_Sok S2) (b5 : -2147483648 ≤ v5 ∧ v5 ≤ 2147483647) (p2 : s113 S1 x2 0 99 v5 S2) (c2 : v5 = 0) : s80 S x1 x2 (-2) S2 := by
  obtain ⟨rfl, p1⟩ := p1
  obtain ⟨rfl, p2⟩ := p2
  unfold s80
  intro hB
  have BS := hB
  have NS := fx_WB_n BS
  have h3 := e3
  first | rw [fx_sub_eq (by omega) (by omega)] at h3 | skip
  have m1 := fx_in01 p1
  have m2 := fx_in01 p2
  refine ⟨rfl, ?_, BS, ?_⟩
  · intro p i hW
    exact rfl
  · exact cast (if_neg (by omega)).symm ⟨rfl, rfl⟩
theorem q81_0 (S : fx_S) (x1 : Int) (hS : fx_Sok S) (g1 : -2147483648 ≤ x1 ∧ x1 ≤ 2147483647) (c1 : x1 = 0) (v1 : Int) (S1 : fx_S) (k1 : fx_Sok S1) (b1 : -2147483648 ≤ v1 ∧ v1 ≤ 2147483647) (p1 : s194 S  v1 S1) : s81 S x1 v1 S1 := by
  obtain ⟨r1, f1⟩ := p1
  refine ⟨r1, ?_⟩
  · intro p i hW
    clear b1 c1
    exact (f1 p i (by omega))
theorem q81_1 (S : fx_S) (x1 : Int) (hS : fx_Sok S) (g1 : -2147483648 ≤ x1 ∧ x1 ≤ 2147483647) (c1 : x1 ≠ 0) (c2 : x1 = 1) (v1 : Int) (S1 : fx_S) (k1 : fx_Sok S1) (b1 : -2147483648 ≤ v1 ∧ v1 ≤ 2147483647) (p1 : s195 S  v1 S1) : s81 S x1 v1 S1 := by
  obtain ⟨r1, f1⟩ := p1
  refine ⟨r1, ?_⟩
  · intro p i hW
    clear b1 c2 c1
    exact (f1 p i (by omega))
theorem q81_2 (S : fx_S) (x1 : Int) (hS : fx_Sok S) (g1 : -2147483648 ≤ x1 ∧ x1 ≤ 2147483647) (c1 : x1 ≠ 0) (c2 : x1 ≠ 1) : s81 S x1 (-2) S := by
  refine ⟨rfl, ?_⟩
  · intro p i hW
    clear c2 c1
    exact rfl
theorem q82_0 (S : fx_S) (x1 : Int) (hS : fx_Sok S) (g1 : -2147483648 ≤ x1 ∧ x1 ≤ 2147483647) (v1 : Int) (S1 : fx_S) (k1 : fx_Sok S1) (b1 : -2147483648 ≤ v1 ∧ v1 ≤ 2147483647) (p1 : s113 S x1 0 1 v1 S1) (c1 : v1 ≠ 0) (c2 : x1 ≠ 0) (v2 : Int) (S2 : fx_S) (k2 : fx_Sok S2) (b2 : v2 = 0) (p2 : s196 S1  v2 S2) (v3 : Int) (e3 : v3 = S2.1 66 29) (b3 : -2147483648 ≤ v3 ∧ v3 ≤ 2147483647) : s82 S x1 v3 S2 := by
  obtain ⟨rfl, p1⟩ := p1
  obtain ⟨r2, f2⟩ := p2
  refine ⟨r2, ?_⟩
  · intro p i hW
    clear b3 e3 b2 c2 c1 b1
    exact (f2 p i (by omega))
theorem q82_1 (S : fx_S) (x1 : Int) (hS : fx_Sok S) (g1 : -2147483648 ≤ x1 ∧ x1 ≤ 2147483647) (v1 : Int) (S1 : fx_S) (k1 : fx_Sok S1) (b1 : -2147483648 ≤ v1 ∧ v1 ≤ 2147483647) (p1 : s113 S x1 0 1 v1 S1) (c1 : v1 ≠ 0) (c2 : x1 = 0) (v2 : Int) (S2 : fx_S) (k2 : fx_Sok S2) (b2 : v2 = 0) (p2 : s197 S1  v2 S2) (v3 : Int) (e3 : v3 = S2.1 66 29) (b3 : -2147483648 ≤ v3 ∧ v3 ≤ 2147483647) : s82 S x1 v3 S2 := by
  obtain ⟨rfl, p1⟩ := p1
  obtain ⟨r2, f2⟩ := p2
  refine ⟨r2, ?_⟩
  · intro p i hW
    clear b3 e3 b2 c2 c1 b1
    exact (f2 p i (by omega))
theorem q82_2 (S : fx_S) (x1 : Int) (hS : fx_Sok S) (g1 : -2147483648 ≤ x1 ∧ x1 ≤ 2147483647) (v1 : Int) (S1 : fx_S) (k1 : fx_Sok S1) (b1 : -2147483648 ≤ v1 ∧ v1 ≤ 2147483647) (p1 : s113 S x1 0 1 v1 S1) (c1 : v1 = 0) : s82 S x1 (-2) S1 := by
  obtain ⟨rfl, p1⟩ := p1
  refine ⟨rfl, ?_⟩
  · intro p i hW
    clear c1 b1
    exact rfl
theorem q83_0 (S : fx_S) (x1 x2 : Int) (hS : fx_Sok S) (g1 : -2147483648 ≤ x1 ∧ x1 ≤ 2147483647) (g2 : -2147483648 ≤ x2 ∧ x2 ≤ 2147483647) (v2 : Int) (e2 : v2 = S.1 13 0) (b2 : -2147483648 ≤ v2 ∧ v2 ≤ 2147483647) (v3 : Int) (e3 : v3 = fx_sub v2 1) (v4 : Int) (S1 : fx_S) (k1 : fx_Sok S1) (b4 : -2147483648 ≤ v4 ∧ v4 ≤ 2147483647) (p1 : s114 S x1 0 v3 v4 S1) (c1 : v4 = 0) : s83 S x1 x2 (-2) S1 := by
  obtain ⟨rfl, p1⟩ := p1
  refine ⟨rfl, ?_⟩
  · intro p i hW
    clear c1 b4 e3 b2 e2
    exact rfl
theorem q83_1 (S : fx_S) (x1 x2 : Int) (hS : fx_Sok S) (g1 : -2147483648 ≤ x1 ∧ x1 ≤ 2147483647) (g2 : -2147483648 ≤ x2 ∧ x2 ≤ 2147483647) (v2 : Int) (e2 : v2 = S.1 13 0) (b2 : -2147483648 ≤ v2 ∧ v2 ≤ 2147483647) (v3 : Int) (e3 : v3 = fx_sub v2 1) (v4 : Int) (S1 : fx_S) (k1 : fx_Sok S1) (b4 : -2147483648 ≤ v4 ∧ v4 ≤ 2147483647) (p1 : s114 S x1 0 v3 v4 S1) (c1 : v4 ≠ 0) (v5 : Int) (S2 : fx_S) (k2 : fx_Sok S2) (b5 : -2147483648 ≤ v5 ∧ v5 ≤ 2147483647) (p2 : s114 S1 x2 0 1 v5 S2) (c2 : v5 ≠ 0) (c3 : x2 ≠ 0) (v6 : Int) (S3 : fx_S) (k3 : fx_Sok S3) (b6 : -2147483648 ≤ v6 ∧ v6 ≤ 2147483647) (p3 : s195 S2  v6 S3) (c4 : 0 ≤ x1) (c5 : x1 < 80) (v7 : Int) (e7 : v7 = S3.1 64 x1) (b7 : -128 ≤ v7 ∧ v7 ≤ 127) : s83 S x1 x2 v7 S3 := by
  obtain ⟨rfl, p1⟩ := p1
  obtain ⟨rfl, p2⟩ := p2
  obtain ⟨r3, f3⟩ := p3
  refine ⟨r3, ?_⟩
  · intro p i hW
    clear b7 e7 c5 c4 b6 c3 c2 b5 c1 b4 e3 b2 e2
    exact (f3 p i (by omega))
theorem q83_2 (S : fx_S) (x1 x2 : Int) (hS : fx_Sok S) (g1 : -2147483648 ≤ x1 ∧ x1 ≤ 2147483647) (g2 : -2147483648 ≤ x2 ∧ x2 ≤ 2147483647) (v2 : Int) (e2 : v2 = S.1 13 0) (b2 : -2147483648 ≤ v2 ∧ v2 ≤ 2147483647) (v3 : Int) (e3 : v3 = fx_sub v2 1) (v4 : Int) (S1 : fx_S) (k1 : fx_Sok S1) (b4 : -2147483648 ≤ v4 ∧ v4 ≤ 2147483647) (p1 : s114 S x1 0 v3 v4 S1) (c1 : v4 ≠ 0) (v5 : Int) (S2 : fx_S) (k2 : fx_Sok S2) (b5 : -2147483648 ≤ v5 ∧ v5 ≤ 2147483647) (p2 : s114 S1 x2 0 1 v5 S2) (c2 : v5 ≠ 0) (c3 : x2 = 0) (v6 : Int) (S3 : fx_S) (k3 : fx_Sok S3) (b6 : -2147483648 ≤ v6 ∧ v6 ≤ 2147483647) (p3 : s194 S2  v6 S3) (c4 : 0 ≤ x1) (c5 : x1 < 80) (v7 : Int) (e7 : v7 = S3.1 64 x1) (b7 : -128 ≤ v7 ∧ v7 ≤ 127) : s83 S x1 x2 v7 S3 := by
  obtain ⟨rfl, p1⟩ := p1
  obtain ⟨rfl, p2⟩ := p2
  obtain ⟨r3, f3⟩ := p3
  refine ⟨r3, ?_⟩
  · intro p i hW
    clear b7 e7 c5 c4 b6 c3 c2 b5 c1 b4 e3 b2 e2
    exact (f3 p i (by omega))
theorem q83_3 (S : fx_S) (x1 x2 : Int) (hS : fx_Sok S) (g1 : -2147483648 ≤ x1 ∧ x1 ≤ 2147483647) (g2 : -2147483648 ≤ x2 ∧ x2 ≤ 2147483647) (v2 : Int) (e2 : v2 = S.1 13 0) (b2 : -2147483648 ≤ v2 ∧ v2 ≤ 2147483647) (v3 : Int) (e3 : v3 = fx_sub v2 1) (v4 : Int) (S1 : fx_S) (k1 : fx_Sok S1) (b4 : -2147483648 ≤ v4 ∧ v4 ≤ 2147483647) (p1 : s114 S x1 0 v3 v4 S1) (c1 : v4 ≠ 0) (v5 : Int) (S2 : fx_S) (k2 : fx_Sok S2) (b5 : -2147483648 ≤ v5 ∧ v5 ≤ 2147483647) (p2 : s114 S1 x2 0 1 v5 S2) (c2 : v5 = 0) : s83 S x1 x2 (-2) S2 := by
  obtain ⟨rfl, p1⟩ := p1
  obtain ⟨rfl, p2⟩ := p2
  refine ⟨rfl, ?_⟩
  · intro p i hW
    clear c2 b5 c1 b4 e3 b2 e2
    exact rfl
theorem q84_0 (S : fx_S) (x1 x2 : Int) (hS : fx_Sok S) (g1 : -2147483648 ≤ x1 ∧ x1 ≤ 2147483647) (g2 : -2147483648 ≤ x2 ∧ x2 ≤ 2147483647) (v2 : Int) (S1 : fx_S) (k1 : fx_Sok S1) (b2 : -2147483648 ≤ v2 ∧ v2 ≤ 2147483647) (p1 : s113 S x2 0 1 v2 S1) (c1 : v2 = 0) : s84 S x1 x2 (-2) S1 := by
  obtain ⟨rfl, p1⟩ := p1
  refine ⟨rfl, ?_⟩
  · intro p i hW
    clear c1 b2
    exact rfl
theorem q84_1 (S : fx_S) (x1 x2 : Int) (hS : fx_Sok S) (g1 : -2147483648 ≤ x1 ∧ x1 ≤ 2147483647) (g2 : -2147483648 ≤ x2 ∧ x2 ≤ 2147483647) (v2 : Int) (S1 : fx_S) (k1 : fx_Sok S1) (b2 : -2147483648 ≤ v2 ∧ v2 ≤ 2147483647) (p1 : s113 S x2 0 1 v2 S1) (c1 : v2 ≠ 0) (v3 : Int) (e3 : v3 = S1.1 67 2) (b3 : -2147483648 ≤ v3 ∧ v3 ≤ 2147483647) (v4 : Int) (e4 : v4 = fx_sub v3 1) (v5 : Int) (S2 : fx_S) (k2 : fx_Sok S2) (b5 : -2147483648 ≤ v5 ∧ v5 ≤ 2147483647) (p2 : s113 S1 x1 0 v4 v5 S2) (c2 : v5 ≠ 0) (c3 : x2 ≠ 0) (v6 : Int) (S3 : fx_S) (k3 : fx_Sok S3) (b6 : v6 = 0) (p3 : s196 S2  v6 S3) (c4 : 0 ≤ x1) (c5 : x1 < 80) (v7 : Int) (e7 : v7 = S3.1 83 x1) (b7 : 0 ≤ v7 ∧ v7 ≤ 1) (c6 : v7 = 0) : s84 S x1 x2 0 S3 := by
  obtain ⟨rfl, p1⟩ := p1
  obtain ⟨rfl, p2⟩ := p2
  obtain ⟨r3, f3⟩ := p3
  refine ⟨r3, ?_⟩
  · intro p i hW
    clear c6 b7 e7 c5 c4 b6 c3 c2 b5 e4 b3 e3 c1 b2
    exact (f3 p i (by omega))
theorem q84_2 (S : fx_S) (x1 x2 : Int) (hS : fx_Sok S) (g1 : -2147483648 ≤ x1 ∧ x1 ≤ 2147483647) (g2 : -2147483648 ≤ x2 ∧ x2 ≤ 2147483647) (v2 : Int) (S1 : fx_S) (k1 : fx_Sok S1) (b2 : -2147483648 ≤ v2 ∧ v2 ≤ 2147483647) (p1 : s113 S x2 0 1 v2 S1) (c1 : v2 ≠ 0) (v3 : Int) (e3 : v3 = S1.1 67 2) (b3 : -2147483648 ≤ v3 ∧ v3 ≤ 2147483647) (v4 : Int) (e4 : v4 = fx_sub v3 1) (v5 : Int) (S2 : fx_S) (k2 : fx_Sok S2) (b5 : -2147483648 ≤ v5 ∧ v5 ≤ 2147483647) (p2 : s113 S1 x1 0 v4 v5 S2) (c2 : v5 ≠ 0) (c3 : x2 ≠ 0) (v6 : Int) (S3 : fx_S) (k3 : fx_Sok S3) (b6 : v6 = 0) (p3 : s196 S2  v6 S3) (c4 : 0 ≤ x1) (c5 : x1 < 80) (v7 : Int) (e7 : v7 = S3.1 83 x1) (b7 : 0 ≤ v7 ∧ v7 ≤ 1) (c6 : v7 ≠ 0) : s84 S x1 x2 1 S3 := by
  obtain ⟨rfl, p1⟩ := p1
  obtain ⟨rfl, p2⟩ := p2
  obtain ⟨r3, f3⟩ := p3
  refine ⟨r3, ?_⟩
  · intro p i hW
    clear c6 b7 e7 c5 c4 b6 c3 c2 b5 e4 b3 e3 c1 b2
    exact (f3 p i (by omega))
theorem q84_3 (S : fx_S) (x1 x2 : Int) (hS : fx_Sok S) (g1 : -2147483648 ≤ x1 ∧ x1 ≤ 2147483647) (g2 : -2147483648 ≤ x2 ∧ x2 ≤ 2147483647) (v2 : Int) (S1 : fx_S) (k1 : fx_Sok S1) (b2 : -2147483648 ≤ v2 ∧ v2 ≤ 2147483647) (p1 : s113 S x2 0 1 v2 S1) (c1 : v2 ≠ 0) (v3 : Int) (e3 : v3 = S1.1 67 2) (b3 : -2147483648 ≤ v3 ∧ v3 ≤ 2147483647) (v4 : Int) (e4 : v4 = fx_sub v3 1) (v5 : Int) (S2 : fx_S) (k2 : fx_Sok S2) (b5 : -2147483648 ≤ v5 ∧ v5 ≤ 2147483647) (p2 : s113 S1 x1 0 v4 v5 S2) (c2 : v5 ≠ 0) (c3 : x2 = 0) (v6 : Int) (S3 : fx_S) (k3 : fx_Sok S3) (b6 : v6 = 0) (p3 : s197 S2  v6 S3) (c4 : 0 ≤ x1) (c5 : x1 < 80) (v7 : Int) (e7 : v7 = S3.1 83 x1) (b7 : 0 ≤ v7 ∧ v7 ≤ 1) (c6 : v7 = 0) : s84 S x1 x2 0 S3 := by
  obtain ⟨rfl, p1⟩ := p1
  obtain ⟨rfl, p2⟩ := p2
  obtain ⟨r3, f3⟩ := p3
  refine ⟨r3, ?_⟩
  · intro p i hW
    clear c6 b7 e7 c5 c4 b6 c3 c2 b5 e4 b3 e3 c1 b2
    exact (f3 p i (by omega))
theorem q84_4 (S : fx_S) (x1 x2 : Int) (hS : fx_Sok S) (g1 : -2147483648 ≤ x1 ∧ x1 ≤ 2147483647) (g2 : -2147483648 ≤ x2 ∧ x2 ≤ 2147483647) (v2 : Int) (S1 : fx_S) (k1 : fx_Sok S1) (b2 : -2147483648 ≤ v2 ∧ v2 ≤ 2147483647) (p1 : s113 S x2 0 1 v2 S1) (c1 : v2 ≠ 0) (v3 : Int) (e3 : v3 = S1.1 67 2) (b3 : -2147483648 ≤ v3 ∧ v3 ≤ 2147483647) (v4 : Int) (e4 : v4 = fx_sub v3 1) (v5 : Int) (S2 : fx_S) (k2 : fx_Sok S2) (b5 : -2147483648 ≤ v5 ∧ v5 ≤ 2147483647) (p2 : s113 S1 x1 0 v4 v5 S2) (c2 : v5 ≠ 0) (c3 : x2 = 0) (v6 : Int) (S3 : fx_S) (k3 : fx_Sok S3) (b6 : v6 = 0) (p3 : s197 S2  v6 S3) (c4 : 0 ≤ x1) (c5 : x1 < 80) (v7 : Int) (e7 : v7 = S3.1 83 x1) (b7 : 0 ≤ v7 ∧ v7 ≤ 1) (c6 : v7 ≠ 0) : s84 S x1 x2 1 S3 := by
  obtain ⟨rfl, p1⟩ := p1
  obtain ⟨rfl, p2⟩ := p2
  obtain ⟨r3, f3⟩ := p3
  refine ⟨r3, ?_⟩
  · intro p i hW
    clear c6 b7 e7 c5 c4 b6 c3 c2 b5 e4 b3 e3 c1 b2
    exact (f3 p i (by omega))
theorem q84_5 (S : fx_S) (x1 x2 : Int) (hS : fx_Sok S) (g1 : -2147483648 ≤ x1 ∧ x1 ≤ 2147483647) (g2 : -2147483648 ≤ x2 ∧ x2 ≤ 2147483647) (v2 : Int) (S1 : fx_S) (k1 : fx_Sok S1) (b2 : -2147483648 ≤ v2 ∧ v2 ≤ 2147483647) (p1 : s113 S x2 0 1 v2 S1) (c1 : v2 ≠ 0) (v3 : Int) (e3 : v3 = S1.1 67 2) (b3 : -2147483648 ≤ v3 ∧ v3 ≤ 2147483647) (v4 : Int) (e4 : v4 = fx_sub v3 1) (v5 : Int) (S2 : fx_S) (k2 : fx_Sok S2) (b5 : -2147483648 ≤ v5 ∧ v5 ≤ 2147483647) (p2 : s113 S1 x1 0 v4 v5 S2) (c2 : v5 = 0) : s84 S x1 x2 (-2) S2 := by
  obtain ⟨rfl, p1⟩ := p1
  obtain ⟨rfl, p2⟩ := p2
  refine ⟨rfl, ?_⟩
  · intro p i hW
    clear c2 b5 e4 b3 e3 c1 b2
    exact rfl
theorem q85_0 (S : fx_S) (x1 : Int) (hS : fx_Sok S) (g1 : -2147483648 ≤ x1 ∧ x1 ≤ 2147483647) (v1 : Int) (S1 : fx_S) (k1 : fx_Sok S1) (b1 : -2147483648 ≤ v1 ∧ v1 ≤ 2147483647) (p1 : s194 S  v1 S1) (c1 : x1 < 0) : s85 S x1 (-1) S1 := by
  obtain ⟨r1, f1⟩ := p1
  refine ⟨r1, ?_⟩
  · intro p i hW
    clear c1 b1
    exact (f1 p i (by omega))
theorem q85_1 (S : fx_S) (x1 : Int) (hS : fx_Sok S) (g1 : -2147483648 ≤ x1 ∧ x1 ≤ 2147483647) (v1 : Int) (S1 : fx_S) (k1 : fx_Sok S1) (b1 : -2147483648 ≤ v1 ∧ v1 ≤ 2147483647) (p1 : s194 S  v1 S1) (c1 : 0 ≤ x1) (v2 : Int) (e2 : v2 = S1.1 0 10) (b2 : -2147483648 ≤ v2 ∧ v2 ≤ 2147483647) (c2 : v2 ≤ x1) : s85 S x1 (-1) S1 := by
  obtain ⟨r1, f1⟩ := p1
  refine ⟨r1, ?_⟩
  · intro p i hW
    clear c2 b2 e2 c1 b1
    exact (f1 p i (by omega))
theorem q85_2 (S : fx_S) (x1 : Int) (hS : fx_Sok S) (g1 : -2147483648 ≤ x1 ∧ x1 ≤ 2147483647) (v1 : Int) (S1 : fx_S) (k1 : fx_Sok S1) (b1 : -2147483648 ≤ v1 ∧ v1 ≤ 2147483647) (p1 : s194 S  v1 S1) (c1 : 0 ≤ x1) (v2 : Int) (e2 : v2 = S1.1 0 10) (b2 : -2147483648 ≤ v2 ∧ v2 ≤ 2147483647) (c2 : x1 < v2) (c3 : 0 ≤ x1) (c4 : x1 < 80) (v3 : Int) (e3 : v3 = S1.1 65 x1) (b3 : -2147483648 ≤ v3 ∧ v3 ≤ 2147483647) : s85 S x1 v3 S1 := by
  obtain ⟨r1, f1⟩ := p1
  refine ⟨r1, ?_⟩
  · intro p i hW
    clear b3 e3 c4 c3 c2 b2 e2 c1 b1
    exact (f1 p i (by omega))
theorem q86_0 (S : fx_S) (x1 : Int) (hS : fx_Sok S) (g1 : -2147483648 ≤ x1 ∧ x1 ≤ 2147483647) (v1 : Int) (S1 : fx_S) (k1 : fx_Sok S1) (b1 : v1 = 0) (p1 : s197 S  v1 S1) (v2 : Int) (e2 : v2 = S1.1 66 30) (b2 : -2147483648 ≤ v2 ∧ v2 ≤ 2147483647) (v3 : Int) (e3 : v3 = fx_sub v2 1) (v4 : Int) (S2 : fx_S) (k2 : fx_Sok S2) (b4 : -2147483648 ≤ v4 ∧ v4 ≤ 2147483647) (p2 : s113 S1 x1 0 v3 v4 S2) (c1 : v4 = 0) : s86 S x1 (-1) S2 := by
  obtain ⟨r1, f1⟩ := p1
  obtain ⟨rfl, p2⟩ := p2
  refine ⟨r1, ?_⟩
  · intro p i hW
    clear c1 b4 e3 b2 e2 b1
    exact (f1 p i (by omega))
theorem q86_1 (S : fx_S) (x1 : Int) (hS : fx_Sok S) (g1 : -2147483648 ≤ x1 ∧ x1 ≤ 2147483647) (v1 : Int) (S1 : fx_S) (k1 : fx_Sok S1) (b1 : v1 = 0) (p1 : s197 S  v1 S1) (v2 : Int) (e2 : v2 = S1.1 66 30) (b2 : -2147483648 ≤ v2 ∧ v2 ≤ 2147483647) (v3 : Int) (e3 : v3 = fx_sub v2 1) (v4 : Int) (S2 : fx_S) (k2 : fx_Sok S2) (b4 : -2147483648 ≤ v4 ∧ v4 ≤ 2147483647) (p2 : s113 S1 x1 0 v3 v4 S2) (c1 : v4 ≠ 0) (c2 : 0 ≤ x1) (c3 : x1 < 80) (v5 : Int) (e5 : v5 = S2.1 84 x1) (b5 : -2147483648 ≤ v5 ∧ v5 ≤ 2147483647) : s86 S x1 v5 S2 := by
  obtain ⟨r1, f1⟩ := p1
  obtain ⟨rfl, p2⟩ := p2
  refine ⟨r1, ?_⟩
  · intro p i hW
    clear b5 e5 c3 c2 c1 b4 e3 b2 e2 b1
    exact (f1 p i (by omega))
theorem q87_0 (S : fx_S) (x1 : Int) (hS : fx_Sok S) (g1 : -2147483648 ≤ x1 ∧ x1 ≤ 2147483647) (z : Int) (Z : fx_S) (kz : fx_Sok Z) (bz : -2147483648 ≤ z ∧ z ≤ 2147483647) (pz : s198 S x1 0 z Z) : s87 S x1 z Z := by
  obtain rfl : S = Z := pz
  exact rfl
theorem q88_0 (S : fx_S) (x1 : Int) (hS : fx_Sok S) (g1 : -2147483648 ≤ x1 ∧ x1 ≤ 2147483647) (z : Int) (Z : fx_S) (kz : fx_Sok Z) (bz : -2147483648 ≤ z ∧ z ≤ 2147483647) (pz : s199 S x1 0 0 z Z) : s88 S x1 z Z := by
  obtain rfl : S = Z := pz
  exact rfl
theorem q89_0 (S : fx_S) (x1 x2 x3 x4 : Int) (hS : fx_Sok S) (g1 : -2147483648 ≤ x1 ∧ x1 ≤ 2147483647) (g2 : -2147483648 ≤ x2 ∧ x2 ≤ 2147483647) (g3 : -2147483648 ≤ x3 ∧ x3 ≤ 2147483647) (g4 : -2147483648 ≤ x4 ∧ x4 ≤ 2147483647) (v4 : Int) (S1 : fx_S) (k1 : fx_Sok S1) (b4 : -2147483648 ≤ v4 ∧ v4 ≤ 2147483647) (p1 : s114 S x1 0 1 v4 S1) (c1 : v4 = 0) : s89 S x1 x2 x3 x4 (-2) S1 := by
  obtain ⟨rfl, p1⟩ := p1
  refine ⟨rfl, ?_⟩
  · intro p i hW
    clear c1 b4
    exact rfl
