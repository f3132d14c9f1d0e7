/-! FX: what is to be shown of the entries -/
theorem q3_1 (S : fx_S) (x1 : Int) (hS : fx_Sok S) (g1 : -2147483648 ≤ x1 ∧ x1 ≤ 2147483647) (c1 : 0 ≤ x1) (v1 : Int) (e1 : v1 = S.1 50 1) (b1 : -2147483648 ≤ v1 ∧ v1 ≤ 2147483647) (c2 : x1 ≤ v1) (S1 : fx_S) (d1 : S1 = (fx_up S.1 50 1 x1, S.2)) : s3 S x1 x1 S1 := by
  refine ⟨(show S1.2 = S.2 by rw [d1]), ?_⟩
  · intro p i hW
    clear c2 b1 e1 c1
    exact (show S1.1 p i = S.1 p i by rw [d1]; exact if_neg (by omega))
theorem q3_2 (S : fx_S) (x1 : Int) (hS : fx_Sok S) (g1 : -2147483648 ≤ x1 ∧ x1 ≤ 2147483647) (c1 : 0 ≤ x1) (v1 : Int) (e1 : v1 = S.1 50 1) (b1 : -2147483648 ≤ v1 ∧ v1 ≤ 2147483647) (c2 : v1 < x1) : s3 S x1 (-1) S := by
  refine ⟨rfl, ?_⟩
  · intro p i hW
    clear c2 b1 e1 c1
    exact rfl
theorem q4_0 (S : fx_S) (x1 : Int) (hS : fx_Sok S) (g1 : -2147483648 ≤ x1 ∧ x1 ≤ 2147483647) (v1 : Int) (e1 : v1 = S.1 66 5) (b1 : -2147483648 ≤ v1 ∧ v1 ≤ 2147483647) (v2 : Int) (S1 : fx_S) (k1 : fx_Sok S1) (b2 : -2147483648 ≤ v2 ∧ v2 ≤ 2147483647) (p1 : s113 S x1 0 v1 v2 S1) (c1 : v2 ≠ 0) (S2 : fx_S) (d2 : S2 = (fx_up S1.1 66 5 x1, S1.2)) : s4 S x1 x1 S2 := by
  obtain ⟨rfl, p1⟩ := p1
  refine ⟨(show S2.2 = S.2 by rw [d2]), ?_⟩
  · intro p i hW
    clear c1 b2 b1 e1
    exact (show S2.1 p i = S.1 p i by rw [d2]; exact if_neg (by omega))
theorem q4_1 (S : fx_S) (x1 : Int) (hS : fx_Sok S) (g1 : -2147483648 ≤ x1 ∧ x1 ≤ 2147483647) (v1 : Int) (e1 : v1 = S.1 66 5) (b1 : -2147483648 ≤ v1 ∧ v1 ≤ 2147483647) (v2 : Int) (S1 : fx_S) (k1 : fx_Sok S1) (b2 : -2147483648 ≤ v2 ∧ v2 ≤ 2147483647) (p1 : s113 S x1 0 v1 v2 S1) (c1 : v2 = 0) : s4 S x1 (-1) S1 := by
  obtain ⟨rfl, p1⟩ := p1
  refine ⟨rfl, ?_⟩
  · intro p i hW
    clear c1 b2 b1 e1
    exact rfl
theorem q5_0 (S : fx_S) (x1 : Int) (hS : fx_Sok S) (g1 : -2147483648 ≤ x1 ∧ x1 ≤ 2147483647) (c1 : x1 < 0) : s5 S x1 (-1) S := by
  refine ⟨rfl, ?_, ?_⟩
  · intro p i hW
    clear c1
    exact rfl
  · skip
    intro h0 h1
    skip
    exact cast (if_neg (by omega)).symm ⟨rfl, rfl⟩
theorem q5_1 (S : fx_S) (x1 : Int) (hS : fx_Sok S) (g1 : -2147483648 ≤ x1 ∧ x1 ≤ 2147483647) (c1 : 0 ≤ x1) (c2 : 3600 ≤ x1) : s5 S x1 (-1) S := by
  refine ⟨rfl, ?_, ?_⟩
  · intro p i hW
    clear c2 c1
    exact rfl
  · skip
    intro h0 h1
    skip
    exact cast (if_neg (by omega)).symm ⟨rfl, rfl⟩
theorem q5_2 (S : fx_S) (x1 : Int) (hS : fx_Sok S) (g1 : -2147483648 ≤ x1 ∧ x1 ≤ 2147483647) (c1 : 0 ≤ x1) (c2 : x1 < 3600) (v1 : Int) (e1 : v1 = S.1 1 0) (b1 : -2147483648 ≤ v1 ∧ v1 ≤ 2147483647) (v2 : Int) (e2 : v2 = fx_add v1 x1) (c3 : v2 < 3600) (v3 : Int) (e3 : v3 = S.1 1 0) (b3 : -2147483648 ≤ v3 ∧ v3 ≤ 2147483647) (v4 : Int) (e4 : v4 = fx_add v3 x1) (S1 : fx_S) (d1 : S1 = (fx_up S.1 1 0 v4, S.2)) (v5 : Int) (e5 : v5 = S1.1 1 0) (b5 : -2147483648 ≤ v5 ∧ v5 ≤ 2147483647) : s5 S x1 v5 S1 := by
  refine ⟨(show S1.2 = S.2 by rw [d1]), ?_, ?_⟩
  · intro p i hW
    clear b5 e5 e4 b3 e3 c3 e2 b1 e1 c2 c1
    exact (show S1.1 p i = S.1 p i by rw [d1]; exact if_neg (by omega))
  · skip
    intro h0 h1
    have h2 := e2
    first | rw [fx_add_eq (by omega) (by omega)] at h2 | skip
    obtain rfl : v1 = v3 := by rw [e3, e1]
    obtain rfl : v2 = v4 := by rw [e4, e2]
    have t5_1 : S1.1 1 0 = v2 := by rw [d1]; first | exact if_pos ⟨rfl, by omega⟩ | rfl
    rw [t5_1] at e5
    obtain rfl : v2 = v5 := e5.symm
    first | (have g2 := e2; rw [fx_add_eq (by omega) (by omega)] at g2) | skip
    exact cast (if_pos (by omega)).symm ⟨by omega, by rw [d1]; show v2 = _; omega⟩
theorem q5_3 (S : fx_S) (x1 : Int) (hS : fx_Sok S) (g1 : -2147483648 ≤ x1 ∧ x1 ≤ 2147483647) (c1 : 0 ≤ x1) (c2 : x1 < 3600) (v1 : Int) (e1 : v1 = S.1 1 0) (b1 : -2147483648 ≤ v1 ∧ v1 ≤ 2147483647) (v2 : Int) (e2 : v2 = fx_add v1 x1) (c3 : 3600 ≤ v2) : s5 S x1 (-1) S := by
  refine ⟨rfl, ?_, ?_⟩
  · intro p i hW
    clear c3 e2 b1 e1 c2 c1
    exact rfl
  · skip
    intro h0 h1
    have h2 := e2
    first | rw [fx_add_eq (by omega) (by omega)] at h2 | skip
    first | (have g2 := e2; rw [fx_add_eq (by omega) (by omega)] at g2) | skip
    exact cast (if_neg (by omega)).symm ⟨rfl, rfl⟩
theorem q6_0 (S : fx_S) (x1 : Int) (hS : fx_Sok S) (g1 : -2147483648 ≤ x1 ∧ x1 ≤ 2147483647) (v1 : Int) (S1 : fx_S) (k1 : fx_Sok S1) (b1 : -2147483648 ≤ v1 ∧ v1 ≤ 2147483647) (p1 : s113 S x1 0 3599 v1 S1) (c1 : v1 = 0) : s6 S x1 (-1) S1 := by
  obtain ⟨rfl, p1⟩ := p1
  unfold s6
  intro hB
  have BS := hB
  have NS := fx_WB_n BS
  have m1 := fx_in01 p1
  refine ⟨rfl, ?_, BS, ?_⟩
  · intro p i hW
    exact rfl
  · intro h0 h1
    exact cast (if_neg (by omega)).symm ⟨rfl, rfl⟩
theorem q6_1 (S : fx_S) (x1 : Int) (hS : fx_Sok S) (g1 : -2147483648 ≤ x1 ∧ x1 ≤ 2147483647) (v1 : Int) (S1 : fx_S) (k1 : fx_Sok S1) (b1 : -2147483648 ≤ v1 ∧ v1 ≤ 2147483647) (p1 : s113 S x1 0 3599 v1 S1) (c1 : v1 ≠ 0) (v2 : Int) (e2 : v2 = S1.1 67 0) (b2 : -2147483648 ≤ v2 ∧ v2 ≤ 2147483647) (v3 : Int) (e3 : v3 = fx_add v2 x1) (c2 : v3 ≤ 3599) (v4 : Int) (e4 : v4 = S1.1 67 0) (b4 : -2147483648 ≤ v4 ∧ v4 ≤ 2147483647) (v5 : Int) (e5 : v5 = fx_add v4 x1) (S2 : fx_S) (d2 : S2 = (fx_up S1.1 67 0 v5, S1.2)) (v6 : Int) (e6 : v6 = S2.1 67 0) (b6 : -2147483648 ≤ v6 ∧ v6 ≤ 2147483647) : s6 S x1 v6 S2 := by
  obtain ⟨rfl, p1⟩ := p1
  unfold s6
  intro hB
  have BS := hB
  have NS := fx_WB_n BS
  have m1 := fx_in01 p1
  have h3 := e3
  first | rw [fx_add_eq (by omega) (by omega)] at h3 | skip
  obtain rfl : v2 = v4 := by rw [e4, e2]
  obtain rfl : v3 = v5 := by rw [e5, e3]
  have BS2 : fx_WB S2 := by rw [d2]; exact fx_WB_up BS (by omega) (by omega) (by omega) (by omega) (by omega) (by omega) (by omega) (by omega) (by omega) (by omega) (by omega) (fun h => absurd h (by omega))
  have t6_2 : S2.1 67 0 = v3 := by rw [d2]; first | exact if_pos ⟨rfl, by omega⟩ | rfl
  rw [t6_2] at e6
  obtain rfl : v3 = v6 := e6.symm
  refine ⟨(show S2.2 = S.2 by rw [d2]), ?_, BS2, ?_⟩
  · intro p i hW
    exact (show S2.1 p i = S.1 p i by rw [d2]; exact if_neg (by omega))
  · intro h0 h1
    first | (have g3 := e3; rw [fx_add_eq (by omega) (by omega)] at g3) | skip
    exact cast (if_pos (by omega)).symm ⟨by omega, by rw [d2]; show v3 = _; omega⟩
theorem q6_2 (S : fx_S) (x1 : Int) (hS : fx_Sok S) (g1 : -2147483648 ≤ x1 ∧ x1 ≤ 2147483647) (v1 : Int) (S1 : fx_S) (k1 : fx_Sok S1) (b1 : -2147483648 ≤ v1 ∧ v1 ≤ 2147483647) (p1 : s113 S x1 0 3599 v1 S1) (c1 : v1 ≠ 0) (v2 : Int) (e2 : v2 = S1.1 67 0) (b2 : -2147483648 ≤ v2 ∧ v2 ≤ 2147483647) (v3 : Int) (e3 : v3 = fx_add v2 x1) (c2 : 3599 < v3) : s6 S x1 (-1) S1 := by
  obtain ⟨rfl, p1⟩ := p1
  unfold s6
  intro hB
  have BS := hB
  have NS := fx_WB_n BS
  have m1 := fx_in01 p1
  have h3 := e3
  first | rw [fx_add_eq (by omega) (by omega)] at h3 | skip
  refine ⟨rfl, ?_, BS, ?_⟩
  · intro p i hW
    exact rfl
  · intro h0 h1
    first | (have g3 := e3; rw [fx_add_eq (by omega) (by omega)] at g3) | skip
    exact cast (if_neg (by omega)).symm ⟨rfl, rfl⟩
theorem q7_0 (S : fx_S) (x1 x2 x3 : Int) (hS : fx_Sok S) (g1 : -2147483648 ≤ x1 ∧ x1 ≤ 2147483647) (g2 : -2147483648 ≤ x2 ∧ x2 ≤ 2147483647) (g3 : -2147483648 ≤ x3 ∧ x3 ≤ 2147483647) (v3 : Int) (S1 : fx_S) (k1 : fx_Sok S1) (b3 : -2147483648 ≤ v3 ∧ v3 ≤ 2147483647) (p1 : s114 S x1 0 99 v3 S1) (c1 : v3 = 0) : s7 S x1 x2 x3 (-2) S1 := by
  obtain ⟨rfl, p1⟩ := p1
  refine ⟨rfl, ?_, ?_⟩
  · intro p i hW
    clear c1 b3
    exact rfl
  · skip
    have m1 := fx_in01 p1
    exact .inl ⟨rfl, by omega, rfl⟩
theorem q7_1 (S : fx_S) (x1 x2 x3 : Int) (hS : fx_Sok S) (g1 : -2147483648 ≤ x1 ∧ x1 ≤ 2147483647) (g2 : -2147483648 ≤ x2 ∧ x2 ≤ 2147483647) (g3 : -2147483648 ≤ x3 ∧ x3 ≤ 2147483647) (v3 : Int) (S1 : fx_S) (k1 : fx_Sok S1) (b3 : -2147483648 ≤ v3 ∧ v3 ≤ 2147483647) (p1 : s114 S x1 0 99 v3 S1) (c1 : v3 ≠ 0) (v4 : Int) (S2 : fx_S) (k2 : fx_Sok S2) (b4 : -2147483648 ≤ v4 ∧ v4 ≤ 2147483647) (p2 : s114 S1 x2 0 99 v4 S2) (c2 : v4 = 0) : s7 S x1 x2 x3 (-2) S2 := by
  obtain ⟨rfl, p1⟩ := p1
  obtain ⟨rfl, p2⟩ := p2
  refine ⟨rfl, ?_, ?_⟩
  · intro p i hW
    clear c2 b4 c1 b3
    exact rfl
  · skip
    have m1 := fx_in01 p1
    have m2 := fx_in01 p2
    exact .inl ⟨rfl, by omega, rfl⟩
theorem q7_2 (S : fx_S) (x1 x2 x3 : Int) (hS : fx_Sok S) (g1 : -2147483648 ≤ x1 ∧ x1 ≤ 2147483647) (g2 : -2147483648 ≤ x2 ∧ x2 ≤ 2147483647) (g3 : -2147483648 ≤ x3 ∧ x3 ≤ 2147483647) (v3 : Int) (S1 : fx_S) (k1 : fx_Sok S1) (b3 : -2147483648 ≤ v3 ∧ v3 ≤ 2147483647) (p1 : s114 S x1 0 99 v3 S1) (c1 : v3 ≠ 0) (v4 : Int) (S2 : fx_S) (k2 : fx_Sok S2) (b4 : -2147483648 ≤ v4 ∧ v4 ≤ 2147483647) (p2 : s114 S1 x2 0 99 v4 S2) (c2 : v4 ≠ 0) (v5 : Int) (S3 : fx_S) (k3 : fx_Sok S3) (b5 : -2147483648 ≤ v5 ∧ v5 ≤ 2147483647) (p3 : s114 S2 x3 0 9 v5 S3) (c3 : v5 ≠ 0) (v6 : Int) (S4 : fx_S) (k4 : fx_Sok S4) (b6 : -2147483648 ≤ v6 ∧ v6 ≤ 2147483647) (p4 : s115 S3 x1 x2 x3 v6 S4) : s7 S x1 x2 x3 v6 S4 := by
  obtain ⟨rfl, p1⟩ := p1
  obtain ⟨rfl, p2⟩ := p2
  obtain ⟨rfl, p3⟩ := p3
  obtain ⟨r4, f4, p4⟩ := p4
  refine ⟨r4, ?_, ?_⟩
  · intro p i hW
    clear b6 c3 b5 c2 b4 c1 b3
    exact (f4 p i (by omega))
  · skip
    have m1 := fx_in01 p1
    have m2 := fx_in01 p2
    have m3 := fx_in01 p3
    exact .inr ⟨by omega, p4⟩
theorem q7_3 (S : fx_S) (x1 x2 x3 : Int) (hS : fx_Sok S) (g1 : -2147483648 ≤ x1 ∧ x1 ≤ 2147483647) (g2 : -2147483648 ≤ x2 ∧ x2 ≤ 2147483647) (g3 : -2147483648 ≤ x3 ∧ x3 ≤ 2147483647) (v3 : Int) (S1 : fx_S) (k1 : fx_Sok S1) (b3 : -2147483648 ≤ v3 ∧ v3 ≤ 2147483647) (p1 : s114 S x1 0 99 v3 S1) (c1 : v3 ≠ 0) (v4 : Int) (S2 : fx_S) (k2 : fx_Sok S2) (b4 : -2147483648 ≤ v4 ∧ v4 ≤ 2147483647) (p2 : s114 S1 x2 0 99 v4 S2) (c2 : v4 ≠ 0) (v5 : Int) (S3 : fx_S) (k3 : fx_Sok S3) (b5 : -2147483648 ≤ v5 ∧ v5 ≤ 2147483647) (p3 : s114 S2 x3 0 9 v5 S3) (c3 : v5 = 0) : s7 S x1 x2 x3 (-2) S3 := by
  obtain ⟨rfl, p1⟩ := p1
  obtain ⟨rfl, p2⟩ := p2
  obtain ⟨rfl, p3⟩ := p3
  refine ⟨rfl, ?_, ?_⟩
  · intro p i hW
    clear c3 b5 c2 b4 c1 b3
    exact rfl
  · skip
    have m1 := fx_in01 p1
    have m2 := fx_in01 p2
    have m3 := fx_in01 p3
    exact .inl ⟨rfl, by omega, rfl⟩
theorem q8_0 (S : fx_S) (x1 x2 x3 : Int) (hS : fx_Sok S) (g1 : -2147483648 ≤ x1 ∧ x1 ≤ 2147483647) (g2 : -2147483648 ≤ x2 ∧ x2 ≤ 2147483647) (g3 : -2147483648 ≤ x3 ∧ x3 ≤ 2147483647) (v3 : Int) (S1 : fx_S) (k1 : fx_Sok S1) (b3 : -2147483648 ≤ v3 ∧ v3 ≤ 2147483647) (p1 : s113 S x1 0 99 v3 S1) (c1 : v3 = 0) : s8 S x1 x2 x3 (-2) S1 := by
  obtain ⟨rfl, p1⟩ := p1
  unfold s8
  intro hB
  have BS := hB
  have NS := fx_WB_n BS
  have m1 := fx_in01 p1
  refine ⟨rfl, ?_, BS, ?_⟩
  · intro p i hW
    exact rfl
  · exact .inl ⟨rfl, by omega, rfl⟩
theorem q8_1 (S : fx_S) (x1 x2 x3 : Int) (hS : fx_Sok S) (g1 : -2147483648 ≤ x1 ∧ x1 ≤ 2147483647) (g2 : -2147483648 ≤ x2 ∧ x2 ≤ 2147483647) (g3 : -2147483648 ≤ x3 ∧ x3 ≤ 2147483647) (v3 : Int) (S1 : fx_S) (k1 : fx_Sok S1) (b3 : -2147483648 ≤ v3 ∧ v3 ≤ 2147483647) (p1 : s113 S x1 0 99 v3 S1) (c1 : v3 ≠ 0) (v4 : Int) (S2 : fx_S) (k2 : fx_Sok S2) (b4 : -2147483648 ≤ v4 ∧ v4 ≤ 2147483647) (p2 : s113 S1 x2 0 99 v4 S2) (c2 : v4 = 0) : s8 S x1 x2 x3 (-2) S2 := by
  obtain ⟨rfl, p1⟩ := p1
  obtain ⟨rfl, p2⟩ := p2
  unfold s8
  intro hB
  have BS := hB
  have NS := fx_WB_n BS
  have m1 := fx_in01 p1
  have m2 := fx_in01 p2
  refine ⟨rfl, ?_, BS, ?_⟩
  · intro p i hW
    exact rfl
  · exact .inl ⟨rfl, by omega, rfl⟩
theorem q8_2 (S : fx_S) (x1 x2 x3 : Int) (hS : fx_Sok S) (g1 : -2147483648 ≤ x1 ∧ x1 ≤ 2147483647) (g2 : -2147483648 ≤ x2 ∧ x2 ≤ 2147483647) (g3 : -2147483648 ≤ x3 ∧ x3 ≤ 2147483647) (v3 : Int) (S1 : fx_S) (k1 : fx_Sok S1) (b3 : -2147483648 ≤ v3 ∧ v3 ≤ 2147483647) (p1 : s113 S x1 0 99 v3 S1) (c1 : v3 ≠ 0) (v4 : Int) (S2 : fx_S) (k2 : fx_Sok S2) (b4 : -2147483648 ≤ v4 ∧ v4 ≤ 2147483647) (p2 : s113 S1 x2 0 99 v4 S2) (c2 : v4 ≠ 0) (v5 : Int) (S3 : fx_S) (k3 : fx_Sok S3) (b5 : -2147483648 ≤ v5 ∧ v5 ≤ 2147483647) (p3 : s113 S2 x3 0 9 v5 S3) (c3 : v5 ≠ 0) (v6 : Int) (e6 : v6 = S3.1 67 1) (b6 : -2147483648 ≤ v6 ∧ v6 ≤ 2147483647) (c4 : v6 ≠ 40) (v7 : Int) (e7 : v7 = fx_mul 4 v6) (v8 : Int) (e8 : v8 = fx_add 20 v7) (c5 : 0 ≤ v8) (c6 : v8 < 8090) (S4 : fx_S) (d4 : S4 = (fx_up S3.1 67 v8 x1, S3.2)) (v9 : Int) (e9 : v9 = fx_mul 4 v6) (v10 : Int) (e10 : v10 = fx_add 20 v9) (v11 : Int) (e11 : v11 = fx_add v10 1) (c7 : 0 ≤ v11) (c8 : v11 < 8090) (S5 : fx_S) (d5 : S5 = (fx_up S4.1 67 v11 x2, S4.2)) (v12 : Int) (e12 : v12 = fx_mul 4 v6) (v13 : Int) (e13 : v13 = fx_add 20 v12) (v14 : Int) (e14 : v14 = fx_add v13 2) (c9 : 0 ≤ v14) (c10 : v14 < 8090) (S6 : fx_S) (d6 : S6 = (fx_up S5.1 67 v14 x3, S5.2)) (v15 : Int) (e15 : v15 = fx_mul 4 v6) (v16 : Int) (e16 : v16 = fx_add 20 v15) (v17 : Int) (e17 : v17 = fx_add v16 3) (v18 : Int) (e18 : v18 = S6.1 67 0) (b18 : -2147483648 ≤ v18 ∧ v18 ≤ 2147483647) (c11 : 0 ≤ v17) (c12 : v17 < 8090) (S7 : fx_S) (d7 : S7 = (fx_up S6.1 67 v17 v18, S6.2)) (v19 : Int) (e19 : v19 = S7.1 67 1) (b19 : -2147483648 ≤ v19 ∧ v19 ≤ 2147483647) (v20 : Int) (e20 : v20 = fx_add v19 1) (S8 : fx_S) (d8 : S8 = (fx_up S7.1 67 1 v20, S7.2)) : s8 S x1 x2 x3 v6 S8 := by
  obtain ⟨rfl, p1⟩ := p1
  obtain ⟨rfl, p2⟩ := p2
  obtain ⟨rfl, p3⟩ := p3
  unfold s8
  intro hB
  have BS := hB
  have NS := fx_WB_n BS
  have m1 := fx_in01 p1
  have m2 := fx_in01 p2
  have m3 := fx_in01 p3
  have h7 := e7
  first | rw [fx_mul_eq (by omega) (by omega)] at h7 | skip
  have h8 := e8
  first | rw [fx_add_eq (by omega) (by omega)] at h8 | skip
  have BS4 : fx_WB S4 := by rw [d4]; exact fx_WB_up BS (by omega) (by omega) (by omega) (by omega) (by omega) (by omega) (by omega) (by omega) (by omega) (by omega) (by omega) (fun h => absurd h (by omega))
  obtain rfl : v7 = v9 := by rw [e9, e7]
  obtain rfl : v8 = v10 := by rw [e10, e8]
  have h11 := e11
  first | rw [fx_add_eq (by omega) (by omega)] at h11 | skip
  have BS5 : fx_WB S5 := by rw [d5]; exact fx_WB_up BS4 (by omega) (by omega) (by omega) (by omega) (by omega) (by omega) (by omega) (by omega) (by omega) (by omega) (by omega) (fun h => absurd h (by omega))
  obtain rfl : v7 = v12 := by rw [e12, e7]
  obtain rfl : v8 = v13 := by rw [e13, e8]
  have h14 := e14
  first | rw [fx_add_eq (by omega) (by omega)] at h14 | skip
  have BS6 : fx_WB S6 := by rw [d6]; exact fx_WB_up BS5 (by omega) (by omega) (by omega) (by omega) (by omega) (by omega) (by omega) (by omega) (by omega) (by omega) (by omega) (fun h => absurd h (by omega))
  obtain rfl : v7 = v15 := by rw [e15, e7]
  obtain rfl : v8 = v16 := by rw [e16, e8]
  have h17 := e17
  first | rw [fx_add_eq (by omega) (by omega)] at h17 | skip
  have t18_6 : S6.1 67 0 = S5.1 67 0 := by rw [d6]; first | exact if_neg (by omega) | rfl
  rw [t18_6] at e18
  have t18_5 : S5.1 67 0 = S4.1 67 0 := by rw [d5]; first | exact if_neg (by omega) | rfl
  rw [t18_5] at e18
  have t18_4 : S4.1 67 0 = S.1 67 0 := by rw [d4]; first | exact if_neg (by omega) | rfl
  rw [t18_4] at e18
  have BS7 : fx_WB S7 := by rw [d7]; exact fx_WB_up BS6 (by omega) (by omega) (by omega) (by omega) (by omega) (by omega) (by omega) (by omega) (by omega) (by omega) (by omega) (fun h => absurd h (by omega))
  have t19_7 : S7.1 67 1 = S6.1 67 1 := by rw [d7]; first | exact if_neg (by omega) | rfl
  rw [t19_7] at e19
  have t19_6 : S6.1 67 1 = S5.1 67 1 := by rw [d6]; first | exact if_neg (by omega) | rfl
  rw [t19_6] at e19
  have t19_5 : S5.1 67 1 = S4.1 67 1 := by rw [d5]; first | exact if_neg (by omega) | rfl
  rw [t19_5] at e19
  have t19_4 : S4.1 67 1 = S.1 67 1 := by rw [d4]; first | exact if_neg (by omega) | rfl
  rw [t19_4] at e19
  obtain rfl : v6 = v19 := by rw [e19, e6]
  have h20 := e20
  first | rw [fx_add_eq (by omega) (by omega)] at h20 | skip
  have BS8 : fx_WB S8 := by rw [d8]; exact fx_WB_up BS7 (by omega) (by omega) (by omega) (by omega) (by omega) (by omega) (by omega) (by omega) (by omega) (by omega) (by omega) (fun h => absurd h (by omega))
  refine ⟨((show S8.2 = S7.2 by rw [d8])).trans (((show S7.2 = S6.2 by rw [d7])).trans (((show S6.2 = S5.2 by rw [d6])).trans (((show S5.2 = S4.2 by rw [d5])).trans ((show S4.2 = S.2 by rw [d4]))))), ?_, BS8, ?_⟩
  · intro p i hW
    exact ((show S8.1 p i = S7.1 p i by rw [d8]; exact if_neg (by omega))).trans (((show S7.1 p i = S6.1 p i by rw [d7]; exact if_neg (by omega))).trans (((show S6.1 p i = S5.1 p i by rw [d6]; exact if_neg (by omega))).trans (((show S5.1 p i = S4.1 p i by rw [d5]; exact if_neg (by omega))).trans ((show S4.1 p i = S.1 p i by rw [d4]; exact if_neg (by omega))))))
  · refine .inr ⟨by omega, .inr ⟨by omega, by omega, fun i => ?_⟩⟩
    have hi : i = 1 ∨ i = 20 + 4 * S.1 67 1 ∨ i = 21 + 4 * S.1 67 1 ∨ i = 22 + 4 * S.1 67 1 ∨ i = 23 + 4 * S.1 67 1 ∨ (¬ i = 1 ∧ ¬ i = 20 + 4 * S.1 67 1 ∧ ¬ i = 21 + 4 * S.1 67 1 ∧ ¬ i = 22 + 4 * S.1 67 1 ∧ ¬ i = 23 + 4 * S.1 67 1) := by omega
    rcases hi with hi | hi | hi | hi | hi | hi
    all_goals (subst d8; subst d7; subst d6; subst d5; subst d4; dsimp only [fx_up, fx_viw]; repeat (first | rw [if_pos (by omega)] | rw [if_neg (by omega)]))
    all_goals first | omega | rfl
theorem q8_3 (S : fx_S) (x1 x2 x3 : Int) (hS : fx_Sok S) (g1 : -2147483648 ≤ x1 ∧ x1 ≤ 2147483647) (g2 : -2147483648 ≤ x2 ∧ x2 ≤ 2147483647) (g3 : -2147483648 ≤ x3 ∧ x3 ≤ 2147483647) (v3 : Int) (S1 : fx_S) (k1 : fx_Sok S1) (b3 : -2147483648 ≤ v3 ∧ v3 ≤ 2147483647) (p1 : s113 S x1 0 99 v3 S1) (c1 : v3 ≠ 0) (v4 : Int) (S2 : fx_S) (k2 : fx_Sok S2) (b4 : -2147483648 ≤ v4 ∧ v4 ≤ 2147483647) (p2 : s113 S1 x2 0 99 v4 S2) (c2 : v4 ≠ 0) (v5 : Int) (S3 : fx_S) (k3 : fx_Sok S3) (b5 : -2147483648 ≤ v5 ∧ v5 ≤ 2147483647) (p3 : s113 S2 x3 0 9 v5 S3) (c3 : v5 ≠ 0) (v6 : Int) (e6 : v6 = S3.1 67 1) (b6 : -2147483648 ≤ v6 ∧ v6 ≤ 2147483647) (c4 : v6 = 40) : s8 S x1 x2 x3 (-3) S3 := by
  obtain ⟨rfl, p1⟩ := p1
  obtain ⟨rfl, p2⟩ := p2
  obtain ⟨rfl, p3⟩ := p3
  unfold s8
  intro hB
  have BS := hB
  have NS := fx_WB_n BS
  have m1 := fx_in01 p1
  have m2 := fx_in01 p2
  have m3 := fx_in01 p3
  refine ⟨rfl, ?_, BS, ?_⟩
  · intro p i hW
    exact rfl
  · exact .inr ⟨by omega, .inl ⟨rfl, by omega, rfl⟩⟩
theorem q8_4 (S : fx_S) (x1 x2 x3 : Int) (hS : fx_Sok S) (g1 : -2147483648 ≤ x1 ∧ x1 ≤ 2147483647) (g2 : -2147483648 ≤ x2 ∧ x2 ≤ 2147483647) (g3 : -2147483648 ≤ x3 ∧ x3 ≤ 2147483647) (v3 : Int) (S1 : fx_S) (k1 : fx_Sok S1) (b3 : -2147483648 ≤ v3 ∧ v3 ≤ 2147483647) (p1 : s113 S x1 0 99 v3 S1) (c1 : v3 ≠ 0) (v4 : Int) (S2 : fx_S) (k2 : fx_Sok S2) (b4 : -2147483648 ≤ v4 ∧ v4 ≤ 2147483647) (p2 : s113 S1 x2 0 99 v4 S2) (c2 : v4 ≠ 0) (v5 : Int) (S3 : fx_S) (k3 : fx_Sok S3) (b5 : -2147483648 ≤ v5 ∧ v5 ≤ 2147483647) (p3 : s113 S2 x3 0 9 v5 S3) (c3 : v5 = 0) : s8 S x1 x2 x3 (-2) S3 := by
  obtain ⟨rfl, p1⟩ := p1
  obtain ⟨rfl, p2⟩ := p2
  obtain ⟨rfl, p3⟩ := p3
  unfold s8
  intro hB
  have BS := hB
  have NS := fx_WB_n BS
  have m1 := fx_in01 p1
  have m2 := fx_in01 p2
  have m3 := fx_in01 p3
  refine ⟨rfl, ?_, BS, ?_⟩
  · intro p i hW
    exact rfl
  · exact .inl ⟨rfl, by omega, rfl⟩
theorem q9_0 (S : fx_S) (x1 x2 : Int) (hS : fx_Sok S) (g1 : -2147483648 ≤ x1 ∧ x1 ≤ 2147483647) (g2 : -2147483648 ≤ x2 ∧ x2 ≤ 2147483647) (v2 : Int) (e2 : v2 = S.1 2 0) (b2 : -2147483648 ≤ v2 ∧ v2 ≤ 2147483647) (v3 : Int) (e3 : v3 = fx_sub v2 1) (v4 : Int) (S1 : fx_S) (k1 : fx_Sok S1) (b4 : -2147483648 ≤ v4 ∧ v4 ≤ 2147483647) (p1 : s114 S x1 0 v3 v4 S1) (c1 : v4 = 0) : s9 S x1 x2 (-2) S1 := by
  obtain ⟨rfl, p1⟩ := p1
  refine ⟨rfl, ?_, ?_⟩
  · intro p i hW
    clear c1 b4 e3 b2 e2
    exact rfl
  · skip
    intro h0_
    have h3 := e3
    first | rw [fx_sub_eq (by omega) (by omega)] at h3 | skip
    have m1 := fx_in01 p1
    exact .inl ⟨rfl, by omega, rfl⟩
theorem q9_1 (S : fx_S) (x1 x2 : Int) (hS : fx_Sok S) (g1 : -2147483648 ≤ x1 ∧ x1 ≤ 2147483647) (g2 : -2147483648 ≤ x2 ∧ x2 ≤ 2147483647) (v2 : Int) (e2 : v2 = S.1 2 0) (b2 : -2147483648 ≤ v2 ∧ v2 ≤ 2147483647) (v3 : Int) (e3 : v3 = fx_sub v2 1) (v4 : Int) (S1 : fx_S) (k1 : fx_Sok S1) (b4 : -2147483648 ≤ v4 ∧ v4 ≤ 2147483647) (p1 : s114 S x1 0 v3 v4 S1) (c1 : v4 ≠ 0) (v5 : Int) (S2 : fx_S) (k2 : fx_Sok S2) (b5 : -2147483648 ≤ v5 ∧ v5 ≤ 2147483647) (p2 : s114 S1 x2 0 9 v5 S2) (c2 : v5 ≠ 0) (v6 : Int) (e6 : v6 = S2.1 1 0) (b6 : -2147483648 ≤ v6 ∧ v6 ≤ 2147483647) (v7 : Int) (S3 : fx_S) (k3 : fx_Sok S3) (b7 : -2147483648 ≤ v7 ∧ v7 ≤ 2147483647) (p3 : s116 S2 x1 x2 v6 v7 S3) : s9 S x1 x2 v7 S3 := by
  obtain ⟨rfl, p1⟩ := p1
  obtain ⟨rfl, p2⟩ := p2
  obtain ⟨r3, f3, p3⟩ := p3
  refine ⟨r3, ?_, ?_⟩
  · intro p i hW
    clear b7 b6 e6 c2 b5 c1 b4 e3 b2 e2
    exact (f3 p i (by omega))
  · skip
    intro h0_
    have h3 := e3
    first | rw [fx_sub_eq (by omega) (by omega)] at h3 | skip
    have m1 := fx_in01 p1
    have m2 := fx_in01 p2
    exact .inr ⟨by omega, by rw [← e6]; exact p3⟩
theorem q9_2 (S : fx_S) (x1 x2 : Int) (hS : fx_Sok S) (g1 : -2147483648 ≤ x1 ∧ x1 ≤ 2147483647) (g2 : -2147483648 ≤ x2 ∧ x2 ≤ 2147483647) (v2 : Int) (e2 : v2 = S.1 2 0) (b2 : -2147483648 ≤ v2 ∧ v2 ≤ 2147483647) (v3 : Int) (e3 : v3 = fx_sub v2 1) (v4 : Int) (S1 : fx_S) (k1 : fx_Sok S1) (b4 : -2147483648 ≤ v4 ∧ v4 ≤ 2147483647) (p1 : s114 S x1 0 v3 v4 S1) (c1 : v4 ≠ 0) (v5 : Int) (S2 : fx_S) (k2 : fx_Sok S2) (b5 : -2147483648 ≤ v5 ∧ v5 ≤ 2147483647) (p2 : s114 S1 x2 0 9 v5 S2) (c2 : v5 = 0) : s9 S x1 x2 (-2) S2 := by
  obtain ⟨rfl, p1⟩ := p1
  obtain ⟨rfl, p2⟩ := p2
  refine ⟨rfl, ?_, ?_⟩
  · intro p i hW
    clear c2 b5 c1 b4 e3 b2 e2
    exact rfl
  · skip
    intro h0_
    have h3 := e3
    first | rw [fx_sub_eq (by omega) (by omega)] at h3 | skip
    have m1 := fx_in01 p1
    have m2 := fx_in01 p2
    exact .inl ⟨rfl, by omega, rfl⟩
theorem q10_0 (S : fx_S) (x1 x2 : Int) (hS : fx_Sok S) (g1 : -2147483648 ≤ x1 ∧ x1 ≤ 2147483647) (g2 : -2147483648 ≤ x2 ∧ x2 ≤ 2147483647) (v2 : Int) (e2 : v2 = S.1 67 1) (b2 : -2147483648 ≤ v2 ∧ v2 ≤ 2147483647) (v3 : Int) (e3 : v3 = fx_sub v2 1) (v4 : Int) (S1 : fx_S) (k1 : fx_Sok S1) (b4 : -2147483648 ≤ v4 ∧ v4 ≤ 2147483647) (p1 : s113 S x1 0 v3 v4 S1) (c1 : v4 = 0) : s10 S x1 x2 (-2) S1 := by
  obtain ⟨rfl, p1⟩ := p1
  unfold s10
  intro hB
  have BS := hB
  have NS := fx_WB_n BS
  have h3 := e3
  first | rw [fx_sub_eq (by omega) (by omega)] at h3 | skip
  have m1 := fx_in01 p1
  refine ⟨rfl, ?_, BS, ?_⟩
  · intro p i hW
    exact rfl
  · exact .inl ⟨rfl, by omega, rfl⟩
theorem q10_1 (S : fx_S) (x1 x2 : Int) (hS : fx_Sok S) (g1 : -2147483648 ≤ x1 ∧ x1 ≤ 2147483647) (g2 : -2147483648 ≤ x2 ∧ x2 ≤ 2147483647) (v2 : Int) (e2 : v2 = S.1 67 1) (b2 : -2147483648 ≤ v2 ∧ v2 ≤ 2147483647) (v3 : Int) (e3 : v3 = fx_sub v2 1) (v4 : Int) (S1 : fx_S) (k1 : fx_Sok S1) (b4 : -2147483648 ≤ v4 ∧ v4 ≤ 2147483647) (p1 : s113 S x1 0 v3 v4 S1) (c1 : v4 ≠ 0) (v5 : Int) (S2 : fx_S) (k2 : fx_Sok S2) (b5 : -2147483648 ≤ v5 ∧ v5 ≤ 2147483647) (p2 : s113 S1 x2 0 9 v5 S2) (c2 : v5 ≠ 0) (v6 : Int) (e6 : v6 = S2.1 67 6) (b6 : -2147483648 ≤ v6 ∧ v6 ≤ 2147483647) (v7 : Int) (e7 : v7 = fx_mul 3 v6) (v8 : Int) (e8 : v8 = fx_add 180 v7) (v9 : Int) (e9 : v9 = S2.1 67 6) (b9 : -2147483648 ≤ v9 ∧ v9 ≤ 2147483647) (c3 : v9 ≠ 40) (c4 : 0 ≤ v8) (c5 : v8 < 8090) (S3 : fx_S) (d3 : S3 = (fx_up S2.1 67 v8 x1, S2.2)) (v10 : Int) (e10 : v10 = fx_add v8 1) (c6 : 0 ≤ v10) (c7 : v10 < 8090) (S4 : fx_S) (d4 : S4 = (fx_up S3.1 67 v10 x2, S3.2)) (v11 : Int) (e11 : v11 = fx_add v8 2) (v12 : Int) (e12 : v12 = S4.1 67 0) (b12 : -2147483648 ≤ v12 ∧ v12 ≤ 2147483647) (c8 : 0 ≤ v11) (c9 : v11 < 8090) (S5 : fx_S) (d5 : S5 = (fx_up S4.1 67 v11 v12, S4.2)) (v13 : Int) (e13 : v13 = S5.1 67 6) (b13 : -2147483648 ≤ v13 ∧ v13 ≤ 2147483647) (v14 : Int) (e14 : v14 = fx_add v13 1) (S6 : fx_S) (d6 : S6 = (fx_up S5.1 67 6 v14, S5.2)) : s10 S x1 x2 0 S6 := by
  obtain ⟨rfl, p1⟩ := p1
  obtain ⟨rfl, p2⟩ := p2
  unfold s10
  intro hB
  have BS := hB
  have NS := fx_WB_n BS
  have h3 := e3
  first | rw [fx_sub_eq (by omega) (by omega)] at h3 | skip
  have m1 := fx_in01 p1
  have m2 := fx_in01 p2
  have h7 := e7
  first | rw [fx_mul_eq (by omega) (by omega)] at h7 | skip
  have h8 := e8
  first | rw [fx_add_eq (by omega) (by omega)] at h8 | skip
  obtain rfl : v6 = v9 := by rw [e9, e6]
  have BS3 : fx_WB S3 := by rw [d3]; exact fx_WB_up BS (by omega) (by omega) (by omega) (by omega) (by omega) (by omega) (by omega) (by omega) (by omega) (by omega) (by omega) (fun h => absurd h (by omega))
  have h10 := e10
  first | rw [fx_add_eq (by omega) (by omega)] at h10 | skip
  have BS4 : fx_WB S4 := by rw [d4]; exact fx_WB_up BS3 (by omega) (by omega) (by omega) (by omega) (by omega) (by omega) (by omega) (by omega) (by omega) (by omega) (by omega) (fun h => absurd h (by omega))
  have h11 := e11
  first | rw [fx_add_eq (by omega) (by omega)] at h11 | skip
  have t12_4 : S4.1 67 0 = S3.1 67 0 := by rw [d4]; first | exact if_neg (by omega) | rfl
  rw [t12_4] at e12
  have t12_3 : S3.1 67 0 = S.1 67 0 := by rw [d3]; first | exact if_neg (by omega) | rfl
  rw [t12_3] at e12
  have BS5 : fx_WB S5 := by rw [d5]; exact fx_WB_up BS4 (by omega) (by omega) (by omega) (by omega) (by omega) (by omega) (by omega) (by omega) (by omega) (by omega) (by omega) (fun h => absurd h (by omega))
  have t13_5 : S5.1 67 6 = S4.1 67 6 := by rw [d5]; first | exact if_neg (by omega) | rfl
  rw [t13_5] at e13
  have t13_4 : S4.1 67 6 = S3.1 67 6 := by rw [d4]; first | exact if_neg (by omega) | rfl
  rw [t13_4] at e13
  have t13_3 : S3.1 67 6 = S.1 67 6 := by rw [d3]; first | exact if_neg (by omega) | rfl
  rw [t13_3] at e13
  obtain rfl : v6 = v13 := by rw [e13, e6]
  have h14 := e14
  first | rw [fx_add_eq (by omega) (by omega)] at h14 | skip
  have BS6 : fx_WB S6 := by rw [d6]; exact fx_WB_up BS5 (by omega) (by omega) (by omega) (by omega) (by omega) (by omega) (by omega) (by omega) (by omega) (by omega) (by omega) (fun h => absurd h (by omega))
  refine ⟨((show S6.2 = S5.2 by rw [d6])).trans (((show S5.2 = S4.2 by rw [d5])).trans (((show S4.2 = S3.2 by rw [d4])).trans ((show S3.2 = S.2 by rw [d3])))), ?_, BS6, ?_⟩
  · intro p i hW
    exact ((show S6.1 p i = S5.1 p i by rw [d6]; exact if_neg (by omega))).trans (((show S5.1 p i = S4.1 p i by rw [d5]; exact if_neg (by omega))).trans (((show S4.1 p i = S3.1 p i by rw [d4]; exact if_neg (by omega))).trans ((show S3.1 p i = S.1 p i by rw [d3]; exact if_neg (by omega)))))
  · refine .inr ⟨by omega, .inr ⟨by omega, by omega, fun i => ?_⟩⟩
    have hi : i = 6 ∨ i = 180 + 3 * S.1 67 6 ∨ i = 181 + 3 * S.1 67 6 ∨ i = 182 + 3 * S.1 67 6 ∨ (¬ i = 6 ∧ ¬ i = 180 + 3 * S.1 67 6 ∧ ¬ i = 181 + 3 * S.1 67 6 ∧ ¬ i = 182 + 3 * S.1 67 6) := by omega
    rcases hi with hi | hi | hi | hi | hi
    all_goals (subst d6; subst d5; subst d4; subst d3; dsimp only [fx_up, fx_mow]; repeat (first | rw [if_pos (by omega)] | rw [if_neg (by omega)]))
    all_goals first | omega | rfl
theorem q10_2 (S : fx_S) (x1 x2 : Int) (hS : fx_Sok S) (g1 : -2147483648 ≤ x1 ∧ x1 ≤ 2147483647) (g2 : -2147483648 ≤ x2 ∧ x2 ≤ 2147483647) (v2 : Int) (e2 : v2 = S.1 67 1) (b2 : -2147483648 ≤ v2 ∧ v2 ≤ 2147483647) (v3 : Int) (e3 : v3 = fx_sub v2 1) (v4 : Int) (S1 : fx_S) (k1 : fx_Sok S1) (b4 : -2147483648 ≤ v4 ∧ v4 ≤ 2147483647) (p1 : s113 S x1 0 v3 v4 S1) (c1 : v4 ≠ 0) (v5 : Int) (S2 : fx_S) (k2 : fx_Sok S2) (b5 : -2147483648 ≤ v5 ∧ v5 ≤ 2147483647) (p2 : s113 S1 x2 0 9 v5 S2) (c2 : v5 ≠ 0) (v6 : Int) (e6 : v6 = S2.1 67 6) (b6 : -2147483648 ≤ v6 ∧ v6 ≤ 2147483647) (v7 : Int) (e7 : v7 = fx_mul 3 v6) (v8 : Int) (e8 : v8 = fx_add 180 v7) (v9 : Int) (e9 : v9 = S2.1 67 6) (b9 : -2147483648 ≤ v9 ∧ v9 ≤ 2147483647) (c3 : v9 = 40) : s10 S x1 x2 (-3) S2 := by
  obtain ⟨rfl, p1⟩ := p1
  obtain ⟨rfl, p2⟩ := p2
  unfold s10
  intro hB
  have BS := hB
  have NS := fx_WB_n BS
  have h3 := e3
  first | rw [fx_sub_eq (by omega) (by omega)] at h3 | skip
  have m1 := fx_in01 p1
  have m2 := fx_in01 p2
  have h7 := e7
  first | rw [fx_mul_eq (by omega) (by omega)] at h7 | skip
  have h8 := e8
  first | rw [fx_add_eq (by omega) (by omega)] at h8 | skip
  obtain rfl : v6 = v9 := by rw [e9, e6]
  refine ⟨rfl, ?_, BS, ?_⟩
  · intro p i hW
    exact rfl
  · exact .inr ⟨by omega, .inl ⟨rfl, by omega, rfl⟩⟩
theorem q10_3 (S : fx_S) (x1 x2 : Int) (hS : fx_Sok S) (g1 : -2147483648 ≤ x1 ∧ x1 ≤ 2147483647) (g2 : -2147483648 ≤ x2 ∧ x2 ≤ 2147483647) (v2 : Int) (e2 : v2 = S.1 67 1) (b2 : -2147483648 ≤ v2 ∧ v2 ≤ 2147483647) (v3 : Int) (e3 : v3 = fx_sub v2 1) (v4 : Int) (S1 : fx_S) (k1 : fx_Sok S1) (b4 : -2147483648 ≤ v4 ∧ v4 ≤ 2147483647) (p1 : s113 S x1 0 v3 v4 S1) (c1 : v4 ≠ 0) (v5 : Int) (S2 : fx_S) (k2 : fx_Sok S2) (b5 : -2147483648 ≤ v5 ∧ v5 ≤ 2147483647) (p2 : s113 S1 x2 0 9 v5 S2) (c2 : v5 = 0) : s10 S x1 x2 (-2) S2 := by
  obtain ⟨rfl, p1⟩ := p1
  obtain ⟨rfl, p2⟩ := p2
  unfold s10
  intro hB
  have BS := hB
  have NS := fx_WB_n BS
  have h3 := e3
  first | rw [fx_sub_eq (by omega) (by omega)] at h3 | skip
  have m1 := fx_in01 p1
  have m2 := fx_in01 p2
  refine ⟨rfl, ?_, BS, ?_⟩
  · intro p i hW
    exact rfl
  · exact .inl ⟨rfl, by omega, rfl⟩
theorem q11_0 (S : fx_S) (x1 : Int) (hS : fx_Sok S) (g1 : -2147483648 ≤ x1 ∧ x1 ≤ 2147483647) (c1 : x1 = (-1)) (v1 : Int) (e1 : v1 = S.1 2 8) (b1 : -2147483648 ≤ v1 ∧ v1 ≤ 2147483647) (c2 : v1 < 10) (v2 : Int) (S1 : fx_S) (k1 : fx_Sok S1) (b2 : -1 ≤ v2 ∧ v2 < S1.2.2) (p1 : s117 S  v2 S1) (v3 : Int) (e3 : v3 = S1.1 50 2) (b3 : -2147483648 ≤ v3 ∧ v3 ≤ 2147483647) (c3 : v3 = 0) (v4 : Int) (e4 : v4 = S1.1 1 0) (b4 : -2147483648 ≤ v4 ∧ v4 ≤ 2147483647) (v5 : Int) (S2 : fx_S) (k2 : fx_Sok S2) (b5 : -2147483648 ≤ v5 ∧ v5 ≤ 2147483647) (p2 : s118 S1 v2 v4 x1 v5 S2) : s11 S x1 v5 S2 := by
  unfold s117 at p1
  obtain ⟨z1, r1_, f1⟩ := p1
  have r1 : ∀ p i : Int, S1.2.1 p i = S.2.1 p i := fun p i => r1_ p i (fun h => h)
  unfold s118 at p2
  obtain ⟨z2, r2, f2⟩ := p2
  unfold s11
  exact ⟨by omega, fun p i hW => ((r2 p i (by omega))).trans ((r1 p i)), fun p i hW => ((f2 p i (by omega))).trans ((f1 p i (by omega)))⟩
theorem q11_1 (S : fx_S) (x1 : Int) (hS : fx_Sok S) (g1 : -2147483648 ≤ x1 ∧ x1 ≤ 2147483647) (c1 : x1 = (-1)) (v1 : Int) (e1 : v1 = S.1 2 8) (b1 : -2147483648 ≤ v1 ∧ v1 ≤ 2147483647) (c2 : v1 < 10) (v2 : Int) (S1 : fx_S) (k1 : fx_Sok S1) (b2 : -1 ≤ v2 ∧ v2 < S1.2.2) (p1 : s117 S  v2 S1) (v3 : Int) (e3 : v3 = S1.1 50 2) (b3 : -2147483648 ≤ v3 ∧ v3 ≤ 2147483647) (c3 : v3 ≠ 0) : s11 S x1 (-4) S1 := by
  unfold s117 at p1
  obtain ⟨z1, r1_, f1⟩ := p1
  have r1 : ∀ p i : Int, S1.2.1 p i = S.2.1 p i := fun p i => r1_ p i (fun h => h)
  unfold s11
  exact ⟨by omega, fun p i hW => (r1 p i), fun p i hW => (f1 p i (by omega))⟩
theorem q11_2 (S : fx_S) (x1 : Int) (hS : fx_Sok S) (g1 : -2147483648 ≤ x1 ∧ x1 ≤ 2147483647) (c1 : x1 = (-1)) (v1 : Int) (e1 : v1 = S.1 2 8) (b1 : -2147483648 ≤ v1 ∧ v1 ≤ 2147483647) (c2 : 10 ≤ v1) : s11 S x1 (-3) S := by
  unfold s11
  exact ⟨by omega, fun p i hW => rfl, fun p i hW => rfl⟩
theorem q11_3 (S : fx_S) (x1 : Int) (hS : fx_Sok S) (g1 : -2147483648 ≤ x1 ∧ x1 ≤ 2147483647) (c1 : x1 ≠ (-1)) (v1 : Int) (S1 : fx_S) (k1 : fx_Sok S1) (b1 : -2147483648 ≤ v1 ∧ v1 ≤ 2147483647) (p1 : s119 S x1 v1 S1) (c2 : v1 ≠ 0) (v2 : Int) (e2 : v2 = S1.1 2 8) (b2 : -2147483648 ≤ v2 ∧ v2 ≤ 2147483647) (c3 : v2 < 10) (v3 : Int) (S2 : fx_S) (k2 : fx_Sok S2) (b3 : -1 ≤ v3 ∧ v3 < S2.2.2) (p2 : s117 S1  v3 S2) (v4 : Int) (e4 : v4 = S2.1 50 2) (b4 : -2147483648 ≤ v4 ∧ v4 ≤ 2147483647) (c4 : v4 = 0) (v5 : Int) (e5 : v5 = S2.1 1 0) (b5 : -2147483648 ≤ v5 ∧ v5 ≤ 2147483647) (v6 : Int) (S3 : fx_S) (k3 : fx_Sok S3) (b6 : -2147483648 ≤ v6 ∧ v6 ≤ 2147483647) (p3 : s118 S2 v3 v5 x1 v6 S3) : s11 S x1 v6 S3 := by
  obtain rfl : S = S1 := p1
  unfold s117 at p2
  obtain ⟨z2, r2_, f2⟩ := p2
  have r2 : ∀ p i : Int, S2.2.1 p i = S.2.1 p i := fun p i => r2_ p i (fun h => h)
  unfold s118 at p3
  obtain ⟨z3, r3, f3⟩ := p3
  unfold s11
  exact ⟨by omega, fun p i hW => ((r3 p i (by omega))).trans ((r2 p i)), fun p i hW => ((f3 p i (by omega))).trans ((f2 p i (by omega)))⟩
theorem q11_4 (S : fx_S) (x1 : Int) (hS : fx_Sok S) (g1 : -2147483648 ≤ x1 ∧ x1 ≤ 2147483647) (c1 : x1 ≠ (-1)) (v1 : Int) (S1 : fx_S) (k1 : fx_Sok S1) (b1 : -2147483648 ≤ v1 ∧ v1 ≤ 2147483647) (p1 : s119 S x1 v1 S1) (c2 : v1 ≠ 0) (v2 : Int) (e2 : v2 = S1.1 2 8) (b2 : -2147483648 ≤ v2 ∧ v2 ≤ 2147483647) (c3 : v2 < 10) (v3 : Int) (S2 : fx_S) (k2 : fx_Sok S2) (b3 : -1 ≤ v3 ∧ v3 < S2.2.2) (p2 : s117 S1  v3 S2) (v4 : Int) (e4 : v4 = S2.1 50 2) (b4 : -2147483648 ≤ v4 ∧ v4 ≤ 2147483647) (c4 : v4 ≠ 0) : s11 S x1 (-4) S2 := by
  obtain rfl : S = S1 := p1
  unfold s117 at p2
  obtain ⟨z2, r2_, f2⟩ := p2
  have r2 : ∀ p i : Int, S2.2.1 p i = S.2.1 p i := fun p i => r2_ p i (fun h => h)
  unfold s11
  exact ⟨by omega, fun p i hW => (r2 p i), fun p i hW => (f2 p i (by omega))⟩
theorem q11_5 (S : fx_S) (x1 : Int) (hS : fx_Sok S) (g1 : -2147483648 ≤ x1 ∧ x1 ≤ 2147483647) (c1 : x1 ≠ (-1)) (v1 : Int) (S1 : fx_S) (k1 : fx_Sok S1) (b1 : -2147483648 ≤ v1 ∧ v1 ≤ 2147483647) (p1 : s119 S x1 v1 S1) (c2 : v1 ≠ 0) (v2 : Int) (e2 : v2 = S1.1 2 8) (b2 : -2147483648 ≤ v2 ∧ v2 ≤ 2147483647) (c3 : 10 ≤ v2) : s11 S x1 (-3) S1 := by
  obtain rfl : S = S1 := p1
  unfold s11
  exact ⟨by omega, fun p i hW => rfl, fun p i hW => rfl⟩
theorem q11_6 (S : fx_S) (x1 : Int) (hS : fx_Sok S) (g1 : -2147483648 ≤ x1 ∧ x1 ≤ 2147483647) (c1 : x1 ≠ (-1)) (v1 : Int) (S1 : fx_S) (k1 : fx_Sok S1) (b1 : -2147483648 ≤ v1 ∧ v1 ≤ 2147483647) (p1 : s119 S x1 v1 S1) (c2 : v1 = 0) : s11 S x1 (-2) S1 := by
  obtain rfl : S = S1 := p1
  unfold s11
  exact ⟨by omega, fun p i hW => rfl, fun p i hW => rfl⟩
theorem q12_0 (S : fx_S) (x1 : Int) (hS : fx_Sok S) (g1 : -2147483648 ≤ x1 ∧ x1 ≤ 2147483647) (c1 : x1 = (-1)) (v1 : Int) (e1 : v1 = S.1 67 3) (b1 : -2147483648 ≤ v1 ∧ v1 ≤ 2147483647) (c2 : v1 ≠ 10) (v2 : Int) (e2 : v2 = S.1 66 5) (b2 : -2147483648 ≤ v2 ∧ v2 ≤ 2147483647) (S1 : fx_S) (d1 : S1 = (fx_up S.1 66 7 v2, S.2)) (S2 : fx_S) (d2 : S2 = (fx_up S1.1 66 5 0, S1.2)) (S3 : fx_S) (d3 : S3 = (fx_up S2.1 66 8 0, S2.2)) (S4 : fx_S) (d4 : S4 = (fx_up S3.1 66 12 0, S3.2)) (S5 : fx_S) (d5 : S5 = (fx_up S4.1 66 13 (-1), S4.2)) (v3 : Int) (S6 : fx_S) (k6 : fx_Sok S6) (b3 : v3 = 0) (p6 : s120 S5  v3 S6) (z : Int) (Z : fx_S) (kz : fx_Sok Z) (bz : -2147483648 ≤ z ∧ z ≤ 2147483647) (pz : s121 S6 x1 0 z Z) : s12 S x1 z Z := by
  obtain ⟨r6, f6⟩ := p6
  unfold s121 at pz
  unfold s12
  intro hB
  have BS := hB
  have NS := fx_WB_n BS
  have BS1 : fx_WB S1 := by rw [d1]; exact fx_WB_off BS (by omega)
  have BS2 : fx_WB S2 := by rw [d2]; exact fx_WB_off BS1 (by omega)
  have BS3 : fx_WB S3 := by rw [d3]; exact fx_WB_off BS2 (by omega)
  have BS4 : fx_WB S4 := by rw [d4]; exact fx_WB_off BS3 (by omega)
  have BS5 : fx_WB S5 := by rw [d5]; exact fx_WB_off BS4 (by omega)
  have BS6 : fx_WB S6 := fx_WB_eq BS5 (fun q => f6 67 q (by omega)) (fun q => f6 68 q (by omega)) (fun q => f6 69 q (by omega))
  have NS6 := fx_WB_n BS6
  obtain ⟨rZ, fZ, BZ⟩ := pz BS6 ⟨by omega, by omega, by have q : S6.1 67 3 = S.1 67 3 := (f6 67 3 (by omega)).trans (by rw [d5, d4, d3, d2, d1]; rfl); omega, fun l l0 l1 => by omega⟩
  refine ⟨(rZ).trans ((r6).trans (((show S5.2 = S4.2 by rw [d5])).trans (((show S4.2 = S3.2 by rw [d4])).trans (((show S3.2 = S2.2 by rw [d3])).trans (((show S2.2 = S1.2 by rw [d2])).trans ((show S1.2 = S.2 by rw [d1]))))))), ?_, BZ⟩
  · intro p i hW
    exact ((fZ p i (by omega))).trans (((f6 p i (by omega))).trans (((show S5.1 p i = S4.1 p i by rw [d5]; exact if_neg (by omega))).trans (((show S4.1 p i = S3.1 p i by rw [d4]; exact if_neg (by omega))).trans (((show S3.1 p i = S2.1 p i by rw [d3]; exact if_neg (by omega))).trans (((show S2.1 p i = S1.1 p i by rw [d2]; exact if_neg (by omega))).trans ((show S1.1 p i = S.1 p i by rw [d1]; exact if_neg (by omega))))))))
theorem q12_1 (S : fx_S) (x1 : Int) (hS : fx_Sok S) (g1 : -2147483648 ≤ x1 ∧ x1 ≤ 2147483647) (c1 : x1 = (-1)) (v1 : Int) (e1 : v1 = S.1 67 3) (b1 : -2147483648 ≤ v1 ∧ v1 ≤ 2147483647) (c2 : v1 = 10) : s12 S x1 (-3) S := by
  unfold s12
  intro hB
  have BS := hB
  have NS := fx_WB_n BS
  refine ⟨rfl, ?_, BS⟩
  · intro p i hW
    exact rfl
theorem q12_2 (S : fx_S) (x1 : Int) (hS : fx_Sok S) (g1 : -2147483648 ≤ x1 ∧ x1 ≤ 2147483647) (c1 : x1 ≠ (-1)) (v1 : Int) (S1 : fx_S) (k1 : fx_Sok S1) (b1 : -2147483648 ≤ v1 ∧ v1 ≤ 2147483647) (p1 : s122 S x1 v1 S1) (c2 : v1 ≠ 0) (v2 : Int) (e2 : v2 = S1.1 67 3) (b2 : -2147483648 ≤ v2 ∧ v2 ≤ 2147483647) (c3 : v2 ≠ 10) (v3 : Int) (e3 : v3 = S1.1 66 5) (b3 : -2147483648 ≤ v3 ∧ v3 ≤ 2147483647) (S2 : fx_S) (d2 : S2 = (fx_up S1.1 66 7 v3, S1.2)) (S3 : fx_S) (d3 : S3 = (fx_up S2.1 66 5 0, S2.2)) (S4 : fx_S) (d4 : S4 = (fx_up S3.1 66 8 0, S3.2)) (S5 : fx_S) (d5 : S5 = (fx_up S4.1 66 12 0, S4.2)) (S6 : fx_S) (d6 : S6 = (fx_up S5.1 66 13 (-1), S5.2)) (v4 : Int) (S7 : fx_S) (k7 : fx_Sok S7) (b4 : v4 = 0) (p7 : s120 S6  v4 S7) (z : Int) (Z : fx_S) (kz : fx_Sok Z) (bz : -2147483648 ≤ z ∧ z ≤ 2147483647) (pz : s121 S7 x1 0 z Z) : s12 S x1 z Z := by
  obtain rfl : S = S1 := p1
  obtain ⟨r7, f7⟩ := p7
  unfold s121 at pz
  unfold s12
  intro hB
  have BS := hB
  have NS := fx_WB_n BS
  have BS2 : fx_WB S2 := by rw [d2]; exact fx_WB_off BS (by omega)
  have BS3 : fx_WB S3 := by rw [d3]; exact fx_WB_off BS2 (by omega)
  have BS4 : fx_WB S4 := by rw [d4]; exact fx_WB_off BS3 (by omega)
  have BS5 : fx_WB S5 := by rw [d5]; exact fx_WB_off BS4 (by omega)
  have BS6 : fx_WB S6 := by rw [d6]; exact fx_WB_off BS5 (by omega)
  have BS7 : fx_WB S7 := fx_WB_eq BS6 (fun q => f7 67 q (by omega)) (fun q => f7 68 q (by omega)) (fun q => f7 69 q (by omega))
  have NS7 := fx_WB_n BS7
  obtain ⟨rZ, fZ, BZ⟩ := pz BS7 ⟨by omega, by omega, by have q : S7.1 67 3 = S.1 67 3 := (f7 67 3 (by omega)).trans (by rw [d6, d5, d4, d3, d2]; rfl); omega, fun l l0 l1 => by omega⟩
  refine ⟨(rZ).trans ((r7).trans (((show S6.2 = S5.2 by rw [d6])).trans (((show S5.2 = S4.2 by rw [d5])).trans (((show S4.2 = S3.2 by rw [d4])).trans (((show S3.2 = S2.2 by rw [d3])).trans ((show S2.2 = S.2 by rw [d2]))))))), ?_, BZ⟩
  · intro p i hW
    exact ((fZ p i (by omega))).trans (((f7 p i (by omega))).trans (((show S6.1 p i = S5.1 p i by rw [d6]; exact if_neg (by omega))).trans (((show S5.1 p i = S4.1 p i by rw [d5]; exact if_neg (by omega))).trans (((show S4.1 p i = S3.1 p i by rw [d4]; exact if_neg (by omega))).trans (((show S3.1 p i = S2.1 p i by rw [d3]; exact if_neg (by omega))).trans ((show S2.1 p i = S.1 p i by rw [d2]; exact if_neg (by omega))))))))
theorem q12_3 (S : fx_S) (x1 : Int) (hS : fx_Sok S) (g1 : -2147483648 ≤ x1 ∧ x1 ≤ 2147483647) (c1 : x1 ≠ (-1)) (v1 : Int) (S1 : fx_S) (k1 : fx_Sok S1) (b1 : -2147483648 ≤ v1 ∧ v1 ≤ 2147483647) (p1 : s122 S x1 v1 S1) (c2 : v1 ≠ 0) (v2 : Int) (e2 : v2 = S1.1 67 3) (b2 : -2147483648 ≤ v2 ∧ v2 ≤ 2147483647) (c3 : v2 = 10) : s12 S x1 (-3) S1 := by
  obtain rfl : S = S1 := p1
  unfold s12
  intro hB
  have BS := hB
  have NS := fx_WB_n BS
  refine ⟨rfl, ?_, BS⟩
  · intro p i hW
    exact rfl
theorem q12_4 (S : fx_S) (x1 : Int) (hS : fx_Sok S) (g1 : -2147483648 ≤ x1 ∧ x1 ≤ 2147483647) (c1 : x1 ≠ (-1)) (v1 : Int) (S1 : fx_S) (k1 : fx_Sok S1) (b1 : -2147483648 ≤ v1 ∧ v1 ≤ 2147483647) (p1 : s122 S x1 v1 S1) (c2 : v1 = 0) : s12 S x1 (-2) S1 := by
  obtain rfl : S = S1 := p1
  unfold s12
  intro hB
  have BS := hB
  have NS := fx_WB_n BS
  refine ⟨rfl, ?_, BS⟩
  · intro p i hW
    exact rfl
theorem q13_0 (S : fx_S) (x1 : Int) (hS : fx_Sok S) (g1 : -2147483648 ≤ x1 ∧ x1 ≤ 2147483647) (c1 : x1 = 0) (v1 : Int) (e1 : v1 = S.1 50 2) (b1 : -2147483648 ≤ v1 ∧ v1 ≤ 2147483647) : s13 S x1 v1 S := by
  exact rfl
theorem q13_1 (S : fx_S) (x1 : Int) (hS : fx_Sok S) (g1 : -2147483648 ≤ x1 ∧ x1 ≤ 2147483647) (c1 : x1 ≠ 0) (c2 : x1 = 1) (v1 : Int) (e1 : v1 = S.1 50 3) (b1 : -2147483648 ≤ v1 ∧ v1 ≤ 2147483647) : s13 S x1 v1 S := by
  exact rfl
theorem q13_2 (S : fx_S) (x1 : Int) (hS : fx_Sok S) (g1 : -2147483648 ≤ x1 ∧ x1 ≤ 2147483647) (c1 : x1 ≠ 0) (c2 : x1 ≠ 1) : s13 S x1 (-1) S := by
  exact rfl
theorem q14_0 (S : fx_S) (x1 : Int) (hS : fx_Sok S) (g1 : -2147483648 ≤ x1 ∧ x1 ≤ 2147483647) (c1 : x1 ≠ 0) (c2 : x1 ≠ 1) : s14 S x1 (-1) S := by
  exact rfl
theorem q14_1 (S : fx_S) (x1 : Int) (hS : fx_Sok S) (g1 : -2147483648 ≤ x1 ∧ x1 ≤ 2147483647) (c1 : x1 ≠ 0) (c2 : x1 = 1) (v1 : Int) (e1 : v1 = S.1 66 13) (b1 : -2147483648 ≤ v1 ∧ v1 ≤ 2147483647) : s14 S x1 v1 S := by
  exact rfl
theorem q14_2 (S : fx_S) (x1 : Int) (hS : fx_Sok S) (g1 : -2147483648 ≤ x1 ∧ x1 ≤ 2147483647) (c1 : x1 = 0) (v1 : Int) (e1 : v1 = S.1 66 12) (b1 : -2147483648 ≤ v1 ∧ v1 ≤ 2147483647) : s14 S x1 v1 S := by
  exact rfl
theorem q15_0 (S : fx_S) (x1 x2 : Int) (hS : fx_Sok S) (g1 : -2147483648 ≤ x1 ∧ x1 ≤ 2147483647) (g2 : -2147483648 ≤ x2 ∧ x2 ≤ 2147483647) (v2 : Int) (S1 : fx_S) (k1 : fx_Sok S1) (b2 : -2147483648 ≤ v2 ∧ v2 ≤ 2147483647) (p1 : s114 S x1 0 3599 v2 S1) (c1 : v2 = 0) : s15 S x1 x2 (-2) S1 := by
  obtain ⟨rfl, p1⟩ := p1
  exact rfl
theorem q15_1 (S : fx_S) (x1 x2 : Int) (hS : fx_Sok S) (g1 : -2147483648 ≤ x1 ∧ x1 ≤ 2147483647) (g2 : -2147483648 ≤ x2 ∧ x2 ≤ 2147483647) (v2 : Int) (S1 : fx_S) (k1 : fx_Sok S1) (b2 : -2147483648 ≤ v2 ∧ v2 ≤ 2147483647) (p1 : s114 S x1 0 3599 v2 S1) (c1 : v2 ≠ 0) (v3 : Int) (S2 : fx_S) (k2 : fx_Sok S2) (b3 : -2147483648 ≤ v3 ∧ v3 ≤ 2147483647) (p2 : s114 S1 x2 0 3599 v3 S2) (c2 : v3 ≠ 0) (v4 : Int) (S3 : fx_S) (k3 : fx_Sok S3) (b4 : -2147483648 ≤ v4 ∧ v4 ≤ 2147483647) (p3 : s123 S2 x1 x2 v4 S3) : s15 S x1 x2 v4 S3 := by
  obtain ⟨rfl, p1⟩ := p1
  obtain ⟨rfl, p2⟩ := p2
  obtain ⟨rfl, p3⟩ := p3
  exact rfl
theorem q15_2 (S : fx_S) (x1 x2 : Int) (hS : fx_Sok S) (g1 : -2147483648 ≤ x1 ∧ x1 ≤ 2147483647) (g2 : -2147483648 ≤ x2 ∧ x2 ≤ 2147483647) (v2 : Int) (S1 : fx_S) (k1 : fx_Sok S1) (b2 : -2147483648 ≤ v2 ∧ v2 ≤ 2147483647) (p1 : s114 S x1 0 3599 v2 S1) (c1 : v2 ≠ 0) (v3 : Int) (S2 : fx_S) (k2 : fx_Sok S2) (b3 : -2147483648 ≤ v3 ∧ v3 ≤ 2147483647) (p2 : s114 S1 x2 0 3599 v3 S2) (c2 : v3 = 0) : s15 S x1 x2 (-2) S2 := by
  obtain ⟨rfl, p1⟩ := p1
  obtain ⟨rfl, p2⟩ := p2
  exact rfl
theorem q16_0 (S : fx_S) (x1 x2 : Int) (hS : fx_Sok S) (g1 : -2147483648 ≤ x1 ∧ x1 ≤ 2147483647) (g2 : -2147483648 ≤ x2 ∧ x2 ≤ 2147483647) (v2 : Int) (S1 : fx_S) (k1 : fx_Sok S1) (b2 : -2147483648 ≤ v2 ∧ v2 ≤ 2147483647) (p1 : s113 S x1 0 3599 v2 S1) (c1 : v2 = 0) : s16 S x1 x2 (-2) S1 := by
  obtain ⟨rfl, p1⟩ := p1
  exact rfl
theorem q16_1 (S : fx_S) (x1 x2 : Int) (hS : fx_Sok S) (g1 : -2147483648 ≤ x1 ∧ x1 ≤ 2147483647) (g2 : -2147483648 ≤ x2 ∧ x2 ≤ 2147483647) (v2 : Int) (S1 : fx_S) (k1 : fx_Sok S1) (b2 : -2147483648 ≤ v2 ∧ v2 ≤ 2147483647) (p1 : s113 S x1 0 3599 v2 S1) (c1 : v2 ≠ 0) (v3 : Int) (S2 : fx_S) (k2 : fx_Sok S2) (b3 : -2147483648 ≤ v3 ∧ v3 ≤ 2147483647) (p2 : s113 S1 x2 0 3599 v3 S2) (c2 : v3 = 0) : s16 S x1 x2 (-2) S2 := by
  obtain ⟨rfl, p1⟩ := p1
  obtain ⟨rfl, p2⟩ := p2
  exact rfl
theorem q16_2 (S : fx_S) (x1 x2 : Int) (hS : fx_Sok S) (g1 : -2147483648 ≤ x1 ∧ x1 ≤ 2147483647) (g2 : -2147483648 ≤ x2 ∧ x2 ≤ 2147483647) (v2 : Int) (S1 : fx_S) (k1 : fx_Sok S1) (b2 : -2147483648 ≤ v2 ∧ v2 ≤ 2147483647) (p1 : s113 S x1 0 3599 v2 S1) (c1 : v2 ≠ 0) (v3 : Int) (S2 : fx_S) (k2 : fx_Sok S2) (b3 : -2147483648 ≤ v3 ∧ v3 ≤ 2147483647) (p2 : s113 S1 x2 0 3599 v3 S2) (c2 : v3 ≠ 0) (v4 : Int) (S3 : fx_S) (k3 : fx_Sok S3) (b4 : -2147483648 ≤ v4 ∧ v4 ≤ 2147483647) (p3 : s124 S2 x1 x2 v4 S3) : s16 S x1 x2 v4 S3 := by
  obtain ⟨rfl, p1⟩ := p1
  obtain ⟨rfl, p2⟩ := p2
  obtain ⟨rfl, p3⟩ := p3
  exact rfl
theorem q17_0 (S : fx_S) (x1 x2 x3 : Int) (hS : fx_Sok S) (g1 : -2147483648 ≤ x1 ∧ x1 ≤ 2147483647) (g2 : -2147483648 ≤ x2 ∧ x2 ≤ 2147483647) (g3 : -2147483648 ≤ x3 ∧ x3 ≤ 2147483647) (v3 : Int) (e3 : v3 = S.1 2 0) (b3 : -2147483648 ≤ v3 ∧ v3 ≤ 2147483647) (v4 : Int) (e4 : v4 = fx_sub v3 1) (v5 : Int) (S1 : fx_S) (k1 : fx_Sok S1) (b5 : -2147483648 ≤ v5 ∧ v5 ≤ 2147483647) (p1 : s114 S x1 0 v4 v5 S1) (c1 : v5 = 0) : s17 S x1 x2 x3 (-2) S1 := by
  obtain ⟨rfl, p1⟩ := p1
  exact rfl
theorem q17_1 (S : fx_S) (x1 x2 x3 : Int) (hS : fx_Sok S) (g1 : -2147483648 ≤ x1 ∧ x1 ≤ 2147483647) (g2 : -2147483648 ≤ x2 ∧ x2 ≤ 2147483647) (g3 : -2147483648 ≤ x3 ∧ x3 ≤ 2147483647) (v3 : Int) (e3 : v3 = S.1 2 0) (b3 : -2147483648 ≤ v3 ∧ v3 ≤ 2147483647) (v4 : Int) (e4 : v4 = fx_sub v3 1) (v5 : Int) (S1 : fx_S) (k1 : fx_Sok S1) (b5 : -2147483648 ≤ v5 ∧ v5 ≤ 2147483647) (p1 : s114 S x1 0 v4 v5 S1) (c1 : v5 ≠ 0) (v6 : Int) (S2 : fx_S) (k2 : fx_Sok S2) (b6 : -2147483648 ≤ v6 ∧ v6 ≤ 2147483647) (p2 : s114 S1 x2 0 3599 v6 S2) (c2 : v6 = 0) : s17 S x1 x2 x3 (-2) S2 := by
  obtain ⟨rfl, p1⟩ := p1
  obtain ⟨rfl, p2⟩ := p2
  exact rfl
theorem q17_2 (S : fx_S) (x1 x2 x3 : Int) (hS : fx_Sok S) (g1 : -2147483648 ≤ x1 ∧ x1 ≤ 2147483647) (g2 : -2147483648 ≤ x2 ∧ x2 ≤ 2147483647) (g3 : -2147483648 ≤ x3 ∧ x3 ≤ 2147483647) (v3 : Int) (e3 : v3 = S.1 2 0) (b3 : -2147483648 ≤ v3 ∧ v3 ≤ 2147483647) (v4 : Int) (e4 : v4 = fx_sub v3 1) (v5 : Int) (S1 : fx_S) (k1 : fx_Sok S1) (b5 : -2147483648 ≤ v5 ∧ v5 ≤ 2147483647) (p1 : s114 S x1 0 v4 v5 S1) (c1 : v5 ≠ 0) (v6 : Int) (S2 : fx_S) (k2 : fx_Sok S2) (b6 : -2147483648 ≤ v6 ∧ v6 ≤ 2147483647) (p2 : s114 S1 x2 0 3599 v6 S2) (c2 : v6 ≠ 0) (v7 : Int) (S3 : fx_S) (k3 : fx_Sok S3) (b7 : -2147483648 ≤ v7 ∧ v7 ≤ 2147483647) (p3 : s114 S2 x3 0 3599 v7 S3) (c3 : v7 ≠ 0) (v8 : Int) (S4 : fx_S) (k4 : fx_Sok S4) (b8 : -2147483648 ≤ v8 ∧ v8 ≤ 2147483647) (p4 : s123 S3 x2 x3 v8 S4) (v9 : Int) (S5 : fx_S) (k5 : fx_Sok S5) (b9 : -2147483648 ≤ v9 ∧ v9 ≤ 2147483647) (p5 : s125 S4 x2 x3 v9 S5) (v10 : Int) (S6 : fx_S) (k6 : fx_Sok S6) (b10 : -2147483648 ≤ v10 ∧ v10 ≤ 2147483647) (p6 : s126 S5 v8 x1 v9 v10 S6) : s17 S x1 x2 x3 v10 S6 := by
  obtain ⟨rfl, p1⟩ := p1
  obtain ⟨rfl, p2⟩ := p2
  obtain ⟨rfl, p3⟩ := p3
  obtain ⟨rfl, p4⟩ := p4
  obtain ⟨rfl, p5⟩ := p5
  obtain rfl : S = S6 := p6
  exact rfl
theorem q17_3 (S : fx_S) (x1 x2 x3 : Int) (hS : fx_Sok S) (g1 : -2147483648 ≤ x1 ∧ x1 ≤ 2147483647) (g2 : -2147483648 ≤ x2 ∧ x2 ≤ 2147483647) (g3 : -2147483648 ≤ x3 ∧ x3 ≤ 2147483647) (v3 : Int) (e3 : v3 = S.1 2 0) (b3 : -2147483648 ≤ v3 ∧ v3 ≤ 2147483647) (v4 : Int) (e4 : v4 = fx_sub v3 1) (v5 : Int) (S1 : fx_S) (k1 : fx_Sok S1) (b5 : -2147483648 ≤ v5 ∧ v5 ≤ 2147483647) (p1 : s114 S x1 0 v4 v5 S1) (c1 : v5 ≠ 0) (v6 : Int) (S2 : fx_S) (k2 : fx_Sok S2) (b6 : -2147483648 ≤ v6 ∧ v6 ≤ 2147483647) (p2 : s114 S1 x2 0 3599 v6 S2) (c2 : v6 ≠ 0) (v7 : Int) (S3 : fx_S) (k3 : fx_Sok S3) (b7 : -2147483648 ≤ v7 ∧ v7 ≤ 2147483647) (p3 : s114 S2 x3 0 3599 v7 S3) (c3 : v7 = 0) : s17 S x1 x2 x3 (-2) S3 := by
  obtain ⟨rfl, p1⟩ := p1
  obtain ⟨rfl, p2⟩ := p2
  obtain ⟨rfl, p3⟩ := p3
  exact rfl
theorem q18_0 (S : fx_S) (x1 x2 x3 : Int) (hS : fx_Sok S) (g1 : -2147483648 ≤ x1 ∧ x1 ≤ 2147483647) (g2 : -2147483648 ≤ x2 ∧ x2 ≤ 2147483647) (g3 : -2147483648 ≤ x3 ∧ x3 ≤ 2147483647) (v3 : Int) (e3 : v3 = S.1 67 1) (b3 : -2147483648 ≤ v3 ∧ v3 ≤ 2147483647) (v4 : Int) (e4 : v4 = fx_sub v3 1) (v5 : Int) (S1 : fx_S) (k1 : fx_Sok S1) (b5 : -2147483648 ≤ v5 ∧ v5 ≤ 2147483647) (p1 : s113 S x1 0 v4 v5 S1) (c1 : v5 = 0) : s18 S x1 x2 x3 (-2) S1 := by
  obtain ⟨rfl, p1⟩ := p1
  refine ⟨rfl, ?_⟩
  · intro p i hW
    clear c1 b5 e4 b3 e3
    exact rfl
theorem q18_1 (S : fx_S) (x1 x2 x3 : Int) (hS : fx_Sok S) (g1 : -2147483648 ≤ x1 ∧ x1 ≤ 2147483647) (g2 : -2147483648 ≤ x2 ∧ x2 ≤ 2147483647) (g3 : -2147483648 ≤ x3 ∧ x3 ≤ 2147483647) (v3 : Int) (e3 : v3 = S.1 67 1) (b3 : -2147483648 ≤ v3 ∧ v3 ≤ 2147483647) (v4 : Int) (e4 : v4 = fx_sub v3 1) (v5 : Int) (S1 : fx_S) (k1 : fx_Sok S1) (b5 : -2147483648 ≤ v5 ∧ v5 ≤ 2147483647) (p1 : s113 S x1 0 v4 v5 S1) (c1 : v5 ≠ 0) (v6 : Int) (S2 : fx_S) (k2 : fx_Sok S2) (b6 : -2147483648 ≤ v6 ∧ v6 ≤ 2147483647) (p2 : s113 S1 x2 0 3599 v6 S2) (c2 : v6 = 0) : s18 S x1 x2 x3 (-2) S2 := by
  obtain ⟨rfl, p1⟩ := p1
  obtain ⟨rfl, p2⟩ := p2
  refine ⟨rfl, ?_⟩
  · intro p i hW
    clear c2 b6 c1 b5 e4 b3 e3
    exact rfl
theorem q18_2 (S : fx_S) (x1 x2 x3 : Int) (hS : fx_Sok S) (g1 : -2147483648 ≤ x1 ∧ x1 ≤ 2147483647) (g2 : -2147483648 ≤ x2 ∧ x2 ≤ 2147483647) (g3 : -2147483648 ≤ x3 ∧ x3 ≤ 2147483647) (v3 : Int) (e3 : v3 = S.1 67 1) (b3 : -2147483648 ≤ v3 ∧ v3 ≤ 2147483647) (v4 : Int) (e4 : v4 = fx_sub v3 1) (v5 : Int) (S1 : fx_S) (k1 : fx_Sok S1) (b5 : -2147483648 ≤ v5 ∧ v5 ≤ 2147483647) (p1 : s113 S x1 0 v4 v5 S1) (c1 : v5 ≠ 0) (v6 : Int) (S2 : fx_S) (k2 : fx_Sok S2) (b6 : -2147483648 ≤ v6 ∧ v6 ≤ 2147483647) (p2 : s113 S1 x2 0 3599 v6 S2) (c2 : v6 ≠ 0) (v7 : Int) (S3 : fx_S) (k3 : fx_Sok S3) (b7 : -2147483648 ≤ v7 ∧ v7 ≤ 2147483647) (p3 : s113 S2 x3 0 3599 v7 S3) (c3 : v7 ≠ 0) (v8 : Int) (S4 : fx_S) (k4 : fx_Sok S4) (b8 : -2147483648 ≤ v8 ∧ v8 ≤ 2147483647) (p4 : s124 S3 x2 x3 v8 S4) (v9 : Int) (S5 : fx_S) (k5 : fx_Sok S5) (b9 : -2147483648 ≤ v9 ∧ v9 ≤ 2147483647) (p5 : s125 S4 x2 x3 v9 S5) (v10 : Int) (S6 : fx_S) (k6 : fx_Sok S6) (b10 : -2147483648 ≤ v10 ∧ v10 ≤ 2147483647) (p6 : s127 S5 x1 v9 v10 S6) (v11 : Int) (S7 : fx_S) (k7 : fx_Sok S7) (b11 : -2147483648 ≤ v11 ∧ v11 ≤ 2147483647) (p7 : s128 S6 v8 x1 v10 v11 S7) : s18 S x1 x2 x3 v11 S7 := by
  obtain ⟨rfl, p1⟩ := p1
  obtain ⟨rfl, p2⟩ := p2
  obtain ⟨rfl, p3⟩ := p3
  obtain ⟨rfl, p4⟩ := p4
  obtain ⟨rfl, p5⟩ := p5
  obtain rfl : S = S6 := p6
  obtain ⟨r7, f7, p7⟩ := p7
  refine ⟨r7, ?_⟩
  · intro p i hW
    clear b11 b10 b9 b8 c3 b7 c2 b6 c1 b5 e4 b3 e3
    exact (f7 p i (by omega))
theorem q18_3 (S : fx_S) (x1 x2 x3 : Int) (hS : fx_Sok S) (g1 : -2147483648 ≤ x1 ∧ x1 ≤ 2147483647) (g2 : -2147483648 ≤ x2 ∧ x2 ≤ 2147483647) (g3 : -2147483648 ≤ x3 ∧ x3 ≤ 2147483647) (v3 : Int) (e3 : v3 = S.1 67 1) (b3 : -2147483648 ≤ v3 ∧ v3 ≤ 2147483647) (v4 : Int) (e4 : v4 = fx_sub v3 1) (v5 : Int) (S1 : fx_S) (k1 : fx_Sok S1) (b5 : -2147483648 ≤ v5 ∧ v5 ≤ 2147483647) (p1 : s113 S x1 0 v4 v5 S1) (c1 : v5 ≠ 0) (v6 : Int) (S2 : fx_S) (k2 : fx_Sok S2) (b6 : -2147483648 ≤ v6 ∧ v6 ≤ 2147483647) (p2 : s113 S1 x2 0 3599 v6 S2) (c2 : v6 ≠ 0) (v7 : Int) (S3 : fx_S) (k3 : fx_Sok S3) (b7 : -2147483648 ≤ v7 ∧ v7 ≤ 2147483647) (p3 : s113 S2 x3 0 3599 v7 S3) (c3 : v7 = 0) : s18 S x1 x2 x3 (-2) S3 := by
  obtain ⟨rfl, p1⟩ := p1
  obtain ⟨rfl, p2⟩ := p2
  obtain ⟨rfl, p3⟩ := p3
  refine ⟨rfl, ?_⟩
  · intro p i hW
    clear c3 b7 c2 b6 c1 b5 e4 b3 e3
    exact rfl
