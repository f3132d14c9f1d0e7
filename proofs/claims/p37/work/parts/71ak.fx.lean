/-! FX: what is to be shown of the entries -/
theorem q105_2 (S : fx_S) (x1 x2 x3 : Int) (hS : fx_Sok S) (g1 : -2147483648 ≤ x1 ∧ x1 ≤ 2147483647) (g2 : -2147483648 ≤ x2 ∧ x2 ≤ 2147483647) (g3 : -2147483648 ≤ x3 ∧ x3 ≤ 2147483647) (c1 : 0 ≤ x1) (c2 : x1 < 4) (v3 : Int) (S1 : fx_S) (k1 : fx_Sok S1) (b3 : -2147483648 ≤ v3 ∧ v3 ≤ 2147483647) (p1 : s114 S x2 0 3 v3 S1) (c3 : v3 = 0) : s105 S x1 x2 x3 (-2) S1 := by
  obtain ⟨rfl, p1⟩ := p1
  refine ⟨rfl, ?_, ?_⟩
  · intro p i hW
    clear c3 b3 c2 c1
    exact rfl
  · skip
    have m1 := fx_in01 p1
    first | have m1 := fx_in01 p1 | skip
    first | have m2 := fx_in01 p2 | skip
    exact .inl ⟨rfl, by omega, rfl⟩
theorem q105_3 (S : fx_S) (x1 x2 x3 : Int) (hS : fx_Sok S) (g1 : -2147483648 ≤ x1 ∧ x1 ≤ 2147483647) (g2 : -2147483648 ≤ x2 ∧ x2 ≤ 2147483647) (g3 : -2147483648 ≤ x3 ∧ x3 ≤ 2147483647) (c1 : 0 ≤ x1) (c2 : x1 < 4) (v3 : Int) (S1 : fx_S) (k1 : fx_Sok S1) (b3 : -2147483648 ≤ v3 ∧ v3 ≤ 2147483647) (p1 : s114 S x2 0 3 v3 S1) (c3 : v3 ≠ 0) (c4 : x3 ≤ 60) (c5 : 0 ≤ x3) (v4 : Int) (S2 : fx_S) (k2 : fx_Sok S2) (b4 : v4 = 0) (p2 : s211 S1 x1 x2 x3 v4 S2) : s105 S x1 x2 x3 0 S2 := by
  obtain ⟨rfl, p1⟩ := p1
  obtain ⟨r2, f2, p2⟩ := p2
  refine ⟨r2, ?_, ?_⟩
  · intro p i hW
    clear b4 c5 c4 c3 b3 c2 c1
    exact (f2 p i (by omega))
  · skip
    have m1 := fx_in01 p1
    first | have m1 := fx_in01 p1 | skip
    first | have m2 := fx_in01 p2 | skip
    exact .inr ⟨by omega, .inr ⟨by omega, rfl, p2 (by omega) (by omega)⟩⟩
theorem q105_4 (S : fx_S) (x1 x2 x3 : Int) (hS : fx_Sok S) (g1 : -2147483648 ≤ x1 ∧ x1 ≤ 2147483647) (g2 : -2147483648 ≤ x2 ∧ x2 ≤ 2147483647) (g3 : -2147483648 ≤ x3 ∧ x3 ≤ 2147483647) (c1 : 0 ≤ x1) (c2 : x1 < 4) (v3 : Int) (S1 : fx_S) (k1 : fx_Sok S1) (b3 : -2147483648 ≤ v3 ∧ v3 ≤ 2147483647) (p1 : s114 S x2 0 3 v3 S1) (c3 : v3 ≠ 0) (c4 : x3 ≤ 60) (c5 : x3 < 0) : s105 S x1 x2 x3 (-3) S1 := by
  obtain ⟨rfl, p1⟩ := p1
  refine ⟨rfl, ?_, ?_⟩
  · intro p i hW
    clear c5 c4 c3 b3 c2 c1
    exact rfl
  · skip
    have m1 := fx_in01 p1
    first | have m1 := fx_in01 p1 | skip
    first | have m2 := fx_in01 p2 | skip
    exact .inr ⟨by omega, .inl ⟨rfl, by omega, rfl⟩⟩
theorem q105_5 (S : fx_S) (x1 x2 x3 : Int) (hS : fx_Sok S) (g1 : -2147483648 ≤ x1 ∧ x1 ≤ 2147483647) (g2 : -2147483648 ≤ x2 ∧ x2 ≤ 2147483647) (g3 : -2147483648 ≤ x3 ∧ x3 ≤ 2147483647) (c1 : 0 ≤ x1) (c2 : x1 < 4) (v3 : Int) (S1 : fx_S) (k1 : fx_Sok S1) (b3 : -2147483648 ≤ v3 ∧ v3 ≤ 2147483647) (p1 : s114 S x2 0 3 v3 S1) (c3 : v3 ≠ 0) (c4 : 60 < x3) : s105 S x1 x2 x3 (-2) S1 := by
  obtain ⟨rfl, p1⟩ := p1
  refine ⟨rfl, ?_, ?_⟩
  · intro p i hW
    clear c4 c3 b3 c2 c1
    exact rfl
  · skip
    have m1 := fx_in01 p1
    first | have m1 := fx_in01 p1 | skip
    first | have m2 := fx_in01 p2 | skip
    exact .inl ⟨rfl, by omega, rfl⟩
theorem q106_0 (S : fx_S) (x1 x2 x3 : Int) (hS : fx_Sok S) (g1 : -2147483648 ≤ x1 ∧ x1 ≤ 2147483647) (g2 : -2147483648 ≤ x2 ∧ x2 ≤ 2147483647) (g3 : -2147483648 ≤ x3 ∧ x3 ≤ 2147483647) (v3 : Int) (S1 : fx_S) (k1 : fx_Sok S1) (b3 : -2147483648 ≤ v3 ∧ v3 ≤ 2147483647) (p1 : s113 S x1 0 3 v3 S1) (c1 : v3 = 0) : s106 S x1 x2 x3 (-2) S1 := by
  obtain ⟨rfl, p1⟩ := p1
  refine ⟨rfl, ?_, ?_⟩
  · intro p i hW
    clear c1 b3
    exact rfl
  · skip
    have m1 := fx_in01 p1
    first | have m1 := fx_in01 p1 | skip
    first | have m2 := fx_in01 p2 | skip
    exact .inl ⟨rfl, by omega, rfl⟩
theorem q106_1 (S : fx_S) (x1 x2 x3 : Int) (hS : fx_Sok S) (g1 : -2147483648 ≤ x1 ∧ x1 ≤ 2147483647) (g2 : -2147483648 ≤ x2 ∧ x2 ≤ 2147483647) (g3 : -2147483648 ≤ x3 ∧ x3 ≤ 2147483647) (v3 : Int) (S1 : fx_S) (k1 : fx_Sok S1) (b3 : -2147483648 ≤ v3 ∧ v3 ≤ 2147483647) (p1 : s113 S x1 0 3 v3 S1) (c1 : v3 ≠ 0) (v4 : Int) (S2 : fx_S) (k2 : fx_Sok S2) (b4 : -2147483648 ≤ v4 ∧ v4 ≤ 2147483647) (p2 : s113 S1 x2 0 3 v4 S2) (c2 : v4 = 0) : s106 S x1 x2 x3 (-2) S2 := by
  obtain ⟨rfl, p1⟩ := p1
  obtain ⟨rfl, p2⟩ := p2
  refine ⟨rfl, ?_, ?_⟩
  · intro p i hW
    clear c2 b4 c1 b3
    exact rfl
  · skip
    have m1 := fx_in01 p1
    have m2 := fx_in01 p2
    first | have m1 := fx_in01 p1 | skip
    first | have m2 := fx_in01 p2 | skip
    exact .inl ⟨rfl, by omega, rfl⟩
theorem q106_2 (S : fx_S) (x1 x2 x3 : Int) (hS : fx_Sok S) (g1 : -2147483648 ≤ x1 ∧ x1 ≤ 2147483647) (g2 : -2147483648 ≤ x2 ∧ x2 ≤ 2147483647) (g3 : -2147483648 ≤ x3 ∧ x3 ≤ 2147483647) (v3 : Int) (S1 : fx_S) (k1 : fx_Sok S1) (b3 : -2147483648 ≤ v3 ∧ v3 ≤ 2147483647) (p1 : s113 S x1 0 3 v3 S1) (c1 : v3 ≠ 0) (v4 : Int) (S2 : fx_S) (k2 : fx_Sok S2) (b4 : -2147483648 ≤ v4 ∧ v4 ≤ 2147483647) (p2 : s113 S1 x2 0 3 v4 S2) (c2 : v4 ≠ 0) (c3 : x3 ≤ 60) (c4 : 0 ≤ x3) (c5 : 0 ≤ x1) (c6 : x1 < 4) (S3 : fx_S) (d3 : S3 = (fx_up S2.1 87 x1 x3, S2.2)) (c7 : 0 ≤ x1) (c8 : x1 < 4) (S4 : fx_S) (d4 : S4 = (fx_up S3.1 88 x1 x2, S3.2)) (z : Int) (Z : fx_S) (kz : fx_Sok Z) (bz : -2147483648 ≤ z ∧ z ≤ 2147483647) (pz : s212 S4 x1 0 z Z) : s106 S x1 x2 x3 z Z := by
  obtain ⟨rfl, p1⟩ := p1
  obtain ⟨rfl, p2⟩ := p2
  obtain ⟨rZ, fZ, pz⟩ := pz
  refine ⟨(rZ).trans (((show S4.2 = S3.2 by rw [d4])).trans ((show S3.2 = S.2 by rw [d3]))), ?_, ?_⟩
  · intro p i hW
    clear c8 c7 c6 c5 c4 c3 c2 b4 c1 b3
    exact ((fZ p i (by omega))).trans (((show S4.1 p i = S3.1 p i by rw [d4]; exact if_neg (by omega))).trans ((show S3.1 p i = S.1 p i by rw [d3]; exact if_neg (by omega))))
  · skip
    have m1 := fx_in01 p1
    have m2 := fx_in01 p2
    first | have m1 := fx_in01 p1 | skip
    first | have m2 := fx_in01 p2 | skip
    obtain ⟨b0, b1⟩ := pz (by omega) (by omega) (by omega)
    refine .inr ⟨by omega, .inr ⟨by omega, b0, fun s => ?_, fun s => ?_, fun i => ?_⟩⟩
    · rw [fZ 87 s (by omega)]
      by_cases hs : s = x1
      all_goals (subst d4; subst d3; dsimp only [fx_up]; repeat (first | rw [if_pos (by omega)] | rw [if_neg (by omega)]))
      all_goals first | omega | rfl
    · rw [fZ 88 s (by omega)]
      by_cases hs : s = x1
      all_goals (subst d4; subst d3; dsimp only [fx_up]; repeat (first | rw [if_pos (by omega)] | rw [if_neg (by omega)]))
      all_goals first | omega | rfl
    · rw [b1 i, show 60 * x1 + 0 = 60 * x1 by omega]
      by_cases hs : 60 * x1 ≤ i ∧ i < 60 * x1 + 60
      · rw [if_pos hs, if_pos hs]
      · rw [if_neg hs, if_neg hs]
        subst d4; subst d3
        dsimp only [fx_up]
        repeat (first | rw [if_pos (by omega)] | rw [if_neg (by omega)])
theorem q106_3 (S : fx_S) (x1 x2 x3 : Int) (hS : fx_Sok S) (g1 : -2147483648 ≤ x1 ∧ x1 ≤ 2147483647) (g2 : -2147483648 ≤ x2 ∧ x2 ≤ 2147483647) (g3 : -2147483648 ≤ x3 ∧ x3 ≤ 2147483647) (v3 : Int) (S1 : fx_S) (k1 : fx_Sok S1) (b3 : -2147483648 ≤ v3 ∧ v3 ≤ 2147483647) (p1 : s113 S x1 0 3 v3 S1) (c1 : v3 ≠ 0) (v4 : Int) (S2 : fx_S) (k2 : fx_Sok S2) (b4 : -2147483648 ≤ v4 ∧ v4 ≤ 2147483647) (p2 : s113 S1 x2 0 3 v4 S2) (c2 : v4 ≠ 0) (c3 : x3 ≤ 60) (c4 : x3 < 0) : s106 S x1 x2 x3 (-3) S2 := by
  obtain ⟨rfl, p1⟩ := p1
  obtain ⟨rfl, p2⟩ := p2
  refine ⟨rfl, ?_, ?_⟩
  · intro p i hW
    clear c4 c3 c2 b4 c1 b3
    exact rfl
  · skip
    have m1 := fx_in01 p1
    have m2 := fx_in01 p2
    first | have m1 := fx_in01 p1 | skip
    first | have m2 := fx_in01 p2 | skip
    exact .inr ⟨by omega, .inl ⟨rfl, by omega, rfl⟩⟩
theorem q106_4 (S : fx_S) (x1 x2 x3 : Int) (hS : fx_Sok S) (g1 : -2147483648 ≤ x1 ∧ x1 ≤ 2147483647) (g2 : -2147483648 ≤ x2 ∧ x2 ≤ 2147483647) (g3 : -2147483648 ≤ x3 ∧ x3 ≤ 2147483647) (v3 : Int) (S1 : fx_S) (k1 : fx_Sok S1) (b3 : -2147483648 ≤ v3 ∧ v3 ≤ 2147483647) (p1 : s113 S x1 0 3 v3 S1) (c1 : v3 ≠ 0) (v4 : Int) (S2 : fx_S) (k2 : fx_Sok S2) (b4 : -2147483648 ≤ v4 ∧ v4 ≤ 2147483647) (p2 : s113 S1 x2 0 3 v4 S2) (c2 : v4 ≠ 0) (c3 : 60 < x3) : s106 S x1 x2 x3 (-2) S2 := by
  obtain ⟨rfl, p1⟩ := p1
  obtain ⟨rfl, p2⟩ := p2
  refine ⟨rfl, ?_, ?_⟩
  · intro p i hW
    clear c3 c2 b4 c1 b3
    exact rfl
  · skip
    have m1 := fx_in01 p1
    have m2 := fx_in01 p2
    first | have m1 := fx_in01 p1 | skip
    first | have m2 := fx_in01 p2 | skip
    exact .inl ⟨rfl, by omega, rfl⟩
theorem q107_0 (S : fx_S) (x1 x2 x3 : Int) (hS : fx_Sok S) (g1 : -2147483648 ≤ x1 ∧ x1 ≤ 2147483647) (g2 : -2147483648 ≤ x2 ∧ x2 ≤ 2147483647) (g3 : -9223372036854775808 ≤ x3 ∧ x3 ≤ 9223372036854775807) (c1 : x1 < 0) : s107 S x1 x2 x3 (-2) S := by
  refine ⟨rfl, ?_, ?_⟩
  · intro p i hW
    clear c1
    exact rfl
  · skip
    intro a0
    skip
    first | have m1 := fx_in01 p1 | skip
    first | have u0 := a0 (by omega) (by omega) | skip
    first | have m2 := fx_in01 p2 | skip
    exact cast (if_neg (by omega)).symm ⟨rfl, rfl⟩
theorem q107_1 (S : fx_S) (x1 x2 x3 : Int) (hS : fx_Sok S) (g1 : -2147483648 ≤ x1 ∧ x1 ≤ 2147483647) (g2 : -2147483648 ≤ x2 ∧ x2 ≤ 2147483647) (g3 : -9223372036854775808 ≤ x3 ∧ x3 ≤ 9223372036854775807) (c1 : 0 ≤ x1) (c2 : 4 ≤ x1) : s107 S x1 x2 x3 (-2) S := by
  refine ⟨rfl, ?_, ?_⟩
  · intro p i hW
    clear c2 c1
    exact rfl
  · skip
    intro a0
    skip
    first | have m1 := fx_in01 p1 | skip
    first | have u0 := a0 (by omega) (by omega) | skip
    first | have m2 := fx_in01 p2 | skip
    exact cast (if_neg (by omega)).symm ⟨rfl, rfl⟩
theorem q107_2 (S : fx_S) (x1 x2 x3 : Int) (hS : fx_Sok S) (g1 : -2147483648 ≤ x1 ∧ x1 ≤ 2147483647) (g2 : -2147483648 ≤ x2 ∧ x2 ≤ 2147483647) (g3 : -9223372036854775808 ≤ x3 ∧ x3 ≤ 9223372036854775807) (c1 : 0 ≤ x1) (c2 : x1 < 4) (c3 : 0 ≤ x1) (c4 : x1 < 4) (v3 : Int) (e3 : v3 = S.1 54 x1) (b3 : -2147483648 ≤ v3 ∧ v3 ≤ 2147483647) (c5 : v3 = (-1)) : s107 S x1 x2 x3 (-6) S := by
  refine ⟨rfl, ?_, ?_⟩
  · intro p i hW
    clear c5 b3 e3 c4 c3 c2 c1
    exact rfl
  · skip
    intro a0
    skip
    first | have m1 := fx_in01 p1 | skip
    first | have u0 := a0 (by omega) (by omega) | skip
    first | have m2 := fx_in01 p2 | skip
    exact cast (if_pos (by omega)).symm (cast (if_pos (by omega)).symm ⟨rfl, rfl⟩)
theorem q107_3 (S : fx_S) (x1 x2 x3 : Int) (hS : fx_Sok S) (g1 : -2147483648 ≤ x1 ∧ x1 ≤ 2147483647) (g2 : -2147483648 ≤ x2 ∧ x2 ≤ 2147483647) (g3 : -9223372036854775808 ≤ x3 ∧ x3 ≤ 9223372036854775807) (c1 : 0 ≤ x1) (c2 : x1 < 4) (c3 : 0 ≤ x1) (c4 : x1 < 4) (v3 : Int) (e3 : v3 = S.1 54 x1) (b3 : -2147483648 ≤ v3 ∧ v3 ≤ 2147483647) (c5 : v3 ≠ (-1)) (c6 : x2 < 0) : s107 S x1 x2 x3 (-7) S := by
  refine ⟨rfl, ?_, ?_⟩
  · intro p i hW
    clear c6 c5 b3 e3 c4 c3 c2 c1
    exact rfl
  · skip
    intro a0
    skip
    first | have m1 := fx_in01 p1 | skip
    first | have u0 := a0 (by omega) (by omega) | skip
    first | have m2 := fx_in01 p2 | skip
    exact cast (if_pos (by omega)).symm (cast (if_neg (by omega)).symm (cast (if_neg (by omega)).symm ⟨rfl, rfl⟩))
theorem q107_4 (S : fx_S) (x1 x2 x3 : Int) (hS : fx_Sok S) (g1 : -2147483648 ≤ x1 ∧ x1 ≤ 2147483647) (g2 : -2147483648 ≤ x2 ∧ x2 ≤ 2147483647) (g3 : -9223372036854775808 ≤ x3 ∧ x3 ≤ 9223372036854775807) (c1 : 0 ≤ x1) (c2 : x1 < 4) (c3 : 0 ≤ x1) (c4 : x1 < 4) (v3 : Int) (e3 : v3 = S.1 54 x1) (b3 : -2147483648 ≤ v3 ∧ v3 ≤ 2147483647) (c5 : v3 ≠ (-1)) (c6 : 0 ≤ x2) (c7 : 0 ≤ x1) (c8 : x1 < 4) (v4 : Int) (e4 : v4 = S.1 54 x1) (b4 : -2147483648 ≤ v4 ∧ v4 ≤ 2147483647) (c9 : x2 < v4) (v5 : Int) (S1 : fx_S) (k1 : fx_Sok S1) (b5 : v5 = 0) (p1 : s213 S x1 x2 x3 v5 S1) : s107 S x1 x2 x3 0 S1 := by
  obtain ⟨r1, f1, p1⟩ := p1
  refine ⟨r1, ?_, ?_⟩
  · intro p i hW
    clear b5 c9 b4 e4 c8 c7 c6 c5 b3 e3 c4 c3 c2 c1
    exact (f1 p i (by omega))
  · skip
    intro a0
    obtain rfl : v3 = v4 := by rw [e4, e3]
    first | have m1 := fx_in01 p1 | skip
    first | have u0 := a0 (by omega) (by omega) | skip
    first | have m2 := fx_in01 p2 | skip
    refine cast (if_pos (by omega)).symm (cast (if_neg (by omega)).symm (cast (if_pos (by omega)).symm ⟨rfl, ?_⟩))
    exact p1 (by omega) (by omega)
theorem q107_5 (S : fx_S) (x1 x2 x3 : Int) (hS : fx_Sok S) (g1 : -2147483648 ≤ x1 ∧ x1 ≤ 2147483647) (g2 : -2147483648 ≤ x2 ∧ x2 ≤ 2147483647) (g3 : -9223372036854775808 ≤ x3 ∧ x3 ≤ 9223372036854775807) (c1 : 0 ≤ x1) (c2 : x1 < 4) (c3 : 0 ≤ x1) (c4 : x1 < 4) (v3 : Int) (e3 : v3 = S.1 54 x1) (b3 : -2147483648 ≤ v3 ∧ v3 ≤ 2147483647) (c5 : v3 ≠ (-1)) (c6 : 0 ≤ x2) (c7 : 0 ≤ x1) (c8 : x1 < 4) (v4 : Int) (e4 : v4 = S.1 54 x1) (b4 : -2147483648 ≤ v4 ∧ v4 ≤ 2147483647) (c9 : v4 ≤ x2) : s107 S x1 x2 x3 (-7) S := by
  refine ⟨rfl, ?_, ?_⟩
  · intro p i hW
    clear c9 b4 e4 c8 c7 c6 c5 b3 e3 c4 c3 c2 c1
    exact rfl
  · skip
    intro a0
    obtain rfl : v3 = v4 := by rw [e4, e3]
    first | have m1 := fx_in01 p1 | skip
    first | have u0 := a0 (by omega) (by omega) | skip
    first | have m2 := fx_in01 p2 | skip
    exact cast (if_pos (by omega)).symm (cast (if_neg (by omega)).symm (cast (if_neg (by omega)).symm ⟨rfl, rfl⟩))
theorem q108_0 (S : fx_S) (x1 x2 x3 : Int) (hS : fx_Sok S) (g1 : -2147483648 ≤ x1 ∧ x1 ≤ 2147483647) (g2 : -2147483648 ≤ x2 ∧ x2 ≤ 2147483647) (g3 : -9223372036854775808 ≤ x3 ∧ x3 ≤ 9223372036854775807) (v3 : Int) (S1 : fx_S) (k1 : fx_Sok S1) (b3 : -2147483648 ≤ v3 ∧ v3 ≤ 2147483647) (p1 : s113 S x1 0 3 v3 S1) (c1 : v3 ≠ 0) (c2 : 0 ≤ x1) (c3 : x1 < 4) (v4 : Int) (e4 : v4 = S1.1 87 x1) (b4 : -2147483648 ≤ v4 ∧ v4 ≤ 2147483647) (c4 : v4 ≠ (-1)) (c5 : 0 ≤ x1) (c6 : x1 < 4) (v5 : Int) (e5 : v5 = S1.1 87 x1) (b5 : -2147483648 ≤ v5 ∧ v5 ≤ 2147483647) (v6 : Int) (e6 : v6 = fx_sub v5 1) (v7 : Int) (S2 : fx_S) (k2 : fx_Sok S2) (b7 : -2147483648 ≤ v7 ∧ v7 ≤ 2147483647) (p2 : s113 S1 x2 0 v6 v7 S2) (c7 : v7 ≠ 0) (v8 : Int) (e8 : v8 = fx_mul 60 x1) (v9 : Int) (e9 : v9 = fx_add v8 x2) (c8 : 0 ≤ x1) (c9 : x1 < 4) (v10 : Int) (e10 : v10 = S2.1 88 x1) (b10 : -2147483648 ≤ v10 ∧ v10 ≤ 2147483647) (v11 : Int) (e11 : v11 = fx_shl 8 v10) (v12 : Int) (e12 : v12 = fx_sub 64 v11) (v13 : Int) (e13 : v13 = fx_lshl x3 v12) (v14 : Int) (e14 : v14 = fx_lshr v13 v12) (c10 : 0 ≤ v9) (c11 : v9 < 240) (S3 : fx_S) (d3 : S3 = (fx_up S2.1 89 v9 v14, S2.2)) : s108 S x1 x2 x3 0 S3 := by
  obtain ⟨rfl, p1⟩ := p1
  obtain ⟨rfl, p2⟩ := p2
  refine ⟨(show S3.2 = S.2 by rw [d3]), ?_, ?_⟩
  · intro p i hW
    clear c11 c10 e14 e13 e12 e11 b10 e10 c9 c8 e9 e8 c7 b7 e6 b5 e5 c6 c5 c4 b4 e4 c3 c2 c1 b3
    exact (show S3.1 p i = S.1 p i by rw [d3]; exact if_neg (by omega))
  · skip
    intro a0
    have m1 := fx_in01 p1
    obtain rfl : v4 = v5 := by rw [e5, e4]
    have h6 := e6
    first | rw [fx_sub_eq (by omega) (by omega)] at h6 | skip
    have m2 := fx_in01 p2
    have h8 := e8
    first | rw [fx_mul_eq (by omega) (by omega)] at h8 | skip
    have h9 := e9
    first | rw [fx_add_eq (by omega) (by omega)] at h9 | skip
    have h12 := e12
    first | rw [fx_sub_eq (by omega) (by omega)] at h12 | skip
    first | have m1 := fx_in01 p1 | skip
    first | have u0 := a0 (by omega) (by omega) | skip
    first | (have g6 := e6; rw [fx_sub_eq (by omega) (by omega)] at g6) | skip
    first | (have g8 := e8; rw [fx_mul_eq (by omega) (by omega)] at g8) | skip
    first | (have g9 := e9; rw [fx_add_eq (by omega) (by omega)] at g9) | skip
    first | (have g12 := e12; rw [fx_sub_eq (by omega) (by omega)] at g12) | skip
    first | have m2 := fx_in01 p2 | skip
    refine cast (if_pos (by omega)).symm (cast (if_neg (by omega)).symm (cast (if_pos (by omega)).symm ⟨rfl, ?_⟩))
    intro i
    unfold fx_cut
    rw [← e10, ← e11, ← e12, ← e13, ← e14]
    by_cases hi : i = 60 * x1 + x2
    all_goals (subst d3; dsimp only [fx_up]; repeat (first | rw [if_pos (by omega)] | rw [if_neg (by omega)]))
    all_goals first | omega | rfl
theorem q108_1 (S : fx_S) (x1 x2 x3 : Int) (hS : fx_Sok S) (g1 : -2147483648 ≤ x1 ∧ x1 ≤ 2147483647) (g2 : -2147483648 ≤ x2 ∧ x2 ≤ 2147483647) (g3 : -9223372036854775808 ≤ x3 ∧ x3 ≤ 9223372036854775807) (v3 : Int) (S1 : fx_S) (k1 : fx_Sok S1) (b3 : -2147483648 ≤ v3 ∧ v3 ≤ 2147483647) (p1 : s113 S x1 0 3 v3 S1) (c1 : v3 ≠ 0) (c2 : 0 ≤ x1) (c3 : x1 < 4) (v4 : Int) (e4 : v4 = S1.1 87 x1) (b4 : -2147483648 ≤ v4 ∧ v4 ≤ 2147483647) (c4 : v4 ≠ (-1)) (c5 : 0 ≤ x1) (c6 : x1 < 4) (v5 : Int) (e5 : v5 = S1.1 87 x1) (b5 : -2147483648 ≤ v5 ∧ v5 ≤ 2147483647) (v6 : Int) (e6 : v6 = fx_sub v5 1) (v7 : Int) (S2 : fx_S) (k2 : fx_Sok S2) (b7 : -2147483648 ≤ v7 ∧ v7 ≤ 2147483647) (p2 : s113 S1 x2 0 v6 v7 S2) (c7 : v7 = 0) : s108 S x1 x2 x3 (-7) S2 := by
  obtain ⟨rfl, p1⟩ := p1
  obtain ⟨rfl, p2⟩ := p2
  refine ⟨rfl, ?_, ?_⟩
  · intro p i hW
    clear c7 b7 e6 b5 e5 c6 c5 c4 b4 e4 c3 c2 c1 b3
    exact rfl
  · skip
    intro a0
    have m1 := fx_in01 p1
    obtain rfl : v4 = v5 := by rw [e5, e4]
    have h6 := e6
    first | rw [fx_sub_eq (by omega) (by omega)] at h6 | skip
    have m2 := fx_in01 p2
    first | have m1 := fx_in01 p1 | skip
    first | have u0 := a0 (by omega) (by omega) | skip
    first | (have g6 := e6; rw [fx_sub_eq (by omega) (by omega)] at g6) | skip
    first | have m2 := fx_in01 p2 | skip
    exact cast (if_pos (by omega)).symm (cast (if_neg (by omega)).symm (cast (if_neg (by omega)).symm ⟨rfl, rfl⟩))
theorem q108_2 (S : fx_S) (x1 x2 x3 : Int) (hS : fx_Sok S) (g1 : -2147483648 ≤ x1 ∧ x1 ≤ 2147483647) (g2 : -2147483648 ≤ x2 ∧ x2 ≤ 2147483647) (g3 : -9223372036854775808 ≤ x3 ∧ x3 ≤ 9223372036854775807) (v3 : Int) (S1 : fx_S) (k1 : fx_Sok S1) (b3 : -2147483648 ≤ v3 ∧ v3 ≤ 2147483647) (p1 : s113 S x1 0 3 v3 S1) (c1 : v3 ≠ 0) (c2 : 0 ≤ x1) (c3 : x1 < 4) (v4 : Int) (e4 : v4 = S1.1 87 x1) (b4 : -2147483648 ≤ v4 ∧ v4 ≤ 2147483647) (c4 : v4 = (-1)) : s108 S x1 x2 x3 (-6) S1 := by
  obtain ⟨rfl, p1⟩ := p1
  refine ⟨rfl, ?_, ?_⟩
  · intro p i hW
    clear c4 b4 e4 c3 c2 c1 b3
    exact rfl
  · skip
    intro a0
    have m1 := fx_in01 p1
    first | have m1 := fx_in01 p1 | skip
    first | have u0 := a0 (by omega) (by omega) | skip
    first | have m2 := fx_in01 p2 | skip
    exact cast (if_pos (by omega)).symm (cast (if_pos (by omega)).symm ⟨rfl, rfl⟩)
theorem q108_3 (S : fx_S) (x1 x2 x3 : Int) (hS : fx_Sok S) (g1 : -2147483648 ≤ x1 ∧ x1 ≤ 2147483647) (g2 : -2147483648 ≤ x2 ∧ x2 ≤ 2147483647) (g3 : -9223372036854775808 ≤ x3 ∧ x3 ≤ 9223372036854775807) (v3 : Int) (S1 : fx_S) (k1 : fx_Sok S1) (b3 : -2147483648 ≤ v3 ∧ v3 ≤ 2147483647) (p1 : s113 S x1 0 3 v3 S1) (c1 : v3 = 0) : s108 S x1 x2 x3 (-2) S1 := by
  obtain ⟨rfl, p1⟩ := p1
  refine ⟨rfl, ?_, ?_⟩
  · intro p i hW
    clear c1 b3
    exact rfl
  · skip
    intro a0
    have m1 := fx_in01 p1
    first | have m1 := fx_in01 p1 | skip
    first | have u0 := a0 (by omega) (by omega) | skip
    first | have m2 := fx_in01 p2 | skip
    exact cast (if_neg (by omega)).symm ⟨rfl, rfl⟩
theorem q109_0 (S : fx_S) (x1 x2 x3 x4 x5 : Int) (hS : fx_Sok S) (g1 : -2147483648 ≤ x1 ∧ x1 ≤ 2147483647) (g2 : -2147483648 ≤ x2 ∧ x2 ≤ 2147483647) (g3 : -2147483648 ≤ x3 ∧ x3 ≤ 2147483647) (g4 : -2147483648 ≤ x4 ∧ x4 ≤ 2147483647) (g5 : -2147483648 ≤ x5 ∧ x5 ≤ 2147483647) (c1 : x1 < 0) : s109 S x1 x2 x3 x4 x5 (-2) S := by
  refine ⟨rfl, ?_, ?_⟩
  · intro p i hW
    clear c1
    exact rfl
  · skip
    intro a0 a1
    skip
    first | have u0 := a0 (by omega) (by omega) | skip
    first | have u1 := a1 (by omega) (by omega) | skip
    first | have m1 := p1 a0 | skip
    first | have m2 := p2 a1 | skip
    exact cast (if_neg (by omega)).symm ⟨rfl, rfl⟩
theorem q109_1 (S : fx_S) (x1 x2 x3 x4 x5 : Int) (hS : fx_Sok S) (g1 : -2147483648 ≤ x1 ∧ x1 ≤ 2147483647) (g2 : -2147483648 ≤ x2 ∧ x2 ≤ 2147483647) (g3 : -2147483648 ≤ x3 ∧ x3 ≤ 2147483647) (g4 : -2147483648 ≤ x4 ∧ x4 ≤ 2147483647) (g5 : -2147483648 ≤ x5 ∧ x5 ≤ 2147483647) (c1 : 0 ≤ x1) (c2 : 4 ≤ x1) : s109 S x1 x2 x3 x4 x5 (-2) S := by
  refine ⟨rfl, ?_, ?_⟩
  · intro p i hW
    clear c2 c1
    exact rfl
  · skip
    intro a0 a1
    skip
    first | have u0 := a0 (by omega) (by omega) | skip
    first | have u1 := a1 (by omega) (by omega) | skip
    first | have m1 := p1 a0 | skip
    first | have m2 := p2 a1 | skip
    exact cast (if_neg (by omega)).symm ⟨rfl, rfl⟩
theorem q109_2 (S : fx_S) (x1 x2 x3 x4 x5 : Int) (hS : fx_Sok S) (g1 : -2147483648 ≤ x1 ∧ x1 ≤ 2147483647) (g2 : -2147483648 ≤ x2 ∧ x2 ≤ 2147483647) (g3 : -2147483648 ≤ x3 ∧ x3 ≤ 2147483647) (g4 : -2147483648 ≤ x4 ∧ x4 ≤ 2147483647) (g5 : -2147483648 ≤ x5 ∧ x5 ≤ 2147483647) (c1 : 0 ≤ x1) (c2 : x1 < 4) (c3 : x3 < 0) : s109 S x1 x2 x3 x4 x5 (-2) S := by
  refine ⟨rfl, ?_, ?_⟩
  · intro p i hW
    clear c3 c2 c1
    exact rfl
  · skip
    intro a0 a1
    skip
    first | have u0 := a0 (by omega) (by omega) | skip
    first | have u1 := a1 (by omega) (by omega) | skip
    first | have m1 := p1 a0 | skip
    first | have m2 := p2 a1 | skip
    exact cast (if_neg (by omega)).symm ⟨rfl, rfl⟩
theorem q109_3 (S : fx_S) (x1 x2 x3 x4 x5 : Int) (hS : fx_Sok S) (g1 : -2147483648 ≤ x1 ∧ x1 ≤ 2147483647) (g2 : -2147483648 ≤ x2 ∧ x2 ≤ 2147483647) (g3 : -2147483648 ≤ x3 ∧ x3 ≤ 2147483647) (g4 : -2147483648 ≤ x4 ∧ x4 ≤ 2147483647) (g5 : -2147483648 ≤ x5 ∧ x5 ≤ 2147483647) (c1 : 0 ≤ x1) (c2 : x1 < 4) (c3 : 0 ≤ x3) (c4 : 4 ≤ x3) : s109 S x1 x2 x3 x4 x5 (-2) S := by
  refine ⟨rfl, ?_, ?_⟩
  · intro p i hW
    clear c4 c3 c2 c1
    exact rfl
  · skip
    intro a0 a1
    skip
    first | have u0 := a0 (by omega) (by omega) | skip
    first | have u1 := a1 (by omega) (by omega) | skip
    first | have m1 := p1 a0 | skip
    first | have m2 := p2 a1 | skip
    exact cast (if_neg (by omega)).symm ⟨rfl, rfl⟩
theorem q109_4 (S : fx_S) (x1 x2 x3 x4 x5 : Int) (hS : fx_Sok S) (g1 : -2147483648 ≤ x1 ∧ x1 ≤ 2147483647) (g2 : -2147483648 ≤ x2 ∧ x2 ≤ 2147483647) (g3 : -2147483648 ≤ x3 ∧ x3 ≤ 2147483647) (g4 : -2147483648 ≤ x4 ∧ x4 ≤ 2147483647) (g5 : -2147483648 ≤ x5 ∧ x5 ≤ 2147483647) (c1 : 0 ≤ x1) (c2 : x1 < 4) (c3 : 0 ≤ x3) (c4 : x3 < 4) (c5 : 0 ≤ x1) (c6 : x1 < 4) (v5 : Int) (e5 : v5 = S.1 54 x1) (b5 : -2147483648 ≤ v5 ∧ v5 ≤ 2147483647) (c7 : v5 = (-1)) : s109 S x1 x2 x3 x4 x5 (-6) S := by
  refine ⟨rfl, ?_, ?_⟩
  · intro p i hW
    clear c7 b5 e5 c6 c5 c4 c3 c2 c1
    exact rfl
  · skip
    intro a0 a1
    skip
    first | have u0 := a0 (by omega) (by omega) | skip
    first | have u1 := a1 (by omega) (by omega) | skip
    first | have m1 := p1 a0 | skip
    first | have m2 := p2 a1 | skip
    exact cast (if_pos (by omega)).symm (cast (if_pos (by omega)).symm ⟨rfl, rfl⟩)
theorem q109_5 (S : fx_S) (x1 x2 x3 x4 x5 : Int) (hS : fx_Sok S) (g1 : -2147483648 ≤ x1 ∧ x1 ≤ 2147483647) (g2 : -2147483648 ≤ x2 ∧ x2 ≤ 2147483647) (g3 : -2147483648 ≤ x3 ∧ x3 ≤ 2147483647) (g4 : -2147483648 ≤ x4 ∧ x4 ≤ 2147483647) (g5 : -2147483648 ≤ x5 ∧ x5 ≤ 2147483647) (c1 : 0 ≤ x1) (c2 : x1 < 4) (c3 : 0 ≤ x3) (c4 : x3 < 4) (c5 : 0 ≤ x1) (c6 : x1 < 4) (v5 : Int) (e5 : v5 = S.1 54 x1) (b5 : -2147483648 ≤ v5 ∧ v5 ≤ 2147483647) (c7 : v5 ≠ (-1)) (c8 : 0 ≤ x3) (c9 : x3 < 4) (v6 : Int) (e6 : v6 = S.1 54 x3) (b6 : -2147483648 ≤ v6 ∧ v6 ≤ 2147483647) (c10 : v6 = (-1)) : s109 S x1 x2 x3 x4 x5 (-6) S := by
  refine ⟨rfl, ?_, ?_⟩
  · intro p i hW
    clear c10 b6 e6 c9 c8 c7 b5 e5 c6 c5 c4 c3 c2 c1
    exact rfl
  · skip
    intro a0 a1
    skip
    first | have u0 := a0 (by omega) (by omega) | skip
    first | have u1 := a1 (by omega) (by omega) | skip
    first | have m1 := p1 a0 | skip
    first | have m2 := p2 a1 | skip
    exact cast (if_pos (by omega)).symm (cast (if_pos (by omega)).symm ⟨rfl, rfl⟩)
theorem q109_6 (S : fx_S) (x1 x2 x3 x4 x5 : Int) (hS : fx_Sok S) (g1 : -2147483648 ≤ x1 ∧ x1 ≤ 2147483647) (g2 : -2147483648 ≤ x2 ∧ x2 ≤ 2147483647) (g3 : -2147483648 ≤ x3 ∧ x3 ≤ 2147483647) (g4 : -2147483648 ≤ x4 ∧ x4 ≤ 2147483647) (g5 : -2147483648 ≤ x5 ∧ x5 ≤ 2147483647) (c1 : 0 ≤ x1) (c2 : x1 < 4) (c3 : 0 ≤ x3) (c4 : x3 < 4) (c5 : 0 ≤ x1) (c6 : x1 < 4) (v5 : Int) (e5 : v5 = S.1 54 x1) (b5 : -2147483648 ≤ v5 ∧ v5 ≤ 2147483647) (c7 : v5 ≠ (-1)) (c8 : 0 ≤ x3) (c9 : x3 < 4) (v6 : Int) (e6 : v6 = S.1 54 x3) (b6 : -2147483648 ≤ v6 ∧ v6 ≤ 2147483647) (c10 : v6 ≠ (-1)) (c11 : 0 ≤ x1) (c12 : x1 < 4) (v7 : Int) (e7 : v7 = S.1 53 x1) (b7 : -2147483648 ≤ v7 ∧ v7 ≤ 2147483647) (c13 : 0 ≤ x3) (c14 : x3 < 4) (v8 : Int) (e8 : v8 = S.1 53 x3) (b8 : -2147483648 ≤ v8 ∧ v8 ≤ 2147483647) (c15 : v7 = v8) (v9 : Int) (S1 : fx_S) (k1 : fx_Sok S1) (b9 : -2147483648 ≤ v9 ∧ v9 ≤ 2147483647) (p1 : s214 S x1 x2 x5 v9 S1) (c16 : v9 = 0) : s109 S x1 x2 x3 x4 x5 (-7) S1 := by
  obtain ⟨rfl, p1⟩ := p1
  refine ⟨rfl, ?_, ?_⟩
  · intro p i hW
    clear c16 b9 c15 b8 e8 c14 c13 b7 e7 c12 c11 c10 b6 e6 c9 c8 c7 b5 e5 c6 c5 c4 c3 c2 c1
    exact rfl
  · skip
    intro a0 a1
    skip
    first | have u0 := a0 (by omega) (by omega) | skip
    first | have u1 := a1 (by omega) (by omega) | skip
    first | have m1 := p1 a0 | skip
    first | have m2 := p2 a1 | skip
    exact cast (if_pos (by omega)).symm (cast (if_neg (by omega)).symm (cast (if_pos (by omega)).symm (cast (if_neg (by omega)).symm ⟨rfl, rfl⟩)))
theorem q109_7 (S : fx_S) (x1 x2 x3 x4 x5 : Int) (hS : fx_Sok S) (g1 : -2147483648 ≤ x1 ∧ x1 ≤ 2147483647) (g2 : -2147483648 ≤ x2 ∧ x2 ≤ 2147483647) (g3 : -2147483648 ≤ x3 ∧ x3 ≤ 2147483647) (g4 : -2147483648 ≤ x4 ∧ x4 ≤ 2147483647) (g5 : -2147483648 ≤ x5 ∧ x5 ≤ 2147483647) (c1 : 0 ≤ x1) (c2 : x1 < 4) (c3 : 0 ≤ x3) (c4 : x3 < 4) (c5 : 0 ≤ x1) (c6 : x1 < 4) (v5 : Int) (e5 : v5 = S.1 54 x1) (b5 : -2147483648 ≤ v5 ∧ v5 ≤ 2147483647) (c7 : v5 ≠ (-1)) (c8 : 0 ≤ x3) (c9 : x3 < 4) (v6 : Int) (e6 : v6 = S.1 54 x3) (b6 : -2147483648 ≤ v6 ∧ v6 ≤ 2147483647) (c10 : v6 ≠ (-1)) (c11 : 0 ≤ x1) (c12 : x1 < 4) (v7 : Int) (e7 : v7 = S.1 53 x1) (b7 : -2147483648 ≤ v7 ∧ v7 ≤ 2147483647) (c13 : 0 ≤ x3) (c14 : x3 < 4) (v8 : Int) (e8 : v8 = S.1 53 x3) (b8 : -2147483648 ≤ v8 ∧ v8 ≤ 2147483647) (c15 : v7 = v8) (v9 : Int) (S1 : fx_S) (k1 : fx_Sok S1) (b9 : -2147483648 ≤ v9 ∧ v9 ≤ 2147483647) (p1 : s214 S x1 x2 x5 v9 S1) (c16 : v9 ≠ 0) (v10 : Int) (S2 : fx_S) (k2 : fx_Sok S2) (b10 : -2147483648 ≤ v10 ∧ v10 ≤ 2147483647) (p2 : s214 S1 x3 x4 x5 v10 S2) (c17 : v10 ≠ 0) (v11 : Int) (S3 : fx_S) (k3 : fx_Sok S3) (b11 : v11 = 0) (p3 : s215 S2 x1 x2 x3 x4 x5 v11 S3) : s109 S x1 x2 x3 x4 x5 0 S3 := by
  obtain ⟨rfl, p1⟩ := p1
  obtain ⟨rfl, p2⟩ := p2
  obtain ⟨r3, f3, p3⟩ := p3
  refine ⟨r3, ?_, ?_⟩
  · intro p i hW
    clear b11 c17 b10 c16 b9 c15 b8 e8 c14 c13 b7 e7 c12 c11 c10 b6 e6 c9 c8 c7 b5 e5 c6 c5 c4 c3 c2 c1
    exact (f3 p i (by omega))
  · skip
    intro a0 a1
    skip
    first | have u0 := a0 (by omega) (by omega) | skip
    first | have u1 := a1 (by omega) (by omega) | skip
    first | have m1 := p1 a0 | skip
    first | have m2 := p2 a1 | skip
    exact cast (if_pos (by omega)).symm (cast (if_neg (by omega)).symm (cast (if_pos (by omega)).symm (cast (if_pos (by omega)).symm ⟨rfl, p3 (by omega) (by omega)⟩)))
theorem q109_8 (S : fx_S) (x1 x2 x3 x4 x5 : Int) (hS : fx_Sok S) (g1 : -2147483648 ≤ x1 ∧ x1 ≤ 2147483647) (g2 : -2147483648 ≤ x2 ∧ x2 ≤ 2147483647) (g3 : -2147483648 ≤ x3 ∧ x3 ≤ 2147483647) (g4 : -2147483648 ≤ x4 ∧ x4 ≤ 2147483647) (g5 : -2147483648 ≤ x5 ∧ x5 ≤ 2147483647) (c1 : 0 ≤ x1) (c2 : x1 < 4) (c3 : 0 ≤ x3) (c4 : x3 < 4) (c5 : 0 ≤ x1) (c6 : x1 < 4) (v5 : Int) (e5 : v5 = S.1 54 x1) (b5 : -2147483648 ≤ v5 ∧ v5 ≤ 2147483647) (c7 : v5 ≠ (-1)) (c8 : 0 ≤ x3) (c9 : x3 < 4) (v6 : Int) (e6 : v6 = S.1 54 x3) (b6 : -2147483648 ≤ v6 ∧ v6 ≤ 2147483647) (c10 : v6 ≠ (-1)) (c11 : 0 ≤ x1) (c12 : x1 < 4) (v7 : Int) (e7 : v7 = S.1 53 x1) (b7 : -2147483648 ≤ v7 ∧ v7 ≤ 2147483647) (c13 : 0 ≤ x3) (c14 : x3 < 4) (v8 : Int) (e8 : v8 = S.1 53 x3) (b8 : -2147483648 ≤ v8 ∧ v8 ≤ 2147483647) (c15 : v7 = v8) (v9 : Int) (S1 : fx_S) (k1 : fx_Sok S1) (b9 : -2147483648 ≤ v9 ∧ v9 ≤ 2147483647) (p1 : s214 S x1 x2 x5 v9 S1) (c16 : v9 ≠ 0) (v10 : Int) (S2 : fx_S) (k2 : fx_Sok S2) (b10 : -2147483648 ≤ v10 ∧ v10 ≤ 2147483647) (p2 : s214 S1 x3 x4 x5 v10 S2) (c17 : v10 = 0) : s109 S x1 x2 x3 x4 x5 (-7) S2 := by
  obtain ⟨rfl, p1⟩ := p1
  obtain ⟨rfl, p2⟩ := p2
  refine ⟨rfl, ?_, ?_⟩
  · intro p i hW
    clear c17 b10 c16 b9 c15 b8 e8 c14 c13 b7 e7 c12 c11 c10 b6 e6 c9 c8 c7 b5 e5 c6 c5 c4 c3 c2 c1
    exact rfl
  · skip
    intro a0 a1
    skip
    first | have u0 := a0 (by omega) (by omega) | skip
    first | have u1 := a1 (by omega) (by omega) | skip
    first | have m1 := p1 a0 | skip
    first | have m2 := p2 a1 | skip
    exact cast (if_pos (by omega)).symm (cast (if_neg (by omega)).symm (cast (if_pos (by omega)).symm (cast (if_neg (by omega)).symm ⟨rfl, rfl⟩)))
theorem q109_9 (S : fx_S) (x1 x2 x3 x4 x5 : Int) (hS : fx_Sok S) (g1 : -2147483648 ≤ x1 ∧ x1 ≤ 2147483647) (g2 : -2147483648 ≤ x2 ∧ x2 ≤ 2147483647) (g3 : -2147483648 ≤ x3 ∧ x3 ≤ 2147483647) (g4 : -2147483648 ≤ x4 ∧ x4 ≤ 2147483647) (g5 : -2147483648 ≤ x5 ∧ x5 ≤ 2147483647) (c1 : 0 ≤ x1) (c2 : x1 < 4) (c3 : 0 ≤ x3) (c4 : x3 < 4) (c5 : 0 ≤ x1) (c6 : x1 < 4) (v5 : Int) (e5 : v5 = S.1 54 x1) (b5 : -2147483648 ≤ v5 ∧ v5 ≤ 2147483647) (c7 : v5 ≠ (-1)) (c8 : 0 ≤ x3) (c9 : x3 < 4) (v6 : Int) (e6 : v6 = S.1 54 x3) (b6 : -2147483648 ≤ v6 ∧ v6 ≤ 2147483647) (c10 : v6 ≠ (-1)) (c11 : 0 ≤ x1) (c12 : x1 < 4) (v7 : Int) (e7 : v7 = S.1 53 x1) (b7 : -2147483648 ≤ v7 ∧ v7 ≤ 2147483647) (c13 : 0 ≤ x3) (c14 : x3 < 4) (v8 : Int) (e8 : v8 = S.1 53 x3) (b8 : -2147483648 ≤ v8 ∧ v8 ≤ 2147483647) (c15 : v7 ≠ v8) : s109 S x1 x2 x3 x4 x5 (-8) S := by
  refine ⟨rfl, ?_, ?_⟩
  · intro p i hW
    clear c15 b8 e8 c14 c13 b7 e7 c12 c11 c10 b6 e6 c9 c8 c7 b5 e5 c6 c5 c4 c3 c2 c1
    exact rfl
  · skip
    intro a0 a1
    skip
    first | have u0 := a0 (by omega) (by omega) | skip
    first | have u1 := a1 (by omega) (by omega) | skip
    first | have m1 := p1 a0 | skip
    first | have m2 := p2 a1 | skip
    exact cast (if_pos (by omega)).symm (cast (if_neg (by omega)).symm (cast (if_neg (by omega)).symm ⟨rfl, rfl⟩))
theorem q110_0 (S : fx_S) (x1 x2 x3 x4 x5 : Int) (hS : fx_Sok S) (g1 : -2147483648 ≤ x1 ∧ x1 ≤ 2147483647) (g2 : -2147483648 ≤ x2 ∧ x2 ≤ 2147483647) (g3 : -2147483648 ≤ x3 ∧ x3 ≤ 2147483647) (g4 : -2147483648 ≤ x4 ∧ x4 ≤ 2147483647) (g5 : -2147483648 ≤ x5 ∧ x5 ≤ 2147483647) (v5 : Int) (S1 : fx_S) (k1 : fx_Sok S1) (b5 : -2147483648 ≤ v5 ∧ v5 ≤ 2147483647) (p1 : s113 S x1 0 3 v5 S1) (c1 : v5 = 0) : s110 S x1 x2 x3 x4 x5 (-2) S1 := by
  obtain ⟨rfl, p1⟩ := p1
  refine ⟨rfl, ?_, ?_⟩
  · intro p i hW
    clear c1 b5
    exact rfl
  · skip
    intro a0 a1
    have m1 := fx_in01 p1
    first | have m1 := fx_in01 p1 | skip
    first | have m2 := fx_in01 p2 | skip
    first | have u0 := a0 (by omega) (by omega) | skip
    first | have u1 := a1 (by omega) (by omega) | skip
    exact cast (if_neg (by omega)).symm ⟨rfl, rfl⟩
theorem q110_1 (S : fx_S) (x1 x2 x3 x4 x5 : Int) (hS : fx_Sok S) (g1 : -2147483648 ≤ x1 ∧ x1 ≤ 2147483647) (g2 : -2147483648 ≤ x2 ∧ x2 ≤ 2147483647) (g3 : -2147483648 ≤ x3 ∧ x3 ≤ 2147483647) (g4 : -2147483648 ≤ x4 ∧ x4 ≤ 2147483647) (g5 : -2147483648 ≤ x5 ∧ x5 ≤ 2147483647) (v5 : Int) (S1 : fx_S) (k1 : fx_Sok S1) (b5 : -2147483648 ≤ v5 ∧ v5 ≤ 2147483647) (p1 : s113 S x1 0 3 v5 S1) (c1 : v5 ≠ 0) (v6 : Int) (S2 : fx_S) (k2 : fx_Sok S2) (b6 : -2147483648 ≤ v6 ∧ v6 ≤ 2147483647) (p2 : s113 S1 x3 0 3 v6 S2) (c2 : v6 ≠ 0) (c3 : 0 ≤ x1) (c4 : x1 < 4) (v7 : Int) (e7 : v7 = S2.1 87 x1) (b7 : -2147483648 ≤ v7 ∧ v7 ≤ 2147483647) (c5 : v7 = (-1)) : s110 S x1 x2 x3 x4 x5 (-6) S2 := by
  obtain ⟨rfl, p1⟩ := p1
  obtain ⟨rfl, p2⟩ := p2
  refine ⟨rfl, ?_, ?_⟩
  · intro p i hW
    clear c5 b7 e7 c4 c3 c2 b6 c1 b5
    exact rfl
  · skip
    intro a0 a1
    have m1 := fx_in01 p1
    have m2 := fx_in01 p2
    first | have m1 := fx_in01 p1 | skip
    first | have m2 := fx_in01 p2 | skip
    first | have u0 := a0 (by omega) (by omega) | skip
    first | have u1 := a1 (by omega) (by omega) | skip
    exact cast (if_pos (by omega)).symm (cast (if_pos (by omega)).symm ⟨rfl, rfl⟩)
theorem q110_2 (S : fx_S) (x1 x2 x3 x4 x5 : Int) (hS : fx_Sok S) (g1 : -2147483648 ≤ x1 ∧ x1 ≤ 2147483647) (g2 : -2147483648 ≤ x2 ∧ x2 ≤ 2147483647) (g3 : -2147483648 ≤ x3 ∧ x3 ≤ 2147483647) (g4 : -2147483648 ≤ x4 ∧ x4 ≤ 2147483647) (g5 : -2147483648 ≤ x5 ∧ x5 ≤ 2147483647) (v5 : Int) (S1 : fx_S) (k1 : fx_Sok S1) (b5 : -2147483648 ≤ v5 ∧ v5 ≤ 2147483647) (p1 : s113 S x1 0 3 v5 S1) (c1 : v5 ≠ 0) (v6 : Int) (S2 : fx_S) (k2 : fx_Sok S2) (b6 : -2147483648 ≤ v6 ∧ v6 ≤ 2147483647) (p2 : s113 S1 x3 0 3 v6 S2) (c2 : v6 ≠ 0) (c3 : 0 ≤ x1) (c4 : x1 < 4) (v7 : Int) (e7 : v7 = S2.1 87 x1) (b7 : -2147483648 ≤ v7 ∧ v7 ≤ 2147483647) (c5 : v7 ≠ (-1)) (c6 : 0 ≤ x3) (c7 : x3 < 4) (v8 : Int) (e8 : v8 = S2.1 87 x3) (b8 : -2147483648 ≤ v8 ∧ v8 ≤ 2147483647) (c8 : v8 ≠ (-1)) (c9 : 0 ≤ x1) (c10 : x1 < 4) (v9 : Int) (e9 : v9 = S2.1 88 x1) (b9 : -2147483648 ≤ v9 ∧ v9 ≤ 2147483647) (c11 : 0 ≤ x3) (c12 : x3 < 4) (v10 : Int) (e10 : v10 = S2.1 88 x3) (b10 : -2147483648 ≤ v10 ∧ v10 ≤ 2147483647) (c13 : v9 = v10) (c14 : x2 < 0) : s110 S x1 x2 x3 x4 x5 (-7) S2 := by
  obtain ⟨rfl, p1⟩ := p1
  obtain ⟨rfl, p2⟩ := p2
  refine ⟨rfl, ?_, ?_⟩
  · intro p i hW
    clear c14 c13 b10 e10 c12 c11 b9 e9 c10 c9 c8 b8 e8 c7 c6 c5 b7 e7 c4 c3 c2 b6 c1 b5
    exact rfl
  · skip
    intro a0 a1
    have m1 := fx_in01 p1
    have m2 := fx_in01 p2
    first | have m1 := fx_in01 p1 | skip
    first | have m2 := fx_in01 p2 | skip
    first | have u0 := a0 (by omega) (by omega) | skip
    first | have u1 := a1 (by omega) (by omega) | skip
    exact cast (if_pos (by omega)).symm (cast (if_neg (by omega)).symm (cast (if_pos (by omega)).symm (cast (if_neg (by omega)).symm ⟨rfl, rfl⟩)))
theorem q110_3 (S : fx_S) (x1 x2 x3 x4 x5 : Int) (hS : fx_Sok S) (g1 : -2147483648 ≤ x1 ∧ x1 ≤ 2147483647) (g2 : -2147483648 ≤ x2 ∧ x2 ≤ 2147483647) (g3 : -2147483648 ≤ x3 ∧ x3 ≤ 2147483647) (g4 : -2147483648 ≤ x4 ∧ x4 ≤ 2147483647) (g5 : -2147483648 ≤ x5 ∧ x5 ≤ 2147483647) (v5 : Int) (S1 : fx_S) (k1 : fx_Sok S1) (b5 : -2147483648 ≤ v5 ∧ v5 ≤ 2147483647) (p1 : s113 S x1 0 3 v5 S1) (c1 : v5 ≠ 0) (v6 : Int) (S2 : fx_S) (k2 : fx_Sok S2) (b6 : -2147483648 ≤ v6 ∧ v6 ≤ 2147483647) (p2 : s113 S1 x3 0 3 v6 S2) (c2 : v6 ≠ 0) (c3 : 0 ≤ x1) (c4 : x1 < 4) (v7 : Int) (e7 : v7 = S2.1 87 x1) (b7 : -2147483648 ≤ v7 ∧ v7 ≤ 2147483647) (c5 : v7 ≠ (-1)) (c6 : 0 ≤ x3) (c7 : x3 < 4) (v8 : Int) (e8 : v8 = S2.1 87 x3) (b8 : -2147483648 ≤ v8 ∧ v8 ≤ 2147483647) (c8 : v8 ≠ (-1)) (c9 : 0 ≤ x1) (c10 : x1 < 4) (v9 : Int) (e9 : v9 = S2.1 88 x1) (b9 : -2147483648 ≤ v9 ∧ v9 ≤ 2147483647) (c11 : 0 ≤ x3) (c12 : x3 < 4) (v10 : Int) (e10 : v10 = S2.1 88 x3) (b10 : -2147483648 ≤ v10 ∧ v10 ≤ 2147483647) (c13 : v9 = v10) (c14 : 0 ≤ x2) (c15 : x4 < 0) : s110 S x1 x2 x3 x4 x5 (-7) S2 := by
  obtain ⟨rfl, p1⟩ := p1
  obtain ⟨rfl, p2⟩ := p2
  refine ⟨rfl, ?_, ?_⟩
  · intro p i hW
    clear c15 c14 c13 b10 e10 c12 c11 b9 e9 c10 c9 c8 b8 e8 c7 c6 c5 b7 e7 c4 c3 c2 b6 c1 b5
    exact rfl
  · skip
    intro a0 a1
    have m1 := fx_in01 p1
    have m2 := fx_in01 p2
    first | have m1 := fx_in01 p1 | skip
    first | have m2 := fx_in01 p2 | skip
    first | have u0 := a0 (by omega) (by omega) | skip
    first | have u1 := a1 (by omega) (by omega) | skip
    exact cast (if_pos (by omega)).symm (cast (if_neg (by omega)).symm (cast (if_pos (by omega)).symm (cast (if_neg (by omega)).symm ⟨rfl, rfl⟩)))
theorem q110_4 (S : fx_S) (x1 x2 x3 x4 x5 : Int) (hS : fx_Sok S) (g1 : -2147483648 ≤ x1 ∧ x1 ≤ 2147483647) (g2 : -2147483648 ≤ x2 ∧ x2 ≤ 2147483647) (g3 : -2147483648 ≤ x3 ∧ x3 ≤ 2147483647) (g4 : -2147483648 ≤ x4 ∧ x4 ≤ 2147483647) (g5 : -2147483648 ≤ x5 ∧ x5 ≤ 2147483647) (v5 : Int) (S1 : fx_S) (k1 : fx_Sok S1) (b5 : -2147483648 ≤ v5 ∧ v5 ≤ 2147483647) (p1 : s113 S x1 0 3 v5 S1) (c1 : v5 ≠ 0) (v6 : Int) (S2 : fx_S) (k2 : fx_Sok S2) (b6 : -2147483648 ≤ v6 ∧ v6 ≤ 2147483647) (p2 : s113 S1 x3 0 3 v6 S2) (c2 : v6 ≠ 0) (c3 : 0 ≤ x1) (c4 : x1 < 4) (v7 : Int) (e7 : v7 = S2.1 87 x1) (b7 : -2147483648 ≤ v7 ∧ v7 ≤ 2147483647) (c5 : v7 ≠ (-1)) (c6 : 0 ≤ x3) (c7 : x3 < 4) (v8 : Int) (e8 : v8 = S2.1 87 x3) (b8 : -2147483648 ≤ v8 ∧ v8 ≤ 2147483647) (c8 : v8 ≠ (-1)) (c9 : 0 ≤ x1) (c10 : x1 < 4) (v9 : Int) (e9 : v9 = S2.1 88 x1) (b9 : -2147483648 ≤ v9 ∧ v9 ≤ 2147483647) (c11 : 0 ≤ x3) (c12 : x3 < 4) (v10 : Int) (e10 : v10 = S2.1 88 x3) (b10 : -2147483648 ≤ v10 ∧ v10 ≤ 2147483647) (c13 : v9 = v10) (c14 : 0 ≤ x2) (c15 : 0 ≤ x4) (c16 : x5 < 0) : s110 S x1 x2 x3 x4 x5 (-7) S2 := by
  obtain ⟨rfl, p1⟩ := p1
  obtain ⟨rfl, p2⟩ := p2
  refine ⟨rfl, ?_, ?_⟩
  · intro p i hW
    clear c16 c15 c14 c13 b10 e10 c12 c11 b9 e9 c10 c9 c8 b8 e8 c7 c6 c5 b7 e7 c4 c3 c2 b6 c1 b5
    exact rfl
  · skip
    intro a0 a1
    have m1 := fx_in01 p1
    have m2 := fx_in01 p2
    first | have m1 := fx_in01 p1 | skip
    first | have m2 := fx_in01 p2 | skip
    first | have u0 := a0 (by omega) (by omega) | skip
    first | have u1 := a1 (by omega) (by omega) | skip
    exact cast (if_pos (by omega)).symm (cast (if_neg (by omega)).symm (cast (if_pos (by omega)).symm (cast (if_neg (by omega)).symm ⟨rfl, rfl⟩)))
theorem q110_5 (S : fx_S) (x1 x2 x3 x4 x5 : Int) (hS : fx_Sok S) (g1 : -2147483648 ≤ x1 ∧ x1 ≤ 2147483647) (g2 : -2147483648 ≤ x2 ∧ x2 ≤ 2147483647) (g3 : -2147483648 ≤ x3 ∧ x3 ≤ 2147483647) (g4 : -2147483648 ≤ x4 ∧ x4 ≤ 2147483647) (g5 : -2147483648 ≤ x5 ∧ x5 ≤ 2147483647) (v5 : Int) (S1 : fx_S) (k1 : fx_Sok S1) (b5 : -2147483648 ≤ v5 ∧ v5 ≤ 2147483647) (p1 : s113 S x1 0 3 v5 S1) (c1 : v5 ≠ 0) (v6 : Int) (S2 : fx_S) (k2 : fx_Sok S2) (b6 : -2147483648 ≤ v6 ∧ v6 ≤ 2147483647) (p2 : s113 S1 x3 0 3 v6 S2) (c2 : v6 ≠ 0) (c3 : 0 ≤ x1) (c4 : x1 < 4) (v7 : Int) (e7 : v7 = S2.1 87 x1) (b7 : -2147483648 ≤ v7 ∧ v7 ≤ 2147483647) (c5 : v7 ≠ (-1)) (c6 : 0 ≤ x3) (c7 : x3 < 4) (v8 : Int) (e8 : v8 = S2.1 87 x3) (b8 : -2147483648 ≤ v8 ∧ v8 ≤ 2147483647) (c8 : v8 ≠ (-1)) (c9 : 0 ≤ x1) (c10 : x1 < 4) (v9 : Int) (e9 : v9 = S2.1 88 x1) (b9 : -2147483648 ≤ v9 ∧ v9 ≤ 2147483647) (c11 : 0 ≤ x3) (c12 : x3 < 4) (v10 : Int) (e10 : v10 = S2.1 88 x3) (b10 : -2147483648 ≤ v10 ∧ v10 ≤ 2147483647) (c13 : v9 = v10) (c14 : 0 ≤ x2) (c15 : 0 ≤ x4) (c16 : 0 ≤ x5) (v11 : Int) (e11 : v11 = fx_ladd x2 x5) (c17 : 0 ≤ x1) (c18 : x1 < 4) (v12 : Int) (e12 : v12 = S2.1 87 x1) (b12 : -2147483648 ≤ v12 ∧ v12 ≤ 2147483647) (v13 : Int) (e13 : v13 = fx_lcm v11 v12) (c19 : v12 < v11) : s110 S x1 x2 x3 x4 x5 (-7) S2 := by
  obtain ⟨rfl, p1⟩ := p1
  obtain ⟨rfl, p2⟩ := p2
  refine ⟨rfl, ?_, ?_⟩
  · intro p i hW
    clear c19 e13 b12 e12 c18 c17 e11 c16 c15 c14 c13 b10 e10 c12 c11 b9 e9 c10 c9 c8 b8 e8 c7 c6 c5 b7 e7 c4 c3 c2 b6 c1 b5
    exact rfl
  · skip
    intro a0 a1
    have m1 := fx_in01 p1
    have m2 := fx_in01 p2
    obtain rfl : v7 = v12 := by rw [e12, e7]
    first | have m1 := fx_in01 p1 | skip
    first | have m2 := fx_in01 p2 | skip
    first | have u0 := a0 (by omega) (by omega) | skip
    first | have u1 := a1 (by omega) (by omega) | skip
    first | rw [fx_ladd_eq (by omega) (by omega)] at e11 | skip
    exact cast (if_pos (by omega)).symm (cast (if_neg (by omega)).symm (cast (if_pos (by omega)).symm (cast (if_neg (by omega)).symm ⟨rfl, rfl⟩)))
theorem q110_6 (S : fx_S) (x1 x2 x3 x4 x5 : Int) (hS : fx_Sok S) (g1 : -2147483648 ≤ x1 ∧ x1 ≤ 2147483647) (g2 : -2147483648 ≤ x2 ∧ x2 ≤ 2147483647) (g3 : -2147483648 ≤ x3 ∧ x3 ≤ 2147483647) (g4 : -2147483648 ≤ x4 ∧ x4 ≤ 2147483647) (g5 : -2147483648 ≤ x5 ∧ x5 ≤ 2147483647) (v5 : Int) (S1 : fx_S) (k1 : fx_Sok S1) (b5 : -2147483648 ≤ v5 ∧ v5 ≤ 2147483647) (p1 : s113 S x1 0 3 v5 S1) (c1 : v5 ≠ 0) (v6 : Int) (S2 : fx_S) (k2 : fx_Sok S2) (b6 : -2147483648 ≤ v6 ∧ v6 ≤ 2147483647) (p2 : s113 S1 x3 0 3 v6 S2) (c2 : v6 ≠ 0) (c3 : 0 ≤ x1) (c4 : x1 < 4) (v7 : Int) (e7 : v7 = S2.1 87 x1) (b7 : -2147483648 ≤ v7 ∧ v7 ≤ 2147483647) (c5 : v7 ≠ (-1)) (c6 : 0 ≤ x3) (c7 : x3 < 4) (v8 : Int) (e8 : v8 = S2.1 87 x3) (b8 : -2147483648 ≤ v8 ∧ v8 ≤ 2147483647) (c8 : v8 ≠ (-1)) (c9 : 0 ≤ x1) (c10 : x1 < 4) (v9 : Int) (e9 : v9 = S2.1 88 x1) (b9 : -2147483648 ≤ v9 ∧ v9 ≤ 2147483647) (c11 : 0 ≤ x3) (c12 : x3 < 4) (v10 : Int) (e10 : v10 = S2.1 88 x3) (b10 : -2147483648 ≤ v10 ∧ v10 ≤ 2147483647) (c13 : v9 = v10) (c14 : 0 ≤ x2) (c15 : 0 ≤ x4) (c16 : 0 ≤ x5) (v11 : Int) (e11 : v11 = fx_ladd x2 x5) (c17 : 0 ≤ x1) (c18 : x1 < 4) (v12 : Int) (e12 : v12 = S2.1 87 x1) (b12 : -2147483648 ≤ v12 ∧ v12 ≤ 2147483647) (v13 : Int) (e13 : v13 = fx_lcm v11 v12) (c19 : v11 ≤ v12) (v14 : Int) (e14 : v14 = fx_ladd x4 x5) (c20 : 0 ≤ x3) (c21 : x3 < 4) (v15 : Int) (e15 : v15 = S2.1 87 x3) (b15 : -2147483648 ≤ v15 ∧ v15 ≤ 2147483647) (v16 : Int) (e16 : v16 = fx_lcm v14 v15) (c22 : v14 ≤ v15) (z : Int) (Z : fx_S) (kz : fx_Sok Z) (bz : -2147483648 ≤ z ∧ z ≤ 2147483647) (pz : s216 S2 x1 x2 x3 x4 x5 0 z Z) : s110 S x1 x2 x3 x4 x5 z Z := by
  obtain ⟨rfl, p1⟩ := p1
  obtain ⟨rfl, p2⟩ := p2
  obtain ⟨rZ, fZ, pz⟩ := pz
  refine ⟨rZ, ?_, ?_⟩
  · intro p i hW
    clear c22 e16 b15 e15 c21 c20 e14 c19 e13 b12 e12 c18 c17 e11 c16 c15 c14 c13 b10 e10 c12 c11 b9 e9 c10 c9 c8 b8 e8 c7 c6 c5 b7 e7 c4 c3 c2 b6 c1 b5
    exact (fZ p i (by omega))
  · skip
    intro a0 a1
    have m1 := fx_in01 p1
    have m2 := fx_in01 p2
    obtain rfl : v7 = v12 := by rw [e12, e7]
    obtain rfl : v8 = v15 := by rw [e15, e8]
    first | have m1 := fx_in01 p1 | skip
    first | have m2 := fx_in01 p2 | skip
    first | have u0 := a0 (by omega) (by omega) | skip
    first | have u1 := a1 (by omega) (by omega) | skip
    first | rw [fx_ladd_eq (by omega) (by omega)] at e11 | skip
    first | rw [fx_ladd_eq (by omega) (by omega)] at e14 | skip
    obtain ⟨b0, b1⟩ := pz (by omega) (by omega) (by omega)
    refine cast (if_pos (by omega)).symm (cast (if_neg (by omega)).symm (cast (if_pos (by omega)).symm (cast (if_pos (by omega)).symm ⟨b0, fun i => ?_⟩)))
    rw [b1 i]
    by_cases h1 : 60 * x3 + x4 ≤ i ∧ i < 60 * x3 + x4 + x5
    · rw [if_pos h1, if_pos h1, if_pos (by omega)]
    · rw [if_neg h1, if_neg h1]
theorem q110_7 (S : fx_S) (x1 x2 x3 x4 x5 : Int) (hS : fx_Sok S) (g1 : -2147483648 ≤ x1 ∧ x1 ≤ 2147483647) (g2 : -2147483648 ≤ x2 ∧ x2 ≤ 2147483647) (g3 : -2147483648 ≤ x3 ∧ x3 ≤ 2147483647) (g4 : -2147483648 ≤ x4 ∧ x4 ≤ 2147483647) (g5 : -2147483648 ≤ x5 ∧ x5 ≤ 2147483647) (v5 : Int) (S1 : fx_S) (k1 : fx_Sok S1) (b5 : -2147483648 ≤ v5 ∧ v5 ≤ 2147483647) (p1 : s113 S x1 0 3 v5 S1) (c1 : v5 ≠ 0) (v6 : Int) (S2 : fx_S) (k2 : fx_Sok S2) (b6 : -2147483648 ≤ v6 ∧ v6 ≤ 2147483647) (p2 : s113 S1 x3 0 3 v6 S2) (c2 : v6 ≠ 0) (c3 : 0 ≤ x1) (c4 : x1 < 4) (v7 : Int) (e7 : v7 = S2.1 87 x1) (b7 : -2147483648 ≤ v7 ∧ v7 ≤ 2147483647) (c5 : v7 ≠ (-1)) (c6 : 0 ≤ x3) (c7 : x3 < 4) (v8 : Int) (e8 : v8 = S2.1 87 x3) (b8 : -2147483648 ≤ v8 ∧ v8 ≤ 2147483647) (c8 : v8 ≠ (-1)) (c9 : 0 ≤ x1) (c10 : x1 < 4) (v9 : Int) (e9 : v9 = S2.1 88 x1) (b9 : -2147483648 ≤ v9 ∧ v9 ≤ 2147483647) (c11 : 0 ≤ x3) (c12 : x3 < 4) (v10 : Int) (e10 : v10 = S2.1 88 x3) (b10 : -2147483648 ≤ v10 ∧ v10 ≤ 2147483647) (c13 : v9 = v10) (c14 : 0 ≤ x2) (c15 : 0 ≤ x4) (c16 : 0 ≤ x5) (v11 : Int) (e11 : v11 = fx_ladd x2 x5) (c17 : 0 ≤ x1) (c18 : x1 < 4) (v12 : Int) (e12 : v12 = S2.1 87 x1) (b12 : -2147483648 ≤ v12 ∧ v12 ≤ 2147483647) (v13 : Int) (e13 : v13 = fx_lcm v11 v12) (c19 : v11 ≤ v12) (v14 : Int) (e14 : v14 = fx_ladd x4 x5) (c20 : 0 ≤ x3) (c21 : x3 < 4) (v15 : Int) (e15 : v15 = S2.1 87 x3) (b15 : -2147483648 ≤ v15 ∧ v15 ≤ 2147483647) (v16 : Int) (e16 : v16 = fx_lcm v14 v15) (c22 : v15 < v14) : s110 S x1 x2 x3 x4 x5 (-7) S2 := by
  obtain ⟨rfl, p1⟩ := p1
  obtain ⟨rfl, p2⟩ := p2
  refine ⟨rfl, ?_, ?_⟩
  · intro p i hW
    clear c22 e16 b15 e15 c21 c20 e14 c19 e13 b12 e12 c18 c17 e11 c16 c15 c14 c13 b10 e10 c12 c11 b9 e9 c10 c9 c8 b8 e8 c7 c6 c5 b7 e7 c4 c3 c2 b6 c1 b5
    exact rfl
  · skip
    intro a0 a1
    have m1 := fx_in01 p1
    have m2 := fx_in01 p2
    obtain rfl : v7 = v12 := by rw [e12, e7]
    obtain rfl : v8 = v15 := by rw [e15, e8]
    first | have m1 := fx_in01 p1 | skip
    first | have m2 := fx_in01 p2 | skip
    first | have u0 := a0 (by omega) (by omega) | skip
    first | have u1 := a1 (by omega) (by omega) | skip
    first | rw [fx_ladd_eq (by omega) (by omega)] at e11 | skip
    first | rw [fx_ladd_eq (by omega) (by omega)] at e14 | skip
    exact cast (if_pos (by omega)).symm (cast (if_neg (by omega)).symm (cast (if_pos (by omega)).symm (cast (if_neg (by omega)).symm ⟨rfl, rfl⟩)))
theorem q110_8 (S : fx_S) (x1 x2 x3 x4 x5 : Int) (hS : fx_Sok S) (g1 : -2147483648 ≤ x1 ∧ x1 ≤ 2147483647) (g2 : -2147483648 ≤ x2 ∧ x2 ≤ 2147483647) (g3 : -2147483648 ≤ x3 ∧ x3 ≤ 2147483647) (g4 : -2147483648 ≤ x4 ∧ x4 ≤ 2147483647) (g5 : -2147483648 ≤ x5 ∧ x5 ≤ 2147483647) (v5 : Int) (S1 : fx_S) (k1 : fx_Sok S1) (b5 : -2147483648 ≤ v5 ∧ v5 ≤ 2147483647) (p1 : s113 S x1 0 3 v5 S1) (c1 : v5 ≠ 0) (v6 : Int) (S2 : fx_S) (k2 : fx_Sok S2) (b6 : -2147483648 ≤ v6 ∧ v6 ≤ 2147483647) (p2 : s113 S1 x3 0 3 v6 S2) (c2 : v6 ≠ 0) (c3 : 0 ≤ x1) (c4 : x1 < 4) (v7 : Int) (e7 : v7 = S2.1 87 x1) (b7 : -2147483648 ≤ v7 ∧ v7 ≤ 2147483647) (c5 : v7 ≠ (-1)) (c6 : 0 ≤ x3) (c7 : x3 < 4) (v8 : Int) (e8 : v8 = S2.1 87 x3) (b8 : -2147483648 ≤ v8 ∧ v8 ≤ 2147483647) (c8 : v8 ≠ (-1)) (c9 : 0 ≤ x1) (c10 : x1 < 4) (v9 : Int) (e9 : v9 = S2.1 88 x1) (b9 : -2147483648 ≤ v9 ∧ v9 ≤ 2147483647) (c11 : 0 ≤ x3) (c12 : x3 < 4) (v10 : Int) (e10 : v10 = S2.1 88 x3) (b10 : -2147483648 ≤ v10 ∧ v10 ≤ 2147483647) (c13 : v9 ≠ v10) : s110 S x1 x2 x3 x4 x5 (-8) S2 := by
  obtain ⟨rfl, p1⟩ := p1
  obtain ⟨rfl, p2⟩ := p2
  refine ⟨rfl, ?_, ?_⟩
  · intro p i hW
    clear c13 b10 e10 c12 c11 b9 e9 c10 c9 c8 b8 e8 c7 c6 c5 b7 e7 c4 c3 c2 b6 c1 b5
    exact rfl
  · skip
    intro a0 a1
    have m1 := fx_in01 p1
    have m2 := fx_in01 p2
    first | have m1 := fx_in01 p1 | skip
    first | have m2 := fx_in01 p2 | skip
    first | have u0 := a0 (by omega) (by omega) | skip
    first | have u1 := a1 (by omega) (by omega) | skip
    exact cast (if_pos (by omega)).symm (cast (if_neg (by omega)).symm (cast (if_neg (by omega)).symm ⟨rfl, rfl⟩))
theorem q110_9 (S : fx_S) (x1 x2 x3 x4 x5 : Int) (hS : fx_Sok S) (g1 : -2147483648 ≤ x1 ∧ x1 ≤ 2147483647) (g2 : -2147483648 ≤ x2 ∧ x2 ≤ 2147483647) (g3 : -2147483648 ≤ x3 ∧ x3 ≤ 2147483647) (g4 : -2147483648 ≤ x4 ∧ x4 ≤ 2147483647) (g5 : -2147483648 ≤ x5 ∧ x5 ≤ 2147483647) (v5 : Int) (S1 : fx_S) (k1 : fx_Sok S1) (b5 : -2147483648 ≤ v5 ∧ v5 ≤ 2147483647) (p1 : s113 S x1 0 3 v5 S1) (c1 : v5 ≠ 0) (v6 : Int) (S2 : fx_S) (k2 : fx_Sok S2) (b6 : -2147483648 ≤ v6 ∧ v6 ≤ 2147483647) (p2 : s113 S1 x3 0 3 v6 S2) (c2 : v6 ≠ 0) (c3 : 0 ≤ x1) (c4 : x1 < 4) (v7 : Int) (e7 : v7 = S2.1 87 x1) (b7 : -2147483648 ≤ v7 ∧ v7 ≤ 2147483647) (c5 : v7 ≠ (-1)) (c6 : 0 ≤ x3) (c7 : x3 < 4) (v8 : Int) (e8 : v8 = S2.1 87 x3) (b8 : -2147483648 ≤ v8 ∧ v8 ≤ 2147483647) (c8 : v8 = (-1)) : s110 S x1 x2 x3 x4 x5 (-6) S2 := by
  obtain ⟨rfl, p1⟩ := p1
  obtain ⟨rfl, p2⟩ := p2
  refine ⟨rfl, ?_, ?_⟩
  · intro p i hW
    clear c8 b8 e8 c7 c6 c5 b7 e7 c4 c3 c2 b6 c1 b5
    exact rfl
  · skip
    intro a0 a1
    have m1 := fx_in01 p1
    have m2 := fx_in01 p2
    first | have m1 := fx_in01 p1 | skip
    first | have m2 := fx_in01 p2 | skip
    first | have u0 := a0 (by omega) (by omega) | skip
    first | have u1 := a1 (by omega) (by omega) | skip
    exact cast (if_pos (by omega)).symm (cast (if_pos (by omega)).symm ⟨rfl, rfl⟩)
theorem q110_10 (S : fx_S) (x1 x2 x3 x4 x5 : Int) (hS : fx_Sok S) (g1 : -2147483648 ≤ x1 ∧ x1 ≤ 2147483647) (g2 : -2147483648 ≤ x2 ∧ x2 ≤ 2147483647) (g3 : -2147483648 ≤ x3 ∧ x3 ≤ 2147483647) (g4 : -2147483648 ≤ x4 ∧ x4 ≤ 2147483647) (g5 : -2147483648 ≤ x5 ∧ x5 ≤ 2147483647) (v5 : Int) (S1 : fx_S) (k1 : fx_Sok S1) (b5 : -2147483648 ≤ v5 ∧ v5 ≤ 2147483647) (p1 : s113 S x1 0 3 v5 S1) (c1 : v5 ≠ 0) (v6 : Int) (S2 : fx_S) (k2 : fx_Sok S2) (b6 : -2147483648 ≤ v6 ∧ v6 ≤ 2147483647) (p2 : s113 S1 x3 0 3 v6 S2) (c2 : v6 = 0) : s110 S x1 x2 x3 x4 x5 (-2) S2 := by
  obtain ⟨rfl, p1⟩ := p1
  obtain ⟨rfl, p2⟩ := p2
  refine ⟨rfl, ?_, ?_⟩
  · intro p i hW
    clear c2 b6 c1 b5
    exact rfl
  · skip
    intro a0 a1
    have m1 := fx_in01 p1
    have m2 := fx_in01 p2
    first | have m1 := fx_in01 p1 | skip
    first | have m2 := fx_in01 p2 | skip
    first | have u0 := a0 (by omega) (by omega) | skip
    first | have u1 := a1 (by omega) (by omega) | skip
    exact cast (if_neg (by omega)).symm ⟨rfl, rfl⟩
theorem q111_0 (S : fx_S) (x1 : Int) (hS : fx_Sok S) (g1 : -2147483648 ≤ x1 ∧ x1 ≤ 2147483647) (z : Int) (Z : fx_S) (kz : fx_Sok Z) (bz : z = 0) (pz : s217 S x1 24 z Z) : s111 S x1 z Z := by
  obtain ⟨rZ, fZ⟩ := pz
  refine ⟨rZ, ?_⟩
  · intro p i hW
    exact (fZ p i (by omega))
