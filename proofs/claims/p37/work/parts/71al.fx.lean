/-! FX: what is to be shown of the entries -/
theorem q112_0 (S : fx_S) (x6 : Int) (hS : fx_Sok S) (g6 : -2147483648 ≤ x6 ∧ x6 ≤ 2147483647) (c1 : 20 ≤ x6) (v1 : Int) (e1 : v1 = S.1 66 5) (b1 : -2147483648 ≤ v1 ∧ v1 ≤ 2147483647) (v2 : Int) (e2 : v2 = fx_add v1 20) (S1 : fx_S) (d1 : S1 = (fx_up S.1 66 5 v2, S.2)) (v3 : Int) (e3 : v3 = S1.1 66 5) (b3 : -2147483648 ≤ v3 ∧ v3 ≤ 2147483647) : s112 S x6 v3 S1 := by
  refine ⟨(show S1.2 = S.2 by rw [d1]), ?_⟩
  · intro p i hW
    clear b3 e3 e2 b1 e1 c1
    exact (show S1.1 p i = S.1 p i by rw [d1]; exact if_neg (by omega))
theorem q112_1 (S : fx_S) (x6 : Int) (hS : fx_Sok S) (g6 : -2147483648 ≤ x6 ∧ x6 ≤ 2147483647) (c1 : x6 < 20) (v1 : Int) (e1 : v1 = S.1 66 5) (b1 : -2147483648 ≤ v1 ∧ v1 ≤ 2147483647) (v2 : Int) (e2 : v2 = fx_add v1 x6) (v3 : Int) (e3 : v3 = fx_div x6 4) (c2 : 0 ≤ v3) (c3 : v3 < 5) (v4 : Int) (e4 : v4 = S.1 71 v3) (b4 : -2147483648 ≤ v4 ∧ v4 ≤ 2147483647) (v5 : Int) (e5 : v5 = fx_rem x6 4) (v6 : Int) (e6 : v6 = fx_mul 8 v5) (v7 : Int) (e7 : v7 = fx_sub 24 v6) (v8 : Int) (e8 : v8 = fx_shr v4 v7) (v9 : Int) (e9 : v9 = fx_i2b v8) (v10 : Int) (e10 : v10 = fx_nar 1 v9) (c4 : 0 ≤ v2) (c5 : v2 < 600) (S1 : fx_S) (d1 : S1 = (fx_up S.1 70 v2 v10, S.2)) (v11 : Int) (e11 : v11 = fx_add x6 1) (z : Int) (Z : fx_S) (kz : fx_Sok Z) (bz : -2147483648 ≤ z ∧ z ≤ 2147483647) (pz : s112 S1 v11 z Z) : s112 S x6 z Z := by
  obtain ⟨rZ, fZ⟩ := pz
  refine ⟨(rZ).trans ((show S1.2 = S.2 by rw [d1])), ?_⟩
  · intro p i hW
    clear e11 c5 c4 e10 e9 e8 e7 e6 e5 b4 e4 c3 c2 e3 e2 b1 e1 c1
    exact ((fZ p i (by omega))).trans ((show S1.1 p i = S.1 p i by rw [d1]; exact if_neg (by omega)))
theorem q113_0 (S : fx_S) (x0 x2 x4 : Int) (hS : fx_Sok S) (g0 : -9223372036854775808 ≤ x0 ∧ x0 ≤ 9223372036854775807) (g2 : -9223372036854775808 ≤ x2 ∧ x2 ≤ 9223372036854775807) (g4 : -9223372036854775808 ≤ x4 ∧ x4 ≤ 9223372036854775807) (v3 : Int) (e3 : v3 = fx_lcm x0 x2) (c1 : x0 < x2) : s113 S x0 x2 x4 0 S := by
  refine ⟨rfl, ?_⟩
  split <;> omega
theorem q113_1 (S : fx_S) (x0 x2 x4 : Int) (hS : fx_Sok S) (g0 : -9223372036854775808 ≤ x0 ∧ x0 ≤ 9223372036854775807) (g2 : -9223372036854775808 ≤ x2 ∧ x2 ≤ 9223372036854775807) (g4 : -9223372036854775808 ≤ x4 ∧ x4 ≤ 9223372036854775807) (v3 : Int) (e3 : v3 = fx_lcm x0 x2) (c1 : x2 ≤ x0) (v4 : Int) (e4 : v4 = fx_lcm x0 x4) (c2 : x4 < x0) : s113 S x0 x2 x4 0 S := by
  refine ⟨rfl, ?_⟩
  split <;> omega
theorem q113_2 (S : fx_S) (x0 x2 x4 : Int) (hS : fx_Sok S) (g0 : -9223372036854775808 ≤ x0 ∧ x0 ≤ 9223372036854775807) (g2 : -9223372036854775808 ≤ x2 ∧ x2 ≤ 9223372036854775807) (g4 : -9223372036854775808 ≤ x4 ∧ x4 ≤ 9223372036854775807) (v3 : Int) (e3 : v3 = fx_lcm x0 x2) (c1 : x2 ≤ x0) (v4 : Int) (e4 : v4 = fx_lcm x0 x4) (c2 : x0 ≤ x4) : s113 S x0 x2 x4 1 S := by
  refine ⟨rfl, ?_⟩
  split <;> omega
theorem q114_0 (S : fx_S) (x0 x1 x2 : Int) (hS : fx_Sok S) (g0 : -2147483648 ≤ x0 ∧ x0 ≤ 2147483647) (g1 : -2147483648 ≤ x1 ∧ x1 ≤ 2147483647) (g2 : -2147483648 ≤ x2 ∧ x2 ≤ 2147483647) (c1 : x0 < x1) : s114 S x0 x1 x2 0 S := by
  refine ⟨rfl, ?_⟩
  split <;> omega
theorem q114_1 (S : fx_S) (x0 x1 x2 : Int) (hS : fx_Sok S) (g0 : -2147483648 ≤ x0 ∧ x0 ≤ 2147483647) (g1 : -2147483648 ≤ x1 ∧ x1 ≤ 2147483647) (g2 : -2147483648 ≤ x2 ∧ x2 ≤ 2147483647) (c1 : x1 ≤ x0) (c2 : x2 < x0) : s114 S x0 x1 x2 0 S := by
  refine ⟨rfl, ?_⟩
  split <;> omega
theorem q114_2 (S : fx_S) (x0 x1 x2 : Int) (hS : fx_Sok S) (g0 : -2147483648 ≤ x0 ∧ x0 ≤ 2147483647) (g1 : -2147483648 ≤ x1 ∧ x1 ≤ 2147483647) (g2 : -2147483648 ≤ x2 ∧ x2 ≤ 2147483647) (c1 : x1 ≤ x0) (c2 : x0 ≤ x2) : s114 S x0 x1 x2 1 S := by
  refine ⟨rfl, ?_⟩
  split <;> omega
theorem q115_0 (S : fx_S) (x1 x2 x3 : Int) (hS : fx_Sok S) (g1 : -2147483648 ≤ x1 ∧ x1 ≤ 2147483647) (g2 : -2147483648 ≤ x2 ∧ x2 ≤ 2147483647) (g3 : -2147483648 ≤ x3 ∧ x3 ≤ 2147483647) (v3 : Int) (e3 : v3 = S.1 2 0) (b3 : -2147483648 ≤ v3 ∧ v3 ≤ 2147483647) (c1 : v3 < 40) (v4 : Int) (e4 : v4 = S.1 2 0) (b4 : -2147483648 ≤ v4 ∧ v4 ≤ 2147483647) (c2 : 0 ≤ v4) (c3 : v4 < 40) (S1 : fx_S) (d1 : S1 = (fx_up S.1 3 v4 x1, S.2)) (v5 : Int) (e5 : v5 = S1.1 2 0) (b5 : -2147483648 ≤ v5 ∧ v5 ≤ 2147483647) (c4 : 0 ≤ v5) (c5 : v5 < 40) (S2 : fx_S) (d2 : S2 = (fx_up S1.1 4 v5 x2, S1.2)) (v6 : Int) (e6 : v6 = S2.1 2 0) (b6 : -2147483648 ≤ v6 ∧ v6 ≤ 2147483647) (c6 : 0 ≤ v6) (c7 : v6 < 40) (S3 : fx_S) (d3 : S3 = (fx_up S2.1 5 v6 x3, S2.2)) (v7 : Int) (e7 : v7 = S3.1 2 0) (b7 : -2147483648 ≤ v7 ∧ v7 ≤ 2147483647) (v8 : Int) (e8 : v8 = fx_add v7 1) (S4 : fx_S) (d4 : S4 = (fx_up S3.1 2 0 v8, S3.2)) (v9 : Int) (e9 : v9 = S4.1 2 0) (b9 : -2147483648 ≤ v9 ∧ v9 ≤ 2147483647) (v10 : Int) (e10 : v10 = fx_sub v9 1) : s115 S x1 x2 x3 v10 S4 := by
  refine ⟨((show S4.2 = S3.2 by rw [d4])).trans (((show S3.2 = S2.2 by rw [d3])).trans (((show S2.2 = S1.2 by rw [d2])).trans ((show S1.2 = S.2 by rw [d1])))), ?_, ?_⟩
  · intro p i hW
    clear e10 b9 e9 e8 b7 e7 c7 c6 b6 e6 c5 c4 b5 e5 c3 c2 b4 e4 c1 b3 e3
    exact ((show S4.1 p i = S3.1 p i by rw [d4]; exact if_neg (by omega))).trans (((show S3.1 p i = S2.1 p i by rw [d3]; exact if_neg (by omega))).trans (((show S2.1 p i = S1.1 p i by rw [d2]; exact if_neg (by omega))).trans ((show S1.1 p i = S.1 p i by rw [d1]; exact if_neg (by omega)))))
  · skip
    obtain rfl : v3 = v4 := by rw [e4, e3]
    have t5_1 : S1.1 2 0 = S.1 2 0 := by rw [d1]; first | exact if_neg (by omega) | rfl
    rw [t5_1] at e5
    obtain rfl : v3 = v5 := by rw [e5, e3]
    have t6_2 : S2.1 2 0 = S1.1 2 0 := by rw [d2]; first | exact if_neg (by omega) | rfl
    rw [t6_2] at e6
    have t6_1 : S1.1 2 0 = S.1 2 0 := by rw [d1]; first | exact if_neg (by omega) | rfl
    rw [t6_1] at e6
    obtain rfl : v3 = v6 := by rw [e6, e3]
    have t7_3 : S3.1 2 0 = S2.1 2 0 := by rw [d3]; first | exact if_neg (by omega) | rfl
    rw [t7_3] at e7
    have t7_2 : S2.1 2 0 = S1.1 2 0 := by rw [d2]; first | exact if_neg (by omega) | rfl
    rw [t7_2] at e7
    have t7_1 : S1.1 2 0 = S.1 2 0 := by rw [d1]; first | exact if_neg (by omega) | rfl
    rw [t7_1] at e7
    obtain rfl : v3 = v7 := by rw [e7, e3]
    have h8 := e8
    first | rw [fx_add_eq (by omega) (by omega)] at h8 | skip
    have t9_4 : S4.1 2 0 = v8 := by rw [d4]; first | exact if_pos ⟨rfl, by omega⟩ | rfl
    rw [t9_4] at e9
    obtain rfl : v8 = v9 := e9.symm
    have h10 := e10
    first | rw [fx_sub_eq (by omega) (by omega)] at h10 | skip
    refine .inr ⟨by omega, by omega, ?_, fun i => ?_⟩
    · rw [d4]
      show v8 = S.1 2 0 + 1
      omega
    · by_cases hi : i = S.1 2 0
      · refine ⟨?_, ?_, ?_⟩
        all_goals (subst d4; subst d3; subst d2; subst d1; dsimp only [fx_up]; repeat (first | rw [if_pos (by omega)] | rw [if_neg (by omega)]))
        all_goals first | omega | rfl
      · refine ⟨?_, ?_, ?_⟩
        all_goals (subst d4; subst d3; subst d2; subst d1; dsimp only [fx_up]; repeat (first | rw [if_pos (by omega)] | rw [if_neg (by omega)]))
        all_goals first | omega | rfl
theorem q115_1 (S : fx_S) (x1 x2 x3 : Int) (hS : fx_Sok S) (g1 : -2147483648 ≤ x1 ∧ x1 ≤ 2147483647) (g2 : -2147483648 ≤ x2 ∧ x2 ≤ 2147483647) (g3 : -2147483648 ≤ x3 ∧ x3 ≤ 2147483647) (v3 : Int) (e3 : v3 = S.1 2 0) (b3 : -2147483648 ≤ v3 ∧ v3 ≤ 2147483647) (c1 : 40 ≤ v3) : s115 S x1 x2 x3 (-3) S := by
  refine ⟨rfl, ?_, ?_⟩
  · intro p i hW
    clear c1 b3 e3
    exact rfl
  · skip
    exact .inl ⟨rfl, by omega, rfl⟩
theorem q116_0 (S : fx_S) (x1 x2 x3 : Int) (hS : fx_Sok S) (g1 : -2147483648 ≤ x1 ∧ x1 ≤ 2147483647) (g2 : -2147483648 ≤ x2 ∧ x2 ≤ 2147483647) (g3 : -2147483648 ≤ x3 ∧ x3 ≤ 2147483647) (v3 : Int) (e3 : v3 = S.1 2 4) (b3 : -2147483648 ≤ v3 ∧ v3 ≤ 2147483647) (c1 : v3 < 40) (v4 : Int) (e4 : v4 = S.1 2 4) (b4 : -2147483648 ≤ v4 ∧ v4 ≤ 2147483647) (c2 : 0 ≤ v4) (c3 : v4 < 40) (S1 : fx_S) (d1 : S1 = (fx_up S.1 6 v4 x1, S.2)) (v5 : Int) (e5 : v5 = S1.1 2 4) (b5 : -2147483648 ≤ v5 ∧ v5 ≤ 2147483647) (c4 : 0 ≤ v5) (c5 : v5 < 40) (S2 : fx_S) (d2 : S2 = (fx_up S1.1 7 v5 x2, S1.2)) (v6 : Int) (e6 : v6 = S2.1 2 4) (b6 : -2147483648 ≤ v6 ∧ v6 ≤ 2147483647) (c6 : 0 ≤ v6) (c7 : v6 < 40) (S3 : fx_S) (d3 : S3 = (fx_up S2.1 8 v6 x3, S2.2)) (v7 : Int) (e7 : v7 = S3.1 2 4) (b7 : -2147483648 ≤ v7 ∧ v7 ≤ 2147483647) (v8 : Int) (e8 : v8 = fx_add v7 1) (S4 : fx_S) (d4 : S4 = (fx_up S3.1 2 4 v8, S3.2)) : s116 S x1 x2 x3 0 S4 := by
  refine ⟨((show S4.2 = S3.2 by rw [d4])).trans (((show S3.2 = S2.2 by rw [d3])).trans (((show S2.2 = S1.2 by rw [d2])).trans ((show S1.2 = S.2 by rw [d1])))), ?_, ?_⟩
  · intro p i hW
    clear e8 b7 e7 c7 c6 b6 e6 c5 c4 b5 e5 c3 c2 b4 e4 c1 b3 e3
    exact ((show S4.1 p i = S3.1 p i by rw [d4]; exact if_neg (by omega))).trans (((show S3.1 p i = S2.1 p i by rw [d3]; exact if_neg (by omega))).trans (((show S2.1 p i = S1.1 p i by rw [d2]; exact if_neg (by omega))).trans ((show S1.1 p i = S.1 p i by rw [d1]; exact if_neg (by omega)))))
  · skip
    obtain rfl : v3 = v4 := by rw [e4, e3]
    have t5_1 : S1.1 2 4 = S.1 2 4 := by rw [d1]; first | exact if_neg (by omega) | rfl
    rw [t5_1] at e5
    obtain rfl : v3 = v5 := by rw [e5, e3]
    have t6_2 : S2.1 2 4 = S1.1 2 4 := by rw [d2]; first | exact if_neg (by omega) | rfl
    rw [t6_2] at e6
    have t6_1 : S1.1 2 4 = S.1 2 4 := by rw [d1]; first | exact if_neg (by omega) | rfl
    rw [t6_1] at e6
    obtain rfl : v3 = v6 := by rw [e6, e3]
    have t7_3 : S3.1 2 4 = S2.1 2 4 := by rw [d3]; first | exact if_neg (by omega) | rfl
    rw [t7_3] at e7
    have t7_2 : S2.1 2 4 = S1.1 2 4 := by rw [d2]; first | exact if_neg (by omega) | rfl
    rw [t7_2] at e7
    have t7_1 : S1.1 2 4 = S.1 2 4 := by rw [d1]; first | exact if_neg (by omega) | rfl
    rw [t7_1] at e7
    obtain rfl : v3 = v7 := by rw [e7, e3]
    have h8 := e8
    first | rw [fx_add_eq (by omega) (by omega)] at h8 | skip
    refine .inr ⟨by omega, by omega, ?_, fun i => ?_⟩
    · rw [d4]
      show v8 = S.1 2 4 + 1
      omega
    · by_cases hi : i = S.1 2 4
      · refine ⟨?_, ?_, ?_⟩
        all_goals (subst d4; subst d3; subst d2; subst d1; dsimp only [fx_up]; repeat (first | rw [if_pos (by omega)] | rw [if_neg (by omega)]))
        all_goals first | omega | rfl
      · refine ⟨?_, ?_, ?_⟩
        all_goals (subst d4; subst d3; subst d2; subst d1; dsimp only [fx_up]; repeat (first | rw [if_pos (by omega)] | rw [if_neg (by omega)]))
        all_goals first | omega | rfl
theorem q116_1 (S : fx_S) (x1 x2 x3 : Int) (hS : fx_Sok S) (g1 : -2147483648 ≤ x1 ∧ x1 ≤ 2147483647) (g2 : -2147483648 ≤ x2 ∧ x2 ≤ 2147483647) (g3 : -2147483648 ≤ x3 ∧ x3 ≤ 2147483647) (v3 : Int) (e3 : v3 = S.1 2 4) (b3 : -2147483648 ≤ v3 ∧ v3 ≤ 2147483647) (c1 : 40 ≤ v3) : s116 S x1 x2 x3 (-3) S := by
  refine ⟨rfl, ?_, ?_⟩
  · intro p i hW
    clear c1 b3 e3
    exact rfl
  · skip
    exact .inl ⟨rfl, by omega, rfl⟩
theorem q117_0 (S : fx_S) (hS : fx_Sok S) (v0 : Int) (e0 : v0 = S.2.2) (S1 : fx_S) (d1 : S1 = (S.1, S.2.1, S.2.2 + 1)) (S2 : fx_S) (d2 : S2 = (S1.1, S1.2.1, S1.2.2 + 1)) (S3 : fx_S) (d3 : S3 = (fx_up S2.1 v0 2 50, S2.2)) (S4 : fx_S) (d4 : S4 = (fx_up S3.1 v0 3 3, S3.2)) (S5 : fx_S) (d5 : S5 = (S4.1, S4.2.1, S4.2.2 + 1)) (S6 : fx_S) (d6 : S6 = (S5.1, S5.2.1, S5.2.2 + 1)) (S7 : fx_S) (d7 : S7 = (S6.1, S6.2.1, S6.2.2 + 1)) (S8 : fx_S) (d8 : S8 = (S7.1, S7.2.1, S7.2.2 + 1)) (S9 : fx_S) (d9 : S9 = (S8.1, S8.2.1, S8.2.2 + 1)) (S10 : fx_S) (d10 : S10 = (S9.1, S9.2.1, S9.2.2 + 1)) (S11 : fx_S) (d11 : S11 = (S10.1, S10.2.1, S10.2.2 + 1)) (S12 : fx_S) (d12 : S12 = (S11.1, S11.2.1, S11.2.2 + 1)) (S13 : fx_S) (d13 : S13 = (fx_up S12.1 50 2 0, S12.2)) (S14 : fx_S) (d14 : S14 = (fx_up S13.1 50 3 (-1), S13.2)) (S15 : fx_S) (d15 : S15 = (fx_up S14.1 50 4 0, S14.2)) (v1 : Int) (S16 : fx_S) (k16 : fx_Sok S16) (b1 : v1 = 0) (p16 : s218 S15  v1 S16) (z : Int) (Z : fx_S) (kz : fx_Sok Z) (bz : -1 ≤ z ∧ z < Z.2.2) (pz : s219 S16 v0 0 z Z) : s117 S  z Z := by
  have z1 : S1.2.2 = S.2.2 + 1 := by rw [d1]
  have r1 : ∀ p i : Int, S1.2.1 p i = S.2.1 p i := fun p i => by rw [d1]
  have f1 : ∀ p i : Int, S1.1 p i = S.1 p i := fun p i => by rw [d1]
  have z2 : S2.2.2 = S1.2.2 + 1 := by rw [d2]
  have r2 : ∀ p i : Int, S2.2.1 p i = S1.2.1 p i := fun p i => by rw [d2]
  have f2 : ∀ p i : Int, S2.1 p i = S1.1 p i := fun p i => by rw [d2]
  have z3 : S3.2.2 = S2.2.2 := by rw [d3]
  have r3 : ∀ p i : Int, S3.2.1 p i = S2.2.1 p i := fun p i => by rw [d3]
  have f3 : ∀ p i : Int, ¬ (p = v0 ∧ i = 2) → S3.1 p i = S2.1 p i := fun p i hp => by rw [d3]; exact if_neg hp
  have z4 : S4.2.2 = S3.2.2 := by rw [d4]
  have r4 : ∀ p i : Int, S4.2.1 p i = S3.2.1 p i := fun p i => by rw [d4]
  have f4 : ∀ p i : Int, ¬ (p = v0 ∧ i = 3) → S4.1 p i = S3.1 p i := fun p i hp => by rw [d4]; exact if_neg hp
  have z5 : S5.2.2 = S4.2.2 + 1 := by rw [d5]
  have r5 : ∀ p i : Int, S5.2.1 p i = S4.2.1 p i := fun p i => by rw [d5]
  have f5 : ∀ p i : Int, S5.1 p i = S4.1 p i := fun p i => by rw [d5]
  have z6 : S6.2.2 = S5.2.2 + 1 := by rw [d6]
  have r6 : ∀ p i : Int, S6.2.1 p i = S5.2.1 p i := fun p i => by rw [d6]
  have f6 : ∀ p i : Int, S6.1 p i = S5.1 p i := fun p i => by rw [d6]
  have z7 : S7.2.2 = S6.2.2 + 1 := by rw [d7]
  have r7 : ∀ p i : Int, S7.2.1 p i = S6.2.1 p i := fun p i => by rw [d7]
  have f7 : ∀ p i : Int, S7.1 p i = S6.1 p i := fun p i => by rw [d7]
  have z8 : S8.2.2 = S7.2.2 + 1 := by rw [d8]
  have r8 : ∀ p i : Int, S8.2.1 p i = S7.2.1 p i := fun p i => by rw [d8]
  have f8 : ∀ p i : Int, S8.1 p i = S7.1 p i := fun p i => by rw [d8]
  have z9 : S9.2.2 = S8.2.2 + 1 := by rw [d9]
  have r9 : ∀ p i : Int, S9.2.1 p i = S8.2.1 p i := fun p i => by rw [d9]
  have f9 : ∀ p i : Int, S9.1 p i = S8.1 p i := fun p i => by rw [d9]
  have z10 : S10.2.2 = S9.2.2 + 1 := by rw [d10]
  have r10 : ∀ p i : Int, S10.2.1 p i = S9.2.1 p i := fun p i => by rw [d10]
  have f10 : ∀ p i : Int, S10.1 p i = S9.1 p i := fun p i => by rw [d10]
  have z11 : S11.2.2 = S10.2.2 + 1 := by rw [d11]
  have r11 : ∀ p i : Int, S11.2.1 p i = S10.2.1 p i := fun p i => by rw [d11]
  have f11 : ∀ p i : Int, S11.1 p i = S10.1 p i := fun p i => by rw [d11]
  have z12 : S12.2.2 = S11.2.2 + 1 := by rw [d12]
  have r12 : ∀ p i : Int, S12.2.1 p i = S11.2.1 p i := fun p i => by rw [d12]
  have f12 : ∀ p i : Int, S12.1 p i = S11.1 p i := fun p i => by rw [d12]
  have z13 : S13.2.2 = S12.2.2 := by rw [d13]
  have r13 : ∀ p i : Int, S13.2.1 p i = S12.2.1 p i := fun p i => by rw [d13]
  have f13 : ∀ p i : Int, ¬ (p = 50 ∧ i = 2) → S13.1 p i = S12.1 p i := fun p i hp => by rw [d13]; exact if_neg hp
  have z14 : S14.2.2 = S13.2.2 := by rw [d14]
  have r14 : ∀ p i : Int, S14.2.1 p i = S13.2.1 p i := fun p i => by rw [d14]
  have f14 : ∀ p i : Int, ¬ (p = 50 ∧ i = 3) → S14.1 p i = S13.1 p i := fun p i hp => by rw [d14]; exact if_neg hp
  have z15 : S15.2.2 = S14.2.2 := by rw [d15]
  have r15 : ∀ p i : Int, S15.2.1 p i = S14.2.1 p i := fun p i => by rw [d15]
  have f15 : ∀ p i : Int, ¬ (p = 50 ∧ i = 4) → S15.1 p i = S14.1 p i := fun p i hp => by rw [d15]; exact if_neg hp
  obtain ⟨q16, f16⟩ := p16
  have z16 : S16.2.2 = S15.2.2 := by rw [q16]
  have r16 : ∀ p i : Int, S16.2.1 p i = S15.2.1 p i := fun p i => by rw [q16]
  obtain ⟨qZ, fZ⟩ := pz
  have zZ : Z.2.2 = S16.2.2 := by rw [qZ]
  have rZ : ∀ p i : Int, Z.2.1 p i = S16.2.1 p i := fun p i => by rw [qZ]
  unfold s117
  exact ⟨by omega, fun p i hW => (((((((((((((((((rZ p i)).trans ((r16 p i))).trans ((r15 p i))).trans ((r14 p i))).trans ((r13 p i))).trans ((r12 p i))).trans ((r11 p i))).trans ((r10 p i))).trans ((r9 p i))).trans ((r8 p i))).trans ((r7 p i))).trans ((r6 p i))).trans ((r5 p i))).trans ((r4 p i))).trans ((r3 p i))).trans ((r2 p i))).trans ((r1 p i)), fun p i hW => (((((((((((((((((fZ p i (by omega))).trans ((f16 p i (by omega)))).trans ((f15 p i (by omega)))).trans ((f14 p i (by omega)))).trans ((f13 p i (by omega)))).trans ((f12 p i))).trans ((f11 p i))).trans ((f10 p i))).trans ((f9 p i))).trans ((f8 p i))).trans ((f7 p i))).trans ((f6 p i))).trans ((f5 p i))).trans ((f4 p i (by omega)))).trans ((f3 p i (by omega)))).trans ((f2 p i))).trans ((f1 p i))⟩
theorem q118_0 (S : fx_S) (x1 x2 x3 : Int) (hS : fx_Sok S) (g1 : -1 ≤ x1 ∧ x1 < S.2.2) (g2 : -2147483648 ≤ x2 ∧ x2 ≤ 2147483647) (g3 : -2147483648 ≤ x3 ∧ x3 ≤ 2147483647) (v3 : Int) (e3 : v3 = S.1 2 8) (b3 : -2147483648 ≤ v3 ∧ v3 ≤ 2147483647) (c1 : v3 < 10) (v4 : Int) (e4 : v4 = S.1 2 8) (b4 : -2147483648 ≤ v4 ∧ v4 ≤ 2147483647) (c2 : 0 ≤ v4) (c3 : v4 < 10) (S1 : fx_S) (d1 : S1 = (S.1, fx_up S.2.1 9 v4 x1, S.2.2)) (v5 : Int) (e5 : v5 = S1.1 2 8) (b5 : -2147483648 ≤ v5 ∧ v5 ≤ 2147483647) (c4 : 0 ≤ v5) (c5 : v5 < 10) (S2 : fx_S) (d2 : S2 = (fx_up S1.1 10 v5 x2, S1.2)) (v6 : Int) (e6 : v6 = S2.1 2 8) (b6 : -2147483648 ≤ v6 ∧ v6 ≤ 2147483647) (c6 : 0 ≤ v6) (c7 : v6 < 10) (S3 : fx_S) (d3 : S3 = (fx_up S2.1 11 v6 x3, S2.2)) (v7 : Int) (e7 : v7 = S3.1 2 8) (b7 : -2147483648 ≤ v7 ∧ v7 ≤ 2147483647) (c8 : 0 ≤ v7) (c9 : v7 < 10) (S4 : fx_S) (d4 : S4 = (fx_up S3.1 12 v7 3600, S3.2)) (v8 : Int) (e8 : v8 = S4.1 2 8) (b8 : -2147483648 ≤ v8 ∧ v8 ≤ 2147483647) (v9 : Int) (e9 : v9 = fx_add v8 1) (S5 : fx_S) (d5 : S5 = (fx_up S4.1 2 8 v9, S4.2)) (v10 : Int) (e10 : v10 = S5.1 2 8) (b10 : -2147483648 ≤ v10 ∧ v10 ≤ 2147483647) (v11 : Int) (e11 : v11 = fx_sub v10 1) : s118 S x1 x2 x3 v11 S5 := by
  have z1 : S1.2.2 = S.2.2 := by rw [d1]
  have r1 : ∀ p i : Int, ¬ (p = 9 ∧ i = v4) → S1.2.1 p i = S.2.1 p i := fun p i hp => by rw [d1]; exact if_neg hp
  have f1 : ∀ p i : Int, S1.1 p i = S.1 p i := fun p i => by rw [d1]
  have z2 : S2.2.2 = S1.2.2 := by rw [d2]
  have r2 : ∀ p i : Int, S2.2.1 p i = S1.2.1 p i := fun p i => by rw [d2]
  have f2 : ∀ p i : Int, ¬ (p = 10 ∧ i = v5) → S2.1 p i = S1.1 p i := fun p i hp => by rw [d2]; exact if_neg hp
  have z3 : S3.2.2 = S2.2.2 := by rw [d3]
  have r3 : ∀ p i : Int, S3.2.1 p i = S2.2.1 p i := fun p i => by rw [d3]
  have f3 : ∀ p i : Int, ¬ (p = 11 ∧ i = v6) → S3.1 p i = S2.1 p i := fun p i hp => by rw [d3]; exact if_neg hp
  have z4 : S4.2.2 = S3.2.2 := by rw [d4]
  have r4 : ∀ p i : Int, S4.2.1 p i = S3.2.1 p i := fun p i => by rw [d4]
  have f4 : ∀ p i : Int, ¬ (p = 12 ∧ i = v7) → S4.1 p i = S3.1 p i := fun p i hp => by rw [d4]; exact if_neg hp
  have z5 : S5.2.2 = S4.2.2 := by rw [d5]
  have r5 : ∀ p i : Int, S5.2.1 p i = S4.2.1 p i := fun p i => by rw [d5]
  have f5 : ∀ p i : Int, ¬ (p = 2 ∧ i = 8) → S5.1 p i = S4.1 p i := fun p i hp => by rw [d5]; exact if_neg hp
  unfold s118
  exact ⟨by omega, fun p i hW => (((((r5 p i)).trans ((r4 p i))).trans ((r3 p i))).trans ((r2 p i))).trans ((r1 p i (by omega))), fun p i hW => (((((f5 p i (by omega))).trans ((f4 p i (by omega)))).trans ((f3 p i (by omega)))).trans ((f2 p i (by omega)))).trans ((f1 p i))⟩
theorem q118_1 (S : fx_S) (x1 x2 x3 : Int) (hS : fx_Sok S) (g1 : -1 ≤ x1 ∧ x1 < S.2.2) (g2 : -2147483648 ≤ x2 ∧ x2 ≤ 2147483647) (g3 : -2147483648 ≤ x3 ∧ x3 ≤ 2147483647) (v3 : Int) (e3 : v3 = S.1 2 8) (b3 : -2147483648 ≤ v3 ∧ v3 ≤ 2147483647) (c1 : 10 ≤ v3) : s118 S x1 x2 x3 (-3) S := by
  unfold s118
  exact ⟨by omega, fun p i hW => rfl, fun p i hW => rfl⟩
theorem q119_0 (S : fx_S) (x1 : Int) (hS : fx_Sok S) (g1 : -2147483648 ≤ x1 ∧ x1 ≤ 2147483647) (v1 : Int) (e1 : v1 = S.1 29 0) (b1 : -2147483648 ≤ v1 ∧ v1 ≤ 2147483647) (v2 : Int) (e2 : v2 = fx_sub v1 1) (v3 : Int) (S1 : fx_S) (k1 : fx_Sok S1) (b3 : -2147483648 ≤ v3 ∧ v3 ≤ 2147483647) (p1 : s114 S x1 0 v2 v3 S1) (c1 : v3 = 0) : s119 S x1 0 S1 := by
  obtain ⟨rfl, p1⟩ := p1
  exact rfl
theorem q119_1 (S : fx_S) (x1 : Int) (hS : fx_Sok S) (g1 : -2147483648 ≤ x1 ∧ x1 ≤ 2147483647) (v1 : Int) (e1 : v1 = S.1 29 0) (b1 : -2147483648 ≤ v1 ∧ v1 ≤ 2147483647) (v2 : Int) (e2 : v2 = fx_sub v1 1) (v3 : Int) (S1 : fx_S) (k1 : fx_Sok S1) (b3 : -2147483648 ≤ v3 ∧ v3 ≤ 2147483647) (p1 : s114 S x1 0 v2 v3 S1) (c1 : v3 ≠ 0) (c2 : 0 ≤ x1) (c3 : x1 < 20) (v4 : Int) (e4 : v4 = S1.1 31 x1) (b4 : -2147483648 ≤ v4 ∧ v4 ≤ 2147483647) (c4 : v4 = (-1)) : s119 S x1 0 S1 := by
  obtain ⟨rfl, p1⟩ := p1
  exact rfl
theorem q119_2 (S : fx_S) (x1 : Int) (hS : fx_Sok S) (g1 : -2147483648 ≤ x1 ∧ x1 ≤ 2147483647) (v1 : Int) (e1 : v1 = S.1 29 0) (b1 : -2147483648 ≤ v1 ∧ v1 ≤ 2147483647) (v2 : Int) (e2 : v2 = fx_sub v1 1) (v3 : Int) (S1 : fx_S) (k1 : fx_Sok S1) (b3 : -2147483648 ≤ v3 ∧ v3 ≤ 2147483647) (p1 : s114 S x1 0 v2 v3 S1) (c1 : v3 ≠ 0) (c2 : 0 ≤ x1) (c3 : x1 < 20) (v4 : Int) (e4 : v4 = S1.1 31 x1) (b4 : -2147483648 ≤ v4 ∧ v4 ≤ 2147483647) (c4 : v4 ≠ (-1)) (c5 : 0 ≤ x1) (c6 : x1 < 20) (v5 : Int) (e5 : v5 = S1.1 31 x1) (b5 : -2147483648 ≤ v5 ∧ v5 ≤ 2147483647) (v6 : Int) (e6 : v6 = S1.1 1 0) (b6 : -2147483648 ≤ v6 ∧ v6 ≤ 2147483647) (c7 : v5 ≠ v6) : s119 S x1 0 S1 := by
  obtain ⟨rfl, p1⟩ := p1
  exact rfl
theorem q119_3 (S : fx_S) (x1 : Int) (hS : fx_Sok S) (g1 : -2147483648 ≤ x1 ∧ x1 ≤ 2147483647) (v1 : Int) (e1 : v1 = S.1 29 0) (b1 : -2147483648 ≤ v1 ∧ v1 ≤ 2147483647) (v2 : Int) (e2 : v2 = fx_sub v1 1) (v3 : Int) (S1 : fx_S) (k1 : fx_Sok S1) (b3 : -2147483648 ≤ v3 ∧ v3 ≤ 2147483647) (p1 : s114 S x1 0 v2 v3 S1) (c1 : v3 ≠ 0) (c2 : 0 ≤ x1) (c3 : x1 < 20) (v4 : Int) (e4 : v4 = S1.1 31 x1) (b4 : -2147483648 ≤ v4 ∧ v4 ≤ 2147483647) (c4 : v4 ≠ (-1)) (c5 : 0 ≤ x1) (c6 : x1 < 20) (v5 : Int) (e5 : v5 = S1.1 31 x1) (b5 : -2147483648 ≤ v5 ∧ v5 ≤ 2147483647) (v6 : Int) (e6 : v6 = S1.1 1 0) (b6 : -2147483648 ≤ v6 ∧ v6 ≤ 2147483647) (c7 : v5 = v6) (v7 : Int) (S2 : fx_S) (k2 : fx_Sok S2) (b7 : -2147483648 ≤ v7 ∧ v7 ≤ 2147483647) (p2 : s158 S1 x1 v7 S2) (c8 : v7 = 0) : s119 S x1 0 S2 := by
  obtain ⟨rfl, p1⟩ := p1
  obtain rfl : S = S2 := p2
  exact rfl
theorem q119_4 (S : fx_S) (x1 : Int) (hS : fx_Sok S) (g1 : -2147483648 ≤ x1 ∧ x1 ≤ 2147483647) (v1 : Int) (e1 : v1 = S.1 29 0) (b1 : -2147483648 ≤ v1 ∧ v1 ≤ 2147483647) (v2 : Int) (e2 : v2 = fx_sub v1 1) (v3 : Int) (S1 : fx_S) (k1 : fx_Sok S1) (b3 : -2147483648 ≤ v3 ∧ v3 ≤ 2147483647) (p1 : s114 S x1 0 v2 v3 S1) (c1 : v3 ≠ 0) (c2 : 0 ≤ x1) (c3 : x1 < 20) (v4 : Int) (e4 : v4 = S1.1 31 x1) (b4 : -2147483648 ≤ v4 ∧ v4 ≤ 2147483647) (c4 : v4 ≠ (-1)) (c5 : 0 ≤ x1) (c6 : x1 < 20) (v5 : Int) (e5 : v5 = S1.1 31 x1) (b5 : -2147483648 ≤ v5 ∧ v5 ≤ 2147483647) (v6 : Int) (e6 : v6 = S1.1 1 0) (b6 : -2147483648 ≤ v6 ∧ v6 ≤ 2147483647) (c7 : v5 = v6) (v7 : Int) (S2 : fx_S) (k2 : fx_Sok S2) (b7 : -2147483648 ≤ v7 ∧ v7 ≤ 2147483647) (p2 : s158 S1 x1 v7 S2) (c8 : v7 ≠ 0) (c9 : x1 < 0) : s119 S x1 1 S2 := by
  obtain ⟨rfl, p1⟩ := p1
  obtain rfl : S = S2 := p2
  exact rfl
theorem q119_5 (S : fx_S) (x1 : Int) (hS : fx_Sok S) (g1 : -2147483648 ≤ x1 ∧ x1 ≤ 2147483647) (v1 : Int) (e1 : v1 = S.1 29 0) (b1 : -2147483648 ≤ v1 ∧ v1 ≤ 2147483647) (v2 : Int) (e2 : v2 = fx_sub v1 1) (v3 : Int) (S1 : fx_S) (k1 : fx_Sok S1) (b3 : -2147483648 ≤ v3 ∧ v3 ≤ 2147483647) (p1 : s114 S x1 0 v2 v3 S1) (c1 : v3 ≠ 0) (c2 : 0 ≤ x1) (c3 : x1 < 20) (v4 : Int) (e4 : v4 = S1.1 31 x1) (b4 : -2147483648 ≤ v4 ∧ v4 ≤ 2147483647) (c4 : v4 ≠ (-1)) (c5 : 0 ≤ x1) (c6 : x1 < 20) (v5 : Int) (e5 : v5 = S1.1 31 x1) (b5 : -2147483648 ≤ v5 ∧ v5 ≤ 2147483647) (v6 : Int) (e6 : v6 = S1.1 1 0) (b6 : -2147483648 ≤ v6 ∧ v6 ≤ 2147483647) (c7 : v5 = v6) (v7 : Int) (S2 : fx_S) (k2 : fx_Sok S2) (b7 : -2147483648 ≤ v7 ∧ v7 ≤ 2147483647) (p2 : s158 S1 x1 v7 S2) (c8 : v7 ≠ 0) (c9 : 0 ≤ x1) (v8 : Int) (e8 : v8 = S2.1 29 0) (b8 : -2147483648 ≤ v8 ∧ v8 ≤ 2147483647) (c10 : v8 ≤ x1) : s119 S x1 1 S2 := by
  obtain ⟨rfl, p1⟩ := p1
  obtain rfl : S = S2 := p2
  exact rfl
theorem q119_6 (S : fx_S) (x1 : Int) (hS : fx_Sok S) (g1 : -2147483648 ≤ x1 ∧ x1 ≤ 2147483647) (v1 : Int) (e1 : v1 = S.1 29 0) (b1 : -2147483648 ≤ v1 ∧ v1 ≤ 2147483647) (v2 : Int) (e2 : v2 = fx_sub v1 1) (v3 : Int) (S1 : fx_S) (k1 : fx_Sok S1) (b3 : -2147483648 ≤ v3 ∧ v3 ≤ 2147483647) (p1 : s114 S x1 0 v2 v3 S1) (c1 : v3 ≠ 0) (c2 : 0 ≤ x1) (c3 : x1 < 20) (v4 : Int) (e4 : v4 = S1.1 31 x1) (b4 : -2147483648 ≤ v4 ∧ v4 ≤ 2147483647) (c4 : v4 ≠ (-1)) (c5 : 0 ≤ x1) (c6 : x1 < 20) (v5 : Int) (e5 : v5 = S1.1 31 x1) (b5 : -2147483648 ≤ v5 ∧ v5 ≤ 2147483647) (v6 : Int) (e6 : v6 = S1.1 1 0) (b6 : -2147483648 ≤ v6 ∧ v6 ≤ 2147483647) (c7 : v5 = v6) (v7 : Int) (S2 : fx_S) (k2 : fx_Sok S2) (b7 : -2147483648 ≤ v7 ∧ v7 ≤ 2147483647) (p2 : s158 S1 x1 v7 S2) (c8 : v7 ≠ 0) (c9 : 0 ≤ x1) (v8 : Int) (e8 : v8 = S2.1 29 0) (b8 : -2147483648 ≤ v8 ∧ v8 ≤ 2147483647) (c10 : x1 < v8) (c11 : 0 ≤ x1) (c12 : x1 < 20) (v9 : Int) (e9 : v9 = S2.1 33 x1) (b9 : -2147483648 ≤ v9 ∧ v9 ≤ 2147483647) (c13 : v9 = 3600) : s119 S x1 1 S2 := by
  obtain ⟨rfl, p1⟩ := p1
  obtain rfl : S = S2 := p2
  exact rfl
theorem q119_7 (S : fx_S) (x1 : Int) (hS : fx_Sok S) (g1 : -2147483648 ≤ x1 ∧ x1 ≤ 2147483647) (v1 : Int) (e1 : v1 = S.1 29 0) (b1 : -2147483648 ≤ v1 ∧ v1 ≤ 2147483647) (v2 : Int) (e2 : v2 = fx_sub v1 1) (v3 : Int) (S1 : fx_S) (k1 : fx_Sok S1) (b3 : -2147483648 ≤ v3 ∧ v3 ≤ 2147483647) (p1 : s114 S x1 0 v2 v3 S1) (c1 : v3 ≠ 0) (c2 : 0 ≤ x1) (c3 : x1 < 20) (v4 : Int) (e4 : v4 = S1.1 31 x1) (b4 : -2147483648 ≤ v4 ∧ v4 ≤ 2147483647) (c4 : v4 ≠ (-1)) (c5 : 0 ≤ x1) (c6 : x1 < 20) (v5 : Int) (e5 : v5 = S1.1 31 x1) (b5 : -2147483648 ≤ v5 ∧ v5 ≤ 2147483647) (v6 : Int) (e6 : v6 = S1.1 1 0) (b6 : -2147483648 ≤ v6 ∧ v6 ≤ 2147483647) (c7 : v5 = v6) (v7 : Int) (S2 : fx_S) (k2 : fx_Sok S2) (b7 : -2147483648 ≤ v7 ∧ v7 ≤ 2147483647) (p2 : s158 S1 x1 v7 S2) (c8 : v7 ≠ 0) (c9 : 0 ≤ x1) (v8 : Int) (e8 : v8 = S2.1 29 0) (b8 : -2147483648 ≤ v8 ∧ v8 ≤ 2147483647) (c10 : x1 < v8) (c11 : 0 ≤ x1) (c12 : x1 < 20) (v9 : Int) (e9 : v9 = S2.1 33 x1) (b9 : -2147483648 ≤ v9 ∧ v9 ≤ 2147483647) (c13 : v9 ≠ 3600) : s119 S x1 0 S2 := by
  obtain ⟨rfl, p1⟩ := p1
  obtain rfl : S = S2 := p2
  exact rfl
theorem q120_0 (S : fx_S) (hS : fx_Sok S) (v0 : Int) (e0 : v0 = S.1 66 8) (b0 : -2147483648 ≤ v0 ∧ v0 ≤ 2147483647) (v1 : Int) (S1 : fx_S) (k1 : fx_Sok S1) (b1 : -2147483648 ≤ v1 ∧ v1 ≤ 2147483647) (p1 : s220 S v0 v1 S1) (c1 : v1 = 32) (v2 : Int) (e2 : v2 = S1.1 66 8) (b2 : -2147483648 ≤ v2 ∧ v2 ≤ 2147483647) (v3 : Int) (e3 : v3 = fx_add v2 1) (S2 : fx_S) (d2 : S2 = (fx_up S1.1 66 8 v3, S1.2)) (z : Int) (Z : fx_S) (kz : fx_Sok Z) (bz : z = 0) (pz : s120 S2  z Z) : s120 S  z Z := by
  obtain rfl : S = S1 := p1
  obtain ⟨rZ, fZ⟩ := pz
  refine ⟨(rZ).trans ((show S2.2 = S.2 by rw [d2])), ?_⟩
  · intro p i hW
    clear e3 b2 e2 c1 b1 b0 e0
    exact ((fZ p i (by omega))).trans ((show S2.1 p i = S.1 p i by rw [d2]; exact if_neg (by omega)))
theorem q120_1 (S : fx_S) (hS : fx_Sok S) (v0 : Int) (e0 : v0 = S.1 66 8) (b0 : -2147483648 ≤ v0 ∧ v0 ≤ 2147483647) (v1 : Int) (S1 : fx_S) (k1 : fx_Sok S1) (b1 : -2147483648 ≤ v1 ∧ v1 ≤ 2147483647) (p1 : s220 S v0 v1 S1) (c1 : v1 ≠ 32) (v2 : Int) (e2 : v2 = S1.1 66 8) (b2 : -2147483648 ≤ v2 ∧ v2 ≤ 2147483647) (v3 : Int) (S2 : fx_S) (k2 : fx_Sok S2) (b3 : -2147483648 ≤ v3 ∧ v3 ≤ 2147483647) (p2 : s220 S1 v2 v3 S2) (c2 : v3 ≠ 10) (v4 : Int) (e4 : v4 = S2.1 66 8) (b4 : -2147483648 ≤ v4 ∧ v4 ≤ 2147483647) (S3 : fx_S) (d3 : S3 = (fx_up S2.1 66 9 v4, S2.2)) (v5 : Int) (e5 : v5 = S3.1 66 8) (b5 : -2147483648 ≤ v5 ∧ v5 ≤ 2147483647) (v6 : Int) (S4 : fx_S) (k4 : fx_Sok S4) (b6 : -2147483648 ≤ v6 ∧ v6 ≤ 2147483647) (p4 : s220 S3 v5 v6 S4) (c3 : v6 ≠ (-1)) (v7 : Int) (S5 : fx_S) (k5 : fx_Sok S5) (b7 : -2147483648 ≤ v7 ∧ v7 ≤ 2147483647) (p5 : s113 S4 v6 97 122 v7 S5) (c4 : v7 = 0) (v8 : Int) (S6 : fx_S) (k6 : fx_Sok S6) (b8 : -2147483648 ≤ v8 ∧ v8 ≤ 2147483647) (p6 : s113 S5 v6 48 57 v8 S6) (c5 : v8 = 0) (S7 : fx_S) (d7 : S7 = (fx_up S6.1 66 11 v6, S6.2)) (c6 : v6 = 60) (S8 : fx_S) (d8 : S8 = (fx_up S7.1 66 10 3, S7.2)) (v9 : Int) (e9 : v9 = S8.1 66 8) (b9 : -2147483648 ≤ v9 ∧ v9 ≤ 2147483647) (v10 : Int) (e10 : v10 = fx_add v9 1) (S9 : fx_S) (d9 : S9 = (fx_up S8.1 66 8 v10, S8.2)) : s120 S  0 S9 := by
  obtain rfl : S = S1 := p1
  obtain rfl : S = S2 := p2
  obtain rfl : S3 = S4 := p4
  obtain ⟨rfl, p5⟩ := p5
  obtain ⟨rfl, p6⟩ := p6
  refine ⟨((show S9.2 = S8.2 by rw [d9])).trans (((show S8.2 = S7.2 by rw [d8])).trans (((show S7.2 = S3.2 by rw [d7])).trans ((show S3.2 = S.2 by rw [d3])))), ?_⟩
  · intro p i hW
    clear e10 b9 e9 c6 c5 b8 c4 b7 c3 b6 b5 e5 b4 e4 c2 b3 b2 e2 c1 b1 b0 e0
    exact ((show S9.1 p i = S8.1 p i by rw [d9]; exact if_neg (by omega))).trans (((show S8.1 p i = S7.1 p i by rw [d8]; exact if_neg (by omega))).trans (((show S7.1 p i = S3.1 p i by rw [d7]; exact if_neg (by omega))).trans ((show S3.1 p i = S.1 p i by rw [d3]; exact if_neg (by omega)))))
theorem q120_2 (S : fx_S) (hS : fx_Sok S) (v0 : Int) (e0 : v0 = S.1 66 8) (b0 : -2147483648 ≤ v0 ∧ v0 ≤ 2147483647) (v1 : Int) (S1 : fx_S) (k1 : fx_Sok S1) (b1 : -2147483648 ≤ v1 ∧ v1 ≤ 2147483647) (p1 : s220 S v0 v1 S1) (c1 : v1 ≠ 32) (v2 : Int) (e2 : v2 = S1.1 66 8) (b2 : -2147483648 ≤ v2 ∧ v2 ≤ 2147483647) (v3 : Int) (S2 : fx_S) (k2 : fx_Sok S2) (b3 : -2147483648 ≤ v3 ∧ v3 ≤ 2147483647) (p2 : s220 S1 v2 v3 S2) (c2 : v3 ≠ 10) (v4 : Int) (e4 : v4 = S2.1 66 8) (b4 : -2147483648 ≤ v4 ∧ v4 ≤ 2147483647) (S3 : fx_S) (d3 : S3 = (fx_up S2.1 66 9 v4, S2.2)) (v5 : Int) (e5 : v5 = S3.1 66 8) (b5 : -2147483648 ≤ v5 ∧ v5 ≤ 2147483647) (v6 : Int) (S4 : fx_S) (k4 : fx_Sok S4) (b6 : -2147483648 ≤ v6 ∧ v6 ≤ 2147483647) (p4 : s220 S3 v5 v6 S4) (c3 : v6 ≠ (-1)) (v7 : Int) (S5 : fx_S) (k5 : fx_Sok S5) (b7 : -2147483648 ≤ v7 ∧ v7 ≤ 2147483647) (p5 : s113 S4 v6 97 122 v7 S5) (c4 : v7 = 0) (v8 : Int) (S6 : fx_S) (k6 : fx_Sok S6) (b8 : -2147483648 ≤ v8 ∧ v8 ≤ 2147483647) (p6 : s113 S5 v6 48 57 v8 S6) (c5 : v8 = 0) (S7 : fx_S) (d7 : S7 = (fx_up S6.1 66 11 v6, S6.2)) (c6 : v6 ≠ 60) (c7 : v6 = 62) (S8 : fx_S) (d8 : S8 = (fx_up S7.1 66 10 3, S7.2)) (v9 : Int) (e9 : v9 = S8.1 66 8) (b9 : -2147483648 ≤ v9 ∧ v9 ≤ 2147483647) (v10 : Int) (e10 : v10 = fx_add v9 1) (S9 : fx_S) (d9 : S9 = (fx_up S8.1 66 8 v10, S8.2)) : s120 S  0 S9 := by
  obtain rfl : S = S1 := p1
  obtain rfl : S = S2 := p2
  obtain rfl : S3 = S4 := p4
  obtain ⟨rfl, p5⟩ := p5
  obtain ⟨rfl, p6⟩ := p6
  refine ⟨((show S9.2 = S8.2 by rw [d9])).trans (((show S8.2 = S7.2 by rw [d8])).trans (((show S7.2 = S3.2 by rw [d7])).trans ((show S3.2 = S.2 by rw [d3])))), ?_⟩
  · intro p i hW
    clear e10 b9 e9 c7 c6 c5 b8 c4 b7 c3 b6 b5 e5 b4 e4 c2 b3 b2 e2 c1 b1 b0 e0
    exact ((show S9.1 p i = S8.1 p i by rw [d9]; exact if_neg (by omega))).trans (((show S8.1 p i = S7.1 p i by rw [d8]; exact if_neg (by omega))).trans (((show S7.1 p i = S3.1 p i by rw [d7]; exact if_neg (by omega))).trans ((show S3.1 p i = S.1 p i by rw [d3]; exact if_neg (by omega)))))
theorem q120_3 (S : fx_S) (hS : fx_Sok S) (v0 : Int) (e0 : v0 = S.1 66 8) (b0 : -2147483648 ≤ v0 ∧ v0 ≤ 2147483647) (v1 : Int) (S1 : fx_S) (k1 : fx_Sok S1) (b1 : -2147483648 ≤ v1 ∧ v1 ≤ 2147483647) (p1 : s220 S v0 v1 S1) (c1 : v1 ≠ 32) (v2 : Int) (e2 : v2 = S1.1 66 8) (b2 : -2147483648 ≤ v2 ∧ v2 ≤ 2147483647) (v3 : Int) (S2 : fx_S) (k2 : fx_Sok S2) (b3 : -2147483648 ≤ v3 ∧ v3 ≤ 2147483647) (p2 : s220 S1 v2 v3 S2) (c2 : v3 ≠ 10) (v4 : Int) (e4 : v4 = S2.1 66 8) (b4 : -2147483648 ≤ v4 ∧ v4 ≤ 2147483647) (S3 : fx_S) (d3 : S3 = (fx_up S2.1 66 9 v4, S2.2)) (v5 : Int) (e5 : v5 = S3.1 66 8) (b5 : -2147483648 ≤ v5 ∧ v5 ≤ 2147483647) (v6 : Int) (S4 : fx_S) (k4 : fx_Sok S4) (b6 : -2147483648 ≤ v6 ∧ v6 ≤ 2147483647) (p4 : s220 S3 v5 v6 S4) (c3 : v6 ≠ (-1)) (v7 : Int) (S5 : fx_S) (k5 : fx_Sok S5) (b7 : -2147483648 ≤ v7 ∧ v7 ≤ 2147483647) (p5 : s113 S4 v6 97 122 v7 S5) (c4 : v7 = 0) (v8 : Int) (S6 : fx_S) (k6 : fx_Sok S6) (b8 : -2147483648 ≤ v8 ∧ v8 ≤ 2147483647) (p6 : s113 S5 v6 48 57 v8 S6) (c5 : v8 = 0) (S7 : fx_S) (d7 : S7 = (fx_up S6.1 66 11 v6, S6.2)) (c6 : v6 ≠ 60) (c7 : v6 ≠ 62) (c8 : v6 = 61) (S8 : fx_S) (d8 : S8 = (fx_up S7.1 66 10 3, S7.2)) (v9 : Int) (e9 : v9 = S8.1 66 8) (b9 : -2147483648 ≤ v9 ∧ v9 ≤ 2147483647) (v10 : Int) (e10 : v10 = fx_add v9 1) (S9 : fx_S) (d9 : S9 = (fx_up S8.1 66 8 v10, S8.2)) : s120 S  0 S9 := by
  obtain rfl : S = S1 := p1
  obtain rfl : S = S2 := p2
  obtain rfl : S3 = S4 := p4
  obtain ⟨rfl, p5⟩ := p5
  obtain ⟨rfl, p6⟩ := p6
  refine ⟨((show S9.2 = S8.2 by rw [d9])).trans (((show S8.2 = S7.2 by rw [d8])).trans (((show S7.2 = S3.2 by rw [d7])).trans ((show S3.2 = S.2 by rw [d3])))), ?_⟩
  · intro p i hW
    clear e10 b9 e9 c8 c7 c6 c5 b8 c4 b7 c3 b6 b5 e5 b4 e4 c2 b3 b2 e2 c1 b1 b0 e0
    exact ((show S9.1 p i = S8.1 p i by rw [d9]; exact if_neg (by omega))).trans (((show S8.1 p i = S7.1 p i by rw [d8]; exact if_neg (by omega))).trans (((show S7.1 p i = S3.1 p i by rw [d7]; exact if_neg (by omega))).trans ((show S3.1 p i = S.1 p i by rw [d3]; exact if_neg (by omega)))))
theorem q120_4 (S : fx_S) (hS : fx_Sok S) (v0 : Int) (e0 : v0 = S.1 66 8) (b0 : -2147483648 ≤ v0 ∧ v0 ≤ 2147483647) (v1 : Int) (S1 : fx_S) (k1 : fx_Sok S1) (b1 : -2147483648 ≤ v1 ∧ v1 ≤ 2147483647) (p1 : s220 S v0 v1 S1) (c1 : v1 ≠ 32) (v2 : Int) (e2 : v2 = S1.1 66 8) (b2 : -2147483648 ≤ v2 ∧ v2 ≤ 2147483647) (v3 : Int) (S2 : fx_S) (k2 : fx_Sok S2) (b3 : -2147483648 ≤ v3 ∧ v3 ≤ 2147483647) (p2 : s220 S1 v2 v3 S2) (c2 : v3 ≠ 10) (v4 : Int) (e4 : v4 = S2.1 66 8) (b4 : -2147483648 ≤ v4 ∧ v4 ≤ 2147483647) (S3 : fx_S) (d3 : S3 = (fx_up S2.1 66 9 v4, S2.2)) (v5 : Int) (e5 : v5 = S3.1 66 8) (b5 : -2147483648 ≤ v5 ∧ v5 ≤ 2147483647) (v6 : Int) (S4 : fx_S) (k4 : fx_Sok S4) (b6 : -2147483648 ≤ v6 ∧ v6 ≤ 2147483647) (p4 : s220 S3 v5 v6 S4) (c3 : v6 ≠ (-1)) (v7 : Int) (S5 : fx_S) (k5 : fx_Sok S5) (b7 : -2147483648 ≤ v7 ∧ v7 ≤ 2147483647) (p5 : s113 S4 v6 97 122 v7 S5) (c4 : v7 = 0) (v8 : Int) (S6 : fx_S) (k6 : fx_Sok S6) (b8 : -2147483648 ≤ v8 ∧ v8 ≤ 2147483647) (p6 : s113 S5 v6 48 57 v8 S6) (c5 : v8 = 0) (S7 : fx_S) (d7 : S7 = (fx_up S6.1 66 11 v6, S6.2)) (c6 : v6 ≠ 60) (c7 : v6 ≠ 62) (c8 : v6 ≠ 61) (c9 : v6 ≠ 59) (S8 : fx_S) (d8 : S8 = (fx_up S7.1 66 10 4, S7.2)) (v9 : Int) (e9 : v9 = S8.1 66 8) (b9 : -2147483648 ≤ v9 ∧ v9 ≤ 2147483647) (v10 : Int) (e10 : v10 = fx_add v9 1) (S9 : fx_S) (d9 : S9 = (fx_up S8.1 66 8 v10, S8.2)) : s120 S  0 S9 := by
  obtain rfl : S = S1 := p1
  obtain rfl : S = S2 := p2
  obtain rfl : S3 = S4 := p4
  obtain ⟨rfl, p5⟩ := p5
  obtain ⟨rfl, p6⟩ := p6
  refine ⟨((show S9.2 = S8.2 by rw [d9])).trans (((show S8.2 = S7.2 by rw [d8])).trans (((show S7.2 = S3.2 by rw [d7])).trans ((show S3.2 = S.2 by rw [d3])))), ?_⟩
  · intro p i hW
    clear e10 b9 e9 c9 c8 c7 c6 c5 b8 c4 b7 c3 b6 b5 e5 b4 e4 c2 b3 b2 e2 c1 b1 b0 e0
    exact ((show S9.1 p i = S8.1 p i by rw [d9]; exact if_neg (by omega))).trans (((show S8.1 p i = S7.1 p i by rw [d8]; exact if_neg (by omega))).trans (((show S7.1 p i = S3.1 p i by rw [d7]; exact if_neg (by omega))).trans ((show S3.1 p i = S.1 p i by rw [d3]; exact if_neg (by omega)))))
theorem q120_5 (S : fx_S) (hS : fx_Sok S) (v0 : Int) (e0 : v0 = S.1 66 8) (b0 : -2147483648 ≤ v0 ∧ v0 ≤ 2147483647) (v1 : Int) (S1 : fx_S) (k1 : fx_Sok S1) (b1 : -2147483648 ≤ v1 ∧ v1 ≤ 2147483647) (p1 : s220 S v0 v1 S1) (c1 : v1 ≠ 32) (v2 : Int) (e2 : v2 = S1.1 66 8) (b2 : -2147483648 ≤ v2 ∧ v2 ≤ 2147483647) (v3 : Int) (S2 : fx_S) (k2 : fx_Sok S2) (b3 : -2147483648 ≤ v3 ∧ v3 ≤ 2147483647) (p2 : s220 S1 v2 v3 S2) (c2 : v3 ≠ 10) (v4 : Int) (e4 : v4 = S2.1 66 8) (b4 : -2147483648 ≤ v4 ∧ v4 ≤ 2147483647) (S3 : fx_S) (d3 : S3 = (fx_up S2.1 66 9 v4, S2.2)) (v5 : Int) (e5 : v5 = S3.1 66 8) (b5 : -2147483648 ≤ v5 ∧ v5 ≤ 2147483647) (v6 : Int) (S4 : fx_S) (k4 : fx_Sok S4) (b6 : -2147483648 ≤ v6 ∧ v6 ≤ 2147483647) (p4 : s220 S3 v5 v6 S4) (c3 : v6 ≠ (-1)) (v7 : Int) (S5 : fx_S) (k5 : fx_Sok S5) (b7 : -2147483648 ≤ v7 ∧ v7 ≤ 2147483647) (p5 : s113 S4 v6 97 122 v7 S5) (c4 : v7 = 0) (v8 : Int) (S6 : fx_S) (k6 : fx_Sok S6) (b8 : -2147483648 ≤ v8 ∧ v8 ≤ 2147483647) (p6 : s113 S5 v6 48 57 v8 S6) (c5 : v8 = 0) (S7 : fx_S) (d7 : S7 = (fx_up S6.1 66 11 v6, S6.2)) (c6 : v6 ≠ 60) (c7 : v6 ≠ 62) (c8 : v6 ≠ 61) (c9 : v6 = 59) (S8 : fx_S) (d8 : S8 = (fx_up S7.1 66 10 3, S7.2)) (v9 : Int) (e9 : v9 = S8.1 66 8) (b9 : -2147483648 ≤ v9 ∧ v9 ≤ 2147483647) (v10 : Int) (e10 : v10 = fx_add v9 1) (S9 : fx_S) (d9 : S9 = (fx_up S8.1 66 8 v10, S8.2)) : s120 S  0 S9 := by
  obtain rfl : S = S1 := p1
  obtain rfl : S = S2 := p2
  obtain rfl : S3 = S4 := p4
  obtain ⟨rfl, p5⟩ := p5
  obtain ⟨rfl, p6⟩ := p6
  refine ⟨((show S9.2 = S8.2 by rw [d9])).trans (((show S8.2 = S7.2 by rw [d8])).trans (((show S7.2 = S3.2 by rw [d7])).trans ((show S3.2 = S.2 by rw [d3])))), ?_⟩
  · intro p i hW
    clear e10 b9 e9 c9 c8 c7 c6 c5 b8 c4 b7 c3 b6 b5 e5 b4 e4 c2 b3 b2 e2 c1 b1 b0 e0
    exact ((show S9.1 p i = S8.1 p i by rw [d9]; exact if_neg (by omega))).trans (((show S8.1 p i = S7.1 p i by rw [d8]; exact if_neg (by omega))).trans (((show S7.1 p i = S3.1 p i by rw [d7]; exact if_neg (by omega))).trans ((show S3.1 p i = S.1 p i by rw [d3]; exact if_neg (by omega)))))
theorem q120_6 (S : fx_S) (hS : fx_Sok S) (v0 : Int) (e0 : v0 = S.1 66 8) (b0 : -2147483648 ≤ v0 ∧ v0 ≤ 2147483647) (v1 : Int) (S1 : fx_S) (k1 : fx_Sok S1) (b1 : -2147483648 ≤ v1 ∧ v1 ≤ 2147483647) (p1 : s220 S v0 v1 S1) (c1 : v1 ≠ 32) (v2 : Int) (e2 : v2 = S1.1 66 8) (b2 : -2147483648 ≤ v2 ∧ v2 ≤ 2147483647) (v3 : Int) (S2 : fx_S) (k2 : fx_Sok S2) (b3 : -2147483648 ≤ v3 ∧ v3 ≤ 2147483647) (p2 : s220 S1 v2 v3 S2) (c2 : v3 ≠ 10) (v4 : Int) (e4 : v4 = S2.1 66 8) (b4 : -2147483648 ≤ v4 ∧ v4 ≤ 2147483647) (S3 : fx_S) (d3 : S3 = (fx_up S2.1 66 9 v4, S2.2)) (v5 : Int) (e5 : v5 = S3.1 66 8) (b5 : -2147483648 ≤ v5 ∧ v5 ≤ 2147483647) (v6 : Int) (S4 : fx_S) (k4 : fx_Sok S4) (b6 : -2147483648 ≤ v6 ∧ v6 ≤ 2147483647) (p4 : s220 S3 v5 v6 S4) (c3 : v6 ≠ (-1)) (v7 : Int) (S5 : fx_S) (k5 : fx_Sok S5) (b7 : -2147483648 ≤ v7 ∧ v7 ≤ 2147483647) (p5 : s113 S4 v6 97 122 v7 S5) (c4 : v7 = 0) (v8 : Int) (S6 : fx_S) (k6 : fx_Sok S6) (b8 : -2147483648 ≤ v8 ∧ v8 ≤ 2147483647) (p6 : s113 S5 v6 48 57 v8 S6) (c5 : v8 ≠ 0) (S7 : fx_S) (d7 : S7 = (fx_up S6.1 66 11 0, S6.2)) (z : Int) (Z : fx_S) (kz : fx_Sok Z) (bz : z = 0) (pz : s221 S7  z Z) : s120 S  z Z := by
  obtain rfl : S = S1 := p1
  obtain rfl : S = S2 := p2
  obtain rfl : S3 = S4 := p4
  obtain ⟨rfl, p5⟩ := p5
  obtain ⟨rfl, p6⟩ := p6
  obtain ⟨rZ, fZ⟩ := pz
  refine ⟨(rZ).trans (((show S7.2 = S3.2 by rw [d7])).trans ((show S3.2 = S.2 by rw [d3]))), ?_⟩
  · intro p i hW
    clear c5 b8 c4 b7 c3 b6 b5 e5 b4 e4 c2 b3 b2 e2 c1 b1 b0 e0
    exact ((fZ p i (by omega))).trans (((show S7.1 p i = S3.1 p i by rw [d7]; exact if_neg (by omega))).trans ((show S3.1 p i = S.1 p i by rw [d3]; exact if_neg (by omega))))
theorem q120_7 (S : fx_S) (hS : fx_Sok S) (v0 : Int) (e0 : v0 = S.1 66 8) (b0 : -2147483648 ≤ v0 ∧ v0 ≤ 2147483647) (v1 : Int) (S1 : fx_S) (k1 : fx_Sok S1) (b1 : -2147483648 ≤ v1 ∧ v1 ≤ 2147483647) (p1 : s220 S v0 v1 S1) (c1 : v1 ≠ 32) (v2 : Int) (e2 : v2 = S1.1 66 8) (b2 : -2147483648 ≤ v2 ∧ v2 ≤ 2147483647) (v3 : Int) (S2 : fx_S) (k2 : fx_Sok S2) (b3 : -2147483648 ≤ v3 ∧ v3 ≤ 2147483647) (p2 : s220 S1 v2 v3 S2) (c2 : v3 ≠ 10) (v4 : Int) (e4 : v4 = S2.1 66 8) (b4 : -2147483648 ≤ v4 ∧ v4 ≤ 2147483647) (S3 : fx_S) (d3 : S3 = (fx_up S2.1 66 9 v4, S2.2)) (v5 : Int) (e5 : v5 = S3.1 66 8) (b5 : -2147483648 ≤ v5 ∧ v5 ≤ 2147483647) (v6 : Int) (S4 : fx_S) (k4 : fx_Sok S4) (b6 : -2147483648 ≤ v6 ∧ v6 ≤ 2147483647) (p4 : s220 S3 v5 v6 S4) (c3 : v6 ≠ (-1)) (v7 : Int) (S5 : fx_S) (k5 : fx_Sok S5) (b7 : -2147483648 ≤ v7 ∧ v7 ≤ 2147483647) (p5 : s113 S4 v6 97 122 v7 S5) (c4 : v7 ≠ 0) (z : Int) (Z : fx_S) (kz : fx_Sok Z) (bz : z = 0) (pz : s222 S5  z Z) : s120 S  z Z := by
  obtain rfl : S = S1 := p1
  obtain rfl : S = S2 := p2
  obtain rfl : S3 = S4 := p4
  obtain ⟨rfl, p5⟩ := p5
  obtain ⟨rZ, fZ⟩ := pz
  refine ⟨(rZ).trans ((show S3.2 = S.2 by rw [d3])), ?_⟩
  · intro p i hW
    clear c4 b7 c3 b6 b5 e5 b4 e4 c2 b3 b2 e2 c1 b1 b0 e0
    exact ((fZ p i (by omega))).trans ((show S3.1 p i = S.1 p i by rw [d3]; exact if_neg (by omega)))
theorem q120_8 (S : fx_S) (hS : fx_Sok S) (v0 : Int) (e0 : v0 = S.1 66 8) (b0 : -2147483648 ≤ v0 ∧ v0 ≤ 2147483647) (v1 : Int) (S1 : fx_S) (k1 : fx_Sok S1) (b1 : -2147483648 ≤ v1 ∧ v1 ≤ 2147483647) (p1 : s220 S v0 v1 S1) (c1 : v1 ≠ 32) (v2 : Int) (e2 : v2 = S1.1 66 8) (b2 : -2147483648 ≤ v2 ∧ v2 ≤ 2147483647) (v3 : Int) (S2 : fx_S) (k2 : fx_Sok S2) (b3 : -2147483648 ≤ v3 ∧ v3 ≤ 2147483647) (p2 : s220 S1 v2 v3 S2) (c2 : v3 ≠ 10) (v4 : Int) (e4 : v4 = S2.1 66 8) (b4 : -2147483648 ≤ v4 ∧ v4 ≤ 2147483647) (S3 : fx_S) (d3 : S3 = (fx_up S2.1 66 9 v4, S2.2)) (v5 : Int) (e5 : v5 = S3.1 66 8) (b5 : -2147483648 ≤ v5 ∧ v5 ≤ 2147483647) (v6 : Int) (S4 : fx_S) (k4 : fx_Sok S4) (b6 : -2147483648 ≤ v6 ∧ v6 ≤ 2147483647) (p4 : s220 S3 v5 v6 S4) (c3 : v6 = (-1)) (S5 : fx_S) (d5 : S5 = (fx_up S4.1 66 10 0, S4.2)) : s120 S  0 S5 := by
  obtain rfl : S = S1 := p1
  obtain rfl : S = S2 := p2
  obtain rfl : S3 = S4 := p4
  refine ⟨((show S5.2 = S3.2 by rw [d5])).trans ((show S3.2 = S.2 by rw [d3])), ?_⟩
  · intro p i hW
    clear c3 b6 b5 e5 b4 e4 c2 b3 b2 e2 c1 b1 b0 e0
    exact ((show S5.1 p i = S3.1 p i by rw [d5]; exact if_neg (by omega))).trans ((show S3.1 p i = S.1 p i by rw [d3]; exact if_neg (by omega)))
theorem q120_9 (S : fx_S) (hS : fx_Sok S) (v0 : Int) (e0 : v0 = S.1 66 8) (b0 : -2147483648 ≤ v0 ∧ v0 ≤ 2147483647) (v1 : Int) (S1 : fx_S) (k1 : fx_Sok S1) (b1 : -2147483648 ≤ v1 ∧ v1 ≤ 2147483647) (p1 : s220 S v0 v1 S1) (c1 : v1 ≠ 32) (v2 : Int) (e2 : v2 = S1.1 66 8) (b2 : -2147483648 ≤ v2 ∧ v2 ≤ 2147483647) (v3 : Int) (S2 : fx_S) (k2 : fx_Sok S2) (b3 : -2147483648 ≤ v3 ∧ v3 ≤ 2147483647) (p2 : s220 S1 v2 v3 S2) (c2 : v3 = 10) (v4 : Int) (e4 : v4 = S2.1 66 8) (b4 : -2147483648 ≤ v4 ∧ v4 ≤ 2147483647) (v5 : Int) (e5 : v5 = fx_add v4 1) (S3 : fx_S) (d3 : S3 = (fx_up S2.1 66 8 v5, S2.2)) (z : Int) (Z : fx_S) (kz : fx_Sok Z) (bz : z = 0) (pz : s120 S3  z Z) : s120 S  z Z := by
  obtain rfl : S = S1 := p1
  obtain rfl : S = S2 := p2
  obtain ⟨rZ, fZ⟩ := pz
  refine ⟨(rZ).trans ((show S3.2 = S.2 by rw [d3])), ?_⟩
  · intro p i hW
    clear e5 b4 e4 c2 b3 b2 e2 c1 b1 b0 e0
    exact ((fZ p i (by omega))).trans ((show S3.1 p i = S.1 p i by rw [d3]; exact if_neg (by omega)))
theorem q121_0 (S : fx_S) (x1 x2 : Int) (hS : fx_Sok S) (g1 : -2147483648 ≤ x1 ∧ x1 ≤ 2147483647) (g2 : -2147483648 ≤ x2 ∧ x2 ≤ 2147483647) (v2 : Int) (e2 : v2 = S.1 66 12) (b2 : -2147483648 ≤ v2 ∧ v2 ≤ 2147483647) (c1 : v2 ≠ 0) (v3 : Int) (e3 : v3 = S.1 66 12) (b3 : -2147483648 ≤ v3 ∧ v3 ≤ 2147483647) (c2 : v3 ≠ 0) : s121 S x1 x2 (-4) S := by
  unfold s121
  intro hB hP
  have BS := hB
  have NS := fx_WB_n BS
  obtain rfl : v2 = v3 := by rw [e3, e2]
  refine ⟨rfl, ?_, BS⟩
  · intro p i hW
    exact rfl
theorem q121_1 (S : fx_S) (x1 x2 : Int) (hS : fx_Sok S) (g1 : -2147483648 ≤ x1 ∧ x1 ≤ 2147483647) (g2 : -2147483648 ≤ x2 ∧ x2 ≤ 2147483647) (v2 : Int) (e2 : v2 = S.1 66 12) (b2 : -2147483648 ≤ v2 ∧ v2 ≤ 2147483647) (c1 : v2 ≠ 0) (v3 : Int) (e3 : v3 = S.1 66 12) (b3 : -2147483648 ≤ v3 ∧ v3 ≤ 2147483647) (c2 : v3 = 0) (v4 : Int) (e4 : v4 = S.1 67 0) (b4 : -2147483648 ≤ v4 ∧ v4 ≤ 2147483647) (S1 : fx_S) (d1 : S1 = (fx_up S.1 72 0 v4, S.2)) (S2 : fx_S) (d2 : S2 = (fx_up S1.1 72 1 x1, S1.2)) (S3 : fx_S) (d3 : S3 = (fx_up S2.1 72 2 (-1), S2.2)) (S4 : fx_S) (d4 : S4 = (fx_up S3.1 72 3 x2, S3.2)) (v5 : Int) (e5 : v5 = S4.1 67 3) (b5 : -2147483648 ≤ v5 ∧ v5 ≤ 2147483647) (v6 : Int) (e6 : v6 = fx_mul 260 v5) (v7 : Int) (e7 : v7 = fx_add 1100 v6) (z : Int) (Z : fx_S) (kz : fx_Sok Z) (bz : -2147483648 ≤ z ∧ z ≤ 2147483647) (pz : s223 S4 v7 0 z Z) : s121 S x1 x2 z Z := by
  unfold s223 at pz
  unfold s121
  intro hB hP
  obtain rfl : v2 = v3 := by rw [e3, e2]
  have t5_4 : S4.1 67 3 = S3.1 67 3 := by rw [d4]; first | exact if_neg (by omega) | rfl
  rw [t5_4] at e5
  have t5_3 : S3.1 67 3 = S2.1 67 3 := by rw [d3]; first | exact if_neg (by omega) | rfl
  rw [t5_3] at e5
  have t5_2 : S2.1 67 3 = S1.1 67 3 := by rw [d2]; first | exact if_neg (by omega) | rfl
  rw [t5_2] at e5
  have t5_1 : S1.1 67 3 = S.1 67 3 := by rw [d1]; first | exact if_neg (by omega) | rfl
  rw [t5_1] at e5
  have h6 := e6
  first | rw [fx_mul_eq (by omega) (by omega)] at h6 | skip
  have h7 := e7
  first | rw [fx_add_eq (by omega) (by omega)] at h7 | skip
  exact absurd c2 c1
theorem q121_2 (S : fx_S) (x1 x2 : Int) (hS : fx_Sok S) (g1 : -2147483648 ≤ x1 ∧ x1 ≤ 2147483647) (g2 : -2147483648 ≤ x2 ∧ x2 ≤ 2147483647) (v2 : Int) (e2 : v2 = S.1 66 12) (b2 : -2147483648 ≤ v2 ∧ v2 ≤ 2147483647) (c1 : v2 = 0) (v3 : Int) (e3 : v3 = S.1 66 10) (b3 : -2147483648 ≤ v3 ∧ v3 ≤ 2147483647) (c2 : v3 = 0) (v4 : Int) (e4 : v4 = S.1 66 12) (b4 : -2147483648 ≤ v4 ∧ v4 ≤ 2147483647) (c3 : v4 ≠ 0) : s121 S x1 x2 (-4) S := by
  unfold s121
  intro hB hP
  have BS := hB
  have NS := fx_WB_n BS
  obtain rfl : v2 = v4 := by rw [e4, e2]
  refine ⟨rfl, ?_, BS⟩
  · intro p i hW
    exact rfl
theorem q121_3 (S : fx_S) (x1 x2 : Int) (hS : fx_Sok S) (g1 : -2147483648 ≤ x1 ∧ x1 ≤ 2147483647) (g2 : -2147483648 ≤ x2 ∧ x2 ≤ 2147483647) (v2 : Int) (e2 : v2 = S.1 66 12) (b2 : -2147483648 ≤ v2 ∧ v2 ≤ 2147483647) (c1 : v2 = 0) (v3 : Int) (e3 : v3 = S.1 66 10) (b3 : -2147483648 ≤ v3 ∧ v3 ≤ 2147483647) (c2 : v3 = 0) (v4 : Int) (e4 : v4 = S.1 66 12) (b4 : -2147483648 ≤ v4 ∧ v4 ≤ 2147483647) (c3 : v4 = 0) (v5 : Int) (e5 : v5 = S.1 67 0) (b5 : -2147483648 ≤ v5 ∧ v5 ≤ 2147483647) (S1 : fx_S) (d1 : S1 = (fx_up S.1 72 0 v5, S.2)) (S2 : fx_S) (d2 : S2 = (fx_up S1.1 72 1 x1, S1.2)) (S3 : fx_S) (d3 : S3 = (fx_up S2.1 72 2 (-1), S2.2)) (S4 : fx_S) (d4 : S4 = (fx_up S3.1 72 3 x2, S3.2)) (v6 : Int) (e6 : v6 = S4.1 67 3) (b6 : -2147483648 ≤ v6 ∧ v6 ≤ 2147483647) (v7 : Int) (e7 : v7 = fx_mul 260 v6) (v8 : Int) (e8 : v8 = fx_add 1100 v7) (z : Int) (Z : fx_S) (kz : fx_Sok Z) (bz : -2147483648 ≤ z ∧ z ≤ 2147483647) (pz : s223 S4 v8 0 z Z) : s121 S x1 x2 z Z := by
  unfold s223 at pz
  unfold s121
  intro hB hP
  have BS := hB
  have NS := fx_WB_n BS
  obtain rfl : v2 = v4 := by rw [e4, e2]
  have BS1 : fx_WB S1 := by rw [d1]; exact fx_WB_off BS (by omega)
  have BS2 : fx_WB S2 := by rw [d2]; exact fx_WB_off BS1 (by omega)
  have BS3 : fx_WB S3 := by rw [d3]; exact fx_WB_off BS2 (by omega)
  have BS4 : fx_WB S4 := by rw [d4]; exact fx_WB_off BS3 (by omega)
  have t6_4 : S4.1 67 3 = S3.1 67 3 := by rw [d4]; first | exact if_neg (by omega) | rfl
  rw [t6_4] at e6
  have t6_3 : S3.1 67 3 = S2.1 67 3 := by rw [d3]; first | exact if_neg (by omega) | rfl
  rw [t6_3] at e6
  have t6_2 : S2.1 67 3 = S1.1 67 3 := by rw [d2]; first | exact if_neg (by omega) | rfl
  rw [t6_2] at e6
  have t6_1 : S1.1 67 3 = S.1 67 3 := by rw [d1]; first | exact if_neg (by omega) | rfl
  rw [t6_1] at e6
  have h7 := e7
  first | rw [fx_mul_eq (by omega) (by omega)] at h7 | skip
  have h8 := e8
  first | rw [fx_add_eq (by omega) (by omega)] at h8 | skip
  have g3 : S4.1 72 3 = x2 := by rw [d4]; first | exact if_pos ⟨rfl, rfl⟩ | rfl
  have gw : ∀ i, S4.1 67 i = S.1 67 i := fun i => by rw [d4, d3, d2, d1]; simp [fx_up]
  have gl : ∀ i : Int, ¬ i = 0 → ¬ i = 1 → ¬ i = 2 → ¬ i = 3 → S4.1 72 i = S.1 72 i := fun i h0 h1 h2 h3 => by rw [d4, d3, d2, d1]; simp [fx_up, h0, h1, h2, h3]
  have hN3 : 0 ≤ S.1 67 3 := (fx_WB_n hB).2.2.1.1
  have hx3 : v8 = 1100 + 260 * S.1 67 3 := by omega
  have gq := pz (by omega) (by omega) (by omega) (by rw [gw]; omega) (by rw [gw]; omega)
  obtain ⟨rZ, gZ, tZ⟩ := gq
  have fZ : ∀ p i : Int, ¬ (p = 67 ∧ (i = 3 ∨ (1100 ≤ i ∧ i < 3700))) → Z.1 p i = S4.1 p i := fun p i hp => by
    by_cases h67 : p = 67
    · subst h67
      rw [tZ, if_neg (by omega), if_neg (by omega)]
    · exact gZ p i h67
  have BZ : fx_WB Z := fx_WB_st BS4 (by rw [gw]; omega) (by rw [gw]; exact hx3) (by rw [g3]; omega) (fun l l0 l1 => by
    rw [g3] at l1
    rw [gl _ (by omega) (by omega) (by omega) (by omega), gl _ (by omega) (by omega) (by omega) (by omega)]
    exact hP.2.2.2 l l0 l1) tZ gZ
  refine ⟨(rZ).trans (((show S4.2 = S3.2 by rw [d4])).trans (((show S3.2 = S2.2 by rw [d3])).trans (((show S2.2 = S1.2 by rw [d2])).trans ((show S1.2 = S.2 by rw [d1]))))), ?_, BZ⟩
  · intro p i hW
    exact ((fZ p i (by omega))).trans (((show S4.1 p i = S3.1 p i by rw [d4]; exact if_neg (by omega))).trans (((show S3.1 p i = S2.1 p i by rw [d3]; exact if_neg (by omega))).trans (((show S2.1 p i = S1.1 p i by rw [d2]; exact if_neg (by omega))).trans ((show S1.1 p i = S.1 p i by rw [d1]; exact if_neg (by omega))))))
theorem q121_4 (S : fx_S) (x1 x2 : Int) (hS : fx_Sok S) (g1 : -2147483648 ≤ x1 ∧ x1 ≤ 2147483647) (g2 : -2147483648 ≤ x2 ∧ x2 ≤ 2147483647) (v2 : Int) (e2 : v2 = S.1 66 12) (b2 : -2147483648 ≤ v2 ∧ v2 ≤ 2147483647) (c1 : v2 = 0) (v3 : Int) (e3 : v3 = S.1 66 10) (b3 : -2147483648 ≤ v3 ∧ v3 ≤ 2147483647) (c2 : v3 ≠ 0) (v4 : Int) (S1 : fx_S) (k1 : fx_Sok S1) (b4 : -2147483648 ≤ v4 ∧ v4 ≤ 2147483647) (p1 : s224 S  v4 S1) (c3 : v4 ≠ (-1)) (c4 : x2 ≠ 16) (v5 : Int) (e5 : v5 = S1.1 66 12) (b5 : -2147483648 ≤ v5 ∧ v5 ≤ 2147483647) (c5 : v5 ≠ 0) (v6 : Int) (e6 : v6 = S1.1 66 12) (b6 : -2147483648 ≤ v6 ∧ v6 ≤ 2147483647) (c6 : v6 ≠ 0) : s121 S x1 x2 (-4) S1 := by
  obtain rfl : S = S1 := p1
  unfold s121
  intro hB hP
  have BS := hB
  have NS := fx_WB_n BS
  obtain rfl : v2 = v5 := by rw [e5, e2]
  obtain rfl : v2 = v6 := by rw [e6, e2]
  refine ⟨rfl, ?_, BS⟩
  · intro p i hW
    exact rfl
theorem q121_5 (S : fx_S) (x1 x2 : Int) (hS : fx_Sok S) (g1 : -2147483648 ≤ x1 ∧ x1 ≤ 2147483647) (g2 : -2147483648 ≤ x2 ∧ x2 ≤ 2147483647) (v2 : Int) (e2 : v2 = S.1 66 12) (b2 : -2147483648 ≤ v2 ∧ v2 ≤ 2147483647) (c1 : v2 = 0) (v3 : Int) (e3 : v3 = S.1 66 10) (b3 : -2147483648 ≤ v3 ∧ v3 ≤ 2147483647) (c2 : v3 ≠ 0) (v4 : Int) (S1 : fx_S) (k1 : fx_Sok S1) (b4 : -2147483648 ≤ v4 ∧ v4 ≤ 2147483647) (p1 : s224 S  v4 S1) (c3 : v4 ≠ (-1)) (c4 : x2 ≠ 16) (v5 : Int) (e5 : v5 = S1.1 66 12) (b5 : -2147483648 ≤ v5 ∧ v5 ≤ 2147483647) (c5 : v5 ≠ 0) (v6 : Int) (e6 : v6 = S1.1 66 12) (b6 : -2147483648 ≤ v6 ∧ v6 ≤ 2147483647) (c6 : v6 = 0) (v7 : Int) (e7 : v7 = S1.1 67 0) (b7 : -2147483648 ≤ v7 ∧ v7 ≤ 2147483647) (S2 : fx_S) (d2 : S2 = (fx_up S1.1 72 0 v7, S1.2)) (S3 : fx_S) (d3 : S3 = (fx_up S2.1 72 1 x1, S2.2)) (S4 : fx_S) (d4 : S4 = (fx_up S3.1 72 2 (-1), S3.2)) (S5 : fx_S) (d5 : S5 = (fx_up S4.1 72 3 x2, S4.2)) (v8 : Int) (e8 : v8 = S5.1 67 3) (b8 : -2147483648 ≤ v8 ∧ v8 ≤ 2147483647) (v9 : Int) (e9 : v9 = fx_mul 260 v8) (v10 : Int) (e10 : v10 = fx_add 1100 v9) (z : Int) (Z : fx_S) (kz : fx_Sok Z) (bz : -2147483648 ≤ z ∧ z ≤ 2147483647) (pz : s223 S5 v10 0 z Z) : s121 S x1 x2 z Z := by
  obtain rfl : S = S1 := p1
  unfold s223 at pz
  unfold s121
  intro hB hP
  obtain rfl : v2 = v5 := by rw [e5, e2]
  obtain rfl : v2 = v6 := by rw [e6, e2]
  have t8_5 : S5.1 67 3 = S4.1 67 3 := by rw [d5]; first | exact if_neg (by omega) | rfl
  rw [t8_5] at e8
  have t8_4 : S4.1 67 3 = S3.1 67 3 := by rw [d4]; first | exact if_neg (by omega) | rfl
  rw [t8_4] at e8
  have t8_3 : S3.1 67 3 = S2.1 67 3 := by rw [d3]; first | exact if_neg (by omega) | rfl
  rw [t8_3] at e8
  have t8_2 : S2.1 67 3 = S.1 67 3 := by rw [d2]; first | exact if_neg (by omega) | rfl
  rw [t8_2] at e8
  have h9 := e9
  first | rw [fx_mul_eq (by omega) (by omega)] at h9 | skip
  have h10 := e10
  first | rw [fx_add_eq (by omega) (by omega)] at h10 | skip
  exact absurd c6 c5
