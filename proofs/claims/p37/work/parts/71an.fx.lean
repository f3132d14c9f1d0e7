/-! FX: what is to be shown of the entries -/
theorem q134_6 (S : fx_S) (x1 x2 x3 : Int) (hS : fx_Sok S) (g1 : -2147483648 ≤ x1 ∧ x1 ≤ 2147483647) (g2 : -2147483648 ≤ x2 ∧ x2 ≤ 2147483647) (g3 : -2147483648 ≤ x3 ∧ x3 ≤ 2147483647) (v3 : Int) (e3 : v3 = fx_add x3 1) (c1 : 0 ≤ x1) (c2 : x1 < 4) (v4 : Int) (e4 : v4 = S.1 54 x1) (b4 : -2147483648 ≤ v4 ∧ v4 ≤ 2147483647) (c3 : v3 < v4) (v5 : Int) (e5 : v5 = fx_mul x1 60) (v6 : Int) (e6 : v6 = fx_add v5 x3) (c4 : 0 ≤ v6) (c5 : v6 < 240) (v7 : Int) (e7 : v7 = S.1 55 v6) (b7 : -9223372036854775808 ≤ v7 ∧ v7 ≤ 9223372036854775807) (v8 : Int) (e8 : v8 = fx_add x3 1) (v9 : Int) (e9 : v9 = fx_mul x1 60) (v10 : Int) (e10 : v10 = fx_add v9 v8) (c6 : 0 ≤ v10) (c7 : v10 < 240) (v11 : Int) (e11 : v11 = S.1 55 v10) (b11 : -9223372036854775808 ≤ v11 ∧ v11 ≤ 9223372036854775807) (v12 : Int) (e12 : v12 = fx_lcm v7 0) (c8 : 0 ≤ v7) (v13 : Int) (e13 : v13 = S.1 2 0) (b13 : -2147483648 ≤ v13 ∧ v13 ≤ 2147483647) (v14 : Int) (e14 : v14 = fx_lcm v7 v13) (c9 : v7 < v13) (v15 : Int) (e15 : v15 = fx_lcm v11 0) (c10 : 0 ≤ v11) (v16 : Int) (e16 : v16 = fx_lcm v11 4) (c11 : 4 ≤ v11) : s134 S x1 x2 x3 x2 S := by
  refine ⟨rfl, ?_, ?_⟩
  · intro p i hW
    clear c11 e16 c10 e15 c9 e14 b13 e13 c8 e12 b11 e11 c7 c6 e10 e9 e8 b7 e7 c5 c4 e6 e5 c3 b4 e4 c2 c1 e3
    exact rfl
  · skip
    intro w k hb hd hv hp a0 a3 a1 a2
    have h3 := e3
    first | rw [fx_add_eq (by omega) (by omega)] at h3 | skip
    have h5 := e5
    first | rw [fx_mul_eq (by omega) (by omega)] at h5 | skip
    have h6 := e6
    first | rw [fx_add_eq (by omega) (by omega)] at h6 | skip
    obtain rfl : v3 = v8 := by rw [e8, e3]
    obtain rfl : v5 = v9 := by rw [e9, e5]
    have h10 := e10
    first | rw [fx_add_eq (by omega) (by omega)] at h10 | skip
    have r13 : S.1 13 0 = w 2 := hp.1
    have r10 : S.1 1 0 = w 0 := hd.1
    have NN := hb.1
    have N2 := hb.2.1
    cases k with
    | zero => exact absurd a2 (by omega)
    | succ k =>
      unfold fx_oat
      rw [if_neg (by omega), show 60 * x1 + x3 = v6 by omega, show 60 * x1 + (x3 + 1) = v10 by omega, ← e7, ← e11]
      rw [if_neg (by omega)]
      exact ⟨rfl, hp⟩
theorem q135_0 (S : fx_S) (x1 x2 x3 : Int) (hS : fx_Sok S) (g1 : -2147483648 ≤ x1 ∧ x1 ≤ 2147483647) (g2 : -2147483648 ≤ x2 ∧ x2 ≤ 2147483647) (g3 : -2147483648 ≤ x3 ∧ x3 ≤ 2147483647) (v3 : Int) (e3 : v3 = fx_add x3 2) (v4 : Int) (e4 : v4 = fx_mul 60 x1) (c1 : 0 ≤ x1) (c2 : x1 < 4) (v5 : Int) (e5 : v5 = S.1 87 x1) (b5 : -2147483648 ≤ v5 ∧ v5 ≤ 2147483647) (v6 : Int) (e6 : v6 = fx_add v4 v5) (c3 : v6 < v3) : s135 S x1 x2 x3 x2 S := by
  unfold s135
  intro hB
  have BS := hB
  have NS := fx_WB_n BS
  have h3 := e3
  first | rw [fx_add_eq (by omega) (by omega)] at h3 | skip
  have h4 := e4
  first | rw [fx_mul_eq (by omega) (by omega)] at h4 | skip
  have h6 := e6
  first | rw [fx_add_eq (by omega) (by omega)] at h6 | skip
  refine ⟨rfl, ?_, BS, ?_⟩
  · intro p i hW
    exact rfl
  · intro a0 a1 a2 a3 k a4
    first | (have g3 := e3; rw [fx_add_eq (by omega) (by omega)] at g3) | skip
    first | (have g4 := e4; rw [fx_mul_eq (by omega) (by omega)] at g4) | skip
    first | (have g6 := e6; rw [fx_add_eq (by omega) (by omega)] at g6) | skip
    cases k with
    | zero => exact ⟨rfl, fun i => rfl⟩
    | succ k =>
      unfold fx_oat
      rw [if_pos (by omega)]
      exact ⟨rfl, fun i => rfl⟩
theorem q135_1 (S : fx_S) (x1 x2 x3 : Int) (hS : fx_Sok S) (g1 : -2147483648 ≤ x1 ∧ x1 ≤ 2147483647) (g2 : -2147483648 ≤ x2 ∧ x2 ≤ 2147483647) (g3 : -2147483648 ≤ x3 ∧ x3 ≤ 2147483647) (v3 : Int) (e3 : v3 = fx_add x3 2) (v4 : Int) (e4 : v4 = fx_mul 60 x1) (c1 : 0 ≤ x1) (c2 : x1 < 4) (v5 : Int) (e5 : v5 = S.1 87 x1) (b5 : -2147483648 ≤ v5 ∧ v5 ≤ 2147483647) (v6 : Int) (e6 : v6 = fx_add v4 v5) (c3 : v3 ≤ v6) (c4 : 0 ≤ x3) (c5 : x3 < 240) (v7 : Int) (e7 : v7 = S.1 89 x3) (b7 : -9223372036854775808 ≤ v7 ∧ v7 ≤ 9223372036854775807) (v8 : Int) (S1 : fx_S) (k1 : fx_Sok S1) (b8 : -2147483648 ≤ v8 ∧ v8 ≤ 2147483647) (p1 : s113 S v7 (-2147483648) 2147483647 v8 S1) (c6 : v8 = 0) : s135 S x1 x2 x3 x2 S1 := by
  obtain ⟨rfl, p1⟩ := p1
  unfold s135
  intro hB
  have BS := hB
  have NS := fx_WB_n BS
  have h3 := e3
  first | rw [fx_add_eq (by omega) (by omega)] at h3 | skip
  have h4 := e4
  first | rw [fx_mul_eq (by omega) (by omega)] at h4 | skip
  have h6 := e6
  first | rw [fx_add_eq (by omega) (by omega)] at h6 | skip
  have m1 := fx_in01 p1
  refine ⟨rfl, ?_, BS, ?_⟩
  · intro p i hW
    exact rfl
  · intro a0 a1 a2 a3 k a4
    first | (have g3 := e3; rw [fx_add_eq (by omega) (by omega)] at g3) | skip
    first | (have g4 := e4; rw [fx_mul_eq (by omega) (by omega)] at g4) | skip
    first | (have g6 := e6; rw [fx_add_eq (by omega) (by omega)] at g6) | skip
    cases k with
    | zero => exact absurd a4 (by omega)
    | succ k =>
      unfold fx_oat
      rw [if_neg (by omega), show 60 * x1 + (x3 - 60 * x1) = x3 by omega, show 60 * x1 + (x3 - 60 * x1 + 1) = x3 + 1 by omega, ← e7]
      rw [if_neg (by omega)]
      exact ⟨rfl, fun i => rfl⟩
theorem q135_2 (S : fx_S) (x1 x2 x3 : Int) (hS : fx_Sok S) (g1 : -2147483648 ≤ x1 ∧ x1 ≤ 2147483647) (g2 : -2147483648 ≤ x2 ∧ x2 ≤ 2147483647) (g3 : -2147483648 ≤ x3 ∧ x3 ≤ 2147483647) (v3 : Int) (e3 : v3 = fx_add x3 2) (v4 : Int) (e4 : v4 = fx_mul 60 x1) (c1 : 0 ≤ x1) (c2 : x1 < 4) (v5 : Int) (e5 : v5 = S.1 87 x1) (b5 : -2147483648 ≤ v5 ∧ v5 ≤ 2147483647) (v6 : Int) (e6 : v6 = fx_add v4 v5) (c3 : v3 ≤ v6) (c4 : 0 ≤ x3) (c5 : x3 < 240) (v7 : Int) (e7 : v7 = S.1 89 x3) (b7 : -9223372036854775808 ≤ v7 ∧ v7 ≤ 9223372036854775807) (v8 : Int) (S1 : fx_S) (k1 : fx_Sok S1) (b8 : -2147483648 ≤ v8 ∧ v8 ≤ 2147483647) (p1 : s113 S v7 (-2147483648) 2147483647 v8 S1) (c6 : v8 ≠ 0) (v9 : Int) (e9 : v9 = fx_add x3 1) (c7 : 0 ≤ v9) (c8 : v9 < 240) (v10 : Int) (e10 : v10 = S1.1 89 v9) (b10 : -9223372036854775808 ≤ v10 ∧ v10 ≤ 9223372036854775807) (v11 : Int) (S2 : fx_S) (k2 : fx_Sok S2) (b11 : -2147483648 ≤ v11 ∧ v11 ≤ 2147483647) (p2 : s113 S1 v10 (-2147483648) 2147483647 v11 S2) (c9 : v11 = 0) : s135 S x1 x2 x3 x2 S2 := by
  obtain ⟨rfl, p1⟩ := p1
  obtain ⟨rfl, p2⟩ := p2
  unfold s135
  intro hB
  have BS := hB
  have NS := fx_WB_n BS
  have h3 := e3
  first | rw [fx_add_eq (by omega) (by omega)] at h3 | skip
  have h4 := e4
  first | rw [fx_mul_eq (by omega) (by omega)] at h4 | skip
  have h6 := e6
  first | rw [fx_add_eq (by omega) (by omega)] at h6 | skip
  have m1 := fx_in01 p1
  have h9 := e9
  first | rw [fx_add_eq (by omega) (by omega)] at h9 | skip
  have m2 := fx_in01 p2
  refine ⟨rfl, ?_, BS, ?_⟩
  · intro p i hW
    exact rfl
  · intro a0 a1 a2 a3 k a4
    first | (have g3 := e3; rw [fx_add_eq (by omega) (by omega)] at g3) | skip
    first | (have g4 := e4; rw [fx_mul_eq (by omega) (by omega)] at g4) | skip
    first | (have g6 := e6; rw [fx_add_eq (by omega) (by omega)] at g6) | skip
    first | (have g9 := e9; rw [fx_add_eq (by omega) (by omega)] at g9) | skip
    cases k with
    | zero => exact absurd a4 (by omega)
    | succ k =>
      unfold fx_oat
      rw [if_neg (by omega), show 60 * x1 + (x3 - 60 * x1) = x3 by omega, show 60 * x1 + (x3 - 60 * x1 + 1) = x3 + 1 by omega, ← e7]
      rw [show x3 + 1 = v9 by omega, ← e10, if_neg (by omega)]
      exact ⟨rfl, fun i => rfl⟩
theorem q135_3 (S : fx_S) (x1 x2 x3 : Int) (hS : fx_Sok S) (g1 : -2147483648 ≤ x1 ∧ x1 ≤ 2147483647) (g2 : -2147483648 ≤ x2 ∧ x2 ≤ 2147483647) (g3 : -2147483648 ≤ x3 ∧ x3 ≤ 2147483647) (v3 : Int) (e3 : v3 = fx_add x3 2) (v4 : Int) (e4 : v4 = fx_mul 60 x1) (c1 : 0 ≤ x1) (c2 : x1 < 4) (v5 : Int) (e5 : v5 = S.1 87 x1) (b5 : -2147483648 ≤ v5 ∧ v5 ≤ 2147483647) (v6 : Int) (e6 : v6 = fx_add v4 v5) (c3 : v3 ≤ v6) (c4 : 0 ≤ x3) (c5 : x3 < 240) (v7 : Int) (e7 : v7 = S.1 89 x3) (b7 : -9223372036854775808 ≤ v7 ∧ v7 ≤ 9223372036854775807) (v8 : Int) (S1 : fx_S) (k1 : fx_Sok S1) (b8 : -2147483648 ≤ v8 ∧ v8 ≤ 2147483647) (p1 : s113 S v7 (-2147483648) 2147483647 v8 S1) (c6 : v8 ≠ 0) (v9 : Int) (e9 : v9 = fx_add x3 1) (c7 : 0 ≤ v9) (c8 : v9 < 240) (v10 : Int) (e10 : v10 = S1.1 89 v9) (b10 : -9223372036854775808 ≤ v10 ∧ v10 ≤ 9223372036854775807) (v11 : Int) (S2 : fx_S) (k2 : fx_Sok S2) (b11 : -2147483648 ≤ v11 ∧ v11 ≤ 2147483647) (p2 : s113 S1 v10 (-2147483648) 2147483647 v11 S2) (c9 : v11 ≠ 0) (c10 : 0 ≤ x3) (c11 : x3 < 240) (v12 : Int) (e12 : v12 = S2.1 89 x3) (b12 : -9223372036854775808 ≤ v12 ∧ v12 ≤ 9223372036854775807) (v13 : Int) (e13 : v13 = fx_l2i v12) (v14 : Int) (e14 : v14 = fx_add x3 1) (c12 : 0 ≤ v14) (c13 : v14 < 240) (v15 : Int) (e15 : v15 = S2.1 89 v14) (b15 : -9223372036854775808 ≤ v15 ∧ v15 ≤ 9223372036854775807) (v16 : Int) (e16 : v16 = fx_l2i v15) (v17 : Int) (S3 : fx_S) (k3 : fx_Sok S3) (b17 : -2147483648 ≤ v17 ∧ v17 ≤ 2147483647) (p3 : s24 S2 v13 v16 v17 S3) (c14 : 0 ≤ v17) (v18 : Int) (e18 : v18 = fx_add x2 1) (v19 : Int) (e19 : v19 = fx_add x3 2) (z : Int) (Z : fx_S) (kz : fx_Sok Z) (bz : -2147483648 ≤ z ∧ z ≤ 2147483647) (pz : s135 S3 x1 v18 v19 z Z) : s135 S x1 x2 x3 z Z := by
  obtain ⟨rfl, p1⟩ := p1
  obtain ⟨rfl, p2⟩ := p2
  unfold s24 at p3
  unfold s135 at pz
  unfold s135
  intro hB
  have BS := hB
  have NS := fx_WB_n BS
  have h3 := e3
  first | rw [fx_add_eq (by omega) (by omega)] at h3 | skip
  have h4 := e4
  first | rw [fx_mul_eq (by omega) (by omega)] at h4 | skip
  have h6 := e6
  first | rw [fx_add_eq (by omega) (by omega)] at h6 | skip
  have m1 := fx_in01 p1
  have h9 := e9
  first | rw [fx_add_eq (by omega) (by omega)] at h9 | skip
  have m2 := fx_in01 p2
  obtain rfl : v7 = v12 := by rw [e12, e7]
  obtain rfl : v9 = v14 := by rw [e14, e9]
  obtain rfl : v10 = v15 := by rw [e15, e10]
  obtain ⟨r3, f3, BS3, p3⟩ := p3 BS
  have NS3 := fx_WB_n BS3
  have h18 := e18
  first | rw [fx_add_eq (by omega) (by omega)] at h18 | skip
  obtain rfl : v3 = v19 := by rw [e19, e3]
  obtain ⟨rZ, fZ, BZ, pz⟩ := pz BS3
  refine ⟨(rZ).trans (r3), ?_, BZ, ?_⟩
  · intro p i hW
    exact ((fZ p i (by omega))).trans ((f3 p i (by omega)))
  · intro a0 a1 a2 a3 k a4
    first | (have g3 := e3; rw [fx_add_eq (by omega) (by omega)] at g3) | skip
    first | (have g4 := e4; rw [fx_mul_eq (by omega) (by omega)] at g4) | skip
    first | (have g6 := e6; rw [fx_add_eq (by omega) (by omega)] at g6) | skip
    first | (have g9 := e9; rw [fx_add_eq (by omega) (by omega)] at g9) | skip
    first | (have g18 := e18; rw [fx_add_eq (by omega) (by omega)] at g18) | skip
    cases k with
    | zero => exact absurd a4 (by omega)
    | succ k =>
      unfold fx_oat
      rw [if_neg (by omega), show 60 * x1 + (x3 - 60 * x1) = x3 by omega, show 60 * x1 + (x3 - 60 * x1 + 1) = x3 + 1 by omega, ← e7]
      rw [show x3 + 1 = v9 by omega, ← e10]
      have l1 : v13 = v7 := by rw [e13]; exact fx_l2i_eq (by omega) (by omega)
      have l2 : v16 = v10 := by rw [e16]; exact fx_l2i_eq (by omega) (by omega)
      rw [l1, l2] at p3
      rcases p3 with ⟨b1, b2, b3⟩ | ⟨b1, ⟨b2, b3, b4⟩ | ⟨b2, b3, b4⟩⟩
      · omega
      · omega
      · rw [if_pos ⟨⟨by omega, by omega, by omega, by omega⟩, by omega⟩]
        have g87 : S3.1 87 x1 = S.1 87 x1 := f3 87 x1 (by omega)
        have g89 : (fun i => S3.1 89 (60 * x1 + i)) = (fun i => S.1 89 (60 * x1 + i)) := funext fun i => f3 89 _ (by omega)
        have g67 : S3.1 67 = fx_addw (S.1 67) v7 v10 := funext b4
        have q := pz a0 a1 (by omega) (by rw [g87]; omega) k (by rw [g87]; omega)
        rw [g87, g89, g67, show v3 - 60 * x1 = x3 - 60 * x1 + 2 by omega, show v18 = x2 + 1 by omega] at q
        exact q
theorem q135_4 (S : fx_S) (x1 x2 x3 : Int) (hS : fx_Sok S) (g1 : -2147483648 ≤ x1 ∧ x1 ≤ 2147483647) (g2 : -2147483648 ≤ x2 ∧ x2 ≤ 2147483647) (g3 : -2147483648 ≤ x3 ∧ x3 ≤ 2147483647) (v3 : Int) (e3 : v3 = fx_add x3 2) (v4 : Int) (e4 : v4 = fx_mul 60 x1) (c1 : 0 ≤ x1) (c2 : x1 < 4) (v5 : Int) (e5 : v5 = S.1 87 x1) (b5 : -2147483648 ≤ v5 ∧ v5 ≤ 2147483647) (v6 : Int) (e6 : v6 = fx_add v4 v5) (c3 : v3 ≤ v6) (c4 : 0 ≤ x3) (c5 : x3 < 240) (v7 : Int) (e7 : v7 = S.1 89 x3) (b7 : -9223372036854775808 ≤ v7 ∧ v7 ≤ 9223372036854775807) (v8 : Int) (S1 : fx_S) (k1 : fx_Sok S1) (b8 : -2147483648 ≤ v8 ∧ v8 ≤ 2147483647) (p1 : s113 S v7 (-2147483648) 2147483647 v8 S1) (c6 : v8 ≠ 0) (v9 : Int) (e9 : v9 = fx_add x3 1) (c7 : 0 ≤ v9) (c8 : v9 < 240) (v10 : Int) (e10 : v10 = S1.1 89 v9) (b10 : -9223372036854775808 ≤ v10 ∧ v10 ≤ 9223372036854775807) (v11 : Int) (S2 : fx_S) (k2 : fx_Sok S2) (b11 : -2147483648 ≤ v11 ∧ v11 ≤ 2147483647) (p2 : s113 S1 v10 (-2147483648) 2147483647 v11 S2) (c9 : v11 ≠ 0) (c10 : 0 ≤ x3) (c11 : x3 < 240) (v12 : Int) (e12 : v12 = S2.1 89 x3) (b12 : -9223372036854775808 ≤ v12 ∧ v12 ≤ 9223372036854775807) (v13 : Int) (e13 : v13 = fx_l2i v12) (v14 : Int) (e14 : v14 = fx_add x3 1) (c12 : 0 ≤ v14) (c13 : v14 < 240) (v15 : Int) (e15 : v15 = S2.1 89 v14) (b15 : -9223372036854775808 ≤ v15 ∧ v15 ≤ 9223372036854775807) (v16 : Int) (e16 : v16 = fx_l2i v15) (v17 : Int) (S3 : fx_S) (k3 : fx_Sok S3) (b17 : -2147483648 ≤ v17 ∧ v17 ≤ 2147483647) (p3 : s24 S2 v13 v16 v17 S3) (c14 : v17 < 0) : s135 S x1 x2 x3 x2 S3 := by
  obtain ⟨rfl, p1⟩ := p1
  obtain ⟨rfl, p2⟩ := p2
  unfold s24 at p3
  unfold s135
  intro hB
  have BS := hB
  have NS := fx_WB_n BS
  have h3 := e3
  first | rw [fx_add_eq (by omega) (by omega)] at h3 | skip
  have h4 := e4
  first | rw [fx_mul_eq (by omega) (by omega)] at h4 | skip
  have h6 := e6
  first | rw [fx_add_eq (by omega) (by omega)] at h6 | skip
  have m1 := fx_in01 p1
  have h9 := e9
  first | rw [fx_add_eq (by omega) (by omega)] at h9 | skip
  have m2 := fx_in01 p2
  obtain rfl : v7 = v12 := by rw [e12, e7]
  obtain rfl : v9 = v14 := by rw [e14, e9]
  obtain rfl : v10 = v15 := by rw [e15, e10]
  obtain ⟨r3, f3, BS3, p3⟩ := p3 BS
  have NS3 := fx_WB_n BS3
  refine ⟨r3, ?_, BS3, ?_⟩
  · intro p i hW
    exact (f3 p i (by omega))
  · intro a0 a1 a2 a3 k a4
    first | (have g3 := e3; rw [fx_add_eq (by omega) (by omega)] at g3) | skip
    first | (have g4 := e4; rw [fx_mul_eq (by omega) (by omega)] at g4) | skip
    first | (have g6 := e6; rw [fx_add_eq (by omega) (by omega)] at g6) | skip
    first | (have g9 := e9; rw [fx_add_eq (by omega) (by omega)] at g9) | skip
    cases k with
    | zero => exact absurd a4 (by omega)
    | succ k =>
      unfold fx_oat
      rw [if_neg (by omega), show 60 * x1 + (x3 - 60 * x1) = x3 by omega, show 60 * x1 + (x3 - 60 * x1 + 1) = x3 + 1 by omega, ← e7]
      rw [show x3 + 1 = v9 by omega, ← e10]
      have l1 : v13 = v7 := by rw [e13]; exact fx_l2i_eq (by omega) (by omega)
      have l2 : v16 = v10 := by rw [e16]; exact fx_l2i_eq (by omega) (by omega)
      rw [l1, l2] at p3
      rcases p3 with ⟨b1, b2, b3⟩ | ⟨b1, ⟨b2, b3, b4⟩ | ⟨b2, b3, b4⟩⟩
      · obtain rfl := b3.symm
        rw [if_neg (by omega)]
        exact ⟨rfl, fun i => rfl⟩
      · obtain rfl := b4.symm
        rw [if_neg (by omega)]
        exact ⟨rfl, fun i => rfl⟩
      · omega
theorem q136_0 (S : fx_S) (x1 : Int) (hS : fx_Sok S) (g1 : -2147483648 ≤ x1 ∧ x1 ≤ 2147483647) (v1 : Int) (e1 : v1 = S.1 13 0) (b1 : -2147483648 ≤ v1 ∧ v1 ≤ 2147483647) (v2 : Int) (e2 : v2 = fx_sub v1 1) (v3 : Int) (S1 : fx_S) (k1 : fx_Sok S1) (b3 : -2147483648 ≤ v3 ∧ v3 ≤ 2147483647) (p1 : s114 S x1 0 v2 v3 S1) (c1 : v3 = 0) : s136 S x1 0 S1 := by
  obtain ⟨rfl, p1⟩ := p1
  refine ⟨rfl, ?_⟩
  intro h0_
  have h2 := e2
  first | rw [fx_sub_eq (by omega) (by omega)] at h2 | skip
  have m1 := fx_in01 p1
  have m1 := fx_in01 p1
  rw [if_neg (by omega)]
theorem q136_1 (S : fx_S) (x1 : Int) (hS : fx_Sok S) (g1 : -2147483648 ≤ x1 ∧ x1 ≤ 2147483647) (v1 : Int) (e1 : v1 = S.1 13 0) (b1 : -2147483648 ≤ v1 ∧ v1 ≤ 2147483647) (v2 : Int) (e2 : v2 = fx_sub v1 1) (v3 : Int) (S1 : fx_S) (k1 : fx_Sok S1) (b3 : -2147483648 ≤ v3 ∧ v3 ≤ 2147483647) (p1 : s114 S x1 0 v2 v3 S1) (c1 : v3 ≠ 0) (v4 : Int) (e4 : v4 = S1.1 1 0) (b4 : -2147483648 ≤ v4 ∧ v4 ≤ 2147483647) (v5 : Int) (S2 : fx_S) (k2 : fx_Sok S2) (b5 : -2147483648 ≤ v5 ∧ v5 ≤ 2147483647) (p2 : s234 S1 x1 v4 v5 S2) (c2 : v5 = 0) : s136 S x1 0 S2 := by
  obtain ⟨rfl, p1⟩ := p1
  obtain ⟨rfl, p2⟩ := p2
  refine ⟨rfl, ?_⟩
  intro h0_
  have h2 := e2
  first | rw [fx_sub_eq (by omega) (by omega)] at h2 | skip
  have m1 := fx_in01 p1
  have m1 := fx_in01 p1
  by_cases ht : S.1 16 x1 ≤ v4 ∧ v4 < S.1 17 x1
  · rw [if_pos ht] at p2
    rw [← e4]
    first | (rw [if_pos (by omega)]; done) | (exfalso; omega)
  · rw [if_neg ht] at p2
    rw [← e4]
    first | (rw [if_neg (by omega)]; done) | (exfalso; omega)
theorem q136_2 (S : fx_S) (x1 : Int) (hS : fx_Sok S) (g1 : -2147483648 ≤ x1 ∧ x1 ≤ 2147483647) (v1 : Int) (e1 : v1 = S.1 13 0) (b1 : -2147483648 ≤ v1 ∧ v1 ≤ 2147483647) (v2 : Int) (e2 : v2 = fx_sub v1 1) (v3 : Int) (S1 : fx_S) (k1 : fx_Sok S1) (b3 : -2147483648 ≤ v3 ∧ v3 ≤ 2147483647) (p1 : s114 S x1 0 v2 v3 S1) (c1 : v3 ≠ 0) (v4 : Int) (e4 : v4 = S1.1 1 0) (b4 : -2147483648 ≤ v4 ∧ v4 ≤ 2147483647) (v5 : Int) (S2 : fx_S) (k2 : fx_Sok S2) (b5 : -2147483648 ≤ v5 ∧ v5 ≤ 2147483647) (p2 : s234 S1 x1 v4 v5 S2) (c2 : v5 ≠ 0) : s136 S x1 1 S2 := by
  obtain ⟨rfl, p1⟩ := p1
  obtain ⟨rfl, p2⟩ := p2
  refine ⟨rfl, ?_⟩
  intro h0_
  have h2 := e2
  first | rw [fx_sub_eq (by omega) (by omega)] at h2 | skip
  have m1 := fx_in01 p1
  have m1 := fx_in01 p1
  by_cases ht : S.1 16 x1 ≤ v4 ∧ v4 < S.1 17 x1
  · rw [if_pos ht] at p2
    rw [← e4]
    first | (rw [if_pos (by omega)]; done) | (exfalso; omega)
  · rw [if_neg ht] at p2
    rw [← e4]
    first | (rw [if_neg (by omega)]; done) | (exfalso; omega)
theorem q137_0 (S : fx_S) (x1 x2 x3 : Int) (hS : fx_Sok S) (g1 : -2147483648 ≤ x1 ∧ x1 ≤ 2147483647) (g2 : -2147483648 ≤ x2 ∧ x2 ≤ 2147483647) (g3 : -2147483648 ≤ x3 ∧ x3 ≤ 2147483647) (c1 : 0 ≤ x2) (c2 : x2 < 80) (v3 : Int) (e3 : v3 = S.1 14 x2) (b3 : -2147483648 ≤ v3 ∧ v3 ≤ 2147483647) (c3 : 0 ≤ x2) (c4 : x2 < 80) (v4 : Int) (e4 : v4 = S.1 16 x2) (b4 : -2147483648 ≤ v4 ∧ v4 ≤ 2147483647) (v5 : Int) (S1 : fx_S) (k1 : fx_Sok S1) (b5 : -2147483648 ≤ v5 ∧ v5 ≤ 2147483647) (p1 : s125 S v4 x3 v5 S1) (v6 : Int) (S2 : fx_S) (k2 : fx_Sok S2) (b6 : -2147483648 ≤ v6 ∧ v6 ≤ 2147483647) (p2 : s129 S1 v3 v5 v6 S2) (v7 : Int) (S3 : fx_S) (k3 : fx_Sok S3) (b7 : -2147483648 ≤ v7 ∧ v7 ≤ 2147483647) (p3 : s130 S2 v6 x1 v3 v7 S3) : s137 S x1 x2 x3 v7 S3 := by
  obtain ⟨rfl, p1⟩ := p1
  obtain rfl : S = S2 := p2
  obtain rfl : S = S3 := p3
  exact rfl
theorem q138_0 (S : fx_S) (x1 x2 : Int) (hS : fx_Sok S) (g1 : -2147483648 ≤ x1 ∧ x1 ≤ 2147483647) (g2 : -2147483648 ≤ x2 ∧ x2 ≤ 2147483647) (v2 : Int) (e2 : v2 = fx_mul 10 x1) (v3 : Int) (e3 : v3 = fx_add 300 v2) (v4 : Int) (e4 : v4 = fx_add v3 2) (c1 : 0 ≤ v4) (c2 : v4 < 8090) (v5 : Int) (e5 : v5 = S.1 67 v4) (b5 : -2147483648 ≤ v5 ∧ v5 ≤ 2147483647) (v6 : Int) (S1 : fx_S) (k1 : fx_Sok S1) (b6 : -2147483648 ≤ v6 ∧ v6 ≤ 2147483647) (p1 : s124 S v5 x2 v6 S1) (v7 : Int) (e7 : v7 = fx_mul 10 x1) (v8 : Int) (e8 : v8 = fx_add 300 v7) (v9 : Int) (e9 : v9 = fx_add v8 0) (c3 : 0 ≤ v9) (c4 : v9 < 8090) (v10 : Int) (e10 : v10 = S1.1 67 v9) (b10 : -2147483648 ≤ v10 ∧ v10 ≤ 2147483647) (v11 : Int) (e11 : v11 = fx_mul 10 x1) (v12 : Int) (e12 : v12 = fx_add 300 v11) (v13 : Int) (e13 : v13 = fx_add v12 0) (c5 : 0 ≤ v13) (c6 : v13 < 8090) (v14 : Int) (e14 : v14 = S1.1 67 v13) (b14 : -2147483648 ≤ v14 ∧ v14 ≤ 2147483647) (v15 : Int) (S2 : fx_S) (k2 : fx_Sok S2) (b15 : -2147483648 ≤ v15 ∧ v15 ≤ 2147483647) (p2 : s125 S1 v5 x2 v15 S2) (v16 : Int) (S3 : fx_S) (k3 : fx_Sok S3) (b16 : -2147483648 ≤ v16 ∧ v16 ≤ 2147483647) (p3 : s127 S2 v14 v15 v16 S3) (v17 : Int) (S4 : fx_S) (k4 : fx_Sok S4) (b17 : -2147483648 ≤ v17 ∧ v17 ≤ 2147483647) (p4 : s128 S3 v6 v10 v16 v17 S4) (v18 : Int) (e18 : v18 = S4.1 66 15) (b18 : -2147483648 ≤ v18 ∧ v18 ≤ 2147483647) : s138 S x1 x2 v18 S4 := by
  obtain ⟨rfl, p1⟩ := p1
  obtain ⟨rfl, p2⟩ := p2
  obtain rfl : S = S3 := p3
  obtain ⟨r4, f4, p4⟩ := p4
  refine ⟨r4, ?_, ?_⟩
  · intro p i hW
    clear b18 e18 b17 b16 b15 b14 e14 c6 c5 e13 e12 e11 b10 e10 c4 c3 e9 e8 e7 b6 b5 e5 c2 c1 e4 e3 e2
    exact (f4 p i (by omega))
  · skip
    intro hB
    have N := p1 hB
    have q := p4 hB (by omega)
    rw [← e18] at q
    exact q
theorem q139_0 (S : fx_S) (x1 x2 x3 x4 x5 : Int) (hS : fx_Sok S) (g1 : -2147483648 ≤ x1 ∧ x1 ≤ 2147483647) (g2 : -2147483648 ≤ x2 ∧ x2 ≤ 2147483647) (g3 : -2147483648 ≤ x3 ∧ x3 ≤ 2147483647) (g4 : -2147483648 ≤ x4 ∧ x4 ≤ 2147483647) (g5 : -2147483648 ≤ x5 ∧ x5 ≤ 2147483647) (v5 : Int) (e5 : v5 = S.1 13 0) (b5 : -2147483648 ≤ v5 ∧ v5 ≤ 2147483647) (c1 : v5 ≤ x5) : s139 S x1 x2 x3 x4 x5 x4 S := by
  exact rfl
theorem q139_1 (S : fx_S) (x1 x2 x3 x4 x5 : Int) (hS : fx_Sok S) (g1 : -2147483648 ≤ x1 ∧ x1 ≤ 2147483647) (g2 : -2147483648 ≤ x2 ∧ x2 ≤ 2147483647) (g3 : -2147483648 ≤ x3 ∧ x3 ≤ 2147483647) (g4 : -2147483648 ≤ x4 ∧ x4 ≤ 2147483647) (g5 : -2147483648 ≤ x5 ∧ x5 ≤ 2147483647) (v5 : Int) (e5 : v5 = S.1 13 0) (b5 : -2147483648 ≤ v5 ∧ v5 ≤ 2147483647) (c1 : x5 < v5) (v6 : Int) (S1 : fx_S) (k1 : fx_Sok S1) (b6 : -2147483648 ≤ v6 ∧ v6 ≤ 2147483647) (p1 : s234 S x5 x2 v6 S1) (c2 : v6 = 0) (v7 : Int) (e7 : v7 = fx_add x5 1) (z : Int) (Z : fx_S) (kz : fx_Sok Z) (bz : -2147483648 ≤ z ∧ z ≤ 2147483647) (pz : s139 S1 x1 x2 x3 x4 v7 z Z) : s139 S x1 x2 x3 x4 x5 z Z := by
  obtain ⟨rfl, p1⟩ := p1
  obtain rfl : S = Z := pz
  exact rfl
theorem q139_2 (S : fx_S) (x1 x2 x3 x4 x5 : Int) (hS : fx_Sok S) (g1 : -2147483648 ≤ x1 ∧ x1 ≤ 2147483647) (g2 : -2147483648 ≤ x2 ∧ x2 ≤ 2147483647) (g3 : -2147483648 ≤ x3 ∧ x3 ≤ 2147483647) (g4 : -2147483648 ≤ x4 ∧ x4 ≤ 2147483647) (g5 : -2147483648 ≤ x5 ∧ x5 ≤ 2147483647) (v5 : Int) (e5 : v5 = S.1 13 0) (b5 : -2147483648 ≤ v5 ∧ v5 ≤ 2147483647) (c1 : x5 < v5) (v6 : Int) (S1 : fx_S) (k1 : fx_Sok S1) (b6 : -2147483648 ≤ v6 ∧ v6 ≤ 2147483647) (p1 : s234 S x5 x2 v6 S1) (c2 : v6 ≠ 0) (c3 : 0 ≤ x5) (c4 : x5 < 80) (v7 : Int) (e7 : v7 = S1.1 16 x5) (b7 : -2147483648 ≤ v7 ∧ v7 ≤ 2147483647) (v8 : Int) (S2 : fx_S) (k2 : fx_Sok S2) (b8 : -2147483648 ≤ v8 ∧ v8 ≤ 2147483647) (p2 : s123 S1 v7 x3 v8 S2) (v9 : Int) (S3 : fx_S) (k3 : fx_Sok S3) (b9 : -2147483648 ≤ v9 ∧ v9 ≤ 2147483647) (p3 : s137 S2 v8 x5 x3 v9 S3) (c5 : v9 ≠ x1) (v10 : Int) (e10 : v10 = fx_add x5 1) (z : Int) (Z : fx_S) (kz : fx_Sok Z) (bz : -2147483648 ≤ z ∧ z ≤ 2147483647) (pz : s139 S3 x1 x2 x3 x4 v10 z Z) : s139 S x1 x2 x3 x4 x5 z Z := by
  obtain ⟨rfl, p1⟩ := p1
  obtain ⟨rfl, p2⟩ := p2
  obtain rfl : S = S3 := p3
  obtain rfl : S = Z := pz
  exact rfl
theorem q139_3 (S : fx_S) (x1 x2 x3 x4 x5 : Int) (hS : fx_Sok S) (g1 : -2147483648 ≤ x1 ∧ x1 ≤ 2147483647) (g2 : -2147483648 ≤ x2 ∧ x2 ≤ 2147483647) (g3 : -2147483648 ≤ x3 ∧ x3 ≤ 2147483647) (g4 : -2147483648 ≤ x4 ∧ x4 ≤ 2147483647) (g5 : -2147483648 ≤ x5 ∧ x5 ≤ 2147483647) (v5 : Int) (e5 : v5 = S.1 13 0) (b5 : -2147483648 ≤ v5 ∧ v5 ≤ 2147483647) (c1 : x5 < v5) (v6 : Int) (S1 : fx_S) (k1 : fx_Sok S1) (b6 : -2147483648 ≤ v6 ∧ v6 ≤ 2147483647) (p1 : s234 S x5 x2 v6 S1) (c2 : v6 ≠ 0) (c3 : 0 ≤ x5) (c4 : x5 < 80) (v7 : Int) (e7 : v7 = S1.1 16 x5) (b7 : -2147483648 ≤ v7 ∧ v7 ≤ 2147483647) (v8 : Int) (S2 : fx_S) (k2 : fx_Sok S2) (b8 : -2147483648 ≤ v8 ∧ v8 ≤ 2147483647) (p2 : s123 S1 v7 x3 v8 S2) (v9 : Int) (S3 : fx_S) (k3 : fx_Sok S3) (b9 : -2147483648 ≤ v9 ∧ v9 ≤ 2147483647) (p3 : s137 S2 v8 x5 x3 v9 S3) (c5 : v9 = x1) (v10 : Int) (e10 : v10 = fx_add x4 1) (v11 : Int) (e11 : v11 = fx_add x5 1) (z : Int) (Z : fx_S) (kz : fx_Sok Z) (bz : -2147483648 ≤ z ∧ z ≤ 2147483647) (pz : s139 S3 x1 x2 x3 v10 v11 z Z) : s139 S x1 x2 x3 x4 x5 z Z := by
  obtain ⟨rfl, p1⟩ := p1
  obtain ⟨rfl, p2⟩ := p2
  obtain rfl : S = S3 := p3
  obtain rfl : S = Z := pz
  exact rfl
theorem q140_0 (S : fx_S) (x1 x2 x3 x4 x5 : Int) (hS : fx_Sok S) (g1 : -2147483648 ≤ x1 ∧ x1 ≤ 2147483647) (g2 : -2147483648 ≤ x2 ∧ x2 ≤ 2147483647) (g3 : -2147483648 ≤ x3 ∧ x3 ≤ 2147483647) (g4 : -2147483648 ≤ x4 ∧ x4 ≤ 2147483647) (g5 : -2147483648 ≤ x5 ∧ x5 ≤ 2147483647) (v5 : Int) (e5 : v5 = S.1 67 2) (b5 : -2147483648 ≤ v5 ∧ v5 ≤ 2147483647) (c1 : v5 ≤ x5) : s140 S x1 x2 x3 x4 x5 x4 S := by
  refine ⟨rfl, ?_⟩
  · intro p i hW
    clear c1 b5 e5
    exact rfl
theorem q140_1 (S : fx_S) (x1 x2 x3 x4 x5 : Int) (hS : fx_Sok S) (g1 : -2147483648 ≤ x1 ∧ x1 ≤ 2147483647) (g2 : -2147483648 ≤ x2 ∧ x2 ≤ 2147483647) (g3 : -2147483648 ≤ x3 ∧ x3 ≤ 2147483647) (g4 : -2147483648 ≤ x4 ∧ x4 ≤ 2147483647) (g5 : -2147483648 ≤ x5 ∧ x5 ≤ 2147483647) (v5 : Int) (e5 : v5 = S.1 67 2) (b5 : -2147483648 ≤ v5 ∧ v5 ≤ 2147483647) (c1 : x5 < v5) (v6 : Int) (S1 : fx_S) (k1 : fx_Sok S1) (b6 : -2147483648 ≤ v6 ∧ v6 ≤ 2147483647) (p1 : s156 S x5 x2 v6 S1) (c2 : v6 = 0) (v7 : Int) (e7 : v7 = fx_add x4 0) (v8 : Int) (e8 : v8 = fx_add x5 1) (z : Int) (Z : fx_S) (kz : fx_Sok Z) (bz : -2147483648 ≤ z ∧ z ≤ 2147483647) (pz : s140 S1 x1 x2 x3 v7 v8 z Z) : s140 S x1 x2 x3 x4 x5 z Z := by
  obtain ⟨rfl, p1⟩ := p1
  obtain ⟨rZ, fZ⟩ := pz
  refine ⟨rZ, ?_⟩
  · intro p i hW
    clear e8 e7 c2 b6 c1 b5 e5
    exact (fZ p i (by omega))
theorem q140_2 (S : fx_S) (x1 x2 x3 x4 x5 : Int) (hS : fx_Sok S) (g1 : -2147483648 ≤ x1 ∧ x1 ≤ 2147483647) (g2 : -2147483648 ≤ x2 ∧ x2 ≤ 2147483647) (g3 : -2147483648 ≤ x3 ∧ x3 ≤ 2147483647) (g4 : -2147483648 ≤ x4 ∧ x4 ≤ 2147483647) (g5 : -2147483648 ≤ x5 ∧ x5 ≤ 2147483647) (v5 : Int) (e5 : v5 = S.1 67 2) (b5 : -2147483648 ≤ v5 ∧ v5 ≤ 2147483647) (c1 : x5 < v5) (v6 : Int) (S1 : fx_S) (k1 : fx_Sok S1) (b6 : -2147483648 ≤ v6 ∧ v6 ≤ 2147483647) (p1 : s156 S x5 x2 v6 S1) (c2 : v6 ≠ 0) (v7 : Int) (S2 : fx_S) (k2 : fx_Sok S2) (b7 : -2147483648 ≤ v7 ∧ v7 ≤ 2147483647) (p2 : s138 S1 x5 x3 v7 S2) (c3 : v7 ≠ x1) (v8 : Int) (e8 : v8 = fx_add x4 0) (v9 : Int) (e9 : v9 = fx_add x5 1) (z : Int) (Z : fx_S) (kz : fx_Sok Z) (bz : -2147483648 ≤ z ∧ z ≤ 2147483647) (pz : s140 S2 x1 x2 x3 v8 v9 z Z) : s140 S x1 x2 x3 x4 x5 z Z := by
  obtain ⟨rfl, p1⟩ := p1
  obtain ⟨r2, f2, p2⟩ := p2
  obtain ⟨rZ, fZ⟩ := pz
  refine ⟨(rZ).trans (r2), ?_⟩
  · intro p i hW
    clear e9 e8 c3 b7 c2 b6 c1 b5 e5
    exact ((fZ p i (by omega))).trans ((f2 p i (by omega)))
theorem q140_3 (S : fx_S) (x1 x2 x3 x4 x5 : Int) (hS : fx_Sok S) (g1 : -2147483648 ≤ x1 ∧ x1 ≤ 2147483647) (g2 : -2147483648 ≤ x2 ∧ x2 ≤ 2147483647) (g3 : -2147483648 ≤ x3 ∧ x3 ≤ 2147483647) (g4 : -2147483648 ≤ x4 ∧ x4 ≤ 2147483647) (g5 : -2147483648 ≤ x5 ∧ x5 ≤ 2147483647) (v5 : Int) (e5 : v5 = S.1 67 2) (b5 : -2147483648 ≤ v5 ∧ v5 ≤ 2147483647) (c1 : x5 < v5) (v6 : Int) (S1 : fx_S) (k1 : fx_Sok S1) (b6 : -2147483648 ≤ v6 ∧ v6 ≤ 2147483647) (p1 : s156 S x5 x2 v6 S1) (c2 : v6 ≠ 0) (v7 : Int) (S2 : fx_S) (k2 : fx_Sok S2) (b7 : -2147483648 ≤ v7 ∧ v7 ≤ 2147483647) (p2 : s138 S1 x5 x3 v7 S2) (c3 : v7 = x1) (v8 : Int) (e8 : v8 = fx_add x4 1) (v9 : Int) (e9 : v9 = fx_add x5 1) (z : Int) (Z : fx_S) (kz : fx_Sok Z) (bz : -2147483648 ≤ z ∧ z ≤ 2147483647) (pz : s140 S2 x1 x2 x3 v8 v9 z Z) : s140 S x1 x2 x3 x4 x5 z Z := by
  obtain ⟨rfl, p1⟩ := p1
  obtain ⟨r2, f2, p2⟩ := p2
  obtain ⟨rZ, fZ⟩ := pz
  refine ⟨(rZ).trans (r2), ?_⟩
  · intro p i hW
    clear e9 e8 c3 b7 c2 b6 c1 b5 e5
    exact ((fZ p i (by omega))).trans ((f2 p i (by omega)))
theorem q141_0 (S : fx_S) (x1 x2 x3 x4 x5 : Int) (hS : fx_Sok S) (g1 : -2147483648 ≤ x1 ∧ x1 ≤ 2147483647) (g2 : -2147483648 ≤ x2 ∧ x2 ≤ 2147483647) (g3 : -2147483648 ≤ x3 ∧ x3 ≤ 2147483647) (g4 : -2147483648 ≤ x4 ∧ x4 ≤ 2147483647) (g5 : -2147483648 ≤ x5 ∧ x5 ≤ 2147483647) (v5 : Int) (e5 : v5 = S.1 13 0) (b5 : -2147483648 ≤ v5 ∧ v5 ≤ 2147483647) (c1 : v5 ≤ x5) : s141 S x1 x2 x3 x4 x5 x4 S := by
  exact rfl
theorem q141_1 (S : fx_S) (x1 x2 x3 x4 x5 : Int) (hS : fx_Sok S) (g1 : -2147483648 ≤ x1 ∧ x1 ≤ 2147483647) (g2 : -2147483648 ≤ x2 ∧ x2 ≤ 2147483647) (g3 : -2147483648 ≤ x3 ∧ x3 ≤ 2147483647) (g4 : -2147483648 ≤ x4 ∧ x4 ≤ 2147483647) (g5 : -2147483648 ≤ x5 ∧ x5 ≤ 2147483647) (v5 : Int) (e5 : v5 = S.1 13 0) (b5 : -2147483648 ≤ v5 ∧ v5 ≤ 2147483647) (c1 : x5 < v5) (v6 : Int) (S1 : fx_S) (k1 : fx_Sok S1) (b6 : -2147483648 ≤ v6 ∧ v6 ≤ 2147483647) (p1 : s234 S x5 x3 v6 S1) (c2 : v6 = 0) (v7 : Int) (e7 : v7 = fx_add x5 1) (z : Int) (Z : fx_S) (kz : fx_Sok Z) (bz : -2147483648 ≤ z ∧ z ≤ 2147483647) (pz : s141 S1 x1 x2 x3 x4 v7 z Z) : s141 S x1 x2 x3 x4 x5 z Z := by
  obtain ⟨rfl, p1⟩ := p1
  obtain rfl : S = Z := pz
  exact rfl
theorem q141_2 (S : fx_S) (x1 x2 x3 x4 x5 : Int) (hS : fx_Sok S) (g1 : -2147483648 ≤ x1 ∧ x1 ≤ 2147483647) (g2 : -2147483648 ≤ x2 ∧ x2 ≤ 2147483647) (g3 : -2147483648 ≤ x3 ∧ x3 ≤ 2147483647) (g4 : -2147483648 ≤ x4 ∧ x4 ≤ 2147483647) (g5 : -2147483648 ≤ x5 ∧ x5 ≤ 2147483647) (v5 : Int) (e5 : v5 = S.1 13 0) (b5 : -2147483648 ≤ v5 ∧ v5 ≤ 2147483647) (c1 : x5 < v5) (v6 : Int) (S1 : fx_S) (k1 : fx_Sok S1) (b6 : -2147483648 ≤ v6 ∧ v6 ≤ 2147483647) (p1 : s234 S x5 x3 v6 S1) (c2 : v6 ≠ 0) (v7 : Int) (e7 : v7 = S1.1 1 0) (b7 : -2147483648 ≤ v7 ∧ v7 ≤ 2147483647) (v8 : Int) (S2 : fx_S) (k2 : fx_Sok S2) (b8 : -2147483648 ≤ v8 ∧ v8 ≤ 2147483647) (p2 : s137 S1 x2 x5 v7 v8 S2) (c3 : v8 ≠ x1) (v9 : Int) (e9 : v9 = fx_add x5 1) (z : Int) (Z : fx_S) (kz : fx_Sok Z) (bz : -2147483648 ≤ z ∧ z ≤ 2147483647) (pz : s141 S2 x1 x2 x3 x4 v9 z Z) : s141 S x1 x2 x3 x4 x5 z Z := by
  obtain ⟨rfl, p1⟩ := p1
  obtain rfl : S = S2 := p2
  obtain rfl : S = Z := pz
  exact rfl
theorem q141_3 (S : fx_S) (x1 x2 x3 x4 x5 : Int) (hS : fx_Sok S) (g1 : -2147483648 ≤ x1 ∧ x1 ≤ 2147483647) (g2 : -2147483648 ≤ x2 ∧ x2 ≤ 2147483647) (g3 : -2147483648 ≤ x3 ∧ x3 ≤ 2147483647) (g4 : -2147483648 ≤ x4 ∧ x4 ≤ 2147483647) (g5 : -2147483648 ≤ x5 ∧ x5 ≤ 2147483647) (v5 : Int) (e5 : v5 = S.1 13 0) (b5 : -2147483648 ≤ v5 ∧ v5 ≤ 2147483647) (c1 : x5 < v5) (v6 : Int) (S1 : fx_S) (k1 : fx_Sok S1) (b6 : -2147483648 ≤ v6 ∧ v6 ≤ 2147483647) (p1 : s234 S x5 x3 v6 S1) (c2 : v6 ≠ 0) (v7 : Int) (e7 : v7 = S1.1 1 0) (b7 : -2147483648 ≤ v7 ∧ v7 ≤ 2147483647) (v8 : Int) (S2 : fx_S) (k2 : fx_Sok S2) (b8 : -2147483648 ≤ v8 ∧ v8 ≤ 2147483647) (p2 : s137 S1 x2 x5 v7 v8 S2) (c3 : v8 = x1) (v9 : Int) (e9 : v9 = fx_add x4 1) (v10 : Int) (e10 : v10 = fx_add x5 1) (z : Int) (Z : fx_S) (kz : fx_Sok Z) (bz : -2147483648 ≤ z ∧ z ≤ 2147483647) (pz : s141 S2 x1 x2 x3 v9 v10 z Z) : s141 S x1 x2 x3 x4 x5 z Z := by
  obtain ⟨rfl, p1⟩ := p1
  obtain rfl : S = S2 := p2
  obtain rfl : S = Z := pz
  exact rfl
theorem q142_0 (S : fx_S) (x1 x2 x3 x4 x5 : Int) (hS : fx_Sok S) (g1 : -2147483648 ≤ x1 ∧ x1 ≤ 2147483647) (g2 : -2147483648 ≤ x2 ∧ x2 ≤ 2147483647) (g3 : -2147483648 ≤ x3 ∧ x3 ≤ 2147483647) (g4 : -2147483648 ≤ x4 ∧ x4 ≤ 2147483647) (g5 : -2147483648 ≤ x5 ∧ x5 ≤ 2147483647) (v5 : Int) (e5 : v5 = S.1 67 2) (b5 : -2147483648 ≤ v5 ∧ v5 ≤ 2147483647) (c1 : v5 ≤ x5) : s142 S x1 x2 x3 x4 x5 x4 S := by
  refine ⟨rfl, ?_⟩
  · intro p i hW
    clear c1 b5 e5
    exact rfl
theorem q142_1 (S : fx_S) (x1 x2 x3 x4 x5 : Int) (hS : fx_Sok S) (g1 : -2147483648 ≤ x1 ∧ x1 ≤ 2147483647) (g2 : -2147483648 ≤ x2 ∧ x2 ≤ 2147483647) (g3 : -2147483648 ≤ x3 ∧ x3 ≤ 2147483647) (g4 : -2147483648 ≤ x4 ∧ x4 ≤ 2147483647) (g5 : -2147483648 ≤ x5 ∧ x5 ≤ 2147483647) (v5 : Int) (e5 : v5 = S.1 67 2) (b5 : -2147483648 ≤ v5 ∧ v5 ≤ 2147483647) (c1 : x5 < v5) (v6 : Int) (S1 : fx_S) (k1 : fx_Sok S1) (b6 : -2147483648 ≤ v6 ∧ v6 ≤ 2147483647) (p1 : s156 S x5 x3 v6 S1) (c2 : v6 = 0) (v7 : Int) (e7 : v7 = fx_add x4 0) (v8 : Int) (e8 : v8 = fx_add x5 1) (z : Int) (Z : fx_S) (kz : fx_Sok Z) (bz : -2147483648 ≤ z ∧ z ≤ 2147483647) (pz : s142 S1 x1 x2 x3 v7 v8 z Z) : s142 S x1 x2 x3 x4 x5 z Z := by
  obtain ⟨rfl, p1⟩ := p1
  obtain ⟨rZ, fZ⟩ := pz
  refine ⟨rZ, ?_⟩
  · intro p i hW
    clear e8 e7 c2 b6 c1 b5 e5
    exact (fZ p i (by omega))
theorem q142_2 (S : fx_S) (x1 x2 x3 x4 x5 : Int) (hS : fx_Sok S) (g1 : -2147483648 ≤ x1 ∧ x1 ≤ 2147483647) (g2 : -2147483648 ≤ x2 ∧ x2 ≤ 2147483647) (g3 : -2147483648 ≤ x3 ∧ x3 ≤ 2147483647) (g4 : -2147483648 ≤ x4 ∧ x4 ≤ 2147483647) (g5 : -2147483648 ≤ x5 ∧ x5 ≤ 2147483647) (v5 : Int) (e5 : v5 = S.1 67 2) (b5 : -2147483648 ≤ v5 ∧ v5 ≤ 2147483647) (c1 : x5 < v5) (v6 : Int) (S1 : fx_S) (k1 : fx_Sok S1) (b6 : -2147483648 ≤ v6 ∧ v6 ≤ 2147483647) (p1 : s156 S x5 x3 v6 S1) (c2 : v6 ≠ 0) (v7 : Int) (e7 : v7 = S1.1 67 0) (b7 : -2147483648 ≤ v7 ∧ v7 ≤ 2147483647) (v8 : Int) (S2 : fx_S) (k2 : fx_Sok S2) (b8 : -2147483648 ≤ v8 ∧ v8 ≤ 2147483647) (p2 : s235 S1 x2 x5 v7 v8 S2) (c3 : v8 ≠ x1) (v9 : Int) (e9 : v9 = fx_add x4 0) (v10 : Int) (e10 : v10 = fx_add x5 1) (z : Int) (Z : fx_S) (kz : fx_Sok Z) (bz : -2147483648 ≤ z ∧ z ≤ 2147483647) (pz : s142 S2 x1 x2 x3 v9 v10 z Z) : s142 S x1 x2 x3 x4 x5 z Z := by
  obtain ⟨rfl, p1⟩ := p1
  obtain ⟨r2, f2⟩ := p2
  obtain ⟨rZ, fZ⟩ := pz
  refine ⟨(rZ).trans (r2), ?_⟩
  · intro p i hW
    clear e10 e9 c3 b8 b7 e7 c2 b6 c1 b5 e5
    exact ((fZ p i (by omega))).trans ((f2 p i (by omega)))
theorem q142_3 (S : fx_S) (x1 x2 x3 x4 x5 : Int) (hS : fx_Sok S) (g1 : -2147483648 ≤ x1 ∧ x1 ≤ 2147483647) (g2 : -2147483648 ≤ x2 ∧ x2 ≤ 2147483647) (g3 : -2147483648 ≤ x3 ∧ x3 ≤ 2147483647) (g4 : -2147483648 ≤ x4 ∧ x4 ≤ 2147483647) (g5 : -2147483648 ≤ x5 ∧ x5 ≤ 2147483647) (v5 : Int) (e5 : v5 = S.1 67 2) (b5 : -2147483648 ≤ v5 ∧ v5 ≤ 2147483647) (c1 : x5 < v5) (v6 : Int) (S1 : fx_S) (k1 : fx_Sok S1) (b6 : -2147483648 ≤ v6 ∧ v6 ≤ 2147483647) (p1 : s156 S x5 x3 v6 S1) (c2 : v6 ≠ 0) (v7 : Int) (e7 : v7 = S1.1 67 0) (b7 : -2147483648 ≤ v7 ∧ v7 ≤ 2147483647) (v8 : Int) (S2 : fx_S) (k2 : fx_Sok S2) (b8 : -2147483648 ≤ v8 ∧ v8 ≤ 2147483647) (p2 : s235 S1 x2 x5 v7 v8 S2) (c3 : v8 = x1) (v9 : Int) (e9 : v9 = fx_add x4 1) (v10 : Int) (e10 : v10 = fx_add x5 1) (z : Int) (Z : fx_S) (kz : fx_Sok Z) (bz : -2147483648 ≤ z ∧ z ≤ 2147483647) (pz : s142 S2 x1 x2 x3 v9 v10 z Z) : s142 S x1 x2 x3 x4 x5 z Z := by
  obtain ⟨rfl, p1⟩ := p1
  obtain ⟨r2, f2⟩ := p2
  obtain ⟨rZ, fZ⟩ := pz
  refine ⟨(rZ).trans (r2), ?_⟩
  · intro p i hW
    clear e10 e9 c3 b8 b7 e7 c2 b6 c1 b5 e5
    exact ((fZ p i (by omega))).trans ((f2 p i (by omega)))
theorem q143_0 (S : fx_S) (x1 x2 x3 : Int) (hS : fx_Sok S) (g1 : -2147483648 ≤ x1 ∧ x1 ≤ 2147483647) (g2 : -2147483648 ≤ x2 ∧ x2 ≤ 2147483647) (g3 : -2147483648 ≤ x3 ∧ x3 ≤ 2147483647) (c1 : 0 ≤ x1) (c2 : x1 < 80) (v3 : Int) (e3 : v3 = S.1 16 x1) (b3 : -2147483648 ≤ v3 ∧ v3 ≤ 2147483647) (z : Int) (Z : fx_S) (kz : fx_Sok Z) (bz : -2147483648 ≤ z ∧ z ≤ 2147483647) (pz : s236 S x1 x2 x3 0 v3 z Z) : s143 S x1 x2 x3 z Z := by
  obtain rfl : S = Z := pz
  exact rfl
theorem q144_0 (S : fx_S) (x1 x2 x3 : Int) (hS : fx_Sok S) (g1 : -2147483648 ≤ x1 ∧ x1 ≤ 2147483647) (g2 : -2147483648 ≤ x2 ∧ x2 ≤ 2147483647) (g3 : -2147483648 ≤ x3 ∧ x3 ≤ 2147483647) (v3 : Int) (e3 : v3 = fx_mul 10 x1) (v4 : Int) (e4 : v4 = fx_add 300 v3) (v5 : Int) (e5 : v5 = fx_add v4 2) (c1 : 0 ≤ v5) (c2 : v5 < 8090) (v6 : Int) (e6 : v6 = S.1 67 v5) (b6 : -2147483648 ≤ v6 ∧ v6 ≤ 2147483647) (z : Int) (Z : fx_S) (kz : fx_Sok Z) (bz : -2147483648 ≤ z ∧ z ≤ 2147483647) (pz : s237 S x1 x2 x3 0 v6 z Z) : s144 S x1 x2 x3 z Z := by
  obtain rfl : S = Z := pz
  exact rfl
theorem q145_0 (S : fx_S) (x1 x2 x3 : Int) (hS : fx_Sok S) (g1 : -2147483648 ≤ x1 ∧ x1 ≤ 2147483647) (g2 : -2147483648 ≤ x2 ∧ x2 ≤ 2147483647) (g3 : -2147483648 ≤ x3 ∧ x3 ≤ 2147483647) (v3 : Int) (e3 : v3 = S.1 21 2) (b3 : -2147483648 ≤ v3 ∧ v3 ≤ 2147483647) (c1 : 300 ≤ v3) : s145 S x1 x2 x3 0 S := by
  refine ⟨rfl, ?_⟩
  · intro p i hW
    clear c1 b3 e3
    exact rfl
theorem q145_1 (S : fx_S) (x1 x2 x3 : Int) (hS : fx_Sok S) (g1 : -2147483648 ≤ x1 ∧ x1 ≤ 2147483647) (g2 : -2147483648 ≤ x2 ∧ x2 ≤ 2147483647) (g3 : -2147483648 ≤ x3 ∧ x3 ≤ 2147483647) (v3 : Int) (e3 : v3 = S.1 21 2) (b3 : -2147483648 ≤ v3 ∧ v3 ≤ 2147483647) (c1 : v3 < 300) (v4 : Int) (e4 : v4 = S.1 21 2) (b4 : -2147483648 ≤ v4 ∧ v4 ≤ 2147483647) (c2 : 0 ≤ v4) (c3 : v4 < 300) (S1 : fx_S) (d1 : S1 = (fx_up S.1 24 v4 x1, S.2)) (v5 : Int) (e5 : v5 = S1.1 21 2) (b5 : -2147483648 ≤ v5 ∧ v5 ≤ 2147483647) (c4 : 0 ≤ v5) (c5 : v5 < 300) (S2 : fx_S) (d2 : S2 = (fx_up S1.1 25 v5 x2, S1.2)) (v6 : Int) (e6 : v6 = S2.1 21 2) (b6 : -2147483648 ≤ v6 ∧ v6 ≤ 2147483647) (c6 : 0 ≤ v6) (c7 : v6 < 300) (S3 : fx_S) (d3 : S3 = (fx_up S2.1 26 v6 x3, S2.2)) (v7 : Int) (e7 : v7 = S3.1 21 2) (b7 : -2147483648 ≤ v7 ∧ v7 ≤ 2147483647) (v8 : Int) (e8 : v8 = fx_add v7 1) (S4 : fx_S) (d4 : S4 = (fx_up S3.1 21 2 v8, S3.2)) : s145 S x1 x2 x3 0 S4 := by
  refine ⟨((show S4.2 = S3.2 by rw [d4])).trans (((show S3.2 = S2.2 by rw [d3])).trans (((show S2.2 = S1.2 by rw [d2])).trans ((show S1.2 = S.2 by rw [d1])))), ?_⟩
  · intro p i hW
    clear e8 b7 e7 c7 c6 b6 e6 c5 c4 b5 e5 c3 c2 b4 e4 c1 b3 e3
    exact ((show S4.1 p i = S3.1 p i by rw [d4]; exact if_neg (by omega))).trans (((show S3.1 p i = S2.1 p i by rw [d3]; exact if_neg (by omega))).trans (((show S2.1 p i = S1.1 p i by rw [d2]; exact if_neg (by omega))).trans ((show S1.1 p i = S.1 p i by rw [d1]; exact if_neg (by omega)))))
theorem q146_0 (S : fx_S) (x1 x2 : Int) (hS : fx_Sok S) (g1 : -2147483648 ≤ x1 ∧ x1 ≤ 2147483647) (g2 : -2147483648 ≤ x2 ∧ x2 ≤ 2147483647) (z : Int) (Z : fx_S) (kz : fx_Sok Z) (bz : -2147483648 ≤ z ∧ z ≤ 2147483647) (pz : s238 S x1 x2 0 0 z Z) : s146 S x1 x2 z Z := by
  obtain rfl : S = Z := pz
  exact rfl
theorem q147_0 (S : fx_S) (x1 x2 x3 x4 : Int) (hS : fx_Sok S) (g1 : -2147483648 ≤ x1 ∧ x1 ≤ 2147483647) (g2 : -2147483648 ≤ x2 ∧ x2 ≤ 2147483647) (g3 : -2147483648 ≤ x3 ∧ x3 ≤ 2147483647) (g4 : -2147483648 ≤ x4 ∧ x4 ≤ 2147483647) (v4 : Int) (e4 : v4 = S.1 67 7) (b4 : -2147483648 ≤ v4 ∧ v4 ≤ 2147483647) (v5 : Int) (e5 : v5 = fx_mul 3 v4) (v6 : Int) (e6 : v6 = fx_add 7148 v5) (c1 : v6 ≤ x4) : s147 S x1 x2 x3 x4 x3 S := by
  exact rfl
theorem q147_1 (S : fx_S) (x1 x2 x3 x4 : Int) (hS : fx_Sok S) (g1 : -2147483648 ≤ x1 ∧ x1 ≤ 2147483647) (g2 : -2147483648 ≤ x2 ∧ x2 ≤ 2147483647) (g3 : -2147483648 ≤ x3 ∧ x3 ≤ 2147483647) (g4 : -2147483648 ≤ x4 ∧ x4 ≤ 2147483647) (v4 : Int) (e4 : v4 = S.1 67 7) (b4 : -2147483648 ≤ v4 ∧ v4 ≤ 2147483647) (v5 : Int) (e5 : v5 = fx_mul 3 v4) (v6 : Int) (e6 : v6 = fx_add 7148 v5) (c1 : x4 < v6) (c2 : 0 ≤ x4) (c3 : x4 < 8090) (v7 : Int) (e7 : v7 = S.1 67 x4) (b7 : -2147483648 ≤ v7 ∧ v7 ≤ 2147483647) (c4 : v7 ≠ x1) (v8 : Int) (e8 : v8 = fx_add x3 0) (v9 : Int) (e9 : v9 = fx_add x4 3) (z : Int) (Z : fx_S) (kz : fx_Sok Z) (bz : -2147483648 ≤ z ∧ z ≤ 2147483647) (pz : s147 S x1 x2 v8 v9 z Z) : s147 S x1 x2 x3 x4 z Z := by
  obtain rfl : S = Z := pz
  exact rfl
theorem q147_2 (S : fx_S) (x1 x2 x3 x4 : Int) (hS : fx_Sok S) (g1 : -2147483648 ≤ x1 ∧ x1 ≤ 2147483647) (g2 : -2147483648 ≤ x2 ∧ x2 ≤ 2147483647) (g3 : -2147483648 ≤ x3 ∧ x3 ≤ 2147483647) (g4 : -2147483648 ≤ x4 ∧ x4 ≤ 2147483647) (v4 : Int) (e4 : v4 = S.1 67 7) (b4 : -2147483648 ≤ v4 ∧ v4 ≤ 2147483647) (v5 : Int) (e5 : v5 = fx_mul 3 v4) (v6 : Int) (e6 : v6 = fx_add 7148 v5) (c1 : x4 < v6) (c2 : 0 ≤ x4) (c3 : x4 < 8090) (v7 : Int) (e7 : v7 = S.1 67 x4) (b7 : -2147483648 ≤ v7 ∧ v7 ≤ 2147483647) (c4 : v7 = x1) (v8 : Int) (e8 : v8 = fx_add x4 2) (c5 : 0 ≤ v8) (c6 : v8 < 8090) (v9 : Int) (e9 : v9 = S.1 67 v8) (b9 : -2147483648 ≤ v9 ∧ v9 ≤ 2147483647) (c7 : x2 < v9) (v10 : Int) (e10 : v10 = fx_add x3 0) (v11 : Int) (e11 : v11 = fx_add x4 3) (z : Int) (Z : fx_S) (kz : fx_Sok Z) (bz : -2147483648 ≤ z ∧ z ≤ 2147483647) (pz : s147 S x1 x2 v10 v11 z Z) : s147 S x1 x2 x3 x4 z Z := by
  obtain rfl : S = Z := pz
  exact rfl
theorem q147_3 (S : fx_S) (x1 x2 x3 x4 : Int) (hS : fx_Sok S) (g1 : -2147483648 ≤ x1 ∧ x1 ≤ 2147483647) (g2 : -2147483648 ≤ x2 ∧ x2 ≤ 2147483647) (g3 : -2147483648 ≤ x3 ∧ x3 ≤ 2147483647) (g4 : -2147483648 ≤ x4 ∧ x4 ≤ 2147483647) (v4 : Int) (e4 : v4 = S.1 67 7) (b4 : -2147483648 ≤ v4 ∧ v4 ≤ 2147483647) (v5 : Int) (e5 : v5 = fx_mul 3 v4) (v6 : Int) (e6 : v6 = fx_add 7148 v5) (c1 : x4 < v6) (c2 : 0 ≤ x4) (c3 : x4 < 8090) (v7 : Int) (e7 : v7 = S.1 67 x4) (b7 : -2147483648 ≤ v7 ∧ v7 ≤ 2147483647) (c4 : v7 = x1) (v8 : Int) (e8 : v8 = fx_add x4 2) (c5 : 0 ≤ v8) (c6 : v8 < 8090) (v9 : Int) (e9 : v9 = S.1 67 v8) (b9 : -2147483648 ≤ v9 ∧ v9 ≤ 2147483647) (c7 : v9 ≤ x2) (v10 : Int) (e10 : v10 = fx_add x4 1) (c8 : 0 ≤ v10) (c9 : v10 < 8090) (v11 : Int) (e11 : v11 = S.1 67 v10) (b11 : -2147483648 ≤ v11 ∧ v11 ≤ 2147483647) (v12 : Int) (e12 : v12 = fx_add x3 v11) (v13 : Int) (e13 : v13 = fx_add x4 3) (z : Int) (Z : fx_S) (kz : fx_Sok Z) (bz : -2147483648 ≤ z ∧ z ≤ 2147483647) (pz : s147 S x1 x2 v12 v13 z Z) : s147 S x1 x2 x3 x4 z Z := by
  obtain rfl : S = Z := pz
  exact rfl
theorem q148_0 (S : fx_S) (hS : fx_Sok S) (v0 : Int) (S1 : fx_S) (k1 : fx_Sok S1) (b0 : v0 = 0) (p1 : s239 S 0 v0 S1) (z : Int) (Z : fx_S) (kz : fx_Sok Z) (bz : -2147483648 ≤ z ∧ z ≤ 2147483647) (pz : s240 S1 0 0 z Z) : s148 S  z Z := by
  obtain ⟨r1, f1⟩ := p1
  obtain ⟨rZ, fZ⟩ := pz
  refine ⟨(rZ).trans (r1), ?_⟩
  · intro p i hW
    clear b0
    exact ((fZ p i (by omega))).trans ((f1 p i (by omega)))
theorem q149_0 (S : fx_S) (x1 x3 : Int) (hS : fx_Sok S) (g1 : -2147483648 ≤ x1 ∧ x1 ≤ 2147483647) (g3 : -2147483648 ≤ x3 ∧ x3 ≤ 2147483647) (z : Int) (Z : fx_S) (kz : fx_Sok Z) (bz : z = 0) (pz : s241 S x1 x3 x1 0 z Z) : s149 S x1 x3 z Z := by
  obtain ⟨rZ, fZ⟩ := pz
  refine ⟨rZ, ?_⟩
  · intro p i hW
    exact (fZ p i (by omega))
theorem q150_0 (S : fx_S) (hS : fx_Sok S) (z : Int) (Z : fx_S) (kz : fx_Sok Z) (bz : -2147483648 ≤ z ∧ z ≤ 2147483647) (pz : s242 S 0 z Z) : s150 S  z Z := by
  obtain rfl : S = Z := pz
  exact rfl
theorem q151_0 (S : fx_S) (x1 : Int) (hS : fx_Sok S) (g1 : -2147483648 ≤ x1 ∧ x1 ≤ 2147483647) (z : Int) (Z : fx_S) (kz : fx_Sok Z) (bz : z = 0) (pz : s243 S x1 0 z Z) : s151 S x1 z Z := by
  obtain ⟨rZ, fZ⟩ := pz
  refine ⟨rZ, ?_⟩
  · intro p i hW
    exact (fZ p i (by omega))
theorem q152_0 (S : fx_S) (hS : fx_Sok S) (z : Int) (Z : fx_S) (kz : fx_Sok Z) (bz : -2147483648 ≤ z ∧ z ≤ 2147483647) (pz : s244 S 0 0 z Z) : s152 S  z Z := by
  obtain rfl : S = Z := pz
  exact rfl
theorem q153_0 (S : fx_S) (x1 x2 x3 : Int) (hS : fx_Sok S) (g1 : -2147483648 ≤ x1 ∧ x1 ≤ 2147483647) (g2 : -2147483648 ≤ x2 ∧ x2 ≤ 2147483647) (g3 : -2147483648 ≤ x3 ∧ x3 ≤ 2147483647) (c1 : 4 ≤ x3) (c2 : x2 ≠ 0) (z : Int) (Z : fx_S) (kz : fx_Sok Z) (bz : -2147483648 ≤ z ∧ z ≤ 2147483647) (pz : s245 S x1 x2 x1 0 z Z) : s153 S x1 x2 x3 z Z := by
  unfold s245 at pz
  unfold s153
  intro hB
  have BS := hB
  have NS := fx_WB_n BS
  obtain ⟨rZ, fZ, BZ⟩ := pz BS
  refine ⟨rZ, ?_, BZ⟩
  · intro p i hW
    exact (fZ p i (by omega))
theorem q153_1 (S : fx_S) (x1 x2 x3 : Int) (hS : fx_Sok S) (g1 : -2147483648 ≤ x1 ∧ x1 ≤ 2147483647) (g2 : -2147483648 ≤ x2 ∧ x2 ≤ 2147483647) (g3 : -2147483648 ≤ x3 ∧ x3 ≤ 2147483647) (c1 : 4 ≤ x3) (c2 : x2 = 0) : s153 S x1 x2 x3 (-5) S := by
  unfold s153
  intro hB
  have BS := hB
  have NS := fx_WB_n BS
  refine ⟨rfl, ?_, BS⟩
  · intro p i hW
    exact rfl
theorem q153_2 (S : fx_S) (x1 x2 x3 : Int) (hS : fx_Sok S) (g1 : -2147483648 ≤ x1 ∧ x1 ≤ 2147483647) (g2 : -2147483648 ≤ x2 ∧ x2 ≤ 2147483647) (g3 : -2147483648 ≤ x3 ∧ x3 ≤ 2147483647) (c1 : x3 < 4) (v3 : Int) (e3 : v3 = S.1 67 0) (b3 : -2147483648 ≤ v3 ∧ v3 ≤ 2147483647) (v4 : Int) (e4 : v4 = S.1 67 0) (b4 : -2147483648 ≤ v4 ∧ v4 ≤ 2147483647) (v5 : Int) (S1 : fx_S) (k1 : fx_Sok S1) (b5 : -2147483648 ≤ v5 ∧ v5 ≤ 2147483647) (p1 : s34 S x3 v3 v4 v5 S1) (c2 : 0 ≤ x3) (c3 : x3 < 4) (S2 : fx_S) (d2 : S2 = (fx_up S1.1 73 x3 v5, S1.2)) (c4 : 0 ≤ x3) (c5 : x3 < 4) (v6 : Int) (e6 : v6 = S2.1 73 x3) (b6 : -2147483648 ≤ v6 ∧ v6 ≤ 2147483647) (v7 : Int) (e7 : v7 = fx_add x2 v6) (c6 : 0 ≤ x3) (c7 : x3 < 4) (S3 : fx_S) (d3 : S3 = (fx_up S2.1 75 x3 0, S2.2)) (v8 : Int) (e8 : v8 = fx_add x3 1) (z : Int) (Z : fx_S) (kz : fx_Sok Z) (bz : -2147483648 ≤ z ∧ z ≤ 2147483647) (pz : s153 S3 x1 v7 v8 z Z) : s153 S x1 x2 x3 z Z := by
  obtain ⟨r1, f1⟩ := p1
  unfold s153 at pz
  unfold s153
  intro hB
  have BS := hB
  have NS := fx_WB_n BS
  obtain rfl : v3 = v4 := by rw [e4, e3]
  have BS1 : fx_WB S1 := fx_WB_eq BS (fun q => f1 67 q (by omega)) (fun q => f1 68 q (by omega)) (fun q => f1 69 q (by omega))
  have NS1 := fx_WB_n BS1
  have BS2 : fx_WB S2 := by rw [d2]; exact fx_WB_off BS1 (by omega)
  have t6_2 : S2.1 73 x3 = v5 := by rw [d2]; first | exact if_pos ⟨rfl, by omega⟩ | rfl
  rw [t6_2] at e6
  obtain rfl : v5 = v6 := e6.symm
  have h7 := e7
  first | rw [fx_add_eq (by omega) (by omega)] at h7 | skip
  have BS3 : fx_WB S3 := by rw [d3]; exact fx_WB_off BS2 (by omega)
  have h8 := e8
  first | rw [fx_add_eq (by omega) (by omega)] at h8 | skip
  obtain ⟨rZ, fZ, BZ⟩ := pz BS3
  refine ⟨(rZ).trans (((show S3.2 = S2.2 by rw [d3])).trans (((show S2.2 = S1.2 by rw [d2])).trans (r1))), ?_, BZ⟩
  · intro p i hW
    exact ((fZ p i (by omega))).trans (((show S3.1 p i = S2.1 p i by rw [d3]; exact if_neg (by omega))).trans (((show S2.1 p i = S1.1 p i by rw [d2]; exact if_neg (by omega))).trans ((f1 p i (by omega)))))
theorem q154_0 (S : fx_S) (x1 : Int) (hS : fx_Sok S) (g1 : -2147483648 ≤ x1 ∧ x1 ≤ 2147483647) (z : Int) (Z : fx_S) (kz : fx_Sok Z) (bz : -2147483648 ≤ z ∧ z ≤ 2147483647) (pz : s246 S x1 0 z Z) : s154 S x1 z Z := by
  obtain ⟨rZ, fZ⟩ := pz
  refine ⟨rZ, ?_⟩
  · intro p i hW
    exact (fZ p i (by omega))
theorem q155_0 (S : fx_S) (x1 : Int) (hS : fx_Sok S) (g1 : -2147483648 ≤ x1 ∧ x1 ≤ 2147483647) (v1 : Int) (e1 : v1 = S.1 67 4) (b1 : -2147483648 ≤ v1 ∧ v1 ≤ 2147483647) (c1 : v1 ≤ x1) (v2 : Int) (e2 : v2 = S.1 67 4) (b2 : -2147483648 ≤ v2 ∧ v2 ≤ 2147483647) (c2 : v2 ≠ 20) (z : Int) (Z : fx_S) (kz : fx_Sok Z) (bz : -2147483648 ≤ z ∧ z ≤ 2147483647) (pz : s247 S v2 0 z Z) : s155 S x1 z Z := by
  unfold s247 at pz
  unfold s155
  intro hB
  have BS := hB
  have NS := fx_WB_n BS
  obtain rfl : v1 = v2 := by rw [e2, e1]
  obtain ⟨rZ, fZ, BZ⟩ := pz BS (by omega)
  refine ⟨rZ, ?_, BZ⟩
  · intro p i hW
    exact (fZ p i (by omega))
theorem q155_1 (S : fx_S) (x1 : Int) (hS : fx_Sok S) (g1 : -2147483648 ≤ x1 ∧ x1 ≤ 2147483647) (v1 : Int) (e1 : v1 = S.1 67 4) (b1 : -2147483648 ≤ v1 ∧ v1 ≤ 2147483647) (c1 : v1 ≤ x1) (v2 : Int) (e2 : v2 = S.1 67 4) (b2 : -2147483648 ≤ v2 ∧ v2 ≤ 2147483647) (c2 : v2 = 20) : s155 S x1 (-3) S := by
  unfold s155
  intro hB
  have BS := hB
  have NS := fx_WB_n BS
  obtain rfl : v1 = v2 := by rw [e2, e1]
  refine ⟨rfl, ?_, BS⟩
  · intro p i hW
    exact rfl
theorem q155_2 (S : fx_S) (x1 : Int) (hS : fx_Sok S) (g1 : -2147483648 ≤ x1 ∧ x1 ≤ 2147483647) (v1 : Int) (e1 : v1 = S.1 67 4) (b1 : -2147483648 ≤ v1 ∧ v1 ≤ 2147483647) (c1 : x1 < v1) (v2 : Int) (e2 : v2 = fx_mul 170 x1) (v3 : Int) (e3 : v3 = fx_add 3700 v2) (v4 : Int) (e4 : v4 = fx_add v3 1) (c2 : 0 ≤ v4) (c3 : v4 < 8090) (v5 : Int) (e5 : v5 = S.1 67 v4) (b5 : -2147483648 ≤ v5 ∧ v5 ≤ 2147483647) (c4 : v5 ≠ 1) (v6 : Int) (e6 : v6 = fx_add x1 1) (z : Int) (Z : fx_S) (kz : fx_Sok Z) (bz : -2147483648 ≤ z ∧ z ≤ 2147483647) (pz : s155 S v6 z Z) : s155 S x1 z Z := by
  unfold s155 at pz
  unfold s155
  intro hB
  have BS := hB
  have NS := fx_WB_n BS
  have h2 := e2
  first | rw [fx_mul_eq (by omega) (by omega)] at h2 | skip
  have h3 := e3
  first | rw [fx_add_eq (by omega) (by omega)] at h3 | skip
  have h4 := e4
  first | rw [fx_add_eq (by omega) (by omega)] at h4 | skip
  have h6 := e6
  first | rw [fx_add_eq (by omega) (by omega)] at h6 | skip
  obtain ⟨rZ, fZ, BZ⟩ := pz BS
  refine ⟨rZ, ?_, BZ⟩
  · intro p i hW
    exact (fZ p i (by omega))
theorem q155_3 (S : fx_S) (x1 : Int) (hS : fx_Sok S) (g1 : -2147483648 ≤ x1 ∧ x1 ≤ 2147483647) (v1 : Int) (e1 : v1 = S.1 67 4) (b1 : -2147483648 ≤ v1 ∧ v1 ≤ 2147483647) (c1 : x1 < v1) (v2 : Int) (e2 : v2 = fx_mul 170 x1) (v3 : Int) (e3 : v3 = fx_add 3700 v2) (v4 : Int) (e4 : v4 = fx_add v3 1) (c2 : 0 ≤ v4) (c3 : v4 < 8090) (v5 : Int) (e5 : v5 = S.1 67 v4) (b5 : -2147483648 ≤ v5 ∧ v5 ≤ 2147483647) (c4 : v5 = 1) (v6 : Int) (e6 : v6 = fx_mul 170 x1) (v7 : Int) (e7 : v7 = fx_add 3700 v6) (c5 : 0 ≤ v7) (c6 : v7 < 8090) (v8 : Int) (e8 : v8 = S.1 67 v7) (b8 : -2147483648 ≤ v8 ∧ v8 ≤ 2147483647) (v9 : Int) (e9 : v9 = S.1 67 0) (b9 : -2147483648 ≤ v9 ∧ v9 ≤ 2147483647) (c7 : v8 ≠ v9) (v10 : Int) (e10 : v10 = fx_add x1 1) (z : Int) (Z : fx_S) (kz : fx_Sok Z) (bz : -2147483648 ≤ z ∧ z ≤ 2147483647) (pz : s155 S v10 z Z) : s155 S x1 z Z := by
  unfold s155 at pz
  unfold s155
  intro hB
  have BS := hB
  have NS := fx_WB_n BS
  have h2 := e2
  first | rw [fx_mul_eq (by omega) (by omega)] at h2 | skip
  have h3 := e3
  first | rw [fx_add_eq (by omega) (by omega)] at h3 | skip
  have h4 := e4
  first | rw [fx_add_eq (by omega) (by omega)] at h4 | skip
  obtain rfl : v2 = v6 := by rw [e6, e2]
  obtain rfl : v3 = v7 := by rw [e7, e3]
  have h10 := e10
  first | rw [fx_add_eq (by omega) (by omega)] at h10 | skip
  obtain ⟨rZ, fZ, BZ⟩ := pz BS
  refine ⟨rZ, ?_, BZ⟩
  · intro p i hW
    exact (fZ p i (by omega))
