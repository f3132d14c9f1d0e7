/-! FX: what is to be shown of the entries -/
theorem q155_4 (S : fx_S) (x1 : Int) (hS : fx_Sok S) (g1 : -2147483648 ≤ x1 ∧ x1 ≤ 2147483647) (v1 : Int) (e1 : v1 = S.1 67 4) (b1 : -2147483648 ≤ v1 ∧ v1 ≤ 2147483647) (c1 : x1 < v1) (v2 : Int) (e2 : v2 = fx_mul 170 x1) (v3 : Int) (e3 : v3 = fx_add 3700 v2) (v4 : Int) (e4 : v4 = fx_add v3 1) (c2 : 0 ≤ v4) (c3 : v4 < 8090) (v5 : Int) (e5 : v5 = S.1 67 v4) (b5 : -2147483648 ≤ v5 ∧ v5 ≤ 2147483647) (c4 : v5 = 1) (v6 : Int) (e6 : v6 = fx_mul 170 x1) (v7 : Int) (e7 : v7 = fx_add 3700 v6) (c5 : 0 ≤ v7) (c6 : v7 < 8090) (v8 : Int) (e8 : v8 = S.1 67 v7) (b8 : -2147483648 ≤ v8 ∧ v8 ≤ 2147483647) (v9 : Int) (e9 : v9 = S.1 67 0) (b9 : -2147483648 ≤ v9 ∧ v9 ≤ 2147483647) (c7 : v8 = v9) : s155 S x1 (-2) S := by
  unfold s155
  intro hB
  have BS := hB
  have NS := fx_WB_n BS
  have h2 := e2
  first | rw [fx_mul_eq (by omega) (by omega)] at h2 | skip
  have h3 := e3
  first | rw [fx_add_eq (by omega) (by omega)] at h3 | skip
  have h4 := e4
  first | rw [fx_add_eq (by omega) (by omega)] at h4 | skip
  obtain rfl : v2 = v6 := by rw [e6, e2]
  obtain rfl : v3 = v7 := by rw [e7, e3]
  refine ⟨rfl, ?_, BS⟩
  · intro p i hW
    exact rfl
theorem q156_0 (S : fx_S) (x1 x2 : Int) (hS : fx_Sok S) (g1 : -2147483648 ≤ x1 ∧ x1 ≤ 2147483647) (g2 : -2147483648 ≤ x2 ∧ x2 ≤ 2147483647) (v2 : Int) (e2 : v2 = fx_mul 10 x1) (v3 : Int) (e3 : v3 = fx_add 300 v2) (v4 : Int) (e4 : v4 = fx_add v3 2) (c1 : 0 ≤ v4) (c2 : v4 < 8090) (v5 : Int) (e5 : v5 = S.1 67 v4) (b5 : -2147483648 ≤ v5 ∧ v5 ≤ 2147483647) (c3 : x2 < v5) : s156 S x1 x2 0 S := by
  refine ⟨rfl, ?_⟩
  intro h0_ h1_
  have h2 := e2
  first | rw [fx_mul_eq (by omega) (by omega)] at h2 | skip
  have h3 := e3
  first | rw [fx_add_eq (by omega) (by omega)] at h3 | skip
  have h4 := e4
  first | rw [fx_add_eq (by omega) (by omega)] at h4 | skip
  rw [show 302 + 10 * x1 = v4 by omega, ← e5, if_neg (by omega)]
theorem q156_1 (S : fx_S) (x1 x2 : Int) (hS : fx_Sok S) (g1 : -2147483648 ≤ x1 ∧ x1 ≤ 2147483647) (g2 : -2147483648 ≤ x2 ∧ x2 ≤ 2147483647) (v2 : Int) (e2 : v2 = fx_mul 10 x1) (v3 : Int) (e3 : v3 = fx_add 300 v2) (v4 : Int) (e4 : v4 = fx_add v3 2) (c1 : 0 ≤ v4) (c2 : v4 < 8090) (v5 : Int) (e5 : v5 = S.1 67 v4) (b5 : -2147483648 ≤ v5 ∧ v5 ≤ 2147483647) (c3 : v5 ≤ x2) (v6 : Int) (e6 : v6 = fx_mul 10 x1) (v7 : Int) (e7 : v7 = fx_add 300 v6) (v8 : Int) (e8 : v8 = fx_add v7 3) (c4 : 0 ≤ v8) (c5 : v8 < 8090) (v9 : Int) (e9 : v9 = S.1 67 v8) (b9 : -2147483648 ≤ v9 ∧ v9 ≤ 2147483647) (c6 : v9 = (-1)) : s156 S x1 x2 1 S := by
  refine ⟨rfl, ?_⟩
  intro h0_ h1_
  have h2 := e2
  first | rw [fx_mul_eq (by omega) (by omega)] at h2 | skip
  have h3 := e3
  first | rw [fx_add_eq (by omega) (by omega)] at h3 | skip
  have h4 := e4
  first | rw [fx_add_eq (by omega) (by omega)] at h4 | skip
  obtain rfl : v2 = v6 := by rw [e6, e2]
  obtain rfl : v3 = v7 := by rw [e7, e3]
  have h8 := e8
  first | rw [fx_add_eq (by omega) (by omega)] at h8 | skip
  rw [show 302 + 10 * x1 = v4 by omega, show 303 + 10 * x1 = v8 by omega, ← e5, ← e9, if_pos (by omega)]
theorem q156_2 (S : fx_S) (x1 x2 : Int) (hS : fx_Sok S) (g1 : -2147483648 ≤ x1 ∧ x1 ≤ 2147483647) (g2 : -2147483648 ≤ x2 ∧ x2 ≤ 2147483647) (v2 : Int) (e2 : v2 = fx_mul 10 x1) (v3 : Int) (e3 : v3 = fx_add 300 v2) (v4 : Int) (e4 : v4 = fx_add v3 2) (c1 : 0 ≤ v4) (c2 : v4 < 8090) (v5 : Int) (e5 : v5 = S.1 67 v4) (b5 : -2147483648 ≤ v5 ∧ v5 ≤ 2147483647) (c3 : v5 ≤ x2) (v6 : Int) (e6 : v6 = fx_mul 10 x1) (v7 : Int) (e7 : v7 = fx_add 300 v6) (v8 : Int) (e8 : v8 = fx_add v7 3) (c4 : 0 ≤ v8) (c5 : v8 < 8090) (v9 : Int) (e9 : v9 = S.1 67 v8) (b9 : -2147483648 ≤ v9 ∧ v9 ≤ 2147483647) (c6 : v9 ≠ (-1)) (v10 : Int) (e10 : v10 = fx_mul 10 x1) (v11 : Int) (e11 : v11 = fx_add 300 v10) (v12 : Int) (e12 : v12 = fx_add v11 3) (c7 : 0 ≤ v12) (c8 : v12 < 8090) (v13 : Int) (e13 : v13 = S.1 67 v12) (b13 : -2147483648 ≤ v13 ∧ v13 ≤ 2147483647) (c9 : v13 ≤ x2) : s156 S x1 x2 0 S := by
  refine ⟨rfl, ?_⟩
  intro h0_ h1_
  have h2 := e2
  first | rw [fx_mul_eq (by omega) (by omega)] at h2 | skip
  have h3 := e3
  first | rw [fx_add_eq (by omega) (by omega)] at h3 | skip
  have h4 := e4
  first | rw [fx_add_eq (by omega) (by omega)] at h4 | skip
  obtain rfl : v2 = v6 := by rw [e6, e2]
  obtain rfl : v3 = v7 := by rw [e7, e3]
  have h8 := e8
  first | rw [fx_add_eq (by omega) (by omega)] at h8 | skip
  obtain rfl : v2 = v10 := by rw [e10, e2]
  obtain rfl : v3 = v11 := by rw [e11, e3]
  obtain rfl : v8 = v12 := by rw [e12, e8]
  obtain rfl : v9 = v13 := by rw [e13, e9]
  rw [show 302 + 10 * x1 = v4 by omega, show 303 + 10 * x1 = v8 by omega, ← e5, ← e9, if_neg (by omega)]
theorem q156_3 (S : fx_S) (x1 x2 : Int) (hS : fx_Sok S) (g1 : -2147483648 ≤ x1 ∧ x1 ≤ 2147483647) (g2 : -2147483648 ≤ x2 ∧ x2 ≤ 2147483647) (v2 : Int) (e2 : v2 = fx_mul 10 x1) (v3 : Int) (e3 : v3 = fx_add 300 v2) (v4 : Int) (e4 : v4 = fx_add v3 2) (c1 : 0 ≤ v4) (c2 : v4 < 8090) (v5 : Int) (e5 : v5 = S.1 67 v4) (b5 : -2147483648 ≤ v5 ∧ v5 ≤ 2147483647) (c3 : v5 ≤ x2) (v6 : Int) (e6 : v6 = fx_mul 10 x1) (v7 : Int) (e7 : v7 = fx_add 300 v6) (v8 : Int) (e8 : v8 = fx_add v7 3) (c4 : 0 ≤ v8) (c5 : v8 < 8090) (v9 : Int) (e9 : v9 = S.1 67 v8) (b9 : -2147483648 ≤ v9 ∧ v9 ≤ 2147483647) (c6 : v9 ≠ (-1)) (v10 : Int) (e10 : v10 = fx_mul 10 x1) (v11 : Int) (e11 : v11 = fx_add 300 v10) (v12 : Int) (e12 : v12 = fx_add v11 3) (c7 : 0 ≤ v12) (c8 : v12 < 8090) (v13 : Int) (e13 : v13 = S.1 67 v12) (b13 : -2147483648 ≤ v13 ∧ v13 ≤ 2147483647) (c9 : x2 < v13) : s156 S x1 x2 1 S := by
  refine ⟨rfl, ?_⟩
  intro h0_ h1_
  have h2 := e2
  first | rw [fx_mul_eq (by omega) (by omega)] at h2 | skip
  have h3 := e3
  first | rw [fx_add_eq (by omega) (by omega)] at h3 | skip
  have h4 := e4
  first | rw [fx_add_eq (by omega) (by omega)] at h4 | skip
  obtain rfl : v2 = v6 := by rw [e6, e2]
  obtain rfl : v3 = v7 := by rw [e7, e3]
  have h8 := e8
  first | rw [fx_add_eq (by omega) (by omega)] at h8 | skip
  obtain rfl : v2 = v10 := by rw [e10, e2]
  obtain rfl : v3 = v11 := by rw [e11, e3]
  obtain rfl : v8 = v12 := by rw [e12, e8]
  obtain rfl : v9 = v13 := by rw [e13, e9]
  rw [show 302 + 10 * x1 = v4 by omega, show 303 + 10 * x1 = v8 by omega, ← e5, ← e9, if_pos (by omega)]
theorem q157_0 (S : fx_S) (x1 : Int) (hS : fx_Sok S) (g1 : -2147483648 ≤ x1 ∧ x1 ≤ 2147483647) (v1 : Int) (S1 : fx_S) (k1 : fx_Sok S1) (b1 : v1 = 0) (p1 : s248 S x1 v1 S1) (z : Int) (Z : fx_S) (kz : fx_Sok Z) (bz : z = 0) (pz : s249 S1 x1 0 z Z) : s157 S x1 z Z := by
  obtain ⟨r1, f1⟩ := p1
  obtain ⟨rZ, fZ⟩ := pz
  refine ⟨(rZ).trans (r1), ?_⟩
  · intro p i hW
    clear b1
    exact ((fZ p i (by omega))).trans ((f1 p i (by omega)))
theorem q158_0 (S : fx_S) (x1 : Int) (hS : fx_Sok S) (g1 : -2147483648 ≤ x1 ∧ x1 ≤ 2147483647) (c1 : 0 ≤ x1) (c2 : x1 < 20) (v1 : Int) (e1 : v1 = S.1 32 x1) (b1 : -2147483648 ≤ v1 ∧ v1 ≤ 2147483647) (v2 : Int) (S1 : fx_S) (k1 : fx_Sok S1) (b2 : -2147483648 ≤ v2 ∧ v2 ≤ 2147483647) (p1 : s170 S v1 v2 S1) (v3 : Int) (S2 : fx_S) (k2 : fx_Sok S2) (b3 : -2147483648 ≤ v3 ∧ v3 ≤ 2147483647) (p2 : s160 S1 v1 v3 S2) (c3 : v2 = 0) (v4 : Int) (S3 : fx_S) (k3 : fx_Sok S3) (b4 : -2147483648 ≤ v4 ∧ v4 ≤ 2147483647) (p3 : s161 S2 x1 v3 v4 S3) : s158 S x1 v4 S3 := by
  obtain rfl : S = S1 := p1
  obtain rfl : S = S2 := p2
  obtain rfl : S = S3 := p3
  exact rfl
theorem q158_1 (S : fx_S) (x1 : Int) (hS : fx_Sok S) (g1 : -2147483648 ≤ x1 ∧ x1 ≤ 2147483647) (c1 : 0 ≤ x1) (c2 : x1 < 20) (v1 : Int) (e1 : v1 = S.1 32 x1) (b1 : -2147483648 ≤ v1 ∧ v1 ≤ 2147483647) (v2 : Int) (S1 : fx_S) (k1 : fx_Sok S1) (b2 : -2147483648 ≤ v2 ∧ v2 ≤ 2147483647) (p1 : s170 S v1 v2 S1) (v3 : Int) (S2 : fx_S) (k2 : fx_Sok S2) (b3 : -2147483648 ≤ v3 ∧ v3 ≤ 2147483647) (p2 : s160 S1 v1 v3 S2) (c3 : v2 ≠ 0) (v4 : Int) (S3 : fx_S) (k3 : fx_Sok S3) (b4 : -2147483648 ≤ v4 ∧ v4 ≤ 2147483647) (p3 : s171 S2 x1 v4 S3) : s158 S x1 v4 S3 := by
  obtain rfl : S = S1 := p1
  obtain rfl : S = S2 := p2
  obtain rfl : S = S3 := p3
  exact rfl
theorem q159_0 (S : fx_S) (x1 x2 x3 : Int) (hS : fx_Sok S) (g1 : -2147483648 ≤ x1 ∧ x1 ≤ 2147483647) (g2 : -2147483648 ≤ x2 ∧ x2 ≤ 2147483647) (g3 : -2147483648 ≤ x3 ∧ x3 ≤ 2147483647) (v3 : Int) (e3 : v3 = S.1 67 2) (b3 : -2147483648 ≤ v3 ∧ v3 ≤ 2147483647) (c1 : v3 ≤ x3) (v4 : Int) (e4 : v4 = S.1 67 0) (b4 : -2147483648 ≤ v4 ∧ v4 ≤ 2147483647) (v5 : Int) (e5 : v5 = S.1 67 0) (b5 : -2147483648 ≤ v5 ∧ v5 ≤ 2147483647) (v6 : Int) (S1 : fx_S) (k1 : fx_Sok S1) (b6 : -2147483648 ≤ v6 ∧ v6 ≤ 2147483647) (p1 : s124 S v4 v5 v6 S1) (v7 : Int) (e7 : v7 = fx_add x2 1) (c2 : 0 ≤ v7) (c3 : v7 < 8090) (S2 : fx_S) (d2 : S2 = (fx_up S1.1 67 v7 0, S1.2)) (v8 : Int) (e8 : v8 = fx_add x2 2) (v9 : Int) (e9 : v9 = S2.1 67 0) (b9 : -2147483648 ≤ v9 ∧ v9 ≤ 2147483647) (c4 : 0 ≤ v8) (c5 : v8 < 8090) (S3 : fx_S) (d3 : S3 = (fx_up S2.1 67 v8 v9, S2.2)) (v10 : Int) (e10 : v10 = fx_add x2 4) (c6 : 0 ≤ v10) (c7 : v10 < 8090) (S4 : fx_S) (d4 : S4 = (fx_up S3.1 67 v10 v6, S3.2)) (v11 : Int) (S5 : fx_S) (k5 : fx_Sok S5) (b11 : v11 = 0) (p5 : s165 S4 x1 (-1) v11 S5) (v12 : Int) (e12 : v12 = fx_add x2 3) (v13 : Int) (S6 : fx_S) (k6 : fx_Sok S6) (b13 : -2147483648 ≤ v13 ∧ v13 ≤ 2147483647) (p6 : s172 S5 x1 v6 v13 S6) (c8 : v13 = 0) (c9 : 0 ≤ v12) (c10 : v12 < 8090) (S7 : fx_S) (d7 : S7 = (fx_up S6.1 67 v12 0, S6.2)) (v14 : Int) (e14 : v14 = fx_add x2 3) (c11 : 0 ≤ v14) (c12 : v14 < 8090) (v15 : Int) (e15 : v15 = S7.1 67 v14) (b15 : -2147483648 ≤ v15 ∧ v15 ≤ 2147483647) : s159 S x1 x2 x3 v15 S7 := by
  obtain ⟨rfl, p1⟩ := p1
  obtain ⟨r5, f5⟩ := p5
  obtain rfl : S5 = S6 := p6
  unfold s159
  intro hB hP
  have BS := hB
  have NS := fx_WB_n BS
  obtain rfl : v4 = v5 := by rw [e5, e4]
  have h7 := e7
  first | rw [fx_add_eq (by omega) (by omega)] at h7 | skip
  have BS2 : fx_WB S2 := by rw [d2]; exact fx_WB_up BS (by omega) (by omega) (by omega) (by omega) (by omega) (by omega) (by omega) (by omega) (by omega) (by omega) (by omega) (fun h => absurd h (by omega))
  have h8 := e8
  first | rw [fx_add_eq (by omega) (by omega)] at h8 | skip
  have t9_2 : S2.1 67 0 = S.1 67 0 := by rw [d2]; first | exact if_neg (by omega) | rfl
  rw [t9_2] at e9
  obtain rfl : v4 = v9 := by rw [e9, e4]
  have BS3 : fx_WB S3 := by rw [d3]; exact fx_WB_up BS2 (by omega) (by omega) (by omega) (by omega) (by omega) (by omega) (by omega) (by omega) (by omega) (by omega) (by omega) (fun h => absurd h (by omega))
  have h10 := e10
  first | rw [fx_add_eq (by omega) (by omega)] at h10 | skip
  have BS4 : fx_WB S4 := by rw [d4]; exact fx_WB_up BS3 (by omega) (by omega) (by omega) (by omega) (by omega) (by omega) (by omega) (by omega) (by omega) (by omega) (by omega) (fun h => absurd h (by omega))
  have BS5 : fx_WB S5 := fx_WB_eq BS4 (fun q => f5 67 q (by omega)) (fun q => f5 68 q (by omega)) (fun q => f5 69 q (by omega))
  have NS5 := fx_WB_n BS5
  have h12 := e12
  first | rw [fx_add_eq (by omega) (by omega)] at h12 | skip
  have BS7 : fx_WB S7 := by rw [d7]; exact fx_WB_up BS5 (by omega) (by omega) (by omega) (by omega) (by omega) (by omega) (by omega) (by omega) (by omega) (by omega) (by omega) (fun h => absurd h (by omega))
  obtain rfl : v12 = v14 := by rw [e14, e12]
  have t15_7 : S7.1 67 v12 = 0 := by rw [d7]; first | exact if_pos ⟨rfl, by omega⟩ | rfl
  rw [t15_7] at e15
  refine ⟨((show S7.2 = S5.2 by rw [d7])).trans ((r5).trans (((show S4.2 = S3.2 by rw [d4])).trans (((show S3.2 = S2.2 by rw [d3])).trans ((show S2.2 = S.2 by rw [d2]))))), ?_, BS7⟩
  · intro p i hW
    exact ((show S7.1 p i = S5.1 p i by rw [d7]; exact if_neg (by omega))).trans (((f5 p i (by omega))).trans (((show S4.1 p i = S3.1 p i by rw [d4]; exact if_neg (by omega))).trans (((show S3.1 p i = S2.1 p i by rw [d3]; exact if_neg (by omega))).trans ((show S2.1 p i = S.1 p i by rw [d2]; exact if_neg (by omega))))))
theorem q159_1 (S : fx_S) (x1 x2 x3 : Int) (hS : fx_Sok S) (g1 : -2147483648 ≤ x1 ∧ x1 ≤ 2147483647) (g2 : -2147483648 ≤ x2 ∧ x2 ≤ 2147483647) (g3 : -2147483648 ≤ x3 ∧ x3 ≤ 2147483647) (v3 : Int) (e3 : v3 = S.1 67 2) (b3 : -2147483648 ≤ v3 ∧ v3 ≤ 2147483647) (c1 : v3 ≤ x3) (v4 : Int) (e4 : v4 = S.1 67 0) (b4 : -2147483648 ≤ v4 ∧ v4 ≤ 2147483647) (v5 : Int) (e5 : v5 = S.1 67 0) (b5 : -2147483648 ≤ v5 ∧ v5 ≤ 2147483647) (v6 : Int) (S1 : fx_S) (k1 : fx_Sok S1) (b6 : -2147483648 ≤ v6 ∧ v6 ≤ 2147483647) (p1 : s124 S v4 v5 v6 S1) (v7 : Int) (e7 : v7 = fx_add x2 1) (c2 : 0 ≤ v7) (c3 : v7 < 8090) (S2 : fx_S) (d2 : S2 = (fx_up S1.1 67 v7 0, S1.2)) (v8 : Int) (e8 : v8 = fx_add x2 2) (v9 : Int) (e9 : v9 = S2.1 67 0) (b9 : -2147483648 ≤ v9 ∧ v9 ≤ 2147483647) (c4 : 0 ≤ v8) (c5 : v8 < 8090) (S3 : fx_S) (d3 : S3 = (fx_up S2.1 67 v8 v9, S2.2)) (v10 : Int) (e10 : v10 = fx_add x2 4) (c6 : 0 ≤ v10) (c7 : v10 < 8090) (S4 : fx_S) (d4 : S4 = (fx_up S3.1 67 v10 v6, S3.2)) (v11 : Int) (S5 : fx_S) (k5 : fx_Sok S5) (b11 : v11 = 0) (p5 : s165 S4 x1 (-1) v11 S5) (v12 : Int) (e12 : v12 = fx_add x2 3) (v13 : Int) (S6 : fx_S) (k6 : fx_Sok S6) (b13 : -2147483648 ≤ v13 ∧ v13 ≤ 2147483647) (p6 : s172 S5 x1 v6 v13 S6) (c8 : v13 ≠ 0) (c9 : 0 ≤ v12) (c10 : v12 < 8090) (S7 : fx_S) (d7 : S7 = (fx_up S6.1 67 v12 1, S6.2)) (v14 : Int) (e14 : v14 = fx_add x2 3) (c11 : 0 ≤ v14) (c12 : v14 < 8090) (v15 : Int) (e15 : v15 = S7.1 67 v14) (b15 : -2147483648 ≤ v15 ∧ v15 ≤ 2147483647) : s159 S x1 x2 x3 v15 S7 := by
  obtain ⟨rfl, p1⟩ := p1
  obtain ⟨r5, f5⟩ := p5
  obtain rfl : S5 = S6 := p6
  unfold s159
  intro hB hP
  have BS := hB
  have NS := fx_WB_n BS
  obtain rfl : v4 = v5 := by rw [e5, e4]
  have h7 := e7
  first | rw [fx_add_eq (by omega) (by omega)] at h7 | skip
  have BS2 : fx_WB S2 := by rw [d2]; exact fx_WB_up BS (by omega) (by omega) (by omega) (by omega) (by omega) (by omega) (by omega) (by omega) (by omega) (by omega) (by omega) (fun h => absurd h (by omega))
  have h8 := e8
  first | rw [fx_add_eq (by omega) (by omega)] at h8 | skip
  have t9_2 : S2.1 67 0 = S.1 67 0 := by rw [d2]; first | exact if_neg (by omega) | rfl
  rw [t9_2] at e9
  obtain rfl : v4 = v9 := by rw [e9, e4]
  have BS3 : fx_WB S3 := by rw [d3]; exact fx_WB_up BS2 (by omega) (by omega) (by omega) (by omega) (by omega) (by omega) (by omega) (by omega) (by omega) (by omega) (by omega) (fun h => absurd h (by omega))
  have h10 := e10
  first | rw [fx_add_eq (by omega) (by omega)] at h10 | skip
  have BS4 : fx_WB S4 := by rw [d4]; exact fx_WB_up BS3 (by omega) (by omega) (by omega) (by omega) (by omega) (by omega) (by omega) (by omega) (by omega) (by omega) (by omega) (fun h => absurd h (by omega))
  have BS5 : fx_WB S5 := fx_WB_eq BS4 (fun q => f5 67 q (by omega)) (fun q => f5 68 q (by omega)) (fun q => f5 69 q (by omega))
  have NS5 := fx_WB_n BS5
  have h12 := e12
  first | rw [fx_add_eq (by omega) (by omega)] at h12 | skip
  have BS7 : fx_WB S7 := by rw [d7]; exact fx_WB_up BS5 (by omega) (by omega) (by omega) (by omega) (by omega) (by omega) (by omega) (by omega) (by omega) (by omega) (by omega) (fun h => absurd h (by omega))
  obtain rfl : v12 = v14 := by rw [e14, e12]
  have t15_7 : S7.1 67 v12 = 1 := by rw [d7]; first | exact if_pos ⟨rfl, by omega⟩ | rfl
  rw [t15_7] at e15
  refine ⟨((show S7.2 = S5.2 by rw [d7])).trans ((r5).trans (((show S4.2 = S3.2 by rw [d4])).trans (((show S3.2 = S2.2 by rw [d3])).trans ((show S2.2 = S.2 by rw [d2]))))), ?_, BS7⟩
  · intro p i hW
    exact ((show S7.1 p i = S5.1 p i by rw [d7]; exact if_neg (by omega))).trans (((f5 p i (by omega))).trans (((show S4.1 p i = S3.1 p i by rw [d4]; exact if_neg (by omega))).trans (((show S3.1 p i = S2.1 p i by rw [d3]; exact if_neg (by omega))).trans ((show S2.1 p i = S.1 p i by rw [d2]; exact if_neg (by omega))))))
theorem q159_2 (S : fx_S) (x1 x2 x3 : Int) (hS : fx_Sok S) (g1 : -2147483648 ≤ x1 ∧ x1 ≤ 2147483647) (g2 : -2147483648 ≤ x2 ∧ x2 ≤ 2147483647) (g3 : -2147483648 ≤ x3 ∧ x3 ≤ 2147483647) (v3 : Int) (e3 : v3 = S.1 67 2) (b3 : -2147483648 ≤ v3 ∧ v3 ≤ 2147483647) (c1 : x3 < v3) (v4 : Int) (e4 : v4 = S.1 67 0) (b4 : -2147483648 ≤ v4 ∧ v4 ≤ 2147483647) (v5 : Int) (S1 : fx_S) (k1 : fx_Sok S1) (b5 : -2147483648 ≤ v5 ∧ v5 ≤ 2147483647) (p1 : s156 S x3 v4 v5 S1) (c2 : v5 ≠ 0) (v6 : Int) (e6 : v6 = fx_add x2 86) (v7 : Int) (e7 : v7 = fx_add v6 x3) (v8 : Int) (e8 : v8 = S1.1 67 0) (b8 : -2147483648 ≤ v8 ∧ v8 ≤ 2147483647) (v9 : Int) (S2 : fx_S) (k2 : fx_Sok S2) (b9 : -2147483648 ≤ v9 ∧ v9 ≤ 2147483647) (p2 : s138 S1 x3 v8 v9 S2) (c3 : 0 ≤ v7) (c4 : v7 < 8090) (S3 : fx_S) (d3 : S3 = (fx_up S2.1 67 v7 v9, S2.2)) (v10 : Int) (e10 : v10 = fx_add x3 1) (z : Int) (Z : fx_S) (kz : fx_Sok Z) (bz : -2147483648 ≤ z ∧ z ≤ 2147483647) (pz : s159 S3 x1 x2 v10 z Z) : s159 S x1 x2 x3 z Z := by
  obtain ⟨rfl, p1⟩ := p1
  obtain ⟨r2, f2, p2⟩ := p2
  unfold s159 at pz
  unfold s159
  intro hB hP
  have BS := hB
  have NS := fx_WB_n BS
  have h6 := e6
  first | rw [fx_add_eq (by omega) (by omega)] at h6 | skip
  have h7 := e7
  first | rw [fx_add_eq (by omega) (by omega)] at h7 | skip
  obtain rfl : v4 = v8 := by rw [e8, e4]
  have BS2 : fx_WB S2 := fx_WB_eq BS (fun q => f2 67 q (by omega)) (fun q => f2 68 q (by omega)) (fun q => f2 69 q (by omega))
  have NS2 := fx_WB_n BS2
  have BS3 : fx_WB S3 := by rw [d3]; exact fx_WB_up BS2 (by omega) (by omega) (by omega) (by omega) (by omega) (by omega) (by omega) (by omega) (by omega) (by omega) (by omega) (fun h => absurd h (by omega))
  have h10 := e10
  first | rw [fx_add_eq (by omega) (by omega)] at h10 | skip
  obtain ⟨rZ, fZ, BZ⟩ := pz BS3 (by omega)
  refine ⟨(rZ).trans (((show S3.2 = S2.2 by rw [d3])).trans (r2)), ?_, BZ⟩
  · intro p i hW
    exact ((fZ p i (by omega))).trans (((show S3.1 p i = S2.1 p i by rw [d3]; exact if_neg (by omega))).trans ((f2 p i (by omega))))
theorem q159_3 (S : fx_S) (x1 x2 x3 : Int) (hS : fx_Sok S) (g1 : -2147483648 ≤ x1 ∧ x1 ≤ 2147483647) (g2 : -2147483648 ≤ x2 ∧ x2 ≤ 2147483647) (g3 : -2147483648 ≤ x3 ∧ x3 ≤ 2147483647) (v3 : Int) (e3 : v3 = S.1 67 2) (b3 : -2147483648 ≤ v3 ∧ v3 ≤ 2147483647) (c1 : x3 < v3) (v4 : Int) (e4 : v4 = S.1 67 0) (b4 : -2147483648 ≤ v4 ∧ v4 ≤ 2147483647) (v5 : Int) (S1 : fx_S) (k1 : fx_Sok S1) (b5 : -2147483648 ≤ v5 ∧ v5 ≤ 2147483647) (p1 : s156 S x3 v4 v5 S1) (c2 : v5 = 0) (v6 : Int) (e6 : v6 = fx_add x2 6) (v7 : Int) (e7 : v7 = fx_add v6 x3) (c3 : 0 ≤ v7) (c4 : v7 < 8090) (S2 : fx_S) (d2 : S2 = (fx_up S1.1 67 v7 0, S1.2)) (v8 : Int) (e8 : v8 = fx_add x2 86) (v9 : Int) (e9 : v9 = fx_add v8 x3) (v10 : Int) (e10 : v10 = S2.1 67 0) (b10 : -2147483648 ≤ v10 ∧ v10 ≤ 2147483647) (v11 : Int) (S3 : fx_S) (k3 : fx_Sok S3) (b11 : -2147483648 ≤ v11 ∧ v11 ≤ 2147483647) (p3 : s138 S2 x3 v10 v11 S3) (c5 : 0 ≤ v9) (c6 : v9 < 8090) (S4 : fx_S) (d4 : S4 = (fx_up S3.1 67 v9 v11, S3.2)) (v12 : Int) (e12 : v12 = fx_add x3 1) (z : Int) (Z : fx_S) (kz : fx_Sok Z) (bz : -2147483648 ≤ z ∧ z ≤ 2147483647) (pz : s159 S4 x1 x2 v12 z Z) : s159 S x1 x2 x3 z Z := by
  obtain ⟨rfl, p1⟩ := p1
  obtain ⟨r3, f3, p3⟩ := p3
  unfold s159 at pz
  unfold s159
  intro hB hP
  have BS := hB
  have NS := fx_WB_n BS
  have h6 := e6
  first | rw [fx_add_eq (by omega) (by omega)] at h6 | skip
  have h7 := e7
  first | rw [fx_add_eq (by omega) (by omega)] at h7 | skip
  have BS2 : fx_WB S2 := by rw [d2]; exact fx_WB_up BS (by omega) (by omega) (by omega) (by omega) (by omega) (by omega) (by omega) (by omega) (by omega) (by omega) (by omega) (fun h => absurd h (by omega))
  have h8 := e8
  first | rw [fx_add_eq (by omega) (by omega)] at h8 | skip
  have h9 := e9
  first | rw [fx_add_eq (by omega) (by omega)] at h9 | skip
  have t10_2 : S2.1 67 0 = S.1 67 0 := by rw [d2]; first | exact if_neg (by omega) | rfl
  rw [t10_2] at e10
  obtain rfl : v4 = v10 := by rw [e10, e4]
  have BS3 : fx_WB S3 := fx_WB_eq BS2 (fun q => f3 67 q (by omega)) (fun q => f3 68 q (by omega)) (fun q => f3 69 q (by omega))
  have NS3 := fx_WB_n BS3
  have BS4 : fx_WB S4 := by rw [d4]; exact fx_WB_up BS3 (by omega) (by omega) (by omega) (by omega) (by omega) (by omega) (by omega) (by omega) (by omega) (by omega) (by omega) (fun h => absurd h (by omega))
  have h12 := e12
  first | rw [fx_add_eq (by omega) (by omega)] at h12 | skip
  obtain ⟨rZ, fZ, BZ⟩ := pz BS4 (by omega)
  refine ⟨(rZ).trans (((show S4.2 = S3.2 by rw [d4])).trans ((r3).trans ((show S2.2 = S.2 by rw [d2])))), ?_, BZ⟩
  · intro p i hW
    exact ((fZ p i (by omega))).trans (((show S4.1 p i = S3.1 p i by rw [d4]; exact if_neg (by omega))).trans (((f3 p i (by omega))).trans ((show S2.1 p i = S.1 p i by rw [d2]; exact if_neg (by omega)))))
theorem q160_0 (S : fx_S) (x1 : Int) (hS : fx_Sok S) (g1 : -2147483648 ≤ x1 ∧ x1 ≤ 2147483647) (c1 : x1 < 0) : s160 S x1 50 S := by
  exact rfl
theorem q160_1 (S : fx_S) (x1 : Int) (hS : fx_Sok S) (g1 : -2147483648 ≤ x1 ∧ x1 ≤ 2147483647) (c1 : 0 ≤ x1) (v1 : Int) (e1 : v1 = S.1 2 8) (b1 : -2147483648 ≤ v1 ∧ v1 ≤ 2147483647) (c2 : v1 ≤ x1) : s160 S x1 50 S := by
  exact rfl
theorem q160_2 (S : fx_S) (x1 : Int) (hS : fx_Sok S) (g1 : -2147483648 ≤ x1 ∧ x1 ≤ 2147483647) (c1 : 0 ≤ x1) (v1 : Int) (e1 : v1 = S.1 2 8) (b1 : -2147483648 ≤ v1 ∧ v1 ≤ 2147483647) (c2 : x1 < v1) (c3 : 0 ≤ x1) (c4 : x1 < 10) (v2 : Int) (e2 : v2 = S.2.1 9 x1) (c5 : v2 = (-1)) : s160 S x1 50 S := by
  exact rfl
theorem q160_3 (S : fx_S) (x1 : Int) (hS : fx_Sok S) (g1 : -2147483648 ≤ x1 ∧ x1 ≤ 2147483647) (c1 : 0 ≤ x1) (v1 : Int) (e1 : v1 = S.1 2 8) (b1 : -2147483648 ≤ v1 ∧ v1 ≤ 2147483647) (c2 : x1 < v1) (c3 : 0 ≤ x1) (c4 : x1 < 10) (v2 : Int) (e2 : v2 = S.2.1 9 x1) (c5 : v2 ≠ (-1)) (c6 : v2 ≠ (-1)) (v3 : Int) (e3 : v3 = S.1 v2 2) (b3 : -2147483648 ≤ v3 ∧ v3 ≤ 2147483647) : s160 S x1 v3 S := by
  exact rfl
theorem q161_0 (S : fx_S) (x1 x2 : Int) (hS : fx_Sok S) (g1 : -2147483648 ≤ x1 ∧ x1 ≤ 2147483647) (g2 : -2147483648 ≤ x2 ∧ x2 ≤ 2147483647) (v2 : Int) (S1 : fx_S) (k1 : fx_Sok S1) (b2 : -2147483648 ≤ v2 ∧ v2 ≤ 2147483647) (p1 : s163 S x1 v2 S1) (v3 : Int) (S2 : fx_S) (k2 : fx_Sok S2) (b3 : -2147483648 ≤ v3 ∧ v3 ≤ 2147483647) (p2 : s164 S1 x1 v3 S2) (v4 : Int) (e4 : v4 = fx_add v2 v3) (v5 : Int) (S3 : fx_S) (k3 : fx_Sok S3) (b5 : -2147483648 ≤ v5 ∧ v5 ≤ 2147483647) (p3 : s250 S2 v2 x2 v4 v5 S3) : s161 S x1 x2 v5 S3 := by
  obtain rfl : S = S1 := p1
  obtain rfl : S = S2 := p2
  obtain rfl : S = S3 := p3
  exact rfl
theorem q162_0 (S : fx_S) (x1 x2 : Int) (hS : fx_Sok S) (g1 : -2147483648 ≤ x1 ∧ x1 ≤ 2147483647) (g2 : -2147483648 ≤ x2 ∧ x2 ≤ 2147483647) (z : Int) (Z : fx_S) (kz : fx_Sok Z) (bz : -2147483648 ≤ z ∧ z ≤ 2147483647) (pz : s251 S x1 x2 0 0 z Z) : s162 S x1 x2 z Z := by
  obtain rfl : S = Z := pz
  exact rfl
theorem q163_0 (S : fx_S) (x1 : Int) (hS : fx_Sok S) (g1 : -2147483648 ≤ x1 ∧ x1 ≤ 2147483647) (z : Int) (Z : fx_S) (kz : fx_Sok Z) (bz : -2147483648 ≤ z ∧ z ≤ 2147483647) (pz : s252 S x1 0 0 z Z) : s163 S x1 z Z := by
  obtain rfl : S = Z := pz
  exact rfl
theorem q164_0 (S : fx_S) (x1 : Int) (hS : fx_Sok S) (g1 : -2147483648 ≤ x1 ∧ x1 ≤ 2147483647) (z : Int) (Z : fx_S) (kz : fx_Sok Z) (bz : -2147483648 ≤ z ∧ z ≤ 2147483647) (pz : s253 S x1 0 0 z Z) : s164 S x1 z Z := by
  obtain rfl : S = Z := pz
  exact rfl
theorem q165_0 (S : fx_S) (x1 x2 : Int) (hS : fx_Sok S) (g1 : -2147483648 ≤ x1 ∧ x1 ≤ 2147483647) (g2 : -2147483648 ≤ x2 ∧ x2 ≤ 2147483647) (z : Int) (Z : fx_S) (kz : fx_Sok Z) (bz : z = 0) (pz : s254 S x1 x2 0 z Z) : s165 S x1 x2 z Z := by
  obtain ⟨rZ, fZ⟩ := pz
  refine ⟨rZ, ?_⟩
  · intro p i hW
    exact (fZ p i (by omega))
theorem q166_0 (S : fx_S) (x1 x2 : Int) (hS : fx_Sok S) (g1 : -2147483648 ≤ x1 ∧ x1 ≤ 2147483647) (g2 : -2147483648 ≤ x2 ∧ x2 ≤ 2147483647) (z : Int) (Z : fx_S) (kz : fx_Sok Z) (bz : -2147483648 ≤ z ∧ z ≤ 2147483647) (pz : s255 S x1 x2 0 0 z Z) : s166 S x1 x2 z Z := by
  obtain rfl : S = Z := pz
  exact rfl
theorem q167_0 (S : fx_S) (x1 x2 x3 : Int) (hS : fx_Sok S) (g1 : -2147483648 ≤ x1 ∧ x1 ≤ 2147483647) (g2 : -2147483648 ≤ x2 ∧ x2 ≤ 2147483647) (g3 : -2147483648 ≤ x3 ∧ x3 ≤ 2147483647) (v3 : Int) (e3 : v3 = fx_add x1 x2) (c1 : v3 ≤ 0) : s167 S x1 x2 x3 0 S := by
  exact rfl
theorem q167_1 (S : fx_S) (x1 x2 x3 : Int) (hS : fx_Sok S) (g1 : -2147483648 ≤ x1 ∧ x1 ≤ 2147483647) (g2 : -2147483648 ≤ x2 ∧ x2 ≤ 2147483647) (g3 : -2147483648 ≤ x3 ∧ x3 ≤ 2147483647) (v3 : Int) (e3 : v3 = fx_add x1 x2) (c1 : 0 < v3) (v4 : Int) (e4 : v4 = fx_mul 100 x1) (v5 : Int) (S1 : fx_S) (k1 : fx_Sok S1) (b5 : -2147483648 ≤ v5 ∧ v5 ≤ 2147483647) (p1 : s175 S x3 3 0 50 v5 S1) (v6 : Int) (e6 : v6 = fx_add x1 x2) (v7 : Int) (e7 : v7 = fx_mul v5 v6) (c2 : v4 ≤ v7) : s167 S x1 x2 x3 0 S1 := by
  obtain rfl : S = S1 := p1
  exact rfl
theorem q167_2 (S : fx_S) (x1 x2 x3 : Int) (hS : fx_Sok S) (g1 : -2147483648 ≤ x1 ∧ x1 ≤ 2147483647) (g2 : -2147483648 ≤ x2 ∧ x2 ≤ 2147483647) (g3 : -2147483648 ≤ x3 ∧ x3 ≤ 2147483647) (v3 : Int) (e3 : v3 = fx_add x1 x2) (c1 : 0 < v3) (v4 : Int) (e4 : v4 = fx_mul 100 x1) (v5 : Int) (S1 : fx_S) (k1 : fx_Sok S1) (b5 : -2147483648 ≤ v5 ∧ v5 ≤ 2147483647) (p1 : s175 S x3 3 0 50 v5 S1) (v6 : Int) (e6 : v6 = fx_add x1 x2) (v7 : Int) (e7 : v7 = fx_mul v5 v6) (c2 : v7 < v4) : s167 S x1 x2 x3 1 S1 := by
  obtain rfl : S = S1 := p1
  exact rfl
theorem q168_0 (S : fx_S) (x1 : Int) (hS : fx_Sok S) (g1 : -2147483648 ≤ x1 ∧ x1 ≤ 2147483647) (z : Int) (Z : fx_S) (kz : fx_Sok Z) (bz : -2147483648 ≤ z ∧ z ≤ 2147483647) (pz : s256 S x1 0 0 z Z) : s168 S x1 z Z := by
  obtain rfl : S = Z := pz
  exact rfl
theorem q169_0 (S : fx_S) (x1 x2 : Int) (hS : fx_Sok S) (g1 : -2147483648 ≤ x1 ∧ x1 ≤ 2147483647) (g2 : -2147483648 ≤ x2 ∧ x2 ≤ 2147483647) (c1 : 0 ≤ x1) (c2 : x1 < 20) (v2 : Int) (e2 : v2 = S.1 31 x1) (b2 : -2147483648 ≤ v2 ∧ v2 ≤ 2147483647) (v3 : Int) (S1 : fx_S) (k1 : fx_Sok S1) (b3 : v3 = 0) (p1 : s248 S 20 v3 S1) (z : Int) (Z : fx_S) (kz : fx_Sok Z) (bz : z = 0) (pz : s257 S1 x1 x2 v2 0 z Z) : s169 S x1 x2 z Z := by
  obtain ⟨r1, f1⟩ := p1
  obtain ⟨rZ, fZ⟩ := pz
  refine ⟨(rZ).trans (r1), ?_⟩
  · intro p i hW
    clear b3 b2 e2 c2 c1
    exact ((fZ p i (by omega))).trans ((f1 p i (by omega)))
theorem q170_0 (S : fx_S) (x1 : Int) (hS : fx_Sok S) (g1 : -2147483648 ≤ x1 ∧ x1 ≤ 2147483647) (c1 : x1 < 0) : s170 S x1 0 S := by
  exact rfl
theorem q170_1 (S : fx_S) (x1 : Int) (hS : fx_Sok S) (g1 : -2147483648 ≤ x1 ∧ x1 ≤ 2147483647) (c1 : 0 ≤ x1) (v1 : Int) (e1 : v1 = S.1 2 8) (b1 : -2147483648 ≤ v1 ∧ v1 ≤ 2147483647) (c2 : v1 ≤ x1) : s170 S x1 0 S := by
  exact rfl
theorem q170_2 (S : fx_S) (x1 : Int) (hS : fx_Sok S) (g1 : -2147483648 ≤ x1 ∧ x1 ≤ 2147483647) (c1 : 0 ≤ x1) (v1 : Int) (e1 : v1 = S.1 2 8) (b1 : -2147483648 ≤ v1 ∧ v1 ≤ 2147483647) (c2 : x1 < v1) (c3 : 0 ≤ x1) (c4 : x1 < 10) (v2 : Int) (e2 : v2 = S.2.1 9 x1) (c5 : v2 = (-1)) : s170 S x1 0 S := by
  exact rfl
theorem q170_3 (S : fx_S) (x1 : Int) (hS : fx_Sok S) (g1 : -2147483648 ≤ x1 ∧ x1 ≤ 2147483647) (c1 : 0 ≤ x1) (v1 : Int) (e1 : v1 = S.1 2 8) (b1 : -2147483648 ≤ v1 ∧ v1 ≤ 2147483647) (c2 : x1 < v1) (c3 : 0 ≤ x1) (c4 : x1 < 10) (v2 : Int) (e2 : v2 = S.2.1 9 x1) (c5 : v2 ≠ (-1)) (c6 : v2 ≠ (-1)) (v3 : Int) (e3 : v3 = S.1 v2 1) (b3 : -2147483648 ≤ v3 ∧ v3 ≤ 2147483647) (c7 : v3 = 0) : s170 S x1 0 S := by
  exact rfl
theorem q170_4 (S : fx_S) (x1 : Int) (hS : fx_Sok S) (g1 : -2147483648 ≤ x1 ∧ x1 ≤ 2147483647) (c1 : 0 ≤ x1) (v1 : Int) (e1 : v1 = S.1 2 8) (b1 : -2147483648 ≤ v1 ∧ v1 ≤ 2147483647) (c2 : x1 < v1) (c3 : 0 ≤ x1) (c4 : x1 < 10) (v2 : Int) (e2 : v2 = S.2.1 9 x1) (c5 : v2 ≠ (-1)) (c6 : v2 ≠ (-1)) (v3 : Int) (e3 : v3 = S.1 v2 1) (b3 : -2147483648 ≤ v3 ∧ v3 ≤ 2147483647) (c7 : v3 ≠ 0) : s170 S x1 1 S := by
  exact rfl
theorem q171_0 (S : fx_S) (x1 : Int) (hS : fx_Sok S) (g1 : -2147483648 ≤ x1 ∧ x1 ≤ 2147483647) (v1 : Int) (S1 : fx_S) (k1 : fx_Sok S1) (b1 : -2147483648 ≤ v1 ∧ v1 ≤ 2147483647) (p1 : s162 S x1 1 v1 S1) (v2 : Int) (S2 : fx_S) (k2 : fx_Sok S2) (b2 : -2147483648 ≤ v2 ∧ v2 ≤ 2147483647) (p2 : s258 S1 v1 v2 S2) (v3 : Int) (S3 : fx_S) (k3 : fx_Sok S3) (b3 : -2147483648 ≤ v3 ∧ v3 ≤ 2147483647) (p3 : s162 S2 x1 (-1) v3 S3) (v4 : Int) (S4 : fx_S) (k4 : fx_Sok S4) (b4 : -2147483648 ≤ v4 ∧ v4 ≤ 2147483647) (p4 : s258 S3 v3 v4 S4) (c1 : v2 ≤ v4) : s171 S x1 0 S4 := by
  obtain rfl : S = S1 := p1
  obtain rfl : S = S2 := p2
  obtain rfl : S = S3 := p3
  obtain rfl : S = S4 := p4
  exact rfl
theorem q171_1 (S : fx_S) (x1 : Int) (hS : fx_Sok S) (g1 : -2147483648 ≤ x1 ∧ x1 ≤ 2147483647) (v1 : Int) (S1 : fx_S) (k1 : fx_Sok S1) (b1 : -2147483648 ≤ v1 ∧ v1 ≤ 2147483647) (p1 : s162 S x1 1 v1 S1) (v2 : Int) (S2 : fx_S) (k2 : fx_Sok S2) (b2 : -2147483648 ≤ v2 ∧ v2 ≤ 2147483647) (p2 : s258 S1 v1 v2 S2) (v3 : Int) (S3 : fx_S) (k3 : fx_Sok S3) (b3 : -2147483648 ≤ v3 ∧ v3 ≤ 2147483647) (p3 : s162 S2 x1 (-1) v3 S3) (v4 : Int) (S4 : fx_S) (k4 : fx_Sok S4) (b4 : -2147483648 ≤ v4 ∧ v4 ≤ 2147483647) (p4 : s258 S3 v3 v4 S4) (c1 : v4 < v2) : s171 S x1 1 S4 := by
  obtain rfl : S = S1 := p1
  obtain rfl : S = S2 := p2
  obtain rfl : S = S3 := p3
  obtain rfl : S = S4 := p4
  exact rfl
theorem q172_0 (S : fx_S) (x1 x2 : Int) (hS : fx_Sok S) (g1 : -2147483648 ≤ x1 ∧ x1 ≤ 2147483647) (g2 : -2147483648 ≤ x2 ∧ x2 ≤ 2147483647) (v2 : Int) (S1 : fx_S) (k1 : fx_Sok S1) (b2 : -2147483648 ≤ v2 ∧ v2 ≤ 2147483647) (p1 : s175 S x2 2 0 0 v2 S1) (c1 : v2 ≠ 1) (v3 : Int) (S2 : fx_S) (k2 : fx_Sok S2) (b3 : -2147483648 ≤ v3 ∧ v3 ≤ 2147483647) (p2 : s166 S1 x1 1 v3 S2) (v4 : Int) (S3 : fx_S) (k3 : fx_Sok S3) (b4 : -2147483648 ≤ v4 ∧ v4 ≤ 2147483647) (p3 : s166 S2 x1 2 v4 S3) (v5 : Int) (S4 : fx_S) (k4 : fx_Sok S4) (b5 : -2147483648 ≤ v5 ∧ v5 ≤ 2147483647) (p4 : s167 S3 v3 v4 x2 v5 S4) : s172 S x1 x2 v5 S4 := by
  obtain rfl : S = S1 := p1
  obtain rfl : S = S2 := p2
  obtain rfl : S = S3 := p3
  obtain rfl : S = S4 := p4
  exact rfl
theorem q172_1 (S : fx_S) (x1 x2 : Int) (hS : fx_Sok S) (g1 : -2147483648 ≤ x1 ∧ x1 ≤ 2147483647) (g2 : -2147483648 ≤ x2 ∧ x2 ≤ 2147483647) (v2 : Int) (S1 : fx_S) (k1 : fx_Sok S1) (b2 : -2147483648 ≤ v2 ∧ v2 ≤ 2147483647) (p1 : s175 S x2 2 0 0 v2 S1) (c1 : v2 = 1) (v3 : Int) (S2 : fx_S) (k2 : fx_Sok S2) (b3 : -2147483648 ≤ v3 ∧ v3 ≤ 2147483647) (p2 : s168 S1 1 v3 S2) (v4 : Int) (S3 : fx_S) (k3 : fx_Sok S3) (b4 : -2147483648 ≤ v4 ∧ v4 ≤ 2147483647) (p3 : s259 S2 v3 v4 S3) (v5 : Int) (S4 : fx_S) (k4 : fx_Sok S4) (b5 : -2147483648 ≤ v5 ∧ v5 ≤ 2147483647) (p4 : s168 S3 0 v5 S4) (v6 : Int) (S5 : fx_S) (k5 : fx_Sok S5) (b6 : -2147483648 ≤ v6 ∧ v6 ≤ 2147483647) (p5 : s259 S4 v5 v6 S5) (c2 : v4 ≤ v6) : s172 S x1 x2 0 S5 := by
  obtain rfl : S = S1 := p1
  obtain rfl : S = S2 := p2
  obtain rfl : S = S3 := p3
  obtain rfl : S = S4 := p4
  obtain rfl : S = S5 := p5
  exact rfl
theorem q172_2 (S : fx_S) (x1 x2 : Int) (hS : fx_Sok S) (g1 : -2147483648 ≤ x1 ∧ x1 ≤ 2147483647) (g2 : -2147483648 ≤ x2 ∧ x2 ≤ 2147483647) (v2 : Int) (S1 : fx_S) (k1 : fx_Sok S1) (b2 : -2147483648 ≤ v2 ∧ v2 ≤ 2147483647) (p1 : s175 S x2 2 0 0 v2 S1) (c1 : v2 = 1) (v3 : Int) (S2 : fx_S) (k2 : fx_Sok S2) (b3 : -2147483648 ≤ v3 ∧ v3 ≤ 2147483647) (p2 : s168 S1 1 v3 S2) (v4 : Int) (S3 : fx_S) (k3 : fx_Sok S3) (b4 : -2147483648 ≤ v4 ∧ v4 ≤ 2147483647) (p3 : s259 S2 v3 v4 S3) (v5 : Int) (S4 : fx_S) (k4 : fx_Sok S4) (b5 : -2147483648 ≤ v5 ∧ v5 ≤ 2147483647) (p4 : s168 S3 0 v5 S4) (v6 : Int) (S5 : fx_S) (k5 : fx_Sok S5) (b6 : -2147483648 ≤ v6 ∧ v6 ≤ 2147483647) (p5 : s259 S4 v5 v6 S5) (c2 : v6 < v4) : s172 S x1 x2 1 S5 := by
  obtain rfl : S = S1 := p1
  obtain rfl : S = S2 := p2
  obtain rfl : S = S3 := p3
  obtain rfl : S = S4 := p4
  obtain rfl : S = S5 := p5
  exact rfl
theorem q173_0 (S : fx_S) (x1 x2 : Int) (hS : fx_Sok S) (g1 : -2147483648 ≤ x1 ∧ x1 ≤ 2147483647) (g2 : -2147483648 ≤ x2 ∧ x2 ≤ 2147483647) (v2 : Int) (S1 : fx_S) (k1 : fx_Sok S1) (b2 : -2147483648 ≤ v2 ∧ v2 ≤ 2147483647) (p1 : s163 S x1 v2 S1) (v3 : Int) (S2 : fx_S) (k2 : fx_Sok S2) (b3 : -2147483648 ≤ v3 ∧ v3 ≤ 2147483647) (p2 : s164 S1 x1 v3 S2) (v4 : Int) (e4 : v4 = fx_add v2 v3) (v5 : Int) (S3 : fx_S) (k3 : fx_Sok S3) (b5 : -2147483648 ≤ v5 ∧ v5 ≤ 2147483647) (p3 : s250 S2 v2 x2 v4 v5 S3) (c1 : v5 = 0) (z : Int) (Z : fx_S) (kz : fx_Sok Z) (bz : -2147483648 ≤ z ∧ z ≤ 2147483647) (pz : s260 S3 x2 v2 v4 v5 v3 1 z Z) : s173 S x1 x2 z Z := by
  obtain rfl : S = S1 := p1
  obtain rfl : S = S2 := p2
  obtain rfl : S = S3 := p3
  obtain rfl : S = Z := pz
  exact rfl
theorem q173_1 (S : fx_S) (x1 x2 : Int) (hS : fx_Sok S) (g1 : -2147483648 ≤ x1 ∧ x1 ≤ 2147483647) (g2 : -2147483648 ≤ x2 ∧ x2 ≤ 2147483647) (v2 : Int) (S1 : fx_S) (k1 : fx_Sok S1) (b2 : -2147483648 ≤ v2 ∧ v2 ≤ 2147483647) (p1 : s163 S x1 v2 S1) (v3 : Int) (S2 : fx_S) (k2 : fx_Sok S2) (b3 : -2147483648 ≤ v3 ∧ v3 ≤ 2147483647) (p2 : s164 S1 x1 v3 S2) (v4 : Int) (e4 : v4 = fx_add v2 v3) (v5 : Int) (S3 : fx_S) (k3 : fx_Sok S3) (b5 : -2147483648 ≤ v5 ∧ v5 ≤ 2147483647) (p3 : s250 S2 v2 x2 v4 v5 S3) (c1 : v5 ≠ 0) (z : Int) (Z : fx_S) (kz : fx_Sok Z) (bz : -2147483648 ≤ z ∧ z ≤ 2147483647) (pz : s260 S3 x2 v2 v4 v5 v2 1 z Z) : s173 S x1 x2 z Z := by
  obtain rfl : S = S1 := p1
  obtain rfl : S = S2 := p2
  obtain rfl : S = S3 := p3
  obtain rfl : S = Z := pz
  exact rfl
theorem q174_0 (S : fx_S) (x1 : Int) (hS : fx_Sok S) (g1 : -2147483648 ≤ x1 ∧ x1 ≤ 2147483647) (v1 : Int) (S1 : fx_S) (k1 : fx_Sok S1) (b1 : -2147483648 ≤ v1 ∧ v1 ≤ 2147483647) (p1 : s171 S x1 v1 S1) (z : Int) (Z : fx_S) (kz : fx_Sok Z) (bz : -2147483648 ≤ z ∧ z ≤ 2147483647) (pz : s261 S1 x1 v1 0 z Z) : s174 S x1 z Z := by
  obtain rfl : S = S1 := p1
  obtain ⟨rZ, fZ⟩ := pz
  refine ⟨rZ, ?_⟩
  · intro p i hW
    clear b1
    exact (fZ p i (by omega))
theorem q175_0 (S : fx_S) (x1 x2 x3 x4 : Int) (hS : fx_Sok S) (g1 : -2147483648 ≤ x1 ∧ x1 ≤ 2147483647) (g2 : -2147483648 ≤ x2 ∧ x2 ≤ 2147483647) (g3 : -2147483648 ≤ x3 ∧ x3 ≤ 2147483647) (g4 : -2147483648 ≤ x4 ∧ x4 ≤ 2147483647) (z : Int) (Z : fx_S) (kz : fx_Sok Z) (bz : -2147483648 ≤ z ∧ z ≤ 2147483647) (pz : s262 S x1 x2 x3 x4 0 z Z) : s175 S x1 x2 x3 x4 z Z := by
  obtain rfl : S = Z := pz
  exact rfl
theorem q176_0 (S : fx_S) (x2 x3 x4 x5 x6 : Int) (hS : fx_Sok S) (g2 : -2147483648 ≤ x2 ∧ x2 ≤ 2147483647) (g3 : -2147483648 ≤ x3 ∧ x3 ≤ 2147483647) (g4 : -2147483648 ≤ x4 ∧ x4 ≤ 2147483647) (g5 : -2147483648 ≤ x5 ∧ x5 ≤ 2147483647) (g6 : -2147483648 ≤ x6 ∧ x6 ≤ 2147483647) (c1 : x3 = 0) (c2 : x5 < x6) : s176 S x2 x3 x4 x5 x6 (-1) S := by
  exact rfl
theorem q176_1 (S : fx_S) (x2 x3 x4 x5 x6 : Int) (hS : fx_Sok S) (g2 : -2147483648 ≤ x2 ∧ x2 ≤ 2147483647) (g3 : -2147483648 ≤ x3 ∧ x3 ≤ 2147483647) (g4 : -2147483648 ≤ x4 ∧ x4 ≤ 2147483647) (g5 : -2147483648 ≤ x5 ∧ x5 ≤ 2147483647) (g6 : -2147483648 ≤ x6 ∧ x6 ≤ 2147483647) (c1 : x3 = 0) (c2 : x6 ≤ x5) (c3 : x3 = 0) (v5 : Int) (e5 : v5 = fx_add x4 x6) (c4 : x3 = 0) (v6 : Int) (e6 : v6 = fx_sub x5 x6) (v7 : Int) (S1 : fx_S) (k1 : fx_Sok S1) (b7 : -2147483648 ≤ v7 ∧ v7 ≤ 2147483647) (p1 : s167 S v5 v6 x2 v7 S1) (c5 : v7 = x3) (v8 : Int) (e8 : v8 = fx_add x6 1) (z : Int) (Z : fx_S) (kz : fx_Sok Z) (bz : -2147483648 ≤ z ∧ z ≤ 2147483647) (pz : s176 S1 x2 x3 x4 x5 v8 z Z) : s176 S x2 x3 x4 x5 x6 z Z := by
  obtain rfl : S = S1 := p1
  obtain rfl : S = Z := pz
  exact rfl
theorem q176_2 (S : fx_S) (x2 x3 x4 x5 x6 : Int) (hS : fx_Sok S) (g2 : -2147483648 ≤ x2 ∧ x2 ≤ 2147483647) (g3 : -2147483648 ≤ x3 ∧ x3 ≤ 2147483647) (g4 : -2147483648 ≤ x4 ∧ x4 ≤ 2147483647) (g5 : -2147483648 ≤ x5 ∧ x5 ≤ 2147483647) (g6 : -2147483648 ≤ x6 ∧ x6 ≤ 2147483647) (c1 : x3 = 0) (c2 : x6 ≤ x5) (c3 : x3 = 0) (v5 : Int) (e5 : v5 = fx_add x4 x6) (c4 : x3 = 0) (v6 : Int) (e6 : v6 = fx_sub x5 x6) (v7 : Int) (S1 : fx_S) (k1 : fx_Sok S1) (b7 : -2147483648 ≤ v7 ∧ v7 ≤ 2147483647) (p1 : s167 S v5 v6 x2 v7 S1) (c5 : v7 ≠ x3) : s176 S x2 x3 x4 x5 x6 x6 S1 := by
  obtain rfl : S = S1 := p1
  exact rfl
theorem q176_3 (S : fx_S) (x2 x3 x4 x5 x6 : Int) (hS : fx_Sok S) (g2 : -2147483648 ≤ x2 ∧ x2 ≤ 2147483647) (g3 : -2147483648 ≤ x3 ∧ x3 ≤ 2147483647) (g4 : -2147483648 ≤ x4 ∧ x4 ≤ 2147483647) (g5 : -2147483648 ≤ x5 ∧ x5 ≤ 2147483647) (g6 : -2147483648 ≤ x6 ∧ x6 ≤ 2147483647) (c1 : x3 = 0) (c2 : x6 ≤ x5) (c3 : x3 = 0) (v5 : Int) (e5 : v5 = fx_add x4 x6) (c4 : x3 ≠ 0) (v6 : Int) (e6 : v6 = fx_add x5 x6) (v7 : Int) (S1 : fx_S) (k1 : fx_Sok S1) (b7 : -2147483648 ≤ v7 ∧ v7 ≤ 2147483647) (p1 : s167 S v5 v6 x2 v7 S1) (c5 : v7 = x3) (v8 : Int) (e8 : v8 = fx_add x6 1) (z : Int) (Z : fx_S) (kz : fx_Sok Z) (bz : -2147483648 ≤ z ∧ z ≤ 2147483647) (pz : s176 S1 x2 x3 x4 x5 v8 z Z) : s176 S x2 x3 x4 x5 x6 z Z := by
  obtain rfl : S = S1 := p1
  obtain rfl : S = Z := pz
  exact rfl
theorem q176_4 (S : fx_S) (x2 x3 x4 x5 x6 : Int) (hS : fx_Sok S) (g2 : -2147483648 ≤ x2 ∧ x2 ≤ 2147483647) (g3 : -2147483648 ≤ x3 ∧ x3 ≤ 2147483647) (g4 : -2147483648 ≤ x4 ∧ x4 ≤ 2147483647) (g5 : -2147483648 ≤ x5 ∧ x5 ≤ 2147483647) (g6 : -2147483648 ≤ x6 ∧ x6 ≤ 2147483647) (c1 : x3 = 0) (c2 : x6 ≤ x5) (c3 : x3 = 0) (v5 : Int) (e5 : v5 = fx_add x4 x6) (c4 : x3 ≠ 0) (v6 : Int) (e6 : v6 = fx_add x5 x6) (v7 : Int) (S1 : fx_S) (k1 : fx_Sok S1) (b7 : -2147483648 ≤ v7 ∧ v7 ≤ 2147483647) (p1 : s167 S v5 v6 x2 v7 S1) (c5 : v7 ≠ x3) : s176 S x2 x3 x4 x5 x6 x6 S1 := by
  obtain rfl : S = S1 := p1
  exact rfl
theorem q176_5 (S : fx_S) (x2 x3 x4 x5 x6 : Int) (hS : fx_Sok S) (g2 : -2147483648 ≤ x2 ∧ x2 ≤ 2147483647) (g3 : -2147483648 ≤ x3 ∧ x3 ≤ 2147483647) (g4 : -2147483648 ≤ x4 ∧ x4 ≤ 2147483647) (g5 : -2147483648 ≤ x5 ∧ x5 ≤ 2147483647) (g6 : -2147483648 ≤ x6 ∧ x6 ≤ 2147483647) (c1 : x3 = 0) (c2 : x6 ≤ x5) (c3 : x3 ≠ 0) (v5 : Int) (e5 : v5 = fx_sub x4 x6) (c4 : x3 = 0) (v6 : Int) (e6 : v6 = fx_sub x5 x6) (v7 : Int) (S1 : fx_S) (k1 : fx_Sok S1) (b7 : -2147483648 ≤ v7 ∧ v7 ≤ 2147483647) (p1 : s167 S v5 v6 x2 v7 S1) (c5 : v7 = x3) (v8 : Int) (e8 : v8 = fx_add x6 1) (z : Int) (Z : fx_S) (kz : fx_Sok Z) (bz : -2147483648 ≤ z ∧ z ≤ 2147483647) (pz : s176 S1 x2 x3 x4 x5 v8 z Z) : s176 S x2 x3 x4 x5 x6 z Z := by
  obtain rfl : S = S1 := p1
  obtain rfl : S = Z := pz
  exact rfl
theorem q176_6 (S : fx_S) (x2 x3 x4 x5 x6 : Int) (hS : fx_Sok S) (g2 : -2147483648 ≤ x2 ∧ x2 ≤ 2147483647) (g3 : -2147483648 ≤ x3 ∧ x3 ≤ 2147483647) (g4 : -2147483648 ≤ x4 ∧ x4 ≤ 2147483647) (g5 : -2147483648 ≤ x5 ∧ x5 ≤ 2147483647) (g6 : -2147483648 ≤ x6 ∧ x6 ≤ 2147483647) (c1 : x3 = 0) (c2 : x6 ≤ x5) (c3 : x3 ≠ 0) (v5 : Int) (e5 : v5 = fx_sub x4 x6) (c4 : x3 = 0) (v6 : Int) (e6 : v6 = fx_sub x5 x6) (v7 : Int) (S1 : fx_S) (k1 : fx_Sok S1) (b7 : -2147483648 ≤ v7 ∧ v7 ≤ 2147483647) (p1 : s167 S v5 v6 x2 v7 S1) (c5 : v7 ≠ x3) : s176 S x2 x3 x4 x5 x6 x6 S1 := by
  obtain rfl : S = S1 := p1
  exact rfl
theorem q176_7 (S : fx_S) (x2 x3 x4 x5 x6 : Int) (hS : fx_Sok S) (g2 : -2147483648 ≤ x2 ∧ x2 ≤ 2147483647) (g3 : -2147483648 ≤ x3 ∧ x3 ≤ 2147483647) (g4 : -2147483648 ≤ x4 ∧ x4 ≤ 2147483647) (g5 : -2147483648 ≤ x5 ∧ x5 ≤ 2147483647) (g6 : -2147483648 ≤ x6 ∧ x6 ≤ 2147483647) (c1 : x3 = 0) (c2 : x6 ≤ x5) (c3 : x3 ≠ 0) (v5 : Int) (e5 : v5 = fx_sub x4 x6) (c4 : x3 ≠ 0) (v6 : Int) (e6 : v6 = fx_add x5 x6) (v7 : Int) (S1 : fx_S) (k1 : fx_Sok S1) (b7 : -2147483648 ≤ v7 ∧ v7 ≤ 2147483647) (p1 : s167 S v5 v6 x2 v7 S1) (c5 : v7 = x3) (v8 : Int) (e8 : v8 = fx_add x6 1) (z : Int) (Z : fx_S) (kz : fx_Sok Z) (bz : -2147483648 ≤ z ∧ z ≤ 2147483647) (pz : s176 S1 x2 x3 x4 x5 v8 z Z) : s176 S x2 x3 x4 x5 x6 z Z := by
  obtain rfl : S = S1 := p1
  obtain rfl : S = Z := pz
  exact rfl
theorem q176_8 (S : fx_S) (x2 x3 x4 x5 x6 : Int) (hS : fx_Sok S) (g2 : -2147483648 ≤ x2 ∧ x2 ≤ 2147483647) (g3 : -2147483648 ≤ x3 ∧ x3 ≤ 2147483647) (g4 : -2147483648 ≤ x4 ∧ x4 ≤ 2147483647) (g5 : -2147483648 ≤ x5 ∧ x5 ≤ 2147483647) (g6 : -2147483648 ≤ x6 ∧ x6 ≤ 2147483647) (c1 : x3 = 0) (c2 : x6 ≤ x5) (c3 : x3 ≠ 0) (v5 : Int) (e5 : v5 = fx_sub x4 x6) (c4 : x3 ≠ 0) (v6 : Int) (e6 : v6 = fx_add x5 x6) (v7 : Int) (S1 : fx_S) (k1 : fx_Sok S1) (b7 : -2147483648 ≤ v7 ∧ v7 ≤ 2147483647) (p1 : s167 S v5 v6 x2 v7 S1) (c5 : v7 ≠ x3) : s176 S x2 x3 x4 x5 x6 x6 S1 := by
  obtain rfl : S = S1 := p1
  exact rfl
theorem q176_9 (S : fx_S) (x2 x3 x4 x5 x6 : Int) (hS : fx_Sok S) (g2 : -2147483648 ≤ x2 ∧ x2 ≤ 2147483647) (g3 : -2147483648 ≤ x3 ∧ x3 ≤ 2147483647) (g4 : -2147483648 ≤ x4 ∧ x4 ≤ 2147483647) (g5 : -2147483648 ≤ x5 ∧ x5 ≤ 2147483647) (g6 : -2147483648 ≤ x6 ∧ x6 ≤ 2147483647) (c1 : x3 ≠ 0) (c2 : x4 < x6) : s176 S x2 x3 x4 x5 x6 (-1) S := by
  exact rfl
theorem q176_10 (S : fx_S) (x2 x3 x4 x5 x6 : Int) (hS : fx_Sok S) (g2 : -2147483648 ≤ x2 ∧ x2 ≤ 2147483647) (g3 : -2147483648 ≤ x3 ∧ x3 ≤ 2147483647) (g4 : -2147483648 ≤ x4 ∧ x4 ≤ 2147483647) (g5 : -2147483648 ≤ x5 ∧ x5 ≤ 2147483647) (g6 : -2147483648 ≤ x6 ∧ x6 ≤ 2147483647) (c1 : x3 ≠ 0) (c2 : x6 ≤ x4) (c3 : x3 = 0) (v5 : Int) (e5 : v5 = fx_add x4 x6) (c4 : x3 = 0) (v6 : Int) (e6 : v6 = fx_sub x5 x6) (v7 : Int) (S1 : fx_S) (k1 : fx_Sok S1) (b7 : -2147483648 ≤ v7 ∧ v7 ≤ 2147483647) (p1 : s167 S v5 v6 x2 v7 S1) (c5 : v7 = x3) (v8 : Int) (e8 : v8 = fx_add x6 1) (z : Int) (Z : fx_S) (kz : fx_Sok Z) (bz : -2147483648 ≤ z ∧ z ≤ 2147483647) (pz : s176 S1 x2 x3 x4 x5 v8 z Z) : s176 S x2 x3 x4 x5 x6 z Z := by
  obtain rfl : S = S1 := p1
  obtain rfl : S = Z := pz
  exact rfl
theorem q176_11 (S : fx_S) (x2 x3 x4 x5 x6 : Int) (hS : fx_Sok S) (g2 : -2147483648 ≤ x2 ∧ x2 ≤ 2147483647) (g3 : -2147483648 ≤ x3 ∧ x3 ≤ 2147483647) (g4 : -2147483648 ≤ x4 ∧ x4 ≤ 2147483647) (g5 : -2147483648 ≤ x5 ∧ x5 ≤ 2147483647) (g6 : -2147483648 ≤ x6 ∧ x6 ≤ 2147483647) (c1 : x3 ≠ 0) (c2 : x6 ≤ x4) (c3 : x3 = 0) (v5 : Int) (e5 : v5 = fx_add x4 x6) (c4 : x3 = 0) (v6 : Int) (e6 : v6 = fx_sub x5 x6) (v7 : Int) (S1 : fx_S) (k1 : fx_Sok S1) (b7 : -2147483648 ≤ v7 ∧ v7 ≤ 2147483647) (p1 : s167 S v5 v6 x2 v7 S1) (c5 : v7 ≠ x3) : s176 S x2 x3 x4 x5 x6 x6 S1 := by
  obtain rfl : S = S1 := p1
  exact rfl
