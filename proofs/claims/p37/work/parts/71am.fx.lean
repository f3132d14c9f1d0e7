/-! FX: what is to be shown of the entries -/
theorem q121_6 (S : fx_S) (x1 x2 : Int) (hS : fx_Sok S) (g1 : -2147483648 ≤ x1 ∧ x1 ≤ 2147483647) (g2 : -2147483648 ≤ x2 ∧ x2 ≤ 2147483647) (v2 : Int) (e2 : v2 = S.1 66 12) (b2 : -2147483648 ≤ v2 ∧ v2 ≤ 2147483647) (c1 : v2 = 0) (v3 : Int) (e3 : v3 = S.1 66 10) (b3 : -2147483648 ≤ v3 ∧ v3 ≤ 2147483647) (c2 : v3 ≠ 0) (v4 : Int) (S1 : fx_S) (k1 : fx_Sok S1) (b4 : -2147483648 ≤ v4 ∧ v4 ≤ 2147483647) (p1 : s224 S  v4 S1) (c3 : v4 ≠ (-1)) (c4 : x2 ≠ 16) (v5 : Int) (e5 : v5 = S1.1 66 12) (b5 : -2147483648 ≤ v5 ∧ v5 ≤ 2147483647) (c5 : v5 = 0) (v6 : Int) (e6 : v6 = fx_mul 16 x2) (v7 : Int) (e7 : v7 = fx_add 4 v6) (v8 : Int) (S2 : fx_S) (k2 : fx_Sok S2) (b8 : v8 = 0) (p2 : s225 S1 v7 v8 S2) (v9 : Int) (e9 : v9 = fx_add x2 1) (z : Int) (Z : fx_S) (kz : fx_Sok Z) (bz : -2147483648 ≤ z ∧ z ≤ 2147483647) (pz : s121 S2 x1 v9 z Z) : s121 S x1 x2 z Z := by
  obtain rfl : S = S1 := p1
  obtain ⟨r2, f2, p2⟩ := p2
  unfold s121 at pz
  unfold s121
  intro hB hP
  have BS := hB
  have NS := fx_WB_n BS
  obtain rfl : v2 = v5 := by rw [e5, e2]
  have h6 := e6
  first | rw [fx_mul_eq (by omega) (by omega)] at h6 | skip
  have h7 := e7
  first | rw [fx_add_eq (by omega) (by omega)] at h7 | skip
  have BS2 : fx_WB S2 := fx_WB_eq BS (fun q => f2 67 q (by omega)) (fun q => f2 68 q (by omega)) (fun q => f2 69 q (by omega))
  have NS2 := fx_WB_n BS2
  have h9 := e9
  first | rw [fx_add_eq (by omega) (by omega)] at h9 | skip
  obtain ⟨rZ, fZ, BZ⟩ := pz BS2 ⟨by omega, by omega, by rw [f2 67 3 (by omega)]; omega, fun l l0 l1 => by
    by_cases hl : l = x2
    · subst hl
      have q := (p2 (by omega)).1
      rw [show v7 = 4 + 16 * l by omega, show 4 + 16 * l + 1 = 5 + 16 * l by omega] at q
      exact q
    · have q := (p2 (by omega)).2
      rw [q (4 + 16 * l) (by omega), q (5 + 16 * l) (by omega)]
      exact hP.2.2.2 l l0 (by omega)⟩
  refine ⟨(rZ).trans (r2), ?_, BZ⟩
  · intro p i hW
    exact ((fZ p i (by omega))).trans ((f2 p i (by omega)))
theorem q121_7 (S : fx_S) (x1 x2 : Int) (hS : fx_Sok S) (g1 : -2147483648 ≤ x1 ∧ x1 ≤ 2147483647) (g2 : -2147483648 ≤ x2 ∧ x2 ≤ 2147483647) (v2 : Int) (e2 : v2 = S.1 66 12) (b2 : -2147483648 ≤ v2 ∧ v2 ≤ 2147483647) (c1 : v2 = 0) (v3 : Int) (e3 : v3 = S.1 66 10) (b3 : -2147483648 ≤ v3 ∧ v3 ≤ 2147483647) (c2 : v3 ≠ 0) (v4 : Int) (S1 : fx_S) (k1 : fx_Sok S1) (b4 : -2147483648 ≤ v4 ∧ v4 ≤ 2147483647) (p1 : s224 S  v4 S1) (c3 : v4 ≠ (-1)) (c4 : x2 = 16) (v5 : Int) (S2 : fx_S) (k2 : fx_Sok S2) (b5 : v5 = 0) (p2 : s226 S1 3 v5 S2) (v6 : Int) (e6 : v6 = S2.1 66 12) (b6 : -2147483648 ≤ v6 ∧ v6 ≤ 2147483647) (c5 : v6 ≠ 0) (v7 : Int) (e7 : v7 = S2.1 66 12) (b7 : -2147483648 ≤ v7 ∧ v7 ≤ 2147483647) (c6 : v7 ≠ 0) : s121 S x1 x2 (-4) S2 := by
  obtain rfl : S = S1 := p1
  obtain ⟨r2, f2, p2⟩ := p2
  unfold s121
  intro hB hP
  have BS := hB
  have NS := fx_WB_n BS
  have BS2 : fx_WB S2 := fx_WB_eq BS (fun q => f2 67 q (by omega)) (fun q => f2 68 q (by omega)) (fun q => f2 69 q (by omega))
  have NS2 := fx_WB_n BS2
  obtain rfl : v6 = v7 := by rw [e7, e6]
  refine ⟨r2, ?_, BS2⟩
  · intro p i hW
    exact (f2 p i (by omega))
theorem q121_8 (S : fx_S) (x1 x2 : Int) (hS : fx_Sok S) (g1 : -2147483648 ≤ x1 ∧ x1 ≤ 2147483647) (g2 : -2147483648 ≤ x2 ∧ x2 ≤ 2147483647) (v2 : Int) (e2 : v2 = S.1 66 12) (b2 : -2147483648 ≤ v2 ∧ v2 ≤ 2147483647) (c1 : v2 = 0) (v3 : Int) (e3 : v3 = S.1 66 10) (b3 : -2147483648 ≤ v3 ∧ v3 ≤ 2147483647) (c2 : v3 ≠ 0) (v4 : Int) (S1 : fx_S) (k1 : fx_Sok S1) (b4 : -2147483648 ≤ v4 ∧ v4 ≤ 2147483647) (p1 : s224 S  v4 S1) (c3 : v4 ≠ (-1)) (c4 : x2 = 16) (v5 : Int) (S2 : fx_S) (k2 : fx_Sok S2) (b5 : v5 = 0) (p2 : s226 S1 3 v5 S2) (v6 : Int) (e6 : v6 = S2.1 66 12) (b6 : -2147483648 ≤ v6 ∧ v6 ≤ 2147483647) (c5 : v6 ≠ 0) (v7 : Int) (e7 : v7 = S2.1 66 12) (b7 : -2147483648 ≤ v7 ∧ v7 ≤ 2147483647) (c6 : v7 = 0) (v8 : Int) (e8 : v8 = S2.1 67 0) (b8 : -2147483648 ≤ v8 ∧ v8 ≤ 2147483647) (S3 : fx_S) (d3 : S3 = (fx_up S2.1 72 0 v8, S2.2)) (S4 : fx_S) (d4 : S4 = (fx_up S3.1 72 1 x1, S3.2)) (S5 : fx_S) (d5 : S5 = (fx_up S4.1 72 2 (-1), S4.2)) (S6 : fx_S) (d6 : S6 = (fx_up S5.1 72 3 x2, S5.2)) (v9 : Int) (e9 : v9 = S6.1 67 3) (b9 : -2147483648 ≤ v9 ∧ v9 ≤ 2147483647) (v10 : Int) (e10 : v10 = fx_mul 260 v9) (v11 : Int) (e11 : v11 = fx_add 1100 v10) (z : Int) (Z : fx_S) (kz : fx_Sok Z) (bz : -2147483648 ≤ z ∧ z ≤ 2147483647) (pz : s223 S6 v11 0 z Z) : s121 S x1 x2 z Z := by
  obtain rfl : S = S1 := p1
  obtain ⟨r2, f2, p2⟩ := p2
  unfold s223 at pz
  unfold s121
  intro hB hP
  obtain rfl : v6 = v7 := by rw [e7, e6]
  rw [f2 67 0 (by omega)] at e8
  have t9_6 : S6.1 67 3 = S5.1 67 3 := by rw [d6]; first | exact if_neg (by omega) | rfl
  rw [t9_6] at e9
  have t9_5 : S5.1 67 3 = S4.1 67 3 := by rw [d5]; first | exact if_neg (by omega) | rfl
  rw [t9_5] at e9
  have t9_4 : S4.1 67 3 = S3.1 67 3 := by rw [d4]; first | exact if_neg (by omega) | rfl
  rw [t9_4] at e9
  have t9_3 : S3.1 67 3 = S2.1 67 3 := by rw [d3]; first | exact if_neg (by omega) | rfl
  rw [t9_3] at e9
  rw [f2 67 3 (by omega)] at e9
  have h10 := e10
  first | rw [fx_mul_eq (by omega) (by omega)] at h10 | skip
  have h11 := e11
  first | rw [fx_add_eq (by omega) (by omega)] at h11 | skip
  exact absurd c6 c5
theorem q121_9 (S : fx_S) (x1 x2 : Int) (hS : fx_Sok S) (g1 : -2147483648 ≤ x1 ∧ x1 ≤ 2147483647) (g2 : -2147483648 ≤ x2 ∧ x2 ≤ 2147483647) (v2 : Int) (e2 : v2 = S.1 66 12) (b2 : -2147483648 ≤ v2 ∧ v2 ≤ 2147483647) (c1 : v2 = 0) (v3 : Int) (e3 : v3 = S.1 66 10) (b3 : -2147483648 ≤ v3 ∧ v3 ≤ 2147483647) (c2 : v3 ≠ 0) (v4 : Int) (S1 : fx_S) (k1 : fx_Sok S1) (b4 : -2147483648 ≤ v4 ∧ v4 ≤ 2147483647) (p1 : s224 S  v4 S1) (c3 : v4 ≠ (-1)) (c4 : x2 = 16) (v5 : Int) (S2 : fx_S) (k2 : fx_Sok S2) (b5 : v5 = 0) (p2 : s226 S1 3 v5 S2) (v6 : Int) (e6 : v6 = S2.1 66 12) (b6 : -2147483648 ≤ v6 ∧ v6 ≤ 2147483647) (c5 : v6 = 0) (v7 : Int) (e7 : v7 = fx_mul 16 x2) (v8 : Int) (e8 : v8 = fx_add 4 v7) (v9 : Int) (S3 : fx_S) (k3 : fx_Sok S3) (b9 : v9 = 0) (p3 : s225 S2 v8 v9 S3) (v10 : Int) (e10 : v10 = fx_add x2 1) (z : Int) (Z : fx_S) (kz : fx_Sok Z) (bz : -2147483648 ≤ z ∧ z ≤ 2147483647) (pz : s121 S3 x1 v10 z Z) : s121 S x1 x2 z Z := by
  obtain rfl : S = S1 := p1
  obtain ⟨r2, f2, p2⟩ := p2
  obtain ⟨r3, f3, p3⟩ := p3
  unfold s121 at pz
  unfold s121
  intro hB hP
  have h7 := e7
  first | rw [fx_mul_eq (by omega) (by omega)] at h7 | skip
  have h8 := e8
  first | rw [fx_add_eq (by omega) (by omega)] at h8 | skip
  have h10 := e10
  first | rw [fx_add_eq (by omega) (by omega)] at h10 | skip
  exact absurd c5 (by rw [e6]; exact p2 (by omega))
theorem q121_10 (S : fx_S) (x1 x2 : Int) (hS : fx_Sok S) (g1 : -2147483648 ≤ x1 ∧ x1 ≤ 2147483647) (g2 : -2147483648 ≤ x2 ∧ x2 ≤ 2147483647) (v2 : Int) (e2 : v2 = S.1 66 12) (b2 : -2147483648 ≤ v2 ∧ v2 ≤ 2147483647) (c1 : v2 = 0) (v3 : Int) (e3 : v3 = S.1 66 10) (b3 : -2147483648 ≤ v3 ∧ v3 ≤ 2147483647) (c2 : v3 ≠ 0) (v4 : Int) (S1 : fx_S) (k1 : fx_Sok S1) (b4 : -2147483648 ≤ v4 ∧ v4 ≤ 2147483647) (p1 : s224 S  v4 S1) (c3 : v4 = (-1)) (v5 : Int) (S2 : fx_S) (k2 : fx_Sok S2) (b5 : v5 = 0) (p2 : s226 S1 1 v5 S2) (v6 : Int) (e6 : v6 = S2.1 66 12) (b6 : -2147483648 ≤ v6 ∧ v6 ≤ 2147483647) (c4 : v6 ≠ 0) (v7 : Int) (e7 : v7 = S2.1 66 12) (b7 : -2147483648 ≤ v7 ∧ v7 ≤ 2147483647) (c5 : v7 ≠ 0) : s121 S x1 x2 (-4) S2 := by
  obtain rfl : S = S1 := p1
  obtain ⟨r2, f2, p2⟩ := p2
  unfold s121
  intro hB hP
  have BS := hB
  have NS := fx_WB_n BS
  have BS2 : fx_WB S2 := fx_WB_eq BS (fun q => f2 67 q (by omega)) (fun q => f2 68 q (by omega)) (fun q => f2 69 q (by omega))
  have NS2 := fx_WB_n BS2
  obtain rfl : v6 = v7 := by rw [e7, e6]
  refine ⟨r2, ?_, BS2⟩
  · intro p i hW
    exact (f2 p i (by omega))
theorem q121_11 (S : fx_S) (x1 x2 : Int) (hS : fx_Sok S) (g1 : -2147483648 ≤ x1 ∧ x1 ≤ 2147483647) (g2 : -2147483648 ≤ x2 ∧ x2 ≤ 2147483647) (v2 : Int) (e2 : v2 = S.1 66 12) (b2 : -2147483648 ≤ v2 ∧ v2 ≤ 2147483647) (c1 : v2 = 0) (v3 : Int) (e3 : v3 = S.1 66 10) (b3 : -2147483648 ≤ v3 ∧ v3 ≤ 2147483647) (c2 : v3 ≠ 0) (v4 : Int) (S1 : fx_S) (k1 : fx_Sok S1) (b4 : -2147483648 ≤ v4 ∧ v4 ≤ 2147483647) (p1 : s224 S  v4 S1) (c3 : v4 = (-1)) (v5 : Int) (S2 : fx_S) (k2 : fx_Sok S2) (b5 : v5 = 0) (p2 : s226 S1 1 v5 S2) (v6 : Int) (e6 : v6 = S2.1 66 12) (b6 : -2147483648 ≤ v6 ∧ v6 ≤ 2147483647) (c4 : v6 ≠ 0) (v7 : Int) (e7 : v7 = S2.1 66 12) (b7 : -2147483648 ≤ v7 ∧ v7 ≤ 2147483647) (c5 : v7 = 0) (v8 : Int) (e8 : v8 = S2.1 67 0) (b8 : -2147483648 ≤ v8 ∧ v8 ≤ 2147483647) (S3 : fx_S) (d3 : S3 = (fx_up S2.1 72 0 v8, S2.2)) (S4 : fx_S) (d4 : S4 = (fx_up S3.1 72 1 x1, S3.2)) (S5 : fx_S) (d5 : S5 = (fx_up S4.1 72 2 (-1), S4.2)) (S6 : fx_S) (d6 : S6 = (fx_up S5.1 72 3 x2, S5.2)) (v9 : Int) (e9 : v9 = S6.1 67 3) (b9 : -2147483648 ≤ v9 ∧ v9 ≤ 2147483647) (v10 : Int) (e10 : v10 = fx_mul 260 v9) (v11 : Int) (e11 : v11 = fx_add 1100 v10) (z : Int) (Z : fx_S) (kz : fx_Sok Z) (bz : -2147483648 ≤ z ∧ z ≤ 2147483647) (pz : s223 S6 v11 0 z Z) : s121 S x1 x2 z Z := by
  obtain rfl : S = S1 := p1
  obtain ⟨r2, f2, p2⟩ := p2
  unfold s223 at pz
  unfold s121
  intro hB hP
  obtain rfl : v6 = v7 := by rw [e7, e6]
  rw [f2 67 0 (by omega)] at e8
  have t9_6 : S6.1 67 3 = S5.1 67 3 := by rw [d6]; first | exact if_neg (by omega) | rfl
  rw [t9_6] at e9
  have t9_5 : S5.1 67 3 = S4.1 67 3 := by rw [d5]; first | exact if_neg (by omega) | rfl
  rw [t9_5] at e9
  have t9_4 : S4.1 67 3 = S3.1 67 3 := by rw [d4]; first | exact if_neg (by omega) | rfl
  rw [t9_4] at e9
  have t9_3 : S3.1 67 3 = S2.1 67 3 := by rw [d3]; first | exact if_neg (by omega) | rfl
  rw [t9_3] at e9
  rw [f2 67 3 (by omega)] at e9
  have h10 := e10
  first | rw [fx_mul_eq (by omega) (by omega)] at h10 | skip
  have h11 := e11
  first | rw [fx_add_eq (by omega) (by omega)] at h11 | skip
  exact absurd c5 c4
theorem q121_12 (S : fx_S) (x1 x2 : Int) (hS : fx_Sok S) (g1 : -2147483648 ≤ x1 ∧ x1 ≤ 2147483647) (g2 : -2147483648 ≤ x2 ∧ x2 ≤ 2147483647) (v2 : Int) (e2 : v2 = S.1 66 12) (b2 : -2147483648 ≤ v2 ∧ v2 ≤ 2147483647) (c1 : v2 = 0) (v3 : Int) (e3 : v3 = S.1 66 10) (b3 : -2147483648 ≤ v3 ∧ v3 ≤ 2147483647) (c2 : v3 ≠ 0) (v4 : Int) (S1 : fx_S) (k1 : fx_Sok S1) (b4 : -2147483648 ≤ v4 ∧ v4 ≤ 2147483647) (p1 : s224 S  v4 S1) (c3 : v4 = (-1)) (v5 : Int) (S2 : fx_S) (k2 : fx_Sok S2) (b5 : v5 = 0) (p2 : s226 S1 1 v5 S2) (v6 : Int) (e6 : v6 = S2.1 66 12) (b6 : -2147483648 ≤ v6 ∧ v6 ≤ 2147483647) (c4 : v6 = 0) (v7 : Int) (e7 : v7 = fx_mul 16 x2) (v8 : Int) (e8 : v8 = fx_add 4 v7) (v9 : Int) (S3 : fx_S) (k3 : fx_Sok S3) (b9 : v9 = 0) (p3 : s225 S2 v8 v9 S3) (v10 : Int) (e10 : v10 = fx_add x2 1) (z : Int) (Z : fx_S) (kz : fx_Sok Z) (bz : -2147483648 ≤ z ∧ z ≤ 2147483647) (pz : s121 S3 x1 v10 z Z) : s121 S x1 x2 z Z := by
  obtain rfl : S = S1 := p1
  obtain ⟨r2, f2, p2⟩ := p2
  obtain ⟨r3, f3, p3⟩ := p3
  unfold s121 at pz
  unfold s121
  intro hB hP
  have h7 := e7
  first | rw [fx_mul_eq (by omega) (by omega)] at h7 | skip
  have h8 := e8
  first | rw [fx_add_eq (by omega) (by omega)] at h8 | skip
  have h10 := e10
  first | rw [fx_add_eq (by omega) (by omega)] at h10 | skip
  exact absurd c4 (by rw [e6]; exact p2 (by omega))
theorem q122_0 (S : fx_S) (x1 : Int) (hS : fx_Sok S) (g1 : -2147483648 ≤ x1 ∧ x1 ≤ 2147483647) (v1 : Int) (e1 : v1 = S.1 67 4) (b1 : -2147483648 ≤ v1 ∧ v1 ≤ 2147483647) (v2 : Int) (e2 : v2 = fx_sub v1 1) (v3 : Int) (S1 : fx_S) (k1 : fx_Sok S1) (b3 : -2147483648 ≤ v3 ∧ v3 ≤ 2147483647) (p1 : s113 S x1 0 v2 v3 S1) (c1 : v3 = 0) : s122 S x1 0 S1 := by
  obtain ⟨rfl, p1⟩ := p1
  exact rfl
theorem q122_1 (S : fx_S) (x1 : Int) (hS : fx_Sok S) (g1 : -2147483648 ≤ x1 ∧ x1 ≤ 2147483647) (v1 : Int) (e1 : v1 = S.1 67 4) (b1 : -2147483648 ≤ v1 ∧ v1 ≤ 2147483647) (v2 : Int) (e2 : v2 = fx_sub v1 1) (v3 : Int) (S1 : fx_S) (k1 : fx_Sok S1) (b3 : -2147483648 ≤ v3 ∧ v3 ≤ 2147483647) (p1 : s113 S x1 0 v2 v3 S1) (c1 : v3 ≠ 0) (v4 : Int) (e4 : v4 = fx_mul 170 x1) (v5 : Int) (e5 : v5 = fx_add 3700 v4) (v6 : Int) (e6 : v6 = fx_add v5 1) (c2 : 0 ≤ v6) (c3 : v6 < 8090) (v7 : Int) (e7 : v7 = S1.1 67 v6) (b7 : -2147483648 ≤ v7 ∧ v7 ≤ 2147483647) (c4 : v7 ≠ 0) : s122 S x1 0 S1 := by
  obtain ⟨rfl, p1⟩ := p1
  exact rfl
theorem q122_2 (S : fx_S) (x1 : Int) (hS : fx_Sok S) (g1 : -2147483648 ≤ x1 ∧ x1 ≤ 2147483647) (v1 : Int) (e1 : v1 = S.1 67 4) (b1 : -2147483648 ≤ v1 ∧ v1 ≤ 2147483647) (v2 : Int) (e2 : v2 = fx_sub v1 1) (v3 : Int) (S1 : fx_S) (k1 : fx_Sok S1) (b3 : -2147483648 ≤ v3 ∧ v3 ≤ 2147483647) (p1 : s113 S x1 0 v2 v3 S1) (c1 : v3 ≠ 0) (v4 : Int) (e4 : v4 = fx_mul 170 x1) (v5 : Int) (e5 : v5 = fx_add 3700 v4) (v6 : Int) (e6 : v6 = fx_add v5 1) (c2 : 0 ≤ v6) (c3 : v6 < 8090) (v7 : Int) (e7 : v7 = S1.1 67 v6) (b7 : -2147483648 ≤ v7 ∧ v7 ≤ 2147483647) (c4 : v7 = 0) (v8 : Int) (e8 : v8 = fx_mul 170 x1) (v9 : Int) (e9 : v9 = fx_add 3700 v8) (v10 : Int) (e10 : v10 = fx_add v9 2) (c5 : 0 ≤ v10) (c6 : v10 < 8090) (v11 : Int) (e11 : v11 = S1.1 67 v10) (b11 : -2147483648 ≤ v11 ∧ v11 ≤ 2147483647) (v12 : Int) (e12 : v12 = S1.1 67 0) (b12 : -2147483648 ≤ v12 ∧ v12 ≤ 2147483647) (c7 : v11 ≠ v12) : s122 S x1 0 S1 := by
  obtain ⟨rfl, p1⟩ := p1
  exact rfl
theorem q122_3 (S : fx_S) (x1 : Int) (hS : fx_Sok S) (g1 : -2147483648 ≤ x1 ∧ x1 ≤ 2147483647) (v1 : Int) (e1 : v1 = S.1 67 4) (b1 : -2147483648 ≤ v1 ∧ v1 ≤ 2147483647) (v2 : Int) (e2 : v2 = fx_sub v1 1) (v3 : Int) (S1 : fx_S) (k1 : fx_Sok S1) (b3 : -2147483648 ≤ v3 ∧ v3 ≤ 2147483647) (p1 : s113 S x1 0 v2 v3 S1) (c1 : v3 ≠ 0) (v4 : Int) (e4 : v4 = fx_mul 170 x1) (v5 : Int) (e5 : v5 = fx_add 3700 v4) (v6 : Int) (e6 : v6 = fx_add v5 1) (c2 : 0 ≤ v6) (c3 : v6 < 8090) (v7 : Int) (e7 : v7 = S1.1 67 v6) (b7 : -2147483648 ≤ v7 ∧ v7 ≤ 2147483647) (c4 : v7 = 0) (v8 : Int) (e8 : v8 = fx_mul 170 x1) (v9 : Int) (e9 : v9 = fx_add 3700 v8) (v10 : Int) (e10 : v10 = fx_add v9 2) (c5 : 0 ≤ v10) (c6 : v10 < 8090) (v11 : Int) (e11 : v11 = S1.1 67 v10) (b11 : -2147483648 ≤ v11 ∧ v11 ≤ 2147483647) (v12 : Int) (e12 : v12 = S1.1 67 0) (b12 : -2147483648 ≤ v12 ∧ v12 ≤ 2147483647) (c7 : v11 = v12) (v13 : Int) (e13 : v13 = fx_mul 170 x1) (v14 : Int) (e14 : v14 = fx_add 3700 v13) (v15 : Int) (e15 : v15 = fx_add v14 3) (c8 : 0 ≤ v15) (c9 : v15 < 8090) (v16 : Int) (e16 : v16 = S1.1 67 v15) (b16 : -2147483648 ≤ v16 ∧ v16 ≤ 2147483647) (c10 : v16 ≠ 1) : s122 S x1 0 S1 := by
  obtain ⟨rfl, p1⟩ := p1
  exact rfl
theorem q122_4 (S : fx_S) (x1 : Int) (hS : fx_Sok S) (g1 : -2147483648 ≤ x1 ∧ x1 ≤ 2147483647) (v1 : Int) (e1 : v1 = S.1 67 4) (b1 : -2147483648 ≤ v1 ∧ v1 ≤ 2147483647) (v2 : Int) (e2 : v2 = fx_sub v1 1) (v3 : Int) (S1 : fx_S) (k1 : fx_Sok S1) (b3 : -2147483648 ≤ v3 ∧ v3 ≤ 2147483647) (p1 : s113 S x1 0 v2 v3 S1) (c1 : v3 ≠ 0) (v4 : Int) (e4 : v4 = fx_mul 170 x1) (v5 : Int) (e5 : v5 = fx_add 3700 v4) (v6 : Int) (e6 : v6 = fx_add v5 1) (c2 : 0 ≤ v6) (c3 : v6 < 8090) (v7 : Int) (e7 : v7 = S1.1 67 v6) (b7 : -2147483648 ≤ v7 ∧ v7 ≤ 2147483647) (c4 : v7 = 0) (v8 : Int) (e8 : v8 = fx_mul 170 x1) (v9 : Int) (e9 : v9 = fx_add 3700 v8) (v10 : Int) (e10 : v10 = fx_add v9 2) (c5 : 0 ≤ v10) (c6 : v10 < 8090) (v11 : Int) (e11 : v11 = S1.1 67 v10) (b11 : -2147483648 ≤ v11 ∧ v11 ≤ 2147483647) (v12 : Int) (e12 : v12 = S1.1 67 0) (b12 : -2147483648 ≤ v12 ∧ v12 ≤ 2147483647) (c7 : v11 = v12) (v13 : Int) (e13 : v13 = fx_mul 170 x1) (v14 : Int) (e14 : v14 = fx_add 3700 v13) (v15 : Int) (e15 : v15 = fx_add v14 3) (c8 : 0 ≤ v15) (c9 : v15 < 8090) (v16 : Int) (e16 : v16 = S1.1 67 v15) (b16 : -2147483648 ≤ v16 ∧ v16 ≤ 2147483647) (c10 : v16 = 1) (v17 : Int) (e17 : v17 = fx_mul 170 x1) (v18 : Int) (e18 : v18 = fx_add 3700 v17) (v19 : Int) (e19 : v19 = fx_add v18 5) (c11 : 0 ≤ v19) (c12 : v19 < 8090) (v20 : Int) (e20 : v20 = S1.1 67 v19) (b20 : -2147483648 ≤ v20 ∧ v20 ≤ 2147483647) (c13 : v20 ≠ (-1)) : s122 S x1 0 S1 := by
  obtain ⟨rfl, p1⟩ := p1
  exact rfl
theorem q122_5 (S : fx_S) (x1 : Int) (hS : fx_Sok S) (g1 : -2147483648 ≤ x1 ∧ x1 ≤ 2147483647) (v1 : Int) (e1 : v1 = S.1 67 4) (b1 : -2147483648 ≤ v1 ∧ v1 ≤ 2147483647) (v2 : Int) (e2 : v2 = fx_sub v1 1) (v3 : Int) (S1 : fx_S) (k1 : fx_Sok S1) (b3 : -2147483648 ≤ v3 ∧ v3 ≤ 2147483647) (p1 : s113 S x1 0 v2 v3 S1) (c1 : v3 ≠ 0) (v4 : Int) (e4 : v4 = fx_mul 170 x1) (v5 : Int) (e5 : v5 = fx_add 3700 v4) (v6 : Int) (e6 : v6 = fx_add v5 1) (c2 : 0 ≤ v6) (c3 : v6 < 8090) (v7 : Int) (e7 : v7 = S1.1 67 v6) (b7 : -2147483648 ≤ v7 ∧ v7 ≤ 2147483647) (c4 : v7 = 0) (v8 : Int) (e8 : v8 = fx_mul 170 x1) (v9 : Int) (e9 : v9 = fx_add 3700 v8) (v10 : Int) (e10 : v10 = fx_add v9 2) (c5 : 0 ≤ v10) (c6 : v10 < 8090) (v11 : Int) (e11 : v11 = S1.1 67 v10) (b11 : -2147483648 ≤ v11 ∧ v11 ≤ 2147483647) (v12 : Int) (e12 : v12 = S1.1 67 0) (b12 : -2147483648 ≤ v12 ∧ v12 ≤ 2147483647) (c7 : v11 = v12) (v13 : Int) (e13 : v13 = fx_mul 170 x1) (v14 : Int) (e14 : v14 = fx_add 3700 v13) (v15 : Int) (e15 : v15 = fx_add v14 3) (c8 : 0 ≤ v15) (c9 : v15 < 8090) (v16 : Int) (e16 : v16 = S1.1 67 v15) (b16 : -2147483648 ≤ v16 ∧ v16 ≤ 2147483647) (c10 : v16 = 1) (v17 : Int) (e17 : v17 = fx_mul 170 x1) (v18 : Int) (e18 : v18 = fx_add 3700 v17) (v19 : Int) (e19 : v19 = fx_add v18 5) (c11 : 0 ≤ v19) (c12 : v19 < 8090) (v20 : Int) (e20 : v20 = S1.1 67 v19) (b20 : -2147483648 ≤ v20 ∧ v20 ≤ 2147483647) (c13 : v20 = (-1)) : s122 S x1 1 S1 := by
  obtain ⟨rfl, p1⟩ := p1
  exact rfl
theorem q123_0 (S : fx_S) (x1 x2 : Int) (hS : fx_Sok S) (g1 : -2147483648 ≤ x1 ∧ x1 ≤ 2147483647) (g2 : -2147483648 ≤ x2 ∧ x2 ≤ 2147483647) (v2 : Int) (e2 : v2 = S.1 2 8) (b2 : -2147483648 ≤ v2 ∧ v2 ≤ 2147483647) (v3 : Int) (e3 : v3 = fx_sub v2 1) (z : Int) (Z : fx_S) (kz : fx_Sok Z) (bz : -2147483648 ≤ z ∧ z ≤ 2147483647) (pz : s227 S x1 x2 v3 z Z) : s123 S x1 x2 z Z := by
  obtain ⟨rfl, pz⟩ := pz
  refine ⟨rfl, ?_⟩
  intro h1 h2
  subst e2
  rw [fx_sub_eq (by omega) (by omega)] at e3
  subst e3
  have q := pz (by omega) (by omega)
  rw [show S.1 2 8 - 1 + 1 = S.1 2 8 by omega] at q
  exact q
theorem q124_0 (S : fx_S) (x1 x2 : Int) (hS : fx_Sok S) (g1 : -2147483648 ≤ x1 ∧ x1 ≤ 2147483647) (g2 : -2147483648 ≤ x2 ∧ x2 ≤ 2147483647) (z : Int) (Z : fx_S) (kz : fx_Sok Z) (bz : -2147483648 ≤ z ∧ z ≤ 2147483647) (pz : s228 S x1 x2 (-1) 0 z Z) : s124 S x1 x2 z Z := by
  obtain ⟨rfl, pz⟩ := pz
  refine ⟨rfl, ?_⟩
  intro hB
  have N := fx_WB_n hB
  exact pz hB (by omega) (by omega) (by omega)
theorem q125_0 (S : fx_S) (x0 x1 : Int) (hS : fx_Sok S) (g0 : -2147483648 ≤ x0 ∧ x0 ≤ 2147483647) (g1 : -2147483648 ≤ x1 ∧ x1 ≤ 2147483647) (c1 : x1 < x0) : s125 S x0 x1 x1 S := by
  refine ⟨rfl, ?_⟩
  split <;> omega
theorem q125_1 (S : fx_S) (x0 x1 : Int) (hS : fx_Sok S) (g0 : -2147483648 ≤ x0 ∧ x0 ≤ 2147483647) (g1 : -2147483648 ≤ x1 ∧ x1 ≤ 2147483647) (c1 : x0 ≤ x1) : s125 S x0 x1 x0 S := by
  refine ⟨rfl, ?_⟩
  split <;> omega
theorem q126_0 (S : fx_S) (x1 x2 x3 : Int) (hS : fx_Sok S) (g1 : -2147483648 ≤ x1 ∧ x1 ≤ 2147483647) (g2 : -2147483648 ≤ x2 ∧ x2 ≤ 2147483647) (g3 : -2147483648 ≤ x3 ∧ x3 ≤ 2147483647) (c1 : x1 < 0) : s126 S x1 x2 x3 0 S := by
  exact rfl
theorem q126_1 (S : fx_S) (x1 x2 x3 : Int) (hS : fx_Sok S) (g1 : -2147483648 ≤ x1 ∧ x1 ≤ 2147483647) (g2 : -2147483648 ≤ x2 ∧ x2 ≤ 2147483647) (g3 : -2147483648 ≤ x3 ∧ x3 ≤ 2147483647) (c1 : 0 ≤ x1) (v3 : Int) (e3 : v3 = S.1 2 8) (b3 : -2147483648 ≤ v3 ∧ v3 ≤ 2147483647) (c2 : v3 ≤ x1) : s126 S x1 x2 x3 0 S := by
  exact rfl
theorem q126_2 (S : fx_S) (x1 x2 x3 : Int) (hS : fx_Sok S) (g1 : -2147483648 ≤ x1 ∧ x1 ≤ 2147483647) (g2 : -2147483648 ≤ x2 ∧ x2 ≤ 2147483647) (g3 : -2147483648 ≤ x3 ∧ x3 ≤ 2147483647) (c1 : 0 ≤ x1) (v3 : Int) (e3 : v3 = S.1 2 8) (b3 : -2147483648 ≤ v3 ∧ v3 ≤ 2147483647) (c2 : x1 < v3) (c3 : 0 ≤ x1) (c4 : x1 < 10) (v4 : Int) (e4 : v4 = S.2.1 9 x1) (c5 : v4 = (-1)) : s126 S x1 x2 x3 0 S := by
  exact rfl
theorem q126_3 (S : fx_S) (x1 x2 x3 : Int) (hS : fx_Sok S) (g1 : -2147483648 ≤ x1 ∧ x1 ≤ 2147483647) (g2 : -2147483648 ≤ x2 ∧ x2 ≤ 2147483647) (g3 : -2147483648 ≤ x3 ∧ x3 ≤ 2147483647) (c1 : 0 ≤ x1) (v3 : Int) (e3 : v3 = S.1 2 8) (b3 : -2147483648 ≤ v3 ∧ v3 ≤ 2147483647) (c2 : x1 < v3) (c3 : 0 ≤ x1) (c4 : x1 < 10) (v4 : Int) (e4 : v4 = S.2.1 9 x1) (c5 : v4 ≠ (-1)) (c6 : 0 ≤ x2) (c7 : x2 < 40) (v5 : Int) (e5 : v5 = S.1 3 x2) (b5 : -2147483648 ≤ v5 ∧ v5 ≤ 2147483647) (c8 : 0 ≤ x2) (c9 : x2 < 40) (v6 : Int) (e6 : v6 = S.1 4 x2) (b6 : -2147483648 ≤ v6 ∧ v6 ≤ 2147483647) (v7 : Int) (S1 : fx_S) (k1 : fx_Sok S1) (b7 : -2147483648 ≤ v7 ∧ v7 ≤ 2147483647) (p1 : s129 S x2 x3 v7 S1) (v8 : Int) (S2 : fx_S) (k2 : fx_Sok S2) (b8 : -2147483648 ≤ v8 ∧ v8 ≤ 2147483647) (p2 : s229 S1 v4 v5 v6 v7 v8 S2) : s126 S x1 x2 x3 v8 S2 := by
  obtain rfl : S = S1 := p1
  obtain rfl : S = S2 := p2
  exact rfl
theorem q127_0 (S : fx_S) (x1 x2 : Int) (hS : fx_Sok S) (g1 : -2147483648 ≤ x1 ∧ x1 ≤ 2147483647) (g2 : -2147483648 ≤ x2 ∧ x2 ≤ 2147483647) (v2 : Int) (e2 : v2 = fx_mul 4 x1) (v3 : Int) (e3 : v3 = fx_add 20 v2) (v4 : Int) (e4 : v4 = fx_add v3 2) (c1 : 0 ≤ v4) (c2 : v4 < 8090) (v5 : Int) (e5 : v5 = S.1 67 v4) (b5 : -2147483648 ≤ v5 ∧ v5 ≤ 2147483647) (z : Int) (Z : fx_S) (kz : fx_Sok Z) (bz : -2147483648 ≤ z ∧ z ≤ 2147483647) (pz : s230 S x1 x2 v5 180 z Z) : s127 S x1 x2 z Z := by
  obtain rfl : S = Z := pz
  exact rfl
theorem q128_0 (S : fx_S) (x1 x2 x3 : Int) (hS : fx_Sok S) (g1 : -2147483648 ≤ x1 ∧ x1 ≤ 2147483647) (g2 : -2147483648 ≤ x2 ∧ x2 ≤ 2147483647) (g3 : -2147483648 ≤ x3 ∧ x3 ≤ 2147483647) (S1 : fx_S) (d1 : S1 = (fx_up S.1 66 15 (-1), S.2)) (z : Int) (Z : fx_S) (kz : fx_Sok Z) (bz : -2147483648 ≤ z ∧ z ≤ 2147483647) (pz : s231 S1 x1 x2 x3 0 0 z Z) : s128 S x1 x2 x3 z Z := by
  obtain ⟨rZ, fZ, pz⟩ := pz
  refine ⟨(rZ).trans ((show S1.2 = S.2 by rw [d1])), ?_, ?_⟩
  · intro p i hW
    exact ((fZ p i (by omega))).trans ((show S1.1 p i = S.1 p i by rw [d1]; exact if_neg (by omega)))
  · skip
    intro hB a1
    have hS : S1.1 66 15 = -1 := by rw [d1]; first | exact if_pos ⟨rfl, rfl⟩ | rfl
    have hw : ∀ i, S1.1 67 i = S.1 67 i := fun i => by rw [d1]; first | exact if_neg (by omega) | rfl
    exact pz (by rw [d1]; exact fx_WB_off hB (by omega)) (by rw [hw]; exact a1) (by omega) (by omega) (by omega)
theorem q129_0 (S : fx_S) (x1 x2 : Int) (hS : fx_Sok S) (g1 : -2147483648 ≤ x1 ∧ x1 ≤ 2147483647) (g2 : -2147483648 ≤ x2 ∧ x2 ≤ 2147483647) (v2 : Int) (e2 : v2 = S.1 2 4) (b2 : -2147483648 ≤ v2 ∧ v2 ≤ 2147483647) (v3 : Int) (e3 : v3 = fx_sub v2 1) (z : Int) (Z : fx_S) (kz : fx_Sok Z) (bz : -2147483648 ≤ z ∧ z ≤ 2147483647) (pz : s232 S x1 x2 v3 z Z) : s129 S x1 x2 z Z := by
  obtain rfl : S = Z := pz
  exact rfl
theorem q130_0 (S : fx_S) (x1 x2 x3 : Int) (hS : fx_Sok S) (g1 : -2147483648 ≤ x1 ∧ x1 ≤ 2147483647) (g2 : -2147483648 ≤ x2 ∧ x2 ≤ 2147483647) (g3 : -2147483648 ≤ x3 ∧ x3 ≤ 2147483647) (c1 : x2 < 0) : s130 S x1 x2 x3 (-1) S := by
  exact rfl
theorem q130_1 (S : fx_S) (x1 x2 x3 : Int) (hS : fx_Sok S) (g1 : -2147483648 ≤ x1 ∧ x1 ≤ 2147483647) (g2 : -2147483648 ≤ x2 ∧ x2 ≤ 2147483647) (g3 : -2147483648 ≤ x3 ∧ x3 ≤ 2147483647) (c1 : 0 ≤ x2) (v3 : Int) (e3 : v3 = S.1 2 8) (b3 : -2147483648 ≤ v3 ∧ v3 ≤ 2147483647) (c2 : v3 ≤ x2) : s130 S x1 x2 x3 (-1) S := by
  exact rfl
theorem q130_2 (S : fx_S) (x1 x2 x3 : Int) (hS : fx_Sok S) (g1 : -2147483648 ≤ x1 ∧ x1 ≤ 2147483647) (g2 : -2147483648 ≤ x2 ∧ x2 ≤ 2147483647) (g3 : -2147483648 ≤ x3 ∧ x3 ≤ 2147483647) (c1 : 0 ≤ x2) (v3 : Int) (e3 : v3 = S.1 2 8) (b3 : -2147483648 ≤ v3 ∧ v3 ≤ 2147483647) (c2 : x2 < v3) (c3 : 0 ≤ x2) (c4 : x2 < 10) (v4 : Int) (e4 : v4 = S.2.1 9 x2) (c5 : v4 = (-1)) : s130 S x1 x2 x3 (-1) S := by
  exact rfl
theorem q130_3 (S : fx_S) (x1 x2 x3 : Int) (hS : fx_Sok S) (g1 : -2147483648 ≤ x1 ∧ x1 ≤ 2147483647) (g2 : -2147483648 ≤ x2 ∧ x2 ≤ 2147483647) (g3 : -2147483648 ≤ x3 ∧ x3 ≤ 2147483647) (c1 : 0 ≤ x2) (v3 : Int) (e3 : v3 = S.1 2 8) (b3 : -2147483648 ≤ v3 ∧ v3 ≤ 2147483647) (c2 : x2 < v3) (c3 : 0 ≤ x2) (c4 : x2 < 10) (v4 : Int) (e4 : v4 = S.2.1 9 x2) (c5 : v4 ≠ (-1)) (c6 : 0 ≤ x3) (c7 : x3 < 40) (v5 : Int) (e5 : v5 = S.1 3 x3) (b5 : -2147483648 ≤ v5 ∧ v5 ≤ 2147483647) (c8 : 0 ≤ x3) (c9 : x3 < 40) (v6 : Int) (e6 : v6 = S.1 4 x3) (b6 : -2147483648 ≤ v6 ∧ v6 ≤ 2147483647) (v7 : Int) (S1 : fx_S) (k1 : fx_Sok S1) (b7 : -2147483648 ≤ v7 ∧ v7 ≤ 2147483647) (p1 : s233 S v4 v5 v6 x1 v7 S1) : s130 S x1 x2 x3 v7 S1 := by
  obtain rfl : S = S1 := p1
  exact rfl
theorem q131_0 (S : fx_S) (x1 x3 x4 x5 x6 : Int) (hS : fx_Sok S) (g1 : -2147483648 ≤ x1 ∧ x1 ≤ 2147483647) (g3 : -2147483648 ≤ x3 ∧ x3 ≤ 2147483647) (g4 : -2147483648 ≤ x4 ∧ x4 ≤ 2147483647) (g5 : -2147483648 ≤ x5 ∧ x5 ≤ 2147483647) (g6 : -2147483648 ≤ x6 ∧ x6 ≤ 2147483647) (c1 : 10 ≤ x6) : s131 S x1 x3 x4 x5 x6 x5 S := by
  exact rfl
theorem q131_1 (S : fx_S) (x1 x3 x4 x5 x6 : Int) (hS : fx_Sok S) (g1 : -2147483648 ≤ x1 ∧ x1 ≤ 2147483647) (g3 : -2147483648 ≤ x3 ∧ x3 ≤ 2147483647) (g4 : -2147483648 ≤ x4 ∧ x4 ≤ 2147483647) (g5 : -2147483648 ≤ x5 ∧ x5 ≤ 2147483647) (g6 : -2147483648 ≤ x6 ∧ x6 ≤ 2147483647) (c1 : x6 < 10) (v5 : Int) (S1 : fx_S) (k1 : fx_Sok S1) (b5 : -2147483648 ≤ v5 ∧ v5 ≤ 2147483647) (p1 : s130 S x6 x3 x1 v5 S1) (c2 : v5 = x4) (v6 : Int) (e6 : v6 = fx_add x6 1) (z : Int) (Z : fx_S) (kz : fx_Sok Z) (bz : -2147483648 ≤ z ∧ z ≤ 2147483647) (pz : s131 S1 x1 x3 x4 x5 v6 z Z) : s131 S x1 x3 x4 x5 x6 z Z := by
  obtain rfl : S = S1 := p1
  obtain rfl : S = Z := pz
  exact rfl
theorem q131_2 (S : fx_S) (x1 x3 x4 x5 x6 : Int) (hS : fx_Sok S) (g1 : -2147483648 ≤ x1 ∧ x1 ≤ 2147483647) (g3 : -2147483648 ≤ x3 ∧ x3 ≤ 2147483647) (g4 : -2147483648 ≤ x4 ∧ x4 ≤ 2147483647) (g5 : -2147483648 ≤ x5 ∧ x5 ≤ 2147483647) (g6 : -2147483648 ≤ x6 ∧ x6 ≤ 2147483647) (c1 : x6 < 10) (v5 : Int) (S1 : fx_S) (k1 : fx_Sok S1) (b5 : -2147483648 ≤ v5 ∧ v5 ≤ 2147483647) (p1 : s130 S x6 x3 x1 v5 S1) (c2 : v5 ≠ x4) (v6 : Int) (e6 : v6 = fx_shl 1 x6) (v7 : Int) (e7 : v7 = fx_or x5 v6) (v8 : Int) (e8 : v8 = fx_add x6 1) (z : Int) (Z : fx_S) (kz : fx_Sok Z) (bz : -2147483648 ≤ z ∧ z ≤ 2147483647) (pz : s131 S1 x1 x3 x4 v7 v8 z Z) : s131 S x1 x3 x4 x5 x6 z Z := by
  obtain rfl : S = S1 := p1
  obtain rfl : S = Z := pz
  exact rfl
theorem q132_0 (S : fx_S) (x1 x2 x3 x4 x5 : Int) (hS : fx_Sok S) (g1 : -2147483648 ≤ x1 ∧ x1 ≤ 2147483647) (g2 : -2147483648 ≤ x2 ∧ x2 ≤ 2147483647) (g3 : -2147483648 ≤ x3 ∧ x3 ≤ 2147483647) (g4 : -2147483648 ≤ x4 ∧ x4 ≤ 2147483647) (g5 : -2147483648 ≤ x5 ∧ x5 ≤ 2147483647) (c1 : 10 ≤ x5) : s132 S x1 x2 x3 x4 x5 x4 S := by
  refine ⟨rfl, ?_⟩
  · intro p i hW
    clear c1
    exact rfl
theorem q132_1 (S : fx_S) (x1 x2 x3 x4 x5 : Int) (hS : fx_Sok S) (g1 : -2147483648 ≤ x1 ∧ x1 ≤ 2147483647) (g2 : -2147483648 ≤ x2 ∧ x2 ≤ 2147483647) (g3 : -2147483648 ≤ x3 ∧ x3 ≤ 2147483647) (g4 : -2147483648 ≤ x4 ∧ x4 ≤ 2147483647) (g5 : -2147483648 ≤ x5 ∧ x5 ≤ 2147483647) (c1 : x5 < 10) (v5 : Int) (S1 : fx_S) (k1 : fx_Sok S1) (b5 : -2147483648 ≤ v5 ∧ v5 ≤ 2147483647) (p1 : s128 S x2 x1 x5 v5 S1) (v6 : Int) (e6 : v6 = S1.1 66 15) (b6 : -2147483648 ≤ v6 ∧ v6 ≤ 2147483647) (c2 : v6 ≠ x3) (v7 : Int) (e7 : v7 = fx_shl 1 x5) (v8 : Int) (e8 : v8 = fx_or x4 v7) (v9 : Int) (e9 : v9 = fx_add x5 1) (z : Int) (Z : fx_S) (kz : fx_Sok Z) (bz : -2147483648 ≤ z ∧ z ≤ 2147483647) (pz : s132 S1 x1 x2 x3 v8 v9 z Z) : s132 S x1 x2 x3 x4 x5 z Z := by
  obtain ⟨r1, f1, p1⟩ := p1
  obtain ⟨rZ, fZ⟩ := pz
  refine ⟨(rZ).trans (r1), ?_⟩
  · intro p i hW
    clear e9 e8 e7 c2 b6 e6 b5 c1
    exact ((fZ p i (by omega))).trans ((f1 p i (by omega)))
theorem q132_2 (S : fx_S) (x1 x2 x3 x4 x5 : Int) (hS : fx_Sok S) (g1 : -2147483648 ≤ x1 ∧ x1 ≤ 2147483647) (g2 : -2147483648 ≤ x2 ∧ x2 ≤ 2147483647) (g3 : -2147483648 ≤ x3 ∧ x3 ≤ 2147483647) (g4 : -2147483648 ≤ x4 ∧ x4 ≤ 2147483647) (g5 : -2147483648 ≤ x5 ∧ x5 ≤ 2147483647) (c1 : x5 < 10) (v5 : Int) (S1 : fx_S) (k1 : fx_Sok S1) (b5 : -2147483648 ≤ v5 ∧ v5 ≤ 2147483647) (p1 : s128 S x2 x1 x5 v5 S1) (v6 : Int) (e6 : v6 = S1.1 66 15) (b6 : -2147483648 ≤ v6 ∧ v6 ≤ 2147483647) (c2 : v6 = x3) (v7 : Int) (e7 : v7 = fx_or x4 0) (v8 : Int) (e8 : v8 = fx_add x5 1) (z : Int) (Z : fx_S) (kz : fx_Sok Z) (bz : -2147483648 ≤ z ∧ z ≤ 2147483647) (pz : s132 S1 x1 x2 x3 v7 v8 z Z) : s132 S x1 x2 x3 x4 x5 z Z := by
  obtain ⟨r1, f1, p1⟩ := p1
  obtain ⟨rZ, fZ⟩ := pz
  refine ⟨(rZ).trans (r1), ?_⟩
  · intro p i hW
    clear e8 e7 c2 b6 e6 b5 c1
    exact ((fZ p i (by omega))).trans ((f1 p i (by omega)))
theorem q133_0 (S : fx_S) (x1 x2 x3 : Int) (hS : fx_Sok S) (g1 : -2147483648 ≤ x1 ∧ x1 ≤ 2147483647) (g2 : -2147483648 ≤ x2 ∧ x2 ≤ 2147483647) (g3 : -2147483648 ≤ x3 ∧ x3 ≤ 2147483647) (v3 : Int) (e3 : v3 = S.1 13 0) (b3 : -2147483648 ≤ v3 ∧ v3 ≤ 2147483647) (c1 : v3 < 80) (v4 : Int) (e4 : v4 = S.1 13 0) (b4 : -2147483648 ≤ v4 ∧ v4 ≤ 2147483647) (c2 : 0 ≤ v4) (c3 : v4 < 80) (S1 : fx_S) (d1 : S1 = (fx_up S.1 14 v4 x1, S.2)) (v5 : Int) (e5 : v5 = S1.1 13 0) (b5 : -2147483648 ≤ v5 ∧ v5 ≤ 2147483647) (c4 : 0 ≤ v5) (c5 : v5 < 80) (S2 : fx_S) (d2 : S2 = (fx_up S1.1 15 v5 x2, S1.2)) (v6 : Int) (e6 : v6 = S2.1 13 0) (b6 : -2147483648 ≤ v6 ∧ v6 ≤ 2147483647) (c6 : 0 ≤ v6) (c7 : v6 < 80) (S3 : fx_S) (d3 : S3 = (fx_up S2.1 16 v6 x3, S2.2)) (v7 : Int) (e7 : v7 = S3.1 13 0) (b7 : -2147483648 ≤ v7 ∧ v7 ≤ 2147483647) (c8 : 0 ≤ v7) (c9 : v7 < 80) (S4 : fx_S) (d4 : S4 = (fx_up S3.1 17 v7 3600, S3.2)) (v8 : Int) (e8 : v8 = S4.1 13 0) (b8 : -2147483648 ≤ v8 ∧ v8 ≤ 2147483647) (c10 : 0 ≤ v8) (c11 : v8 < 80) (S5 : fx_S) (d5 : S5 = (fx_up S4.1 18 v8 99, S4.2)) (v9 : Int) (e9 : v9 = S5.1 13 0) (b9 : -2147483648 ≤ v9 ∧ v9 ≤ 2147483647) (c12 : 0 ≤ v9) (c13 : v9 < 80) (S6 : fx_S) (d6 : S6 = (fx_up S5.1 19 v9 0, S5.2)) (v10 : Int) (e10 : v10 = S6.1 13 0) (b10 : -2147483648 ≤ v10 ∧ v10 ≤ 2147483647) (v11 : Int) (e11 : v11 = fx_add v10 1) (S7 : fx_S) (d7 : S7 = (fx_up S6.1 13 0 v11, S6.2)) (v12 : Int) (e12 : v12 = S7.1 13 0) (b12 : -2147483648 ≤ v12 ∧ v12 ≤ 2147483647) (v13 : Int) (e13 : v13 = fx_sub v12 1) : s133 S x1 x2 x3 v13 S7 := by
  refine ⟨((show S7.2 = S6.2 by rw [d7])).trans (((show S6.2 = S5.2 by rw [d6])).trans (((show S5.2 = S4.2 by rw [d5])).trans (((show S4.2 = S3.2 by rw [d4])).trans (((show S3.2 = S2.2 by rw [d3])).trans (((show S2.2 = S1.2 by rw [d2])).trans ((show S1.2 = S.2 by rw [d1]))))))), ?_, ?_⟩
  · intro p i hW
    clear e13 b12 e12 e11 b10 e10 c13 c12 b9 e9 c11 c10 b8 e8 c9 c8 b7 e7 c7 c6 b6 e6 c5 c4 b5 e5 c3 c2 b4 e4 c1 b3 e3
    exact ((show S7.1 p i = S6.1 p i by rw [d7]; exact if_neg (by omega))).trans (((show S6.1 p i = S5.1 p i by rw [d6]; exact if_neg (by omega))).trans (((show S5.1 p i = S4.1 p i by rw [d5]; exact if_neg (by omega))).trans (((show S4.1 p i = S3.1 p i by rw [d4]; exact if_neg (by omega))).trans (((show S3.1 p i = S2.1 p i by rw [d3]; exact if_neg (by omega))).trans (((show S2.1 p i = S1.1 p i by rw [d2]; exact if_neg (by omega))).trans ((show S1.1 p i = S.1 p i by rw [d1]; exact if_neg (by omega))))))))
  · skip
    obtain rfl : v3 = v4 := by rw [e4, e3]
    have t5_1 : S1.1 13 0 = S.1 13 0 := by rw [d1]; first | exact if_neg (by omega) | rfl
    rw [t5_1] at e5
    obtain rfl : v3 = v5 := by rw [e5, e3]
    have t6_2 : S2.1 13 0 = S1.1 13 0 := by rw [d2]; first | exact if_neg (by omega) | rfl
    rw [t6_2] at e6
    have t6_1 : S1.1 13 0 = S.1 13 0 := by rw [d1]; first | exact if_neg (by omega) | rfl
    rw [t6_1] at e6
    obtain rfl : v3 = v6 := by rw [e6, e3]
    have t7_3 : S3.1 13 0 = S2.1 13 0 := by rw [d3]; first | exact if_neg (by omega) | rfl
    rw [t7_3] at e7
    have t7_2 : S2.1 13 0 = S1.1 13 0 := by rw [d2]; first | exact if_neg (by omega) | rfl
    rw [t7_2] at e7
    have t7_1 : S1.1 13 0 = S.1 13 0 := by rw [d1]; first | exact if_neg (by omega) | rfl
    rw [t7_1] at e7
    obtain rfl : v3 = v7 := by rw [e7, e3]
    have t8_4 : S4.1 13 0 = S3.1 13 0 := by rw [d4]; first | exact if_neg (by omega) | rfl
    rw [t8_4] at e8
    have t8_3 : S3.1 13 0 = S2.1 13 0 := by rw [d3]; first | exact if_neg (by omega) | rfl
    rw [t8_3] at e8
    have t8_2 : S2.1 13 0 = S1.1 13 0 := by rw [d2]; first | exact if_neg (by omega) | rfl
    rw [t8_2] at e8
    have t8_1 : S1.1 13 0 = S.1 13 0 := by rw [d1]; first | exact if_neg (by omega) | rfl
    rw [t8_1] at e8
    obtain rfl : v3 = v8 := by rw [e8, e3]
    have t9_5 : S5.1 13 0 = S4.1 13 0 := by rw [d5]; first | exact if_neg (by omega) | rfl
    rw [t9_5] at e9
    have t9_4 : S4.1 13 0 = S3.1 13 0 := by rw [d4]; first | exact if_neg (by omega) | rfl
    rw [t9_4] at e9
    have t9_3 : S3.1 13 0 = S2.1 13 0 := by rw [d3]; first | exact if_neg (by omega) | rfl
    rw [t9_3] at e9
    have t9_2 : S2.1 13 0 = S1.1 13 0 := by rw [d2]; first | exact if_neg (by omega) | rfl
    rw [t9_2] at e9
    have t9_1 : S1.1 13 0 = S.1 13 0 := by rw [d1]; first | exact if_neg (by omega) | rfl
    rw [t9_1] at e9
    obtain rfl : v3 = v9 := by rw [e9, e3]
    have t10_6 : S6.1 13 0 = S5.1 13 0 := by rw [d6]; first | exact if_neg (by omega) | rfl
    rw [t10_6] at e10
    have t10_5 : S5.1 13 0 = S4.1 13 0 := by rw [d5]; first | exact if_neg (by omega) | rfl
    rw [t10_5] at e10
    have t10_4 : S4.1 13 0 = S3.1 13 0 := by rw [d4]; first | exact if_neg (by omega) | rfl
    rw [t10_4] at e10
    have t10_3 : S3.1 13 0 = S2.1 13 0 := by rw [d3]; first | exact if_neg (by omega) | rfl
    rw [t10_3] at e10
    have t10_2 : S2.1 13 0 = S1.1 13 0 := by rw [d2]; first | exact if_neg (by omega) | rfl
    rw [t10_2] at e10
    have t10_1 : S1.1 13 0 = S.1 13 0 := by rw [d1]; first | exact if_neg (by omega) | rfl
    rw [t10_1] at e10
    obtain rfl : v3 = v10 := by rw [e10, e3]
    have h11 := e11
    first | rw [fx_add_eq (by omega) (by omega)] at h11 | skip
    have t12_7 : S7.1 13 0 = v11 := by rw [d7]; first | exact if_pos ⟨rfl, by omega⟩ | rfl
    rw [t12_7] at e12
    obtain rfl : v11 = v12 := e12.symm
    have h13 := e13
    first | rw [fx_sub_eq (by omega) (by omega)] at h13 | skip
    refine .inr ⟨by omega, by omega, ?_, fun i => ?_⟩
    · rw [d7]
      show v11 = S.1 13 0 + 1
      omega
    · by_cases hi : i = S.1 13 0
      · refine ⟨?_, ?_, ?_, ?_, ?_, ?_⟩
        all_goals (subst d7; subst d6; subst d5; subst d4; subst d3; subst d2; subst d1; dsimp only [fx_up]; repeat (first | rw [if_pos (by omega)] | rw [if_neg (by omega)]))
        all_goals first | omega | rfl
      · refine ⟨?_, ?_, ?_, ?_, ?_, ?_⟩
        all_goals (subst d7; subst d6; subst d5; subst d4; subst d3; subst d2; subst d1; dsimp only [fx_up]; repeat (first | rw [if_pos (by omega)] | rw [if_neg (by omega)]))
        all_goals first | omega | rfl
theorem q133_1 (S : fx_S) (x1 x2 x3 : Int) (hS : fx_Sok S) (g1 : -2147483648 ≤ x1 ∧ x1 ≤ 2147483647) (g2 : -2147483648 ≤ x2 ∧ x2 ≤ 2147483647) (g3 : -2147483648 ≤ x3 ∧ x3 ≤ 2147483647) (v3 : Int) (e3 : v3 = S.1 13 0) (b3 : -2147483648 ≤ v3 ∧ v3 ≤ 2147483647) (c1 : 80 ≤ v3) : s133 S x1 x2 x3 (-3) S := by
  refine ⟨rfl, ?_, ?_⟩
  · intro p i hW
    clear c1 b3 e3
    exact rfl
  · skip
    exact .inl ⟨rfl, by omega, rfl⟩
theorem q134_0 (S : fx_S) (x1 x2 x3 : Int) (hS : fx_Sok S) (g1 : -2147483648 ≤ x1 ∧ x1 ≤ 2147483647) (g2 : -2147483648 ≤ x2 ∧ x2 ≤ 2147483647) (g3 : -2147483648 ≤ x3 ∧ x3 ≤ 2147483647) (v3 : Int) (e3 : v3 = fx_add x3 1) (c1 : 0 ≤ x1) (c2 : x1 < 4) (v4 : Int) (e4 : v4 = S.1 54 x1) (b4 : -2147483648 ≤ v4 ∧ v4 ≤ 2147483647) (c3 : v4 ≤ v3) : s134 S x1 x2 x3 x2 S := by
  refine ⟨rfl, ?_, ?_⟩
  · intro p i hW
    clear c3 b4 e4 c2 c1 e3
    exact rfl
  · skip
    intro w k hb hd hv hp a0 a3 a1 a2
    have h3 := e3
    first | rw [fx_add_eq (by omega) (by omega)] at h3 | skip
    have r13 : S.1 13 0 = w 2 := hp.1
    have r10 : S.1 1 0 = w 0 := hd.1
    have NN := hb.1
    have N2 := hb.2.1
    cases k with
    | zero => exact ⟨rfl, hp⟩
    | succ k =>
      unfold fx_oat
      rw [if_pos (by omega)]
      exact ⟨rfl, hp⟩
theorem q134_1 (S : fx_S) (x1 x2 x3 : Int) (hS : fx_Sok S) (g1 : -2147483648 ≤ x1 ∧ x1 ≤ 2147483647) (g2 : -2147483648 ≤ x2 ∧ x2 ≤ 2147483647) (g3 : -2147483648 ≤ x3 ∧ x3 ≤ 2147483647) (v3 : Int) (e3 : v3 = fx_add x3 1) (c1 : 0 ≤ x1) (c2 : x1 < 4) (v4 : Int) (e4 : v4 = S.1 54 x1) (b4 : -2147483648 ≤ v4 ∧ v4 ≤ 2147483647) (c3 : v3 < v4) (v5 : Int) (e5 : v5 = fx_mul x1 60) (v6 : Int) (e6 : v6 = fx_add v5 x3) (c4 : 0 ≤ v6) (c5 : v6 < 240) (v7 : Int) (e7 : v7 = S.1 55 v6) (b7 : -9223372036854775808 ≤ v7 ∧ v7 ≤ 9223372036854775807) (v8 : Int) (e8 : v8 = fx_add x3 1) (v9 : Int) (e9 : v9 = fx_mul x1 60) (v10 : Int) (e10 : v10 = fx_add v9 v8) (c6 : 0 ≤ v10) (c7 : v10 < 240) (v11 : Int) (e11 : v11 = S.1 55 v10) (b11 : -9223372036854775808 ≤ v11 ∧ v11 ≤ 9223372036854775807) (v12 : Int) (e12 : v12 = fx_lcm v7 0) (c8 : v7 < 0) : s134 S x1 x2 x3 x2 S := by
  refine ⟨rfl, ?_, ?_⟩
  · intro p i hW
    clear c8 e12 b11 e11 c7 c6 e10 e9 e8 b7 e7 c5 c4 e6 e5 c3 b4 e4 c2 c1 e3
    exact rfl
  · skip
    intro w k hb hd hv hp a0 a3 a1 a2
    have h3 := e3
    first | rw [fx_add_eq (by omega) (by omega)] at h3 | skip
    have h5 := e5
    first | rw [fx_mul_eq (by omega) (by omega)] at h5 | skip
    have h6 := e6
    first | rw [fx_add_eq (by omega) (by omega)] at h6 | skip
    obtain rfl : v3 = v8 := by rw [e8, e3]
    obtain rfl : v5 = v9 := by rw [e9, e5]
    have h10 := e10
    first | rw [fx_add_eq (by omega) (by omega)] at h10 | skip
    have r13 : S.1 13 0 = w 2 := hp.1
    have r10 : S.1 1 0 = w 0 := hd.1
    have NN := hb.1
    have N2 := hb.2.1
    cases k with
    | zero => exact absurd a2 (by omega)
    | succ k =>
      unfold fx_oat
      rw [if_neg (by omega), show 60 * x1 + x3 = v6 by omega, show 60 * x1 + (x3 + 1) = v10 by omega, ← e7, ← e11]
      rw [if_neg (by omega)]
      exact ⟨rfl, hp⟩
theorem q134_2 (S : fx_S) (x1 x2 x3 : Int) (hS : fx_Sok S) (g1 : -2147483648 ≤ x1 ∧ x1 ≤ 2147483647) (g2 : -2147483648 ≤ x2 ∧ x2 ≤ 2147483647) (g3 : -2147483648 ≤ x3 ∧ x3 ≤ 2147483647) (v3 : Int) (e3 : v3 = fx_add x3 1) (c1 : 0 ≤ x1) (c2 : x1 < 4) (v4 : Int) (e4 : v4 = S.1 54 x1) (b4 : -2147483648 ≤ v4 ∧ v4 ≤ 2147483647) (c3 : v3 < v4) (v5 : Int) (e5 : v5 = fx_mul x1 60) (v6 : Int) (e6 : v6 = fx_add v5 x3) (c4 : 0 ≤ v6) (c5 : v6 < 240) (v7 : Int) (e7 : v7 = S.1 55 v6) (b7 : -9223372036854775808 ≤ v7 ∧ v7 ≤ 9223372036854775807) (v8 : Int) (e8 : v8 = fx_add x3 1) (v9 : Int) (e9 : v9 = fx_mul x1 60) (v10 : Int) (e10 : v10 = fx_add v9 v8) (c6 : 0 ≤ v10) (c7 : v10 < 240) (v11 : Int) (e11 : v11 = S.1 55 v10) (b11 : -9223372036854775808 ≤ v11 ∧ v11 ≤ 9223372036854775807) (v12 : Int) (e12 : v12 = fx_lcm v7 0) (c8 : 0 ≤ v7) (v13 : Int) (e13 : v13 = S.1 2 0) (b13 : -2147483648 ≤ v13 ∧ v13 ≤ 2147483647) (v14 : Int) (e14 : v14 = fx_lcm v7 v13) (c9 : v13 ≤ v7) : s134 S x1 x2 x3 x2 S := by
  refine ⟨rfl, ?_, ?_⟩
  · intro p i hW
    clear c9 e14 b13 e13 c8 e12 b11 e11 c7 c6 e10 e9 e8 b7 e7 c5 c4 e6 e5 c3 b4 e4 c2 c1 e3
    exact rfl
  · skip
    intro w k hb hd hv hp a0 a3 a1 a2
    have h3 := e3
    first | rw [fx_add_eq (by omega) (by omega)] at h3 | skip
    have h5 := e5
    first | rw [fx_mul_eq (by omega) (by omega)] at h5 | skip
    have h6 := e6
    first | rw [fx_add_eq (by omega) (by omega)] at h6 | skip
    obtain rfl : v3 = v8 := by rw [e8, e3]
    obtain rfl : v5 = v9 := by rw [e9, e5]
    have h10 := e10
    first | rw [fx_add_eq (by omega) (by omega)] at h10 | skip
    have r13 : S.1 13 0 = w 2 := hp.1
    have r10 : S.1 1 0 = w 0 := hd.1
    have NN := hb.1
    have N2 := hb.2.1
    cases k with
    | zero => exact absurd a2 (by omega)
    | succ k =>
      unfold fx_oat
      rw [if_neg (by omega), show 60 * x1 + x3 = v6 by omega, show 60 * x1 + (x3 + 1) = v10 by omega, ← e7, ← e11]
      rw [if_neg (by omega)]
      exact ⟨rfl, hp⟩
theorem q134_3 (S : fx_S) (x1 x2 x3 : Int) (hS : fx_Sok S) (g1 : -2147483648 ≤ x1 ∧ x1 ≤ 2147483647) (g2 : -2147483648 ≤ x2 ∧ x2 ≤ 2147483647) (g3 : -2147483648 ≤ x3 ∧ x3 ≤ 2147483647) (v3 : Int) (e3 : v3 = fx_add x3 1) (c1 : 0 ≤ x1) (c2 : x1 < 4) (v4 : Int) (e4 : v4 = S.1 54 x1) (b4 : -2147483648 ≤ v4 ∧ v4 ≤ 2147483647) (c3 : v3 < v4) (v5 : Int) (e5 : v5 = fx_mul x1 60) (v6 : Int) (e6 : v6 = fx_add v5 x3) (c4 : 0 ≤ v6) (c5 : v6 < 240) (v7 : Int) (e7 : v7 = S.1 55 v6) (b7 : -9223372036854775808 ≤ v7 ∧ v7 ≤ 9223372036854775807) (v8 : Int) (e8 : v8 = fx_add x3 1) (v9 : Int) (e9 : v9 = fx_mul x1 60) (v10 : Int) (e10 : v10 = fx_add v9 v8) (c6 : 0 ≤ v10) (c7 : v10 < 240) (v11 : Int) (e11 : v11 = S.1 55 v10) (b11 : -9223372036854775808 ≤ v11 ∧ v11 ≤ 9223372036854775807) (v12 : Int) (e12 : v12 = fx_lcm v7 0) (c8 : 0 ≤ v7) (v13 : Int) (e13 : v13 = S.1 2 0) (b13 : -2147483648 ≤ v13 ∧ v13 ≤ 2147483647) (v14 : Int) (e14 : v14 = fx_lcm v7 v13) (c9 : v7 < v13) (v15 : Int) (e15 : v15 = fx_lcm v11 0) (c10 : v11 < 0) : s134 S x1 x2 x3 x2 S := by
  refine ⟨rfl, ?_, ?_⟩
  · intro p i hW
    clear c10 e15 c9 e14 b13 e13 c8 e12 b11 e11 c7 c6 e10 e9 e8 b7 e7 c5 c4 e6 e5 c3 b4 e4 c2 c1 e3
    exact rfl
  · skip
    intro w k hb hd hv hp a0 a3 a1 a2
    have h3 := e3
    first | rw [fx_add_eq (by omega) (by omega)] at h3 | skip
    have h5 := e5
    first | rw [fx_mul_eq (by omega) (by omega)] at h5 | skip
    have h6 := e6
    first | rw [fx_add_eq (by omega) (by omega)] at h6 | skip
    obtain rfl : v3 = v8 := by rw [e8, e3]
    obtain rfl : v5 = v9 := by rw [e9, e5]
    have h10 := e10
    first | rw [fx_add_eq (by omega) (by omega)] at h10 | skip
    have r13 : S.1 13 0 = w 2 := hp.1
    have r10 : S.1 1 0 = w 0 := hd.1
    have NN := hb.1
    have N2 := hb.2.1
    cases k with
    | zero => exact absurd a2 (by omega)
    | succ k =>
      unfold fx_oat
      rw [if_neg (by omega), show 60 * x1 + x3 = v6 by omega, show 60 * x1 + (x3 + 1) = v10 by omega, ← e7, ← e11]
      rw [if_neg (by omega)]
      exact ⟨rfl, hp⟩
theorem q134_4 (S : fx_S) (x1 x2 x3 : Int) (hS : fx_Sok S) (g1 : -2147483648 ≤ x1 ∧ x1 ≤ 2147483647) (g2 : -2147483648 ≤ x2 ∧ x2 ≤ 2147483647) (g3 : -2147483648 ≤ x3 ∧ x3 ≤ 2147483647) (v3 : Int) (e3 : v3 = fx_add x3 1) (c1 : 0 ≤ x1) (c2 : x1 < 4) (v4 : Int) (e4 : v4 = S.1 54 x1) (b4 : -2147483648 ≤ v4 ∧ v4 ≤ 2147483647) (c3 : v3 < v4) (v5 : Int) (e5 : v5 = fx_mul x1 60) (v6 : Int) (e6 : v6 = fx_add v5 x3) (c4 : 0 ≤ v6) (c5 : v6 < 240) (v7 : Int) (e7 : v7 = S.1 55 v6) (b7 : -9223372036854775808 ≤ v7 ∧ v7 ≤ 9223372036854775807) (v8 : Int) (e8 : v8 = fx_add x3 1) (v9 : Int) (e9 : v9 = fx_mul x1 60) (v10 : Int) (e10 : v10 = fx_add v9 v8) (c6 : 0 ≤ v10) (c7 : v10 < 240) (v11 : Int) (e11 : v11 = S.1 55 v10) (b11 : -9223372036854775808 ≤ v11 ∧ v11 ≤ 9223372036854775807) (v12 : Int) (e12 : v12 = fx_lcm v7 0) (c8 : 0 ≤ v7) (v13 : Int) (e13 : v13 = S.1 2 0) (b13 : -2147483648 ≤ v13 ∧ v13 ≤ 2147483647) (v14 : Int) (e14 : v14 = fx_lcm v7 v13) (c9 : v7 < v13) (v15 : Int) (e15 : v15 = fx_lcm v11 0) (c10 : 0 ≤ v11) (v16 : Int) (e16 : v16 = fx_lcm v11 4) (c11 : v11 < 4) (v17 : Int) (e17 : v17 = fx_l2i v7) (v18 : Int) (e18 : v18 = fx_l2i v11) (v19 : Int) (e19 : v19 = S.1 1 0) (b19 : -2147483648 ≤ v19 ∧ v19 ≤ 2147483647) (v20 : Int) (S1 : fx_S) (k1 : fx_Sok S1) (b20 : -2147483648 ≤ v20 ∧ v20 ≤ 2147483647) (p1 : s133 S v17 v18 v19 v20 S1) (c12 : 0 ≤ v20) (v21 : Int) (e21 : v21 = fx_add x2 1) (v22 : Int) (e22 : v22 = fx_add x3 2) (z : Int) (Z : fx_S) (kz : fx_Sok Z) (bz : -2147483648 ≤ z ∧ z ≤ 2147483647) (pz : s134 S1 x1 v21 v22 z Z) : s134 S x1 x2 x3 z Z := by
  obtain ⟨r1, f1, p1⟩ := p1
  obtain ⟨rZ, fZ, pz⟩ := pz
  refine ⟨(rZ).trans (r1), ?_, ?_⟩
  · intro p i hW
    clear e22 e21 c12 b20 b19 e19 e18 e17 c11 e16 c10 e15 c9 e14 b13 e13 c8 e12 b11 e11 c7 c6 e10 e9 e8 b7 e7 c5 c4 e6 e5 c3 b4 e4 c2 c1 e3
    exact ((fZ p i (by omega))).trans ((f1 p i (by omega)))
  · skip
    intro w k hb hd hv hp a0 a3 a1 a2
    have h3 := e3
    first | rw [fx_add_eq (by omega) (by omega)] at h3 | skip
    have h5 := e5
    first | rw [fx_mul_eq (by omega) (by omega)] at h5 | skip
    have h6 := e6
    first | rw [fx_add_eq (by omega) (by omega)] at h6 | skip
    obtain rfl : v3 = v8 := by rw [e8, e3]
    obtain rfl : v5 = v9 := by rw [e9, e5]
    have h10 := e10
    first | rw [fx_add_eq (by omega) (by omega)] at h10 | skip
    have h21 := e21
    first | rw [fx_add_eq (by omega) (by omega)] at h21 | skip
    have h22 := e22
    first | rw [fx_add_eq (by omega) (by omega)] at h22 | skip
    have r13 : S.1 13 0 = w 2 := hp.1
    have r10 : S.1 1 0 = w 0 := hd.1
    have NN := hb.1
    have N2 := hb.2.1
    cases k with
    | zero => exact absurd a2 (by omega)
    | succ k =>
      unfold fx_oat
      rw [if_neg (by omega), show 60 * x1 + x3 = v6 by omega, show 60 * x1 + (x3 + 1) = v10 by omega, ← e7, ← e11]
      have l1 : v17 = v7 := by rw [e17]; exact fx_l2i_eq (by omega) (by omega)
      have l2 : v18 = v11 := by rw [e18]; exact fx_l2i_eq (by omega) (by omega)
      rw [l1, l2] at p1
      rcases p1 with ⟨b1, b2, b3⟩ | ⟨b1, b2, b3, b4⟩
      · omega
      · rw [if_pos ⟨⟨by omega, by omega, by omega, by omega⟩, by omega⟩]
        have g54 : S1.1 54 x1 = S.1 54 x1 := f1 54 x1 (by omega)
        have g55 : (fun i => S1.1 55 (60 * x1 + i)) = (fun i => S.1 55 (60 * x1 + i)) := funext fun i => f1 55 _ (by omega)
        have q := pz (fx_addw w v7 v11) k (fx_WBf_addw hb (by omega)) ⟨by rw [f1 1 0 (by omega), fx_addw_off (by omega) (by omega)]; exact hd.1, by rw [fx_addw_off (by omega) (by omega)]; exact hd.2⟩ (by rw [f1 2 0 (by omega), fx_addw_off (by omega) (by omega)]; exact hv) (fx_Rp_add hb hp hd.2.1 (by omega) (by omega) b3 (fun i => by have u := b4 i; rw [e19, r10] at u; exact u) (fun i => f1 20 i (by omega))) (by omega) (by omega) (by omega) (by omega)
        rw [g54, g55, show v22 = x3 + 2 by omega, show v21 = x2 + 1 by omega] at q
        exact q
theorem q134_5 (S : fx_S) (x1 x2 x3 : Int) (hS : fx_Sok S) (g1 : -2147483648 ≤ x1 ∧ x1 ≤ 2147483647) (g2 : -2147483648 ≤ x2 ∧ x2 ≤ 2147483647) (g3 : -2147483648 ≤ x3 ∧ x3 ≤ 2147483647) (v3 : Int) (e3 : v3 = fx_add x3 1) (c1 : 0 ≤ x1) (c2 : x1 < 4) (v4 : Int) (e4 : v4 = S.1 54 x1) (b4 : -2147483648 ≤ v4 ∧ v4 ≤ 2147483647) (c3 : v3 < v4) (v5 : Int) (e5 : v5 = fx_mul x1 60) (v6 : Int) (e6 : v6 = fx_add v5 x3) (c4 : 0 ≤ v6) (c5 : v6 < 240) (v7 : Int) (e7 : v7 = S.1 55 v6) (b7 : -9223372036854775808 ≤ v7 ∧ v7 ≤ 9223372036854775807) (v8 : Int) (e8 : v8 = fx_add x3 1) (v9 : Int) (e9 : v9 = fx_mul x1 60) (v10 : Int) (e10 : v10 = fx_add v9 v8) (c6 : 0 ≤ v10) (c7 : v10 < 240) (v11 : Int) (e11 : v11 = S.1 55 v10) (b11 : -9223372036854775808 ≤ v11 ∧ v11 ≤ 9223372036854775807) (v12 : Int) (e12 : v12 = fx_lcm v7 0) (c8 : 0 ≤ v7) (v13 : Int) (e13 : v13 = S.1 2 0) (b13 : -2147483648 ≤ v13 ∧ v13 ≤ 2147483647) (v14 : Int) (e14 : v14 = fx_lcm v7 v13) (c9 : v7 < v13) (v15 : Int) (e15 : v15 = fx_lcm v11 0) (c10 : 0 ≤ v11) (v16 : Int) (e16 : v16 = fx_lcm v11 4) (c11 : v11 < 4) (v17 : Int) (e17 : v17 = fx_l2i v7) (v18 : Int) (e18 : v18 = fx_l2i v11) (v19 : Int) (e19 : v19 = S.1 1 0) (b19 : -2147483648 ≤ v19 ∧ v19 ≤ 2147483647) (v20 : Int) (S1 : fx_S) (k1 : fx_Sok S1) (b20 : -2147483648 ≤ v20 ∧ v20 ≤ 2147483647) (p1 : s133 S v17 v18 v19 v20 S1) (c12 : v20 < 0) : s134 S x1 x2 x3 x2 S1 := by
  obtain ⟨r1, f1, p1⟩ := p1
  refine ⟨r1, ?_, ?_⟩
  · intro p i hW
    clear c12 b20 b19 e19 e18 e17 c11 e16 c10 e15 c9 e14 b13 e13 c8 e12 b11 e11 c7 c6 e10 e9 e8 b7 e7 c5 c4 e6 e5 c3 b4 e4 c2 c1 e3
    exact (f1 p i (by omega))
  · skip
    intro w k hb hd hv hp a0 a3 a1 a2
    have h3 := e3
    first | rw [fx_add_eq (by omega) (by omega)] at h3 | skip
    have h5 := e5
    first | rw [fx_mul_eq (by omega) (by omega)] at h5 | skip
    have h6 := e6
    first | rw [fx_add_eq (by omega) (by omega)] at h6 | skip
    obtain rfl : v3 = v8 := by rw [e8, e3]
    obtain rfl : v5 = v9 := by rw [e9, e5]
    have h10 := e10
    first | rw [fx_add_eq (by omega) (by omega)] at h10 | skip
    have r13 : S.1 13 0 = w 2 := hp.1
    have r10 : S.1 1 0 = w 0 := hd.1
    have NN := hb.1
    have N2 := hb.2.1
    cases k with
    | zero => exact absurd a2 (by omega)
    | succ k =>
      unfold fx_oat
      rw [if_neg (by omega), show 60 * x1 + x3 = v6 by omega, show 60 * x1 + (x3 + 1) = v10 by omega, ← e7, ← e11]
      rcases p1 with ⟨b1, b2, b3⟩ | ⟨b1, b2, b3, b4⟩
      · obtain rfl := b3.symm
        rw [if_neg (by omega)]
        exact ⟨rfl, hp⟩
      · omega
