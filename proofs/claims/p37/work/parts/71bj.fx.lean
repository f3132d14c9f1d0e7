/-! FX: what is to be shown of the entries -/
theorem q393_34 (S : fx_S) (x1 : Int) (hS : fx_Sok S) (g1 : -2147483648 ≤ x1 ∧ x1 ≤ 2147483647) (v1 : Int) (e1 : v1 = fx_add x1 3) (c1 : 0 ≤ v1) (c2 : v1 < 260) (v2 : Int) (e2 : v2 = S.1 72 v1) (b2 : -2147483648 ≤ v2 ∧ v2 ≤ 2147483647) (c3 : v2 ≠ 3) (v3 : Int) (e3 : v3 = fx_add x1 4) (v4 : Int) (e4 : v4 = fx_add x1 3) (c4 : 0 ≤ v4) (c5 : v4 < 260) (v5 : Int) (e5 : v5 = S.1 72 v4) (b5 : -2147483648 ≤ v5 ∧ v5 ≤ 2147483647) (v6 : Int) (e6 : v6 = fx_mul 4 v5) (v7 : Int) (e7 : v7 = fx_add v3 v6) (v8 : Int) (S1 : fx_S) (k1 : fx_Sok S1) (b8 : -2147483648 ≤ v8 ∧ v8 ≤ 2147483647) (p1 : s353 S 6 v8 S1) (c6 : v8 ≠ 0) (c7 : 0 ≤ v7) (c8 : v7 < 260) (S2 : fx_S) (d2 : S2 = (fx_up S1.1 72 v7 1, S1.2)) (v9 : Int) (S3 : fx_S) (k3 : fx_Sok S3) (b9 : -2147483648 ≤ v9 ∧ v9 ≤ 2147483647) (p3 : s407 S2  v9 S3) (c9 : v9 ≠ (-1)) (v10 : Int) (e10 : v10 = S3.1 66 12) (b10 : -2147483648 ≤ v10 ∧ v10 ≤ 2147483647) (c10 : v10 = 0) (v11 : Int) (S4 : fx_S) (k4 : fx_Sok S4) (b11 : v11 = 0) (p4 : s120 S3  v11 S4) (v12 : Int) (e12 : v12 = fx_add v7 1) (c11 : 0 ≤ v12) (c12 : v12 < 260) (S5 : fx_S) (d5 : S5 = (fx_up S4.1 72 v12 v9, S4.2)) (c13 : v9 ≠ 3) (v13 : Int) (S6 : fx_S) (k6 : fx_Sok S6) (b13 : -2147483648 ≤ v13 ∧ v13 ≤ 2147483647) (p6 : s352 S5 61 v13 S6) (c14 : v13 = 0) (c15 : v9 ≠ 0) (v14 : Int) (S7 : fx_S) (k7 : fx_Sok S7) (b14 : -2147483648 ≤ v14 ∧ v14 ≤ 2147483647) (p7 : s352 S6 60 v14 S7) (c16 : v14 = 0) (v15 : Int) (S8 : fx_S) (k8 : fx_Sok S8) (b15 : -2147483648 ≤ v15 ∧ v15 ≤ 2147483647) (p8 : s352 S7 62 v15 S8) (c17 : v15 = 0) (v16 : Int) (S9 : fx_S) (k9 : fx_Sok S9) (b16 : v16 = 0) (p9 : s226 S8 1 v16 S9) (v17 : Int) (e17 : v17 = S9.1 66 12) (b17 : -2147483648 ≤ v17 ∧ v17 ≤ 2147483647) (c18 : v17 = 0) (v18 : Int) (e18 : v18 = fx_add v7 2) (v19 : Int) (e19 : v19 = S9.1 66 11) (b19 : -2147483648 ≤ v19 ∧ v19 ≤ 2147483647) (c19 : 0 ≤ v18) (c20 : v18 < 260) (S10 : fx_S) (d10 : S10 = (fx_up S9.1 72 v18 v19, S9.2)) (v20 : Int) (S11 : fx_S) (k11 : fx_Sok S11) (b20 : v20 = 0) (p11 : s120 S10  v20 S11) (v21 : Int) (e21 : v21 = fx_add v7 3) (v22 : Int) (S12 : fx_S) (k12 : fx_Sok S12) (b22 : -2147483648 ≤ v22 ∧ v22 ≤ 2147483647) (p12 : s351 S11 0 9999 v22 S12) (c21 : 0 ≤ v21) (c22 : v21 < 260) (S13 : fx_S) (d13 : S13 = (fx_up S12.1 72 v21 v22, S12.2)) (v23 : Int) (e23 : v23 = fx_add x1 3) (c23 : 0 ≤ v23) (c24 : v23 < 260) (v24 : Int) (e24 : v24 = S13.1 72 v23) (b24 : -2147483648 ≤ v24 ∧ v24 ≤ 2147483647) (v25 : Int) (e25 : v25 = fx_add v24 1) (c25 : 0 ≤ v23) (c26 : v23 < 260) (S14 : fx_S) (d14 : S14 = (fx_up S13.1 72 v23 v25, S13.2)) : s393 S x1 0 S14 := by
  obtain ⟨r1, f1⟩ := p1
  obtain rfl : S2 = S3 := p3
  obtain ⟨r4, f4⟩ := p4
  obtain rfl : S5 = S6 := p6
  obtain rfl : S5 = S7 := p7
  obtain rfl : S5 = S8 := p8
  obtain ⟨r9, f9, p9⟩ := p9
  obtain ⟨r11, f11⟩ := p11
  obtain ⟨r12, f12, p12⟩ := p12
  refine ⟨((show S14.2 = S13.2 by rw [d14])).trans (((show S13.2 = S12.2 by rw [d13])).trans ((r12).trans ((r11).trans (((show S10.2 = S9.2 by rw [d10])).trans ((r9).trans (((show S5.2 = S4.2 by rw [d5])).trans ((r4).trans (((show S2.2 = S1.2 by rw [d2])).trans (r1))))))))), ?_, ?_⟩
  · intro p i hW
    clear c26 c25 e25 b24 e24 c24 c23 e23 c22 c21 b22 e21 b20 c20 c19 b19 e19 e18 c18 b17 e17 b16 c17 b15 c16 b14 c15 c14 b13 c13 c12 c11 e12 b11 c10 b10 e10 c9 b9 c8 c7 c6 b8 e7 e6 b5 e5 c5 c4 e4 e3 c3 b2 e2 c2 c1 e1
    exact ((show S14.1 p i = S13.1 p i by rw [d14]; exact if_neg (by omega))).trans (((show S13.1 p i = S12.1 p i by rw [d13]; exact if_neg (by omega))).trans (((f12 p i (by omega))).trans (((f11 p i (by omega))).trans (((show S10.1 p i = S9.1 p i by rw [d10]; exact if_neg (by omega))).trans (((f9 p i (by omega))).trans (((show S5.1 p i = S4.1 p i by rw [d5]; exact if_neg (by omega))).trans (((f4 p i (by omega))).trans (((show S2.1 p i = S1.1 p i by rw [d2]; exact if_neg (by omega))).trans ((f1 p i (by omega)))))))))))
  · skip
    intro a0 a1
    have f0 := e1
    rw [fx_add_eq (by omega) (by omega)] at f0
    have a2 := a1
    rw [← f0, ← e2] at a2
    have h1 := e1
    first | rw [fx_add_eq (by omega) (by omega)] at h1 | skip
    have h3 := e3
    first | rw [fx_add_eq (by omega) (by omega)] at h3 | skip
    obtain rfl : v1 = v4 := by rw [e4, e1]
    obtain rfl : v2 = v5 := by rw [e5, e2]
    have h6 := e6
    first | rw [fx_mul_eq (by omega) (by omega)] at h6 | skip
    have h7 := e7
    first | rw [fx_add_eq (by omega) (by omega)] at h7 | skip
    have t10_2 : S2.1 66 12 = S1.1 66 12 := by rw [d2]; first | exact if_neg (by omega) | rfl
    rw [t10_2] at e10
    rw [f1 66 12 (by omega)] at e10
    have h12 := e12
    first | rw [fx_add_eq (by omega) (by omega)] at h12 | skip
    have h18 := e18
    first | rw [fx_add_eq (by omega) (by omega)] at h18 | skip
    rw [f9 66 11 (by omega)] at e19
    have t19_5 : S5.1 66 11 = S4.1 66 11 := by rw [d5]; first | exact if_neg (by omega) | rfl
    rw [t19_5] at e19
    have h21 := e21
    first | rw [fx_add_eq (by omega) (by omega)] at h21 | skip
    obtain rfl : v1 = v23 := by rw [e23, e1]
    have t24_13 : S13.1 72 v1 = S12.1 72 v1 := by rw [d13]; first | exact if_neg (by omega) | rfl
    rw [t24_13] at e24
    rw [f12 72 v1 (by omega)] at e24
    rw [f11 72 v1 (by omega)] at e24
    have t24_10 : S10.1 72 v1 = S9.1 72 v1 := by rw [d10]; first | exact if_neg (by omega) | rfl
    rw [t24_10] at e24
    rw [f9 72 v1 (by omega)] at e24
    have t24_5 : S5.1 72 v1 = S4.1 72 v1 := by rw [d5]; first | exact if_neg (by omega) | rfl
    rw [t24_5] at e24
    rw [f4 72 v1 (by omega)] at e24
    have t24_2 : S2.1 72 v1 = S1.1 72 v1 := by rw [d2]; first | exact if_neg (by omega) | rfl
    rw [t24_2] at e24
    rw [f1 72 v1 (by omega)] at e24
    obtain rfl : v2 = v24 := by rw [e24, e2]
    have h25 := e25
    first | rw [fx_add_eq (by omega) (by omega)] at h25 | skip
    refine ⟨?_, fun i hi => (((show S14.1 72 (i) = S13.1 72 (i) by rw [d14]; first | exact if_neg (by omega) | rfl)).trans (((show S13.1 72 (i) = S12.1 72 (i) by rw [d13]; first | exact if_neg (by omega) | rfl)).trans (((f12 72 (i) (by omega))).trans (((f11 72 (i) (by omega))).trans (((show S10.1 72 (i) = S9.1 72 (i) by rw [d10]; first | exact if_neg (by omega) | rfl)).trans (((f9 72 (i) (by omega))).trans (((show S5.1 72 (i) = S4.1 72 (i) by rw [d5]; first | exact if_neg (by omega) | rfl)).trans (((f4 72 (i) (by omega))).trans (((show S2.1 72 (i) = S1.1 72 (i) by rw [d2]; first | exact if_neg (by omega) | rfl)).trans ((f1 72 (i) (by omega))))))))))))⟩
    rw [← f0, show S14.1 72 v1 = v25 by rw [d14]; exact if_pos ⟨rfl, rfl⟩]
    omega
theorem q393_35 (S : fx_S) (x1 : Int) (hS : fx_Sok S) (g1 : -2147483648 ≤ x1 ∧ x1 ≤ 2147483647) (v1 : Int) (e1 : v1 = fx_add x1 3) (c1 : 0 ≤ v1) (c2 : v1 < 260) (v2 : Int) (e2 : v2 = S.1 72 v1) (b2 : -2147483648 ≤ v2 ∧ v2 ≤ 2147483647) (c3 : v2 ≠ 3) (v3 : Int) (e3 : v3 = fx_add x1 4) (v4 : Int) (e4 : v4 = fx_add x1 3) (c4 : 0 ≤ v4) (c5 : v4 < 260) (v5 : Int) (e5 : v5 = S.1 72 v4) (b5 : -2147483648 ≤ v5 ∧ v5 ≤ 2147483647) (v6 : Int) (e6 : v6 = fx_mul 4 v5) (v7 : Int) (e7 : v7 = fx_add v3 v6) (v8 : Int) (S1 : fx_S) (k1 : fx_Sok S1) (b8 : -2147483648 ≤ v8 ∧ v8 ≤ 2147483647) (p1 : s353 S 6 v8 S1) (c6 : v8 ≠ 0) (c7 : 0 ≤ v7) (c8 : v7 < 260) (S2 : fx_S) (d2 : S2 = (fx_up S1.1 72 v7 1, S1.2)) (v9 : Int) (S3 : fx_S) (k3 : fx_Sok S3) (b9 : -2147483648 ≤ v9 ∧ v9 ≤ 2147483647) (p3 : s407 S2  v9 S3) (c9 : v9 ≠ (-1)) (v10 : Int) (e10 : v10 = S3.1 66 12) (b10 : -2147483648 ≤ v10 ∧ v10 ≤ 2147483647) (c10 : v10 = 0) (v11 : Int) (S4 : fx_S) (k4 : fx_Sok S4) (b11 : v11 = 0) (p4 : s120 S3  v11 S4) (v12 : Int) (e12 : v12 = fx_add v7 1) (c11 : 0 ≤ v12) (c12 : v12 < 260) (S5 : fx_S) (d5 : S5 = (fx_up S4.1 72 v12 v9, S4.2)) (c13 : v9 = 3) (v13 : Int) (e13 : v13 = fx_add v7 2) (v14 : Int) (e14 : v14 = S5.1 67 1) (b14 : -2147483648 ≤ v14 ∧ v14 ≤ 2147483647) (v15 : Int) (e15 : v15 = fx_sub v14 1) (v16 : Int) (S6 : fx_S) (k6 : fx_Sok S6) (b16 : -2147483648 ≤ v16 ∧ v16 ≤ 2147483647) (p6 : s351 S5 0 v15 v16 S6) (c14 : 0 ≤ v13) (c15 : v13 < 260) (S7 : fx_S) (d7 : S7 = (fx_up S6.1 72 v13 v16, S6.2)) (v17 : Int) (e17 : v17 = fx_add v7 3) (v18 : Int) (S8 : fx_S) (k8 : fx_Sok S8) (b18 : -2147483648 ≤ v18 ∧ v18 ≤ 2147483647) (p8 : s351 S7 0 9999 v18 S8) (c16 : 0 ≤ v17) (c17 : v17 < 260) (S9 : fx_S) (d9 : S9 = (fx_up S8.1 72 v17 v18, S8.2)) (v19 : Int) (e19 : v19 = fx_add x1 3) (c18 : 0 ≤ v19) (c19 : v19 < 260) (v20 : Int) (e20 : v20 = S9.1 72 v19) (b20 : -2147483648 ≤ v20 ∧ v20 ≤ 2147483647) (v21 : Int) (e21 : v21 = fx_add v20 1) (c20 : 0 ≤ v19) (c21 : v19 < 260) (S10 : fx_S) (d10 : S10 = (fx_up S9.1 72 v19 v21, S9.2)) : s393 S x1 0 S10 := by
  obtain ⟨r1, f1⟩ := p1
  obtain rfl : S2 = S3 := p3
  obtain ⟨r4, f4⟩ := p4
  obtain ⟨r6, f6, p6⟩ := p6
  obtain ⟨r8, f8, p8⟩ := p8
  refine ⟨((show S10.2 = S9.2 by rw [d10])).trans (((show S9.2 = S8.2 by rw [d9])).trans ((r8).trans (((show S7.2 = S6.2 by rw [d7])).trans ((r6).trans (((show S5.2 = S4.2 by rw [d5])).trans ((r4).trans (((show S2.2 = S1.2 by rw [d2])).trans (r1)))))))), ?_, ?_⟩
  · intro p i hW
    clear c21 c20 e21 b20 e20 c19 c18 e19 c17 c16 b18 e17 c15 c14 b16 e15 b14 e14 e13 c13 c12 c11 e12 b11 c10 b10 e10 c9 b9 c8 c7 c6 b8 e7 e6 b5 e5 c5 c4 e4 e3 c3 b2 e2 c2 c1 e1
    exact ((show S10.1 p i = S9.1 p i by rw [d10]; exact if_neg (by omega))).trans (((show S9.1 p i = S8.1 p i by rw [d9]; exact if_neg (by omega))).trans (((f8 p i (by omega))).trans (((show S7.1 p i = S6.1 p i by rw [d7]; exact if_neg (by omega))).trans (((f6 p i (by omega))).trans (((show S5.1 p i = S4.1 p i by rw [d5]; exact if_neg (by omega))).trans (((f4 p i (by omega))).trans (((show S2.1 p i = S1.1 p i by rw [d2]; exact if_neg (by omega))).trans ((f1 p i (by omega))))))))))
  · skip
    intro a0 a1
    have f0 := e1
    rw [fx_add_eq (by omega) (by omega)] at f0
    have a2 := a1
    rw [← f0, ← e2] at a2
    have h1 := e1
    first | rw [fx_add_eq (by omega) (by omega)] at h1 | skip
    have h3 := e3
    first | rw [fx_add_eq (by omega) (by omega)] at h3 | skip
    obtain rfl : v1 = v4 := by rw [e4, e1]
    obtain rfl : v2 = v5 := by rw [e5, e2]
    have h6 := e6
    first | rw [fx_mul_eq (by omega) (by omega)] at h6 | skip
    have h7 := e7
    first | rw [fx_add_eq (by omega) (by omega)] at h7 | skip
    have t10_2 : S2.1 66 12 = S1.1 66 12 := by rw [d2]; first | exact if_neg (by omega) | rfl
    rw [t10_2] at e10
    rw [f1 66 12 (by omega)] at e10
    have h12 := e12
    first | rw [fx_add_eq (by omega) (by omega)] at h12 | skip
    have h13 := e13
    first | rw [fx_add_eq (by omega) (by omega)] at h13 | skip
    have t14_5 : S5.1 67 1 = S4.1 67 1 := by rw [d5]; first | exact if_neg (by omega) | rfl
    rw [t14_5] at e14
    rw [f4 67 1 (by omega)] at e14
    have t14_2 : S2.1 67 1 = S1.1 67 1 := by rw [d2]; first | exact if_neg (by omega) | rfl
    rw [t14_2] at e14
    rw [f1 67 1 (by omega)] at e14
    have h15 := e15
    first | rw [fx_sub_eq (by omega) (by omega)] at h15 | skip
    have h17 := e17
    first | rw [fx_add_eq (by omega) (by omega)] at h17 | skip
    obtain rfl : v1 = v19 := by rw [e19, e1]
    have t20_9 : S9.1 72 v1 = S8.1 72 v1 := by rw [d9]; first | exact if_neg (by omega) | rfl
    rw [t20_9] at e20
    rw [f8 72 v1 (by omega)] at e20
    have t20_7 : S7.1 72 v1 = S6.1 72 v1 := by rw [d7]; first | exact if_neg (by omega) | rfl
    rw [t20_7] at e20
    rw [f6 72 v1 (by omega)] at e20
    have t20_5 : S5.1 72 v1 = S4.1 72 v1 := by rw [d5]; first | exact if_neg (by omega) | rfl
    rw [t20_5] at e20
    rw [f4 72 v1 (by omega)] at e20
    have t20_2 : S2.1 72 v1 = S1.1 72 v1 := by rw [d2]; first | exact if_neg (by omega) | rfl
    rw [t20_2] at e20
    rw [f1 72 v1 (by omega)] at e20
    obtain rfl : v2 = v20 := by rw [e20, e2]
    have h21 := e21
    first | rw [fx_add_eq (by omega) (by omega)] at h21 | skip
    refine ⟨?_, fun i hi => (((show S10.1 72 (i) = S9.1 72 (i) by rw [d10]; first | exact if_neg (by omega) | rfl)).trans (((show S9.1 72 (i) = S8.1 72 (i) by rw [d9]; first | exact if_neg (by omega) | rfl)).trans (((f8 72 (i) (by omega))).trans (((show S7.1 72 (i) = S6.1 72 (i) by rw [d7]; first | exact if_neg (by omega) | rfl)).trans (((f6 72 (i) (by omega))).trans (((show S5.1 72 (i) = S4.1 72 (i) by rw [d5]; first | exact if_neg (by omega) | rfl)).trans (((f4 72 (i) (by omega))).trans (((show S2.1 72 (i) = S1.1 72 (i) by rw [d2]; first | exact if_neg (by omega) | rfl)).trans ((f1 72 (i) (by omega)))))))))))⟩
    rw [← f0, show S10.1 72 v1 = v21 by rw [d10]; exact if_pos ⟨rfl, rfl⟩]
    omega
theorem q393_36 (S : fx_S) (x1 : Int) (hS : fx_Sok S) (g1 : -2147483648 ≤ x1 ∧ x1 ≤ 2147483647) (v1 : Int) (e1 : v1 = fx_add x1 3) (c1 : 0 ≤ v1) (c2 : v1 < 260) (v2 : Int) (e2 : v2 = S.1 72 v1) (b2 : -2147483648 ≤ v2 ∧ v2 ≤ 2147483647) (c3 : v2 ≠ 3) (v3 : Int) (e3 : v3 = fx_add x1 4) (v4 : Int) (e4 : v4 = fx_add x1 3) (c4 : 0 ≤ v4) (c5 : v4 < 260) (v5 : Int) (e5 : v5 = S.1 72 v4) (b5 : -2147483648 ≤ v5 ∧ v5 ≤ 2147483647) (v6 : Int) (e6 : v6 = fx_mul 4 v5) (v7 : Int) (e7 : v7 = fx_add v3 v6) (v8 : Int) (S1 : fx_S) (k1 : fx_Sok S1) (b8 : -2147483648 ≤ v8 ∧ v8 ≤ 2147483647) (p1 : s353 S 6 v8 S1) (c6 : v8 ≠ 0) (c7 : 0 ≤ v7) (c8 : v7 < 260) (S2 : fx_S) (d2 : S2 = (fx_up S1.1 72 v7 1, S1.2)) (v9 : Int) (S3 : fx_S) (k3 : fx_Sok S3) (b9 : -2147483648 ≤ v9 ∧ v9 ≤ 2147483647) (p3 : s407 S2  v9 S3) (c9 : v9 = (-1)) (v10 : Int) (S4 : fx_S) (k4 : fx_Sok S4) (b10 : v10 = 0) (p4 : s226 S3 1 v10 S4) (v11 : Int) (e11 : v11 = S4.1 66 12) (b11 : -2147483648 ≤ v11 ∧ v11 ≤ 2147483647) (c10 : v11 ≠ 0) : s393 S x1 0 S4 := by
  obtain ⟨r1, f1⟩ := p1
  obtain rfl : S2 = S3 := p3
  obtain ⟨r4, f4, p4⟩ := p4
  refine ⟨(r4).trans (((show S2.2 = S1.2 by rw [d2])).trans (r1)), ?_, ?_⟩
  · intro p i hW
    clear c10 b11 e11 b10 c9 b9 c8 c7 c6 b8 e7 e6 b5 e5 c5 c4 e4 e3 c3 b2 e2 c2 c1 e1
    exact ((f4 p i (by omega))).trans (((show S2.1 p i = S1.1 p i by rw [d2]; exact if_neg (by omega))).trans ((f1 p i (by omega))))
  · skip
    intro a0 a1
    have f0 := e1
    rw [fx_add_eq (by omega) (by omega)] at f0
    have a2 := a1
    rw [← f0, ← e2] at a2
    have h1 := e1
    first | rw [fx_add_eq (by omega) (by omega)] at h1 | skip
    have h3 := e3
    first | rw [fx_add_eq (by omega) (by omega)] at h3 | skip
    obtain rfl : v1 = v4 := by rw [e4, e1]
    obtain rfl : v2 = v5 := by rw [e5, e2]
    have h6 := e6
    first | rw [fx_mul_eq (by omega) (by omega)] at h6 | skip
    have h7 := e7
    first | rw [fx_add_eq (by omega) (by omega)] at h7 | skip
    exact ⟨by rw [show S4.1 72 (x1 + 3) = S.1 72 (x1 + 3) from (((f4 72 (x1 + 3) (by omega))).trans (((show S2.1 72 (x1 + 3) = S1.1 72 (x1 + 3) by rw [d2]; first | exact if_neg (by omega) | rfl)).trans ((f1 72 (x1 + 3) (by omega)))))]; exact a1, fun i hi => (((f4 72 (i) (by omega))).trans (((show S2.1 72 (i) = S1.1 72 (i) by rw [d2]; first | exact if_neg (by omega) | rfl)).trans ((f1 72 (i) (by omega)))))⟩
theorem q393_37 (S : fx_S) (x1 : Int) (hS : fx_Sok S) (g1 : -2147483648 ≤ x1 ∧ x1 ≤ 2147483647) (v1 : Int) (e1 : v1 = fx_add x1 3) (c1 : 0 ≤ v1) (c2 : v1 < 260) (v2 : Int) (e2 : v2 = S.1 72 v1) (b2 : -2147483648 ≤ v2 ∧ v2 ≤ 2147483647) (c3 : v2 ≠ 3) (v3 : Int) (e3 : v3 = fx_add x1 4) (v4 : Int) (e4 : v4 = fx_add x1 3) (c4 : 0 ≤ v4) (c5 : v4 < 260) (v5 : Int) (e5 : v5 = S.1 72 v4) (b5 : -2147483648 ≤ v5 ∧ v5 ≤ 2147483647) (v6 : Int) (e6 : v6 = fx_mul 4 v5) (v7 : Int) (e7 : v7 = fx_add v3 v6) (v8 : Int) (S1 : fx_S) (k1 : fx_Sok S1) (b8 : -2147483648 ≤ v8 ∧ v8 ≤ 2147483647) (p1 : s353 S 6 v8 S1) (c6 : v8 ≠ 0) (c7 : 0 ≤ v7) (c8 : v7 < 260) (S2 : fx_S) (d2 : S2 = (fx_up S1.1 72 v7 1, S1.2)) (v9 : Int) (S3 : fx_S) (k3 : fx_Sok S3) (b9 : -2147483648 ≤ v9 ∧ v9 ≤ 2147483647) (p3 : s407 S2  v9 S3) (c9 : v9 = (-1)) (v10 : Int) (S4 : fx_S) (k4 : fx_Sok S4) (b10 : v10 = 0) (p4 : s226 S3 1 v10 S4) (v11 : Int) (e11 : v11 = S4.1 66 12) (b11 : -2147483648 ≤ v11 ∧ v11 ≤ 2147483647) (c10 : v11 = 0) (v12 : Int) (S5 : fx_S) (k5 : fx_Sok S5) (b12 : v12 = 0) (p5 : s120 S4  v12 S5) (v13 : Int) (e13 : v13 = fx_add v7 1) (c11 : 0 ≤ v13) (c12 : v13 < 260) (S6 : fx_S) (d6 : S6 = (fx_up S5.1 72 v13 v9, S5.2)) (c13 : v9 ≠ 3) (v14 : Int) (S7 : fx_S) (k7 : fx_Sok S7) (b14 : -2147483648 ≤ v14 ∧ v14 ≤ 2147483647) (p7 : s352 S6 61 v14 S7) (c14 : v14 ≠ 0) (v15 : Int) (e15 : v15 = S7.1 66 12) (b15 : -2147483648 ≤ v15 ∧ v15 ≤ 2147483647) (c15 : v15 ≠ 0) : s393 S x1 0 S7 := by
  obtain ⟨r1, f1⟩ := p1
  obtain rfl : S2 = S3 := p3
  obtain ⟨r4, f4, p4⟩ := p4
  obtain ⟨r5, f5⟩ := p5
  obtain rfl : S6 = S7 := p7
  refine ⟨((show S6.2 = S5.2 by rw [d6])).trans ((r5).trans ((r4).trans (((show S2.2 = S1.2 by rw [d2])).trans (r1)))), ?_, ?_⟩
  · intro p i hW
    clear c15 b15 e15 c14 b14 c13 c12 c11 e13 b12 c10 b11 e11 b10 c9 b9 c8 c7 c6 b8 e7 e6 b5 e5 c5 c4 e4 e3 c3 b2 e2 c2 c1 e1
    exact ((show S6.1 p i = S5.1 p i by rw [d6]; exact if_neg (by omega))).trans (((f5 p i (by omega))).trans (((f4 p i (by omega))).trans (((show S2.1 p i = S1.1 p i by rw [d2]; exact if_neg (by omega))).trans ((f1 p i (by omega))))))
  · skip
    intro a0 a1
    have f0 := e1
    rw [fx_add_eq (by omega) (by omega)] at f0
    have a2 := a1
    rw [← f0, ← e2] at a2
    have h1 := e1
    first | rw [fx_add_eq (by omega) (by omega)] at h1 | skip
    have h3 := e3
    first | rw [fx_add_eq (by omega) (by omega)] at h3 | skip
    obtain rfl : v1 = v4 := by rw [e4, e1]
    obtain rfl : v2 = v5 := by rw [e5, e2]
    have h6 := e6
    first | rw [fx_mul_eq (by omega) (by omega)] at h6 | skip
    have h7 := e7
    first | rw [fx_add_eq (by omega) (by omega)] at h7 | skip
    have h13 := e13
    first | rw [fx_add_eq (by omega) (by omega)] at h13 | skip
    have t15_6 : S6.1 66 12 = S5.1 66 12 := by rw [d6]; first | exact if_neg (by omega) | rfl
    rw [t15_6] at e15
    rw [f5 66 12 (by omega)] at e15
    obtain rfl : v11 = v15 := by rw [e15, e11]
    exact ⟨by rw [show S6.1 72 (x1 + 3) = S.1 72 (x1 + 3) from (((show S6.1 72 (x1 + 3) = S5.1 72 (x1 + 3) by rw [d6]; first | exact if_neg (by omega) | rfl)).trans (((f5 72 (x1 + 3) (by omega))).trans (((f4 72 (x1 + 3) (by omega))).trans (((show S2.1 72 (x1 + 3) = S1.1 72 (x1 + 3) by rw [d2]; first | exact if_neg (by omega) | rfl)).trans ((f1 72 (x1 + 3) (by omega)))))))]; exact a1, fun i hi => (((show S6.1 72 (i) = S5.1 72 (i) by rw [d6]; first | exact if_neg (by omega) | rfl)).trans (((f5 72 (i) (by omega))).trans (((f4 72 (i) (by omega))).trans (((show S2.1 72 (i) = S1.1 72 (i) by rw [d2]; first | exact if_neg (by omega) | rfl)).trans ((f1 72 (i) (by omega)))))))⟩
theorem q393_38 (S : fx_S) (x1 : Int) (hS : fx_Sok S) (g1 : -2147483648 ≤ x1 ∧ x1 ≤ 2147483647) (v1 : Int) (e1 : v1 = fx_add x1 3) (c1 : 0 ≤ v1) (c2 : v1 < 260) (v2 : Int) (e2 : v2 = S.1 72 v1) (b2 : -2147483648 ≤ v2 ∧ v2 ≤ 2147483647) (c3 : v2 ≠ 3) (v3 : Int) (e3 : v3 = fx_add x1 4) (v4 : Int) (e4 : v4 = fx_add x1 3) (c4 : 0 ≤ v4) (c5 : v4 < 260) (v5 : Int) (e5 : v5 = S.1 72 v4) (b5 : -2147483648 ≤ v5 ∧ v5 ≤ 2147483647) (v6 : Int) (e6 : v6 = fx_mul 4 v5) (v7 : Int) (e7 : v7 = fx_add v3 v6) (v8 : Int) (S1 : fx_S) (k1 : fx_Sok S1) (b8 : -2147483648 ≤ v8 ∧ v8 ≤ 2147483647) (p1 : s353 S 6 v8 S1) (c6 : v8 ≠ 0) (c7 : 0 ≤ v7) (c8 : v7 < 260) (S2 : fx_S) (d2 : S2 = (fx_up S1.1 72 v7 1, S1.2)) (v9 : Int) (S3 : fx_S) (k3 : fx_Sok S3) (b9 : -2147483648 ≤ v9 ∧ v9 ≤ 2147483647) (p3 : s407 S2  v9 S3) (c9 : v9 = (-1)) (v10 : Int) (S4 : fx_S) (k4 : fx_Sok S4) (b10 : v10 = 0) (p4 : s226 S3 1 v10 S4) (v11 : Int) (e11 : v11 = S4.1 66 12) (b11 : -2147483648 ≤ v11 ∧ v11 ≤ 2147483647) (c10 : v11 = 0) (v12 : Int) (S5 : fx_S) (k5 : fx_Sok S5) (b12 : v12 = 0) (p5 : s120 S4  v12 S5) (v13 : Int) (e13 : v13 = fx_add v7 1) (c11 : 0 ≤ v13) (c12 : v13 < 260) (S6 : fx_S) (d6 : S6 = (fx_up S5.1 72 v13 v9, S5.2)) (c13 : v9 ≠ 3) (v14 : Int) (S7 : fx_S) (k7 : fx_Sok S7) (b14 : -2147483648 ≤ v14 ∧ v14 ≤ 2147483647) (p7 : s352 S6 61 v14 S7) (c14 : v14 ≠ 0) (v15 : Int) (e15 : v15 = S7.1 66 12) (b15 : -2147483648 ≤ v15 ∧ v15 ≤ 2147483647) (c15 : v15 = 0) (v16 : Int) (e16 : v16 = fx_add v7 2) (v17 : Int) (e17 : v17 = S7.1 66 11) (b17 : -2147483648 ≤ v17 ∧ v17 ≤ 2147483647) (c16 : 0 ≤ v16) (c17 : v16 < 260) (S8 : fx_S) (d8 : S8 = (fx_up S7.1 72 v16 v17, S7.2)) (v18 : Int) (S9 : fx_S) (k9 : fx_Sok S9) (b18 : v18 = 0) (p9 : s120 S8  v18 S9) (v19 : Int) (e19 : v19 = fx_add v7 3) (v20 : Int) (S10 : fx_S) (k10 : fx_Sok S10) (b20 : -2147483648 ≤ v20 ∧ v20 ≤ 2147483647) (p10 : s351 S9 0 9999 v20 S10) (c18 : 0 ≤ v19) (c19 : v19 < 260) (S11 : fx_S) (d11 : S11 = (fx_up S10.1 72 v19 v20, S10.2)) (v21 : Int) (e21 : v21 = fx_add x1 3) (c20 : 0 ≤ v21) (c21 : v21 < 260) (v22 : Int) (e22 : v22 = S11.1 72 v21) (b22 : -2147483648 ≤ v22 ∧ v22 ≤ 2147483647) (v23 : Int) (e23 : v23 = fx_add v22 1) (c22 : 0 ≤ v21) (c23 : v21 < 260) (S12 : fx_S) (d12 : S12 = (fx_up S11.1 72 v21 v23, S11.2)) : s393 S x1 0 S12 := by
  obtain ⟨r1, f1⟩ := p1
  obtain rfl : S2 = S3 := p3
  obtain ⟨r4, f4, p4⟩ := p4
  obtain ⟨r5, f5⟩ := p5
  obtain rfl : S6 = S7 := p7
  obtain ⟨r9, f9⟩ := p9
  obtain ⟨r10, f10, p10⟩ := p10
  refine ⟨((show S12.2 = S11.2 by rw [d12])).trans (((show S11.2 = S10.2 by rw [d11])).trans ((r10).trans ((r9).trans (((show S8.2 = S6.2 by rw [d8])).trans (((show S6.2 = S5.2 by rw [d6])).trans ((r5).trans ((r4).trans (((show S2.2 = S1.2 by rw [d2])).trans (r1))))))))), ?_, ?_⟩
  · intro p i hW
    clear c23 c22 e23 b22 e22 c21 c20 e21 c19 c18 b20 e19 b18 c17 c16 b17 e17 e16 c15 b15 e15 c14 b14 c13 c12 c11 e13 b12 c10 b11 e11 b10 c9 b9 c8 c7 c6 b8 e7 e6 b5 e5 c5 c4 e4 e3 c3 b2 e2 c2 c1 e1
    exact ((show S12.1 p i = S11.1 p i by rw [d12]; exact if_neg (by omega))).trans (((show S11.1 p i = S10.1 p i by rw [d11]; exact if_neg (by omega))).trans (((f10 p i (by omega))).trans (((f9 p i (by omega))).trans (((show S8.1 p i = S6.1 p i by rw [d8]; exact if_neg (by omega))).trans (((show S6.1 p i = S5.1 p i by rw [d6]; exact if_neg (by omega))).trans (((f5 p i (by omega))).trans (((f4 p i (by omega))).trans (((show S2.1 p i = S1.1 p i by rw [d2]; exact if_neg (by omega))).trans ((f1 p i (by omega)))))))))))
  · skip
    intro a0 a1
    have f0 := e1
    rw [fx_add_eq (by omega) (by omega)] at f0
    have a2 := a1
    rw [← f0, ← e2] at a2
    have h1 := e1
    first | rw [fx_add_eq (by omega) (by omega)] at h1 | skip
    have h3 := e3
    first | rw [fx_add_eq (by omega) (by omega)] at h3 | skip
    obtain rfl : v1 = v4 := by rw [e4, e1]
    obtain rfl : v2 = v5 := by rw [e5, e2]
    have h6 := e6
    first | rw [fx_mul_eq (by omega) (by omega)] at h6 | skip
    have h7 := e7
    first | rw [fx_add_eq (by omega) (by omega)] at h7 | skip
    have h13 := e13
    first | rw [fx_add_eq (by omega) (by omega)] at h13 | skip
    have t15_6 : S6.1 66 12 = S5.1 66 12 := by rw [d6]; first | exact if_neg (by omega) | rfl
    rw [t15_6] at e15
    rw [f5 66 12 (by omega)] at e15
    obtain rfl : v11 = v15 := by rw [e15, e11]
    have h16 := e16
    first | rw [fx_add_eq (by omega) (by omega)] at h16 | skip
    have t17_6 : S6.1 66 11 = S5.1 66 11 := by rw [d6]; first | exact if_neg (by omega) | rfl
    rw [t17_6] at e17
    have h19 := e19
    first | rw [fx_add_eq (by omega) (by omega)] at h19 | skip
    obtain rfl : v1 = v21 := by rw [e21, e1]
    have t22_11 : S11.1 72 v1 = S10.1 72 v1 := by rw [d11]; first | exact if_neg (by omega) | rfl
    rw [t22_11] at e22
    rw [f10 72 v1 (by omega)] at e22
    rw [f9 72 v1 (by omega)] at e22
    have t22_8 : S8.1 72 v1 = S6.1 72 v1 := by rw [d8]; first | exact if_neg (by omega) | rfl
    rw [t22_8] at e22
    have t22_6 : S6.1 72 v1 = S5.1 72 v1 := by rw [d6]; first | exact if_neg (by omega) | rfl
    rw [t22_6] at e22
    rw [f5 72 v1 (by omega)] at e22
    rw [f4 72 v1 (by omega)] at e22
    have t22_2 : S2.1 72 v1 = S1.1 72 v1 := by rw [d2]; first | exact if_neg (by omega) | rfl
    rw [t22_2] at e22
    rw [f1 72 v1 (by omega)] at e22
    obtain rfl : v2 = v22 := by rw [e22, e2]
    have h23 := e23
    first | rw [fx_add_eq (by omega) (by omega)] at h23 | skip
    refine ⟨?_, fun i hi => (((show S12.1 72 (i) = S11.1 72 (i) by rw [d12]; first | exact if_neg (by omega) | rfl)).trans (((show S11.1 72 (i) = S10.1 72 (i) by rw [d11]; first | exact if_neg (by omega) | rfl)).trans (((f10 72 (i) (by omega))).trans (((f9 72 (i) (by omega))).trans (((show S8.1 72 (i) = S6.1 72 (i) by rw [d8]; first | exact if_neg (by omega) | rfl)).trans (((show S6.1 72 (i) = S5.1 72 (i) by rw [d6]; first | exact if_neg (by omega) | rfl)).trans (((f5 72 (i) (by omega))).trans (((f4 72 (i) (by omega))).trans (((show S2.1 72 (i) = S1.1 72 (i) by rw [d2]; first | exact if_neg (by omega) | rfl)).trans ((f1 72 (i) (by omega))))))))))))⟩
    rw [← f0, show S12.1 72 v1 = v23 by rw [d12]; exact if_pos ⟨rfl, rfl⟩]
    omega
theorem q393_39 (S : fx_S) (x1 : Int) (hS : fx_Sok S) (g1 : -2147483648 ≤ x1 ∧ x1 ≤ 2147483647) (v1 : Int) (e1 : v1 = fx_add x1 3) (c1 : 0 ≤ v1) (c2 : v1 < 260) (v2 : Int) (e2 : v2 = S.1 72 v1) (b2 : -2147483648 ≤ v2 ∧ v2 ≤ 2147483647) (c3 : v2 ≠ 3) (v3 : Int) (e3 : v3 = fx_add x1 4) (v4 : Int) (e4 : v4 = fx_add x1 3) (c4 : 0 ≤ v4) (c5 : v4 < 260) (v5 : Int) (e5 : v5 = S.1 72 v4) (b5 : -2147483648 ≤ v5 ∧ v5 ≤ 2147483647) (v6 : Int) (e6 : v6 = fx_mul 4 v5) (v7 : Int) (e7 : v7 = fx_add v3 v6) (v8 : Int) (S1 : fx_S) (k1 : fx_Sok S1) (b8 : -2147483648 ≤ v8 ∧ v8 ≤ 2147483647) (p1 : s353 S 6 v8 S1) (c6 : v8 ≠ 0) (c7 : 0 ≤ v7) (c8 : v7 < 260) (S2 : fx_S) (d2 : S2 = (fx_up S1.1 72 v7 1, S1.2)) (v9 : Int) (S3 : fx_S) (k3 : fx_Sok S3) (b9 : -2147483648 ≤ v9 ∧ v9 ≤ 2147483647) (p3 : s407 S2  v9 S3) (c9 : v9 = (-1)) (v10 : Int) (S4 : fx_S) (k4 : fx_Sok S4) (b10 : v10 = 0) (p4 : s226 S3 1 v10 S4) (v11 : Int) (e11 : v11 = S4.1 66 12) (b11 : -2147483648 ≤ v11 ∧ v11 ≤ 2147483647) (c10 : v11 = 0) (v12 : Int) (S5 : fx_S) (k5 : fx_Sok S5) (b12 : v12 = 0) (p5 : s120 S4  v12 S5) (v13 : Int) (e13 : v13 = fx_add v7 1) (c11 : 0 ≤ v13) (c12 : v13 < 260) (S6 : fx_S) (d6 : S6 = (fx_up S5.1 72 v13 v9, S5.2)) (c13 : v9 ≠ 3) (v14 : Int) (S7 : fx_S) (k7 : fx_Sok S7) (b14 : -2147483648 ≤ v14 ∧ v14 ≤ 2147483647) (p7 : s352 S6 61 v14 S7) (c14 : v14 = 0) (c15 : v9 = 0) (v15 : Int) (S8 : fx_S) (k8 : fx_Sok S8) (b15 : v15 = 0) (p8 : s226 S7 1 v15 S8) (v16 : Int) (e16 : v16 = S8.1 66 12) (b16 : -2147483648 ≤ v16 ∧ v16 ≤ 2147483647) (c16 : v16 ≠ 0) : s393 S x1 0 S8 := by
  obtain ⟨r1, f1⟩ := p1
  obtain rfl : S2 = S3 := p3
  obtain ⟨r4, f4, p4⟩ := p4
  obtain ⟨r5, f5⟩ := p5
  obtain rfl : S6 = S7 := p7
  obtain ⟨r8, f8, p8⟩ := p8
  refine ⟨(r8).trans (((show S6.2 = S5.2 by rw [d6])).trans ((r5).trans ((r4).trans (((show S2.2 = S1.2 by rw [d2])).trans (r1))))), ?_, ?_⟩
  · intro p i hW
    clear c16 b16 e16 b15 c15 c14 b14 c13 c12 c11 e13 b12 c10 b11 e11 b10 c9 b9 c8 c7 c6 b8 e7 e6 b5 e5 c5 c4 e4 e3 c3 b2 e2 c2 c1 e1
    exact ((f8 p i (by omega))).trans (((show S6.1 p i = S5.1 p i by rw [d6]; exact if_neg (by omega))).trans (((f5 p i (by omega))).trans (((f4 p i (by omega))).trans (((show S2.1 p i = S1.1 p i by rw [d2]; exact if_neg (by omega))).trans ((f1 p i (by omega)))))))
  · skip
    intro a0 a1
    have f0 := e1
    rw [fx_add_eq (by omega) (by omega)] at f0
    have a2 := a1
    rw [← f0, ← e2] at a2
    have h1 := e1
    first | rw [fx_add_eq (by omega) (by omega)] at h1 | skip
    have h3 := e3
    first | rw [fx_add_eq (by omega) (by omega)] at h3 | skip
    obtain rfl : v1 = v4 := by rw [e4, e1]
    obtain rfl : v2 = v5 := by rw [e5, e2]
    have h6 := e6
    first | rw [fx_mul_eq (by omega) (by omega)] at h6 | skip
    have h7 := e7
    first | rw [fx_add_eq (by omega) (by omega)] at h7 | skip
    have h13 := e13
    first | rw [fx_add_eq (by omega) (by omega)] at h13 | skip
    exact ⟨by rw [show S8.1 72 (x1 + 3) = S.1 72 (x1 + 3) from (((f8 72 (x1 + 3) (by omega))).trans (((show S6.1 72 (x1 + 3) = S5.1 72 (x1 + 3) by rw [d6]; first | exact if_neg (by omega) | rfl)).trans (((f5 72 (x1 + 3) (by omega))).trans (((f4 72 (x1 + 3) (by omega))).trans (((show S2.1 72 (x1 + 3) = S1.1 72 (x1 + 3) by rw [d2]; first | exact if_neg (by omega) | rfl)).trans ((f1 72 (x1 + 3) (by omega))))))))]; exact a1, fun i hi => (((f8 72 (i) (by omega))).trans (((show S6.1 72 (i) = S5.1 72 (i) by rw [d6]; first | exact if_neg (by omega) | rfl)).trans (((f5 72 (i) (by omega))).trans (((f4 72 (i) (by omega))).trans (((show S2.1 72 (i) = S1.1 72 (i) by rw [d2]; first | exact if_neg (by omega) | rfl)).trans ((f1 72 (i) (by omega))))))))⟩
theorem q393_40 (S : fx_S) (x1 : Int) (hS : fx_Sok S) (g1 : -2147483648 ≤ x1 ∧ x1 ≤ 2147483647) (v1 : Int) (e1 : v1 = fx_add x1 3) (c1 : 0 ≤ v1) (c2 : v1 < 260) (v2 : Int) (e2 : v2 = S.1 72 v1) (b2 : -2147483648 ≤ v2 ∧ v2 ≤ 2147483647) (c3 : v2 ≠ 3) (v3 : Int) (e3 : v3 = fx_add x1 4) (v4 : Int) (e4 : v4 = fx_add x1 3) (c4 : 0 ≤ v4) (c5 : v4 < 260) (v5 : Int) (e5 : v5 = S.1 72 v4) (b5 : -2147483648 ≤ v5 ∧ v5 ≤ 2147483647) (v6 : Int) (e6 : v6 = fx_mul 4 v5) (v7 : Int) (e7 : v7 = fx_add v3 v6) (v8 : Int) (S1 : fx_S) (k1 : fx_Sok S1) (b8 : -2147483648 ≤ v8 ∧ v8 ≤ 2147483647) (p1 : s353 S 6 v8 S1) (c6 : v8 ≠ 0) (c7 : 0 ≤ v7) (c8 : v7 < 260) (S2 : fx_S) (d2 : S2 = (fx_up S1.1 72 v7 1, S1.2)) (v9 : Int) (S3 : fx_S) (k3 : fx_Sok S3) (b9 : -2147483648 ≤ v9 ∧ v9 ≤ 2147483647) (p3 : s407 S2  v9 S3) (c9 : v9 = (-1)) (v10 : Int) (S4 : fx_S) (k4 : fx_Sok S4) (b10 : v10 = 0) (p4 : s226 S3 1 v10 S4) (v11 : Int) (e11 : v11 = S4.1 66 12) (b11 : -2147483648 ≤ v11 ∧ v11 ≤ 2147483647) (c10 : v11 = 0) (v12 : Int) (S5 : fx_S) (k5 : fx_Sok S5) (b12 : v12 = 0) (p5 : s120 S4  v12 S5) (v13 : Int) (e13 : v13 = fx_add v7 1) (c11 : 0 ≤ v13) (c12 : v13 < 260) (S6 : fx_S) (d6 : S6 = (fx_up S5.1 72 v13 v9, S5.2)) (c13 : v9 ≠ 3) (v14 : Int) (S7 : fx_S) (k7 : fx_Sok S7) (b14 : -2147483648 ≤ v14 ∧ v14 ≤ 2147483647) (p7 : s352 S6 61 v14 S7) (c14 : v14 = 0) (c15 : v9 = 0) (v15 : Int) (S8 : fx_S) (k8 : fx_Sok S8) (b15 : v15 = 0) (p8 : s226 S7 1 v15 S8) (v16 : Int) (e16 : v16 = S8.1 66 12) (b16 : -2147483648 ≤ v16 ∧ v16 ≤ 2147483647) (c16 : v16 = 0) (v17 : Int) (e17 : v17 = fx_add v7 2) (v18 : Int) (e18 : v18 = S8.1 66 11) (b18 : -2147483648 ≤ v18 ∧ v18 ≤ 2147483647) (c17 : 0 ≤ v17) (c18 : v17 < 260) (S9 : fx_S) (d9 : S9 = (fx_up S8.1 72 v17 v18, S8.2)) (v19 : Int) (S10 : fx_S) (k10 : fx_Sok S10) (b19 : v19 = 0) (p10 : s120 S9  v19 S10) (v20 : Int) (e20 : v20 = fx_add v7 3) (v21 : Int) (S11 : fx_S) (k11 : fx_Sok S11) (b21 : -2147483648 ≤ v21 ∧ v21 ≤ 2147483647) (p11 : s351 S10 0 9999 v21 S11) (c19 : 0 ≤ v20) (c20 : v20 < 260) (S12 : fx_S) (d12 : S12 = (fx_up S11.1 72 v20 v21, S11.2)) (v22 : Int) (e22 : v22 = fx_add x1 3) (c21 : 0 ≤ v22) (c22 : v22 < 260) (v23 : Int) (e23 : v23 = S12.1 72 v22) (b23 : -2147483648 ≤ v23 ∧ v23 ≤ 2147483647) (v24 : Int) (e24 : v24 = fx_add v23 1) (c23 : 0 ≤ v22) (c24 : v22 < 260) (S13 : fx_S) (d13 : S13 = (fx_up S12.1 72 v22 v24, S12.2)) : s393 S x1 0 S13 := by
  obtain ⟨r1, f1⟩ := p1
  obtain rfl : S2 = S3 := p3
  obtain ⟨r4, f4, p4⟩ := p4
  obtain ⟨r5, f5⟩ := p5
  obtain rfl : S6 = S7 := p7
  obtain ⟨r8, f8, p8⟩ := p8
  obtain ⟨r10, f10⟩ := p10
  obtain ⟨r11, f11, p11⟩ := p11
  refine ⟨((show S13.2 = S12.2 by rw [d13])).trans (((show S12.2 = S11.2 by rw [d12])).trans ((r11).trans ((r10).trans (((show S9.2 = S8.2 by rw [d9])).trans ((r8).trans (((show S6.2 = S5.2 by rw [d6])).trans ((r5).trans ((r4).trans (((show S2.2 = S1.2 by rw [d2])).trans (r1)))))))))), ?_, ?_⟩
  · intro p i hW
    clear c24 c23 e24 b23 e23 c22 c21 e22 c20 c19 b21 e20 b19 c18 c17 b18 e18 e17 c16 b16 e16 b15 c15 c14 b14 c13 c12 c11 e13 b12 c10 b11 e11 b10 c9 b9 c8 c7 c6 b8 e7 e6 b5 e5 c5 c4 e4 e3 c3 b2 e2 c2 c1 e1
    exact ((show S13.1 p i = S12.1 p i by rw [d13]; exact if_neg (by omega))).trans (((show S12.1 p i = S11.1 p i by rw [d12]; exact if_neg (by omega))).trans (((f11 p i (by omega))).trans (((f10 p i (by omega))).trans (((show S9.1 p i = S8.1 p i by rw [d9]; exact if_neg (by omega))).trans (((f8 p i (by omega))).trans (((show S6.1 p i = S5.1 p i by rw [d6]; exact if_neg (by omega))).trans (((f5 p i (by omega))).trans (((f4 p i (by omega))).trans (((show S2.1 p i = S1.1 p i by rw [d2]; exact if_neg (by omega))).trans ((f1 p i (by omega))))))))))))
  · skip
    intro a0 a1
    have f0 := e1
    rw [fx_add_eq (by omega) (by omega)] at f0
    have a2 := a1
    rw [← f0, ← e2] at a2
    have h1 := e1
    first | rw [fx_add_eq (by omega) (by omega)] at h1 | skip
    have h3 := e3
    first | rw [fx_add_eq (by omega) (by omega)] at h3 | skip
    obtain rfl : v1 = v4 := by rw [e4, e1]
    obtain rfl : v2 = v5 := by rw [e5, e2]
    have h6 := e6
    first | rw [fx_mul_eq (by omega) (by omega)] at h6 | skip
    have h7 := e7
    first | rw [fx_add_eq (by omega) (by omega)] at h7 | skip
    have h13 := e13
    first | rw [fx_add_eq (by omega) (by omega)] at h13 | skip
    have h17 := e17
    first | rw [fx_add_eq (by omega) (by omega)] at h17 | skip
    rw [f8 66 11 (by omega)] at e18
    have t18_6 : S6.1 66 11 = S5.1 66 11 := by rw [d6]; first | exact if_neg (by omega) | rfl
    rw [t18_6] at e18
    have h20 := e20
    first | rw [fx_add_eq (by omega) (by omega)] at h20 | skip
    obtain rfl : v1 = v22 := by rw [e22, e1]
    have t23_12 : S12.1 72 v1 = S11.1 72 v1 := by rw [d12]; first | exact if_neg (by omega) | rfl
    rw [t23_12] at e23
    rw [f11 72 v1 (by omega)] at e23
    rw [f10 72 v1 (by omega)] at e23
    have t23_9 : S9.1 72 v1 = S8.1 72 v1 := by rw [d9]; first | exact if_neg (by omega) | rfl
    rw [t23_9] at e23
    rw [f8 72 v1 (by omega)] at e23
    have t23_6 : S6.1 72 v1 = S5.1 72 v1 := by rw [d6]; first | exact if_neg (by omega) | rfl
    rw [t23_6] at e23
    rw [f5 72 v1 (by omega)] at e23
    rw [f4 72 v1 (by omega)] at e23
    have t23_2 : S2.1 72 v1 = S1.1 72 v1 := by rw [d2]; first | exact if_neg (by omega) | rfl
    rw [t23_2] at e23
    rw [f1 72 v1 (by omega)] at e23
    obtain rfl : v2 = v23 := by rw [e23, e2]
    have h24 := e24
    first | rw [fx_add_eq (by omega) (by omega)] at h24 | skip
    refine ⟨?_, fun i hi => (((show S13.1 72 (i) = S12.1 72 (i) by rw [d13]; first | exact if_neg (by omega) | rfl)).trans (((show S12.1 72 (i) = S11.1 72 (i) by rw [d12]; first | exact if_neg (by omega) | rfl)).trans (((f11 72 (i) (by omega))).trans (((f10 72 (i) (by omega))).trans (((show S9.1 72 (i) = S8.1 72 (i) by rw [d9]; first | exact if_neg (by omega) | rfl)).trans (((f8 72 (i) (by omega))).trans (((show S6.1 72 (i) = S5.1 72 (i) by rw [d6]; first | exact if_neg (by omega) | rfl)).trans (((f5 72 (i) (by omega))).trans (((f4 72 (i) (by omega))).trans (((show S2.1 72 (i) = S1.1 72 (i) by rw [d2]; first | exact if_neg (by omega) | rfl)).trans ((f1 72 (i) (by omega)))))))))))))⟩
    rw [← f0, show S13.1 72 v1 = v24 by rw [d13]; exact if_pos ⟨rfl, rfl⟩]
    omega
theorem q393_41 (S : fx_S) (x1 : Int) (hS : fx_Sok S) (g1 : -2147483648 ≤ x1 ∧ x1 ≤ 2147483647) (v1 : Int) (e1 : v1 = fx_add x1 3) (c1 : 0 ≤ v1) (c2 : v1 < 260) (v2 : Int) (e2 : v2 = S.1 72 v1) (b2 : -2147483648 ≤ v2 ∧ v2 ≤ 2147483647) (c3 : v2 ≠ 3) (v3 : Int) (e3 : v3 = fx_add x1 4) (v4 : Int) (e4 : v4 = fx_add x1 3) (c4 : 0 ≤ v4) (c5 : v4 < 260) (v5 : Int) (e5 : v5 = S.1 72 v4) (b5 : -2147483648 ≤ v5 ∧ v5 ≤ 2147483647) (v6 : Int) (e6 : v6 = fx_mul 4 v5) (v7 : Int) (e7 : v7 = fx_add v3 v6) (v8 : Int) (S1 : fx_S) (k1 : fx_Sok S1) (b8 : -2147483648 ≤ v8 ∧ v8 ≤ 2147483647) (p1 : s353 S 6 v8 S1) (c6 : v8 ≠ 0) (c7 : 0 ≤ v7) (c8 : v7 < 260) (S2 : fx_S) (d2 : S2 = (fx_up S1.1 72 v7 1, S1.2)) (v9 : Int) (S3 : fx_S) (k3 : fx_Sok S3) (b9 : -2147483648 ≤ v9 ∧ v9 ≤ 2147483647) (p3 : s407 S2  v9 S3) (c9 : v9 = (-1)) (v10 : Int) (S4 : fx_S) (k4 : fx_Sok S4) (b10 : v10 = 0) (p4 : s226 S3 1 v10 S4) (v11 : Int) (e11 : v11 = S4.1 66 12) (b11 : -2147483648 ≤ v11 ∧ v11 ≤ 2147483647) (c10 : v11 = 0) (v12 : Int) (S5 : fx_S) (k5 : fx_Sok S5) (b12 : v12 = 0) (p5 : s120 S4  v12 S5) (v13 : Int) (e13 : v13 = fx_add v7 1) (c11 : 0 ≤ v13) (c12 : v13 < 260) (S6 : fx_S) (d6 : S6 = (fx_up S5.1 72 v13 v9, S5.2)) (c13 : v9 ≠ 3) (v14 : Int) (S7 : fx_S) (k7 : fx_Sok S7) (b14 : -2147483648 ≤ v14 ∧ v14 ≤ 2147483647) (p7 : s352 S6 61 v14 S7) (c14 : v14 = 0) (c15 : v9 ≠ 0) (v15 : Int) (S8 : fx_S) (k8 : fx_Sok S8) (b15 : -2147483648 ≤ v15 ∧ v15 ≤ 2147483647) (p8 : s352 S7 60 v15 S8) (c16 : v15 ≠ 0) (v16 : Int) (e16 : v16 = S8.1 66 12) (b16 : -2147483648 ≤ v16 ∧ v16 ≤ 2147483647) (c17 : v16 ≠ 0) : s393 S x1 0 S8 := by
  obtain ⟨r1, f1⟩ := p1
  obtain rfl : S2 = S3 := p3
  obtain ⟨r4, f4, p4⟩ := p4
  obtain ⟨r5, f5⟩ := p5
  obtain rfl : S6 = S7 := p7
  obtain rfl : S6 = S8 := p8
  refine ⟨((show S6.2 = S5.2 by rw [d6])).trans ((r5).trans ((r4).trans (((show S2.2 = S1.2 by rw [d2])).trans (r1)))), ?_, ?_⟩
  · intro p i hW
    clear c17 b16 e16 c16 b15 c15 c14 b14 c13 c12 c11 e13 b12 c10 b11 e11 b10 c9 b9 c8 c7 c6 b8 e7 e6 b5 e5 c5 c4 e4 e3 c3 b2 e2 c2 c1 e1
    exact ((show S6.1 p i = S5.1 p i by rw [d6]; exact if_neg (by omega))).trans (((f5 p i (by omega))).trans (((f4 p i (by omega))).trans (((show S2.1 p i = S1.1 p i by rw [d2]; exact if_neg (by omega))).trans ((f1 p i (by omega))))))
  · skip
    intro a0 a1
    have f0 := e1
    rw [fx_add_eq (by omega) (by omega)] at f0
    have a2 := a1
    rw [← f0, ← e2] at a2
    have h1 := e1
    first | rw [fx_add_eq (by omega) (by omega)] at h1 | skip
    have h3 := e3
    first | rw [fx_add_eq (by omega) (by omega)] at h3 | skip
    obtain rfl : v1 = v4 := by rw [e4, e1]
    obtain rfl : v2 = v5 := by rw [e5, e2]
    have h6 := e6
    first | rw [fx_mul_eq (by omega) (by omega)] at h6 | skip
    have h7 := e7
    first | rw [fx_add_eq (by omega) (by omega)] at h7 | skip
    have h13 := e13
    first | rw [fx_add_eq (by omega) (by omega)] at h13 | skip
    have t16_6 : S6.1 66 12 = S5.1 66 12 := by rw [d6]; first | exact if_neg (by omega) | rfl
    rw [t16_6] at e16
    rw [f5 66 12 (by omega)] at e16
    obtain rfl : v11 = v16 := by rw [e16, e11]
    exact ⟨by rw [show S6.1 72 (x1 + 3) = S.1 72 (x1 + 3) from (((show S6.1 72 (x1 + 3) = S5.1 72 (x1 + 3) by rw [d6]; first | exact if_neg (by omega) | rfl)).trans (((f5 72 (x1 + 3) (by omega))).trans (((f4 72 (x1 + 3) (by omega))).trans (((show S2.1 72 (x1 + 3) = S1.1 72 (x1 + 3) by rw [d2]; first | exact if_neg (by omega) | rfl)).trans ((f1 72 (x1 + 3) (by omega)))))))]; exact a1, fun i hi => (((show S6.1 72 (i) = S5.1 72 (i) by rw [d6]; first | exact if_neg (by omega) | rfl)).trans (((f5 72 (i) (by omega))).trans (((f4 72 (i) (by omega))).trans (((show S2.1 72 (i) = S1.1 72 (i) by rw [d2]; first | exact if_neg (by omega) | rfl)).trans ((f1 72 (i) (by omega)))))))⟩
theorem q393_42 (S : fx_S) (x1 : Int) (hS : fx_Sok S) (g1 : -2147483648 ≤ x1 ∧ x1 ≤ 2147483647) (v1 : Int) (e1 : v1 = fx_add x1 3) (c1 : 0 ≤ v1) (c2 : v1 < 260) (v2 : Int) (e2 : v2 = S.1 72 v1) (b2 : -2147483648 ≤ v2 ∧ v2 ≤ 2147483647) (c3 : v2 ≠ 3) (v3 : Int) (e3 : v3 = fx_add x1 4) (v4 : Int) (e4 : v4 = fx_add x1 3) (c4 : 0 ≤ v4) (c5 : v4 < 260) (v5 : Int) (e5 : v5 = S.1 72 v4) (b5 : -2147483648 ≤ v5 ∧ v5 ≤ 2147483647) (v6 : Int) (e6 : v6 = fx_mul 4 v5) (v7 : Int) (e7 : v7 = fx_add v3 v6) (v8 : Int) (S1 : fx_S) (k1 : fx_Sok S1) (b8 : -2147483648 ≤ v8 ∧ v8 ≤ 2147483647) (p1 : s353 S 6 v8 S1) (c6 : v8 ≠ 0) (c7 : 0 ≤ v7) (c8 : v7 < 260) (S2 : fx_S) (d2 : S2 = (fx_up S1.1 72 v7 1, S1.2)) (v9 : Int) (S3 : fx_S) (k3 : fx_Sok S3) (b9 : -2147483648 ≤ v9 ∧ v9 ≤ 2147483647) (p3 : s407 S2  v9 S3) (c9 : v9 = (-1)) (v10 : Int) (S4 : fx_S) (k4 : fx_Sok S4) (b10 : v10 = 0) (p4 : s226 S3 1 v10 S4) (v11 : Int) (e11 : v11 = S4.1 66 12) (b11 : -2147483648 ≤ v11 ∧ v11 ≤ 2147483647) (c10 : v11 = 0) (v12 : Int) (S5 : fx_S) (k5 : fx_Sok S5) (b12 : v12 = 0) (p5 : s120 S4  v12 S5) (v13 : Int) (e13 : v13 = fx_add v7 1) (c11 : 0 ≤ v13) (c12 : v13 < 260) (S6 : fx_S) (d6 : S6 = (fx_up S5.1 72 v13 v9, S5.2)) (c13 : v9 ≠ 3) (v14 : Int) (S7 : fx_S) (k7 : fx_Sok S7) (b14 : -2147483648 ≤ v14 ∧ v14 ≤ 2147483647) (p7 : s352 S6 61 v14 S7) (c14 : v14 = 0) (c15 : v9 ≠ 0) (v15 : Int) (S8 : fx_S) (k8 : fx_Sok S8) (b15 : -2147483648 ≤ v15 ∧ v15 ≤ 2147483647) (p8 : s352 S7 60 v15 S8) (c16 : v15 ≠ 0) (v16 : Int) (e16 : v16 = S8.1 66 12) (b16 : -2147483648 ≤ v16 ∧ v16 ≤ 2147483647) (c17 : v16 = 0) (v17 : Int) (e17 : v17 = fx_add v7 2) (v18 : Int) (e18 : v18 = S8.1 66 11) (b18 : -2147483648 ≤ v18 ∧ v18 ≤ 2147483647) (c18 : 0 ≤ v17) (c19 : v17 < 260) (S9 : fx_S) (d9 : S9 = (fx_up S8.1 72 v17 v18, S8.2)) (v19 : Int) (S10 : fx_S) (k10 : fx_Sok S10) (b19 : v19 = 0) (p10 : s120 S9  v19 S10) (v20 : Int) (e20 : v20 = fx_add v7 3) (v21 : Int) (S11 : fx_S) (k11 : fx_Sok S11) (b21 : -2147483648 ≤ v21 ∧ v21 ≤ 2147483647) (p11 : s351 S10 0 9999 v21 S11) (c20 : 0 ≤ v20) (c21 : v20 < 260) (S12 : fx_S) (d12 : S12 = (fx_up S11.1 72 v20 v21, S11.2)) (v22 : Int) (e22 : v22 = fx_add x1 3) (c22 : 0 ≤ v22) (c23 : v22 < 260) (v23 : Int) (e23 : v23 = S12.1 72 v22) (b23 : -2147483648 ≤ v23 ∧ v23 ≤ 2147483647) (v24 : Int) (e24 : v24 = fx_add v23 1) (c24 : 0 ≤ v22) (c25 : v22 < 260) (S13 : fx_S) (d13 : S13 = (fx_up S12.1 72 v22 v24, S12.2)) : s393 S x1 0 S13 := by
  obtain ⟨r1, f1⟩ := p1
  obtain rfl : S2 = S3 := p3
  obtain ⟨r4, f4, p4⟩ := p4
  obtain ⟨r5, f5⟩ := p5
  obtain rfl : S6 = S7 := p7
  obtain rfl : S6 = S8 := p8
  obtain ⟨r10, f10⟩ := p10
  obtain ⟨r11, f11, p11⟩ := p11
  refine ⟨((show S13.2 = S12.2 by rw [d13])).trans (((show S12.2 = S11.2 by rw [d12])).trans ((r11).trans ((r10).trans (((show S9.2 = S6.2 by rw [d9])).trans (((show S6.2 = S5.2 by rw [d6])).trans ((r5).trans ((r4).trans (((show S2.2 = S1.2 by rw [d2])).trans (r1))))))))), ?_, ?_⟩
  · intro p i hW
    clear c25 c24 e24 b23 e23 c23 c22 e22 c21 c20 b21 e20 b19 c19 c18 b18 e18 e17 c17 b16 e16 c16 b15 c15 c14 b14 c13 c12 c11 e13 b12 c10 b11 e11 b10 c9 b9 c8 c7 c6 b8 e7 e6 b5 e5 c5 c4 e4 e3 c3 b2 e2 c2 c1 e1
    exact ((show S13.1 p i = S12.1 p i by rw [d13]; exact if_neg (by omega))).trans (((show S12.1 p i = S11.1 p i by rw [d12]; exact if_neg (by omega))).trans (((f11 p i (by omega))).trans (((f10 p i (by omega))).trans (((show S9.1 p i = S6.1 p i by rw [d9]; exact if_neg (by omega))).trans (((show S6.1 p i = S5.1 p i by rw [d6]; exact if_neg (by omega))).trans (((f5 p i (by omega))).trans (((f4 p i (by omega))).trans (((show S2.1 p i = S1.1 p i by rw [d2]; exact if_neg (by omega))).trans ((f1 p i (by omega)))))))))))
  · skip
    intro a0 a1
    have f0 := e1
    rw [fx_add_eq (by omega) (by omega)] at f0
    have a2 := a1
    rw [← f0, ← e2] at a2
    have h1 := e1
    first | rw [fx_add_eq (by omega) (by omega)] at h1 | skip
    have h3 := e3
    first | rw [fx_add_eq (by omega) (by omega)] at h3 | skip
    obtain rfl : v1 = v4 := by rw [e4, e1]
    obtain rfl : v2 = v5 := by rw [e5, e2]
    have h6 := e6
    first | rw [fx_mul_eq (by omega) (by omega)] at h6 | skip
    have h7 := e7
    first | rw [fx_add_eq (by omega) (by omega)] at h7 | skip
    have h13 := e13
    first | rw [fx_add_eq (by omega) (by omega)] at h13 | skip
    have t16_6 : S6.1 66 12 = S5.1 66 12 := by rw [d6]; first | exact if_neg (by omega) | rfl
    rw [t16_6] at e16
    rw [f5 66 12 (by omega)] at e16
    obtain rfl : v11 = v16 := by rw [e16, e11]
    have h17 := e17
    first | rw [fx_add_eq (by omega) (by omega)] at h17 | skip
    have t18_6 : S6.1 66 11 = S5.1 66 11 := by rw [d6]; first | exact if_neg (by omega) | rfl
    rw [t18_6] at e18
    have h20 := e20
    first | rw [fx_add_eq (by omega) (by omega)] at h20 | skip
    obtain rfl : v1 = v22 := by rw [e22, e1]
    have t23_12 : S12.1 72 v1 = S11.1 72 v1 := by rw [d12]; first | exact if_neg (by omega) | rfl
    rw [t23_12] at e23
    rw [f11 72 v1 (by omega)] at e23
    rw [f10 72 v1 (by omega)] at e23
    have t23_9 : S9.1 72 v1 = S6.1 72 v1 := by rw [d9]; first | exact if_neg (by omega) | rfl
    rw [t23_9] at e23
    have t23_6 : S6.1 72 v1 = S5.1 72 v1 := by rw [d6]; first | exact if_neg (by omega) | rfl
    rw [t23_6] at e23
    rw [f5 72 v1 (by omega)] at e23
    rw [f4 72 v1 (by omega)] at e23
    have t23_2 : S2.1 72 v1 = S1.1 72 v1 := by rw [d2]; first | exact if_neg (by omega) | rfl
    rw [t23_2] at e23
    rw [f1 72 v1 (by omega)] at e23
    obtain rfl : v2 = v23 := by rw [e23, e2]
    have h24 := e24
    first | rw [fx_add_eq (by omega) (by omega)] at h24 | skip
    refine ⟨?_, fun i hi => (((show S13.1 72 (i) = S12.1 72 (i) by rw [d13]; first | exact if_neg (by omega) | rfl)).trans (((show S12.1 72 (i) = S11.1 72 (i) by rw [d12]; first | exact if_neg (by omega) | rfl)).trans (((f11 72 (i) (by omega))).trans (((f10 72 (i) (by omega))).trans (((show S9.1 72 (i) = S6.1 72 (i) by rw [d9]; first | exact if_neg (by omega) | rfl)).trans (((show S6.1 72 (i) = S5.1 72 (i) by rw [d6]; first | exact if_neg (by omega) | rfl)).trans (((f5 72 (i) (by omega))).trans (((f4 72 (i) (by omega))).trans (((show S2.1 72 (i) = S1.1 72 (i) by rw [d2]; first | exact if_neg (by omega) | rfl)).trans ((f1 72 (i) (by omega))))))))))))⟩
    rw [← f0, show S13.1 72 v1 = v24 by rw [d13]; exact if_pos ⟨rfl, rfl⟩]
    omega
theorem q393_43 (S : fx_S) (x1 : Int) (hS : fx_Sok S) (g1 : -2147483648 ≤ x1 ∧ x1 ≤ 2147483647) (v1 : Int) (e1 : v1 = fx_add x1 3) (c1 : 0 ≤ v1) (c2 : v1 < 260) (v2 : Int) (e2 : v2 = S.1 72 v1) (b2 : -2147483648 ≤ v2 ∧ v2 ≤ 2147483647) (c3 : v2 ≠ 3) (v3 : Int) (e3 : v3 = fx_add x1 4) (v4 : Int) (e4 : v4 = fx_add x1 3) (c4 : 0 ≤ v4) (c5 : v4 < 260) (v5 : Int) (e5 : v5 = S.1 72 v4) (b5 : -2147483648 ≤ v5 ∧ v5 ≤ 2147483647) (v6 : Int) (e6 : v6 = fx_mul 4 v5) (v7 : Int) (e7 : v7 = fx_add v3 v6) (v8 : Int) (S1 : fx_S) (k1 : fx_Sok S1) (b8 : -2147483648 ≤ v8 ∧ v8 ≤ 2147483647) (p1 : s353 S 6 v8 S1) (c6 : v8 ≠ 0) (c7 : 0 ≤ v7) (c8 : v7 < 260) (S2 : fx_S) (d2 : S2 = (fx_up S1.1 72 v7 1, S1.2)) (v9 : Int) (S3 : fx_S) (k3 : fx_Sok S3) (b9 : -2147483648 ≤ v9 ∧ v9 ≤ 2147483647) (p3 : s407 S2  v9 S3) (c9 : v9 = (-1)) (v10 : Int) (S4 : fx_S) (k4 : fx_Sok S4) (b10 : v10 = 0) (p4 : s226 S3 1 v10 S4) (v11 : Int) (e11 : v11 = S4.1 66 12) (b11 : -2147483648 ≤ v11 ∧ v11 ≤ 2147483647) (c10 : v11 = 0) (v12 : Int) (S5 : fx_S) (k5 : fx_Sok S5) (b12 : v12 = 0) (p5 : s120 S4  v12 S5) (v13 : Int) (e13 : v13 = fx_add v7 1) (c11 : 0 ≤ v13) (c12 : v13 < 260) (S6 : fx_S) (d6 : S6 = (fx_up S5.1 72 v13 v9, S5.2)) (c13 : v9 ≠ 3) (v14 : Int) (S7 : fx_S) (k7 : fx_Sok S7) (b14 : -2147483648 ≤ v14 ∧ v14 ≤ 2147483647) (p7 : s352 S6 61 v14 S7) (c14 : v14 = 0) (c15 : v9 ≠ 0) (v15 : Int) (S8 : fx_S) (k8 : fx_Sok S8) (b15 : -2147483648 ≤ v15 ∧ v15 ≤ 2147483647) (p8 : s352 S7 60 v15 S8) (c16 : v15 = 0) (v16 : Int) (S9 : fx_S) (k9 : fx_Sok S9) (b16 : -2147483648 ≤ v16 ∧ v16 ≤ 2147483647) (p9 : s352 S8 62 v16 S9) (c17 : v16 ≠ 0) (v17 : Int) (e17 : v17 = S9.1 66 12) (b17 : -2147483648 ≤ v17 ∧ v17 ≤ 2147483647) (c18 : v17 ≠ 0) : s393 S x1 0 S9 := by
  obtain ⟨r1, f1⟩ := p1
  obtain rfl : S2 = S3 := p3
  obtain ⟨r4, f4, p4⟩ := p4
  obtain ⟨r5, f5⟩ := p5
  obtain rfl : S6 = S7 := p7
  obtain rfl : S6 = S8 := p8
  obtain rfl : S6 = S9 := p9
  refine ⟨((show S6.2 = S5.2 by rw [d6])).trans ((r5).trans ((r4).trans (((show S2.2 = S1.2 by rw [d2])).trans (r1)))), ?_, ?_⟩
  · intro p i hW
    clear c18 b17 e17 c17 b16 c16 b15 c15 c14 b14 c13 c12 c11 e13 b12 c10 b11 e11 b10 c9 b9 c8 c7 c6 b8 e7 e6 b5 e5 c5 c4 e4 e3 c3 b2 e2 c2 c1 e1
    exact ((show S6.1 p i = S5.1 p i by rw [d6]; exact if_neg (by omega))).trans (((f5 p i (by omega))).trans (((f4 p i (by omega))).trans (((show S2.1 p i = S1.1 p i by rw [d2]; exact if_neg (by omega))).trans ((f1 p i (by omega))))))
  · skip
    intro a0 a1
    have f0 := e1
    rw [fx_add_eq (by omega) (by omega)] at f0
    have a2 := a1
    rw [← f0, ← e2] at a2
    have h1 := e1
    first | rw [fx_add_eq (by omega) (by omega)] at h1 | skip
    have h3 := e3
    first | rw [fx_add_eq (by omega) (by omega)] at h3 | skip
    obtain rfl : v1 = v4 := by rw [e4, e1]
    obtain rfl : v2 = v5 := by rw [e5, e2]
    have h6 := e6
    first | rw [fx_mul_eq (by omega) (by omega)] at h6 | skip
    have h7 := e7
    first | rw [fx_add_eq (by omega) (by omega)] at h7 | skip
    have h13 := e13
    first | rw [fx_add_eq (by omega) (by omega)] at h13 | skip
    have t17_6 : S6.1 66 12 = S5.1 66 12 := by rw [d6]; first | exact if_neg (by omega) | rfl
    rw [t17_6] at e17
    rw [f5 66 12 (by omega)] at e17
    obtain rfl : v11 = v17 := by rw [e17, e11]
    exact ⟨by rw [show S6.1 72 (x1 + 3) = S.1 72 (x1 + 3) from (((show S6.1 72 (x1 + 3) = S5.1 72 (x1 + 3) by rw [d6]; first | exact if_neg (by omega) | rfl)).trans (((f5 72 (x1 + 3) (by omega))).trans (((f4 72 (x1 + 3) (by omega))).trans (((show S2.1 72 (x1 + 3) = S1.1 72 (x1 + 3) by rw [d2]; first | exact if_neg (by omega) | rfl)).trans ((f1 72 (x1 + 3) (by omega)))))))]; exact a1, fun i hi => (((show S6.1 72 (i) = S5.1 72 (i) by rw [d6]; first | exact if_neg (by omega) | rfl)).trans (((f5 72 (i) (by omega))).trans (((f4 72 (i) (by omega))).trans (((show S2.1 72 (i) = S1.1 72 (i) by rw [d2]; first | exact if_neg (by omega) | rfl)).trans ((f1 72 (i) (by omega)))))))⟩
theorem q393_44 (S : fx_S) (x1 : Int) (hS : fx_Sok S) (g1 : -2147483648 ≤ x1 ∧ x1 ≤ 2147483647) (v1 : Int) (e1 : v1 = fx_add x1 3) (c1 : 0 ≤ v1) (c2 : v1 < 260) (v2 : Int) (e2 : v2 = S.1 72 v1) (b2 : -2147483648 ≤ v2 ∧ v2 ≤ 2147483647) (c3 : v2 ≠ 3) (v3 : Int) (e3 : v3 = fx_add x1 4) (v4 : Int) (e4 : v4 = fx_add x1 3) (c4 : 0 ≤ v4) (c5 : v4 < 260) (v5 : Int) (e5 : v5 = S.1 72 v4) (b5 : -2147483648 ≤ v5 ∧ v5 ≤ 2147483647) (v6 : Int) (e6 : v6 = fx_mul 4 v5) (v7 : Int) (e7 : v7 = fx_add v3 v6) (v8 : Int) (S1 : fx_S) (k1 : fx_Sok S1) (b8 : -2147483648 ≤ v8 ∧ v8 ≤ 2147483647) (p1 : s353 S 6 v8 S1) (c6 : v8 ≠ 0) (c7 : 0 ≤ v7) (c8 : v7 < 260) (S2 : fx_S) (d2 : S2 = (fx_up S1.1 72 v7 1, S1.2)) (v9 : Int) (S3 : fx_S) (k3 : fx_Sok S3) (b9 : -2147483648 ≤ v9 ∧ v9 ≤ 2147483647) (p3 : s407 S2  v9 S3) (c9 : v9 = (-1)) (v10 : Int) (S4 : fx_S) (k4 : fx_Sok S4) (b10 : v10 = 0) (p4 : s226 S3 1 v10 S4) (v11 : Int) (e11 : v11 = S4.1 66 12) (b11 : -2147483648 ≤ v11 ∧ v11 ≤ 2147483647) (c10 : v11 = 0) (v12 : Int) (S5 : fx_S) (k5 : fx_Sok S5) (b12 : v12 = 0) (p5 : s120 S4  v12 S5) (v13 : Int) (e13 : v13 = fx_add v7 1) (c11 : 0 ≤ v13) (c12 : v13 < 260) (S6 : fx_S) (d6 : S6 = (fx_up S5.1 72 v13 v9, S5.2)) (c13 : v9 ≠ 3) (v14 : Int) (S7 : fx_S) (k7 : fx_Sok S7) (b14 : -2147483648 ≤ v14 ∧ v14 ≤ 2147483647) (p7 : s352 S6 61 v14 S7) (c14 : v14 = 0) (c15 : v9 ≠ 0) (v15 : Int) (S8 : fx_S) (k8 : fx_Sok S8) (b15 : -2147483648 ≤ v15 ∧ v15 ≤ 2147483647) (p8 : s352 S7 60 v15 S8) (c16 : v15 = 0) (v16 : Int) (S9 : fx_S) (k9 : fx_Sok S9) (b16 : -2147483648 ≤ v16 ∧ v16 ≤ 2147483647) (p9 : s352 S8 62 v16 S9) (c17 : v16 ≠ 0) (v17 : Int) (e17 : v17 = S9.1 66 12) (b17 : -2147483648 ≤ v17 ∧ v17 ≤ 2147483647) (c18 : v17 = 0) (v18 : Int) (e18 : v18 = fx_add v7 2) (v19 : Int) (e19 : v19 = S9.1 66 11) (b19 : -2147483648 ≤ v19 ∧ v19 ≤ 2147483647) (c19 : 0 ≤ v18) (c20 : v18 < 260) (S10 : fx_S) (d10 : S10 = (fx_up S9.1 72 v18 v19, S9.2)) (v20 : Int) (S11 : fx_S) (k11 : fx_Sok S11) (b20 : v20 = 0) (p11 : s120 S10  v20 S11) (v21 : Int) (e21 : v21 = fx_add v7 3) (v22 : Int) (S12 : fx_S) (k12 : fx_Sok S12) (b22 : -2147483648 ≤ v22 ∧ v22 ≤ 2147483647) (p12 : s351 S11 0 9999 v22 S12) (c21 : 0 ≤ v21) (c22 : v21 < 260) (S13 : fx_S) (d13 : S13 = (fx_up S12.1 72 v21 v22, S12.2)) (v23 : Int) (e23 : v23 = fx_add x1 3) (c23 : 0 ≤ v23) (c24 : v23 < 260) (v24 : Int) (e24 : v24 = S13.1 72 v23) (b24 : -2147483648 ≤ v24 ∧ v24 ≤ 2147483647) (v25 : Int) (e25 : v25 = fx_add v24 1) (c25 : 0 ≤ v23) (c26 : v23 < 260) (S14 : fx_S) (d14 : S14 = (fx_up S13.1 72 v23 v25, S13.2)) : s393 S x1 0 S14 := by
  obtain ⟨r1, f1⟩ := p1
  obtain rfl : S2 = S3 := p3
  obtain ⟨r4, f4, p4⟩ := p4
  obtain ⟨r5, f5⟩ := p5
  obtain rfl : S6 = S7 := p7
  obtain rfl : S6 = S8 := p8
  obtain rfl : S6 = S9 := p9
  obtain ⟨r11, f11⟩ := p11
  obtain ⟨r12, f12, p12⟩ := p12
  refine ⟨((show S14.2 = S13.2 by rw [d14])).trans (((show S13.2 = S12.2 by rw [d13])).trans ((r12).trans ((r11).trans (((show S10.2 = S6.2 by rw [d10])).trans (((show S6.2 = S5.2 by rw [d6])).trans ((r5).trans ((r4).trans (((show S2.2 = S1.2 by rw [d2])).trans (r1))))))))), ?_, ?_⟩
  · intro p i hW
    clear c26 c25 e25 b24 e24 c24 c23 e23 c22 c21 b22 e21 b20 c20 c19 b19 e19 e18 c18 b17 e17 c17 b16 c16 b15 c15 c14 b14 c13 c12 c11 e13 b12 c10 b11 e11 b10 c9 b9 c8 c7 c6 b8 e7 e6 b5 e5 c5 c4 e4 e3 c3 b2 e2 c2 c1 e1
    exact ((show S14.1 p i = S13.1 p i by rw [d14]; exact if_neg (by omega))).trans (((show S13.1 p i = S12.1 p i by rw [d13]; exact if_neg (by omega))).trans (((f12 p i (by omega))).trans (((f11 p i (by omega))).trans (((show S10.1 p i = S6.1 p i by rw [d10]; exact if_neg (by omega))).trans (((show S6.1 p i = S5.1 p i by rw [d6]; exact if_neg (by omega))).trans (((f5 p i (by omega))).trans (((f4 p i (by omega))).trans (((show S2.1 p i = S1.1 p i by rw [d2]; exact if_neg (by omega))).trans ((f1 p i (by omega)))))))))))
  · skip
    intro a0 a1
    have f0 := e1
    rw [fx_add_eq (by omega) (by omega)] at f0
    have a2 := a1
    rw [← f0, ← e2] at a2
    have h1 := e1
    first | rw [fx_add_eq (by omega) (by omega)] at h1 | skip
    have h3 := e3
    first | rw [fx_add_eq (by omega) (by omega)] at h3 | skip
    obtain rfl : v1 = v4 := by rw [e4, e1]
    obtain rfl : v2 = v5 := by rw [e5, e2]
    have h6 := e6
    first | rw [fx_mul_eq (by omega) (by omega)] at h6 | skip
    have h7 := e7
    first | rw [fx_add_eq (by omega) (by omega)] at h7 | skip
    have h13 := e13
    first | rw [fx_add_eq (by omega) (by omega)] at h13 | skip
    have t17_6 : S6.1 66 12 = S5.1 66 12 := by rw [d6]; first | exact if_neg (by omega) | rfl
    rw [t17_6] at e17
    rw [f5 66 12 (by omega)] at e17
    obtain rfl : v11 = v17 := by rw [e17, e11]
    have h18 := e18
    first | rw [fx_add_eq (by omega) (by omega)] at h18 | skip
    have t19_6 : S6.1 66 11 = S5.1 66 11 := by rw [d6]; first | exact if_neg (by omega) | rfl
    rw [t19_6] at e19
    have h21 := e21
    first | rw [fx_add_eq (by omega) (by omega)] at h21 | skip
    obtain rfl : v1 = v23 := by rw [e23, e1]
    have t24_13 : S13.1 72 v1 = S12.1 72 v1 := by rw [d13]; first | exact if_neg (by omega) | rfl
    rw [t24_13] at e24
    rw [f12 72 v1 (by omega)] at e24
    rw [f11 72 v1 (by omega)] at e24
    have t24_10 : S10.1 72 v1 = S6.1 72 v1 := by rw [d10]; first | exact if_neg (by omega) | rfl
    rw [t24_10] at e24
    have t24_6 : S6.1 72 v1 = S5.1 72 v1 := by rw [d6]; first | exact if_neg (by omega) | rfl
    rw [t24_6] at e24
    rw [f5 72 v1 (by omega)] at e24
    rw [f4 72 v1 (by omega)] at e24
    have t24_2 : S2.1 72 v1 = S1.1 72 v1 := by rw [d2]; first | exact if_neg (by omega) | rfl
    rw [t24_2] at e24
    rw [f1 72 v1 (by omega)] at e24
    obtain rfl : v2 = v24 := by rw [e24, e2]
    have h25 := e25
    first | rw [fx_add_eq (by omega) (by omega)] at h25 | skip
    refine ⟨?_, fun i hi => (((show S14.1 72 (i) = S13.1 72 (i) by rw [d14]; first | exact if_neg (by omega) | rfl)).trans (((show S13.1 72 (i) = S12.1 72 (i) by rw [d13]; first | exact if_neg (by omega) | rfl)).trans (((f12 72 (i) (by omega))).trans (((f11 72 (i) (by omega))).trans (((show S10.1 72 (i) = S6.1 72 (i) by rw [d10]; first | exact if_neg (by omega) | rfl)).trans (((show S6.1 72 (i) = S5.1 72 (i) by rw [d6]; first | exact if_neg (by omega) | rfl)).trans (((f5 72 (i) (by omega))).trans (((f4 72 (i) (by omega))).trans (((show S2.1 72 (i) = S1.1 72 (i) by rw [d2]; first | exact if_neg (by omega) | rfl)).trans ((f1 72 (i) (by omega))))))))))))⟩
    rw [← f0, show S14.1 72 v1 = v25 by rw [d14]; exact if_pos ⟨rfl, rfl⟩]
    omega
theorem q393_45 (S : fx_S) (x1 : Int) (hS : fx_Sok S) (g1 : -2147483648 ≤ x1 ∧ x1 ≤ 2147483647) (v1 : Int) (e1 : v1 = fx_add x1 3) (c1 : 0 ≤ v1) (c2 : v1 < 260) (v2 : Int) (e2 : v2 = S.1 72 v1) (b2 : -2147483648 ≤ v2 ∧ v2 ≤ 2147483647) (c3 : v2 ≠ 3) (v3 : Int) (e3 : v3 = fx_add x1 4) (v4 : Int) (e4 : v4 = fx_add x1 3) (c4 : 0 ≤ v4) (c5 : v4 < 260) (v5 : Int) (e5 : v5 = S.1 72 v4) (b5 : -2147483648 ≤ v5 ∧ v5 ≤ 2147483647) (v6 : Int) (e6 : v6 = fx_mul 4 v5) (v7 : Int) (e7 : v7 = fx_add v3 v6) (v8 : Int) (S1 : fx_S) (k1 : fx_Sok S1) (b8 : -2147483648 ≤ v8 ∧ v8 ≤ 2147483647) (p1 : s353 S 6 v8 S1) (c6 : v8 ≠ 0) (c7 : 0 ≤ v7) (c8 : v7 < 260) (S2 : fx_S) (d2 : S2 = (fx_up S1.1 72 v7 1, S1.2)) (v9 : Int) (S3 : fx_S) (k3 : fx_Sok S3) (b9 : -2147483648 ≤ v9 ∧ v9 ≤ 2147483647) (p3 : s407 S2  v9 S3) (c9 : v9 = (-1)) (v10 : Int) (S4 : fx_S) (k4 : fx_Sok S4) (b10 : v10 = 0) (p4 : s226 S3 1 v10 S4) (v11 : Int) (e11 : v11 = S4.1 66 12) (b11 : -2147483648 ≤ v11 ∧ v11 ≤ 2147483647) (c10 : v11 = 0) (v12 : Int) (S5 : fx_S) (k5 : fx_Sok S5) (b12 : v12 = 0) (p5 : s120 S4  v12 S5) (v13 : Int) (e13 : v13 = fx_add v7 1) (c11 : 0 ≤ v13) (c12 : v13 < 260) (S6 : fx_S) (d6 : S6 = (fx_up S5.1 72 v13 v9, S5.2)) (c13 : v9 ≠ 3) (v14 : Int) (S7 : fx_S) (k7 : fx_Sok S7) (b14 : -2147483648 ≤ v14 ∧ v14 ≤ 2147483647) (p7 : s352 S6 61 v14 S7) (c14 : v14 = 0) (c15 : v9 ≠ 0) (v15 : Int) (S8 : fx_S) (k8 : fx_Sok S8) (b15 : -2147483648 ≤ v15 ∧ v15 ≤ 2147483647) (p8 : s352 S7 60 v15 S8) (c16 : v15 = 0) (v16 : Int) (S9 : fx_S) (k9 : fx_Sok S9) (b16 : -2147483648 ≤ v16 ∧ v16 ≤ 2147483647) (p9 : s352 S8 62 v16 S9) (c17 : v16 = 0) (v17 : Int) (S10 : fx_S) (k10 : fx_Sok S10) (b17 : v17 = 0) (p10 : s226 S9 1 v17 S10) (v18 : Int) (e18 : v18 = S10.1 66 12) (b18 : -2147483648 ≤ v18 ∧ v18 ≤ 2147483647) (c18 : v18 ≠ 0) : s393 S x1 0 S10 := by
  obtain ⟨r1, f1⟩ := p1
  obtain rfl : S2 = S3 := p3
  obtain ⟨r4, f4, p4⟩ := p4
  obtain ⟨r5, f5⟩ := p5
  obtain rfl : S6 = S7 := p7
  obtain rfl : S6 = S8 := p8
  obtain rfl : S6 = S9 := p9
  obtain ⟨r10, f10, p10⟩ := p10
  refine ⟨(r10).trans (((show S6.2 = S5.2 by rw [d6])).trans ((r5).trans ((r4).trans (((show S2.2 = S1.2 by rw [d2])).trans (r1))))), ?_, ?_⟩
  · intro p i hW
    clear c18 b18 e18 b17 c17 b16 c16 b15 c15 c14 b14 c13 c12 c11 e13 b12 c10 b11 e11 b10 c9 b9 c8 c7 c6 b8 e7 e6 b5 e5 c5 c4 e4 e3 c3 b2 e2 c2 c1 e1
    exact ((f10 p i (by omega))).trans (((show S6.1 p i = S5.1 p i by rw [d6]; exact if_neg (by omega))).trans (((f5 p i (by omega))).trans (((f4 p i (by omega))).trans (((show S2.1 p i = S1.1 p i by rw [d2]; exact if_neg (by omega))).trans ((f1 p i (by omega)))))))
  · skip
    intro a0 a1
    have f0 := e1
    rw [fx_add_eq (by omega) (by omega)] at f0
    have a2 := a1
    rw [← f0, ← e2] at a2
    have h1 := e1
    first | rw [fx_add_eq (by omega) (by omega)] at h1 | skip
    have h3 := e3
    first | rw [fx_add_eq (by omega) (by omega)] at h3 | skip
    obtain rfl : v1 = v4 := by rw [e4, e1]
    obtain rfl : v2 = v5 := by rw [e5, e2]
    have h6 := e6
    first | rw [fx_mul_eq (by omega) (by omega)] at h6 | skip
    have h7 := e7
    first | rw [fx_add_eq (by omega) (by omega)] at h7 | skip
    have h13 := e13
    first | rw [fx_add_eq (by omega) (by omega)] at h13 | skip
    exact ⟨by rw [show S10.1 72 (x1 + 3) = S.1 72 (x1 + 3) from (((f10 72 (x1 + 3) (by omega))).trans (((show S6.1 72 (x1 + 3) = S5.1 72 (x1 + 3) by rw [d6]; first | exact if_neg (by omega) | rfl)).trans (((f5 72 (x1 + 3) (by omega))).trans (((f4 72 (x1 + 3) (by omega))).trans (((show S2.1 72 (x1 + 3) = S1.1 72 (x1 + 3) by rw [d2]; first | exact if_neg (by omega) | rfl)).trans ((f1 72 (x1 + 3) (by omega))))))))]; exact a1, fun i hi => (((f10 72 (i) (by omega))).trans (((show S6.1 72 (i) = S5.1 72 (i) by rw [d6]; first | exact if_neg (by omega) | rfl)).trans (((f5 72 (i) (by omega))).trans (((f4 72 (i) (by omega))).trans (((show S2.1 72 (i) = S1.1 72 (i) by rw [d2]; first | exact if_neg (by omega) | rfl)).trans ((f1 72 (i) (by omega))))))))⟩
theorem q393_46 (S : fx_S) (x1 : Int) (hS : fx_Sok S) (g1 : -2147483648 ≤ x1 ∧ x1 ≤ 2147483647) (v1 : Int) (e1 : v1 = fx_add x1 3) (c1 : 0 ≤ v1) (c2 : v1 < 260) (v2 : Int) (e2 : v2 = S.1 72 v1) (b2 : -2147483648 ≤ v2 ∧ v2 ≤ 2147483647) (c3 : v2 ≠ 3) (v3 : Int) (e3 : v3 = fx_add x1 4) (v4 : Int) (e4 : v4 = fx_add x1 3) (c4 : 0 ≤ v4) (c5 : v4 < 260) (v5 : Int) (e5 : v5 = S.1 72 v4) (b5 : -2147483648 ≤ v5 ∧ v5 ≤ 2147483647) (v6 : Int) (e6 : v6 = fx_mul 4 v5) (v7 : Int) (e7 : v7 = fx_add v3 v6) (v8 : Int) (S1 : fx_S) (k1 : fx_Sok S1) (b8 : -2147483648 ≤ v8 ∧ v8 ≤ 2147483647) (p1 : s353 S 6 v8 S1) (c6 : v8 ≠ 0) (c7 : 0 ≤ v7) (c8 : v7 < 260) (S2 : fx_S) (d2 : S2 = (fx_up S1.1 72 v7 1, S1.2)) (v9 : Int) (S3 : fx_S) (k3 : fx_Sok S3) (b9 : -2147483648 ≤ v9 ∧ v9 ≤ 2147483647) (p3 : s407 S2  v9 S3) (c9 : v9 = (-1)) (v10 : Int) (S4 : fx_S) (k4 : fx_Sok S4) (b10 : v10 = 0) (p4 : s226 S3 1 v10 S4) (v11 : Int) (e11 : v11 = S4.1 66 12) (b11 : -2147483648 ≤ v11 ∧ v11 ≤ 2147483647) (c10 : v11 = 0) (v12 : Int) (S5 : fx_S) (k5 : fx_Sok S5) (b12 : v12 = 0) (p5 : s120 S4  v12 S5) (v13 : Int) (e13 : v13 = fx_add v7 1) (c11 : 0 ≤ v13) (c12 : v13 < 260) (S6 : fx_S) (d6 : S6 = (fx_up S5.1 72 v13 v9, S5.2)) (c13 : v9 ≠ 3) (v14 : Int) (S7 : fx_S) (k7 : fx_Sok S7) (b14 : -2147483648 ≤ v14 ∧ v14 ≤ 2147483647) (p7 : s352 S6 61 v14 S7) (c14 : v14 = 0) (c15 : v9 ≠ 0) (v15 : Int) (S8 : fx_S) (k8 : fx_Sok S8) (b15 : -2147483648 ≤ v15 ∧ v15 ≤ 2147483647) (p8 : s352 S7 60 v15 S8) (c16 : v15 = 0) (v16 : Int) (S9 : fx_S) (k9 : fx_Sok S9) (b16 : -2147483648 ≤ v16 ∧ v16 ≤ 2147483647) (p9 : s352 S8 62 v16 S9) (c17 : v16 = 0) (v17 : Int) (S10 : fx_S) (k10 : fx_Sok S10) (b17 : v17 = 0) (p10 : s226 S9 1 v17 S10) (v18 : Int) (e18 : v18 = S10.1 66 12) (b18 : -2147483648 ≤ v18 ∧ v18 ≤ 2147483647) (c18 : v18 = 0) (v19 : Int) (e19 : v19 = fx_add v7 2) (v20 : Int) (e20 : v20 = S10.1 66 11) (b20 : -2147483648 ≤ v20 ∧ v20 ≤ 2147483647) (c19 : 0 ≤ v19) (c20 : v19 < 260) (S11 : fx_S) (d11 : S11 = (fx_up S10.1 72 v19 v20, S10.2)) (v21 : Int) (S12 : fx_S) (k12 : fx_Sok S12) (b21 : v21 = 0) (p12 : s120 S11  v21 S12) (v22 : Int) (e22 : v22 = fx_add v7 3) (v23 : Int) (S13 : fx_S) (k13 : fx_Sok S13) (b23 : -2147483648 ≤ v23 ∧ v23 ≤ 2147483647) (p13 : s351 S12 0 9999 v23 S13) (c21 : 0 ≤ v22) (c22 : v22 < 260) (S14 : fx_S) (d14 : S14 = (fx_up S13.1 72 v22 v23, S13.2)) (v24 : Int) (e24 : v24 = fx_add x1 3) (c23 : 0 ≤ v24) (c24 : v24 < 260) (v25 : Int) (e25 : v25 = S14.1 72 v24) (b25 : -2147483648 ≤ v25 ∧ v25 ≤ 2147483647) (v26 : Int) (e26 : v26 = fx_add v25 1) (c25 : 0 ≤ v24) (c26 : v24 < 260) (S15 : fx_S) (d15 : S15 = (fx_up S14.1 72 v24 v26, S14.2)) : s393 S x1 0 S15 := by
  obtain ⟨r1, f1⟩ := p1
  obtain rfl : S2 = S3 := p3
  obtain ⟨r4, f4, p4⟩ := p4
  obtain ⟨r5, f5⟩ := p5
  obtain rfl : S6 = S7 := p7
  obtain rfl : S6 = S8 := p8
  obtain rfl : S6 = S9 := p9
  obtain ⟨r10, f10, p10⟩ := p10
  obtain ⟨r12, f12⟩ := p12
  obtain ⟨r13, f13, p13⟩ := p13
  refine ⟨((show S15.2 = S14.2 by rw [d15])).trans (((show S14.2 = S13.2 by rw [d14])).trans ((r13).trans ((r12).trans (((show S11.2 = S10.2 by rw [d11])).trans ((r10).trans (((show S6.2 = S5.2 by rw [d6])).trans ((r5).trans ((r4).trans (((show S2.2 = S1.2 by rw [d2])).trans (r1)))))))))), ?_, ?_⟩
  · intro p i hW
    clear c26 c25 e26 b25 e25 c24 c23 e24 c22 c21 b23 e22 b21 c20 c19 b20 e20 e19 c18 b18 e18 b17 c17 b16 c16 b15 c15 c14 b14 c13 c12 c11 e13 b12 c10 b11 e11 b10 c9 b9 c8 c7 c6 b8 e7 e6 b5 e5 c5 c4 e4 e3 c3 b2 e2 c2 c1 e1
    exact ((show S15.1 p i = S14.1 p i by rw [d15]; exact if_neg (by omega))).trans (((show S14.1 p i = S13.1 p i by rw [d14]; exact if_neg (by omega))).trans (((f13 p i (by omega))).trans (((f12 p i (by omega))).trans (((show S11.1 p i = S10.1 p i by rw [d11]; exact if_neg (by omega))).trans (((f10 p i (by omega))).trans (((show S6.1 p i = S5.1 p i by rw [d6]; exact if_neg (by omega))).trans (((f5 p i (by omega))).trans (((f4 p i (by omega))).trans (((show S2.1 p i = S1.1 p i by rw [d2]; exact if_neg (by omega))).trans ((f1 p i (by omega))))))))))))
  · skip
    intro a0 a1
    have f0 := e1
    rw [fx_add_eq (by omega) (by omega)] at f0
    have a2 := a1
    rw [← f0, ← e2] at a2
    have h1 := e1
    first | rw [fx_add_eq (by omega) (by omega)] at h1 | skip
    have h3 := e3
    first | rw [fx_add_eq (by omega) (by omega)] at h3 | skip
    obtain rfl : v1 = v4 := by rw [e4, e1]
    obtain rfl : v2 = v5 := by rw [e5, e2]
    have h6 := e6
    first | rw [fx_mul_eq (by omega) (by omega)] at h6 | skip
    have h7 := e7
    first | rw [fx_add_eq (by omega) (by omega)] at h7 | skip
    have h13 := e13
    first | rw [fx_add_eq (by omega) (by omega)] at h13 | skip
    have h19 := e19
    first | rw [fx_add_eq (by omega) (by omega)] at h19 | skip
    rw [f10 66 11 (by omega)] at e20
    have t20_6 : S6.1 66 11 = S5.1 66 11 := by rw [d6]; first | exact if_neg (by omega) | rfl
    rw [t20_6] at e20
    have h22 := e22
    first | rw [fx_add_eq (by omega) (by omega)] at h22 | skip
    obtain rfl : v1 = v24 := by rw [e24, e1]
    have t25_14 : S14.1 72 v1 = S13.1 72 v1 := by rw [d14]; first | exact if_neg (by omega) | rfl
    rw [t25_14] at e25
    rw [f13 72 v1 (by omega)] at e25
    rw [f12 72 v1 (by omega)] at e25
    have t25_11 : S11.1 72 v1 = S10.1 72 v1 := by rw [d11]; first | exact if_neg (by omega) | rfl
    rw [t25_11] at e25
    rw [f10 72 v1 (by omega)] at e25
    have t25_6 : S6.1 72 v1 = S5.1 72 v1 := by rw [d6]; first | exact if_neg (by omega) | rfl
    rw [t25_6] at e25
    rw [f5 72 v1 (by omega)] at e25
    rw [f4 72 v1 (by omega)] at e25
    have t25_2 : S2.1 72 v1 = S1.1 72 v1 := by rw [d2]; first | exact if_neg (by omega) | rfl
    rw [t25_2] at e25
    rw [f1 72 v1 (by omega)] at e25
    obtain rfl : v2 = v25 := by rw [e25, e2]
    have h26 := e26
    first | rw [fx_add_eq (by omega) (by omega)] at h26 | skip
    refine ⟨?_, fun i hi => (((show S15.1 72 (i) = S14.1 72 (i) by rw [d15]; first | exact if_neg (by omega) | rfl)).trans (((show S14.1 72 (i) = S13.1 72 (i) by rw [d14]; first | exact if_neg (by omega) | rfl)).trans (((f13 72 (i) (by omega))).trans (((f12 72 (i) (by omega))).trans (((show S11.1 72 (i) = S10.1 72 (i) by rw [d11]; first | exact if_neg (by omega) | rfl)).trans (((f10 72 (i) (by omega))).trans (((show S6.1 72 (i) = S5.1 72 (i) by rw [d6]; first | exact if_neg (by omega) | rfl)).trans (((f5 72 (i) (by omega))).trans (((f4 72 (i) (by omega))).trans (((show S2.1 72 (i) = S1.1 72 (i) by rw [d2]; first | exact if_neg (by omega) | rfl)).trans ((f1 72 (i) (by omega)))))))))))))⟩
    rw [← f0, show S15.1 72 v1 = v26 by rw [d15]; exact if_pos ⟨rfl, rfl⟩]
    omega
theorem q393_47 (S : fx_S) (x1 : Int) (hS : fx_Sok S) (g1 : -2147483648 ≤ x1 ∧ x1 ≤ 2147483647) (v1 : Int) (e1 : v1 = fx_add x1 3) (c1 : 0 ≤ v1) (c2 : v1 < 260) (v2 : Int) (e2 : v2 = S.1 72 v1) (b2 : -2147483648 ≤ v2 ∧ v2 ≤ 2147483647) (c3 : v2 ≠ 3) (v3 : Int) (e3 : v3 = fx_add x1 4) (v4 : Int) (e4 : v4 = fx_add x1 3) (c4 : 0 ≤ v4) (c5 : v4 < 260) (v5 : Int) (e5 : v5 = S.1 72 v4) (b5 : -2147483648 ≤ v5 ∧ v5 ≤ 2147483647) (v6 : Int) (e6 : v6 = fx_mul 4 v5) (v7 : Int) (e7 : v7 = fx_add v3 v6) (v8 : Int) (S1 : fx_S) (k1 : fx_Sok S1) (b8 : -2147483648 ≤ v8 ∧ v8 ≤ 2147483647) (p1 : s353 S 6 v8 S1) (c6 : v8 ≠ 0) (c7 : 0 ≤ v7) (c8 : v7 < 260) (S2 : fx_S) (d2 : S2 = (fx_up S1.1 72 v7 1, S1.2)) (v9 : Int) (S3 : fx_S) (k3 : fx_Sok S3) (b9 : -2147483648 ≤ v9 ∧ v9 ≤ 2147483647) (p3 : s407 S2  v9 S3) (c9 : v9 = (-1)) (v10 : Int) (S4 : fx_S) (k4 : fx_Sok S4) (b10 : v10 = 0) (p4 : s226 S3 1 v10 S4) (v11 : Int) (e11 : v11 = S4.1 66 12) (b11 : -2147483648 ≤ v11 ∧ v11 ≤ 2147483647) (c10 : v11 = 0) (v12 : Int) (S5 : fx_S) (k5 : fx_Sok S5) (b12 : v12 = 0) (p5 : s120 S4  v12 S5) (v13 : Int) (e13 : v13 = fx_add v7 1) (c11 : 0 ≤ v13) (c12 : v13 < 260) (S6 : fx_S) (d6 : S6 = (fx_up S5.1 72 v13 v9, S5.2)) (c13 : v9 = 3) (v14 : Int) (e14 : v14 = fx_add v7 2) (v15 : Int) (e15 : v15 = S6.1 67 1) (b15 : -2147483648 ≤ v15 ∧ v15 ≤ 2147483647) (v16 : Int) (e16 : v16 = fx_sub v15 1) (v17 : Int) (S7 : fx_S) (k7 : fx_Sok S7) (b17 : -2147483648 ≤ v17 ∧ v17 ≤ 2147483647) (p7 : s351 S6 0 v16 v17 S7) (c14 : 0 ≤ v14) (c15 : v14 < 260) (S8 : fx_S) (d8 : S8 = (fx_up S7.1 72 v14 v17, S7.2)) (v18 : Int) (e18 : v18 = fx_add v7 3) (v19 : Int) (S9 : fx_S) (k9 : fx_Sok S9) (b19 : -2147483648 ≤ v19 ∧ v19 ≤ 2147483647) (p9 : s351 S8 0 9999 v19 S9) (c16 : 0 ≤ v18) (c17 : v18 < 260) (S10 : fx_S) (d10 : S10 = (fx_up S9.1 72 v18 v19, S9.2)) (v20 : Int) (e20 : v20 = fx_add x1 3) (c18 : 0 ≤ v20) (c19 : v20 < 260) (v21 : Int) (e21 : v21 = S10.1 72 v20) (b21 : -2147483648 ≤ v21 ∧ v21 ≤ 2147483647) (v22 : Int) (e22 : v22 = fx_add v21 1) (c20 : 0 ≤ v20) (c21 : v20 < 260) (S11 : fx_S) (d11 : S11 = (fx_up S10.1 72 v20 v22, S10.2)) : s393 S x1 0 S11 := by
  obtain ⟨r1, f1⟩ := p1
  obtain rfl : S2 = S3 := p3
  obtain ⟨r4, f4, p4⟩ := p4
  obtain ⟨r5, f5⟩ := p5
  obtain ⟨r7, f7, p7⟩ := p7
  obtain ⟨r9, f9, p9⟩ := p9
  refine ⟨((show S11.2 = S10.2 by rw [d11])).trans (((show S10.2 = S9.2 by rw [d10])).trans ((r9).trans (((show S8.2 = S7.2 by rw [d8])).trans ((r7).trans (((show S6.2 = S5.2 by rw [d6])).trans ((r5).trans ((r4).trans (((show S2.2 = S1.2 by rw [d2])).trans (r1))))))))), ?_, ?_⟩
  · intro p i hW
    clear c21 c20 e22 b21 e21 c19 c18 e20 c17 c16 b19 e18 c15 c14 b17 e16 b15 e15 e14 c13 c12 c11 e13 b12 c10 b11 e11 b10 c9 b9 c8 c7 c6 b8 e7 e6 b5 e5 c5 c4 e4 e3 c3 b2 e2 c2 c1 e1
    exact ((show S11.1 p i = S10.1 p i by rw [d11]; exact if_neg (by omega))).trans (((show S10.1 p i = S9.1 p i by rw [d10]; exact if_neg (by omega))).trans (((f9 p i (by omega))).trans (((show S8.1 p i = S7.1 p i by rw [d8]; exact if_neg (by omega))).trans (((f7 p i (by omega))).trans (((show S6.1 p i = S5.1 p i by rw [d6]; exact if_neg (by omega))).trans (((f5 p i (by omega))).trans (((f4 p i (by omega))).trans (((show S2.1 p i = S1.1 p i by rw [d2]; exact if_neg (by omega))).trans ((f1 p i (by omega)))))))))))
  · skip
    intro a0 a1
    have f0 := e1
    rw [fx_add_eq (by omega) (by omega)] at f0
    have a2 := a1
    rw [← f0, ← e2] at a2
    have h1 := e1
    first | rw [fx_add_eq (by omega) (by omega)] at h1 | skip
    have h3 := e3
    first | rw [fx_add_eq (by omega) (by omega)] at h3 | skip
    obtain rfl : v1 = v4 := by rw [e4, e1]
    obtain rfl : v2 = v5 := by rw [e5, e2]
    have h6 := e6
    first | rw [fx_mul_eq (by omega) (by omega)] at h6 | skip
    have h7 := e7
    first | rw [fx_add_eq (by omega) (by omega)] at h7 | skip
    have h13 := e13
    first | rw [fx_add_eq (by omega) (by omega)] at h13 | skip
    have h14 := e14
    first | rw [fx_add_eq (by omega) (by omega)] at h14 | skip
    have t15_6 : S6.1 67 1 = S5.1 67 1 := by rw [d6]; first | exact if_neg (by omega) | rfl
    rw [t15_6] at e15
    rw [f5 67 1 (by omega)] at e15
    rw [f4 67 1 (by omega)] at e15
    have t15_2 : S2.1 67 1 = S1.1 67 1 := by rw [d2]; first | exact if_neg (by omega) | rfl
    rw [t15_2] at e15
    rw [f1 67 1 (by omega)] at e15
    have h16 := e16
    first | rw [fx_sub_eq (by omega) (by omega)] at h16 | skip
    have h18 := e18
    first | rw [fx_add_eq (by omega) (by omega)] at h18 | skip
    obtain rfl : v1 = v20 := by rw [e20, e1]
    have t21_10 : S10.1 72 v1 = S9.1 72 v1 := by rw [d10]; first | exact if_neg (by omega) | rfl
    rw [t21_10] at e21
    rw [f9 72 v1 (by omega)] at e21
    have t21_8 : S8.1 72 v1 = S7.1 72 v1 := by rw [d8]; first | exact if_neg (by omega) | rfl
    rw [t21_8] at e21
    rw [f7 72 v1 (by omega)] at e21
    have t21_6 : S6.1 72 v1 = S5.1 72 v1 := by rw [d6]; first | exact if_neg (by omega) | rfl
    rw [t21_6] at e21
    rw [f5 72 v1 (by omega)] at e21
    rw [f4 72 v1 (by omega)] at e21
    have t21_2 : S2.1 72 v1 = S1.1 72 v1 := by rw [d2]; first | exact if_neg (by omega) | rfl
    rw [t21_2] at e21
    rw [f1 72 v1 (by omega)] at e21
    obtain rfl : v2 = v21 := by rw [e21, e2]
    have h22 := e22
    first | rw [fx_add_eq (by omega) (by omega)] at h22 | skip
    refine ⟨?_, fun i hi => (((show S11.1 72 (i) = S10.1 72 (i) by rw [d11]; first | exact if_neg (by omega) | rfl)).trans (((show S10.1 72 (i) = S9.1 72 (i) by rw [d10]; first | exact if_neg (by omega) | rfl)).trans (((f9 72 (i) (by omega))).trans (((show S8.1 72 (i) = S7.1 72 (i) by rw [d8]; first | exact if_neg (by omega) | rfl)).trans (((f7 72 (i) (by omega))).trans (((show S6.1 72 (i) = S5.1 72 (i) by rw [d6]; first | exact if_neg (by omega) | rfl)).trans (((f5 72 (i) (by omega))).trans (((f4 72 (i) (by omega))).trans (((show S2.1 72 (i) = S1.1 72 (i) by rw [d2]; first | exact if_neg (by omega) | rfl)).trans ((f1 72 (i) (by omega))))))))))))⟩
    rw [← f0, show S11.1 72 v1 = v22 by rw [d11]; exact if_pos ⟨rfl, rfl⟩]
    omega
