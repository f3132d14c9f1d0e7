/-! FX: what is to be shown of the entries -/
theorem q305_30 (S : fx_S) (x1 x2 x3 : Int) (hS : fx_Sok S) (g1 : -2147483648 ≤ x1 ∧ x1 ≤ 2147483647) (g2 : -2147483648 ≤ x2 ∧ x2 ≤ 2147483647) (g3 : -2147483648 ≤ x3 ∧ x3 ≤ 2147483647) (c1 : 16 ≤ x3) (c2 : 0 ≤ x1) (c3 : x1 < 260) (S1 : fx_S) (d1 : S1 = (fx_up S.1 72 x1 x2, S.2)) (c4 : x2 ≠ 0) (c5 : x2 ≠ 1) (c6 : x2 = 2) (v3 : Int) (e3 : v3 = fx_add x1 1) (v4 : Int) (S2 : fx_S) (k2 : fx_Sok S2) (b4 : -2147483648 ≤ v4 ∧ v4 ≤ 2147483647) (p2 : s304 S1 13 v4 S2) (c7 : v4 ≠ 0) (c8 : 0 ≤ v3) (c9 : v3 < 260) (S3 : fx_S) (d3 : S3 = (fx_up S2.1 72 v3 1, S2.2)) (v5 : Int) (S4 : fx_S) (k4 : fx_Sok S4) (b5 : -2147483648 ≤ v5 ∧ v5 ≤ 2147483647) (p4 : s353 S3 12 v5 S4) (c10 : v5 = 0) (v6 : Int) (S5 : fx_S) (k5 : fx_Sok S5) (b6 : -2147483648 ≤ v6 ∧ v6 ≤ 2147483647) (p5 : s353 S4 13 v6 S5) (c11 : v6 = 0) (v7 : Int) (S6 : fx_S) (k6 : fx_Sok S6) (b7 : v7 = 0) (p6 : s226 S5 1 v7 S6) (v8 : Int) (S7 : fx_S) (k7 : fx_Sok S7) (b8 : -2147483648 ≤ v8 ∧ v8 ≤ 2147483647) (p7 : s352 S6 59 v8 S7) (c12 : v8 = 0) (v9 : Int) (S8 : fx_S) (k8 : fx_Sok S8) (b9 : v9 = 0) (p8 : s226 S7 1 v9 S8) (v10 : Int) (e10 : v10 = S8.1 66 12) (b10 : -2147483648 ≤ v10 ∧ v10 ≤ 2147483647) (c13 : v10 ≠ 0) : s305 S x1 x2 x3 0 S8 := by
  obtain rfl : S1 = S2 := p2
  obtain ⟨r4, f4⟩ := p4
  obtain ⟨r5, f5⟩ := p5
  obtain ⟨r6, f6, p6⟩ := p6
  obtain rfl : S6 = S7 := p7
  obtain ⟨r8, f8, p8⟩ := p8
  refine ⟨(r8).trans ((r6).trans ((r5).trans ((r4).trans (((show S3.2 = S1.2 by rw [d3])).trans ((show S1.2 = S.2 by rw [d1])))))), ?_, ?_⟩
  · intro p i hW
    clear c13 b10 e10 b9 c12 b8 b7 c11 b6 c10 b5 c9 c8 c7 b4 e3 c6 c5 c4 c3 c2 c1
    exact ((f8 p i (by omega))).trans (((f6 p i (by omega))).trans (((f5 p i (by omega))).trans (((f4 p i (by omega))).trans (((show S3.1 p i = S1.1 p i by rw [d3]; exact if_neg (by omega))).trans ((show S1.1 p i = S.1 p i by rw [d1]; exact if_neg (by omega)))))))
  · skip
    intro a0 a1 a2 a3
    have h3 := e3
    first | rw [fx_add_eq (by omega) (by omega)] at h3 | skip
    refine ⟨fun h => ?_, fun i hi => (((f8 72 (i) (by omega))).trans (((f6 72 (i) (by omega))).trans (((f5 72 (i) (by omega))).trans (((f4 72 (i) (by omega))).trans (((show S3.1 72 (i) = S1.1 72 (i) by rw [d3]; first | exact if_neg (by omega) | rfl)).trans ((show S1.1 72 (i) = S.1 72 (i) by rw [d1]; first | exact if_neg (by omega) | rfl)))))))⟩
    rw [show S8.1 72 (x1) = S1.1 72 (x1) from (((f8 72 (x1) (by omega))).trans (((f6 72 (x1) (by omega))).trans (((f5 72 (x1) (by omega))).trans (((f4 72 (x1) (by omega))).trans ((show S3.1 72 (x1) = S1.1 72 (x1) by rw [d3]; first | exact if_neg (by omega) | rfl)))))), show S1.1 72 (x1) = x2 by rw [d1]; first | exact if_pos ⟨rfl, rfl⟩ | rfl] at h
    omega
theorem q305_31 (S : fx_S) (x1 x2 x3 : Int) (hS : fx_Sok S) (g1 : -2147483648 ≤ x1 ∧ x1 ≤ 2147483647) (g2 : -2147483648 ≤ x2 ∧ x2 ≤ 2147483647) (g3 : -2147483648 ≤ x3 ∧ x3 ≤ 2147483647) (c1 : 16 ≤ x3) (c2 : 0 ≤ x1) (c3 : x1 < 260) (S1 : fx_S) (d1 : S1 = (fx_up S.1 72 x1 x2, S.2)) (c4 : x2 ≠ 0) (c5 : x2 ≠ 1) (c6 : x2 = 2) (v3 : Int) (e3 : v3 = fx_add x1 1) (v4 : Int) (S2 : fx_S) (k2 : fx_Sok S2) (b4 : -2147483648 ≤ v4 ∧ v4 ≤ 2147483647) (p2 : s304 S1 13 v4 S2) (c7 : v4 ≠ 0) (c8 : 0 ≤ v3) (c9 : v3 < 260) (S3 : fx_S) (d3 : S3 = (fx_up S2.1 72 v3 1, S2.2)) (v5 : Int) (S4 : fx_S) (k4 : fx_Sok S4) (b5 : -2147483648 ≤ v5 ∧ v5 ≤ 2147483647) (p4 : s353 S3 12 v5 S4) (c10 : v5 = 0) (v6 : Int) (S5 : fx_S) (k5 : fx_Sok S5) (b6 : -2147483648 ≤ v6 ∧ v6 ≤ 2147483647) (p5 : s353 S4 13 v6 S5) (c11 : v6 = 0) (v7 : Int) (S6 : fx_S) (k6 : fx_Sok S6) (b7 : v7 = 0) (p6 : s226 S5 1 v7 S6) (v8 : Int) (S7 : fx_S) (k7 : fx_Sok S7) (b8 : -2147483648 ≤ v8 ∧ v8 ≤ 2147483647) (p7 : s352 S6 59 v8 S7) (c12 : v8 = 0) (v9 : Int) (S8 : fx_S) (k8 : fx_Sok S8) (b9 : v9 = 0) (p8 : s226 S7 1 v9 S8) (v10 : Int) (e10 : v10 = S8.1 66 12) (b10 : -2147483648 ≤ v10 ∧ v10 ≤ 2147483647) (c13 : v10 = 0) (v11 : Int) (S9 : fx_S) (k9 : fx_Sok S9) (b11 : v11 = 0) (p9 : s120 S8  v11 S9) : s305 S x1 x2 x3 0 S9 := by
  obtain rfl : S1 = S2 := p2
  obtain ⟨r4, f4⟩ := p4
  obtain ⟨r5, f5⟩ := p5
  obtain ⟨r6, f6, p6⟩ := p6
  obtain rfl : S6 = S7 := p7
  obtain ⟨r8, f8, p8⟩ := p8
  obtain ⟨r9, f9⟩ := p9
  refine ⟨(r9).trans ((r8).trans ((r6).trans ((r5).trans ((r4).trans (((show S3.2 = S1.2 by rw [d3])).trans ((show S1.2 = S.2 by rw [d1]))))))), ?_, ?_⟩
  · intro p i hW
    clear b11 c13 b10 e10 b9 c12 b8 b7 c11 b6 c10 b5 c9 c8 c7 b4 e3 c6 c5 c4 c3 c2 c1
    exact ((f9 p i (by omega))).trans (((f8 p i (by omega))).trans (((f6 p i (by omega))).trans (((f5 p i (by omega))).trans (((f4 p i (by omega))).trans (((show S3.1 p i = S1.1 p i by rw [d3]; exact if_neg (by omega))).trans ((show S1.1 p i = S.1 p i by rw [d1]; exact if_neg (by omega))))))))
  · skip
    intro a0 a1 a2 a3
    have h3 := e3
    first | rw [fx_add_eq (by omega) (by omega)] at h3 | skip
    refine ⟨fun h => ?_, fun i hi => (((f9 72 (i) (by omega))).trans (((f8 72 (i) (by omega))).trans (((f6 72 (i) (by omega))).trans (((f5 72 (i) (by omega))).trans (((f4 72 (i) (by omega))).trans (((show S3.1 72 (i) = S1.1 72 (i) by rw [d3]; first | exact if_neg (by omega) | rfl)).trans ((show S1.1 72 (i) = S.1 72 (i) by rw [d1]; first | exact if_neg (by omega) | rfl))))))))⟩
    rw [show S9.1 72 (x1) = S1.1 72 (x1) from (((f9 72 (x1) (by omega))).trans (((f8 72 (x1) (by omega))).trans (((f6 72 (x1) (by omega))).trans (((f5 72 (x1) (by omega))).trans (((f4 72 (x1) (by omega))).trans ((show S3.1 72 (x1) = S1.1 72 (x1) by rw [d3]; first | exact if_neg (by omega) | rfl))))))), show S1.1 72 (x1) = x2 by rw [d1]; first | exact if_pos ⟨rfl, rfl⟩ | rfl] at h
    omega
theorem q305_32 (S : fx_S) (x1 x2 x3 : Int) (hS : fx_Sok S) (g1 : -2147483648 ≤ x1 ∧ x1 ≤ 2147483647) (g2 : -2147483648 ≤ x2 ∧ x2 ≤ 2147483647) (g3 : -2147483648 ≤ x3 ∧ x3 ≤ 2147483647) (c1 : 16 ≤ x3) (c2 : 0 ≤ x1) (c3 : x1 < 260) (S1 : fx_S) (d1 : S1 = (fx_up S.1 72 x1 x2, S.2)) (c4 : x2 ≠ 0) (c5 : x2 = 1) (v3 : Int) (e3 : v3 = fx_add x1 1) (v4 : Int) (S2 : fx_S) (k2 : fx_Sok S2) (b4 : -2147483648 ≤ v4 ∧ v4 ≤ 2147483647) (p2 : s351 S1 0 3 v4 S2) (c6 : 0 ≤ v3) (c7 : v3 < 260) (S3 : fx_S) (d3 : S3 = (fx_up S2.1 72 v3 v4, S2.2)) (v5 : Int) (e5 : v5 = fx_add x1 2) (v6 : Int) (S4 : fx_S) (k4 : fx_Sok S4) (b6 : -2147483648 ≤ v6 ∧ v6 ≤ 2147483647) (p4 : s351 S3 0 9999 v6 S4) (c8 : 0 ≤ v5) (c9 : v5 < 260) (S5 : fx_S) (d5 : S5 = (fx_up S4.1 72 v5 v6, S4.2)) (v7 : Int) (S6 : fx_S) (k6 : fx_Sok S6) (b7 : -2147483648 ≤ v7 ∧ v7 ≤ 2147483647) (p6 : s352 S5 59 v7 S6) (c10 : v7 ≠ 0) (v8 : Int) (e8 : v8 = S6.1 66 12) (b8 : -2147483648 ≤ v8 ∧ v8 ≤ 2147483647) (c11 : v8 ≠ 0) : s305 S x1 x2 x3 0 S6 := by
  obtain ⟨r2, f2, p2⟩ := p2
  obtain ⟨r4, f4, p4⟩ := p4
  obtain rfl : S5 = S6 := p6
  refine ⟨((show S5.2 = S4.2 by rw [d5])).trans ((r4).trans (((show S3.2 = S2.2 by rw [d3])).trans ((r2).trans ((show S1.2 = S.2 by rw [d1]))))), ?_, ?_⟩
  · intro p i hW
    clear c11 b8 e8 c10 b7 c9 c8 b6 e5 c7 c6 b4 e3 c5 c4 c3 c2 c1
    exact ((show S5.1 p i = S4.1 p i by rw [d5]; exact if_neg (by omega))).trans (((f4 p i (by omega))).trans (((show S3.1 p i = S2.1 p i by rw [d3]; exact if_neg (by omega))).trans (((f2 p i (by omega))).trans ((show S1.1 p i = S.1 p i by rw [d1]; exact if_neg (by omega))))))
  · skip
    intro a0 a1 a2 a3
    have h3 := e3
    first | rw [fx_add_eq (by omega) (by omega)] at h3 | skip
    have h5 := e5
    first | rw [fx_add_eq (by omega) (by omega)] at h5 | skip
    have t8_5 : S5.1 66 12 = S4.1 66 12 := by rw [d5]; first | exact if_neg (by omega) | rfl
    rw [t8_5] at e8
    refine ⟨fun h => ?_, fun i hi => (((show S5.1 72 (i) = S4.1 72 (i) by rw [d5]; first | exact if_neg (by omega) | rfl)).trans (((f4 72 (i) (by omega))).trans (((show S3.1 72 (i) = S2.1 72 (i) by rw [d3]; first | exact if_neg (by omega) | rfl)).trans (((f2 72 (i) (by omega))).trans ((show S1.1 72 (i) = S.1 72 (i) by rw [d1]; first | exact if_neg (by omega) | rfl))))))⟩
    rw [show S5.1 72 (x1) = S1.1 72 (x1) from (((show S5.1 72 (x1) = S4.1 72 (x1) by rw [d5]; first | exact if_neg (by omega) | rfl)).trans (((f4 72 (x1) (by omega))).trans (((show S3.1 72 (x1) = S2.1 72 (x1) by rw [d3]; first | exact if_neg (by omega) | rfl)).trans ((f2 72 (x1) (by omega)))))), show S1.1 72 (x1) = x2 by rw [d1]; first | exact if_pos ⟨rfl, rfl⟩ | rfl] at h
    omega
theorem q305_33 (S : fx_S) (x1 x2 x3 : Int) (hS : fx_Sok S) (g1 : -2147483648 ≤ x1 ∧ x1 ≤ 2147483647) (g2 : -2147483648 ≤ x2 ∧ x2 ≤ 2147483647) (g3 : -2147483648 ≤ x3 ∧ x3 ≤ 2147483647) (c1 : 16 ≤ x3) (c2 : 0 ≤ x1) (c3 : x1 < 260) (S1 : fx_S) (d1 : S1 = (fx_up S.1 72 x1 x2, S.2)) (c4 : x2 ≠ 0) (c5 : x2 = 1) (v3 : Int) (e3 : v3 = fx_add x1 1) (v4 : Int) (S2 : fx_S) (k2 : fx_Sok S2) (b4 : -2147483648 ≤ v4 ∧ v4 ≤ 2147483647) (p2 : s351 S1 0 3 v4 S2) (c6 : 0 ≤ v3) (c7 : v3 < 260) (S3 : fx_S) (d3 : S3 = (fx_up S2.1 72 v3 v4, S2.2)) (v5 : Int) (e5 : v5 = fx_add x1 2) (v6 : Int) (S4 : fx_S) (k4 : fx_Sok S4) (b6 : -2147483648 ≤ v6 ∧ v6 ≤ 2147483647) (p4 : s351 S3 0 9999 v6 S4) (c8 : 0 ≤ v5) (c9 : v5 < 260) (S5 : fx_S) (d5 : S5 = (fx_up S4.1 72 v5 v6, S4.2)) (v7 : Int) (S6 : fx_S) (k6 : fx_Sok S6) (b7 : -2147483648 ≤ v7 ∧ v7 ≤ 2147483647) (p6 : s352 S5 59 v7 S6) (c10 : v7 ≠ 0) (v8 : Int) (e8 : v8 = S6.1 66 12) (b8 : -2147483648 ≤ v8 ∧ v8 ≤ 2147483647) (c11 : v8 = 0) (v9 : Int) (S7 : fx_S) (k7 : fx_Sok S7) (b9 : v9 = 0) (p7 : s120 S6  v9 S7) : s305 S x1 x2 x3 0 S7 := by
  obtain ⟨r2, f2, p2⟩ := p2
  obtain ⟨r4, f4, p4⟩ := p4
  obtain rfl : S5 = S6 := p6
  obtain ⟨r7, f7⟩ := p7
  refine ⟨(r7).trans (((show S5.2 = S4.2 by rw [d5])).trans ((r4).trans (((show S3.2 = S2.2 by rw [d3])).trans ((r2).trans ((show S1.2 = S.2 by rw [d1])))))), ?_, ?_⟩
  · intro p i hW
    clear b9 c11 b8 e8 c10 b7 c9 c8 b6 e5 c7 c6 b4 e3 c5 c4 c3 c2 c1
    exact ((f7 p i (by omega))).trans (((show S5.1 p i = S4.1 p i by rw [d5]; exact if_neg (by omega))).trans (((f4 p i (by omega))).trans (((show S3.1 p i = S2.1 p i by rw [d3]; exact if_neg (by omega))).trans (((f2 p i (by omega))).trans ((show S1.1 p i = S.1 p i by rw [d1]; exact if_neg (by omega)))))))
  · skip
    intro a0 a1 a2 a3
    have h3 := e3
    first | rw [fx_add_eq (by omega) (by omega)] at h3 | skip
    have h5 := e5
    first | rw [fx_add_eq (by omega) (by omega)] at h5 | skip
    have t8_5 : S5.1 66 12 = S4.1 66 12 := by rw [d5]; first | exact if_neg (by omega) | rfl
    rw [t8_5] at e8
    refine ⟨fun h => ?_, fun i hi => (((f7 72 (i) (by omega))).trans (((show S5.1 72 (i) = S4.1 72 (i) by rw [d5]; first | exact if_neg (by omega) | rfl)).trans (((f4 72 (i) (by omega))).trans (((show S3.1 72 (i) = S2.1 72 (i) by rw [d3]; first | exact if_neg (by omega) | rfl)).trans (((f2 72 (i) (by omega))).trans ((show S1.1 72 (i) = S.1 72 (i) by rw [d1]; first | exact if_neg (by omega) | rfl)))))))⟩
    rw [show S7.1 72 (x1) = S1.1 72 (x1) from (((f7 72 (x1) (by omega))).trans (((show S5.1 72 (x1) = S4.1 72 (x1) by rw [d5]; first | exact if_neg (by omega) | rfl)).trans (((f4 72 (x1) (by omega))).trans (((show S3.1 72 (x1) = S2.1 72 (x1) by rw [d3]; first | exact if_neg (by omega) | rfl)).trans ((f2 72 (x1) (by omega))))))), show S1.1 72 (x1) = x2 by rw [d1]; first | exact if_pos ⟨rfl, rfl⟩ | rfl] at h
    omega
theorem q305_34 (S : fx_S) (x1 x2 x3 : Int) (hS : fx_Sok S) (g1 : -2147483648 ≤ x1 ∧ x1 ≤ 2147483647) (g2 : -2147483648 ≤ x2 ∧ x2 ≤ 2147483647) (g3 : -2147483648 ≤ x3 ∧ x3 ≤ 2147483647) (c1 : 16 ≤ x3) (c2 : 0 ≤ x1) (c3 : x1 < 260) (S1 : fx_S) (d1 : S1 = (fx_up S.1 72 x1 x2, S.2)) (c4 : x2 ≠ 0) (c5 : x2 = 1) (v3 : Int) (e3 : v3 = fx_add x1 1) (v4 : Int) (S2 : fx_S) (k2 : fx_Sok S2) (b4 : -2147483648 ≤ v4 ∧ v4 ≤ 2147483647) (p2 : s351 S1 0 3 v4 S2) (c6 : 0 ≤ v3) (c7 : v3 < 260) (S3 : fx_S) (d3 : S3 = (fx_up S2.1 72 v3 v4, S2.2)) (v5 : Int) (e5 : v5 = fx_add x1 2) (v6 : Int) (S4 : fx_S) (k4 : fx_Sok S4) (b6 : -2147483648 ≤ v6 ∧ v6 ≤ 2147483647) (p4 : s351 S3 0 9999 v6 S4) (c8 : 0 ≤ v5) (c9 : v5 < 260) (S5 : fx_S) (d5 : S5 = (fx_up S4.1 72 v5 v6, S4.2)) (v7 : Int) (S6 : fx_S) (k6 : fx_Sok S6) (b7 : -2147483648 ≤ v7 ∧ v7 ≤ 2147483647) (p6 : s352 S5 59 v7 S6) (c10 : v7 = 0) (v8 : Int) (S7 : fx_S) (k7 : fx_Sok S7) (b8 : v8 = 0) (p7 : s226 S6 1 v8 S7) (v9 : Int) (e9 : v9 = S7.1 66 12) (b9 : -2147483648 ≤ v9 ∧ v9 ≤ 2147483647) (c11 : v9 ≠ 0) : s305 S x1 x2 x3 0 S7 := by
  obtain ⟨r2, f2, p2⟩ := p2
  obtain ⟨r4, f4, p4⟩ := p4
  obtain rfl : S5 = S6 := p6
  obtain ⟨r7, f7, p7⟩ := p7
  refine ⟨(r7).trans (((show S5.2 = S4.2 by rw [d5])).trans ((r4).trans (((show S3.2 = S2.2 by rw [d3])).trans ((r2).trans ((show S1.2 = S.2 by rw [d1])))))), ?_, ?_⟩
  · intro p i hW
    clear c11 b9 e9 b8 c10 b7 c9 c8 b6 e5 c7 c6 b4 e3 c5 c4 c3 c2 c1
    exact ((f7 p i (by omega))).trans (((show S5.1 p i = S4.1 p i by rw [d5]; exact if_neg (by omega))).trans (((f4 p i (by omega))).trans (((show S3.1 p i = S2.1 p i by rw [d3]; exact if_neg (by omega))).trans (((f2 p i (by omega))).trans ((show S1.1 p i = S.1 p i by rw [d1]; exact if_neg (by omega)))))))
  · skip
    intro a0 a1 a2 a3
    have h3 := e3
    first | rw [fx_add_eq (by omega) (by omega)] at h3 | skip
    have h5 := e5
    first | rw [fx_add_eq (by omega) (by omega)] at h5 | skip
    refine ⟨fun h => ?_, fun i hi => (((f7 72 (i) (by omega))).trans (((show S5.1 72 (i) = S4.1 72 (i) by rw [d5]; first | exact if_neg (by omega) | rfl)).trans (((f4 72 (i) (by omega))).trans (((show S3.1 72 (i) = S2.1 72 (i) by rw [d3]; first | exact if_neg (by omega) | rfl)).trans (((f2 72 (i) (by omega))).trans ((show S1.1 72 (i) = S.1 72 (i) by rw [d1]; first | exact if_neg (by omega) | rfl)))))))⟩
    rw [show S7.1 72 (x1) = S1.1 72 (x1) from (((f7 72 (x1) (by omega))).trans (((show S5.1 72 (x1) = S4.1 72 (x1) by rw [d5]; first | exact if_neg (by omega) | rfl)).trans (((f4 72 (x1) (by omega))).trans (((show S3.1 72 (x1) = S2.1 72 (x1) by rw [d3]; first | exact if_neg (by omega) | rfl)).trans ((f2 72 (x1) (by omega))))))), show S1.1 72 (x1) = x2 by rw [d1]; first | exact if_pos ⟨rfl, rfl⟩ | rfl] at h
    omega
theorem q305_35 (S : fx_S) (x1 x2 x3 : Int) (hS : fx_Sok S) (g1 : -2147483648 ≤ x1 ∧ x1 ≤ 2147483647) (g2 : -2147483648 ≤ x2 ∧ x2 ≤ 2147483647) (g3 : -2147483648 ≤ x3 ∧ x3 ≤ 2147483647) (c1 : 16 ≤ x3) (c2 : 0 ≤ x1) (c3 : x1 < 260) (S1 : fx_S) (d1 : S1 = (fx_up S.1 72 x1 x2, S.2)) (c4 : x2 ≠ 0) (c5 : x2 = 1) (v3 : Int) (e3 : v3 = fx_add x1 1) (v4 : Int) (S2 : fx_S) (k2 : fx_Sok S2) (b4 : -2147483648 ≤ v4 ∧ v4 ≤ 2147483647) (p2 : s351 S1 0 3 v4 S2) (c6 : 0 ≤ v3) (c7 : v3 < 260) (S3 : fx_S) (d3 : S3 = (fx_up S2.1 72 v3 v4, S2.2)) (v5 : Int) (e5 : v5 = fx_add x1 2) (v6 : Int) (S4 : fx_S) (k4 : fx_Sok S4) (b6 : -2147483648 ≤ v6 ∧ v6 ≤ 2147483647) (p4 : s351 S3 0 9999 v6 S4) (c8 : 0 ≤ v5) (c9 : v5 < 260) (S5 : fx_S) (d5 : S5 = (fx_up S4.1 72 v5 v6, S4.2)) (v7 : Int) (S6 : fx_S) (k6 : fx_Sok S6) (b7 : -2147483648 ≤ v7 ∧ v7 ≤ 2147483647) (p6 : s352 S5 59 v7 S6) (c10 : v7 = 0) (v8 : Int) (S7 : fx_S) (k7 : fx_Sok S7) (b8 : v8 = 0) (p7 : s226 S6 1 v8 S7) (v9 : Int) (e9 : v9 = S7.1 66 12) (b9 : -2147483648 ≤ v9 ∧ v9 ≤ 2147483647) (c11 : v9 = 0) (v10 : Int) (S8 : fx_S) (k8 : fx_Sok S8) (b10 : v10 = 0) (p8 : s120 S7  v10 S8) : s305 S x1 x2 x3 0 S8 := by
  obtain ⟨r2, f2, p2⟩ := p2
  obtain ⟨r4, f4, p4⟩ := p4
  obtain rfl : S5 = S6 := p6
  obtain ⟨r7, f7, p7⟩ := p7
  obtain ⟨r8, f8⟩ := p8
  refine ⟨(r8).trans ((r7).trans (((show S5.2 = S4.2 by rw [d5])).trans ((r4).trans (((show S3.2 = S2.2 by rw [d3])).trans ((r2).trans ((show S1.2 = S.2 by rw [d1]))))))), ?_, ?_⟩
  · intro p i hW
    clear b10 c11 b9 e9 b8 c10 b7 c9 c8 b6 e5 c7 c6 b4 e3 c5 c4 c3 c2 c1
    exact ((f8 p i (by omega))).trans (((f7 p i (by omega))).trans (((show S5.1 p i = S4.1 p i by rw [d5]; exact if_neg (by omega))).trans (((f4 p i (by omega))).trans (((show S3.1 p i = S2.1 p i by rw [d3]; exact if_neg (by omega))).trans (((f2 p i (by omega))).trans ((show S1.1 p i = S.1 p i by rw [d1]; exact if_neg (by omega))))))))
  · skip
    intro a0 a1 a2 a3
    have h3 := e3
    first | rw [fx_add_eq (by omega) (by omega)] at h3 | skip
    have h5 := e5
    first | rw [fx_add_eq (by omega) (by omega)] at h5 | skip
    refine ⟨fun h => ?_, fun i hi => (((f8 72 (i) (by omega))).trans (((f7 72 (i) (by omega))).trans (((show S5.1 72 (i) = S4.1 72 (i) by rw [d5]; first | exact if_neg (by omega) | rfl)).trans (((f4 72 (i) (by omega))).trans (((show S3.1 72 (i) = S2.1 72 (i) by rw [d3]; first | exact if_neg (by omega) | rfl)).trans (((f2 72 (i) (by omega))).trans ((show S1.1 72 (i) = S.1 72 (i) by rw [d1]; first | exact if_neg (by omega) | rfl))))))))⟩
    rw [show S8.1 72 (x1) = S1.1 72 (x1) from (((f8 72 (x1) (by omega))).trans (((f7 72 (x1) (by omega))).trans (((show S5.1 72 (x1) = S4.1 72 (x1) by rw [d5]; first | exact if_neg (by omega) | rfl)).trans (((f4 72 (x1) (by omega))).trans (((show S3.1 72 (x1) = S2.1 72 (x1) by rw [d3]; first | exact if_neg (by omega) | rfl)).trans ((f2 72 (x1) (by omega)))))))), show S1.1 72 (x1) = x2 by rw [d1]; first | exact if_pos ⟨rfl, rfl⟩ | rfl] at h
    omega
theorem q305_36 (S : fx_S) (x1 x2 x3 : Int) (hS : fx_Sok S) (g1 : -2147483648 ≤ x1 ∧ x1 ≤ 2147483647) (g2 : -2147483648 ≤ x2 ∧ x2 ≤ 2147483647) (g3 : -2147483648 ≤ x3 ∧ x3 ≤ 2147483647) (c1 : 16 ≤ x3) (c2 : 0 ≤ x1) (c3 : x1 < 260) (S1 : fx_S) (d1 : S1 = (fx_up S.1 72 x1 x2, S.2)) (c4 : x2 = 0) (v3 : Int) (S2 : fx_S) (k2 : fx_Sok S2) (b3 : v3 = 0) (p2 : s354 S1 x1 v3 S2) (v4 : Int) (S3 : fx_S) (k3 : fx_Sok S3) (b4 : -2147483648 ≤ v4 ∧ v4 ≤ 2147483647) (p3 : s352 S2 59 v4 S3) (c5 : v4 ≠ 0) (v5 : Int) (e5 : v5 = S3.1 66 12) (b5 : -2147483648 ≤ v5 ∧ v5 ≤ 2147483647) (c6 : v5 ≠ 0) : s305 S x1 x2 x3 0 S3 := by
  obtain ⟨r2, f2, p2⟩ := p2
  obtain rfl : S2 = S3 := p3
  refine ⟨(r2).trans ((show S1.2 = S.2 by rw [d1])), ?_, ?_⟩
  · intro p i hW
    clear c6 b5 e5 c5 b4 b3 c4 c3 c2 c1
    exact ((f2 p i (by omega))).trans ((show S1.1 p i = S.1 p i by rw [d1]; exact if_neg (by omega)))
  · skip
    intro a0 a1 a2 a3
    skip
    obtain ⟨b1, b2⟩ := p2 a0 (by rw [show S1.1 72 (x1 + 3) = S.1 72 (x1 + 3) by rw [d1]; exact if_neg (by omega)]; exact a3 _ (by omega) (by omega))
    refine ⟨fun _ => ?_, fun i hi => ?_⟩
    · rw [show S2.1 72 (x1 + 1) = S2.1 72 (x1 + 1) from rfl]
      exact b1
    · rw [show S2.1 72 (i) = S2.1 72 (i) from rfl, b2 i (by omega), d1]
      exact if_neg (by omega)
theorem q305_37 (S : fx_S) (x1 x2 x3 : Int) (hS : fx_Sok S) (g1 : -2147483648 ≤ x1 ∧ x1 ≤ 2147483647) (g2 : -2147483648 ≤ x2 ∧ x2 ≤ 2147483647) (g3 : -2147483648 ≤ x3 ∧ x3 ≤ 2147483647) (c1 : 16 ≤ x3) (c2 : 0 ≤ x1) (c3 : x1 < 260) (S1 : fx_S) (d1 : S1 = (fx_up S.1 72 x1 x2, S.2)) (c4 : x2 = 0) (v3 : Int) (S2 : fx_S) (k2 : fx_Sok S2) (b3 : v3 = 0) (p2 : s354 S1 x1 v3 S2) (v4 : Int) (S3 : fx_S) (k3 : fx_Sok S3) (b4 : -2147483648 ≤ v4 ∧ v4 ≤ 2147483647) (p3 : s352 S2 59 v4 S3) (c5 : v4 ≠ 0) (v5 : Int) (e5 : v5 = S3.1 66 12) (b5 : -2147483648 ≤ v5 ∧ v5 ≤ 2147483647) (c6 : v5 = 0) (v6 : Int) (S4 : fx_S) (k4 : fx_Sok S4) (b6 : v6 = 0) (p4 : s120 S3  v6 S4) : s305 S x1 x2 x3 0 S4 := by
  obtain ⟨r2, f2, p2⟩ := p2
  obtain rfl : S2 = S3 := p3
  obtain ⟨r4, f4⟩ := p4
  refine ⟨(r4).trans ((r2).trans ((show S1.2 = S.2 by rw [d1]))), ?_, ?_⟩
  · intro p i hW
    clear b6 c6 b5 e5 c5 b4 b3 c4 c3 c2 c1
    exact ((f4 p i (by omega))).trans (((f2 p i (by omega))).trans ((show S1.1 p i = S.1 p i by rw [d1]; exact if_neg (by omega))))
  · skip
    intro a0 a1 a2 a3
    skip
    obtain ⟨b1, b2⟩ := p2 a0 (by rw [show S1.1 72 (x1 + 3) = S.1 72 (x1 + 3) by rw [d1]; exact if_neg (by omega)]; exact a3 _ (by omega) (by omega))
    refine ⟨fun _ => ?_, fun i hi => ?_⟩
    · rw [show S4.1 72 (x1 + 1) = S2.1 72 (x1 + 1) from ((f4 72 (x1 + 1) (by omega)))]
      exact b1
    · rw [show S4.1 72 (i) = S2.1 72 (i) from ((f4 72 (i) (by omega))), b2 i (by omega), d1]
      exact if_neg (by omega)
theorem q305_38 (S : fx_S) (x1 x2 x3 : Int) (hS : fx_Sok S) (g1 : -2147483648 ≤ x1 ∧ x1 ≤ 2147483647) (g2 : -2147483648 ≤ x2 ∧ x2 ≤ 2147483647) (g3 : -2147483648 ≤ x3 ∧ x3 ≤ 2147483647) (c1 : 16 ≤ x3) (c2 : 0 ≤ x1) (c3 : x1 < 260) (S1 : fx_S) (d1 : S1 = (fx_up S.1 72 x1 x2, S.2)) (c4 : x2 = 0) (v3 : Int) (S2 : fx_S) (k2 : fx_Sok S2) (b3 : v3 = 0) (p2 : s354 S1 x1 v3 S2) (v4 : Int) (S3 : fx_S) (k3 : fx_Sok S3) (b4 : -2147483648 ≤ v4 ∧ v4 ≤ 2147483647) (p3 : s352 S2 59 v4 S3) (c5 : v4 = 0) (v5 : Int) (S4 : fx_S) (k4 : fx_Sok S4) (b5 : v5 = 0) (p4 : s226 S3 1 v5 S4) (v6 : Int) (e6 : v6 = S4.1 66 12) (b6 : -2147483648 ≤ v6 ∧ v6 ≤ 2147483647) (c6 : v6 ≠ 0) : s305 S x1 x2 x3 0 S4 := by
  obtain ⟨r2, f2, p2⟩ := p2
  obtain rfl : S2 = S3 := p3
  obtain ⟨r4, f4, p4⟩ := p4
  refine ⟨(r4).trans ((r2).trans ((show S1.2 = S.2 by rw [d1]))), ?_, ?_⟩
  · intro p i hW
    clear c6 b6 e6 b5 c5 b4 b3 c4 c3 c2 c1
    exact ((f4 p i (by omega))).trans (((f2 p i (by omega))).trans ((show S1.1 p i = S.1 p i by rw [d1]; exact if_neg (by omega))))
  · skip
    intro a0 a1 a2 a3
    skip
    obtain ⟨b1, b2⟩ := p2 a0 (by rw [show S1.1 72 (x1 + 3) = S.1 72 (x1 + 3) by rw [d1]; exact if_neg (by omega)]; exact a3 _ (by omega) (by omega))
    refine ⟨fun _ => ?_, fun i hi => ?_⟩
    · rw [show S4.1 72 (x1 + 1) = S2.1 72 (x1 + 1) from ((f4 72 (x1 + 1) (by omega)))]
      exact b1
    · rw [show S4.1 72 (i) = S2.1 72 (i) from ((f4 72 (i) (by omega))), b2 i (by omega), d1]
      exact if_neg (by omega)
theorem q305_39 (S : fx_S) (x1 x2 x3 : Int) (hS : fx_Sok S) (g1 : -2147483648 ≤ x1 ∧ x1 ≤ 2147483647) (g2 : -2147483648 ≤ x2 ∧ x2 ≤ 2147483647) (g3 : -2147483648 ≤ x3 ∧ x3 ≤ 2147483647) (c1 : 16 ≤ x3) (c2 : 0 ≤ x1) (c3 : x1 < 260) (S1 : fx_S) (d1 : S1 = (fx_up S.1 72 x1 x2, S.2)) (c4 : x2 = 0) (v3 : Int) (S2 : fx_S) (k2 : fx_Sok S2) (b3 : v3 = 0) (p2 : s354 S1 x1 v3 S2) (v4 : Int) (S3 : fx_S) (k3 : fx_Sok S3) (b4 : -2147483648 ≤ v4 ∧ v4 ≤ 2147483647) (p3 : s352 S2 59 v4 S3) (c5 : v4 = 0) (v5 : Int) (S4 : fx_S) (k4 : fx_Sok S4) (b5 : v5 = 0) (p4 : s226 S3 1 v5 S4) (v6 : Int) (e6 : v6 = S4.1 66 12) (b6 : -2147483648 ≤ v6 ∧ v6 ≤ 2147483647) (c6 : v6 = 0) (v7 : Int) (S5 : fx_S) (k5 : fx_Sok S5) (b7 : v7 = 0) (p5 : s120 S4  v7 S5) : s305 S x1 x2 x3 0 S5 := by
  obtain ⟨r2, f2, p2⟩ := p2
  obtain rfl : S2 = S3 := p3
  obtain ⟨r4, f4, p4⟩ := p4
  obtain ⟨r5, f5⟩ := p5
  refine ⟨(r5).trans ((r4).trans ((r2).trans ((show S1.2 = S.2 by rw [d1])))), ?_, ?_⟩
  · intro p i hW
    clear b7 c6 b6 e6 b5 c5 b4 b3 c4 c3 c2 c1
    exact ((f5 p i (by omega))).trans (((f4 p i (by omega))).trans (((f2 p i (by omega))).trans ((show S1.1 p i = S.1 p i by rw [d1]; exact if_neg (by omega)))))
  · skip
    intro a0 a1 a2 a3
    skip
    obtain ⟨b1, b2⟩ := p2 a0 (by rw [show S1.1 72 (x1 + 3) = S.1 72 (x1 + 3) by rw [d1]; exact if_neg (by omega)]; exact a3 _ (by omega) (by omega))
    refine ⟨fun _ => ?_, fun i hi => ?_⟩
    · rw [show S5.1 72 (x1 + 1) = S2.1 72 (x1 + 1) from (((f5 72 (x1 + 1) (by omega))).trans ((f4 72 (x1 + 1) (by omega))))]
      exact b1
    · rw [show S5.1 72 (i) = S2.1 72 (i) from (((f5 72 (i) (by omega))).trans ((f4 72 (i) (by omega)))), b2 i (by omega), d1]
      exact if_neg (by omega)
theorem q305_40 (S : fx_S) (x1 x2 x3 : Int) (hS : fx_Sok S) (g1 : -2147483648 ≤ x1 ∧ x1 ≤ 2147483647) (g2 : -2147483648 ≤ x2 ∧ x2 ≤ 2147483647) (g3 : -2147483648 ≤ x3 ∧ x3 ≤ 2147483647) (c1 : x3 < 16) (v3 : Int) (e3 : v3 = fx_add x1 x3) (c2 : 0 ≤ v3) (c3 : v3 < 260) (S1 : fx_S) (d1 : S1 = (fx_up S.1 72 v3 0, S.2)) (v4 : Int) (e4 : v4 = fx_add x3 1) (z : Int) (Z : fx_S) (kz : fx_Sok Z) (bz : z = 0) (pz : s305 S1 x1 x2 v4 z Z) : s305 S x1 x2 x3 z Z := by
  obtain ⟨rZ, fZ, pz⟩ := pz
  refine ⟨(rZ).trans ((show S1.2 = S.2 by rw [d1])), ?_, ?_⟩
  · intro p i hW
    clear e4 c3 c2 e3 c1
    exact ((fZ p i (by omega))).trans ((show S1.1 p i = S.1 p i by rw [d1]; exact if_neg (by omega)))
  · skip
    intro a0 a1 a2 a3
    have h3 := e3
    first | rw [fx_add_eq (by omega) (by omega)] at h3 | skip
    have h4 := e4
    first | rw [fx_add_eq (by omega) (by omega)] at h4 | skip
    obtain ⟨b1, b2⟩ := pz a0 (by omega) (by omega) (fun i i0 i1 => if hi : i = v3 then (by rw [d1]; exact if_pos ⟨rfl, hi⟩) else (by rw [show S1.1 72 i = S.1 72 i by rw [d1]; exact if_neg (by omega)]; exact a3 i (by omega) (by omega)))
    exact ⟨b1, fun i hi => (b2 i hi).trans (by rw [d1]; exact if_neg (by omega))⟩
theorem q306_0 (S : fx_S) (x0 x1 x2 x3 x4 x5 : Int) (hS : fx_Sok S) (g0 : -1 ≤ x0 ∧ x0 < S.2.2) (g1 : -2147483648 ≤ x1 ∧ x1 ≤ 2147483647) (g2 : -2147483648 ≤ x2 ∧ x2 ≤ 2147483647) (g3 : -2147483648 ≤ x3 ∧ x3 ≤ 2147483647) (g4 : -2147483648 ≤ x4 ∧ x4 ≤ 2147483647) (g5 : -2147483648 ≤ x5 ∧ x5 ≤ 2147483647) (c1 : x0 ≠ (-1)) (v6 : Int) (e6 : v6 = S.1 x0 4) (b6 : -2147483648 ≤ v6 ∧ v6 ≤ 2147483647) (c2 : v6 ≤ x5) : s306 S x0 x1 x2 x3 x4 x5 x4 S := by
  exact rfl
theorem q306_1 (S : fx_S) (x0 x1 x2 x3 x4 x5 : Int) (hS : fx_Sok S) (g0 : -1 ≤ x0 ∧ x0 < S.2.2) (g1 : -2147483648 ≤ x1 ∧ x1 ≤ 2147483647) (g2 : -2147483648 ≤ x2 ∧ x2 ≤ 2147483647) (g3 : -2147483648 ≤ x3 ∧ x3 ≤ 2147483647) (g4 : -2147483648 ≤ x4 ∧ x4 ≤ 2147483647) (g5 : -2147483648 ≤ x5 ∧ x5 ≤ 2147483647) (c1 : x0 ≠ (-1)) (v6 : Int) (e6 : v6 = S.1 x0 4) (b6 : -2147483648 ≤ v6 ∧ v6 ≤ 2147483647) (c2 : x5 < v6) (v7 : Int) (S1 : fx_S) (k1 : fx_Sok S1) (b7 : -2147483648 ≤ v7 ∧ v7 ≤ 2147483647) (p1 : s355 S x0 x5 x1 x2 x3 v7 S1) (c3 : v7 = 0) (v8 : Int) (e8 : v8 = fx_add x5 1) (z : Int) (Z : fx_S) (kz : fx_Sok Z) (bz : -2147483648 ≤ z ∧ z ≤ 2147483647) (pz : s306 S1 x0 x1 x2 x3 x4 v8 z Z) : s306 S x0 x1 x2 x3 x4 x5 z Z := by
  obtain rfl : S = S1 := p1
  obtain rfl : S = Z := pz
  exact rfl
theorem q306_2 (S : fx_S) (x0 x1 x2 x3 x4 x5 : Int) (hS : fx_Sok S) (g0 : -1 ≤ x0 ∧ x0 < S.2.2) (g1 : -2147483648 ≤ x1 ∧ x1 ≤ 2147483647) (g2 : -2147483648 ≤ x2 ∧ x2 ≤ 2147483647) (g3 : -2147483648 ≤ x3 ∧ x3 ≤ 2147483647) (g4 : -2147483648 ≤ x4 ∧ x4 ≤ 2147483647) (g5 : -2147483648 ≤ x5 ∧ x5 ≤ 2147483647) (c1 : x0 ≠ (-1)) (v6 : Int) (e6 : v6 = S.1 x0 4) (b6 : -2147483648 ≤ v6 ∧ v6 ≤ 2147483647) (c2 : x5 < v6) (v7 : Int) (S1 : fx_S) (k1 : fx_Sok S1) (b7 : -2147483648 ≤ v7 ∧ v7 ≤ 2147483647) (p1 : s355 S x0 x5 x1 x2 x3 v7 S1) (c3 : v7 ≠ 0) (c4 : x0 ≠ (-1)) (c5 : 0 ≤ x5) (c6 : x5 < 16) (v8 : Int) (e8 : v8 = S1.1 (x0 + 2) x5) (b8 : -2147483648 ≤ v8 ∧ v8 ≤ 2147483647) (v9 : Int) (e9 : v9 = fx_shl 1 v8) (v10 : Int) (e10 : v10 = fx_or x4 v9) (v11 : Int) (e11 : v11 = fx_add x5 1) (z : Int) (Z : fx_S) (kz : fx_Sok Z) (bz : -2147483648 ≤ z ∧ z ≤ 2147483647) (pz : s306 S1 x0 x1 x2 x3 v10 v11 z Z) : s306 S x0 x1 x2 x3 x4 x5 z Z := by
  obtain rfl : S = S1 := p1
  obtain rfl : S = Z := pz
  exact rfl
theorem q307_0 (S : fx_S) (x1 x2 x3 x4 x5 x6 x7 x8 : Int) (hS : fx_Sok S) (g1 : -2147483648 ≤ x1 ∧ x1 ≤ 2147483647) (g2 : -2147483648 ≤ x2 ∧ x2 ≤ 2147483647) (g3 : -2147483648 ≤ x3 ∧ x3 ≤ 2147483647) (g4 : -2147483648 ≤ x4 ∧ x4 ≤ 2147483647) (g5 : -2147483648 ≤ x5 ∧ x5 ≤ 2147483647) (g6 : -2147483648 ≤ x6 ∧ x6 ≤ 2147483647) (g7 : -2147483648 ≤ x7 ∧ x7 ≤ 2147483647) (g8 : -2147483648 ≤ x8 ∧ x8 ≤ 2147483647) (v8 : Int) (e8 : v8 = fx_add x6 3) (c1 : 0 ≤ v8) (c2 : v8 < 8090) (v9 : Int) (e9 : v9 = S.1 67 v8) (b9 : -2147483648 ≤ v9 ∧ v9 ≤ 2147483647) (c3 : v9 ≤ x8) (c4 : x7 ≠ 0) (c5 : x4 ≠ 0) (v10 : Int) (e10 : v10 = fx_add x6 1) (c6 : 0 ≤ v10) (c7 : v10 < 8090) (v11 : Int) (e11 : v11 = S.1 67 v10) (b11 : -2147483648 ≤ v11 ∧ v11 ≤ 2147483647) (v12 : Int) (e12 : v12 = fx_shl 1 v11) (v13 : Int) (e13 : v13 = fx_or x4 v12) (v14 : Int) (e14 : v14 = fx_add x5 1) (z : Int) (Z : fx_S) (kz : fx_Sok Z) (bz : -2147483648 ≤ z ∧ z ≤ 2147483647) (pz : s231 S x1 x2 x3 v13 v14 z Z) : s307 S x1 x2 x3 x4 x5 x6 x7 x8 z Z := by
  obtain ⟨rZ, fZ, pz⟩ := pz
  refine ⟨rZ, ?_, ?_⟩
  · intro p i hW
    clear e14 e13 e12 b11 e11 c7 c6 e10 c5 c4 c3 b9 e9 c2 c1 e8
    exact (fZ p i (by omega))
  · skip
    intro hB a1 a2 a3 a4 a5 a6 a7 a8
    have N := fx_WB_n hB
    have Nl := fx_WB_l hB (s := x1) a1 a2
    have h8 := e8
    first | rw [fx_add_eq (by omega) (by omega)] at h8 | skip
    have h10 := e10
    first | rw [fx_add_eq (by omega) (by omega)] at h10 | skip
    have h14 := e14
    first | rw [fx_add_eq (by omega) (by omega)] at h14 | skip
    exact pz hB (.inr ⟨a1, a2⟩) (by omega) a7 a8
theorem q307_1 (S : fx_S) (x1 x2 x3 x4 x5 x6 x7 x8 : Int) (hS : fx_Sok S) (g1 : -2147483648 ≤ x1 ∧ x1 ≤ 2147483647) (g2 : -2147483648 ≤ x2 ∧ x2 ≤ 2147483647) (g3 : -2147483648 ≤ x3 ∧ x3 ≤ 2147483647) (g4 : -2147483648 ≤ x4 ∧ x4 ≤ 2147483647) (g5 : -2147483648 ≤ x5 ∧ x5 ≤ 2147483647) (g6 : -2147483648 ≤ x6 ∧ x6 ≤ 2147483647) (g7 : -2147483648 ≤ x7 ∧ x7 ≤ 2147483647) (g8 : -2147483648 ≤ x8 ∧ x8 ≤ 2147483647) (v8 : Int) (e8 : v8 = fx_add x6 3) (c1 : 0 ≤ v8) (c2 : v8 < 8090) (v9 : Int) (e9 : v9 = S.1 67 v8) (b9 : -2147483648 ≤ v9 ∧ v9 ≤ 2147483647) (c3 : v9 ≤ x8) (c4 : x7 ≠ 0) (c5 : x4 = 0) (v10 : Int) (e10 : v10 = fx_add x6 1) (c6 : 0 ≤ v10) (c7 : v10 < 8090) (v11 : Int) (e11 : v11 = S.1 67 v10) (b11 : -2147483648 ≤ v11 ∧ v11 ≤ 2147483647) (S1 : fx_S) (d1 : S1 = (fx_up S.1 66 15 v11, S.2)) (v12 : Int) (e12 : v12 = fx_add x6 1) (c8 : 0 ≤ v12) (c9 : v12 < 8090) (v13 : Int) (e13 : v13 = S1.1 67 v12) (b13 : -2147483648 ≤ v13 ∧ v13 ≤ 2147483647) (v14 : Int) (e14 : v14 = fx_shl 1 v13) (v15 : Int) (e15 : v15 = fx_or x4 v14) (v16 : Int) (e16 : v16 = fx_add x5 1) (z : Int) (Z : fx_S) (kz : fx_Sok Z) (bz : -2147483648 ≤ z ∧ z ≤ 2147483647) (pz : s231 S1 x1 x2 x3 v15 v16 z Z) : s307 S x1 x2 x3 x4 x5 x6 x7 x8 z Z := by
  obtain ⟨rZ, fZ, pz⟩ := pz
  refine ⟨(rZ).trans ((show S1.2 = S.2 by rw [d1])), ?_, ?_⟩
  · intro p i hW
    clear e16 e15 e14 b13 e13 c9 c8 e12 b11 e11 c7 c6 e10 c5 c4 c3 b9 e9 c2 c1 e8
    exact ((fZ p i (by omega))).trans ((show S1.1 p i = S.1 p i by rw [d1]; exact if_neg (by omega)))
  · skip
    intro hB a1 a2 a3 a4 a5 a6 a7 a8
    have N := fx_WB_n hB
    have Nl := fx_WB_l hB (s := x1) a1 a2
    have h8 := e8
    first | rw [fx_add_eq (by omega) (by omega)] at h8 | skip
    have h10 := e10
    first | rw [fx_add_eq (by omega) (by omega)] at h10 | skip
    obtain rfl : v10 = v12 := by rw [e12, e10]
    have t13_1 : S1.1 67 v10 = S.1 67 v10 := by rw [d1]; first | exact if_neg (by omega) | rfl
    rw [t13_1] at e13
    obtain rfl : v11 = v13 := by rw [e13, e11]
    have h16 := e16
    first | rw [fx_add_eq (by omega) (by omega)] at h16 | skip
    have hr := Nl.2 x5 a3 a5 (by rw [← a4]; exact a6 c4)
    have ev : v10 = 1105 + 260 * x1 + 16 * x5 := by omega
    rw [← ev, ← e11] at hr
    have hS : S1.1 66 15 = v11 := by rw [d1]; first | exact if_pos ⟨rfl, rfl⟩ | rfl
    have hw : ∀ i, S1.1 67 i = S.1 67 i := fun i => by rw [d1]; first | exact if_neg (by omega) | rfl
    exact pz (by rw [d1]; exact fx_WB_off hB (by omega)) (.inr ⟨a1, by rw [hw]; exact a2⟩) (by omega) (by omega) (by omega)
theorem q307_2 (S : fx_S) (x1 x2 x3 x4 x5 x6 x7 x8 : Int) (hS : fx_Sok S) (g1 : -2147483648 ≤ x1 ∧ x1 ≤ 2147483647) (g2 : -2147483648 ≤ x2 ∧ x2 ≤ 2147483647) (g3 : -2147483648 ≤ x3 ∧ x3 ≤ 2147483647) (g4 : -2147483648 ≤ x4 ∧ x4 ≤ 2147483647) (g5 : -2147483648 ≤ x5 ∧ x5 ≤ 2147483647) (g6 : -2147483648 ≤ x6 ∧ x6 ≤ 2147483647) (g7 : -2147483648 ≤ x7 ∧ x7 ≤ 2147483647) (g8 : -2147483648 ≤ x8 ∧ x8 ≤ 2147483647) (v8 : Int) (e8 : v8 = fx_add x6 3) (c1 : 0 ≤ v8) (c2 : v8 < 8090) (v9 : Int) (e9 : v9 = S.1 67 v8) (b9 : -2147483648 ≤ v9 ∧ v9 ≤ 2147483647) (c3 : v9 ≤ x8) (c4 : x7 = 0) (v10 : Int) (e10 : v10 = fx_add x5 1) (z : Int) (Z : fx_S) (kz : fx_Sok Z) (bz : -2147483648 ≤ z ∧ z ≤ 2147483647) (pz : s231 S x1 x2 x3 x4 v10 z Z) : s307 S x1 x2 x3 x4 x5 x6 x7 x8 z Z := by
  obtain ⟨rZ, fZ, pz⟩ := pz
  refine ⟨rZ, ?_, ?_⟩
  · intro p i hW
    clear e10 c4 c3 b9 e9 c2 c1 e8
    exact (fZ p i (by omega))
  · skip
    intro hB a1 a2 a3 a4 a5 a6 a7 a8
    have N := fx_WB_n hB
    have Nl := fx_WB_l hB (s := x1) a1 a2
    have h8 := e8
    first | rw [fx_add_eq (by omega) (by omega)] at h8 | skip
    have h10 := e10
    first | rw [fx_add_eq (by omega) (by omega)] at h10 | skip
    exact pz hB (.inr ⟨a1, a2⟩) (by omega) a7 a8
theorem q307_3 (S : fx_S) (x1 x2 x3 x4 x5 x6 x7 x8 : Int) (hS : fx_Sok S) (g1 : -2147483648 ≤ x1 ∧ x1 ≤ 2147483647) (g2 : -2147483648 ≤ x2 ∧ x2 ≤ 2147483647) (g3 : -2147483648 ≤ x3 ∧ x3 ≤ 2147483647) (g4 : -2147483648 ≤ x4 ∧ x4 ≤ 2147483647) (g5 : -2147483648 ≤ x5 ∧ x5 ≤ 2147483647) (g6 : -2147483648 ≤ x6 ∧ x6 ≤ 2147483647) (g7 : -2147483648 ≤ x7 ∧ x7 ≤ 2147483647) (g8 : -2147483648 ≤ x8 ∧ x8 ≤ 2147483647) (v8 : Int) (e8 : v8 = fx_add x6 3) (c1 : 0 ≤ v8) (c2 : v8 < 8090) (v9 : Int) (e9 : v9 = S.1 67 v8) (b9 : -2147483648 ≤ v9 ∧ v9 ≤ 2147483647) (c3 : x8 < v9) (c4 : x7 = 0) (c5 : x7 ≠ 0) (c6 : x4 ≠ 0) (v10 : Int) (e10 : v10 = fx_add x6 1) (c7 : 0 ≤ v10) (c8 : v10 < 8090) (v11 : Int) (e11 : v11 = S.1 67 v10) (b11 : -2147483648 ≤ v11 ∧ v11 ≤ 2147483647) (v12 : Int) (e12 : v12 = fx_shl 1 v11) (v13 : Int) (e13 : v13 = fx_or x4 v12) (v14 : Int) (e14 : v14 = fx_add x5 1) (z : Int) (Z : fx_S) (kz : fx_Sok Z) (bz : -2147483648 ≤ z ∧ z ≤ 2147483647) (pz : s231 S x1 x2 x3 v13 v14 z Z) : s307 S x1 x2 x3 x4 x5 x6 x7 x8 z Z := by
  obtain ⟨rZ, fZ, pz⟩ := pz
  refine ⟨rZ, ?_, ?_⟩
  · intro p i hW
    clear e14 e13 e12 b11 e11 c8 c7 e10 c6 c5 c4 c3 b9 e9 c2 c1 e8
    exact (fZ p i (by omega))
  · skip
    intro hB a1 a2 a3 a4 a5 a6 a7 a8
    exact absurd c4 c5
theorem q307_4 (S : fx_S) (x1 x2 x3 x4 x5 x6 x7 x8 : Int) (hS : fx_Sok S) (g1 : -2147483648 ≤ x1 ∧ x1 ≤ 2147483647) (g2 : -2147483648 ≤ x2 ∧ x2 ≤ 2147483647) (g3 : -2147483648 ≤ x3 ∧ x3 ≤ 2147483647) (g4 : -2147483648 ≤ x4 ∧ x4 ≤ 2147483647) (g5 : -2147483648 ≤ x5 ∧ x5 ≤ 2147483647) (g6 : -2147483648 ≤ x6 ∧ x6 ≤ 2147483647) (g7 : -2147483648 ≤ x7 ∧ x7 ≤ 2147483647) (g8 : -2147483648 ≤ x8 ∧ x8 ≤ 2147483647) (v8 : Int) (e8 : v8 = fx_add x6 3) (c1 : 0 ≤ v8) (c2 : v8 < 8090) (v9 : Int) (e9 : v9 = S.1 67 v8) (b9 : -2147483648 ≤ v9 ∧ v9 ≤ 2147483647) (c3 : x8 < v9) (c4 : x7 = 0) (c5 : x7 ≠ 0) (c6 : x4 = 0) (v10 : Int) (e10 : v10 = fx_add x6 1) (c7 : 0 ≤ v10) (c8 : v10 < 8090) (v11 : Int) (e11 : v11 = S.1 67 v10) (b11 : -2147483648 ≤ v11 ∧ v11 ≤ 2147483647) (S1 : fx_S) (d1 : S1 = (fx_up S.1 66 15 v11, S.2)) (v12 : Int) (e12 : v12 = fx_add x6 1) (c9 : 0 ≤ v12) (c10 : v12 < 8090) (v13 : Int) (e13 : v13 = S1.1 67 v12) (b13 : -2147483648 ≤ v13 ∧ v13 ≤ 2147483647) (v14 : Int) (e14 : v14 = fx_shl 1 v13) (v15 : Int) (e15 : v15 = fx_or x4 v14) (v16 : Int) (e16 : v16 = fx_add x5 1) (z : Int) (Z : fx_S) (kz : fx_Sok Z) (bz : -2147483648 ≤ z ∧ z ≤ 2147483647) (pz : s231 S1 x1 x2 x3 v15 v16 z Z) : s307 S x1 x2 x3 x4 x5 x6 x7 x8 z Z := by
  obtain ⟨rZ, fZ, pz⟩ := pz
  refine ⟨(rZ).trans ((show S1.2 = S.2 by rw [d1])), ?_, ?_⟩
  · intro p i hW
    clear e16 e15 e14 b13 e13 c10 c9 e12 b11 e11 c8 c7 e10 c6 c5 c4 c3 b9 e9 c2 c1 e8
    exact ((fZ p i (by omega))).trans ((show S1.1 p i = S.1 p i by rw [d1]; exact if_neg (by omega)))
  · skip
    intro hB a1 a2 a3 a4 a5 a6 a7 a8
    exact absurd c4 c5
theorem q307_5 (S : fx_S) (x1 x2 x3 x4 x5 x6 x7 x8 : Int) (hS : fx_Sok S) (g1 : -2147483648 ≤ x1 ∧ x1 ≤ 2147483647) (g2 : -2147483648 ≤ x2 ∧ x2 ≤ 2147483647) (g3 : -2147483648 ≤ x3 ∧ x3 ≤ 2147483647) (g4 : -2147483648 ≤ x4 ∧ x4 ≤ 2147483647) (g5 : -2147483648 ≤ x5 ∧ x5 ≤ 2147483647) (g6 : -2147483648 ≤ x6 ∧ x6 ≤ 2147483647) (g7 : -2147483648 ≤ x7 ∧ x7 ≤ 2147483647) (g8 : -2147483648 ≤ x8 ∧ x8 ≤ 2147483647) (v8 : Int) (e8 : v8 = fx_add x6 3) (c1 : 0 ≤ v8) (c2 : v8 < 8090) (v9 : Int) (e9 : v9 = S.1 67 v8) (b9 : -2147483648 ≤ v9 ∧ v9 ≤ 2147483647) (c3 : x8 < v9) (c4 : x7 = 0) (c5 : x7 = 0) (v10 : Int) (e10 : v10 = fx_add x5 1) (z : Int) (Z : fx_S) (kz : fx_Sok Z) (bz : -2147483648 ≤ z ∧ z ≤ 2147483647) (pz : s231 S x1 x2 x3 x4 v10 z Z) : s307 S x1 x2 x3 x4 x5 x6 x7 x8 z Z := by
  obtain ⟨rZ, fZ, pz⟩ := pz
  refine ⟨rZ, ?_, ?_⟩
  · intro p i hW
    clear e10 c5 c4 c3 b9 e9 c2 c1 e8
    exact (fZ p i (by omega))
  · skip
    intro hB a1 a2 a3 a4 a5 a6 a7 a8
    have N := fx_WB_n hB
    have Nl := fx_WB_l hB (s := x1) a1 a2
    have h8 := e8
    first | rw [fx_add_eq (by omega) (by omega)] at h8 | skip
    have h10 := e10
    first | rw [fx_add_eq (by omega) (by omega)] at h10 | skip
    exact pz hB (.inr ⟨a1, a2⟩) (by omega) a7 a8
theorem q307_6 (S : fx_S) (x1 x2 x3 x4 x5 x6 x7 x8 : Int) (hS : fx_Sok S) (g1 : -2147483648 ≤ x1 ∧ x1 ≤ 2147483647) (g2 : -2147483648 ≤ x2 ∧ x2 ≤ 2147483647) (g3 : -2147483648 ≤ x3 ∧ x3 ≤ 2147483647) (g4 : -2147483648 ≤ x4 ∧ x4 ≤ 2147483647) (g5 : -2147483648 ≤ x5 ∧ x5 ≤ 2147483647) (g6 : -2147483648 ≤ x6 ∧ x6 ≤ 2147483647) (g7 : -2147483648 ≤ x7 ∧ x7 ≤ 2147483647) (g8 : -2147483648 ≤ x8 ∧ x8 ≤ 2147483647) (v8 : Int) (e8 : v8 = fx_add x6 3) (c1 : 0 ≤ v8) (c2 : v8 < 8090) (v9 : Int) (e9 : v9 = S.1 67 v8) (b9 : -2147483648 ≤ v9 ∧ v9 ≤ 2147483647) (c3 : x8 < v9) (c4 : x7 ≠ 0) (v10 : Int) (e10 : v10 = fx_add x6 4) (v11 : Int) (e11 : v11 = fx_mul 4 x8) (v12 : Int) (e12 : v12 = fx_add v10 v11) (v13 : Int) (S1 : fx_S) (k1 : fx_Sok S1) (b13 : -2147483648 ≤ v13 ∧ v13 ≤ 2147483647) (p1 : s356 S v12 x2 x3 v13 S1) (v14 : Int) (e14 : v14 = fx_add x8 1) (z : Int) (Z : fx_S) (kz : fx_Sok Z) (bz : -2147483648 ≤ z ∧ z ≤ 2147483647) (pz : s307 S1 x1 x2 x3 x4 x5 x6 v13 v14 z Z) : s307 S x1 x2 x3 x4 x5 x6 x7 x8 z Z := by
  obtain rfl : S = S1 := p1
  obtain ⟨rZ, fZ, pz⟩ := pz
  refine ⟨rZ, ?_, ?_⟩
  · intro p i hW
    clear e14 b13 e12 e11 e10 c4 c3 b9 e9 c2 c1 e8
    exact (fZ p i (by omega))
  · skip
    intro hB a1 a2 a3 a4 a5 a6 a7 a8
    have N := fx_WB_n hB
    have Nl := fx_WB_l hB (s := x1) a1 a2
    have h8 := e8
    first | rw [fx_add_eq (by omega) (by omega)] at h8 | skip
    have h10 := e10
    first | rw [fx_add_eq (by omega) (by omega)] at h10 | skip
    have h11 := e11
    first | rw [fx_mul_eq (by omega) (by omega)] at h11 | skip
    have h12 := e12
    first | rw [fx_add_eq (by omega) (by omega)] at h12 | skip
    have h14 := e14
    first | rw [fx_add_eq (by omega) (by omega)] at h14 | skip
    exact pz hB a1 a2 a3 a4 a5 (fun _ => a6 c4) a7 a8
theorem q308_0 (S : fx_S) (x0 x1 x2 x3 x4 : Int) (hS : fx_Sok S) (g0 : -1 ≤ x0 ∧ x0 < S.2.2) (g1 : -2147483648 ≤ x1 ∧ x1 ≤ 2147483647) (g2 : -2147483648 ≤ x2 ∧ x2 ≤ 2147483647) (g3 : -2147483648 ≤ x3 ∧ x3 ≤ 2147483647) (g4 : -2147483648 ≤ x4 ∧ x4 ≤ 2147483647) (c1 : x0 ≠ (-1)) (v5 : Int) (e5 : v5 = S.1 x0 4) (b5 : -2147483648 ≤ v5 ∧ v5 ≤ 2147483647) (c2 : v5 ≤ x4) : s308 S x0 x1 x2 x3 x4 (-1) S := by
  exact rfl
theorem q308_1 (S : fx_S) (x0 x1 x2 x3 x4 : Int) (hS : fx_Sok S) (g0 : -1 ≤ x0 ∧ x0 < S.2.2) (g1 : -2147483648 ≤ x1 ∧ x1 ≤ 2147483647) (g2 : -2147483648 ≤ x2 ∧ x2 ≤ 2147483647) (g3 : -2147483648 ≤ x3 ∧ x3 ≤ 2147483647) (g4 : -2147483648 ≤ x4 ∧ x4 ≤ 2147483647) (c1 : x0 ≠ (-1)) (v5 : Int) (e5 : v5 = S.1 x0 4) (b5 : -2147483648 ≤ v5 ∧ v5 ≤ 2147483647) (c2 : x4 < v5) (v6 : Int) (S1 : fx_S) (k1 : fx_Sok S1) (b6 : -2147483648 ≤ v6 ∧ v6 ≤ 2147483647) (p1 : s355 S x0 x4 x1 x2 x3 v6 S1) (c3 : v6 = 0) (v7 : Int) (e7 : v7 = fx_add x4 1) (z : Int) (Z : fx_S) (kz : fx_Sok Z) (bz : -2147483648 ≤ z ∧ z ≤ 2147483647) (pz : s308 S1 x0 x1 x2 x3 v7 z Z) : s308 S x0 x1 x2 x3 x4 z Z := by
  obtain rfl : S = S1 := p1
  obtain rfl : S = Z := pz
  exact rfl
theorem q308_2 (S : fx_S) (x0 x1 x2 x3 x4 : Int) (hS : fx_Sok S) (g0 : -1 ≤ x0 ∧ x0 < S.2.2) (g1 : -2147483648 ≤ x1 ∧ x1 ≤ 2147483647) (g2 : -2147483648 ≤ x2 ∧ x2 ≤ 2147483647) (g3 : -2147483648 ≤ x3 ∧ x3 ≤ 2147483647) (g4 : -2147483648 ≤ x4 ∧ x4 ≤ 2147483647) (c1 : x0 ≠ (-1)) (v5 : Int) (e5 : v5 = S.1 x0 4) (b5 : -2147483648 ≤ v5 ∧ v5 ≤ 2147483647) (c2 : x4 < v5) (v6 : Int) (S1 : fx_S) (k1 : fx_Sok S1) (b6 : -2147483648 ≤ v6 ∧ v6 ≤ 2147483647) (p1 : s355 S x0 x4 x1 x2 x3 v6 S1) (c3 : v6 ≠ 0) (c4 : x0 ≠ (-1)) (c5 : 0 ≤ x4) (c6 : x4 < 16) (v7 : Int) (e7 : v7 = S1.1 (x0 + 2) x4) (b7 : -2147483648 ≤ v7 ∧ v7 ≤ 2147483647) : s308 S x0 x1 x2 x3 x4 v7 S1 := by
  obtain rfl : S = S1 := p1
  exact rfl
theorem q309_0 (S : fx_S) (x1 x2 x3 : Int) (hS : fx_Sok S) (g1 : -2147483648 ≤ x1 ∧ x1 ≤ 2147483647) (g2 : -2147483648 ≤ x2 ∧ x2 ≤ 2147483647) (g3 : -2147483648 ≤ x3 ∧ x3 ≤ 2147483647) (c1 : x3 ≤ x2) : s309 S x1 x2 x3 0 S := by
  refine ⟨rfl, ?_⟩
  · intro p i hW
    clear c1
    exact rfl
theorem q309_1 (S : fx_S) (x1 x2 x3 : Int) (hS : fx_Sok S) (g1 : -2147483648 ≤ x1 ∧ x1 ≤ 2147483647) (g2 : -2147483648 ≤ x2 ∧ x2 ≤ 2147483647) (g3 : -2147483648 ≤ x3 ∧ x3 ≤ 2147483647) (c1 : x2 < x3) (c2 : 0 ≤ x2) (c3 : x2 < 4) (S1 : fx_S) (d1 : S1 = (fx_up S.1 63 x2 x1, S.2)) (v3 : Int) (e3 : v3 = fx_add x2 1) (z : Int) (Z : fx_S) (kz : fx_Sok Z) (bz : z = 0) (pz : s309 S1 x1 v3 x3 z Z) : s309 S x1 x2 x3 z Z := by
  obtain ⟨rZ, fZ⟩ := pz
  refine ⟨(rZ).trans ((show S1.2 = S.2 by rw [d1])), ?_⟩
  · intro p i hW
    clear e3 c3 c2 c1
    exact ((fZ p i (by omega))).trans ((show S1.1 p i = S.1 p i by rw [d1]; exact if_neg (by omega)))
theorem q310_0 (S : fx_S) (x4 x5 : Int) (hS : fx_Sok S) (g4 : -2147483648 ≤ x4 ∧ x4 ≤ 2147483647) (g5 : -2147483648 ≤ x5 ∧ x5 ≤ 2147483647) (c1 : 4 ≤ x5) : s310 S x4 x5 0 S := by
  refine ⟨rfl, ?_⟩
  · intro p i hW
    clear c1
    exact rfl
theorem q310_1 (S : fx_S) (x4 x5 : Int) (hS : fx_Sok S) (g4 : -2147483648 ≤ x4 ∧ x4 ≤ 2147483647) (g5 : -2147483648 ≤ x5 ∧ x5 ≤ 2147483647) (c1 : x5 < 4) (c2 : x4 ≤ 0) : s310 S x4 x5 0 S := by
  refine ⟨rfl, ?_⟩
  · intro p i hW
    clear c2 c1
    exact rfl
theorem q310_2 (S : fx_S) (x4 x5 : Int) (hS : fx_Sok S) (g4 : -2147483648 ≤ x4 ∧ x4 ≤ 2147483647) (g5 : -2147483648 ≤ x5 ∧ x5 ≤ 2147483647) (c1 : x5 < 4) (c2 : 0 < x4) (v2 : Int) (S1 : fx_S) (k1 : fx_Sok S1) (b2 : -2147483648 ≤ v2 ∧ v2 ≤ 2147483647) (p1 : s357 S  v2 S1) (c3 : 0 ≤ v2) (c4 : v2 < 4) (v3 : Int) (e3 : v3 = S1.1 27 v2) (b3 : -2147483648 ≤ v3 ∧ v3 ≤ 2147483647) (v4 : Int) (e4 : v4 = fx_add v3 1) (c5 : 0 ≤ v2) (c6 : v2 < 4) (S2 : fx_S) (d2 : S2 = (fx_up S1.1 27 v2 v4, S1.2)) (c7 : 0 ≤ v2) (c8 : v2 < 4) (S3 : fx_S) (d3 : S3 = (fx_up S2.1 28 v2 (-1), S2.2)) (v5 : Int) (e5 : v5 = fx_add x4 (-1)) (v6 : Int) (e6 : v6 = fx_add x5 1) (z : Int) (Z : fx_S) (kz : fx_Sok Z) (bz : z = 0) (pz : s310 S3 v5 v6 z Z) : s310 S x4 x5 z Z := by
  obtain rfl : S = S1 := p1
  obtain ⟨rZ, fZ⟩ := pz
  refine ⟨(rZ).trans (((show S3.2 = S2.2 by rw [d3])).trans ((show S2.2 = S.2 by rw [d2]))), ?_⟩
  · intro p i hW
    clear e6 e5 c8 c7 c6 c5 e4 b3 e3 c4 c3 b2 c2 c1
    exact ((fZ p i (by omega))).trans (((show S3.1 p i = S2.1 p i by rw [d3]; exact if_neg (by omega))).trans ((show S2.1 p i = S.1 p i by rw [d2]; exact if_neg (by omega))))
theorem q311_0 (S : fx_S) (x1 x2 x3 : Int) (hS : fx_Sok S) (g1 : -2147483648 ≤ x1 ∧ x1 ≤ 2147483647) (g2 : -2147483648 ≤ x2 ∧ x2 ≤ 2147483647) (g3 : -2147483648 ≤ x3 ∧ x3 ≤ 2147483647) (c1 : x3 ≤ 0) (z : Int) (Z : fx_S) (kz : fx_Sok Z) (bz : -2147483648 ≤ z ∧ z ≤ 2147483647) (pz : s358 S x1 0 z Z) : s311 S x1 x2 x3 z Z := by
  unfold s358 at pz
  unfold s311
  intro hB
  have BS := hB
  have NS := fx_WB_n BS
  obtain ⟨rZ, fZ, BZ⟩ := pz BS (by omega)
  refine ⟨rZ, ?_, BZ⟩
  · intro p i hW
    exact (fZ p i (by omega))
theorem q311_1 (S : fx_S) (x1 x2 x3 : Int) (hS : fx_Sok S) (g1 : -2147483648 ≤ x1 ∧ x1 ≤ 2147483647) (g2 : -2147483648 ≤ x2 ∧ x2 ≤ 2147483647) (g3 : -2147483648 ≤ x3 ∧ x3 ≤ 2147483647) (c1 : 0 < x3) (z : Int) (Z : fx_S) (kz : fx_Sok Z) (bz : -2147483648 ≤ z ∧ z ≤ 2147483647) (pz : s359 S x1 x2 x3 (-1) 0 z Z) : s311 S x1 x2 x3 z Z := by
  unfold s359 at pz
  unfold s311
  intro hB
  have BS := hB
  have NS := fx_WB_n BS
  obtain ⟨rZ, fZ, BZ⟩ := pz BS
  refine ⟨rZ, ?_, BZ⟩
  · intro p i hW
    exact (fZ p i (by omega))
theorem q312_0 (S : fx_S) (x2 : Int) (hS : fx_Sok S) (g2 : -2147483648 ≤ x2 ∧ x2 ≤ 2147483647) (c1 : 80 ≤ x2) (v1 : Int) (e1 : v1 = S.1 29 0) (b1 : -2147483648 ≤ v1 ∧ v1 ≤ 2147483647) (v2 : Int) (e2 : v2 = fx_add v1 1) (S1 : fx_S) (d1 : S1 = (fx_up S.1 29 0 v2, S.2)) (v3 : Int) (e3 : v3 = S1.1 29 0) (b3 : -2147483648 ≤ v3 ∧ v3 ≤ 2147483647) (v4 : Int) (e4 : v4 = fx_sub v3 1) : s312 S x2 v4 S1 := by
  refine ⟨(show S1.2 = S.2 by rw [d1]), ?_⟩
  · intro p i hW
    clear e4 b3 e3 e2 b1 e1 c1
    exact (show S1.1 p i = S.1 p i by rw [d1]; exact if_neg (by omega))
theorem q312_1 (S : fx_S) (x2 : Int) (hS : fx_Sok S) (g2 : -2147483648 ≤ x2 ∧ x2 ≤ 2147483647) (c1 : x2 < 80) (v1 : Int) (e1 : v1 = S.1 29 0) (b1 : -2147483648 ≤ v1 ∧ v1 ≤ 2147483647) (v2 : Int) (e2 : v2 = fx_mul v1 80) (v3 : Int) (e3 : v3 = fx_add v2 x2) (c2 : 0 ≤ v3) (c3 : v3 < 1600) (S1 : fx_S) (d1 : S1 = (fx_up S.1 34 v3 0, S.2)) (v4 : Int) (e4 : v4 = fx_add x2 1) (z : Int) (Z : fx_S) (kz : fx_Sok Z) (bz : -2147483648 ≤ z ∧ z ≤ 2147483647) (pz : s312 S1 v4 z Z) : s312 S x2 z Z := by
  obtain ⟨rZ, fZ⟩ := pz
  refine ⟨(rZ).trans ((show S1.2 = S.2 by rw [d1])), ?_⟩
  · intro p i hW
    clear e4 c3 c2 e3 e2 b1 e1 c1
    exact ((fZ p i (by omega))).trans ((show S1.1 p i = S.1 p i by rw [d1]; exact if_neg (by omega)))
theorem q313_0 (S : fx_S) (x1 x2 : Int) (hS : fx_Sok S) (g1 : -2147483648 ≤ x1 ∧ x1 ≤ 2147483647) (g2 : -2147483648 ≤ x2 ∧ x2 ≤ 2147483647) (c1 : 5 ≤ x2) : s313 S x1 x2 0 S := by
  refine ⟨rfl, ?_⟩
  · intro p i hW
    clear c1
    exact rfl
theorem q313_1 (S : fx_S) (x1 x2 : Int) (hS : fx_Sok S) (g1 : -2147483648 ≤ x1 ∧ x1 ≤ 2147483647) (g2 : -2147483648 ≤ x2 ∧ x2 ≤ 2147483647) (c1 : x2 < 5) (v2 : Int) (e2 : v2 = fx_mul x1 5) (v3 : Int) (e3 : v3 = fx_add v2 x2) (c2 : 0 ≤ v3) (c3 : v3 < 105) (S1 : fx_S) (d1 : S1 = (fx_up S.1 35 v3 0, S.2)) (v4 : Int) (e4 : v4 = fx_mul x1 5) (v5 : Int) (e5 : v5 = fx_add v4 x2) (c4 : 0 ≤ v5) (c5 : v5 < 105) (S2 : fx_S) (d2 : S2 = (fx_up S1.1 36 v5 0, S1.2)) (v6 : Int) (e6 : v6 = fx_add x2 1) (z : Int) (Z : fx_S) (kz : fx_Sok Z) (bz : z = 0) (pz : s313 S2 x1 v6 z Z) : s313 S x1 x2 z Z := by
  obtain ⟨rZ, fZ⟩ := pz
  refine ⟨(rZ).trans (((show S2.2 = S1.2 by rw [d2])).trans ((show S1.2 = S.2 by rw [d1]))), ?_⟩
  · intro p i hW
    clear e6 c5 c4 e5 e4 c3 c2 e3 e2 c1
    exact ((fZ p i (by omega))).trans (((show S2.1 p i = S1.1 p i by rw [d2]; exact if_neg (by omega))).trans ((show S1.1 p i = S.1 p i by rw [d1]; exact if_neg (by omega))))
theorem q314_0 (S : fx_S) (x1 x2 x3 : Int) (hS : fx_Sok S) (g1 : -2147483648 ≤ x1 ∧ x1 ≤ 2147483647) (g2 : -2147483648 ≤ x2 ∧ x2 ≤ 2147483647) (g3 : -2147483648 ≤ x3 ∧ x3 ≤ 2147483647) (c1 : x2 < 0) (c2 : x3 ≠ 1) (c3 : x3 ≠ 2) : s314 S x1 x2 x3 0 S := by
  refine ⟨rfl, ?_⟩
  · intro p i hW
    clear c3 c2 c1
    exact rfl
theorem q314_1 (S : fx_S) (x1 x2 x3 : Int) (hS : fx_Sok S) (g1 : -2147483648 ≤ x1 ∧ x1 ≤ 2147483647) (g2 : -2147483648 ≤ x2 ∧ x2 ≤ 2147483647) (g3 : -2147483648 ≤ x3 ∧ x3 ≤ 2147483647) (c1 : x2 < 0) (c2 : x3 ≠ 1) (c3 : x3 = 2) (v3 : Int) (e3 : v3 = fx_mul x1 5) (v4 : Int) (e4 : v4 = fx_add v3 4) (c4 : 0 ≤ v4) (c5 : v4 < 105) (v5 : Int) (e5 : v5 = S.1 36 v4) (b5 : -2147483648 ≤ v5 ∧ v5 ≤ 2147483647) (v6 : Int) (e6 : v6 = fx_add v5 1) (c6 : 0 ≤ v4) (c7 : v4 < 105) (S1 : fx_S) (d1 : S1 = (fx_up S.1 36 v4 v6, S.2)) : s314 S x1 x2 x3 0 S1 := by
  refine ⟨(show S1.2 = S.2 by rw [d1]), ?_⟩
  · intro p i hW
    clear c7 c6 e6 b5 e5 c5 c4 e4 e3 c3 c2 c1
    exact (show S1.1 p i = S.1 p i by rw [d1]; exact if_neg (by omega))
theorem q314_2 (S : fx_S) (x1 x2 x3 : Int) (hS : fx_Sok S) (g1 : -2147483648 ≤ x1 ∧ x1 ≤ 2147483647) (g2 : -2147483648 ≤ x2 ∧ x2 ≤ 2147483647) (g3 : -2147483648 ≤ x3 ∧ x3 ≤ 2147483647) (c1 : x2 < 0) (c2 : x3 = 1) (v3 : Int) (e3 : v3 = fx_mul x1 5) (v4 : Int) (e4 : v4 = fx_add v3 4) (c3 : 0 ≤ v4) (c4 : v4 < 105) (v5 : Int) (e5 : v5 = S.1 35 v4) (b5 : -2147483648 ≤ v5 ∧ v5 ≤ 2147483647) (v6 : Int) (e6 : v6 = fx_add v5 1) (c5 : 0 ≤ v4) (c6 : v4 < 105) (S1 : fx_S) (d1 : S1 = (fx_up S.1 35 v4 v6, S.2)) : s314 S x1 x2 x3 0 S1 := by
  refine ⟨(show S1.2 = S.2 by rw [d1]), ?_⟩
  · intro p i hW
    clear c6 c5 e6 b5 e5 c4 c3 e4 e3 c2 c1
    exact (show S1.1 p i = S.1 p i by rw [d1]; exact if_neg (by omega))
theorem q314_3 (S : fx_S) (x1 x2 x3 : Int) (hS : fx_Sok S) (g1 : -2147483648 ≤ x1 ∧ x1 ≤ 2147483647) (g2 : -2147483648 ≤ x2 ∧ x2 ≤ 2147483647) (g3 : -2147483648 ≤ x3 ∧ x3 ≤ 2147483647) (c1 : 0 ≤ x2) (c2 : 4 ≤ x2) (c3 : x3 ≠ 1) (c4 : x3 ≠ 2) : s314 S x1 x2 x3 0 S := by
  refine ⟨rfl, ?_⟩
  · intro p i hW
    clear c4 c3 c2 c1
    exact rfl
theorem q314_4 (S : fx_S) (x1 x2 x3 : Int) (hS : fx_Sok S) (g1 : -2147483648 ≤ x1 ∧ x1 ≤ 2147483647) (g2 : -2147483648 ≤ x2 ∧ x2 ≤ 2147483647) (g3 : -2147483648 ≤ x3 ∧ x3 ≤ 2147483647) (c1 : 0 ≤ x2) (c2 : 4 ≤ x2) (c3 : x3 ≠ 1) (c4 : x3 = 2) (v3 : Int) (e3 : v3 = fx_mul x1 5) (v4 : Int) (e4 : v4 = fx_add v3 4) (c5 : 0 ≤ v4) (c6 : v4 < 105) (v5 : Int) (e5 : v5 = S.1 36 v4) (b5 : -2147483648 ≤ v5 ∧ v5 ≤ 2147483647) (v6 : Int) (e6 : v6 = fx_add v5 1) (c7 : 0 ≤ v4) (c8 : v4 < 105) (S1 : fx_S) (d1 : S1 = (fx_up S.1 36 v4 v6, S.2)) : s314 S x1 x2 x3 0 S1 := by
  refine ⟨(show S1.2 = S.2 by rw [d1]), ?_⟩
  · intro p i hW
    clear c8 c7 e6 b5 e5 c6 c5 e4 e3 c4 c3 c2 c1
    exact (show S1.1 p i = S.1 p i by rw [d1]; exact if_neg (by omega))
theorem q314_5 (S : fx_S) (x1 x2 x3 : Int) (hS : fx_Sok S) (g1 : -2147483648 ≤ x1 ∧ x1 ≤ 2147483647) (g2 : -2147483648 ≤ x2 ∧ x2 ≤ 2147483647) (g3 : -2147483648 ≤ x3 ∧ x3 ≤ 2147483647) (c1 : 0 ≤ x2) (c2 : 4 ≤ x2) (c3 : x3 = 1) (v3 : Int) (e3 : v3 = fx_mul x1 5) (v4 : Int) (e4 : v4 = fx_add v3 4) (c4 : 0 ≤ v4) (c5 : v4 < 105) (v5 : Int) (e5 : v5 = S.1 35 v4) (b5 : -2147483648 ≤ v5 ∧ v5 ≤ 2147483647) (v6 : Int) (e6 : v6 = fx_add v5 1) (c6 : 0 ≤ v4) (c7 : v4 < 105) (S1 : fx_S) (d1 : S1 = (fx_up S.1 35 v4 v6, S.2)) : s314 S x1 x2 x3 0 S1 := by
  refine ⟨(show S1.2 = S.2 by rw [d1]), ?_⟩
  · intro p i hW
    clear c7 c6 e6 b5 e5 c5 c4 e4 e3 c3 c2 c1
    exact (show S1.1 p i = S.1 p i by rw [d1]; exact if_neg (by omega))
theorem q314_6 (S : fx_S) (x1 x2 x3 : Int) (hS : fx_Sok S) (g1 : -2147483648 ≤ x1 ∧ x1 ≤ 2147483647) (g2 : -2147483648 ≤ x2 ∧ x2 ≤ 2147483647) (g3 : -2147483648 ≤ x3 ∧ x3 ≤ 2147483647) (c1 : 0 ≤ x2) (c2 : x2 < 4) (c3 : x3 ≠ 1) (c4 : x3 ≠ 2) : s314 S x1 x2 x3 0 S := by
  refine ⟨rfl, ?_⟩
  · intro p i hW
    clear c4 c3 c2 c1
    exact rfl
theorem q314_7 (S : fx_S) (x1 x2 x3 : Int) (hS : fx_Sok S) (g1 : -2147483648 ≤ x1 ∧ x1 ≤ 2147483647) (g2 : -2147483648 ≤ x2 ∧ x2 ≤ 2147483647) (g3 : -2147483648 ≤ x3 ∧ x3 ≤ 2147483647) (c1 : 0 ≤ x2) (c2 : x2 < 4) (c3 : x3 ≠ 1) (c4 : x3 = 2) (v3 : Int) (e3 : v3 = fx_mul x1 5) (v4 : Int) (e4 : v4 = fx_add v3 x2) (c5 : 0 ≤ v4) (c6 : v4 < 105) (v5 : Int) (e5 : v5 = S.1 36 v4) (b5 : -2147483648 ≤ v5 ∧ v5 ≤ 2147483647) (v6 : Int) (e6 : v6 = fx_add v5 1) (c7 : 0 ≤ v4) (c8 : v4 < 105) (S1 : fx_S) (d1 : S1 = (fx_up S.1 36 v4 v6, S.2)) : s314 S x1 x2 x3 0 S1 := by
  refine ⟨(show S1.2 = S.2 by rw [d1]), ?_⟩
  · intro p i hW
    clear c8 c7 e6 b5 e5 c6 c5 e4 e3 c4 c3 c2 c1
    exact (show S1.1 p i = S.1 p i by rw [d1]; exact if_neg (by omega))
theorem q314_8 (S : fx_S) (x1 x2 x3 : Int) (hS : fx_Sok S) (g1 : -2147483648 ≤ x1 ∧ x1 ≤ 2147483647) (g2 : -2147483648 ≤ x2 ∧ x2 ≤ 2147483647) (g3 : -2147483648 ≤ x3 ∧ x3 ≤ 2147483647) (c1 : 0 ≤ x2) (c2 : x2 < 4) (c3 : x3 = 1) (v3 : Int) (e3 : v3 = fx_mul x1 5) (v4 : Int) (e4 : v4 = fx_add v3 x2) (c4 : 0 ≤ v4) (c5 : v4 < 105) (v5 : Int) (e5 : v5 = S.1 35 v4) (b5 : -2147483648 ≤ v5 ∧ v5 ≤ 2147483647) (v6 : Int) (e6 : v6 = fx_add v5 1) (c6 : 0 ≤ v4) (c7 : v4 < 105) (S1 : fx_S) (d1 : S1 = (fx_up S.1 35 v4 v6, S.2)) : s314 S x1 x2 x3 0 S1 := by
  refine ⟨(show S1.2 = S.2 by rw [d1]), ?_⟩
  · intro p i hW
    clear c7 c6 e6 b5 e5 c5 c4 e4 e3 c3 c2 c1
    exact (show S1.1 p i = S.1 p i by rw [d1]; exact if_neg (by omega))
