/-! FX: what is to be shown of the entries -/
theorem q305_4 (S : fx_S) (x1 x2 x3 : Int) (hS : fx_Sok S) (g1 : -2147483648 ≤ x1 ∧ x1 ≤ 2147483647) (g2 : -2147483648 ≤ x2 ∧ x2 ≤ 2147483647) (g3 : -2147483648 ≤ x3 ∧ x3 ≤ 2147483647) (c1 : 16 ≤ x3) (c2 : 0 ≤ x1) (c3 : x1 < 260) (S1 : fx_S) (d1 : S1 = (fx_up S.1 72 x1 x2, S.2)) (c4 : x2 ≠ 0) (c5 : x2 ≠ 1) (c6 : x2 ≠ 2) (v3 : Int) (e3 : v3 = fx_add x1 1) (c7 : x2 = 4) (v4 : Int) (S2 : fx_S) (k2 : fx_Sok S2) (b4 : -2147483648 ≤ v4 ∧ v4 ≤ 2147483647) (p2 : s351 S1 1 99 v4 S2) (c8 : 0 ≤ v3) (c9 : v3 < 260) (S3 : fx_S) (d3 : S3 = (fx_up S2.1 72 v3 v4, S2.2)) (v5 : Int) (S4 : fx_S) (k4 : fx_Sok S4) (b5 : -2147483648 ≤ v5 ∧ v5 ≤ 2147483647) (p4 : s352 S3 59 v5 S4) (c10 : v5 ≠ 0) (v6 : Int) (e6 : v6 = S4.1 66 12) (b6 : -2147483648 ≤ v6 ∧ v6 ≤ 2147483647) (c11 : v6 ≠ 0) : s305 S x1 x2 x3 0 S4 := by
  obtain ⟨r2, f2, p2⟩ := p2
  obtain rfl : S3 = S4 := p4
  refine ⟨((show S3.2 = S2.2 by rw [d3])).trans ((r2).trans ((show S1.2 = S.2 by rw [d1]))), ?_, ?_⟩
  · intro p i hW
    clear c11 b6 e6 c10 b5 c9 c8 b4 c7 e3 c6 c5 c4 c3 c2 c1
    exact ((show S3.1 p i = S2.1 p i by rw [d3]; exact if_neg (by omega))).trans (((f2 p i (by omega))).trans ((show S1.1 p i = S.1 p i by rw [d1]; exact if_neg (by omega))))
  · skip
    intro a0 a1 a2 a3
    have h3 := e3
    first | rw [fx_add_eq (by omega) (by omega)] at h3 | skip
    have t6_3 : S3.1 66 12 = S2.1 66 12 := by rw [d3]; first | exact if_neg (by omega) | rfl
    rw [t6_3] at e6
    refine ⟨fun h => ?_, fun i hi => (((show S3.1 72 (i) = S2.1 72 (i) by rw [d3]; first | exact if_neg (by omega) | rfl)).trans (((f2 72 (i) (by omega))).trans ((show S1.1 72 (i) = S.1 72 (i) by rw [d1]; first | exact if_neg (by omega) | rfl))))⟩
    rw [show S3.1 72 (x1) = S1.1 72 (x1) from (((show S3.1 72 (x1) = S2.1 72 (x1) by rw [d3]; first | exact if_neg (by omega) | rfl)).trans ((f2 72 (x1) (by omega)))), show S1.1 72 (x1) = x2 by rw [d1]; first | exact if_pos ⟨rfl, rfl⟩ | rfl] at h
    omega
theorem q305_5 (S : fx_S) (x1 x2 x3 : Int) (hS : fx_Sok S) (g1 : -2147483648 ≤ x1 ∧ x1 ≤ 2147483647) (g2 : -2147483648 ≤ x2 ∧ x2 ≤ 2147483647) (g3 : -2147483648 ≤ x3 ∧ x3 ≤ 2147483647) (c1 : 16 ≤ x3) (c2 : 0 ≤ x1) (c3 : x1 < 260) (S1 : fx_S) (d1 : S1 = (fx_up S.1 72 x1 x2, S.2)) (c4 : x2 ≠ 0) (c5 : x2 ≠ 1) (c6 : x2 ≠ 2) (v3 : Int) (e3 : v3 = fx_add x1 1) (c7 : x2 = 4) (v4 : Int) (S2 : fx_S) (k2 : fx_Sok S2) (b4 : -2147483648 ≤ v4 ∧ v4 ≤ 2147483647) (p2 : s351 S1 1 99 v4 S2) (c8 : 0 ≤ v3) (c9 : v3 < 260) (S3 : fx_S) (d3 : S3 = (fx_up S2.1 72 v3 v4, S2.2)) (v5 : Int) (S4 : fx_S) (k4 : fx_Sok S4) (b5 : -2147483648 ≤ v5 ∧ v5 ≤ 2147483647) (p4 : s352 S3 59 v5 S4) (c10 : v5 ≠ 0) (v6 : Int) (e6 : v6 = S4.1 66 12) (b6 : -2147483648 ≤ v6 ∧ v6 ≤ 2147483647) (c11 : v6 = 0) (v7 : Int) (S5 : fx_S) (k5 : fx_Sok S5) (b7 : v7 = 0) (p5 : s120 S4  v7 S5) : s305 S x1 x2 x3 0 S5 := by
  obtain ⟨r2, f2, p2⟩ := p2
  obtain rfl : S3 = S4 := p4
  obtain ⟨r5, f5⟩ := p5
  refine ⟨(r5).trans (((show S3.2 = S2.2 by rw [d3])).trans ((r2).trans ((show S1.2 = S.2 by rw [d1])))), ?_, ?_⟩
  · intro p i hW
    clear b7 c11 b6 e6 c10 b5 c9 c8 b4 c7 e3 c6 c5 c4 c3 c2 c1
    exact ((f5 p i (by omega))).trans (((show S3.1 p i = S2.1 p i by rw [d3]; exact if_neg (by omega))).trans (((f2 p i (by omega))).trans ((show S1.1 p i = S.1 p i by rw [d1]; exact if_neg (by omega)))))
  · skip
    intro a0 a1 a2 a3
    have h3 := e3
    first | rw [fx_add_eq (by omega) (by omega)] at h3 | skip
    have t6_3 : S3.1 66 12 = S2.1 66 12 := by rw [d3]; first | exact if_neg (by omega) | rfl
    rw [t6_3] at e6
    refine ⟨fun h => ?_, fun i hi => (((f5 72 (i) (by omega))).trans (((show S3.1 72 (i) = S2.1 72 (i) by rw [d3]; first | exact if_neg (by omega) | rfl)).trans (((f2 72 (i) (by omega))).trans ((show S1.1 72 (i) = S.1 72 (i) by rw [d1]; first | exact if_neg (by omega) | rfl)))))⟩
    rw [show S5.1 72 (x1) = S1.1 72 (x1) from (((f5 72 (x1) (by omega))).trans (((show S3.1 72 (x1) = S2.1 72 (x1) by rw [d3]; first | exact if_neg (by omega) | rfl)).trans ((f2 72 (x1) (by omega))))), show S1.1 72 (x1) = x2 by rw [d1]; first | exact if_pos ⟨rfl, rfl⟩ | rfl] at h
    omega
theorem q305_6 (S : fx_S) (x1 x2 x3 : Int) (hS : fx_Sok S) (g1 : -2147483648 ≤ x1 ∧ x1 ≤ 2147483647) (g2 : -2147483648 ≤ x2 ∧ x2 ≤ 2147483647) (g3 : -2147483648 ≤ x3 ∧ x3 ≤ 2147483647) (c1 : 16 ≤ x3) (c2 : 0 ≤ x1) (c3 : x1 < 260) (S1 : fx_S) (d1 : S1 = (fx_up S.1 72 x1 x2, S.2)) (c4 : x2 ≠ 0) (c5 : x2 ≠ 1) (c6 : x2 ≠ 2) (v3 : Int) (e3 : v3 = fx_add x1 1) (c7 : x2 = 4) (v4 : Int) (S2 : fx_S) (k2 : fx_Sok S2) (b4 : -2147483648 ≤ v4 ∧ v4 ≤ 2147483647) (p2 : s351 S1 1 99 v4 S2) (c8 : 0 ≤ v3) (c9 : v3 < 260) (S3 : fx_S) (d3 : S3 = (fx_up S2.1 72 v3 v4, S2.2)) (v5 : Int) (S4 : fx_S) (k4 : fx_Sok S4) (b5 : -2147483648 ≤ v5 ∧ v5 ≤ 2147483647) (p4 : s352 S3 59 v5 S4) (c10 : v5 = 0) (v6 : Int) (S5 : fx_S) (k5 : fx_Sok S5) (b6 : v6 = 0) (p5 : s226 S4 1 v6 S5) (v7 : Int) (e7 : v7 = S5.1 66 12) (b7 : -2147483648 ≤ v7 ∧ v7 ≤ 2147483647) (c11 : v7 ≠ 0) : s305 S x1 x2 x3 0 S5 := by
  obtain ⟨r2, f2, p2⟩ := p2
  obtain rfl : S3 = S4 := p4
  obtain ⟨r5, f5, p5⟩ := p5
  refine ⟨(r5).trans (((show S3.2 = S2.2 by rw [d3])).trans ((r2).trans ((show S1.2 = S.2 by rw [d1])))), ?_, ?_⟩
  · intro p i hW
    clear c11 b7 e7 b6 c10 b5 c9 c8 b4 c7 e3 c6 c5 c4 c3 c2 c1
    exact ((f5 p i (by omega))).trans (((show S3.1 p i = S2.1 p i by rw [d3]; exact if_neg (by omega))).trans (((f2 p i (by omega))).trans ((show S1.1 p i = S.1 p i by rw [d1]; exact if_neg (by omega)))))
  · skip
    intro a0 a1 a2 a3
    have h3 := e3
    first | rw [fx_add_eq (by omega) (by omega)] at h3 | skip
    refine ⟨fun h => ?_, fun i hi => (((f5 72 (i) (by omega))).trans (((show S3.1 72 (i) = S2.1 72 (i) by rw [d3]; first | exact if_neg (by omega) | rfl)).trans (((f2 72 (i) (by omega))).trans ((show S1.1 72 (i) = S.1 72 (i) by rw [d1]; first | exact if_neg (by omega) | rfl)))))⟩
    rw [show S5.1 72 (x1) = S1.1 72 (x1) from (((f5 72 (x1) (by omega))).trans (((show S3.1 72 (x1) = S2.1 72 (x1) by rw [d3]; first | exact if_neg (by omega) | rfl)).trans ((f2 72 (x1) (by omega))))), show S1.1 72 (x1) = x2 by rw [d1]; first | exact if_pos ⟨rfl, rfl⟩ | rfl] at h
    omega
theorem q305_7 (S : fx_S) (x1 x2 x3 : Int) (hS : fx_Sok S) (g1 : -2147483648 ≤ x1 ∧ x1 ≤ 2147483647) (g2 : -2147483648 ≤ x2 ∧ x2 ≤ 2147483647) (g3 : -2147483648 ≤ x3 ∧ x3 ≤ 2147483647) (c1 : 16 ≤ x3) (c2 : 0 ≤ x1) (c3 : x1 < 260) (S1 : fx_S) (d1 : S1 = (fx_up S.1 72 x1 x2, S.2)) (c4 : x2 ≠ 0) (c5 : x2 ≠ 1) (c6 : x2 ≠ 2) (v3 : Int) (e3 : v3 = fx_add x1 1) (c7 : x2 = 4) (v4 : Int) (S2 : fx_S) (k2 : fx_Sok S2) (b4 : -2147483648 ≤ v4 ∧ v4 ≤ 2147483647) (p2 : s351 S1 1 99 v4 S2) (c8 : 0 ≤ v3) (c9 : v3 < 260) (S3 : fx_S) (d3 : S3 = (fx_up S2.1 72 v3 v4, S2.2)) (v5 : Int) (S4 : fx_S) (k4 : fx_Sok S4) (b5 : -2147483648 ≤ v5 ∧ v5 ≤ 2147483647) (p4 : s352 S3 59 v5 S4) (c10 : v5 = 0) (v6 : Int) (S5 : fx_S) (k5 : fx_Sok S5) (b6 : v6 = 0) (p5 : s226 S4 1 v6 S5) (v7 : Int) (e7 : v7 = S5.1 66 12) (b7 : -2147483648 ≤ v7 ∧ v7 ≤ 2147483647) (c11 : v7 = 0) (v8 : Int) (S6 : fx_S) (k6 : fx_Sok S6) (b8 : v8 = 0) (p6 : s120 S5  v8 S6) : s305 S x1 x2 x3 0 S6 := by
  obtain ⟨r2, f2, p2⟩ := p2
  obtain rfl : S3 = S4 := p4
  obtain ⟨r5, f5, p5⟩ := p5
  obtain ⟨r6, f6⟩ := p6
  refine ⟨(r6).trans ((r5).trans (((show S3.2 = S2.2 by rw [d3])).trans ((r2).trans ((show S1.2 = S.2 by rw [d1]))))), ?_, ?_⟩
  · intro p i hW
    clear b8 c11 b7 e7 b6 c10 b5 c9 c8 b4 c7 e3 c6 c5 c4 c3 c2 c1
    exact ((f6 p i (by omega))).trans (((f5 p i (by omega))).trans (((show S3.1 p i = S2.1 p i by rw [d3]; exact if_neg (by omega))).trans (((f2 p i (by omega))).trans ((show S1.1 p i = S.1 p i by rw [d1]; exact if_neg (by omega))))))
  · skip
    intro a0 a1 a2 a3
    have h3 := e3
    first | rw [fx_add_eq (by omega) (by omega)] at h3 | skip
    refine ⟨fun h => ?_, fun i hi => (((f6 72 (i) (by omega))).trans (((f5 72 (i) (by omega))).trans (((show S3.1 72 (i) = S2.1 72 (i) by rw [d3]; first | exact if_neg (by omega) | rfl)).trans (((f2 72 (i) (by omega))).trans ((show S1.1 72 (i) = S.1 72 (i) by rw [d1]; first | exact if_neg (by omega) | rfl))))))⟩
    rw [show S6.1 72 (x1) = S1.1 72 (x1) from (((f6 72 (x1) (by omega))).trans (((f5 72 (x1) (by omega))).trans (((show S3.1 72 (x1) = S2.1 72 (x1) by rw [d3]; first | exact if_neg (by omega) | rfl)).trans ((f2 72 (x1) (by omega)))))), show S1.1 72 (x1) = x2 by rw [d1]; first | exact if_pos ⟨rfl, rfl⟩ | rfl] at h
    omega
theorem q305_8 (S : fx_S) (x1 x2 x3 : Int) (hS : fx_Sok S) (g1 : -2147483648 ≤ x1 ∧ x1 ≤ 2147483647) (g2 : -2147483648 ≤ x2 ∧ x2 ≤ 2147483647) (g3 : -2147483648 ≤ x3 ∧ x3 ≤ 2147483647) (c1 : 16 ≤ x3) (c2 : 0 ≤ x1) (c3 : x1 < 260) (S1 : fx_S) (d1 : S1 = (fx_up S.1 72 x1 x2, S.2)) (c4 : x2 ≠ 0) (c5 : x2 ≠ 1) (c6 : x2 = 2) (v3 : Int) (e3 : v3 = fx_add x1 1) (v4 : Int) (S2 : fx_S) (k2 : fx_Sok S2) (b4 : -2147483648 ≤ v4 ∧ v4 ≤ 2147483647) (p2 : s304 S1 13 v4 S2) (c7 : v4 = 0) (c8 : 0 ≤ v3) (c9 : v3 < 260) (S3 : fx_S) (d3 : S3 = (fx_up S2.1 72 v3 0, S2.2)) (v5 : Int) (S4 : fx_S) (k4 : fx_Sok S4) (b5 : -2147483648 ≤ v5 ∧ v5 ≤ 2147483647) (p4 : s353 S3 12 v5 S4) (c10 : v5 ≠ 0) (v6 : Int) (S5 : fx_S) (k5 : fx_Sok S5) (b6 : -2147483648 ≤ v6 ∧ v6 ≤ 2147483647) (p5 : s352 S4 59 v6 S5) (c11 : v6 ≠ 0) (v7 : Int) (e7 : v7 = S5.1 66 12) (b7 : -2147483648 ≤ v7 ∧ v7 ≤ 2147483647) (c12 : v7 ≠ 0) : s305 S x1 x2 x3 0 S5 := by
  obtain rfl : S1 = S2 := p2
  obtain ⟨r4, f4⟩ := p4
  obtain rfl : S4 = S5 := p5
  refine ⟨(r4).trans (((show S3.2 = S1.2 by rw [d3])).trans ((show S1.2 = S.2 by rw [d1]))), ?_, ?_⟩
  · intro p i hW
    clear c12 b7 e7 c11 b6 c10 b5 c9 c8 c7 b4 e3 c6 c5 c4 c3 c2 c1
    exact ((f4 p i (by omega))).trans (((show S3.1 p i = S1.1 p i by rw [d3]; exact if_neg (by omega))).trans ((show S1.1 p i = S.1 p i by rw [d1]; exact if_neg (by omega))))
  · skip
    intro a0 a1 a2 a3
    have h3 := e3
    first | rw [fx_add_eq (by omega) (by omega)] at h3 | skip
    rw [f4 66 12 (by omega)] at e7
    have t7_3 : S3.1 66 12 = S1.1 66 12 := by rw [d3]; first | exact if_neg (by omega) | rfl
    rw [t7_3] at e7
    have t7_1 : S1.1 66 12 = S.1 66 12 := by rw [d1]; first | exact if_neg (by omega) | rfl
    rw [t7_1] at e7
    refine ⟨fun h => ?_, fun i hi => (((f4 72 (i) (by omega))).trans (((show S3.1 72 (i) = S1.1 72 (i) by rw [d3]; first | exact if_neg (by omega) | rfl)).trans ((show S1.1 72 (i) = S.1 72 (i) by rw [d1]; first | exact if_neg (by omega) | rfl))))⟩
    rw [show S4.1 72 (x1) = S1.1 72 (x1) from (((f4 72 (x1) (by omega))).trans ((show S3.1 72 (x1) = S1.1 72 (x1) by rw [d3]; first | exact if_neg (by omega) | rfl))), show S1.1 72 (x1) = x2 by rw [d1]; first | exact if_pos ⟨rfl, rfl⟩ | rfl] at h
    omega
theorem q305_9 (S : fx_S) (x1 x2 x3 : Int) (hS : fx_Sok S) (g1 : -2147483648 ≤ x1 ∧ x1 ≤ 2147483647) (g2 : -2147483648 ≤ x2 ∧ x2 ≤ 2147483647) (g3 : -2147483648 ≤ x3 ∧ x3 ≤ 2147483647) (c1 : 16 ≤ x3) (c2 : 0 ≤ x1) (c3 : x1 < 260) (S1 : fx_S) (d1 : S1 = (fx_up S.1 72 x1 x2, S.2)) (c4 : x2 ≠ 0) (c5 : x2 ≠ 1) (c6 : x2 = 2) (v3 : Int) (e3 : v3 = fx_add x1 1) (v4 : Int) (S2 : fx_S) (k2 : fx_Sok S2) (b4 : -2147483648 ≤ v4 ∧ v4 ≤ 2147483647) (p2 : s304 S1 13 v4 S2) (c7 : v4 = 0) (c8 : 0 ≤ v3) (c9 : v3 < 260) (S3 : fx_S) (d3 : S3 = (fx_up S2.1 72 v3 0, S2.2)) (v5 : Int) (S4 : fx_S) (k4 : fx_Sok S4) (b5 : -2147483648 ≤ v5 ∧ v5 ≤ 2147483647) (p4 : s353 S3 12 v5 S4) (c10 : v5 ≠ 0) (v6 : Int) (S5 : fx_S) (k5 : fx_Sok S5) (b6 : -2147483648 ≤ v6 ∧ v6 ≤ 2147483647) (p5 : s352 S4 59 v6 S5) (c11 : v6 ≠ 0) (v7 : Int) (e7 : v7 = S5.1 66 12) (b7 : -2147483648 ≤ v7 ∧ v7 ≤ 2147483647) (c12 : v7 = 0) (v8 : Int) (S6 : fx_S) (k6 : fx_Sok S6) (b8 : v8 = 0) (p6 : s120 S5  v8 S6) : s305 S x1 x2 x3 0 S6 := by
  obtain rfl : S1 = S2 := p2
  obtain ⟨r4, f4⟩ := p4
  obtain rfl : S4 = S5 := p5
  obtain ⟨r6, f6⟩ := p6
  refine ⟨(r6).trans ((r4).trans (((show S3.2 = S1.2 by rw [d3])).trans ((show S1.2 = S.2 by rw [d1])))), ?_, ?_⟩
  · intro p i hW
    clear b8 c12 b7 e7 c11 b6 c10 b5 c9 c8 c7 b4 e3 c6 c5 c4 c3 c2 c1
    exact ((f6 p i (by omega))).trans (((f4 p i (by omega))).trans (((show S3.1 p i = S1.1 p i by rw [d3]; exact if_neg (by omega))).trans ((show S1.1 p i = S.1 p i by rw [d1]; exact if_neg (by omega)))))
  · skip
    intro a0 a1 a2 a3
    have h3 := e3
    first | rw [fx_add_eq (by omega) (by omega)] at h3 | skip
    rw [f4 66 12 (by omega)] at e7
    have t7_3 : S3.1 66 12 = S1.1 66 12 := by rw [d3]; first | exact if_neg (by omega) | rfl
    rw [t7_3] at e7
    have t7_1 : S1.1 66 12 = S.1 66 12 := by rw [d1]; first | exact if_neg (by omega) | rfl
    rw [t7_1] at e7
    refine ⟨fun h => ?_, fun i hi => (((f6 72 (i) (by omega))).trans (((f4 72 (i) (by omega))).trans (((show S3.1 72 (i) = S1.1 72 (i) by rw [d3]; first | exact if_neg (by omega) | rfl)).trans ((show S1.1 72 (i) = S.1 72 (i) by rw [d1]; first | exact if_neg (by omega) | rfl)))))⟩
    rw [show S6.1 72 (x1) = S1.1 72 (x1) from (((f6 72 (x1) (by omega))).trans (((f4 72 (x1) (by omega))).trans ((show S3.1 72 (x1) = S1.1 72 (x1) by rw [d3]; first | exact if_neg (by omega) | rfl)))), show S1.1 72 (x1) = x2 by rw [d1]; first | exact if_pos ⟨rfl, rfl⟩ | rfl] at h
    omega
theorem q305_10 (S : fx_S) (x1 x2 x3 : Int) (hS : fx_Sok S) (g1 : -2147483648 ≤ x1 ∧ x1 ≤ 2147483647) (g2 : -2147483648 ≤ x2 ∧ x2 ≤ 2147483647) (g3 : -2147483648 ≤ x3 ∧ x3 ≤ 2147483647) (c1 : 16 ≤ x3) (c2 : 0 ≤ x1) (c3 : x1 < 260) (S1 : fx_S) (d1 : S1 = (fx_up S.1 72 x1 x2, S.2)) (c4 : x2 ≠ 0) (c5 : x2 ≠ 1) (c6 : x2 = 2) (v3 : Int) (e3 : v3 = fx_add x1 1) (v4 : Int) (S2 : fx_S) (k2 : fx_Sok S2) (b4 : -2147483648 ≤ v4 ∧ v4 ≤ 2147483647) (p2 : s304 S1 13 v4 S2) (c7 : v4 = 0) (c8 : 0 ≤ v3) (c9 : v3 < 260) (S3 : fx_S) (d3 : S3 = (fx_up S2.1 72 v3 0, S2.2)) (v5 : Int) (S4 : fx_S) (k4 : fx_Sok S4) (b5 : -2147483648 ≤ v5 ∧ v5 ≤ 2147483647) (p4 : s353 S3 12 v5 S4) (c10 : v5 ≠ 0) (v6 : Int) (S5 : fx_S) (k5 : fx_Sok S5) (b6 : -2147483648 ≤ v6 ∧ v6 ≤ 2147483647) (p5 : s352 S4 59 v6 S5) (c11 : v6 = 0) (v7 : Int) (S6 : fx_S) (k6 : fx_Sok S6) (b7 : v7 = 0) (p6 : s226 S5 1 v7 S6) (v8 : Int) (e8 : v8 = S6.1 66 12) (b8 : -2147483648 ≤ v8 ∧ v8 ≤ 2147483647) (c12 : v8 ≠ 0) : s305 S x1 x2 x3 0 S6 := by
  obtain rfl : S1 = S2 := p2
  obtain ⟨r4, f4⟩ := p4
  obtain rfl : S4 = S5 := p5
  obtain ⟨r6, f6, p6⟩ := p6
  refine ⟨(r6).trans ((r4).trans (((show S3.2 = S1.2 by rw [d3])).trans ((show S1.2 = S.2 by rw [d1])))), ?_, ?_⟩
  · intro p i hW
    clear c12 b8 e8 b7 c11 b6 c10 b5 c9 c8 c7 b4 e3 c6 c5 c4 c3 c2 c1
    exact ((f6 p i (by omega))).trans (((f4 p i (by omega))).trans (((show S3.1 p i = S1.1 p i by rw [d3]; exact if_neg (by omega))).trans ((show S1.1 p i = S.1 p i by rw [d1]; exact if_neg (by omega)))))
  · skip
    intro a0 a1 a2 a3
    have h3 := e3
    first | rw [fx_add_eq (by omega) (by omega)] at h3 | skip
    refine ⟨fun h => ?_, fun i hi => (((f6 72 (i) (by omega))).trans (((f4 72 (i) (by omega))).trans (((show S3.1 72 (i) = S1.1 72 (i) by rw [d3]; first | exact if_neg (by omega) | rfl)).trans ((show S1.1 72 (i) = S.1 72 (i) by rw [d1]; first | exact if_neg (by omega) | rfl)))))⟩
    rw [show S6.1 72 (x1) = S1.1 72 (x1) from (((f6 72 (x1) (by omega))).trans (((f4 72 (x1) (by omega))).trans ((show S3.1 72 (x1) = S1.1 72 (x1) by rw [d3]; first | exact if_neg (by omega) | rfl)))), show S1.1 72 (x1) = x2 by rw [d1]; first | exact if_pos ⟨rfl, rfl⟩ | rfl] at h
    omega
theorem q305_11 (S : fx_S) (x1 x2 x3 : Int) (hS : fx_Sok S) (g1 : -2147483648 ≤ x1 ∧ x1 ≤ 2147483647) (g2 : -2147483648 ≤ x2 ∧ x2 ≤ 2147483647) (g3 : -2147483648 ≤ x3 ∧ x3 ≤ 2147483647) (c1 : 16 ≤ x3) (c2 : 0 ≤ x1) (c3 : x1 < 260) (S1 : fx_S) (d1 : S1 = (fx_up S.1 72 x1 x2, S.2)) (c4 : x2 ≠ 0) (c5 : x2 ≠ 1) (c6 : x2 = 2) (v3 : Int) (e3 : v3 = fx_add x1 1) (v4 : Int) (S2 : fx_S) (k2 : fx_Sok S2) (b4 : -2147483648 ≤ v4 ∧ v4 ≤ 2147483647) (p2 : s304 S1 13 v4 S2) (c7 : v4 = 0) (c8 : 0 ≤ v3) (c9 : v3 < 260) (S3 : fx_S) (d3 : S3 = (fx_up S2.1 72 v3 0, S2.2)) (v5 : Int) (S4 : fx_S) (k4 : fx_Sok S4) (b5 : -2147483648 ≤ v5 ∧ v5 ≤ 2147483647) (p4 : s353 S3 12 v5 S4) (c10 : v5 ≠ 0) (v6 : Int) (S5 : fx_S) (k5 : fx_Sok S5) (b6 : -2147483648 ≤ v6 ∧ v6 ≤ 2147483647) (p5 : s352 S4 59 v6 S5) (c11 : v6 = 0) (v7 : Int) (S6 : fx_S) (k6 : fx_Sok S6) (b7 : v7 = 0) (p6 : s226 S5 1 v7 S6) (v8 : Int) (e8 : v8 = S6.1 66 12) (b8 : -2147483648 ≤ v8 ∧ v8 ≤ 2147483647) (c12 : v8 = 0) (v9 : Int) (S7 : fx_S) (k7 : fx_Sok S7) (b9 : v9 = 0) (p7 : s120 S6  v9 S7) : s305 S x1 x2 x3 0 S7 := by
  obtain rfl : S1 = S2 := p2
  obtain ⟨r4, f4⟩ := p4
  obtain rfl : S4 = S5 := p5
  obtain ⟨r6, f6, p6⟩ := p6
  obtain ⟨r7, f7⟩ := p7
  refine ⟨(r7).trans ((r6).trans ((r4).trans (((show S3.2 = S1.2 by rw [d3])).trans ((show S1.2 = S.2 by rw [d1]))))), ?_, ?_⟩
  · intro p i hW
    clear b9 c12 b8 e8 b7 c11 b6 c10 b5 c9 c8 c7 b4 e3 c6 c5 c4 c3 c2 c1
    exact ((f7 p i (by omega))).trans (((f6 p i (by omega))).trans (((f4 p i (by omega))).trans (((show S3.1 p i = S1.1 p i by rw [d3]; exact if_neg (by omega))).trans ((show S1.1 p i = S.1 p i by rw [d1]; exact if_neg (by omega))))))
  · skip
    intro a0 a1 a2 a3
    have h3 := e3
    first | rw [fx_add_eq (by omega) (by omega)] at h3 | skip
    refine ⟨fun h => ?_, fun i hi => (((f7 72 (i) (by omega))).trans (((f6 72 (i) (by omega))).trans (((f4 72 (i) (by omega))).trans (((show S3.1 72 (i) = S1.1 72 (i) by rw [d3]; first | exact if_neg (by omega) | rfl)).trans ((show S1.1 72 (i) = S.1 72 (i) by rw [d1]; first | exact if_neg (by omega) | rfl))))))⟩
    rw [show S7.1 72 (x1) = S1.1 72 (x1) from (((f7 72 (x1) (by omega))).trans (((f6 72 (x1) (by omega))).trans (((f4 72 (x1) (by omega))).trans ((show S3.1 72 (x1) = S1.1 72 (x1) by rw [d3]; first | exact if_neg (by omega) | rfl))))), show S1.1 72 (x1) = x2 by rw [d1]; first | exact if_pos ⟨rfl, rfl⟩ | rfl] at h
    omega
theorem q305_12 (S : fx_S) (x1 x2 x3 : Int) (hS : fx_Sok S) (g1 : -2147483648 ≤ x1 ∧ x1 ≤ 2147483647) (g2 : -2147483648 ≤ x2 ∧ x2 ≤ 2147483647) (g3 : -2147483648 ≤ x3 ∧ x3 ≤ 2147483647) (c1 : 16 ≤ x3) (c2 : 0 ≤ x1) (c3 : x1 < 260) (S1 : fx_S) (d1 : S1 = (fx_up S.1 72 x1 x2, S.2)) (c4 : x2 ≠ 0) (c5 : x2 ≠ 1) (c6 : x2 = 2) (v3 : Int) (e3 : v3 = fx_add x1 1) (v4 : Int) (S2 : fx_S) (k2 : fx_Sok S2) (b4 : -2147483648 ≤ v4 ∧ v4 ≤ 2147483647) (p2 : s304 S1 13 v4 S2) (c7 : v4 = 0) (c8 : 0 ≤ v3) (c9 : v3 < 260) (S3 : fx_S) (d3 : S3 = (fx_up S2.1 72 v3 0, S2.2)) (v5 : Int) (S4 : fx_S) (k4 : fx_Sok S4) (b5 : -2147483648 ≤ v5 ∧ v5 ≤ 2147483647) (p4 : s353 S3 12 v5 S4) (c10 : v5 = 0) (v6 : Int) (S5 : fx_S) (k5 : fx_Sok S5) (b6 : -2147483648 ≤ v6 ∧ v6 ≤ 2147483647) (p5 : s353 S4 13 v6 S5) (c11 : v6 ≠ 0) (v7 : Int) (S6 : fx_S) (k6 : fx_Sok S6) (b7 : -2147483648 ≤ v7 ∧ v7 ≤ 2147483647) (p6 : s352 S5 59 v7 S6) (c12 : v7 ≠ 0) (v8 : Int) (e8 : v8 = S6.1 66 12) (b8 : -2147483648 ≤ v8 ∧ v8 ≤ 2147483647) (c13 : v8 ≠ 0) : s305 S x1 x2 x3 0 S6 := by
  obtain rfl : S1 = S2 := p2
  obtain ⟨r4, f4⟩ := p4
  obtain ⟨r5, f5⟩ := p5
  obtain rfl : S5 = S6 := p6
  refine ⟨(r5).trans ((r4).trans (((show S3.2 = S1.2 by rw [d3])).trans ((show S1.2 = S.2 by rw [d1])))), ?_, ?_⟩
  · intro p i hW
    clear c13 b8 e8 c12 b7 c11 b6 c10 b5 c9 c8 c7 b4 e3 c6 c5 c4 c3 c2 c1
    exact ((f5 p i (by omega))).trans (((f4 p i (by omega))).trans (((show S3.1 p i = S1.1 p i by rw [d3]; exact if_neg (by omega))).trans ((show S1.1 p i = S.1 p i by rw [d1]; exact if_neg (by omega)))))
  · skip
    intro a0 a1 a2 a3
    have h3 := e3
    first | rw [fx_add_eq (by omega) (by omega)] at h3 | skip
    rw [f5 66 12 (by omega)] at e8
    rw [f4 66 12 (by omega)] at e8
    have t8_3 : S3.1 66 12 = S1.1 66 12 := by rw [d3]; first | exact if_neg (by omega) | rfl
    rw [t8_3] at e8
    have t8_1 : S1.1 66 12 = S.1 66 12 := by rw [d1]; first | exact if_neg (by omega) | rfl
    rw [t8_1] at e8
    refine ⟨fun h => ?_, fun i hi => (((f5 72 (i) (by omega))).trans (((f4 72 (i) (by omega))).trans (((show S3.1 72 (i) = S1.1 72 (i) by rw [d3]; first | exact if_neg (by omega) | rfl)).trans ((show S1.1 72 (i) = S.1 72 (i) by rw [d1]; first | exact if_neg (by omega) | rfl)))))⟩
    rw [show S5.1 72 (x1) = S1.1 72 (x1) from (((f5 72 (x1) (by omega))).trans (((f4 72 (x1) (by omega))).trans ((show S3.1 72 (x1) = S1.1 72 (x1) by rw [d3]; first | exact if_neg (by omega) | rfl)))), show S1.1 72 (x1) = x2 by rw [d1]; first | exact if_pos ⟨rfl, rfl⟩ | rfl] at h
    omega
theorem q305_13 (S : fx_S) (x1 x2 x3 : Int) (hS : fx_Sok S) (g1 : -2147483648 ≤ x1 ∧ x1 ≤ 2147483647) (g2 : -2147483648 ≤ x2 ∧ x2 ≤ 2147483647) (g3 : -2147483648 ≤ x3 ∧ x3 ≤ 2147483647) (c1 : 16 ≤ x3) (c2 : 0 ≤ x1) (c3 : x1 < 260) (S1 : fx_S) (d1 : S1 = (fx_up S.1 72 x1 x2, S.2)) (c4 : x2 ≠ 0) (c5 : x2 ≠ 1) (c6 : x2 = 2) (v3 : Int) (e3 : v3 = fx_add x1 1) (v4 : Int) (S2 : fx_S) (k2 : fx_Sok S2) (b4 : -2147483648 ≤ v4 ∧ v4 ≤ 2147483647) (p2 : s304 S1 13 v4 S2) (c7 : v4 = 0) (c8 : 0 ≤ v3) (c9 : v3 < 260) (S3 : fx_S) (d3 : S3 = (fx_up S2.1 72 v3 0, S2.2)) (v5 : Int) (S4 : fx_S) (k4 : fx_Sok S4) (b5 : -2147483648 ≤ v5 ∧ v5 ≤ 2147483647) (p4 : s353 S3 12 v5 S4) (c10 : v5 = 0) (v6 : Int) (S5 : fx_S) (k5 : fx_Sok S5) (b6 : -2147483648 ≤ v6 ∧ v6 ≤ 2147483647) (p5 : s353 S4 13 v6 S5) (c11 : v6 ≠ 0) (v7 : Int) (S6 : fx_S) (k6 : fx_Sok S6) (b7 : -2147483648 ≤ v7 ∧ v7 ≤ 2147483647) (p6 : s352 S5 59 v7 S6) (c12 : v7 ≠ 0) (v8 : Int) (e8 : v8 = S6.1 66 12) (b8 : -2147483648 ≤ v8 ∧ v8 ≤ 2147483647) (c13 : v8 = 0) (v9 : Int) (S7 : fx_S) (k7 : fx_Sok S7) (b9 : v9 = 0) (p7 : s120 S6  v9 S7) : s305 S x1 x2 x3 0 S7 := by
  obtain rfl : S1 = S2 := p2
  obtain ⟨r4, f4⟩ := p4
  obtain ⟨r5, f5⟩ := p5
  obtain rfl : S5 = S6 := p6
  obtain ⟨r7, f7⟩ := p7
  refine ⟨(r7).trans ((r5).trans ((r4).trans (((show S3.2 = S1.2 by rw [d3])).trans ((show S1.2 = S.2 by rw [d1]))))), ?_, ?_⟩
  · intro p i hW
    clear b9 c13 b8 e8 c12 b7 c11 b6 c10 b5 c9 c8 c7 b4 e3 c6 c5 c4 c3 c2 c1
    exact ((f7 p i (by omega))).trans (((f5 p i (by omega))).trans (((f4 p i (by omega))).trans (((show S3.1 p i = S1.1 p i by rw [d3]; exact if_neg (by omega))).trans ((show S1.1 p i = S.1 p i by rw [d1]; exact if_neg (by omega))))))
  · skip
    intro a0 a1 a2 a3
    have h3 := e3
    first | rw [fx_add_eq (by omega) (by omega)] at h3 | skip
    rw [f5 66 12 (by omega)] at e8
    rw [f4 66 12 (by omega)] at e8
    have t8_3 : S3.1 66 12 = S1.1 66 12 := by rw [d3]; first | exact if_neg (by omega) | rfl
    rw [t8_3] at e8
    have t8_1 : S1.1 66 12 = S.1 66 12 := by rw [d1]; first | exact if_neg (by omega) | rfl
    rw [t8_1] at e8
    refine ⟨fun h => ?_, fun i hi => (((f7 72 (i) (by omega))).trans (((f5 72 (i) (by omega))).trans (((f4 72 (i) (by omega))).trans (((show S3.1 72 (i) = S1.1 72 (i) by rw [d3]; first | exact if_neg (by omega) | rfl)).trans ((show S1.1 72 (i) = S.1 72 (i) by rw [d1]; first | exact if_neg (by omega) | rfl))))))⟩
    rw [show S7.1 72 (x1) = S1.1 72 (x1) from (((f7 72 (x1) (by omega))).trans (((f5 72 (x1) (by omega))).trans (((f4 72 (x1) (by omega))).trans ((show S3.1 72 (x1) = S1.1 72 (x1) by rw [d3]; first | exact if_neg (by omega) | rfl))))), show S1.1 72 (x1) = x2 by rw [d1]; first | exact if_pos ⟨rfl, rfl⟩ | rfl] at h
    omega
theorem q305_14 (S : fx_S) (x1 x2 x3 : Int) (hS : fx_Sok S) (g1 : -2147483648 ≤ x1 ∧ x1 ≤ 2147483647) (g2 : -2147483648 ≤ x2 ∧ x2 ≤ 2147483647) (g3 : -2147483648 ≤ x3 ∧ x3 ≤ 2147483647) (c1 : 16 ≤ x3) (c2 : 0 ≤ x1) (c3 : x1 < 260) (S1 : fx_S) (d1 : S1 = (fx_up S.1 72 x1 x2, S.2)) (c4 : x2 ≠ 0) (c5 : x2 ≠ 1) (c6 : x2 = 2) (v3 : Int) (e3 : v3 = fx_add x1 1) (v4 : Int) (S2 : fx_S) (k2 : fx_Sok S2) (b4 : -2147483648 ≤ v4 ∧ v4 ≤ 2147483647) (p2 : s304 S1 13 v4 S2) (c7 : v4 = 0) (c8 : 0 ≤ v3) (c9 : v3 < 260) (S3 : fx_S) (d3 : S3 = (fx_up S2.1 72 v3 0, S2.2)) (v5 : Int) (S4 : fx_S) (k4 : fx_Sok S4) (b5 : -2147483648 ≤ v5 ∧ v5 ≤ 2147483647) (p4 : s353 S3 12 v5 S4) (c10 : v5 = 0) (v6 : Int) (S5 : fx_S) (k5 : fx_Sok S5) (b6 : -2147483648 ≤ v6 ∧ v6 ≤ 2147483647) (p5 : s353 S4 13 v6 S5) (c11 : v6 ≠ 0) (v7 : Int) (S6 : fx_S) (k6 : fx_Sok S6) (b7 : -2147483648 ≤ v7 ∧ v7 ≤ 2147483647) (p6 : s352 S5 59 v7 S6) (c12 : v7 = 0) (v8 : Int) (S7 : fx_S) (k7 : fx_Sok S7) (b8 : v8 = 0) (p7 : s226 S6 1 v8 S7) (v9 : Int) (e9 : v9 = S7.1 66 12) (b9 : -2147483648 ≤ v9 ∧ v9 ≤ 2147483647) (c13 : v9 ≠ 0) : s305 S x1 x2 x3 0 S7 := by
  obtain rfl : S1 = S2 := p2
  obtain ⟨r4, f4⟩ := p4
  obtain ⟨r5, f5⟩ := p5
  obtain rfl : S5 = S6 := p6
  obtain ⟨r7, f7, p7⟩ := p7
  refine ⟨(r7).trans ((r5).trans ((r4).trans (((show S3.2 = S1.2 by rw [d3])).trans ((show S1.2 = S.2 by rw [d1]))))), ?_, ?_⟩
  · intro p i hW
    clear c13 b9 e9 b8 c12 b7 c11 b6 c10 b5 c9 c8 c7 b4 e3 c6 c5 c4 c3 c2 c1
    exact ((f7 p i (by omega))).trans (((f5 p i (by omega))).trans (((f4 p i (by omega))).trans (((show S3.1 p i = S1.1 p i by rw [d3]; exact if_neg (by omega))).trans ((show S1.1 p i = S.1 p i by rw [d1]; exact if_neg (by omega))))))
  · skip
    intro a0 a1 a2 a3
    have h3 := e3
    first | rw [fx_add_eq (by omega) (by omega)] at h3 | skip
    refine ⟨fun h => ?_, fun i hi => (((f7 72 (i) (by omega))).trans (((f5 72 (i) (by omega))).trans (((f4 72 (i) (by omega))).trans (((show S3.1 72 (i) = S1.1 72 (i) by rw [d3]; first | exact if_neg (by omega) | rfl)).trans ((show S1.1 72 (i) = S.1 72 (i) by rw [d1]; first | exact if_neg (by omega) | rfl))))))⟩
    rw [show S7.1 72 (x1) = S1.1 72 (x1) from (((f7 72 (x1) (by omega))).trans (((f5 72 (x1) (by omega))).trans (((f4 72 (x1) (by omega))).trans ((show S3.1 72 (x1) = S1.1 72 (x1) by rw [d3]; first | exact if_neg (by omega) | rfl))))), show S1.1 72 (x1) = x2 by rw [d1]; first | exact if_pos ⟨rfl, rfl⟩ | rfl] at h
    omega
theorem q305_15 (S : fx_S) (x1 x2 x3 : Int) (hS : fx_Sok S) (g1 : -2147483648 ≤ x1 ∧ x1 ≤ 2147483647) (g2 : -2147483648 ≤ x2 ∧ x2 ≤ 2147483647) (g3 : -2147483648 ≤ x3 ∧ x3 ≤ 2147483647) (c1 : 16 ≤ x3) (c2 : 0 ≤ x1) (c3 : x1 < 260) (S1 : fx_S) (d1 : S1 = (fx_up S.1 72 x1 x2, S.2)) (c4 : x2 ≠ 0) (c5 : x2 ≠ 1) (c6 : x2 = 2) (v3 : Int) (e3 : v3 = fx_add x1 1) (v4 : Int) (S2 : fx_S) (k2 : fx_Sok S2) (b4 : -2147483648 ≤ v4 ∧ v4 ≤ 2147483647) (p2 : s304 S1 13 v4 S2) (c7 : v4 = 0) (c8 : 0 ≤ v3) (c9 : v3 < 260) (S3 : fx_S) (d3 : S3 = (fx_up S2.1 72 v3 0, S2.2)) (v5 : Int) (S4 : fx_S) (k4 : fx_Sok S4) (b5 : -2147483648 ≤ v5 ∧ v5 ≤ 2147483647) (p4 : s353 S3 12 v5 S4) (c10 : v5 = 0) (v6 : Int) (S5 : fx_S) (k5 : fx_Sok S5) (b6 : -2147483648 ≤ v6 ∧ v6 ≤ 2147483647) (p5 : s353 S4 13 v6 S5) (c11 : v6 ≠ 0) (v7 : Int) (S6 : fx_S) (k6 : fx_Sok S6) (b7 : -2147483648 ≤ v7 ∧ v7 ≤ 2147483647) (p6 : s352 S5 59 v7 S6) (c12 : v7 = 0) (v8 : Int) (S7 : fx_S) (k7 : fx_Sok S7) (b8 : v8 = 0) (p7 : s226 S6 1 v8 S7) (v9 : Int) (e9 : v9 = S7.1 66 12) (b9 : -2147483648 ≤ v9 ∧ v9 ≤ 2147483647) (c13 : v9 = 0) (v10 : Int) (S8 : fx_S) (k8 : fx_Sok S8) (b10 : v10 = 0) (p8 : s120 S7  v10 S8) : s305 S x1 x2 x3 0 S8 := by
  obtain rfl : S1 = S2 := p2
  obtain ⟨r4, f4⟩ := p4
  obtain ⟨r5, f5⟩ := p5
  obtain rfl : S5 = S6 := p6
  obtain ⟨r7, f7, p7⟩ := p7
  obtain ⟨r8, f8⟩ := p8
  refine ⟨(r8).trans ((r7).trans ((r5).trans ((r4).trans (((show S3.2 = S1.2 by rw [d3])).trans ((show S1.2 = S.2 by rw [d1])))))), ?_, ?_⟩
  · intro p i hW
    clear b10 c13 b9 e9 b8 c12 b7 c11 b6 c10 b5 c9 c8 c7 b4 e3 c6 c5 c4 c3 c2 c1
    exact ((f8 p i (by omega))).trans (((f7 p i (by omega))).trans (((f5 p i (by omega))).trans (((f4 p i (by omega))).trans (((show S3.1 p i = S1.1 p i by rw [d3]; exact if_neg (by omega))).trans ((show S1.1 p i = S.1 p i by rw [d1]; exact if_neg (by omega)))))))
  · skip
    intro a0 a1 a2 a3
    have h3 := e3
    first | rw [fx_add_eq (by omega) (by omega)] at h3 | skip
    refine ⟨fun h => ?_, fun i hi => (((f8 72 (i) (by omega))).trans (((f7 72 (i) (by omega))).trans (((f5 72 (i) (by omega))).trans (((f4 72 (i) (by omega))).trans (((show S3.1 72 (i) = S1.1 72 (i) by rw [d3]; first | exact if_neg (by omega) | rfl)).trans ((show S1.1 72 (i) = S.1 72 (i) by rw [d1]; first | exact if_neg (by omega) | rfl)))))))⟩
    rw [show S8.1 72 (x1) = S1.1 72 (x1) from (((f8 72 (x1) (by omega))).trans (((f7 72 (x1) (by omega))).trans (((f5 72 (x1) (by omega))).trans (((f4 72 (x1) (by omega))).trans ((show S3.1 72 (x1) = S1.1 72 (x1) by rw [d3]; first | exact if_neg (by omega) | rfl)))))), show S1.1 72 (x1) = x2 by rw [d1]; first | exact if_pos ⟨rfl, rfl⟩ | rfl] at h
    omega
theorem q305_16 (S : fx_S) (x1 x2 x3 : Int) (hS : fx_Sok S) (g1 : -2147483648 ≤ x1 ∧ x1 ≤ 2147483647) (g2 : -2147483648 ≤ x2 ∧ x2 ≤ 2147483647) (g3 : -2147483648 ≤ x3 ∧ x3 ≤ 2147483647) (c1 : 16 ≤ x3) (c2 : 0 ≤ x1) (c3 : x1 < 260) (S1 : fx_S) (d1 : S1 = (fx_up S.1 72 x1 x2, S.2)) (c4 : x2 ≠ 0) (c5 : x2 ≠ 1) (c6 : x2 = 2) (v3 : Int) (e3 : v3 = fx_add x1 1) (v4 : Int) (S2 : fx_S) (k2 : fx_Sok S2) (b4 : -2147483648 ≤ v4 ∧ v4 ≤ 2147483647) (p2 : s304 S1 13 v4 S2) (c7 : v4 = 0) (c8 : 0 ≤ v3) (c9 : v3 < 260) (S3 : fx_S) (d3 : S3 = (fx_up S2.1 72 v3 0, S2.2)) (v5 : Int) (S4 : fx_S) (k4 : fx_Sok S4) (b5 : -2147483648 ≤ v5 ∧ v5 ≤ 2147483647) (p4 : s353 S3 12 v5 S4) (c10 : v5 = 0) (v6 : Int) (S5 : fx_S) (k5 : fx_Sok S5) (b6 : -2147483648 ≤ v6 ∧ v6 ≤ 2147483647) (p5 : s353 S4 13 v6 S5) (c11 : v6 = 0) (v7 : Int) (S6 : fx_S) (k6 : fx_Sok S6) (b7 : v7 = 0) (p6 : s226 S5 1 v7 S6) (v8 : Int) (S7 : fx_S) (k7 : fx_Sok S7) (b8 : -2147483648 ≤ v8 ∧ v8 ≤ 2147483647) (p7 : s352 S6 59 v8 S7) (c12 : v8 ≠ 0) (v9 : Int) (e9 : v9 = S7.1 66 12) (b9 : -2147483648 ≤ v9 ∧ v9 ≤ 2147483647) (c13 : v9 ≠ 0) : s305 S x1 x2 x3 0 S7 := by
  obtain rfl : S1 = S2 := p2
  obtain ⟨r4, f4⟩ := p4
  obtain ⟨r5, f5⟩ := p5
  obtain ⟨r6, f6, p6⟩ := p6
  obtain rfl : S6 = S7 := p7
  refine ⟨(r6).trans ((r5).trans ((r4).trans (((show S3.2 = S1.2 by rw [d3])).trans ((show S1.2 = S.2 by rw [d1]))))), ?_, ?_⟩
  · intro p i hW
    clear c13 b9 e9 c12 b8 b7 c11 b6 c10 b5 c9 c8 c7 b4 e3 c6 c5 c4 c3 c2 c1
    exact ((f6 p i (by omega))).trans (((f5 p i (by omega))).trans (((f4 p i (by omega))).trans (((show S3.1 p i = S1.1 p i by rw [d3]; exact if_neg (by omega))).trans ((show S1.1 p i = S.1 p i by rw [d1]; exact if_neg (by omega))))))
  · skip
    intro a0 a1 a2 a3
    have h3 := e3
    first | rw [fx_add_eq (by omega) (by omega)] at h3 | skip
    refine ⟨fun h => ?_, fun i hi => (((f6 72 (i) (by omega))).trans (((f5 72 (i) (by omega))).trans (((f4 72 (i) (by omega))).trans (((show S3.1 72 (i) = S1.1 72 (i) by rw [d3]; first | exact if_neg (by omega) | rfl)).trans ((show S1.1 72 (i) = S.1 72 (i) by rw [d1]; first | exact if_neg (by omega) | rfl))))))⟩
    rw [show S6.1 72 (x1) = S1.1 72 (x1) from (((f6 72 (x1) (by omega))).trans (((f5 72 (x1) (by omega))).trans (((f4 72 (x1) (by omega))).trans ((show S3.1 72 (x1) = S1.1 72 (x1) by rw [d3]; first | exact if_neg (by omega) | rfl))))), show S1.1 72 (x1) = x2 by rw [d1]; first | exact if_pos ⟨rfl, rfl⟩ | rfl] at h
    omega
theorem q305_17 (S : fx_S) (x1 x2 x3 : Int) (hS : fx_Sok S) (g1 : -2147483648 ≤ x1 ∧ x1 ≤ 2147483647) (g2 : -2147483648 ≤ x2 ∧ x2 ≤ 2147483647) (g3 : -2147483648 ≤ x3 ∧ x3 ≤ 2147483647) (c1 : 16 ≤ x3) (c2 : 0 ≤ x1) (c3 : x1 < 260) (S1 : fx_S) (d1 : S1 = (fx_up S.1 72 x1 x2, S.2)) (c4 : x2 ≠ 0) (c5 : x2 ≠ 1) (c6 : x2 = 2) (v3 : Int) (e3 : v3 = fx_add x1 1) (v4 : Int) (S2 : fx_S) (k2 : fx_Sok S2) (b4 : -2147483648 ≤ v4 ∧ v4 ≤ 2147483647) (p2 : s304 S1 13 v4 S2) (c7 : v4 = 0) (c8 : 0 ≤ v3) (c9 : v3 < 260) (S3 : fx_S) (d3 : S3 = (fx_up S2.1 72 v3 0, S2.2)) (v5 : Int) (S4 : fx_S) (k4 : fx_Sok S4) (b5 : -2147483648 ≤ v5 ∧ v5 ≤ 2147483647) (p4 : s353 S3 12 v5 S4) (c10 : v5 = 0) (v6 : Int) (S5 : fx_S) (k5 : fx_Sok S5) (b6 : -2147483648 ≤ v6 ∧ v6 ≤ 2147483647) (p5 : s353 S4 13 v6 S5) (c11 : v6 = 0) (v7 : Int) (S6 : fx_S) (k6 : fx_Sok S6) (b7 : v7 = 0) (p6 : s226 S5 1 v7 S6) (v8 : Int) (S7 : fx_S) (k7 : fx_Sok S7) (b8 : -2147483648 ≤ v8 ∧ v8 ≤ 2147483647) (p7 : s352 S6 59 v8 S7) (c12 : v8 ≠ 0) (v9 : Int) (e9 : v9 = S7.1 66 12) (b9 : -2147483648 ≤ v9 ∧ v9 ≤ 2147483647) (c13 : v9 = 0) (v10 : Int) (S8 : fx_S) (k8 : fx_Sok S8) (b10 : v10 = 0) (p8 : s120 S7  v10 S8) : s305 S x1 x2 x3 0 S8 := by
  obtain rfl : S1 = S2 := p2
  obtain ⟨r4, f4⟩ := p4
  obtain ⟨r5, f5⟩ := p5
  obtain ⟨r6, f6, p6⟩ := p6
  obtain rfl : S6 = S7 := p7
  obtain ⟨r8, f8⟩ := p8
  refine ⟨(r8).trans ((r6).trans ((r5).trans ((r4).trans (((show S3.2 = S1.2 by rw [d3])).trans ((show S1.2 = S.2 by rw [d1])))))), ?_, ?_⟩
  · intro p i hW
    clear b10 c13 b9 e9 c12 b8 b7 c11 b6 c10 b5 c9 c8 c7 b4 e3 c6 c5 c4 c3 c2 c1
    exact ((f8 p i (by omega))).trans (((f6 p i (by omega))).trans (((f5 p i (by omega))).trans (((f4 p i (by omega))).trans (((show S3.1 p i = S1.1 p i by rw [d3]; exact if_neg (by omega))).trans ((show S1.1 p i = S.1 p i by rw [d1]; exact if_neg (by omega)))))))
  · skip
    intro a0 a1 a2 a3
    have h3 := e3
    first | rw [fx_add_eq (by omega) (by omega)] at h3 | skip
    refine ⟨fun h => ?_, fun i hi => (((f8 72 (i) (by omega))).trans (((f6 72 (i) (by omega))).trans (((f5 72 (i) (by omega))).trans (((f4 72 (i) (by omega))).trans (((show S3.1 72 (i) = S1.1 72 (i) by rw [d3]; first | exact if_neg (by omega) | rfl)).trans ((show S1.1 72 (i) = S.1 72 (i) by rw [d1]; first | exact if_neg (by omega) | rfl)))))))⟩
    rw [show S8.1 72 (x1) = S1.1 72 (x1) from (((f8 72 (x1) (by omega))).trans (((f6 72 (x1) (by omega))).trans (((f5 72 (x1) (by omega))).trans (((f4 72 (x1) (by omega))).trans ((show S3.1 72 (x1) = S1.1 72 (x1) by rw [d3]; first | exact if_neg (by omega) | rfl)))))), show S1.1 72 (x1) = x2 by rw [d1]; first | exact if_pos ⟨rfl, rfl⟩ | rfl] at h
    omega
theorem q305_18 (S : fx_S) (x1 x2 x3 : Int) (hS : fx_Sok S) (g1 : -2147483648 ≤ x1 ∧ x1 ≤ 2147483647) (g2 : -2147483648 ≤ x2 ∧ x2 ≤ 2147483647) (g3 : -2147483648 ≤ x3 ∧ x3 ≤ 2147483647) (c1 : 16 ≤ x3) (c2 : 0 ≤ x1) (c3 : x1 < 260) (S1 : fx_S) (d1 : S1 = (fx_up S.1 72 x1 x2, S.2)) (c4 : x2 ≠ 0) (c5 : x2 ≠ 1) (c6 : x2 = 2) (v3 : Int) (e3 : v3 = fx_add x1 1) (v4 : Int) (S2 : fx_S) (k2 : fx_Sok S2) (b4 : -2147483648 ≤ v4 ∧ v4 ≤ 2147483647) (p2 : s304 S1 13 v4 S2) (c7 : v4 = 0) (c8 : 0 ≤ v3) (c9 : v3 < 260) (S3 : fx_S) (d3 : S3 = (fx_up S2.1 72 v3 0, S2.2)) (v5 : Int) (S4 : fx_S) (k4 : fx_Sok S4) (b5 : -2147483648 ≤ v5 ∧ v5 ≤ 2147483647) (p4 : s353 S3 12 v5 S4) (c10 : v5 = 0) (v6 : Int) (S5 : fx_S) (k5 : fx_Sok S5) (b6 : -2147483648 ≤ v6 ∧ v6 ≤ 2147483647) (p5 : s353 S4 13 v6 S5) (c11 : v6 = 0) (v7 : Int) (S6 : fx_S) (k6 : fx_Sok S6) (b7 : v7 = 0) (p6 : s226 S5 1 v7 S6) (v8 : Int) (S7 : fx_S) (k7 : fx_Sok S7) (b8 : -2147483648 ≤ v8 ∧ v8 ≤ 2147483647) (p7 : s352 S6 59 v8 S7) (c12 : v8 = 0) (v9 : Int) (S8 : fx_S) (k8 : fx_Sok S8) (b9 : v9 = 0) (p8 : s226 S7 1 v9 S8) (v10 : Int) (e10 : v10 = S8.1 66 12) (b10 : -2147483648 ≤ v10 ∧ v10 ≤ 2147483647) (c13 : v10 ≠ 0) : s305 S x1 x2 x3 0 S8 := by
  obtain rfl : S1 = S2 := p2
  obtain ⟨r4, f4⟩ := p4
  obtain ⟨r5, f5⟩ := p5
  obtain ⟨r6, f6, p6⟩ := p6
  obtain rfl : S6 = S7 := p7
  obtain ⟨r8, f8, p8⟩ := p8
  refine ⟨(r8).trans ((r6).trans ((r5).trans ((r4).trans (((show S3.2 = S1.2 by rw [d3])).trans ((show S1.2 = S.2 by rw [d1])))))), ?_, ?_⟩
  · intro p i hW
    clear c13 b10 e10 b9 c12 b8 b7 c11 b6 c10 b5 c9 c8 c7 b4 e3 c6 c5 c4 c3 c2 c1
    exact ((f8 p i (by omega))).trans (((f6 p i (by omega))).trans (((f5 p i (by omega))).trans (((f4 p i (by omega))).trans (((show S3.1 p i = S1.1 p i by rw [d3]; exact if_neg (by omega))).trans ((show S1.1 p i = S.1 p i by rw [d1]; exact if_neg (by omega)))))))
  · skip
    intro a0 a1 a2 a3
    have h3 := e3
    first | rw [fx_add_eq (by omega) (by omega)] at h3 | skip
    refine ⟨fun h => ?_, fun i hi => (((f8 72 (i) (by omega))).trans (((f6 72 (i) (by omega))).trans (((f5 72 (i) (by omega))).trans (((f4 72 (i) (by omega))).trans (((show S3.1 72 (i) = S1.1 72 (i) by rw [d3]; first | exact if_neg (by omega) | rfl)).trans ((show S1.1 72 (i) = S.1 72 (i) by rw [d1]; first | exact if_neg (by omega) | rfl)))))))⟩
    rw [show S8.1 72 (x1) = S1.1 72 (x1) from (((f8 72 (x1) (by omega))).trans (((f6 72 (x1) (by omega))).trans (((f5 72 (x1) (by omega))).trans (((f4 72 (x1) (by omega))).trans ((show S3.1 72 (x1) = S1.1 72 (x1) by rw [d3]; first | exact if_neg (by omega) | rfl)))))), show S1.1 72 (x1) = x2 by rw [d1]; first | exact if_pos ⟨rfl, rfl⟩ | rfl] at h
    omega
theorem q305_19 (S : fx_S) (x1 x2 x3 : Int) (hS : fx_Sok S) (g1 : -2147483648 ≤ x1 ∧ x1 ≤ 2147483647) (g2 : -2147483648 ≤ x2 ∧ x2 ≤ 2147483647) (g3 : -2147483648 ≤ x3 ∧ x3 ≤ 2147483647) (c1 : 16 ≤ x3) (c2 : 0 ≤ x1) (c3 : x1 < 260) (S1 : fx_S) (d1 : S1 = (fx_up S.1 72 x1 x2, S.2)) (c4 : x2 ≠ 0) (c5 : x2 ≠ 1) (c6 : x2 = 2) (v3 : Int) (e3 : v3 = fx_add x1 1) (v4 : Int) (S2 : fx_S) (k2 : fx_Sok S2) (b4 : -2147483648 ≤ v4 ∧ v4 ≤ 2147483647) (p2 : s304 S1 13 v4 S2) (c7 : v4 = 0) (c8 : 0 ≤ v3) (c9 : v3 < 260) (S3 : fx_S) (d3 : S3 = (fx_up S2.1 72 v3 0, S2.2)) (v5 : Int) (S4 : fx_S) (k4 : fx_Sok S4) (b5 : -2147483648 ≤ v5 ∧ v5 ≤ 2147483647) (p4 : s353 S3 12 v5 S4) (c10 : v5 = 0) (v6 : Int) (S5 : fx_S) (k5 : fx_Sok S5) (b6 : -2147483648 ≤ v6 ∧ v6 ≤ 2147483647) (p5 : s353 S4 13 v6 S5) (c11 : v6 = 0) (v7 : Int) (S6 : fx_S) (k6 : fx_Sok S6) (b7 : v7 = 0) (p6 : s226 S5 1 v7 S6) (v8 : Int) (S7 : fx_S) (k7 : fx_Sok S7) (b8 : -2147483648 ≤ v8 ∧ v8 ≤ 2147483647) (p7 : s352 S6 59 v8 S7) (c12 : v8 = 0) (v9 : Int) (S8 : fx_S) (k8 : fx_Sok S8) (b9 : v9 = 0) (p8 : s226 S7 1 v9 S8) (v10 : Int) (e10 : v10 = S8.1 66 12) (b10 : -2147483648 ≤ v10 ∧ v10 ≤ 2147483647) (c13 : v10 = 0) (v11 : Int) (S9 : fx_S) (k9 : fx_Sok S9) (b11 : v11 = 0) (p9 : s120 S8  v11 S9) : s305 S x1 x2 x3 0 S9 := by
  obtain rfl : S1 = S2 := p2
  obtain ⟨r4, f4⟩ := p4
  obtain ⟨r5, f5⟩ := p5
  obtain ⟨r6, f6, p6⟩ := p6
  obtain rfl : S6 = S7 := p7
  obtain ⟨r8, f8, p8⟩ := p8
  obtain ⟨r9, f9⟩ := p9
  refine ⟨(r9).trans ((r8).trans ((r6).trans ((r5).trans ((r4).trans (((show S3.2 = S1.2 by rw [d3])).trans ((show S1.2 = S.2 by rw [d1]))))))), ?_, ?_⟩
  · intro p i hW
    clear b11 c13 b10 e10 b9 c12 b8 b7 c11 b6 c10 b5 c9 c8 c7 b4 e3 c6 c5 c4 c3 c2 c1
    exact ((f9 p i (by omega))).trans (((f8 p i (by omega))).trans (((f6 p i (by omega))).trans (((f5 p i (by omega))).trans (((f4 p i (by omega))).trans (((show S3.1 p i = S1.1 p i by rw [d3]; exact if_neg (by omega))).trans ((show S1.1 p i = S.1 p i by rw [d1]; exact if_neg (by omega))))))))
  · skip
    intro a0 a1 a2 a3
    have h3 := e3
    first | rw [fx_add_eq (by omega) (by omega)] at h3 | skip
    refine ⟨fun h => ?_, fun i hi => (((f9 72 (i) (by omega))).trans (((f8 72 (i) (by omega))).trans (((f6 72 (i) (by omega))).trans (((f5 72 (i) (by omega))).trans (((f4 72 (i) (by omega))).trans (((show S3.1 72 (i) = S1.1 72 (i) by rw [d3]; first | exact if_neg (by omega) | rfl)).trans ((show S1.1 72 (i) = S.1 72 (i) by rw [d1]; first | exact if_neg (by omega) | rfl))))))))⟩
    rw [show S9.1 72 (x1) = S1.1 72 (x1) from (((f9 72 (x1) (by omega))).trans (((f8 72 (x1) (by omega))).trans (((f6 72 (x1) (by omega))).trans (((f5 72 (x1) (by omega))).trans (((f4 72 (x1) (by omega))).trans ((show S3.1 72 (x1) = S1.1 72 (x1) by rw [d3]; first | exact if_neg (by omega) | rfl))))))), show S1.1 72 (x1) = x2 by rw [d1]; first | exact if_pos ⟨rfl, rfl⟩ | rfl] at h
    omega
theorem q305_20 (S : fx_S) (x1 x2 x3 : Int) (hS : fx_Sok S) (g1 : -2147483648 ≤ x1 ∧ x1 ≤ 2147483647) (g2 : -2147483648 ≤ x2 ∧ x2 ≤ 2147483647) (g3 : -2147483648 ≤ x3 ∧ x3 ≤ 2147483647) (c1 : 16 ≤ x3) (c2 : 0 ≤ x1) (c3 : x1 < 260) (S1 : fx_S) (d1 : S1 = (fx_up S.1 72 x1 x2, S.2)) (c4 : x2 ≠ 0) (c5 : x2 ≠ 1) (c6 : x2 = 2) (v3 : Int) (e3 : v3 = fx_add x1 1) (v4 : Int) (S2 : fx_S) (k2 : fx_Sok S2) (b4 : -2147483648 ≤ v4 ∧ v4 ≤ 2147483647) (p2 : s304 S1 13 v4 S2) (c7 : v4 ≠ 0) (c8 : 0 ≤ v3) (c9 : v3 < 260) (S3 : fx_S) (d3 : S3 = (fx_up S2.1 72 v3 1, S2.2)) (v5 : Int) (S4 : fx_S) (k4 : fx_Sok S4) (b5 : -2147483648 ≤ v5 ∧ v5 ≤ 2147483647) (p4 : s353 S3 12 v5 S4) (c10 : v5 ≠ 0) (v6 : Int) (S5 : fx_S) (k5 : fx_Sok S5) (b6 : -2147483648 ≤ v6 ∧ v6 ≤ 2147483647) (p5 : s352 S4 59 v6 S5) (c11 : v6 ≠ 0) (v7 : Int) (e7 : v7 = S5.1 66 12) (b7 : -2147483648 ≤ v7 ∧ v7 ≤ 2147483647) (c12 : v7 ≠ 0) : s305 S x1 x2 x3 0 S5 := by
  obtain rfl : S1 = S2 := p2
  obtain ⟨r4, f4⟩ := p4
  obtain rfl : S4 = S5 := p5
  refine ⟨(r4).trans (((show S3.2 = S1.2 by rw [d3])).trans ((show S1.2 = S.2 by rw [d1]))), ?_, ?_⟩
  · intro p i hW
    clear c12 b7 e7 c11 b6 c10 b5 c9 c8 c7 b4 e3 c6 c5 c4 c3 c2 c1
    exact ((f4 p i (by omega))).trans (((show S3.1 p i = S1.1 p i by rw [d3]; exact if_neg (by omega))).trans ((show S1.1 p i = S.1 p i by rw [d1]; exact if_neg (by omega))))
  · skip
    intro a0 a1 a2 a3
    have h3 := e3
    first | rw [fx_add_eq (by omega) (by omega)] at h3 | skip
    rw [f4 66 12 (by omega)] at e7
    have t7_3 : S3.1 66 12 = S1.1 66 12 := by rw [d3]; first | exact if_neg (by omega) | rfl
    rw [t7_3] at e7
    have t7_1 : S1.1 66 12 = S.1 66 12 := by rw [d1]; first | exact if_neg (by omega) | rfl
    rw [t7_1] at e7
    refine ⟨fun h => ?_, fun i hi => (((f4 72 (i) (by omega))).trans (((show S3.1 72 (i) = S1.1 72 (i) by rw [d3]; first | exact if_neg (by omega) | rfl)).trans ((show S1.1 72 (i) = S.1 72 (i) by rw [d1]; first | exact if_neg (by omega) | rfl))))⟩
    rw [show S4.1 72 (x1) = S1.1 72 (x1) from (((f4 72 (x1) (by omega))).trans ((show S3.1 72 (x1) = S1.1 72 (x1) by rw [d3]; first | exact if_neg (by omega) | rfl))), show S1.1 72 (x1) = x2 by rw [d1]; first | exact if_pos ⟨rfl, rfl⟩ | rfl] at h
    omega
theorem q305_21 (S : fx_S) (x1 x2 x3 : Int) (hS : fx_Sok S) (g1 : -2147483648 ≤ x1 ∧ x1 ≤ 2147483647) (g2 : -2147483648 ≤ x2 ∧ x2 ≤ 2147483647) (g3 : -2147483648 ≤ x3 ∧ x3 ≤ 2147483647) (c1 : 16 ≤ x3) (c2 : 0 ≤ x1) (c3 : x1 < 260) (S1 : fx_S) (d1 : S1 = (fx_up S.1 72 x1 x2, S.2)) (c4 : x2 ≠ 0) (c5 : x2 ≠ 1) (c6 : x2 = 2) (v3 : Int) (e3 : v3 = fx_add x1 1) (v4 : Int) (S2 : fx_S) (k2 : fx_Sok S2) (b4 : -2147483648 ≤ v4 ∧ v4 ≤ 2147483647) (p2 : s304 S1 13 v4 S2) (c7 : v4 ≠ 0) (c8 : 0 ≤ v3) (c9 : v3 < 260) (S3 : fx_S) (d3 : S3 = (fx_up S2.1 72 v3 1, S2.2)) (v5 : Int) (S4 : fx_S) (k4 : fx_Sok S4) (b5 : -2147483648 ≤ v5 ∧ v5 ≤ 2147483647) (p4 : s353 S3 12 v5 S4) (c10 : v5 ≠ 0) (v6 : Int) (S5 : fx_S) (k5 : fx_Sok S5) (b6 : -2147483648 ≤ v6 ∧ v6 ≤ 2147483647) (p5 : s352 S4 59 v6 S5) (c11 : v6 ≠ 0) (v7 : Int) (e7 : v7 = S5.1 66 12) (b7 : -2147483648 ≤ v7 ∧ v7 ≤ 2147483647) (c12 : v7 = 0) (v8 : Int) (S6 : fx_S) (k6 : fx_Sok S6) (b8 : v8 = 0) (p6 : s120 S5  v8 S6) : s305 S x1 x2 x3 0 S6 := by
  obtain rfl : S1 = S2 := p2
  obtain ⟨r4, f4⟩ := p4
  obtain rfl : S4 = S5 := p5
  obtain ⟨r6, f6⟩ := p6
  refine ⟨(r6).trans ((r4).trans (((show S3.2 = S1.2 by rw [d3])).trans ((show S1.2 = S.2 by rw [d1])))), ?_, ?_⟩
  · intro p i hW
    clear b8 c12 b7 e7 c11 b6 c10 b5 c9 c8 c7 b4 e3 c6 c5 c4 c3 c2 c1
    exact ((f6 p i (by omega))).trans (((f4 p i (by omega))).trans (((show S3.1 p i = S1.1 p i by rw [d3]; exact if_neg (by omega))).trans ((show S1.1 p i = S.1 p i by rw [d1]; exact if_neg (by omega)))))
  · skip
    intro a0 a1 a2 a3
    have h3 := e3
    first | rw [fx_add_eq (by omega) (by omega)] at h3 | skip
    rw [f4 66 12 (by omega)] at e7
    have t7_3 : S3.1 66 12 = S1.1 66 12 := by rw [d3]; first | exact if_neg (by omega) | rfl
    rw [t7_3] at e7
    have t7_1 : S1.1 66 12 = S.1 66 12 := by rw [d1]; first | exact if_neg (by omega) | rfl
    rw [t7_1] at e7
    refine ⟨fun h => ?_, fun i hi => (((f6 72 (i) (by omega))).trans (((f4 72 (i) (by omega))).trans (((show S3.1 72 (i) = S1.1 72 (i) by rw [d3]; first | exact if_neg (by omega) | rfl)).trans ((show S1.1 72 (i) = S.1 72 (i) by rw [d1]; first | exact if_neg (by omega) | rfl)))))⟩
    rw [show S6.1 72 (x1) = S1.1 72 (x1) from (((f6 72 (x1) (by omega))).trans (((f4 72 (x1) (by omega))).trans ((show S3.1 72 (x1) = S1.1 72 (x1) by rw [d3]; first | exact if_neg (by omega) | rfl)))), show S1.1 72 (x1) = x2 by rw [d1]; first | exact if_pos ⟨rfl, rfl⟩ | rfl] at h
    omega
theorem q305_22 (S : fx_S) (x1 x2 x3 : Int) (hS : fx_Sok S) (g1 : -2147483648 ≤ x1 ∧ x1 ≤ 2147483647) (g2 : -2147483648 ≤ x2 ∧ x2 ≤ 2147483647) (g3 : -2147483648 ≤ x3 ∧ x3 ≤ 2147483647) (c1 : 16 ≤ x3) (c2 : 0 ≤ x1) (c3 : x1 < 260) (S1 : fx_S) (d1 : S1 = (fx_up S.1 72 x1 x2, S.2)) (c4 : x2 ≠ 0) (c5 : x2 ≠ 1) (c6 : x2 = 2) (v3 : Int) (e3 : v3 = fx_add x1 1) (v4 : Int) (S2 : fx_S) (k2 : fx_Sok S2) (b4 : -2147483648 ≤ v4 ∧ v4 ≤ 2147483647) (p2 : s304 S1 13 v4 S2) (c7 : v4 ≠ 0) (c8 : 0 ≤ v3) (c9 : v3 < 260) (S3 : fx_S) (d3 : S3 = (fx_up S2.1 72 v3 1, S2.2)) (v5 : Int) (S4 : fx_S) (k4 : fx_Sok S4) (b5 : -2147483648 ≤ v5 ∧ v5 ≤ 2147483647) (p4 : s353 S3 12 v5 S4) (c10 : v5 ≠ 0) (v6 : Int) (S5 : fx_S) (k5 : fx_Sok S5) (b6 : -2147483648 ≤ v6 ∧ v6 ≤ 2147483647) (p5 : s352 S4 59 v6 S5) (c11 : v6 = 0) (v7 : Int) (S6 : fx_S) (k6 : fx_Sok S6) (b7 : v7 = 0) (p6 : s226 S5 1 v7 S6) (v8 : Int) (e8 : v8 = S6.1 66 12) (b8 : -2147483648 ≤ v8 ∧ v8 ≤ 2147483647) (c12 : v8 ≠ 0) : s305 S x1 x2 x3 0 S6 := by
  obtain rfl : S1 = S2 := p2
  obtain ⟨r4, f4⟩ := p4
  obtain rfl : S4 = S5 := p5
  obtain ⟨r6, f6, p6⟩ := p6
  refine ⟨(r6).trans ((r4).trans (((show S3.2 = S1.2 by rw [d3])).trans ((show S1.2 = S.2 by rw [d1])))), ?_, ?_⟩
  · intro p i hW
    clear c12 b8 e8 b7 c11 b6 c10 b5 c9 c8 c7 b4 e3 c6 c5 c4 c3 c2 c1
    exact ((f6 p i (by omega))).trans (((f4 p i (by omega))).trans (((show S3.1 p i = S1.1 p i by rw [d3]; exact if_neg (by omega))).trans ((show S1.1 p i = S.1 p i by rw [d1]; exact if_neg (by omega)))))
  · skip
    intro a0 a1 a2 a3
    have h3 := e3
    first | rw [fx_add_eq (by omega) (by omega)] at h3 | skip
    refine ⟨fun h => ?_, fun i hi => (((f6 72 (i) (by omega))).trans (((f4 72 (i) (by omega))).trans (((show S3.1 72 (i) = S1.1 72 (i) by rw [d3]; first | exact if_neg (by omega) | rfl)).trans ((show S1.1 72 (i) = S.1 72 (i) by rw [d1]; first | exact if_neg (by omega) | rfl)))))⟩
    rw [show S6.1 72 (x1) = S1.1 72 (x1) from (((f6 72 (x1) (by omega))).trans (((f4 72 (x1) (by omega))).trans ((show S3.1 72 (x1) = S1.1 72 (x1) by rw [d3]; first | exact if_neg (by omega) | rfl)))), show S1.1 72 (x1) = x2 by rw [d1]; first | exact if_pos ⟨rfl, rfl⟩ | rfl] at h
    omega
theorem q305_23 (S : fx_S) (x1 x2 x3 : Int) (hS : fx_Sok S) (g1 : -2147483648 ≤ x1 ∧ x1 ≤ 2147483647) (g2 : -2147483648 ≤ x2 ∧ x2 ≤ 2147483647) (g3 : -2147483648 ≤ x3 ∧ x3 ≤ 2147483647) (c1 : 16 ≤ x3) (c2 : 0 ≤ x1) (c3 : x1 < 260) (S1 : fx_S) (d1 : S1 = (fx_up S.1 72 x1 x2, S.2)) (c4 : x2 ≠ 0) (c5 : x2 ≠ 1) (c6 : x2 = 2) (v3 : Int) (e3 : v3 = fx_add x1 1) (v4 : Int) (S2 : fx_S) (k2 : fx_Sok S2) (b4 : -2147483648 ≤ v4 ∧ v4 ≤ 2147483647) (p2 : s304 S1 13 v4 S2) (c7 : v4 ≠ 0) (c8 : 0 ≤ v3) (c9 : v3 < 260) (S3 : fx_S) (d3 : S3 = (fx_up S2.1 72 v3 1, S2.2)) (v5 : Int) (S4 : fx_S) (k4 : fx_Sok S4) (b5 : -2147483648 ≤ v5 ∧ v5 ≤ 2147483647) (p4 : s353 S3 12 v5 S4) (c10 : v5 ≠ 0) (v6 : Int) (S5 : fx_S) (k5 : fx_Sok S5) (b6 : -2147483648 ≤ v6 ∧ v6 ≤ 2147483647) (p5 : s352 S4 59 v6 S5) (c11 : v6 = 0) (v7 : Int) (S6 : fx_S) (k6 : fx_Sok S6) (b7 : v7 = 0) (p6 : s226 S5 1 v7 S6) (v8 : Int) (e8 : v8 = S6.1 66 12) (b8 : -2147483648 ≤ v8 ∧ v8 ≤ 2147483647) (c12 : v8 = 0) (v9 : Int) (S7 : fx_S) (k7 : fx_Sok S7) (b9 : v9 = 0) (p7 : s120 S6  v9 S7) : s305 S x1 x2 x3 0 S7 := by
  obtain rfl : S1 = S2 := p2
  obtain ⟨r4, f4⟩ := p4
  obtain rfl : S4 = S5 := p5
  obtain ⟨r6, f6, p6⟩ := p6
  obtain ⟨r7, f7⟩ := p7
  refine ⟨(r7).trans ((r6).trans ((r4).trans (((show S3.2 = S1.2 by rw [d3])).trans ((show S1.2 = S.2 by rw [d1]))))), ?_, ?_⟩
  · intro p i hW
    clear b9 c12 b8 e8 b7 c11 b6 c10 b5 c9 c8 c7 b4 e3 c6 c5 c4 c3 c2 c1
    exact ((f7 p i (by omega))).trans (((f6 p i (by omega))).trans (((f4 p i (by omega))).trans (((show S3.1 p i = S1.1 p i by rw [d3]; exact if_neg (by omega))).trans ((show S1.1 p i = S.1 p i by rw [d1]; exact if_neg (by omega))))))
  · skip
    intro a0 a1 a2 a3
    have h3 := e3
    first | rw [fx_add_eq (by omega) (by omega)] at h3 | skip
    refine ⟨fun h => ?_, fun i hi => (((f7 72 (i) (by omega))).trans (((f6 72 (i) (by omega))).trans (((f4 72 (i) (by omega))).trans (((show S3.1 72 (i) = S1.1 72 (i) by rw [d3]; first | exact if_neg (by omega) | rfl)).trans ((show S1.1 72 (i) = S.1 72 (i) by rw [d1]; first | exact if_neg (by omega) | rfl))))))⟩
    rw [show S7.1 72 (x1) = S1.1 72 (x1) from (((f7 72 (x1) (by omega))).trans (((f6 72 (x1) (by omega))).trans (((f4 72 (x1) (by omega))).trans ((show S3.1 72 (x1) = S1.1 72 (x1) by rw [d3]; first | exact if_neg (by omega) | rfl))))), show S1.1 72 (x1) = x2 by rw [d1]; first | exact if_pos ⟨rfl, rfl⟩ | rfl] at h
    omega
theorem q305_24 (S : fx_S) (x1 x2 x3 : Int) (hS : fx_Sok S) (g1 : -2147483648 ≤ x1 ∧ x1 ≤ 2147483647) (g2 : -2147483648 ≤ x2 ∧ x2 ≤ 2147483647) (g3 : -2147483648 ≤ x3 ∧ x3 ≤ 2147483647) (c1 : 16 ≤ x3) (c2 : 0 ≤ x1) (c3 : x1 < 260) (S1 : fx_S) (d1 : S1 = (fx_up S.1 72 x1 x2, S.2)) (c4 : x2 ≠ 0) (c5 : x2 ≠ 1) (c6 : x2 = 2) (v3 : Int) (e3 : v3 = fx_add x1 1) (v4 : Int) (S2 : fx_S) (k2 : fx_Sok S2) (b4 : -2147483648 ≤ v4 ∧ v4 ≤ 2147483647) (p2 : s304 S1 13 v4 S2) (c7 : v4 ≠ 0) (c8 : 0 ≤ v3) (c9 : v3 < 260) (S3 : fx_S) (d3 : S3 = (fx_up S2.1 72 v3 1, S2.2)) (v5 : Int) (S4 : fx_S) (k4 : fx_Sok S4) (b5 : -2147483648 ≤ v5 ∧ v5 ≤ 2147483647) (p4 : s353 S3 12 v5 S4) (c10 : v5 = 0) (v6 : Int) (S5 : fx_S) (k5 : fx_Sok S5) (b6 : -2147483648 ≤ v6 ∧ v6 ≤ 2147483647) (p5 : s353 S4 13 v6 S5) (c11 : v6 ≠ 0) (v7 : Int) (S6 : fx_S) (k6 : fx_Sok S6) (b7 : -2147483648 ≤ v7 ∧ v7 ≤ 2147483647) (p6 : s352 S5 59 v7 S6) (c12 : v7 ≠ 0) (v8 : Int) (e8 : v8 = S6.1 66 12) (b8 : -2147483648 ≤ v8 ∧ v8 ≤ 2147483647) (c13 : v8 ≠ 0) : s305 S x1 x2 x3 0 S6 := by
  obtain rfl : S1 = S2 := p2
  obtain ⟨r4, f4⟩ := p4
  obtain ⟨r5, f5⟩ := p5
  obtain rfl : S5 = S6 := p6
  refine ⟨(r5).trans ((r4).trans (((show S3.2 = S1.2 by rw [d3])).trans ((show S1.2 = S.2 by rw [d1])))), ?_, ?_⟩
  · intro p i hW
    clear c13 b8 e8 c12 b7 c11 b6 c10 b5 c9 c8 c7 b4 e3 c6 c5 c4 c3 c2 c1
    exact ((f5 p i (by omega))).trans (((f4 p i (by omega))).trans (((show S3.1 p i = S1.1 p i by rw [d3]; exact if_neg (by omega))).trans ((show S1.1 p i = S.1 p i by rw [d1]; exact if_neg (by omega)))))
  · skip
    intro a0 a1 a2 a3
    have h3 := e3
    first | rw [fx_add_eq (by omega) (by omega)] at h3 | skip
    rw [f5 66 12 (by omega)] at e8
    rw [f4 66 12 (by omega)] at e8
    have t8_3 : S3.1 66 12 = S1.1 66 12 := by rw [d3]; first | exact if_neg (by omega) | rfl
    rw [t8_3] at e8
    have t8_1 : S1.1 66 12 = S.1 66 12 := by rw [d1]; first | exact if_neg (by omega) | rfl
    rw [t8_1] at e8
    refine ⟨fun h => ?_, fun i hi => (((f5 72 (i) (by omega))).trans (((f4 72 (i) (by omega))).trans (((show S3.1 72 (i) = S1.1 72 (i) by rw [d3]; first | exact if_neg (by omega) | rfl)).trans ((show S1.1 72 (i) = S.1 72 (i) by rw [d1]; first | exact if_neg (by omega) | rfl)))))⟩
    rw [show S5.1 72 (x1) = S1.1 72 (x1) from (((f5 72 (x1) (by omega))).trans (((f4 72 (x1) (by omega))).trans ((show S3.1 72 (x1) = S1.1 72 (x1) by rw [d3]; first | exact if_neg (by omega) | rfl)))), show S1.1 72 (x1) = x2 by rw [d1]; first | exact if_pos ⟨rfl, rfl⟩ | rfl] at h
    omega
theorem q305_25 (S : fx_S) (x1 x2 x3 : Int) (hS : fx_Sok S) (g1 : -2147483648 ≤ x1 ∧ x1 ≤ 2147483647) (g2 : -2147483648 ≤ x2 ∧ x2 ≤ 2147483647) (g3 : -2147483648 ≤ x3 ∧ x3 ≤ 2147483647) (c1 : 16 ≤ x3) (c2 : 0 ≤ x1) (c3 : x1 < 260) (S1 : fx_S) (d1 : S1 = (fx_up S.1 72 x1 x2, S.2)) (c4 : x2 ≠ 0) (c5 : x2 ≠ 1) (c6 : x2 = 2) (v3 : Int) (e3 : v3 = fx_add x1 1) (v4 : Int) (S2 : fx_S) (k2 : fx_Sok S2) (b4 : -2147483648 ≤ v4 ∧ v4 ≤ 2147483647) (p2 : s304 S1 13 v4 S2) (c7 : v4 ≠ 0) (c8 : 0 ≤ v3) (c9 : v3 < 260) (S3 : fx_S) (d3 : S3 = (fx_up S2.1 72 v3 1, S2.2)) (v5 : Int) (S4 : fx_S) (k4 : fx_Sok S4) (b5 : -2147483648 ≤ v5 ∧ v5 ≤ 2147483647) (p4 : s353 S3 12 v5 S4) (c10 : v5 = 0) (v6 : Int) (S5 : fx_S) (k5 : fx_Sok S5) (b6 : -2147483648 ≤ v6 ∧ v6 ≤ 2147483647) (p5 : s353 S4 13 v6 S5) (c11 : v6 ≠ 0) (v7 : Int) (S6 : fx_S) (k6 : fx_Sok S6) (b7 : -2147483648 ≤ v7 ∧ v7 ≤ 2147483647) (p6 : s352 S5 59 v7 S6) (c12 : v7 ≠ 0) (v8 : Int) (e8 : v8 = S6.1 66 12) (b8 : -2147483648 ≤ v8 ∧ v8 ≤ 2147483647) (c13 : v8 = 0) (v9 : Int) (S7 : fx_S) (k7 : fx_Sok S7) (b9 : v9 = 0) (p7 : s120 S6  v9 S7) : s305 S x1 x2 x3 0 S7 := by
  obtain rfl : S1 = S2 := p2
  obtain ⟨r4, f4⟩ := p4
  obtain ⟨r5, f5⟩ := p5
  obtain rfl : S5 = S6 := p6
  obtain ⟨r7, f7⟩ := p7
  refine ⟨(r7).trans ((r5).trans ((r4).trans (((show S3.2 = S1.2 by rw [d3])).trans ((show S1.2 = S.2 by rw [d1]))))), ?_, ?_⟩
  · intro p i hW
    clear b9 c13 b8 e8 c12 b7 c11 b6 c10 b5 c9 c8 c7 b4 e3 c6 c5 c4 c3 c2 c1
    exact ((f7 p i (by omega))).trans (((f5 p i (by omega))).trans (((f4 p i (by omega))).trans (((show S3.1 p i = S1.1 p i by rw [d3]; exact if_neg (by omega))).trans ((show S1.1 p i = S.1 p i by rw [d1]; exact if_neg (by omega))))))
  · skip
    intro a0 a1 a2 a3
    have h3 := e3
    first | rw [fx_add_eq (by omega) (by omega)] at h3 | skip
    rw [f5 66 12 (by omega)] at e8
    rw [f4 66 12 (by omega)] at e8
    have t8_3 : S3.1 66 12 = S1.1 66 12 := by rw [d3]; first | exact if_neg (by omega) | rfl
    rw [t8_3] at e8
    have t8_1 : S1.1 66 12 = S.1 66 12 := by rw [d1]; first | exact if_neg (by omega) | rfl
    rw [t8_1] at e8
    refine ⟨fun h => ?_, fun i hi => (((f7 72 (i) (by omega))).trans (((f5 72 (i) (by omega))).trans (((f4 72 (i) (by omega))).trans (((show S3.1 72 (i) = S1.1 72 (i) by rw [d3]; first | exact if_neg (by omega) | rfl)).trans ((show S1.1 72 (i) = S.1 72 (i) by rw [d1]; first | exact if_neg (by omega) | rfl))))))⟩
    rw [show S7.1 72 (x1) = S1.1 72 (x1) from (((f7 72 (x1) (by omega))).trans (((f5 72 (x1) (by omega))).trans (((f4 72 (x1) (by omega))).trans ((show S3.1 72 (x1) = S1.1 72 (x1) by rw [d3]; first | exact if_neg (by omega) | rfl))))), show S1.1 72 (x1) = x2 by rw [d1]; first | exact if_pos ⟨rfl, rfl⟩ | rfl] at h
    omega
theorem q305_26 (S : fx_S) (x1 x2 x3 : Int) (hS : fx_Sok S) (g1 : -2147483648 ≤ x1 ∧ x1 ≤ 2147483647) (g2 : -2147483648 ≤ x2 ∧ x2 ≤ 2147483647) (g3 : -2147483648 ≤ x3 ∧ x3 ≤ 2147483647) (c1 : 16 ≤ x3) (c2 : 0 ≤ x1) (c3 : x1 < 260) (S1 : fx_S) (d1 : S1 = (fx_up S.1 72 x1 x2, S.2)) (c4 : x2 ≠ 0) (c5 : x2 ≠ 1) (c6 : x2 = 2) (v3 : Int) (e3 : v3 = fx_add x1 1) (v4 : Int) (S2 : fx_S) (k2 : fx_Sok S2) (b4 : -2147483648 ≤ v4 ∧ v4 ≤ 2147483647) (p2 : s304 S1 13 v4 S2) (c7 : v4 ≠ 0) (c8 : 0 ≤ v3) (c9 : v3 < 260) (S3 : fx_S) (d3 : S3 = (fx_up S2.1 72 v3 1, S2.2)) (v5 : Int) (S4 : fx_S) (k4 : fx_Sok S4) (b5 : -2147483648 ≤ v5 ∧ v5 ≤ 2147483647) (p4 : s353 S3 12 v5 S4) (c10 : v5 = 0) (v6 : Int) (S5 : fx_S) (k5 : fx_Sok S5) (b6 : -2147483648 ≤ v6 ∧ v6 ≤ 2147483647) (p5 : s353 S4 13 v6 S5) (c11 : v6 ≠ 0) (v7 : Int) (S6 : fx_S) (k6 : fx_Sok S6) (b7 : -2147483648 ≤ v7 ∧ v7 ≤ 2147483647) (p6 : s352 S5 59 v7 S6) (c12 : v7 = 0) (v8 : Int) (S7 : fx_S) (k7 : fx_Sok S7) (b8 : v8 = 0) (p7 : s226 S6 1 v8 S7) (v9 : Int) (e9 : v9 = S7.1 66 12) (b9 : -2147483648 ≤ v9 ∧ v9 ≤ 2147483647) (c13 : v9 ≠ 0) : s305 S x1 x2 x3 0 S7 := by
  obtain rfl : S1 = S2 := p2
  obtain ⟨r4, f4⟩ := p4
  obtain ⟨r5, f5⟩ := p5
  obtain rfl : S5 = S6 := p6
  obtain ⟨r7, f7, p7⟩ := p7
  refine ⟨(r7).trans ((r5).trans ((r4).trans (((show S3.2 = S1.2 by rw [d3])).trans ((show S1.2 = S.2 by rw [d1]))))), ?_, ?_⟩
  · intro p i hW
    clear c13 b9 e9 b8 c12 b7 c11 b6 c10 b5 c9 c8 c7 b4 e3 c6 c5 c4 c3 c2 c1
    exact ((f7 p i (by omega))).trans (((f5 p i (by omega))).trans (((f4 p i (by omega))).trans (((show S3.1 p i = S1.1 p i by rw [d3]; exact if_neg (by omega))).trans ((show S1.1 p i = S.1 p i by rw [d1]; exact if_neg (by omega))))))
  · skip
    intro a0 a1 a2 a3
    have h3 := e3
    first | rw [fx_add_eq (by omega) (by omega)] at h3 | skip
    refine ⟨fun h => ?_, fun i hi => (((f7 72 (i) (by omega))).trans (((f5 72 (i) (by omega))).trans (((f4 72 (i) (by omega))).trans (((show S3.1 72 (i) = S1.1 72 (i) by rw [d3]; first | exact if_neg (by omega) | rfl)).trans ((show S1.1 72 (i) = S.1 72 (i) by rw [d1]; first | exact if_neg (by omega) | rfl))))))⟩
    rw [show S7.1 72 (x1) = S1.1 72 (x1) from (((f7 72 (x1) (by omega))).trans (((f5 72 (x1) (by omega))).trans (((f4 72 (x1) (by omega))).trans ((show S3.1 72 (x1) = S1.1 72 (x1) by rw [d3]; first | exact if_neg (by omega) | rfl))))), show S1.1 72 (x1) = x2 by rw [d1]; first | exact if_pos ⟨rfl, rfl⟩ | rfl] at h
    omega
theorem q305_27 (S : fx_S) (x1 x2 x3 : Int) (hS : fx_Sok S) (g1 : -2147483648 ≤ x1 ∧ x1 ≤ 2147483647) (g2 : -2147483648 ≤ x2 ∧ x2 ≤ 2147483647) (g3 : -2147483648 ≤ x3 ∧ x3 ≤ 2147483647) (c1 : 16 ≤ x3) (c2 : 0 ≤ x1) (c3 : x1 < 260) (S1 : fx_S) (d1 : S1 = (fx_up S.1 72 x1 x2, S.2)) (c4 : x2 ≠ 0) (c5 : x2 ≠ 1) (c6 : x2 = 2) (v3 : Int) (e3 : v3 = fx_add x1 1) (v4 : Int) (S2 : fx_S) (k2 : fx_Sok S2) (b4 : -2147483648 ≤ v4 ∧ v4 ≤ 2147483647) (p2 : s304 S1 13 v4 S2) (c7 : v4 ≠ 0) (c8 : 0 ≤ v3) (c9 : v3 < 260) (S3 : fx_S) (d3 : S3 = (fx_up S2.1 72 v3 1, S2.2)) (v5 : Int) (S4 : fx_S) (k4 : fx_Sok S4) (b5 : -2147483648 ≤ v5 ∧ v5 ≤ 2147483647) (p4 : s353 S3 12 v5 S4) (c10 : v5 = 0) (v6 : Int) (S5 : fx_S) (k5 : fx_Sok S5) (b6 : -2147483648 ≤ v6 ∧ v6 ≤ 2147483647) (p5 : s353 S4 13 v6 S5) (c11 : v6 ≠ 0) (v7 : Int) (S6 : fx_S) (k6 : fx_Sok S6) (b7 : -2147483648 ≤ v7 ∧ v7 ≤ 2147483647) (p6 : s352 S5 59 v7 S6) (c12 : v7 = 0) (v8 : Int) (S7 : fx_S) (k7 : fx_Sok S7) (b8 : v8 = 0) (p7 : s226 S6 1 v8 S7) (v9 : Int) (e9 : v9 = S7.1 66 12) (b9 : -2147483648 ≤ v9 ∧ v9 ≤ 2147483647) (c13 : v9 = 0) (v10 : Int) (S8 : fx_S) (k8 : fx_Sok S8) (b10 : v10 = 0) (p8 : s120 S7  v10 S8) : s305 S x1 x2 x3 0 S8 := by
  obtain rfl : S1 = S2 := p2
  obtain ⟨r4, f4⟩ := p4
  obtain ⟨r5, f5⟩ := p5
  obtain rfl : S5 = S6 := p6
  obtain ⟨r7, f7, p7⟩ := p7
  obtain ⟨r8, f8⟩ := p8
  refine ⟨(r8).trans ((r7).trans ((r5).trans ((r4).trans (((show S3.2 = S1.2 by rw [d3])).trans ((show S1.2 = S.2 by rw [d1])))))), ?_, ?_⟩
  · intro p i hW
    clear b10 c13 b9 e9 b8 c12 b7 c11 b6 c10 b5 c9 c8 c7 b4 e3 c6 c5 c4 c3 c2 c1
    exact ((f8 p i (by omega))).trans (((f7 p i (by omega))).trans (((f5 p i (by omega))).trans (((f4 p i (by omega))).trans (((show S3.1 p i = S1.1 p i by rw [d3]; exact if_neg (by omega))).trans ((show S1.1 p i = S.1 p i by rw [d1]; exact if_neg (by omega)))))))
  · skip
    intro a0 a1 a2 a3
    have h3 := e3
    first | rw [fx_add_eq (by omega) (by omega)] at h3 | skip
    refine ⟨fun h => ?_, fun i hi => (((f8 72 (i) (by omega))).trans (((f7 72 (i) (by omega))).trans (((f5 72 (i) (by omega))).trans (((f4 72 (i) (by omega))).trans (((show S3.1 72 (i) = S1.1 72 (i) by rw [d3]; first | exact if_neg (by omega) | rfl)).trans ((show S1.1 72 (i) = S.1 72 (i) by rw [d1]; first | exact if_neg (by omega) | rfl)))))))⟩
    rw [show S8.1 72 (x1) = S1.1 72 (x1) from (((f8 72 (x1) (by omega))).trans (((f7 72 (x1) (by omega))).trans (((f5 72 (x1) (by omega))).trans (((f4 72 (x1) (by omega))).trans ((show S3.1 72 (x1) = S1.1 72 (x1) by rw [d3]; first | exact if_neg (by omega) | rfl)))))), show S1.1 72 (x1) = x2 by rw [d1]; first | exact if_pos ⟨rfl, rfl⟩ | rfl] at h
    omega
theorem q305_28 (S : fx_S) (x1 x2 x3 : Int) (hS : fx_Sok S) (g1 : -2147483648 ≤ x1 ∧ x1 ≤ 2147483647) (g2 : -2147483648 ≤ x2 ∧ x2 ≤ 2147483647) (g3 : -2147483648 ≤ x3 ∧ x3 ≤ 2147483647) (c1 : 16 ≤ x3) (c2 : 0 ≤ x1) (c3 : x1 < 260) (S1 : fx_S) (d1 : S1 = (fx_up S.1 72 x1 x2, S.2)) (c4 : x2 ≠ 0) (c5 : x2 ≠ 1) (c6 : x2 = 2) (v3 : Int) (e3 : v3 = fx_add x1 1) (v4 : Int) (S2 : fx_S) (k2 : fx_Sok S2) (b4 : -2147483648 ≤ v4 ∧ v4 ≤ 2147483647) (p2 : s304 S1 13 v4 S2) (c7 : v4 ≠ 0) (c8 : 0 ≤ v3) (c9 : v3 < 260) (S3 : fx_S) (d3 : S3 = (fx_up S2.1 72 v3 1, S2.2)) (v5 : Int) (S4 : fx_S) (k4 : fx_Sok S4) (b5 : -2147483648 ≤ v5 ∧ v5 ≤ 2147483647) (p4 : s353 S3 12 v5 S4) (c10 : v5 = 0) (v6 : Int) (S5 : fx_S) (k5 : fx_Sok S5) (b6 : -2147483648 ≤ v6 ∧ v6 ≤ 2147483647) (p5 : s353 S4 13 v6 S5) (c11 : v6 = 0) (v7 : Int) (S6 : fx_S) (k6 : fx_Sok S6) (b7 : v7 = 0) (p6 : s226 S5 1 v7 S6) (v8 : Int) (S7 : fx_S) (k7 : fx_Sok S7) (b8 : -2147483648 ≤ v8 ∧ v8 ≤ 2147483647) (p7 : s352 S6 59 v8 S7) (c12 : v8 ≠ 0) (v9 : Int) (e9 : v9 = S7.1 66 12) (b9 : -2147483648 ≤ v9 ∧ v9 ≤ 2147483647) (c13 : v9 ≠ 0) : s305 S x1 x2 x3 0 S7 := by
  obtain rfl : S1 = S2 := p2
  obtain ⟨r4, f4⟩ := p4
  obtain ⟨r5, f5⟩ := p5
  obtain ⟨r6, f6, p6⟩ := p6
  obtain rfl : S6 = S7 := p7
  refine ⟨(r6).trans ((r5).trans ((r4).trans (((show S3.2 = S1.2 by rw [d3])).trans ((show S1.2 = S.2 by rw [d1]))))), ?_, ?_⟩
  · intro p i hW
    clear c13 b9 e9 c12 b8 b7 c11 b6 c10 b5 c9 c8 c7 b4 e3 c6 c5 c4 c3 c2 c1
    exact ((f6 p i (by omega))).trans (((f5 p i (by omega))).trans (((f4 p i (by omega))).trans (((show S3.1 p i = S1.1 p i by rw [d3]; exact if_neg (by omega))).trans ((show S1.1 p i = S.1 p i by rw [d1]; exact if_neg (by omega))))))
  · skip
    intro a0 a1 a2 a3
    have h3 := e3
    first | rw [fx_add_eq (by omega) (by omega)] at h3 | skip
    refine ⟨fun h => ?_, fun i hi => (((f6 72 (i) (by omega))).trans (((f5 72 (i) (by omega))).trans (((f4 72 (i) (by omega))).trans (((show S3.1 72 (i) = S1.1 72 (i) by rw [d3]; first | exact if_neg (by omega) | rfl)).trans ((show S1.1 72 (i) = S.1 72 (i) by rw [d1]; first | exact if_neg (by omega) | rfl))))))⟩
    rw [show S6.1 72 (x1) = S1.1 72 (x1) from (((f6 72 (x1) (by omega))).trans (((f5 72 (x1) (by omega))).trans (((f4 72 (x1) (by omega))).trans ((show S3.1 72 (x1) = S1.1 72 (x1) by rw [d3]; first | exact if_neg (by omega) | rfl))))), show S1.1 72 (x1) = x2 by rw [d1]; first | exact if_pos ⟨rfl, rfl⟩ | rfl] at h
    omega
theorem q305_29 (S : fx_S) (x1 x2 x3 : Int) (hS : fx_Sok S) (g1 : -2147483648 ≤ x1 ∧ x1 ≤ 2147483647) (g2 : -2147483648 ≤ x2 ∧ x2 ≤ 2147483647) (g3 : -2147483648 ≤ x3 ∧ x3 ≤ 2147483647) (c1 : 16 ≤ x3) (c2 : 0 ≤ x1) (c3 : x1 < 260) (S1 : fx_S) (d1 : S1 = (fx_up S.1 72 x1 x2, S.2)) (c4 : x2 ≠ 0) (c5 : x2 ≠ 1) (c6 : x2 = 2) (v3 : Int) (e3 : v3 = fx_add x1 1) (v4 : Int) (S2 : fx_S) (k2 : fx_Sok S2) (b4 : -2147483648 ≤ v4 ∧ v4 ≤ 2147483647) (p2 : s304 S1 13 v4 S2) (c7 : v4 ≠ 0) (c8 : 0 ≤ v3) (c9 : v3 < 260) (S3 : fx_S) (d3 : S3 = (fx_up S2.1 72 v3 1, S2.2)) (v5 : Int) (S4 : fx_S) (k4 : fx_Sok S4) (b5 : -2147483648 ≤ v5 ∧ v5 ≤ 2147483647) (p4 : s353 S3 12 v5 S4) (c10 : v5 = 0) (v6 : Int) (S5 : fx_S) (k5 : fx_Sok S5) (b6 : -2147483648 ≤ v6 ∧ v6 ≤ 2147483647) (p5 : s353 S4 13 v6 S5) (c11 : v6 = 0) (v7 : Int) (S6 : fx_S) (k6 : fx_Sok S6) (b7 : v7 = 0) (p6 : s226 S5 1 v7 S6) (v8 : Int) (S7 : fx_S) (k7 : fx_Sok S7) (b8 : -2147483648 ≤ v8 ∧ v8 ≤ 2147483647) (p7 : s352 S6 59 v8 S7) (c12 : v8 ≠ 0) (v9 : Int) (e9 : v9 = S7.1 66 12) (b9 : -2147483648 ≤ v9 ∧ v9 ≤ 2147483647) (c13 : v9 = 0) (v10 : Int) (S8 : fx_S) (k8 : fx_Sok S8) (b10 : v10 = 0) (p8 : s120 S7  v10 S8) : s305 S x1 x2 x3 0 S8 := by
  obtain rfl : S1 = S2 := p2
  obtain ⟨r4, f4⟩ := p4
  obtain ⟨r5, f5⟩ := p5
  obtain ⟨r6, f6, p6⟩ := p6
  obtain rfl : S6 = S7 := p7
  obtain ⟨r8, f8⟩ := p8
  refine ⟨(r8).trans ((r6).trans ((r5).trans ((r4).trans (((show S3.2 = S1.2 by rw [d3])).trans ((show S1.2 = S.2 by rw [d1])))))), ?_, ?_⟩
  · intro p i hW
    clear b10 c13 b9 e9 c12 b8 b7 c11 b6 c10 b5 c9 c8 c7 b4 e3 c6 c5 c4 c3 c2 c1
    exact ((f8 p i (by omega))).trans (((f6 p i (by omega))).trans (((f5 p i (by omega))).trans (((f4 p i (by omega))).trans (((show S3.1 p i = S1.1 p i by rw [d3]; exact if_neg (by omega))).trans ((show S1.1 p i = S.1 p i by rw [d1]; exact if_neg (by omega)))))))
  · skip
    intro a0 a1 a2 a3
    have h3 := e3
    first | rw [fx_add_eq (by omega) (by omega)] at h3 | skip
    refine ⟨fun h => ?_, fun i hi => (((f8 72 (i) (by omega))).trans (((f6 72 (i) (by omega))).trans (((f5 72 (i) (by omega))).trans (((f4 72 (i) (by omega))).trans (((show S3.1 72 (i) = S1.1 72 (i) by rw [d3]; first | exact if_neg (by omega) | rfl)).trans ((show S1.1 72 (i) = S.1 72 (i) by rw [d1]; first | exact if_neg (by omega) | rfl)))))))⟩
    rw [show S8.1 72 (x1) = S1.1 72 (x1) from (((f8 72 (x1) (by omega))).trans (((f6 72 (x1) (by omega))).trans (((f5 72 (x1) (by omega))).trans (((f4 72 (x1) (by omega))).trans ((show S3.1 72 (x1) = S1.1 72 (x1) by rw [d3]; first | exact if_neg (by omega) | rfl)))))), show S1.1 72 (x1) = x2 by rw [d1]; first | exact if_pos ⟨rfl, rfl⟩ | rfl] at h
    omega
