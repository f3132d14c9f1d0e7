/-! FX: what is to be shown of the entries -/
theorem q391_0 (S : fx_S) (x1 x2 : Int) (hS : fx_Sok S) (g1 : -2147483648 ≤ x1 ∧ x1 ≤ 2147483647) (g2 : -2147483648 ≤ x2 ∧ x2 ≤ 2147483647) (v2 : Int) (e2 : v2 = S.1 50 4) (b2 : -2147483648 ≤ v2 ∧ v2 ≤ 2147483647) (c1 : v2 ≤ x2) : s391 S x1 x2 x1 S := by
  exact rfl
theorem q391_1 (S : fx_S) (x1 x2 : Int) (hS : fx_Sok S) (g1 : -2147483648 ≤ x1 ∧ x1 ≤ 2147483647) (g2 : -2147483648 ≤ x2 ∧ x2 ≤ 2147483647) (v2 : Int) (e2 : v2 = S.1 50 4) (b2 : -2147483648 ≤ v2 ∧ v2 ≤ 2147483647) (c1 : x2 < v2) (v3 : Int) (e3 : v3 = fx_mul x1 10) (c2 : 0 ≤ x2) (c3 : x2 < 600) (v4 : Int) (e4 : v4 = S.1 51 x2) (b4 : -128 ≤ v4 ∧ v4 ≤ 127) (v5 : Int) (e5 : v5 = fx_add v3 v4) (v6 : Int) (e6 : v6 = fx_sub v5 48) (v7 : Int) (S1 : fx_S) (k1 : fx_Sok S1) (b7 : -2147483648 ≤ v7 ∧ v7 ≤ 2147483647) (p1 : s125 S v6 10000 v7 S1) (v8 : Int) (e8 : v8 = fx_add x2 1) (z : Int) (Z : fx_S) (kz : fx_Sok Z) (bz : -2147483648 ≤ z ∧ z ≤ 2147483647) (pz : s391 S1 v7 v8 z Z) : s391 S x1 x2 z Z := by
  obtain ⟨rfl, p1⟩ := p1
  obtain rfl : S = Z := pz
  exact rfl
theorem q392_0 (S : fx_S) (x1 x3 : Int) (hS : fx_Sok S) (g1 : 0 ≤ x1 ∧ x1 < S.2.2) (g3 : -2147483648 ≤ x3 ∧ x3 ≤ 2147483647) (v2 : Int) (S1 : fx_S) (k1 : fx_Sok S1) (b2 : -2147483648 ≤ v2 ∧ v2 ≤ 2147483647) (p1 : s376 S 6 v2 S1) (c1 : v2 ≠ 0) (c2 : x3 < 3) (v3 : Int) (S2 : fx_S) (k2 : fx_Sok S2) (b3 : -2147483648 ≤ v3 ∧ v3 ≤ 2147483647) (p2 : s343 S1 6 v3 S2) (v4 : Int) (S3 : fx_S) (k3 : fx_Sok S3) (b4 : -2147483648 ≤ v4 ∧ v4 ≤ 2147483647) (p3 : s343 S2 7 v4 S3) (c3 : v4 = 0) (v5 : Int) (S4 : fx_S) (k4 : fx_Sok S4) (b5 : -2147483648 ≤ v5 ∧ v5 ≤ 2147483647) (p4 : s343 S3 8 v5 S4) (c4 : v5 = 0) (v6 : Int) (S5 : fx_S) (k5 : fx_Sok S5) (b6 : -2147483648 ≤ v6 ∧ v6 ≤ 2147483647) (p5 : s343 S4 9 v6 S5) (c5 : v6 = 0) (v7 : Int) (S6 : fx_S) (k6 : fx_Sok S6) (b7 : -2147483648 ≤ v7 ∧ v7 ≤ 2147483647) (p6 : s343 S5 10 v7 S6) (c6 : v7 = 0) (v8 : Int) (S7 : fx_S) (k7 : fx_Sok S7) (b8 : v8 = 0) (p7 : s349 S6 1 v8 S7) : s392 S x1 x3 0 S7 := by
  obtain rfl : S = S1 := p1
  obtain ⟨r2, f2⟩ := p2
  obtain ⟨r3, f3⟩ := p3
  obtain ⟨r4, f4⟩ := p4
  obtain ⟨r5, f5⟩ := p5
  obtain ⟨r6, f6⟩ := p6
  obtain ⟨r7, f7⟩ := p7
  refine ⟨(r7).trans ((r6).trans ((r5).trans ((r4).trans ((r3).trans (r2))))), ?_⟩
  · intro p i hW
    exact ((f7 p i (by omega))).trans (((f6 p i (by omega))).trans (((f5 p i (by omega))).trans (((f4 p i (by omega))).trans (((f3 p i (by omega))).trans ((f2 p i (by omega)))))))
theorem q392_1 (S : fx_S) (x1 x3 : Int) (hS : fx_Sok S) (g1 : 0 ≤ x1 ∧ x1 < S.2.2) (g3 : -2147483648 ≤ x3 ∧ x3 ≤ 2147483647) (v2 : Int) (S1 : fx_S) (k1 : fx_Sok S1) (b2 : -2147483648 ≤ v2 ∧ v2 ≤ 2147483647) (p1 : s376 S 6 v2 S1) (c1 : v2 ≠ 0) (c2 : x3 < 3) (v3 : Int) (S2 : fx_S) (k2 : fx_Sok S2) (b3 : -2147483648 ≤ v3 ∧ v3 ≤ 2147483647) (p2 : s343 S1 6 v3 S2) (v4 : Int) (S3 : fx_S) (k3 : fx_Sok S3) (b4 : -2147483648 ≤ v4 ∧ v4 ≤ 2147483647) (p3 : s343 S2 7 v4 S3) (c3 : v4 = 0) (v5 : Int) (S4 : fx_S) (k4 : fx_Sok S4) (b5 : -2147483648 ≤ v5 ∧ v5 ≤ 2147483647) (p4 : s343 S3 8 v5 S4) (c4 : v5 = 0) (v6 : Int) (S5 : fx_S) (k5 : fx_Sok S5) (b6 : -2147483648 ≤ v6 ∧ v6 ≤ 2147483647) (p5 : s343 S4 9 v6 S5) (c5 : v6 = 0) (v7 : Int) (S6 : fx_S) (k6 : fx_Sok S6) (b7 : -2147483648 ≤ v7 ∧ v7 ≤ 2147483647) (p6 : s343 S5 10 v7 S6) (c6 : v7 ≠ 0) (v8 : Int) (e8 : v8 = S6.1 2 0) (b8 : -2147483648 ≤ v8 ∧ v8 ≤ 2147483647) (v9 : Int) (e9 : v9 = fx_sub v8 1) (v10 : Int) (S7 : fx_S) (k7 : fx_Sok S7) (b10 : -2147483648 ≤ v10 ∧ v10 ≤ 2147483647) (p7 : s346 S6 0 v9 v10 S7) (v11 : Int) (S8 : fx_S) (k8 : fx_Sok S8) (b11 : -2147483648 ≤ v11 ∧ v11 ≤ 2147483647) (p8 : s346 S7 0 9999 v11 S8) (c7 : 0 ≤ v10) (c8 : v10 < 40) (v12 : Int) (e12 : v12 = S8.1 3 v10) (b12 : -2147483648 ≤ v12 ∧ v12 ≤ 2147483647) (c9 : 0 ≤ v10) (c10 : v10 < 40) (v13 : Int) (e13 : v13 = S8.1 4 v10) (b13 : -2147483648 ≤ v13 ∧ v13 ≤ 2147483647) (v14 : Int) (S9 : fx_S) (k9 : fx_Sok S9) (b14 : v14 = 0) (p9 : s403 S8 x1 v3 v12 v13 v11 v14 S9) : s392 S x1 x3 0 S9 := by
  obtain rfl : S = S1 := p1
  obtain ⟨r2, f2⟩ := p2
  obtain ⟨r3, f3⟩ := p3
  obtain ⟨r4, f4⟩ := p4
  obtain ⟨r5, f5⟩ := p5
  obtain ⟨r6, f6⟩ := p6
  obtain ⟨r7, f7⟩ := p7
  obtain ⟨r8, f8⟩ := p8
  obtain ⟨r9, f9⟩ := p9
  refine ⟨(r9).trans ((r8).trans ((r7).trans ((r6).trans ((r5).trans ((r4).trans ((r3).trans (r2))))))), ?_⟩
  · intro p i hW
    exact ((f9 p i (by omega))).trans (((f8 p i (by omega))).trans (((f7 p i (by omega))).trans (((f6 p i (by omega))).trans (((f5 p i (by omega))).trans (((f4 p i (by omega))).trans (((f3 p i (by omega))).trans ((f2 p i (by omega)))))))))
theorem q392_2 (S : fx_S) (x1 x3 : Int) (hS : fx_Sok S) (g1 : 0 ≤ x1 ∧ x1 < S.2.2) (g3 : -2147483648 ≤ x3 ∧ x3 ≤ 2147483647) (v2 : Int) (S1 : fx_S) (k1 : fx_Sok S1) (b2 : -2147483648 ≤ v2 ∧ v2 ≤ 2147483647) (p1 : s376 S 6 v2 S1) (c1 : v2 ≠ 0) (c2 : x3 < 3) (v3 : Int) (S2 : fx_S) (k2 : fx_Sok S2) (b3 : -2147483648 ≤ v3 ∧ v3 ≤ 2147483647) (p2 : s343 S1 6 v3 S2) (v4 : Int) (S3 : fx_S) (k3 : fx_Sok S3) (b4 : -2147483648 ≤ v4 ∧ v4 ≤ 2147483647) (p3 : s343 S2 7 v4 S3) (c3 : v4 = 0) (v5 : Int) (S4 : fx_S) (k4 : fx_Sok S4) (b5 : -2147483648 ≤ v5 ∧ v5 ≤ 2147483647) (p4 : s343 S3 8 v5 S4) (c4 : v5 = 0) (v6 : Int) (S5 : fx_S) (k5 : fx_Sok S5) (b6 : -2147483648 ≤ v6 ∧ v6 ≤ 2147483647) (p5 : s343 S4 9 v6 S5) (c5 : v6 ≠ 0) (v7 : Int) (S6 : fx_S) (k6 : fx_Sok S6) (b7 : -2147483648 ≤ v7 ∧ v7 ≤ 2147483647) (p6 : s404 S5  v7 S6) (v8 : Int) (S7 : fx_S) (k7 : fx_Sok S7) (b8 : -2147483648 ≤ v8 ∧ v8 ≤ 2147483647) (p7 : s346 S6 0 9999 v8 S7) (v9 : Int) (S8 : fx_S) (k8 : fx_Sok S8) (b9 : v9 = 0) (p8 : s405 S7 x1 2 v3 v7 v8 v9 S8) : s392 S x1 x3 0 S8 := by
  obtain rfl : S = S1 := p1
  obtain ⟨r2, f2⟩ := p2
  obtain ⟨r3, f3⟩ := p3
  obtain ⟨r4, f4⟩ := p4
  obtain ⟨r5, f5⟩ := p5
  obtain ⟨r6, f6⟩ := p6
  obtain ⟨r7, f7⟩ := p7
  obtain ⟨r8, f8⟩ := p8
  refine ⟨(r8).trans ((r7).trans ((r6).trans ((r5).trans ((r4).trans ((r3).trans (r2)))))), ?_⟩
  · intro p i hW
    exact ((f8 p i (by omega))).trans (((f7 p i (by omega))).trans (((f6 p i (by omega))).trans (((f5 p i (by omega))).trans (((f4 p i (by omega))).trans (((f3 p i (by omega))).trans ((f2 p i (by omega))))))))
theorem q392_3 (S : fx_S) (x1 x3 : Int) (hS : fx_Sok S) (g1 : 0 ≤ x1 ∧ x1 < S.2.2) (g3 : -2147483648 ≤ x3 ∧ x3 ≤ 2147483647) (v2 : Int) (S1 : fx_S) (k1 : fx_Sok S1) (b2 : -2147483648 ≤ v2 ∧ v2 ≤ 2147483647) (p1 : s376 S 6 v2 S1) (c1 : v2 ≠ 0) (c2 : x3 < 3) (v3 : Int) (S2 : fx_S) (k2 : fx_Sok S2) (b3 : -2147483648 ≤ v3 ∧ v3 ≤ 2147483647) (p2 : s343 S1 6 v3 S2) (v4 : Int) (S3 : fx_S) (k3 : fx_Sok S3) (b4 : -2147483648 ≤ v4 ∧ v4 ≤ 2147483647) (p3 : s343 S2 7 v4 S3) (c3 : v4 = 0) (v5 : Int) (S4 : fx_S) (k4 : fx_Sok S4) (b5 : -2147483648 ≤ v5 ∧ v5 ≤ 2147483647) (p4 : s343 S3 8 v5 S4) (c4 : v5 ≠ 0) (v6 : Int) (S5 : fx_S) (k5 : fx_Sok S5) (b6 : -2147483648 ≤ v6 ∧ v6 ≤ 2147483647) (p5 : s404 S4  v6 S5) (v7 : Int) (S6 : fx_S) (k6 : fx_Sok S6) (b7 : -2147483648 ≤ v7 ∧ v7 ≤ 2147483647) (p6 : s346 S5 0 9999 v7 S6) (v8 : Int) (S7 : fx_S) (k7 : fx_Sok S7) (b8 : v8 = 0) (p7 : s405 S6 x1 1 v3 v6 v7 v8 S7) : s392 S x1 x3 0 S7 := by
  obtain rfl : S = S1 := p1
  obtain ⟨r2, f2⟩ := p2
  obtain ⟨r3, f3⟩ := p3
  obtain ⟨r4, f4⟩ := p4
  obtain ⟨r5, f5⟩ := p5
  obtain ⟨r6, f6⟩ := p6
  obtain ⟨r7, f7⟩ := p7
  refine ⟨(r7).trans ((r6).trans ((r5).trans ((r4).trans ((r3).trans (r2))))), ?_⟩
  · intro p i hW
    exact ((f7 p i (by omega))).trans (((f6 p i (by omega))).trans (((f5 p i (by omega))).trans (((f4 p i (by omega))).trans (((f3 p i (by omega))).trans ((f2 p i (by omega)))))))
theorem q392_4 (S : fx_S) (x1 x3 : Int) (hS : fx_Sok S) (g1 : 0 ≤ x1 ∧ x1 < S.2.2) (g3 : -2147483648 ≤ x3 ∧ x3 ≤ 2147483647) (v2 : Int) (S1 : fx_S) (k1 : fx_Sok S1) (b2 : -2147483648 ≤ v2 ∧ v2 ≤ 2147483647) (p1 : s376 S 6 v2 S1) (c1 : v2 ≠ 0) (c2 : x3 < 3) (v3 : Int) (S2 : fx_S) (k2 : fx_Sok S2) (b3 : -2147483648 ≤ v3 ∧ v3 ≤ 2147483647) (p2 : s343 S1 6 v3 S2) (v4 : Int) (S3 : fx_S) (k3 : fx_Sok S3) (b4 : -2147483648 ≤ v4 ∧ v4 ≤ 2147483647) (p3 : s343 S2 7 v4 S3) (c3 : v4 ≠ 0) (v5 : Int) (S4 : fx_S) (k4 : fx_Sok S4) (b5 : v5 = 0) (p4 : s345 S3 61 v5 S4) (v6 : Int) (S5 : fx_S) (k5 : fx_Sok S5) (b6 : -2147483648 ≤ v6 ∧ v6 ≤ 2147483647) (p5 : s346 S4 0 9999 v6 S5) (v7 : Int) (S6 : fx_S) (k6 : fx_Sok S6) (b7 : v7 = 0) (p6 : s405 S5 x1 0 v3 61 v6 v7 S6) : s392 S x1 x3 0 S6 := by
  obtain rfl : S = S1 := p1
  obtain ⟨r2, f2⟩ := p2
  obtain ⟨r3, f3⟩ := p3
  obtain ⟨r4, f4⟩ := p4
  obtain ⟨r5, f5⟩ := p5
  obtain ⟨r6, f6⟩ := p6
  refine ⟨(r6).trans ((r5).trans ((r4).trans ((r3).trans (r2)))), ?_⟩
  · intro p i hW
    exact ((f6 p i (by omega))).trans (((f5 p i (by omega))).trans (((f4 p i (by omega))).trans (((f3 p i (by omega))).trans ((f2 p i (by omega))))))
theorem q392_5 (S : fx_S) (x1 x3 : Int) (hS : fx_Sok S) (g1 : 0 ≤ x1 ∧ x1 < S.2.2) (g3 : -2147483648 ≤ x3 ∧ x3 ≤ 2147483647) (v2 : Int) (S1 : fx_S) (k1 : fx_Sok S1) (b2 : -2147483648 ≤ v2 ∧ v2 ≤ 2147483647) (p1 : s376 S 6 v2 S1) (c1 : v2 ≠ 0) (c2 : 3 ≤ x3) (v3 : Int) (S2 : fx_S) (k2 : fx_Sok S2) (b3 : v3 = 0) (p2 : s349 S1 3 v3 S2) (v4 : Int) (S3 : fx_S) (k3 : fx_Sok S3) (b4 : -2147483648 ≤ v4 ∧ v4 ≤ 2147483647) (p3 : s343 S2 6 v4 S3) (v5 : Int) (S4 : fx_S) (k4 : fx_Sok S4) (b5 : -2147483648 ≤ v5 ∧ v5 ≤ 2147483647) (p4 : s343 S3 7 v5 S4) (c3 : v5 = 0) (v6 : Int) (S5 : fx_S) (k5 : fx_Sok S5) (b6 : -2147483648 ≤ v6 ∧ v6 ≤ 2147483647) (p5 : s343 S4 8 v6 S5) (c4 : v6 = 0) (v7 : Int) (S6 : fx_S) (k6 : fx_Sok S6) (b7 : -2147483648 ≤ v7 ∧ v7 ≤ 2147483647) (p6 : s343 S5 9 v7 S6) (c5 : v7 = 0) (v8 : Int) (S7 : fx_S) (k7 : fx_Sok S7) (b8 : -2147483648 ≤ v8 ∧ v8 ≤ 2147483647) (p7 : s343 S6 10 v8 S7) (c6 : v8 = 0) (v9 : Int) (S8 : fx_S) (k8 : fx_Sok S8) (b9 : v9 = 0) (p8 : s349 S7 1 v9 S8) : s392 S x1 x3 0 S8 := by
  obtain rfl : S = S1 := p1
  obtain ⟨r2, f2⟩ := p2
  obtain ⟨r3, f3⟩ := p3
  obtain ⟨r4, f4⟩ := p4
  obtain ⟨r5, f5⟩ := p5
  obtain ⟨r6, f6⟩ := p6
  obtain ⟨r7, f7⟩ := p7
  obtain ⟨r8, f8⟩ := p8
  refine ⟨(r8).trans ((r7).trans ((r6).trans ((r5).trans ((r4).trans ((r3).trans (r2)))))), ?_⟩
  · intro p i hW
    exact ((f8 p i (by omega))).trans (((f7 p i (by omega))).trans (((f6 p i (by omega))).trans (((f5 p i (by omega))).trans (((f4 p i (by omega))).trans (((f3 p i (by omega))).trans ((f2 p i (by omega))))))))
theorem q392_6 (S : fx_S) (x1 x3 : Int) (hS : fx_Sok S) (g1 : 0 ≤ x1 ∧ x1 < S.2.2) (g3 : -2147483648 ≤ x3 ∧ x3 ≤ 2147483647) (v2 : Int) (S1 : fx_S) (k1 : fx_Sok S1) (b2 : -2147483648 ≤ v2 ∧ v2 ≤ 2147483647) (p1 : s376 S 6 v2 S1) (c1 : v2 ≠ 0) (c2 : 3 ≤ x3) (v3 : Int) (S2 : fx_S) (k2 : fx_Sok S2) (b3 : v3 = 0) (p2 : s349 S1 3 v3 S2) (v4 : Int) (S3 : fx_S) (k3 : fx_Sok S3) (b4 : -2147483648 ≤ v4 ∧ v4 ≤ 2147483647) (p3 : s343 S2 6 v4 S3) (v5 : Int) (S4 : fx_S) (k4 : fx_Sok S4) (b5 : -2147483648 ≤ v5 ∧ v5 ≤ 2147483647) (p4 : s343 S3 7 v5 S4) (c3 : v5 = 0) (v6 : Int) (S5 : fx_S) (k5 : fx_Sok S5) (b6 : -2147483648 ≤ v6 ∧ v6 ≤ 2147483647) (p5 : s343 S4 8 v6 S5) (c4 : v6 = 0) (v7 : Int) (S6 : fx_S) (k6 : fx_Sok S6) (b7 : -2147483648 ≤ v7 ∧ v7 ≤ 2147483647) (p6 : s343 S5 9 v7 S6) (c5 : v7 = 0) (v8 : Int) (S7 : fx_S) (k7 : fx_Sok S7) (b8 : -2147483648 ≤ v8 ∧ v8 ≤ 2147483647) (p7 : s343 S6 10 v8 S7) (c6 : v8 ≠ 0) (v9 : Int) (e9 : v9 = S7.1 2 0) (b9 : -2147483648 ≤ v9 ∧ v9 ≤ 2147483647) (v10 : Int) (e10 : v10 = fx_sub v9 1) (v11 : Int) (S8 : fx_S) (k8 : fx_Sok S8) (b11 : -2147483648 ≤ v11 ∧ v11 ≤ 2147483647) (p8 : s346 S7 0 v10 v11 S8) (v12 : Int) (S9 : fx_S) (k9 : fx_Sok S9) (b12 : -2147483648 ≤ v12 ∧ v12 ≤ 2147483647) (p9 : s346 S8 0 9999 v12 S9) (c7 : 0 ≤ v11) (c8 : v11 < 40) (v13 : Int) (e13 : v13 = S9.1 3 v11) (b13 : -2147483648 ≤ v13 ∧ v13 ≤ 2147483647) (c9 : 0 ≤ v11) (c10 : v11 < 40) (v14 : Int) (e14 : v14 = S9.1 4 v11) (b14 : -2147483648 ≤ v14 ∧ v14 ≤ 2147483647) (v15 : Int) (S10 : fx_S) (k10 : fx_Sok S10) (b15 : v15 = 0) (p10 : s403 S9 x1 v4 v13 v14 v12 v15 S10) : s392 S x1 x3 0 S10 := by
  obtain rfl : S = S1 := p1
  obtain ⟨r2, f2⟩ := p2
  obtain ⟨r3, f3⟩ := p3
  obtain ⟨r4, f4⟩ := p4
  obtain ⟨r5, f5⟩ := p5
  obtain ⟨r6, f6⟩ := p6
  obtain ⟨r7, f7⟩ := p7
  obtain ⟨r8, f8⟩ := p8
  obtain ⟨r9, f9⟩ := p9
  obtain ⟨r10, f10⟩ := p10
  refine ⟨(r10).trans ((r9).trans ((r8).trans ((r7).trans ((r6).trans ((r5).trans ((r4).trans ((r3).trans (r2)))))))), ?_⟩
  · intro p i hW
    exact ((f10 p i (by omega))).trans (((f9 p i (by omega))).trans (((f8 p i (by omega))).trans (((f7 p i (by omega))).trans (((f6 p i (by omega))).trans (((f5 p i (by omega))).trans (((f4 p i (by omega))).trans (((f3 p i (by omega))).trans ((f2 p i (by omega))))))))))
theorem q392_7 (S : fx_S) (x1 x3 : Int) (hS : fx_Sok S) (g1 : 0 ≤ x1 ∧ x1 < S.2.2) (g3 : -2147483648 ≤ x3 ∧ x3 ≤ 2147483647) (v2 : Int) (S1 : fx_S) (k1 : fx_Sok S1) (b2 : -2147483648 ≤ v2 ∧ v2 ≤ 2147483647) (p1 : s376 S 6 v2 S1) (c1 : v2 ≠ 0) (c2 : 3 ≤ x3) (v3 : Int) (S2 : fx_S) (k2 : fx_Sok S2) (b3 : v3 = 0) (p2 : s349 S1 3 v3 S2) (v4 : Int) (S3 : fx_S) (k3 : fx_Sok S3) (b4 : -2147483648 ≤ v4 ∧ v4 ≤ 2147483647) (p3 : s343 S2 6 v4 S3) (v5 : Int) (S4 : fx_S) (k4 : fx_Sok S4) (b5 : -2147483648 ≤ v5 ∧ v5 ≤ 2147483647) (p4 : s343 S3 7 v5 S4) (c3 : v5 = 0) (v6 : Int) (S5 : fx_S) (k5 : fx_Sok S5) (b6 : -2147483648 ≤ v6 ∧ v6 ≤ 2147483647) (p5 : s343 S4 8 v6 S5) (c4 : v6 = 0) (v7 : Int) (S6 : fx_S) (k6 : fx_Sok S6) (b7 : -2147483648 ≤ v7 ∧ v7 ≤ 2147483647) (p6 : s343 S5 9 v7 S6) (c5 : v7 ≠ 0) (v8 : Int) (S7 : fx_S) (k7 : fx_Sok S7) (b8 : -2147483648 ≤ v8 ∧ v8 ≤ 2147483647) (p7 : s404 S6  v8 S7) (v9 : Int) (S8 : fx_S) (k8 : fx_Sok S8) (b9 : -2147483648 ≤ v9 ∧ v9 ≤ 2147483647) (p8 : s346 S7 0 9999 v9 S8) (v10 : Int) (S9 : fx_S) (k9 : fx_Sok S9) (b10 : v10 = 0) (p9 : s405 S8 x1 2 v4 v8 v9 v10 S9) : s392 S x1 x3 0 S9 := by
  obtain rfl : S = S1 := p1
  obtain ⟨r2, f2⟩ := p2
  obtain ⟨r3, f3⟩ := p3
  obtain ⟨r4, f4⟩ := p4
  obtain ⟨r5, f5⟩ := p5
  obtain ⟨r6, f6⟩ := p6
  obtain ⟨r7, f7⟩ := p7
  obtain ⟨r8, f8⟩ := p8
  obtain ⟨r9, f9⟩ := p9
  refine ⟨(r9).trans ((r8).trans ((r7).trans ((r6).trans ((r5).trans ((r4).trans ((r3).trans (r2))))))), ?_⟩
  · intro p i hW
    exact ((f9 p i (by omega))).trans (((f8 p i (by omega))).trans (((f7 p i (by omega))).trans (((f6 p i (by omega))).trans (((f5 p i (by omega))).trans (((f4 p i (by omega))).trans (((f3 p i (by omega))).trans ((f2 p i (by omega)))))))))
theorem q392_8 (S : fx_S) (x1 x3 : Int) (hS : fx_Sok S) (g1 : 0 ≤ x1 ∧ x1 < S.2.2) (g3 : -2147483648 ≤ x3 ∧ x3 ≤ 2147483647) (v2 : Int) (S1 : fx_S) (k1 : fx_Sok S1) (b2 : -2147483648 ≤ v2 ∧ v2 ≤ 2147483647) (p1 : s376 S 6 v2 S1) (c1 : v2 ≠ 0) (c2 : 3 ≤ x3) (v3 : Int) (S2 : fx_S) (k2 : fx_Sok S2) (b3 : v3 = 0) (p2 : s349 S1 3 v3 S2) (v4 : Int) (S3 : fx_S) (k3 : fx_Sok S3) (b4 : -2147483648 ≤ v4 ∧ v4 ≤ 2147483647) (p3 : s343 S2 6 v4 S3) (v5 : Int) (S4 : fx_S) (k4 : fx_Sok S4) (b5 : -2147483648 ≤ v5 ∧ v5 ≤ 2147483647) (p4 : s343 S3 7 v5 S4) (c3 : v5 = 0) (v6 : Int) (S5 : fx_S) (k5 : fx_Sok S5) (b6 : -2147483648 ≤ v6 ∧ v6 ≤ 2147483647) (p5 : s343 S4 8 v6 S5) (c4 : v6 ≠ 0) (v7 : Int) (S6 : fx_S) (k6 : fx_Sok S6) (b7 : -2147483648 ≤ v7 ∧ v7 ≤ 2147483647) (p6 : s404 S5  v7 S6) (v8 : Int) (S7 : fx_S) (k7 : fx_Sok S7) (b8 : -2147483648 ≤ v8 ∧ v8 ≤ 2147483647) (p7 : s346 S6 0 9999 v8 S7) (v9 : Int) (S8 : fx_S) (k8 : fx_Sok S8) (b9 : v9 = 0) (p8 : s405 S7 x1 1 v4 v7 v8 v9 S8) : s392 S x1 x3 0 S8 := by
  obtain rfl : S = S1 := p1
  obtain ⟨r2, f2⟩ := p2
  obtain ⟨r3, f3⟩ := p3
  obtain ⟨r4, f4⟩ := p4
  obtain ⟨r5, f5⟩ := p5
  obtain ⟨r6, f6⟩ := p6
  obtain ⟨r7, f7⟩ := p7
  obtain ⟨r8, f8⟩ := p8
  refine ⟨(r8).trans ((r7).trans ((r6).trans ((r5).trans ((r4).trans ((r3).trans (r2)))))), ?_⟩
  · intro p i hW
    exact ((f8 p i (by omega))).trans (((f7 p i (by omega))).trans (((f6 p i (by omega))).trans (((f5 p i (by omega))).trans (((f4 p i (by omega))).trans (((f3 p i (by omega))).trans ((f2 p i (by omega))))))))
theorem q392_9 (S : fx_S) (x1 x3 : Int) (hS : fx_Sok S) (g1 : 0 ≤ x1 ∧ x1 < S.2.2) (g3 : -2147483648 ≤ x3 ∧ x3 ≤ 2147483647) (v2 : Int) (S1 : fx_S) (k1 : fx_Sok S1) (b2 : -2147483648 ≤ v2 ∧ v2 ≤ 2147483647) (p1 : s376 S 6 v2 S1) (c1 : v2 ≠ 0) (c2 : 3 ≤ x3) (v3 : Int) (S2 : fx_S) (k2 : fx_Sok S2) (b3 : v3 = 0) (p2 : s349 S1 3 v3 S2) (v4 : Int) (S3 : fx_S) (k3 : fx_Sok S3) (b4 : -2147483648 ≤ v4 ∧ v4 ≤ 2147483647) (p3 : s343 S2 6 v4 S3) (v5 : Int) (S4 : fx_S) (k4 : fx_Sok S4) (b5 : -2147483648 ≤ v5 ∧ v5 ≤ 2147483647) (p4 : s343 S3 7 v5 S4) (c3 : v5 ≠ 0) (v6 : Int) (S5 : fx_S) (k5 : fx_Sok S5) (b6 : v6 = 0) (p5 : s345 S4 61 v6 S5) (v7 : Int) (S6 : fx_S) (k6 : fx_Sok S6) (b7 : -2147483648 ≤ v7 ∧ v7 ≤ 2147483647) (p6 : s346 S5 0 9999 v7 S6) (v8 : Int) (S7 : fx_S) (k7 : fx_Sok S7) (b8 : v8 = 0) (p7 : s405 S6 x1 0 v4 61 v7 v8 S7) : s392 S x1 x3 0 S7 := by
  obtain rfl : S = S1 := p1
  obtain ⟨r2, f2⟩ := p2
  obtain ⟨r3, f3⟩ := p3
  obtain ⟨r4, f4⟩ := p4
  obtain ⟨r5, f5⟩ := p5
  obtain ⟨r6, f6⟩ := p6
  obtain ⟨r7, f7⟩ := p7
  refine ⟨(r7).trans ((r6).trans ((r5).trans ((r4).trans ((r3).trans (r2))))), ?_⟩
  · intro p i hW
    exact ((f7 p i (by omega))).trans (((f6 p i (by omega))).trans (((f5 p i (by omega))).trans (((f4 p i (by omega))).trans (((f3 p i (by omega))).trans ((f2 p i (by omega)))))))
theorem q392_10 (S : fx_S) (x1 x3 : Int) (hS : fx_Sok S) (g1 : 0 ≤ x1 ∧ x1 < S.2.2) (g3 : -2147483648 ≤ x3 ∧ x3 ≤ 2147483647) (v2 : Int) (S1 : fx_S) (k1 : fx_Sok S1) (b2 : -2147483648 ≤ v2 ∧ v2 ≤ 2147483647) (p1 : s376 S 6 v2 S1) (c1 : v2 = 0) (v3 : Int) (S2 : fx_S) (k2 : fx_Sok S2) (b3 : -2147483648 ≤ v3 ∧ v3 ≤ 2147483647) (p2 : s406 S1  v3 S2) (c2 : v3 ≠ 0) (c3 : x3 < 3) (v4 : Int) (S3 : fx_S) (k3 : fx_Sok S3) (b4 : -2147483648 ≤ v4 ∧ v4 ≤ 2147483647) (p3 : s343 S2 6 v4 S3) (v5 : Int) (S4 : fx_S) (k4 : fx_Sok S4) (b5 : -2147483648 ≤ v5 ∧ v5 ≤ 2147483647) (p4 : s343 S3 7 v5 S4) (c4 : v5 = 0) (v6 : Int) (S5 : fx_S) (k5 : fx_Sok S5) (b6 : -2147483648 ≤ v6 ∧ v6 ≤ 2147483647) (p5 : s343 S4 8 v6 S5) (c5 : v6 = 0) (v7 : Int) (S6 : fx_S) (k6 : fx_Sok S6) (b7 : -2147483648 ≤ v7 ∧ v7 ≤ 2147483647) (p6 : s343 S5 9 v7 S6) (c6 : v7 = 0) (v8 : Int) (S7 : fx_S) (k7 : fx_Sok S7) (b8 : -2147483648 ≤ v8 ∧ v8 ≤ 2147483647) (p7 : s343 S6 10 v8 S7) (c7 : v8 = 0) (v9 : Int) (S8 : fx_S) (k8 : fx_Sok S8) (b9 : v9 = 0) (p8 : s349 S7 1 v9 S8) : s392 S x1 x3 0 S8 := by
  obtain rfl : S = S1 := p1
  obtain rfl : S = S2 := p2
  obtain ⟨r3, f3⟩ := p3
  obtain ⟨r4, f4⟩ := p4
  obtain ⟨r5, f5⟩ := p5
  obtain ⟨r6, f6⟩ := p6
  obtain ⟨r7, f7⟩ := p7
  obtain ⟨r8, f8⟩ := p8
  refine ⟨(r8).trans ((r7).trans ((r6).trans ((r5).trans ((r4).trans (r3))))), ?_⟩
  · intro p i hW
    exact ((f8 p i (by omega))).trans (((f7 p i (by omega))).trans (((f6 p i (by omega))).trans (((f5 p i (by omega))).trans (((f4 p i (by omega))).trans ((f3 p i (by omega)))))))
theorem q392_11 (S : fx_S) (x1 x3 : Int) (hS : fx_Sok S) (g1 : 0 ≤ x1 ∧ x1 < S.2.2) (g3 : -2147483648 ≤ x3 ∧ x3 ≤ 2147483647) (v2 : Int) (S1 : fx_S) (k1 : fx_Sok S1) (b2 : -2147483648 ≤ v2 ∧ v2 ≤ 2147483647) (p1 : s376 S 6 v2 S1) (c1 : v2 = 0) (v3 : Int) (S2 : fx_S) (k2 : fx_Sok S2) (b3 : -2147483648 ≤ v3 ∧ v3 ≤ 2147483647) (p2 : s406 S1  v3 S2) (c2 : v3 ≠ 0) (c3 : x3 < 3) (v4 : Int) (S3 : fx_S) (k3 : fx_Sok S3) (b4 : -2147483648 ≤ v4 ∧ v4 ≤ 2147483647) (p3 : s343 S2 6 v4 S3) (v5 : Int) (S4 : fx_S) (k4 : fx_Sok S4) (b5 : -2147483648 ≤ v5 ∧ v5 ≤ 2147483647) (p4 : s343 S3 7 v5 S4) (c4 : v5 = 0) (v6 : Int) (S5 : fx_S) (k5 : fx_Sok S5) (b6 : -2147483648 ≤ v6 ∧ v6 ≤ 2147483647) (p5 : s343 S4 8 v6 S5) (c5 : v6 = 0) (v7 : Int) (S6 : fx_S) (k6 : fx_Sok S6) (b7 : -2147483648 ≤ v7 ∧ v7 ≤ 2147483647) (p6 : s343 S5 9 v7 S6) (c6 : v7 = 0) (v8 : Int) (S7 : fx_S) (k7 : fx_Sok S7) (b8 : -2147483648 ≤ v8 ∧ v8 ≤ 2147483647) (p7 : s343 S6 10 v8 S7) (c7 : v8 ≠ 0) (v9 : Int) (e9 : v9 = S7.1 2 0) (b9 : -2147483648 ≤ v9 ∧ v9 ≤ 2147483647) (v10 : Int) (e10 : v10 = fx_sub v9 1) (v11 : Int) (S8 : fx_S) (k8 : fx_Sok S8) (b11 : -2147483648 ≤ v11 ∧ v11 ≤ 2147483647) (p8 : s346 S7 0 v10 v11 S8) (v12 : Int) (S9 : fx_S) (k9 : fx_Sok S9) (b12 : -2147483648 ≤ v12 ∧ v12 ≤ 2147483647) (p9 : s346 S8 0 9999 v12 S9) (c8 : 0 ≤ v11) (c9 : v11 < 40) (v13 : Int) (e13 : v13 = S9.1 3 v11) (b13 : -2147483648 ≤ v13 ∧ v13 ≤ 2147483647) (c10 : 0 ≤ v11) (c11 : v11 < 40) (v14 : Int) (e14 : v14 = S9.1 4 v11) (b14 : -2147483648 ≤ v14 ∧ v14 ≤ 2147483647) (v15 : Int) (S10 : fx_S) (k10 : fx_Sok S10) (b15 : v15 = 0) (p10 : s403 S9 x1 v4 v13 v14 v12 v15 S10) : s392 S x1 x3 0 S10 := by
  obtain rfl : S = S1 := p1
  obtain rfl : S = S2 := p2
  obtain ⟨r3, f3⟩ := p3
  obtain ⟨r4, f4⟩ := p4
  obtain ⟨r5, f5⟩ := p5
  obtain ⟨r6, f6⟩ := p6
  obtain ⟨r7, f7⟩ := p7
  obtain ⟨r8, f8⟩ := p8
  obtain ⟨r9, f9⟩ := p9
  obtain ⟨r10, f10⟩ := p10
  refine ⟨(r10).trans ((r9).trans ((r8).trans ((r7).trans ((r6).trans ((r5).trans ((r4).trans (r3))))))), ?_⟩
  · intro p i hW
    exact ((f10 p i (by omega))).trans (((f9 p i (by omega))).trans (((f8 p i (by omega))).trans (((f7 p i (by omega))).trans (((f6 p i (by omega))).trans (((f5 p i (by omega))).trans (((f4 p i (by omega))).trans ((f3 p i (by omega)))))))))
theorem q392_12 (S : fx_S) (x1 x3 : Int) (hS : fx_Sok S) (g1 : 0 ≤ x1 ∧ x1 < S.2.2) (g3 : -2147483648 ≤ x3 ∧ x3 ≤ 2147483647) (v2 : Int) (S1 : fx_S) (k1 : fx_Sok S1) (b2 : -2147483648 ≤ v2 ∧ v2 ≤ 2147483647) (p1 : s376 S 6 v2 S1) (c1 : v2 = 0) (v3 : Int) (S2 : fx_S) (k2 : fx_Sok S2) (b3 : -2147483648 ≤ v3 ∧ v3 ≤ 2147483647) (p2 : s406 S1  v3 S2) (c2 : v3 ≠ 0) (c3 : x3 < 3) (v4 : Int) (S3 : fx_S) (k3 : fx_Sok S3) (b4 : -2147483648 ≤ v4 ∧ v4 ≤ 2147483647) (p3 : s343 S2 6 v4 S3) (v5 : Int) (S4 : fx_S) (k4 : fx_Sok S4) (b5 : -2147483648 ≤ v5 ∧ v5 ≤ 2147483647) (p4 : s343 S3 7 v5 S4) (c4 : v5 = 0) (v6 : Int) (S5 : fx_S) (k5 : fx_Sok S5) (b6 : -2147483648 ≤ v6 ∧ v6 ≤ 2147483647) (p5 : s343 S4 8 v6 S5) (c5 : v6 = 0) (v7 : Int) (S6 : fx_S) (k6 : fx_Sok S6) (b7 : -2147483648 ≤ v7 ∧ v7 ≤ 2147483647) (p6 : s343 S5 9 v7 S6) (c6 : v7 ≠ 0) (v8 : Int) (S7 : fx_S) (k7 : fx_Sok S7) (b8 : -2147483648 ≤ v8 ∧ v8 ≤ 2147483647) (p7 : s404 S6  v8 S7) (v9 : Int) (S8 : fx_S) (k8 : fx_Sok S8) (b9 : -2147483648 ≤ v9 ∧ v9 ≤ 2147483647) (p8 : s346 S7 0 9999 v9 S8) (v10 : Int) (S9 : fx_S) (k9 : fx_Sok S9) (b10 : v10 = 0) (p9 : s405 S8 x1 2 v4 v8 v9 v10 S9) : s392 S x1 x3 0 S9 := by
  obtain rfl : S = S1 := p1
  obtain rfl : S = S2 := p2
  obtain ⟨r3, f3⟩ := p3
  obtain ⟨r4, f4⟩ := p4
  obtain ⟨r5, f5⟩ := p5
  obtain ⟨r6, f6⟩ := p6
  obtain ⟨r7, f7⟩ := p7
  obtain ⟨r8, f8⟩ := p8
  obtain ⟨r9, f9⟩ := p9
  refine ⟨(r9).trans ((r8).trans ((r7).trans ((r6).trans ((r5).trans ((r4).trans (r3)))))), ?_⟩
  · intro p i hW
    exact ((f9 p i (by omega))).trans (((f8 p i (by omega))).trans (((f7 p i (by omega))).trans (((f6 p i (by omega))).trans (((f5 p i (by omega))).trans (((f4 p i (by omega))).trans ((f3 p i (by omega))))))))
theorem q392_13 (S : fx_S) (x1 x3 : Int) (hS : fx_Sok S) (g1 : 0 ≤ x1 ∧ x1 < S.2.2) (g3 : -2147483648 ≤ x3 ∧ x3 ≤ 2147483647) (v2 : Int) (S1 : fx_S) (k1 : fx_Sok S1) (b2 : -2147483648 ≤ v2 ∧ v2 ≤ 2147483647) (p1 : s376 S 6 v2 S1) (c1 : v2 = 0) (v3 : Int) (S2 : fx_S) (k2 : fx_Sok S2) (b3 : -2147483648 ≤ v3 ∧ v3 ≤ 2147483647) (p2 : s406 S1  v3 S2) (c2 : v3 ≠ 0) (c3 : x3 < 3) (v4 : Int) (S3 : fx_S) (k3 : fx_Sok S3) (b4 : -2147483648 ≤ v4 ∧ v4 ≤ 2147483647) (p3 : s343 S2 6 v4 S3) (v5 : Int) (S4 : fx_S) (k4 : fx_Sok S4) (b5 : -2147483648 ≤ v5 ∧ v5 ≤ 2147483647) (p4 : s343 S3 7 v5 S4) (c4 : v5 = 0) (v6 : Int) (S5 : fx_S) (k5 : fx_Sok S5) (b6 : -2147483648 ≤ v6 ∧ v6 ≤ 2147483647) (p5 : s343 S4 8 v6 S5) (c5 : v6 ≠ 0) (v7 : Int) (S6 : fx_S) (k6 : fx_Sok S6) (b7 : -2147483648 ≤ v7 ∧ v7 ≤ 2147483647) (p6 : s404 S5  v7 S6) (v8 : Int) (S7 : fx_S) (k7 : fx_Sok S7) (b8 : -2147483648 ≤ v8 ∧ v8 ≤ 2147483647) (p7 : s346 S6 0 9999 v8 S7) (v9 : Int) (S8 : fx_S) (k8 : fx_Sok S8) (b9 : v9 = 0) (p8 : s405 S7 x1 1 v4 v7 v8 v9 S8) : s392 S x1 x3 0 S8 := by
  obtain rfl : S = S1 := p1
  obtain rfl : S = S2 := p2
  obtain ⟨r3, f3⟩ := p3
  obtain ⟨r4, f4⟩ := p4
  obtain ⟨r5, f5⟩ := p5
  obtain ⟨r6, f6⟩ := p6
  obtain ⟨r7, f7⟩ := p7
  obtain ⟨r8, f8⟩ := p8
  refine ⟨(r8).trans ((r7).trans ((r6).trans ((r5).trans ((r4).trans (r3))))), ?_⟩
  · intro p i hW
    exact ((f8 p i (by omega))).trans (((f7 p i (by omega))).trans (((f6 p i (by omega))).trans (((f5 p i (by omega))).trans (((f4 p i (by omega))).trans ((f3 p i (by omega)))))))
theorem q392_14 (S : fx_S) (x1 x3 : Int) (hS : fx_Sok S) (g1 : 0 ≤ x1 ∧ x1 < S.2.2) (g3 : -2147483648 ≤ x3 ∧ x3 ≤ 2147483647) (v2 : Int) (S1 : fx_S) (k1 : fx_Sok S1) (b2 : -2147483648 ≤ v2 ∧ v2 ≤ 2147483647) (p1 : s376 S 6 v2 S1) (c1 : v2 = 0) (v3 : Int) (S2 : fx_S) (k2 : fx_Sok S2) (b3 : -2147483648 ≤ v3 ∧ v3 ≤ 2147483647) (p2 : s406 S1  v3 S2) (c2 : v3 ≠ 0) (c3 : x3 < 3) (v4 : Int) (S3 : fx_S) (k3 : fx_Sok S3) (b4 : -2147483648 ≤ v4 ∧ v4 ≤ 2147483647) (p3 : s343 S2 6 v4 S3) (v5 : Int) (S4 : fx_S) (k4 : fx_Sok S4) (b5 : -2147483648 ≤ v5 ∧ v5 ≤ 2147483647) (p4 : s343 S3 7 v5 S4) (c4 : v5 ≠ 0) (v6 : Int) (S5 : fx_S) (k5 : fx_Sok S5) (b6 : v6 = 0) (p5 : s345 S4 61 v6 S5) (v7 : Int) (S6 : fx_S) (k6 : fx_Sok S6) (b7 : -2147483648 ≤ v7 ∧ v7 ≤ 2147483647) (p6 : s346 S5 0 9999 v7 S6) (v8 : Int) (S7 : fx_S) (k7 : fx_Sok S7) (b8 : v8 = 0) (p7 : s405 S6 x1 0 v4 61 v7 v8 S7) : s392 S x1 x3 0 S7 := by
  obtain rfl : S = S1 := p1
  obtain rfl : S = S2 := p2
  obtain ⟨r3, f3⟩ := p3
  obtain ⟨r4, f4⟩ := p4
  obtain ⟨r5, f5⟩ := p5
  obtain ⟨r6, f6⟩ := p6
  obtain ⟨r7, f7⟩ := p7
  refine ⟨(r7).trans ((r6).trans ((r5).trans ((r4).trans (r3)))), ?_⟩
  · intro p i hW
    exact ((f7 p i (by omega))).trans (((f6 p i (by omega))).trans (((f5 p i (by omega))).trans (((f4 p i (by omega))).trans ((f3 p i (by omega))))))
theorem q392_15 (S : fx_S) (x1 x3 : Int) (hS : fx_Sok S) (g1 : 0 ≤ x1 ∧ x1 < S.2.2) (g3 : -2147483648 ≤ x3 ∧ x3 ≤ 2147483647) (v2 : Int) (S1 : fx_S) (k1 : fx_Sok S1) (b2 : -2147483648 ≤ v2 ∧ v2 ≤ 2147483647) (p1 : s376 S 6 v2 S1) (c1 : v2 = 0) (v3 : Int) (S2 : fx_S) (k2 : fx_Sok S2) (b3 : -2147483648 ≤ v3 ∧ v3 ≤ 2147483647) (p2 : s406 S1  v3 S2) (c2 : v3 ≠ 0) (c3 : 3 ≤ x3) (v4 : Int) (S3 : fx_S) (k3 : fx_Sok S3) (b4 : v4 = 0) (p3 : s349 S2 3 v4 S3) (v5 : Int) (S4 : fx_S) (k4 : fx_Sok S4) (b5 : -2147483648 ≤ v5 ∧ v5 ≤ 2147483647) (p4 : s343 S3 6 v5 S4) (v6 : Int) (S5 : fx_S) (k5 : fx_Sok S5) (b6 : -2147483648 ≤ v6 ∧ v6 ≤ 2147483647) (p5 : s343 S4 7 v6 S5) (c4 : v6 = 0) (v7 : Int) (S6 : fx_S) (k6 : fx_Sok S6) (b7 : -2147483648 ≤ v7 ∧ v7 ≤ 2147483647) (p6 : s343 S5 8 v7 S6) (c5 : v7 = 0) (v8 : Int) (S7 : fx_S) (k7 : fx_Sok S7) (b8 : -2147483648 ≤ v8 ∧ v8 ≤ 2147483647) (p7 : s343 S6 9 v8 S7) (c6 : v8 = 0) (v9 : Int) (S8 : fx_S) (k8 : fx_Sok S8) (b9 : -2147483648 ≤ v9 ∧ v9 ≤ 2147483647) (p8 : s343 S7 10 v9 S8) (c7 : v9 = 0) (v10 : Int) (S9 : fx_S) (k9 : fx_Sok S9) (b10 : v10 = 0) (p9 : s349 S8 1 v10 S9) : s392 S x1 x3 0 S9 := by
  obtain rfl : S = S1 := p1
  obtain rfl : S = S2 := p2
  obtain ⟨r3, f3⟩ := p3
  obtain ⟨r4, f4⟩ := p4
  obtain ⟨r5, f5⟩ := p5
  obtain ⟨r6, f6⟩ := p6
  obtain ⟨r7, f7⟩ := p7
  obtain ⟨r8, f8⟩ := p8
  obtain ⟨r9, f9⟩ := p9
  refine ⟨(r9).trans ((r8).trans ((r7).trans ((r6).trans ((r5).trans ((r4).trans (r3)))))), ?_⟩
  · intro p i hW
    exact ((f9 p i (by omega))).trans (((f8 p i (by omega))).trans (((f7 p i (by omega))).trans (((f6 p i (by omega))).trans (((f5 p i (by omega))).trans (((f4 p i (by omega))).trans ((f3 p i (by omega))))))))
theorem q392_16 (S : fx_S) (x1 x3 : Int) (hS : fx_Sok S) (g1 : 0 ≤ x1 ∧ x1 < S.2.2) (g3 : -2147483648 ≤ x3 ∧ x3 ≤ 2147483647) (v2 : Int) (S1 : fx_S) (k1 : fx_Sok S1) (b2 : -2147483648 ≤ v2 ∧ v2 ≤ 2147483647) (p1 : s376 S 6 v2 S1) (c1 : v2 = 0) (v3 : Int) (S2 : fx_S) (k2 : fx_Sok S2) (b3 : -2147483648 ≤ v3 ∧ v3 ≤ 2147483647) (p2 : s406 S1  v3 S2) (c2 : v3 ≠ 0) (c3 : 3 ≤ x3) (v4 : Int) (S3 : fx_S) (k3 : fx_Sok S3) (b4 : v4 = 0) (p3 : s349 S2 3 v4 S3) (v5 : Int) (S4 : fx_S) (k4 : fx_Sok S4) (b5 : -2147483648 ≤ v5 ∧ v5 ≤ 2147483647) (p4 : s343 S3 6 v5 S4) (v6 : Int) (S5 : fx_S) (k5 : fx_Sok S5) (b6 : -2147483648 ≤ v6 ∧ v6 ≤ 2147483647) (p5 : s343 S4 7 v6 S5) (c4 : v6 = 0) (v7 : Int) (S6 : fx_S) (k6 : fx_Sok S6) (b7 : -2147483648 ≤ v7 ∧ v7 ≤ 2147483647) (p6 : s343 S5 8 v7 S6) (c5 : v7 = 0) (v8 : Int) (S7 : fx_S) (k7 : fx_Sok S7) (b8 : -2147483648 ≤ v8 ∧ v8 ≤ 2147483647) (p7 : s343 S6 9 v8 S7) (c6 : v8 = 0) (v9 : Int) (S8 : fx_S) (k8 : fx_Sok S8) (b9 : -2147483648 ≤ v9 ∧ v9 ≤ 2147483647) (p8 : s343 S7 10 v9 S8) (c7 : v9 ≠ 0) (v10 : Int) (e10 : v10 = S8.1 2 0) (b10 : -2147483648 ≤ v10 ∧ v10 ≤ 2147483647) (v11 : Int) (e11 : v11 = fx_sub v10 1) (v12 : Int) (S9 : fx_S) (k9 : fx_Sok S9) (b12 : -2147483648 ≤ v12 ∧ v12 ≤ 2147483647) (p9 : s346 S8 0 v11 v12 S9) (v13 : Int) (S10 : fx_S) (k10 : fx_Sok S10) (b13 : -2147483648 ≤ v13 ∧ v13 ≤ 2147483647) (p10 : s346 S9 0 9999 v13 S10) (c8 : 0 ≤ v12) (c9 : v12 < 40) (v14 : Int) (e14 : v14 = S10.1 3 v12) (b14 : -2147483648 ≤ v14 ∧ v14 ≤ 2147483647) (c10 : 0 ≤ v12) (c11 : v12 < 40) (v15 : Int) (e15 : v15 = S10.1 4 v12) (b15 : -2147483648 ≤ v15 ∧ v15 ≤ 2147483647) (v16 : Int) (S11 : fx_S) (k11 : fx_Sok S11) (b16 : v16 = 0) (p11 : s403 S10 x1 v5 v14 v15 v13 v16 S11) : s392 S x1 x3 0 S11 := by
  obtain rfl : S = S1 := p1
  obtain rfl : S = S2 := p2
  obtain ⟨r3, f3⟩ := p3
  obtain ⟨r4, f4⟩ := p4
  obtain ⟨r5, f5⟩ := p5
  obtain ⟨r6, f6⟩ := p6
  obtain ⟨r7, f7⟩ := p7
  obtain ⟨r8, f8⟩ := p8
  obtain ⟨r9, f9⟩ := p9
  obtain ⟨r10, f10⟩ := p10
  obtain ⟨r11, f11⟩ := p11
  refine ⟨(r11).trans ((r10).trans ((r9).trans ((r8).trans ((r7).trans ((r6).trans ((r5).trans ((r4).trans (r3)))))))), ?_⟩
  · intro p i hW
    exact ((f11 p i (by omega))).trans (((f10 p i (by omega))).trans (((f9 p i (by omega))).trans (((f8 p i (by omega))).trans (((f7 p i (by omega))).trans (((f6 p i (by omega))).trans (((f5 p i (by omega))).trans (((f4 p i (by omega))).trans ((f3 p i (by omega))))))))))
theorem q392_17 (S : fx_S) (x1 x3 : Int) (hS : fx_Sok S) (g1 : 0 ≤ x1 ∧ x1 < S.2.2) (g3 : -2147483648 ≤ x3 ∧ x3 ≤ 2147483647) (v2 : Int) (S1 : fx_S) (k1 : fx_Sok S1) (b2 : -2147483648 ≤ v2 ∧ v2 ≤ 2147483647) (p1 : s376 S 6 v2 S1) (c1 : v2 = 0) (v3 : Int) (S2 : fx_S) (k2 : fx_Sok S2) (b3 : -2147483648 ≤ v3 ∧ v3 ≤ 2147483647) (p2 : s406 S1  v3 S2) (c2 : v3 ≠ 0) (c3 : 3 ≤ x3) (v4 : Int) (S3 : fx_S) (k3 : fx_Sok S3) (b4 : v4 = 0) (p3 : s349 S2 3 v4 S3) (v5 : Int) (S4 : fx_S) (k4 : fx_Sok S4) (b5 : -2147483648 ≤ v5 ∧ v5 ≤ 2147483647) (p4 : s343 S3 6 v5 S4) (v6 : Int) (S5 : fx_S) (k5 : fx_Sok S5) (b6 : -2147483648 ≤ v6 ∧ v6 ≤ 2147483647) (p5 : s343 S4 7 v6 S5) (c4 : v6 = 0) (v7 : Int) (S6 : fx_S) (k6 : fx_Sok S6) (b7 : -2147483648 ≤ v7 ∧ v7 ≤ 2147483647) (p6 : s343 S5 8 v7 S6) (c5 : v7 = 0) (v8 : Int) (S7 : fx_S) (k7 : fx_Sok S7) (b8 : -2147483648 ≤ v8 ∧ v8 ≤ 2147483647) (p7 : s343 S6 9 v8 S7) (c6 : v8 ≠ 0) (v9 : Int) (S8 : fx_S) (k8 : fx_Sok S8) (b9 : -2147483648 ≤ v9 ∧ v9 ≤ 2147483647) (p8 : s404 S7  v9 S8) (v10 : Int) (S9 : fx_S) (k9 : fx_Sok S9) (b10 : -2147483648 ≤ v10 ∧ v10 ≤ 2147483647) (p9 : s346 S8 0 9999 v10 S9) (v11 : Int) (S10 : fx_S) (k10 : fx_Sok S10) (b11 : v11 = 0) (p10 : s405 S9 x1 2 v5 v9 v10 v11 S10) : s392 S x1 x3 0 S10 := by
  obtain rfl : S = S1 := p1
  obtain rfl : S = S2 := p2
  obtain ⟨r3, f3⟩ := p3
  obtain ⟨r4, f4⟩ := p4
  obtain ⟨r5, f5⟩ := p5
  obtain ⟨r6, f6⟩ := p6
  obtain ⟨r7, f7⟩ := p7
  obtain ⟨r8, f8⟩ := p8
  obtain ⟨r9, f9⟩ := p9
  obtain ⟨r10, f10⟩ := p10
  refine ⟨(r10).trans ((r9).trans ((r8).trans ((r7).trans ((r6).trans ((r5).trans ((r4).trans (r3))))))), ?_⟩
  · intro p i hW
    exact ((f10 p i (by omega))).trans (((f9 p i (by omega))).trans (((f8 p i (by omega))).trans (((f7 p i (by omega))).trans (((f6 p i (by omega))).trans (((f5 p i (by omega))).trans (((f4 p i (by omega))).trans ((f3 p i (by omega)))))))))
theorem q392_18 (S : fx_S) (x1 x3 : Int) (hS : fx_Sok S) (g1 : 0 ≤ x1 ∧ x1 < S.2.2) (g3 : -2147483648 ≤ x3 ∧ x3 ≤ 2147483647) (v2 : Int) (S1 : fx_S) (k1 : fx_Sok S1) (b2 : -2147483648 ≤ v2 ∧ v2 ≤ 2147483647) (p1 : s376 S 6 v2 S1) (c1 : v2 = 0) (v3 : Int) (S2 : fx_S) (k2 : fx_Sok S2) (b3 : -2147483648 ≤ v3 ∧ v3 ≤ 2147483647) (p2 : s406 S1  v3 S2) (c2 : v3 ≠ 0) (c3 : 3 ≤ x3) (v4 : Int) (S3 : fx_S) (k3 : fx_Sok S3) (b4 : v4 = 0) (p3 : s349 S2 3 v4 S3) (v5 : Int) (S4 : fx_S) (k4 : fx_Sok S4) (b5 : -2147483648 ≤ v5 ∧ v5 ≤ 2147483647) (p4 : s343 S3 6 v5 S4) (v6 : Int) (S5 : fx_S) (k5 : fx_Sok S5) (b6 : -2147483648 ≤ v6 ∧ v6 ≤ 2147483647) (p5 : s343 S4 7 v6 S5) (c4 : v6 = 0) (v7 : Int) (S6 : fx_S) (k6 : fx_Sok S6) (b7 : -2147483648 ≤ v7 ∧ v7 ≤ 2147483647) (p6 : s343 S5 8 v7 S6) (c5 : v7 ≠ 0) (v8 : Int) (S7 : fx_S) (k7 : fx_Sok S7) (b8 : -2147483648 ≤ v8 ∧ v8 ≤ 2147483647) (p7 : s404 S6  v8 S7) (v9 : Int) (S8 : fx_S) (k8 : fx_Sok S8) (b9 : -2147483648 ≤ v9 ∧ v9 ≤ 2147483647) (p8 : s346 S7 0 9999 v9 S8) (v10 : Int) (S9 : fx_S) (k9 : fx_Sok S9) (b10 : v10 = 0) (p9 : s405 S8 x1 1 v5 v8 v9 v10 S9) : s392 S x1 x3 0 S9 := by
  obtain rfl : S = S1 := p1
  obtain rfl : S = S2 := p2
  obtain ⟨r3, f3⟩ := p3
  obtain ⟨r4, f4⟩ := p4
  obtain ⟨r5, f5⟩ := p5
  obtain ⟨r6, f6⟩ := p6
  obtain ⟨r7, f7⟩ := p7
  obtain ⟨r8, f8⟩ := p8
  obtain ⟨r9, f9⟩ := p9
  refine ⟨(r9).trans ((r8).trans ((r7).trans ((r6).trans ((r5).trans ((r4).trans (r3)))))), ?_⟩
  · intro p i hW
    exact ((f9 p i (by omega))).trans (((f8 p i (by omega))).trans (((f7 p i (by omega))).trans (((f6 p i (by omega))).trans (((f5 p i (by omega))).trans (((f4 p i (by omega))).trans ((f3 p i (by omega))))))))
theorem q392_19 (S : fx_S) (x1 x3 : Int) (hS : fx_Sok S) (g1 : 0 ≤ x1 ∧ x1 < S.2.2) (g3 : -2147483648 ≤ x3 ∧ x3 ≤ 2147483647) (v2 : Int) (S1 : fx_S) (k1 : fx_Sok S1) (b2 : -2147483648 ≤ v2 ∧ v2 ≤ 2147483647) (p1 : s376 S 6 v2 S1) (c1 : v2 = 0) (v3 : Int) (S2 : fx_S) (k2 : fx_Sok S2) (b3 : -2147483648 ≤ v3 ∧ v3 ≤ 2147483647) (p2 : s406 S1  v3 S2) (c2 : v3 ≠ 0) (c3 : 3 ≤ x3) (v4 : Int) (S3 : fx_S) (k3 : fx_Sok S3) (b4 : v4 = 0) (p3 : s349 S2 3 v4 S3) (v5 : Int) (S4 : fx_S) (k4 : fx_Sok S4) (b5 : -2147483648 ≤ v5 ∧ v5 ≤ 2147483647) (p4 : s343 S3 6 v5 S4) (v6 : Int) (S5 : fx_S) (k5 : fx_Sok S5) (b6 : -2147483648 ≤ v6 ∧ v6 ≤ 2147483647) (p5 : s343 S4 7 v6 S5) (c4 : v6 ≠ 0) (v7 : Int) (S6 : fx_S) (k6 : fx_Sok S6) (b7 : v7 = 0) (p6 : s345 S5 61 v7 S6) (v8 : Int) (S7 : fx_S) (k7 : fx_Sok S7) (b8 : -2147483648 ≤ v8 ∧ v8 ≤ 2147483647) (p7 : s346 S6 0 9999 v8 S7) (v9 : Int) (S8 : fx_S) (k8 : fx_Sok S8) (b9 : v9 = 0) (p8 : s405 S7 x1 0 v5 61 v8 v9 S8) : s392 S x1 x3 0 S8 := by
  obtain rfl : S = S1 := p1
  obtain rfl : S = S2 := p2
  obtain ⟨r3, f3⟩ := p3
  obtain ⟨r4, f4⟩ := p4
  obtain ⟨r5, f5⟩ := p5
  obtain ⟨r6, f6⟩ := p6
  obtain ⟨r7, f7⟩ := p7
  obtain ⟨r8, f8⟩ := p8
  refine ⟨(r8).trans ((r7).trans ((r6).trans ((r5).trans ((r4).trans (r3))))), ?_⟩
  · intro p i hW
    exact ((f8 p i (by omega))).trans (((f7 p i (by omega))).trans (((f6 p i (by omega))).trans (((f5 p i (by omega))).trans (((f4 p i (by omega))).trans ((f3 p i (by omega)))))))
theorem q392_20 (S : fx_S) (x1 x3 : Int) (hS : fx_Sok S) (g1 : 0 ≤ x1 ∧ x1 < S.2.2) (g3 : -2147483648 ≤ x3 ∧ x3 ≤ 2147483647) (v2 : Int) (S1 : fx_S) (k1 : fx_Sok S1) (b2 : -2147483648 ≤ v2 ∧ v2 ≤ 2147483647) (p1 : s376 S 6 v2 S1) (c1 : v2 = 0) (v3 : Int) (S2 : fx_S) (k2 : fx_Sok S2) (b3 : -2147483648 ≤ v3 ∧ v3 ≤ 2147483647) (p2 : s406 S1  v3 S2) (c2 : v3 = 0) (v4 : Int) (S3 : fx_S) (k3 : fx_Sok S3) (b4 : v4 = 0) (p3 : s349 S2 1 v4 S3) (v5 : Int) (S4 : fx_S) (k4 : fx_Sok S4) (b5 : -2147483648 ≤ v5 ∧ v5 ≤ 2147483647) (p4 : s343 S3 6 v5 S4) (v6 : Int) (S5 : fx_S) (k5 : fx_Sok S5) (b6 : -2147483648 ≤ v6 ∧ v6 ≤ 2147483647) (p5 : s343 S4 7 v6 S5) (c3 : v6 = 0) (v7 : Int) (S6 : fx_S) (k6 : fx_Sok S6) (b7 : -2147483648 ≤ v7 ∧ v7 ≤ 2147483647) (p6 : s343 S5 8 v7 S6) (c4 : v7 = 0) (v8 : Int) (S7 : fx_S) (k7 : fx_Sok S7) (b8 : -2147483648 ≤ v8 ∧ v8 ≤ 2147483647) (p7 : s343 S6 9 v8 S7) (c5 : v8 = 0) (v9 : Int) (S8 : fx_S) (k8 : fx_Sok S8) (b9 : -2147483648 ≤ v9 ∧ v9 ≤ 2147483647) (p8 : s343 S7 10 v9 S8) (c6 : v9 = 0) (v10 : Int) (S9 : fx_S) (k9 : fx_Sok S9) (b10 : v10 = 0) (p9 : s349 S8 1 v10 S9) : s392 S x1 x3 0 S9 := by
  obtain rfl : S = S1 := p1
  obtain rfl : S = S2 := p2
  obtain ⟨r3, f3⟩ := p3
  obtain ⟨r4, f4⟩ := p4
  obtain ⟨r5, f5⟩ := p5
  obtain ⟨r6, f6⟩ := p6
  obtain ⟨r7, f7⟩ := p7
  obtain ⟨r8, f8⟩ := p8
  obtain ⟨r9, f9⟩ := p9
  refine ⟨(r9).trans ((r8).trans ((r7).trans ((r6).trans ((r5).trans ((r4).trans (r3)))))), ?_⟩
  · intro p i hW
    exact ((f9 p i (by omega))).trans (((f8 p i (by omega))).trans (((f7 p i (by omega))).trans (((f6 p i (by omega))).trans (((f5 p i (by omega))).trans (((f4 p i (by omega))).trans ((f3 p i (by omega))))))))
theorem q392_21 (S : fx_S) (x1 x3 : Int) (hS : fx_Sok S) (g1 : 0 ≤ x1 ∧ x1 < S.2.2) (g3 : -2147483648 ≤ x3 ∧ x3 ≤ 2147483647) (v2 : Int) (S1 : fx_S) (k1 : fx_Sok S1) (b2 : -2147483648 ≤ v2 ∧ v2 ≤ 2147483647) (p1 : s376 S 6 v2 S1) (c1 : v2 = 0) (v3 : Int) (S2 : fx_S) (k2 : fx_Sok S2) (b3 : -2147483648 ≤ v3 ∧ v3 ≤ 2147483647) (p2 : s406 S1  v3 S2) (c2 : v3 = 0) (v4 : Int) (S3 : fx_S) (k3 : fx_Sok S3) (b4 : v4 = 0) (p3 : s349 S2 1 v4 S3) (v5 : Int) (S4 : fx_S) (k4 : fx_Sok S4) (b5 : -2147483648 ≤ v5 ∧ v5 ≤ 2147483647) (p4 : s343 S3 6 v5 S4) (v6 : Int) (S5 : fx_S) (k5 : fx_Sok S5) (b6 : -2147483648 ≤ v6 ∧ v6 ≤ 2147483647) (p5 : s343 S4 7 v6 S5) (c3 : v6 = 0) (v7 : Int) (S6 : fx_S) (k6 : fx_Sok S6) (b7 : -2147483648 ≤ v7 ∧ v7 ≤ 2147483647) (p6 : s343 S5 8 v7 S6) (c4 : v7 = 0) (v8 : Int) (S7 : fx_S) (k7 : fx_Sok S7) (b8 : -2147483648 ≤ v8 ∧ v8 ≤ 2147483647) (p7 : s343 S6 9 v8 S7) (c5 : v8 = 0) (v9 : Int) (S8 : fx_S) (k8 : fx_Sok S8) (b9 : -2147483648 ≤ v9 ∧ v9 ≤ 2147483647) (p8 : s343 S7 10 v9 S8) (c6 : v9 ≠ 0) (v10 : Int) (e10 : v10 = S8.1 2 0) (b10 : -2147483648 ≤ v10 ∧ v10 ≤ 2147483647) (v11 : Int) (e11 : v11 = fx_sub v10 1) (v12 : Int) (S9 : fx_S) (k9 : fx_Sok S9) (b12 : -2147483648 ≤ v12 ∧ v12 ≤ 2147483647) (p9 : s346 S8 0 v11 v12 S9) (v13 : Int) (S10 : fx_S) (k10 : fx_Sok S10) (b13 : -2147483648 ≤ v13 ∧ v13 ≤ 2147483647) (p10 : s346 S9 0 9999 v13 S10) (c7 : 0 ≤ v12) (c8 : v12 < 40) (v14 : Int) (e14 : v14 = S10.1 3 v12) (b14 : -2147483648 ≤ v14 ∧ v14 ≤ 2147483647) (c9 : 0 ≤ v12) (c10 : v12 < 40) (v15 : Int) (e15 : v15 = S10.1 4 v12) (b15 : -2147483648 ≤ v15 ∧ v15 ≤ 2147483647) (v16 : Int) (S11 : fx_S) (k11 : fx_Sok S11) (b16 : v16 = 0) (p11 : s403 S10 x1 v5 v14 v15 v13 v16 S11) : s392 S x1 x3 0 S11 := by
  obtain rfl : S = S1 := p1
  obtain rfl : S = S2 := p2
  obtain ⟨r3, f3⟩ := p3
  obtain ⟨r4, f4⟩ := p4
  obtain ⟨r5, f5⟩ := p5
  obtain ⟨r6, f6⟩ := p6
  obtain ⟨r7, f7⟩ := p7
  obtain ⟨r8, f8⟩ := p8
  obtain ⟨r9, f9⟩ := p9
  obtain ⟨r10, f10⟩ := p10
  obtain ⟨r11, f11⟩ := p11
  refine ⟨(r11).trans ((r10).trans ((r9).trans ((r8).trans ((r7).trans ((r6).trans ((r5).trans ((r4).trans (r3)))))))), ?_⟩
  · intro p i hW
    exact ((f11 p i (by omega))).trans (((f10 p i (by omega))).trans (((f9 p i (by omega))).trans (((f8 p i (by omega))).trans (((f7 p i (by omega))).trans (((f6 p i (by omega))).trans (((f5 p i (by omega))).trans (((f4 p i (by omega))).trans ((f3 p i (by omega))))))))))
theorem q392_22 (S : fx_S) (x1 x3 : Int) (hS : fx_Sok S) (g1 : 0 ≤ x1 ∧ x1 < S.2.2) (g3 : -2147483648 ≤ x3 ∧ x3 ≤ 2147483647) (v2 : Int) (S1 : fx_S) (k1 : fx_Sok S1) (b2 : -2147483648 ≤ v2 ∧ v2 ≤ 2147483647) (p1 : s376 S 6 v2 S1) (c1 : v2 = 0) (v3 : Int) (S2 : fx_S) (k2 : fx_Sok S2) (b3 : -2147483648 ≤ v3 ∧ v3 ≤ 2147483647) (p2 : s406 S1  v3 S2) (c2 : v3 = 0) (v4 : Int) (S3 : fx_S) (k3 : fx_Sok S3) (b4 : v4 = 0) (p3 : s349 S2 1 v4 S3) (v5 : Int) (S4 : fx_S) (k4 : fx_Sok S4) (b5 : -2147483648 ≤ v5 ∧ v5 ≤ 2147483647) (p4 : s343 S3 6 v5 S4) (v6 : Int) (S5 : fx_S) (k5 : fx_Sok S5) (b6 : -2147483648 ≤ v6 ∧ v6 ≤ 2147483647) (p5 : s343 S4 7 v6 S5) (c3 : v6 = 0) (v7 : Int) (S6 : fx_S) (k6 : fx_Sok S6) (b7 : -2147483648 ≤ v7 ∧ v7 ≤ 2147483647) (p6 : s343 S5 8 v7 S6) (c4 : v7 = 0) (v8 : Int) (S7 : fx_S) (k7 : fx_Sok S7) (b8 : -2147483648 ≤ v8 ∧ v8 ≤ 2147483647) (p7 : s343 S6 9 v8 S7) (c5 : v8 ≠ 0) (v9 : Int) (S8 : fx_S) (k8 : fx_Sok S8) (b9 : -2147483648 ≤ v9 ∧ v9 ≤ 2147483647) (p8 : s404 S7  v9 S8) (v10 : Int) (S9 : fx_S) (k9 : fx_Sok S9) (b10 : -2147483648 ≤ v10 ∧ v10 ≤ 2147483647) (p9 : s346 S8 0 9999 v10 S9) (v11 : Int) (S10 : fx_S) (k10 : fx_Sok S10) (b11 : v11 = 0) (p10 : s405 S9 x1 2 v5 v9 v10 v11 S10) : s392 S x1 x3 0 S10 := by
  obtain rfl : S = S1 := p1
  obtain rfl : S = S2 := p2
  obtain ⟨r3, f3⟩ := p3
  obtain ⟨r4, f4⟩ := p4
  obtain ⟨r5, f5⟩ := p5
  obtain ⟨r6, f6⟩ := p6
  obtain ⟨r7, f7⟩ := p7
  obtain ⟨r8, f8⟩ := p8
  obtain ⟨r9, f9⟩ := p9
  obtain ⟨r10, f10⟩ := p10
  refine ⟨(r10).trans ((r9).trans ((r8).trans ((r7).trans ((r6).trans ((r5).trans ((r4).trans (r3))))))), ?_⟩
  · intro p i hW
    exact ((f10 p i (by omega))).trans (((f9 p i (by omega))).trans (((f8 p i (by omega))).trans (((f7 p i (by omega))).trans (((f6 p i (by omega))).trans (((f5 p i (by omega))).trans (((f4 p i (by omega))).trans ((f3 p i (by omega)))))))))
theorem q392_23 (S : fx_S) (x1 x3 : Int) (hS : fx_Sok S) (g1 : 0 ≤ x1 ∧ x1 < S.2.2) (g3 : -2147483648 ≤ x3 ∧ x3 ≤ 2147483647) (v2 : Int) (S1 : fx_S) (k1 : fx_Sok S1) (b2 : -2147483648 ≤ v2 ∧ v2 ≤ 2147483647) (p1 : s376 S 6 v2 S1) (c1 : v2 = 0) (v3 : Int) (S2 : fx_S) (k2 : fx_Sok S2) (b3 : -2147483648 ≤ v3 ∧ v3 ≤ 2147483647) (p2 : s406 S1  v3 S2) (c2 : v3 = 0) (v4 : Int) (S3 : fx_S) (k3 : fx_Sok S3) (b4 : v4 = 0) (p3 : s349 S2 1 v4 S3) (v5 : Int) (S4 : fx_S) (k4 : fx_Sok S4) (b5 : -2147483648 ≤ v5 ∧ v5 ≤ 2147483647) (p4 : s343 S3 6 v5 S4) (v6 : Int) (S5 : fx_S) (k5 : fx_Sok S5) (b6 : -2147483648 ≤ v6 ∧ v6 ≤ 2147483647) (p5 : s343 S4 7 v6 S5) (c3 : v6 = 0) (v7 : Int) (S6 : fx_S) (k6 : fx_Sok S6) (b7 : -2147483648 ≤ v7 ∧ v7 ≤ 2147483647) (p6 : s343 S5 8 v7 S6) (c4 : v7 ≠ 0) (v8 : Int) (S7 : fx_S) (k7 : fx_Sok S7) (b8 : -2147483648 ≤ v8 ∧ v8 ≤ 2147483647) (p7 : s404 S6  v8 S7) (v9 : Int) (S8 : fx_S) (k8 : fx_Sok S8) (b9 : -2147483648 ≤ v9 ∧ v9 ≤ 2147483647) (p8 : s346 S7 0 9999 v9 S8) (v10 : Int) (S9 : fx_S) (k9 : fx_Sok S9) (b10 : v10 = 0) (p9 : s405 S8 x1 1 v5 v8 v9 v10 S9) : s392 S x1 x3 0 S9 := by
  obtain rfl : S = S1 := p1
  obtain rfl : S = S2 := p2
  obtain ⟨r3, f3⟩ := p3
  obtain ⟨r4, f4⟩ := p4
  obtain ⟨r5, f5⟩ := p5
  obtain ⟨r6, f6⟩ := p6
  obtain ⟨r7, f7⟩ := p7
  obtain ⟨r8, f8⟩ := p8
  obtain ⟨r9, f9⟩ := p9
  refine ⟨(r9).trans ((r8).trans ((r7).trans ((r6).trans ((r5).trans ((r4).trans (r3)))))), ?_⟩
  · intro p i hW
    exact ((f9 p i (by omega))).trans (((f8 p i (by omega))).trans (((f7 p i (by omega))).trans (((f6 p i (by omega))).trans (((f5 p i (by omega))).trans (((f4 p i (by omega))).trans ((f3 p i (by omega))))))))
theorem q392_24 (S : fx_S) (x1 x3 : Int) (hS : fx_Sok S) (g1 : 0 ≤ x1 ∧ x1 < S.2.2) (g3 : -2147483648 ≤ x3 ∧ x3 ≤ 2147483647) (v2 : Int) (S1 : fx_S) (k1 : fx_Sok S1) (b2 : -2147483648 ≤ v2 ∧ v2 ≤ 2147483647) (p1 : s376 S 6 v2 S1) (c1 : v2 = 0) (v3 : Int) (S2 : fx_S) (k2 : fx_Sok S2) (b3 : -2147483648 ≤ v3 ∧ v3 ≤ 2147483647) (p2 : s406 S1  v3 S2) (c2 : v3 = 0) (v4 : Int) (S3 : fx_S) (k3 : fx_Sok S3) (b4 : v4 = 0) (p3 : s349 S2 1 v4 S3) (v5 : Int) (S4 : fx_S) (k4 : fx_Sok S4) (b5 : -2147483648 ≤ v5 ∧ v5 ≤ 2147483647) (p4 : s343 S3 6 v5 S4) (v6 : Int) (S5 : fx_S) (k5 : fx_Sok S5) (b6 : -2147483648 ≤ v6 ∧ v6 ≤ 2147483647) (p5 : s343 S4 7 v6 S5) (c3 : v6 ≠ 0) (v7 : Int) (S6 : fx_S) (k6 : fx_Sok S6) (b7 : v7 = 0) (p6 : s345 S5 61 v7 S6) (v8 : Int) (S7 : fx_S) (k7 : fx_Sok S7) (b8 : -2147483648 ≤ v8 ∧ v8 ≤ 2147483647) (p7 : s346 S6 0 9999 v8 S7) (v9 : Int) (S8 : fx_S) (k8 : fx_Sok S8) (b9 : v9 = 0) (p8 : s405 S7 x1 0 v5 61 v8 v9 S8) : s392 S x1 x3 0 S8 := by
  obtain rfl : S = S1 := p1
  obtain rfl : S = S2 := p2
  obtain ⟨r3, f3⟩ := p3
  obtain ⟨r4, f4⟩ := p4
  obtain ⟨r5, f5⟩ := p5
  obtain ⟨r6, f6⟩ := p6
  obtain ⟨r7, f7⟩ := p7
  obtain ⟨r8, f8⟩ := p8
  refine ⟨(r8).trans ((r7).trans ((r6).trans ((r5).trans ((r4).trans (r3))))), ?_⟩
  · intro p i hW
    exact ((f8 p i (by omega))).trans (((f7 p i (by omega))).trans (((f6 p i (by omega))).trans (((f5 p i (by omega))).trans (((f4 p i (by omega))).trans ((f3 p i (by omega)))))))
theorem q393_0 (S : fx_S) (x1 : Int) (hS : fx_Sok S) (g1 : -2147483648 ≤ x1 ∧ x1 ≤ 2147483647) (v1 : Int) (e1 : v1 = fx_add x1 3) (c1 : 0 ≤ v1) (c2 : v1 < 260) (v2 : Int) (e2 : v2 = S.1 72 v1) (b2 : -2147483648 ≤ v2 ∧ v2 ≤ 2147483647) (c3 : v2 ≠ 3) (v3 : Int) (e3 : v3 = fx_add x1 4) (v4 : Int) (e4 : v4 = fx_add x1 3) (c4 : 0 ≤ v4) (c5 : v4 < 260) (v5 : Int) (e5 : v5 = S.1 72 v4) (b5 : -2147483648 ≤ v5 ∧ v5 ≤ 2147483647) (v6 : Int) (e6 : v6 = fx_mul 4 v5) (v7 : Int) (e7 : v7 = fx_add v3 v6) (v8 : Int) (S1 : fx_S) (k1 : fx_Sok S1) (b8 : -2147483648 ≤ v8 ∧ v8 ≤ 2147483647) (p1 : s353 S 6 v8 S1) (c6 : v8 = 0) (c7 : 0 ≤ v7) (c8 : v7 < 260) (S2 : fx_S) (d2 : S2 = (fx_up S1.1 72 v7 0, S1.2)) (v9 : Int) (S3 : fx_S) (k3 : fx_Sok S3) (b9 : -2147483648 ≤ v9 ∧ v9 ≤ 2147483647) (p3 : s407 S2  v9 S3) (c9 : v9 ≠ (-1)) (v10 : Int) (e10 : v10 = S3.1 66 12) (b10 : -2147483648 ≤ v10 ∧ v10 ≤ 2147483647) (c10 : v10 ≠ 0) : s393 S x1 0 S3 := by
  obtain ⟨r1, f1⟩ := p1
  obtain rfl : S2 = S3 := p3
  refine ⟨((show S2.2 = S1.2 by rw [d2])).trans (r1), ?_, ?_⟩
  · intro p i hW
    clear c10 b10 e10 c9 b9 c8 c7 c6 b8 e7 e6 b5 e5 c5 c4 e4 e3 c3 b2 e2 c2 c1 e1
    exact ((show S2.1 p i = S1.1 p i by rw [d2]; exact if_neg (by omega))).trans ((f1 p i (by omega)))
  · skip
    intro a0 a1
    have f0 := e1
    rw [fx_add_eq (by omega) (by omega)] at f0
    have a2 := a1
    rw [← f0, ← e2] at a2
    have h1 := e1
    first | rw [fx_add_eq (by omega) (by omega)] at h1 | skip
    have h3 := e3
    first | rw [fx_add_eq (by omega) (by omega)] at h3 | skip
    obtain rfl : v1 = v4 := by rw [e4, e1]
    obtain rfl : v2 = v5 := by rw [e5, e2]
    have h6 := e6
    first | rw [fx_mul_eq (by omega) (by omega)] at h6 | skip
    have h7 := e7
    first | rw [fx_add_eq (by omega) (by omega)] at h7 | skip
    have t10_2 : S2.1 66 12 = S1.1 66 12 := by rw [d2]; first | exact if_neg (by omega) | rfl
    rw [t10_2] at e10
    rw [f1 66 12 (by omega)] at e10
    exact ⟨by rw [show S2.1 72 (x1 + 3) = S.1 72 (x1 + 3) from (((show S2.1 72 (x1 + 3) = S1.1 72 (x1 + 3) by rw [d2]; first | exact if_neg (by omega) | rfl)).trans ((f1 72 (x1 + 3) (by omega))))]; exact a1, fun i hi => (((show S2.1 72 (i) = S1.1 72 (i) by rw [d2]; first | exact if_neg (by omega) | rfl)).trans ((f1 72 (i) (by omega))))⟩
theorem q393_1 (S : fx_S) (x1 : Int) (hS : fx_Sok S) (g1 : -2147483648 ≤ x1 ∧ x1 ≤ 2147483647) (v1 : Int) (e1 : v1 = fx_add x1 3) (c1 : 0 ≤ v1) (c2 : v1 < 260) (v2 : Int) (e2 : v2 = S.1 72 v1) (b2 : -2147483648 ≤ v2 ∧ v2 ≤ 2147483647) (c3 : v2 ≠ 3) (v3 : Int) (e3 : v3 = fx_add x1 4) (v4 : Int) (e4 : v4 = fx_add x1 3) (c4 : 0 ≤ v4) (c5 : v4 < 260) (v5 : Int) (e5 : v5 = S.1 72 v4) (b5 : -2147483648 ≤ v5 ∧ v5 ≤ 2147483647) (v6 : Int) (e6 : v6 = fx_mul 4 v5) (v7 : Int) (e7 : v7 = fx_add v3 v6) (v8 : Int) (S1 : fx_S) (k1 : fx_Sok S1) (b8 : -2147483648 ≤ v8 ∧ v8 ≤ 2147483647) (p1 : s353 S 6 v8 S1) (c6 : v8 = 0) (c7 : 0 ≤ v7) (c8 : v7 < 260) (S2 : fx_S) (d2 : S2 = (fx_up S1.1 72 v7 0, S1.2)) (v9 : Int) (S3 : fx_S) (k3 : fx_Sok S3) (b9 : -2147483648 ≤ v9 ∧ v9 ≤ 2147483647) (p3 : s407 S2  v9 S3) (c9 : v9 ≠ (-1)) (v10 : Int) (e10 : v10 = S3.1 66 12) (b10 : -2147483648 ≤ v10 ∧ v10 ≤ 2147483647) (c10 : v10 = 0) (v11 : Int) (S4 : fx_S) (k4 : fx_Sok S4) (b11 : v11 = 0) (p4 : s120 S3  v11 S4) (v12 : Int) (e12 : v12 = fx_add v7 1) (c11 : 0 ≤ v12) (c12 : v12 < 260) (S5 : fx_S) (d5 : S5 = (fx_up S4.1 72 v12 v9, S4.2)) (c13 : v9 ≠ 3) (v13 : Int) (S6 : fx_S) (k6 : fx_Sok S6) (b13 : -2147483648 ≤ v13 ∧ v13 ≤ 2147483647) (p6 : s352 S5 61 v13 S6) (c14 : v13 ≠ 0) (v14 : Int) (e14 : v14 = S6.1 66 12) (b14 : -2147483648 ≤ v14 ∧ v14 ≤ 2147483647) (c15 : v14 ≠ 0) : s393 S x1 0 S6 := by
  obtain ⟨r1, f1⟩ := p1
  obtain rfl : S2 = S3 := p3
  obtain ⟨r4, f4⟩ := p4
  obtain rfl : S5 = S6 := p6
  refine ⟨((show S5.2 = S4.2 by rw [d5])).trans ((r4).trans (((show S2.2 = S1.2 by rw [d2])).trans (r1))), ?_, ?_⟩
  · intro p i hW
    clear c15 b14 e14 c14 b13 c13 c12 c11 e12 b11 c10 b10 e10 c9 b9 c8 c7 c6 b8 e7 e6 b5 e5 c5 c4 e4 e3 c3 b2 e2 c2 c1 e1
    exact ((show S5.1 p i = S4.1 p i by rw [d5]; exact if_neg (by omega))).trans (((f4 p i (by omega))).trans (((show S2.1 p i = S1.1 p i by rw [d2]; exact if_neg (by omega))).trans ((f1 p i (by omega)))))
  · skip
    intro a0 a1
    have f0 := e1
    rw [fx_add_eq (by omega) (by omega)] at f0
    have a2 := a1
    rw [← f0, ← e2] at a2
    have h1 := e1
    first | rw [fx_add_eq (by omega) (by omega)] at h1 | skip
    have h3 := e3
    first | rw [fx_add_eq (by omega) (by omega)] at h3 | skip
    obtain rfl : v1 = v4 := by rw [e4, e1]
    obtain rfl : v2 = v5 := by rw [e5, e2]
    have h6 := e6
    first | rw [fx_mul_eq (by omega) (by omega)] at h6 | skip
    have h7 := e7
    first | rw [fx_add_eq (by omega) (by omega)] at h7 | skip
    have t10_2 : S2.1 66 12 = S1.1 66 12 := by rw [d2]; first | exact if_neg (by omega) | rfl
    rw [t10_2] at e10
    rw [f1 66 12 (by omega)] at e10
    have h12 := e12
    first | rw [fx_add_eq (by omega) (by omega)] at h12 | skip
    have t14_5 : S5.1 66 12 = S4.1 66 12 := by rw [d5]; first | exact if_neg (by omega) | rfl
    rw [t14_5] at e14
    rw [f4 66 12 (by omega)] at e14
    have t14_2 : S2.1 66 12 = S1.1 66 12 := by rw [d2]; first | exact if_neg (by omega) | rfl
    rw [t14_2] at e14
    rw [f1 66 12 (by omega)] at e14
    obtain rfl : v10 = v14 := by rw [e14, e10]
    exact ⟨by rw [show S5.1 72 (x1 + 3) = S.1 72 (x1 + 3) from (((show S5.1 72 (x1 + 3) = S4.1 72 (x1 + 3) by rw [d5]; first | exact if_neg (by omega) | rfl)).trans (((f4 72 (x1 + 3) (by omega))).trans (((show S2.1 72 (x1 + 3) = S1.1 72 (x1 + 3) by rw [d2]; first | exact if_neg (by omega) | rfl)).trans ((f1 72 (x1 + 3) (by omega))))))]; exact a1, fun i hi => (((show S5.1 72 (i) = S4.1 72 (i) by rw [d5]; first | exact if_neg (by omega) | rfl)).trans (((f4 72 (i) (by omega))).trans (((show S2.1 72 (i) = S1.1 72 (i) by rw [d2]; first | exact if_neg (by omega) | rfl)).trans ((f1 72 (i) (by omega))))))⟩
theorem q393_2 (S : fx_S) (x1 : Int) (hS : fx_Sok S) (g1 : -2147483648 ≤ x1 ∧ x1 ≤ 2147483647) (v1 : Int) (e1 : v1 = fx_add x1 3) (c1 : 0 ≤ v1) (c2 : v1 < 260) (v2 : Int) (e2 : v2 = S.1 72 v1) (b2 : -2147483648 ≤ v2 ∧ v2 ≤ 2147483647) (c3 : v2 ≠ 3) (v3 : Int) (e3 : v3 = fx_add x1 4) (v4 : Int) (e4 : v4 = fx_add x1 3) (c4 : 0 ≤ v4) (c5 : v4 < 260) (v5 : Int) (e5 : v5 = S.1 72 v4) (b5 : -2147483648 ≤ v5 ∧ v5 ≤ 2147483647) (v6 : Int) (e6 : v6 = fx_mul 4 v5) (v7 : Int) (e7 : v7 = fx_add v3 v6) (v8 : Int) (S1 : fx_S) (k1 : fx_Sok S1) (b8 : -2147483648 ≤ v8 ∧ v8 ≤ 2147483647) (p1 : s353 S 6 v8 S1) (c6 : v8 = 0) (c7 : 0 ≤ v7) (c8 : v7 < 260) (S2 : fx_S) (d2 : S2 = (fx_up S1.1 72 v7 0, S1.2)) (v9 : Int) (S3 : fx_S) (k3 : fx_Sok S3) (b9 : -2147483648 ≤ v9 ∧ v9 ≤ 2147483647) (p3 : s407 S2  v9 S3) (c9 : v9 ≠ (-1)) (v10 : Int) (e10 : v10 = S3.1 66 12) (b10 : -2147483648 ≤ v10 ∧ v10 ≤ 2147483647) (c10 : v10 = 0) (v11 : Int) (S4 : fx_S) (k4 : fx_Sok S4) (b11 : v11 = 0) (p4 : s120 S3  v11 S4) (v12 : Int) (e12 : v12 = fx_add v7 1) (c11 : 0 ≤ v12) (c12 : v12 < 260) (S5 : fx_S) (d5 : S5 = (fx_up S4.1 72 v12 v9, S4.2)) (c13 : v9 ≠ 3) (v13 : Int) (S6 : fx_S) (k6 : fx_Sok S6) (b13 : -2147483648 ≤ v13 ∧ v13 ≤ 2147483647) (p6 : s352 S5 61 v13 S6) (c14 : v13 ≠ 0) (v14 : Int) (e14 : v14 = S6.1 66 12) (b14 : -2147483648 ≤ v14 ∧ v14 ≤ 2147483647) (c15 : v14 = 0) (v15 : Int) (e15 : v15 = fx_add v7 2) (v16 : Int) (e16 : v16 = S6.1 66 11) (b16 : -2147483648 ≤ v16 ∧ v16 ≤ 2147483647) (c16 : 0 ≤ v15) (c17 : v15 < 260) (S7 : fx_S) (d7 : S7 = (fx_up S6.1 72 v15 v16, S6.2)) (v17 : Int) (S8 : fx_S) (k8 : fx_Sok S8) (b17 : v17 = 0) (p8 : s120 S7  v17 S8) (v18 : Int) (e18 : v18 = fx_add v7 3) (v19 : Int) (S9 : fx_S) (k9 : fx_Sok S9) (b19 : -2147483648 ≤ v19 ∧ v19 ≤ 2147483647) (p9 : s351 S8 0 9999 v19 S9) (c18 : 0 ≤ v18) (c19 : v18 < 260) (S10 : fx_S) (d10 : S10 = (fx_up S9.1 72 v18 v19, S9.2)) (v20 : Int) (e20 : v20 = fx_add x1 3) (c20 : 0 ≤ v20) (c21 : v20 < 260) (v21 : Int) (e21 : v21 = S10.1 72 v20) (b21 : -2147483648 ≤ v21 ∧ v21 ≤ 2147483647) (v22 : Int) (e22 : v22 = fx_add v21 1) (c22 : 0 ≤ v20) (c23 : v20 < 260) (S11 : fx_S) (d11 : S11 = (fx_up S10.1 72 v20 v22, S10.2)) : s393 S x1 0 S11 := by
  obtain ⟨r1, f1⟩ := p1
  obtain rfl : S2 = S3 := p3
  obtain ⟨r4, f4⟩ := p4
  obtain rfl : S5 = S6 := p6
  obtain ⟨r8, f8⟩ := p8
  obtain ⟨r9, f9, p9⟩ := p9
  refine ⟨((show S11.2 = S10.2 by rw [d11])).trans (((show S10.2 = S9.2 by rw [d10])).trans ((r9).trans ((r8).trans (((show S7.2 = S5.2 by rw [d7])).trans (((show S5.2 = S4.2 by rw [d5])).trans ((r4).trans (((show S2.2 = S1.2 by rw [d2])).trans (r1)))))))), ?_, ?_⟩
  · intro p i hW
    clear c23 c22 e22 b21 e21 c21 c20 e20 c19 c18 b19 e18 b17 c17 c16 b16 e16 e15 c15 b14 e14 c14 b13 c13 c12 c11 e12 b11 c10 b10 e10 c9 b9 c8 c7 c6 b8 e7 e6 b5 e5 c5 c4 e4 e3 c3 b2 e2 c2 c1 e1
    exact ((show S11.1 p i = S10.1 p i by rw [d11]; exact if_neg (by omega))).trans (((show S10.1 p i = S9.1 p i by rw [d10]; exact if_neg (by omega))).trans (((f9 p i (by omega))).trans (((f8 p i (by omega))).trans (((show S7.1 p i = S5.1 p i by rw [d7]; exact if_neg (by omega))).trans (((show S5.1 p i = S4.1 p i by rw [d5]; exact if_neg (by omega))).trans (((f4 p i (by omega))).trans (((show S2.1 p i = S1.1 p i by rw [d2]; exact if_neg (by omega))).trans ((f1 p i (by omega))))))))))
  · skip
    intro a0 a1
    have f0 := e1
    rw [fx_add_eq (by omega) (by omega)] at f0
    have a2 := a1
    rw [← f0, ← e2] at a2
    have h1 := e1
    first | rw [fx_add_eq (by omega) (by omega)] at h1 | skip
    have h3 := e3
    first | rw [fx_add_eq (by omega) (by omega)] at h3 | skip
    obtain rfl : v1 = v4 := by rw [e4, e1]
    obtain rfl : v2 = v5 := by rw [e5, e2]
    have h6 := e6
    first | rw [fx_mul_eq (by omega) (by omega)] at h6 | skip
    have h7 := e7
    first | rw [fx_add_eq (by omega) (by omega)] at h7 | skip
    have t10_2 : S2.1 66 12 = S1.1 66 12 := by rw [d2]; first | exact if_neg (by omega) | rfl
    rw [t10_2] at e10
    rw [f1 66 12 (by omega)] at e10
    have h12 := e12
    first | rw [fx_add_eq (by omega) (by omega)] at h12 | skip
    have t14_5 : S5.1 66 12 = S4.1 66 12 := by rw [d5]; first | exact if_neg (by omega) | rfl
    rw [t14_5] at e14
    rw [f4 66 12 (by omega)] at e14
    have t14_2 : S2.1 66 12 = S1.1 66 12 := by rw [d2]; first | exact if_neg (by omega) | rfl
    rw [t14_2] at e14
    rw [f1 66 12 (by omega)] at e14
    obtain rfl : v10 = v14 := by rw [e14, e10]
    have h15 := e15
    first | rw [fx_add_eq (by omega) (by omega)] at h15 | skip
    have t16_5 : S5.1 66 11 = S4.1 66 11 := by rw [d5]; first | exact if_neg (by omega) | rfl
    rw [t16_5] at e16
    have h18 := e18
    first | rw [fx_add_eq (by omega) (by omega)] at h18 | skip
    obtain rfl : v1 = v20 := by rw [e20, e1]
    have t21_10 : S10.1 72 v1 = S9.1 72 v1 := by rw [d10]; first | exact if_neg (by omega) | rfl
    rw [t21_10] at e21
    rw [f9 72 v1 (by omega)] at e21
    rw [f8 72 v1 (by omega)] at e21
    have t21_7 : S7.1 72 v1 = S5.1 72 v1 := by rw [d7]; first | exact if_neg (by omega) | rfl
    rw [t21_7] at e21
    have t21_5 : S5.1 72 v1 = S4.1 72 v1 := by rw [d5]; first | exact if_neg (by omega) | rfl
    rw [t21_5] at e21
    rw [f4 72 v1 (by omega)] at e21
    have t21_2 : S2.1 72 v1 = S1.1 72 v1 := by rw [d2]; first | exact if_neg (by omega) | rfl
    rw [t21_2] at e21
    rw [f1 72 v1 (by omega)] at e21
    obtain rfl : v2 = v21 := by rw [e21, e2]
    have h22 := e22
    first | rw [fx_add_eq (by omega) (by omega)] at h22 | skip
    refine ⟨?_, fun i hi => (((show S11.1 72 (i) = S10.1 72 (i) by rw [d11]; first | exact if_neg (by omega) | rfl)).trans (((show S10.1 72 (i) = S9.1 72 (i) by rw [d10]; first | exact if_neg (by omega) | rfl)).trans (((f9 72 (i) (by omega))).trans (((f8 72 (i) (by omega))).trans (((show S7.1 72 (i) = S5.1 72 (i) by rw [d7]; first | exact if_neg (by omega) | rfl)).trans (((show S5.1 72 (i) = S4.1 72 (i) by rw [d5]; first | exact if_neg (by omega) | rfl)).trans (((f4 72 (i) (by omega))).trans (((show S2.1 72 (i) = S1.1 72 (i) by rw [d2]; first | exact if_neg (by omega) | rfl)).trans ((f1 72 (i) (by omega)))))))))))⟩
    rw [← f0, show S11.1 72 v1 = v22 by rw [d11]; exact if_pos ⟨rfl, rfl⟩]
    omega
theorem q393_3 (S : fx_S) (x1 : Int) (hS : fx_Sok S) (g1 : -2147483648 ≤ x1 ∧ x1 ≤ 2147483647) (v1 : Int) (e1 : v1 = fx_add x1 3) (c1 : 0 ≤ v1) (c2 : v1 < 260) (v2 : Int) (e2 : v2 = S.1 72 v1) (b2 : -2147483648 ≤ v2 ∧ v2 ≤ 2147483647) (c3 : v2 ≠ 3) (v3 : Int) (e3 : v3 = fx_add x1 4) (v4 : Int) (e4 : v4 = fx_add x1 3) (c4 : 0 ≤ v4) (c5 : v4 < 260) (v5 : Int) (e5 : v5 = S.1 72 v4) (b5 : -2147483648 ≤ v5 ∧ v5 ≤ 2147483647) (v6 : Int) (e6 : v6 = fx_mul 4 v5) (v7 : Int) (e7 : v7 = fx_add v3 v6) (v8 : Int) (S1 : fx_S) (k1 : fx_Sok S1) (b8 : -2147483648 ≤ v8 ∧ v8 ≤ 2147483647) (p1 : s353 S 6 v8 S1) (c6 : v8 = 0) (c7 : 0 ≤ v7) (c8 : v7 < 260) (S2 : fx_S) (d2 : S2 = (fx_up S1.1 72 v7 0, S1.2)) (v9 : Int) (S3 : fx_S) (k3 : fx_Sok S3) (b9 : -2147483648 ≤ v9 ∧ v9 ≤ 2147483647) (p3 : s407 S2  v9 S3) (c9 : v9 ≠ (-1)) (v10 : Int) (e10 : v10 = S3.1 66 12) (b10 : -2147483648 ≤ v10 ∧ v10 ≤ 2147483647) (c10 : v10 = 0) (v11 : Int) (S4 : fx_S) (k4 : fx_Sok S4) (b11 : v11 = 0) (p4 : s120 S3  v11 S4) (v12 : Int) (e12 : v12 = fx_add v7 1) (c11 : 0 ≤ v12) (c12 : v12 < 260) (S5 : fx_S) (d5 : S5 = (fx_up S4.1 72 v12 v9, S4.2)) (c13 : v9 ≠ 3) (v13 : Int) (S6 : fx_S) (k6 : fx_Sok S6) (b13 : -2147483648 ≤ v13 ∧ v13 ≤ 2147483647) (p6 : s352 S5 61 v13 S6) (c14 : v13 = 0) (c15 : v9 = 0) (v14 : Int) (S7 : fx_S) (k7 : fx_Sok S7) (b14 : v14 = 0) (p7 : s226 S6 1 v14 S7) (v15 : Int) (e15 : v15 = S7.1 66 12) (b15 : -2147483648 ≤ v15 ∧ v15 ≤ 2147483647) (c16 : v15 ≠ 0) : s393 S x1 0 S7 := by
  obtain ⟨r1, f1⟩ := p1
  obtain rfl : S2 = S3 := p3
  obtain ⟨r4, f4⟩ := p4
  obtain rfl : S5 = S6 := p6
  obtain ⟨r7, f7, p7⟩ := p7
  refine ⟨(r7).trans (((show S5.2 = S4.2 by rw [d5])).trans ((r4).trans (((show S2.2 = S1.2 by rw [d2])).trans (r1)))), ?_, ?_⟩
  · intro p i hW
    clear c16 b15 e15 b14 c15 c14 b13 c13 c12 c11 e12 b11 c10 b10 e10 c9 b9 c8 c7 c6 b8 e7 e6 b5 e5 c5 c4 e4 e3 c3 b2 e2 c2 c1 e1
    exact ((f7 p i (by omega))).trans (((show S5.1 p i = S4.1 p i by rw [d5]; exact if_neg (by omega))).trans (((f4 p i (by omega))).trans (((show S2.1 p i = S1.1 p i by rw [d2]; exact if_neg (by omega))).trans ((f1 p i (by omega))))))
  · skip
    intro a0 a1
    have f0 := e1
    rw [fx_add_eq (by omega) (by omega)] at f0
    have a2 := a1
    rw [← f0, ← e2] at a2
    have h1 := e1
    first | rw [fx_add_eq (by omega) (by omega)] at h1 | skip
    have h3 := e3
    first | rw [fx_add_eq (by omega) (by omega)] at h3 | skip
    obtain rfl : v1 = v4 := by rw [e4, e1]
    obtain rfl : v2 = v5 := by rw [e5, e2]
    have h6 := e6
    first | rw [fx_mul_eq (by omega) (by omega)] at h6 | skip
    have h7 := e7
    first | rw [fx_add_eq (by omega) (by omega)] at h7 | skip
    have t10_2 : S2.1 66 12 = S1.1 66 12 := by rw [d2]; first | exact if_neg (by omega) | rfl
    rw [t10_2] at e10
    rw [f1 66 12 (by omega)] at e10
    have h12 := e12
    first | rw [fx_add_eq (by omega) (by omega)] at h12 | skip
    exact ⟨by rw [show S7.1 72 (x1 + 3) = S.1 72 (x1 + 3) from (((f7 72 (x1 + 3) (by omega))).trans (((show S5.1 72 (x1 + 3) = S4.1 72 (x1 + 3) by rw [d5]; first | exact if_neg (by omega) | rfl)).trans (((f4 72 (x1 + 3) (by omega))).trans (((show S2.1 72 (x1 + 3) = S1.1 72 (x1 + 3) by rw [d2]; first | exact if_neg (by omega) | rfl)).trans ((f1 72 (x1 + 3) (by omega)))))))]; exact a1, fun i hi => (((f7 72 (i) (by omega))).trans (((show S5.1 72 (i) = S4.1 72 (i) by rw [d5]; first | exact if_neg (by omega) | rfl)).trans (((f4 72 (i) (by omega))).trans (((show S2.1 72 (i) = S1.1 72 (i) by rw [d2]; first | exact if_neg (by omega) | rfl)).trans ((f1 72 (i) (by omega)))))))⟩
