/-! FX: what is to be shown of the entries -/
theorem q345_2 (S : fx_S) (x1 : Int) (hS : fx_Sok S) (g1 : -2147483648 ≤ x1 ∧ x1 ≤ 2147483647) (v1 : Int) (e1 : v1 = S.1 50 6) (b1 : -2147483648 ≤ v1 ∧ v1 ≤ 2147483647) (c1 : v1 = 3) (v2 : Int) (e2 : v2 = S.1 50 5) (b2 : -2147483648 ≤ v2 ∧ v2 ≤ 2147483647) (c2 : 0 ≤ v2) (c3 : v2 < 600) (v3 : Int) (e3 : v3 = S.1 51 v2) (b3 : -128 ≤ v3 ∧ v3 ≤ 127) (c4 : v3 = x1) (v4 : Int) (S1 : fx_S) (k1 : fx_Sok S1) (b4 : v4 = 0) (p1 : s218 S  v4 S1) : s345 S x1 0 S1 := by
  obtain ⟨r1, f1⟩ := p1
  refine ⟨r1, ?_⟩
  · intro p i hW
    clear b4 c4 b3 e3 c3 c2 b2 e2 c1 b1 e1
    exact (f1 p i (by omega))
theorem q346_0 (S : fx_S) (x1 x2 : Int) (hS : fx_Sok S) (g1 : -2147483648 ≤ x1 ∧ x1 ≤ 2147483647) (g2 : -2147483648 ≤ x2 ∧ x2 ≤ 2147483647) (v2 : Int) (e2 : v2 = S.1 50 6) (b2 : -2147483648 ≤ v2 ∧ v2 ≤ 2147483647) (c1 : v2 = 2) (v3 : Int) (S1 : fx_S) (k1 : fx_Sok S1) (b3 : -2147483648 ≤ v3 ∧ v3 ≤ 2147483647) (p1 : s377 S  v3 S1) (c2 : v3 < x1) (v4 : Int) (S2 : fx_S) (k2 : fx_Sok S2) (b4 : v4 = 0) (p2 : s349 S1 2 v4 S2) (v5 : Int) (e5 : v5 = S2.1 50 2) (b5 : -2147483648 ≤ v5 ∧ v5 ≤ 2147483647) (c3 : v5 = 0) (v6 : Int) (S3 : fx_S) (k3 : fx_Sok S3) (b6 : v6 = 0) (p3 : s218 S2  v6 S3) : s346 S x1 x2 v3 S3 := by
  obtain rfl : S = S1 := p1
  obtain ⟨r2, f2⟩ := p2
  obtain ⟨r3, f3⟩ := p3
  refine ⟨(r3).trans (r2), ?_⟩
  · intro p i hW
    clear b6 c3 b5 e5 b4 c2 b3 c1 b2 e2
    exact ((f3 p i (by omega))).trans ((f2 p i (by omega)))
theorem q346_1 (S : fx_S) (x1 x2 : Int) (hS : fx_Sok S) (g1 : -2147483648 ≤ x1 ∧ x1 ≤ 2147483647) (g2 : -2147483648 ≤ x2 ∧ x2 ≤ 2147483647) (v2 : Int) (e2 : v2 = S.1 50 6) (b2 : -2147483648 ≤ v2 ∧ v2 ≤ 2147483647) (c1 : v2 = 2) (v3 : Int) (S1 : fx_S) (k1 : fx_Sok S1) (b3 : -2147483648 ≤ v3 ∧ v3 ≤ 2147483647) (p1 : s377 S  v3 S1) (c2 : v3 < x1) (v4 : Int) (S2 : fx_S) (k2 : fx_Sok S2) (b4 : v4 = 0) (p2 : s349 S1 2 v4 S2) (v5 : Int) (e5 : v5 = S2.1 50 2) (b5 : -2147483648 ≤ v5 ∧ v5 ≤ 2147483647) (c3 : v5 ≠ 0) : s346 S x1 x2 0 S2 := by
  obtain rfl : S = S1 := p1
  obtain ⟨r2, f2⟩ := p2
  refine ⟨r2, ?_⟩
  · intro p i hW
    clear c3 b5 e5 b4 c2 b3 c1 b2 e2
    exact (f2 p i (by omega))
theorem q346_2 (S : fx_S) (x1 x2 : Int) (hS : fx_Sok S) (g1 : -2147483648 ≤ x1 ∧ x1 ≤ 2147483647) (g2 : -2147483648 ≤ x2 ∧ x2 ≤ 2147483647) (v2 : Int) (e2 : v2 = S.1 50 6) (b2 : -2147483648 ≤ v2 ∧ v2 ≤ 2147483647) (c1 : v2 = 2) (v3 : Int) (S1 : fx_S) (k1 : fx_Sok S1) (b3 : -2147483648 ≤ v3 ∧ v3 ≤ 2147483647) (p1 : s377 S  v3 S1) (c2 : x1 ≤ v3) (c3 : v3 ≤ x2) (v4 : Int) (e4 : v4 = S1.1 50 2) (b4 : -2147483648 ≤ v4 ∧ v4 ≤ 2147483647) (c4 : v4 = 0) (v5 : Int) (S2 : fx_S) (k2 : fx_Sok S2) (b5 : v5 = 0) (p2 : s218 S1  v5 S2) : s346 S x1 x2 v3 S2 := by
  obtain rfl : S = S1 := p1
  obtain ⟨r2, f2⟩ := p2
  refine ⟨r2, ?_⟩
  · intro p i hW
    clear b5 c4 b4 e4 c3 c2 b3 c1 b2 e2
    exact (f2 p i (by omega))
theorem q346_3 (S : fx_S) (x1 x2 : Int) (hS : fx_Sok S) (g1 : -2147483648 ≤ x1 ∧ x1 ≤ 2147483647) (g2 : -2147483648 ≤ x2 ∧ x2 ≤ 2147483647) (v2 : Int) (e2 : v2 = S.1 50 6) (b2 : -2147483648 ≤ v2 ∧ v2 ≤ 2147483647) (c1 : v2 = 2) (v3 : Int) (S1 : fx_S) (k1 : fx_Sok S1) (b3 : -2147483648 ≤ v3 ∧ v3 ≤ 2147483647) (p1 : s377 S  v3 S1) (c2 : x1 ≤ v3) (c3 : v3 ≤ x2) (v4 : Int) (e4 : v4 = S1.1 50 2) (b4 : -2147483648 ≤ v4 ∧ v4 ≤ 2147483647) (c4 : v4 ≠ 0) : s346 S x1 x2 0 S1 := by
  obtain rfl : S = S1 := p1
  refine ⟨rfl, ?_⟩
  · intro p i hW
    clear c4 b4 e4 c3 c2 b3 c1 b2 e2
    exact rfl
theorem q346_4 (S : fx_S) (x1 x2 : Int) (hS : fx_Sok S) (g1 : -2147483648 ≤ x1 ∧ x1 ≤ 2147483647) (g2 : -2147483648 ≤ x2 ∧ x2 ≤ 2147483647) (v2 : Int) (e2 : v2 = S.1 50 6) (b2 : -2147483648 ≤ v2 ∧ v2 ≤ 2147483647) (c1 : v2 = 2) (v3 : Int) (S1 : fx_S) (k1 : fx_Sok S1) (b3 : -2147483648 ≤ v3 ∧ v3 ≤ 2147483647) (p1 : s377 S  v3 S1) (c2 : x1 ≤ v3) (c3 : x2 < v3) (v4 : Int) (S2 : fx_S) (k2 : fx_Sok S2) (b4 : v4 = 0) (p2 : s349 S1 2 v4 S2) (v5 : Int) (e5 : v5 = S2.1 50 2) (b5 : -2147483648 ≤ v5 ∧ v5 ≤ 2147483647) (c4 : v5 = 0) (v6 : Int) (S3 : fx_S) (k3 : fx_Sok S3) (b6 : v6 = 0) (p3 : s218 S2  v6 S3) : s346 S x1 x2 v3 S3 := by
  obtain rfl : S = S1 := p1
  obtain ⟨r2, f2⟩ := p2
  obtain ⟨r3, f3⟩ := p3
  refine ⟨(r3).trans (r2), ?_⟩
  · intro p i hW
    clear b6 c4 b5 e5 b4 c3 c2 b3 c1 b2 e2
    exact ((f3 p i (by omega))).trans ((f2 p i (by omega)))
theorem q346_5 (S : fx_S) (x1 x2 : Int) (hS : fx_Sok S) (g1 : -2147483648 ≤ x1 ∧ x1 ≤ 2147483647) (g2 : -2147483648 ≤ x2 ∧ x2 ≤ 2147483647) (v2 : Int) (e2 : v2 = S.1 50 6) (b2 : -2147483648 ≤ v2 ∧ v2 ≤ 2147483647) (c1 : v2 = 2) (v3 : Int) (S1 : fx_S) (k1 : fx_Sok S1) (b3 : -2147483648 ≤ v3 ∧ v3 ≤ 2147483647) (p1 : s377 S  v3 S1) (c2 : x1 ≤ v3) (c3 : x2 < v3) (v4 : Int) (S2 : fx_S) (k2 : fx_Sok S2) (b4 : v4 = 0) (p2 : s349 S1 2 v4 S2) (v5 : Int) (e5 : v5 = S2.1 50 2) (b5 : -2147483648 ≤ v5 ∧ v5 ≤ 2147483647) (c4 : v5 ≠ 0) : s346 S x1 x2 0 S2 := by
  obtain rfl : S = S1 := p1
  obtain ⟨r2, f2⟩ := p2
  refine ⟨r2, ?_⟩
  · intro p i hW
    clear c4 b5 e5 b4 c3 c2 b3 c1 b2 e2
    exact (f2 p i (by omega))
theorem q346_6 (S : fx_S) (x1 x2 : Int) (hS : fx_Sok S) (g1 : -2147483648 ≤ x1 ∧ x1 ≤ 2147483647) (g2 : -2147483648 ≤ x2 ∧ x2 ≤ 2147483647) (v2 : Int) (e2 : v2 = S.1 50 6) (b2 : -2147483648 ≤ v2 ∧ v2 ≤ 2147483647) (c1 : v2 ≠ 2) (v3 : Int) (S1 : fx_S) (k1 : fx_Sok S1) (b3 : v3 = 0) (p1 : s349 S 1 v3 S1) : s346 S x1 x2 0 S1 := by
  obtain ⟨r1, f1⟩ := p1
  refine ⟨r1, ?_⟩
  · intro p i hW
    clear b3 c1 b2 e2
    exact (f1 p i (by omega))
theorem q347_0 (S : fx_S) (x0 x1 : Int) (hS : fx_Sok S) (g0 : 0 ≤ x0 ∧ x0 < S.2.2) (g1 : -2147483648 ≤ x1 ∧ x1 ≤ 2147483647) (v2 : Int) (e2 : v2 = S.1 x0 4) (b2 : -2147483648 ≤ v2 ∧ v2 ≤ 2147483647) (c1 : 16 ≤ v2) : s347 S x0 x1 0 S := by
  refine ⟨rfl, ?_⟩
  · intro p i hW
    exact rfl
theorem q347_1 (S : fx_S) (x0 x1 : Int) (hS : fx_Sok S) (g0 : 0 ≤ x0 ∧ x0 < S.2.2) (g1 : -2147483648 ≤ x1 ∧ x1 ≤ 2147483647) (v2 : Int) (e2 : v2 = S.1 x0 4) (b2 : -2147483648 ≤ v2 ∧ v2 ≤ 2147483647) (c1 : v2 < 16) (v3 : Int) (e3 : v3 = S.1 x0 4) (b3 : -2147483648 ≤ v3 ∧ v3 ≤ 2147483647) (c2 : 0 ≤ v3) (c3 : v3 < 16) (S1 : fx_S) (d1 : S1 = (fx_up S.1 (x0 + 2) v3 x1, S.2)) (v4 : Int) (e4 : v4 = S1.1 x0 4) (b4 : -2147483648 ≤ v4 ∧ v4 ≤ 2147483647) (v5 : Int) (e5 : v5 = S1.1 x0 7) (b5 : -2147483648 ≤ v5 ∧ v5 ≤ 2147483647) (c4 : 0 ≤ v4) (c5 : v4 < 16) (S2 : fx_S) (d2 : S2 = (fx_up S1.1 (x0 + 3) v4 v5, S1.2)) (v6 : Int) (e6 : v6 = S2.1 x0 4) (b6 : -2147483648 ≤ v6 ∧ v6 ≤ 2147483647) (v7 : Int) (e7 : v7 = fx_add v6 1) (S3 : fx_S) (d3 : S3 = (fx_up S2.1 x0 4 v7, S2.2)) : s347 S x0 x1 0 S3 := by
  refine ⟨((show S3.2 = S2.2 by rw [d3])).trans (((show S2.2 = S1.2 by rw [d2])).trans ((show S1.2 = S.2 by rw [d1]))), ?_⟩
  · intro p i hW
    exact ((show S3.1 p i = S2.1 p i by rw [d3]; exact if_neg (by omega))).trans (((show S2.1 p i = S1.1 p i by rw [d2]; exact if_neg (by omega))).trans ((show S1.1 p i = S.1 p i by rw [d1]; exact if_neg (by omega))))
theorem q348_0 (S : fx_S) (x1 : Int) (hS : fx_Sok S) (g1 : 0 ≤ x1 ∧ x1 < S.2.2) (v1 : Int) (S1 : fx_S) (k1 : fx_Sok S1) (b1 : -2147483648 ≤ v1 ∧ v1 ≤ 2147483647) (p1 : s343 S 5 v1 S1) (z : Int) (Z : fx_S) (kz : fx_Sok Z) (bz : z = 0) (pz : s378 S1 x1 v1 0 z Z) : s348 S x1 z Z := by
  obtain ⟨r1, f1⟩ := p1
  obtain ⟨rZ, fZ⟩ := pz
  refine ⟨(rZ).trans (r1), ?_⟩
  · intro p i hW
    exact ((fZ p i (by omega))).trans ((f1 p i (by omega)))
theorem q349_0 (S : fx_S) (x1 : Int) (hS : fx_Sok S) (g1 : -2147483648 ≤ x1 ∧ x1 ≤ 2147483647) (v1 : Int) (e1 : v1 = S.1 50 2) (b1 : -2147483648 ≤ v1 ∧ v1 ≤ 2147483647) (c1 : v1 ≠ 0) : s349 S x1 0 S := by
  refine ⟨rfl, ?_⟩
  · intro p i hW
    clear c1 b1 e1
    exact rfl
theorem q349_1 (S : fx_S) (x1 : Int) (hS : fx_Sok S) (g1 : -2147483648 ≤ x1 ∧ x1 ≤ 2147483647) (v1 : Int) (e1 : v1 = S.1 50 2) (b1 : -2147483648 ≤ v1 ∧ v1 ≤ 2147483647) (c1 : v1 = 0) (S1 : fx_S) (d1 : S1 = (fx_up S.1 50 2 x1, S.2)) (v2 : Int) (e2 : v2 = S1.1 50 5) (b2 : -2147483648 ≤ v2 ∧ v2 ≤ 2147483647) (S2 : fx_S) (d2 : S2 = (fx_up S1.1 50 3 v2, S1.2)) : s349 S x1 0 S2 := by
  refine ⟨((show S2.2 = S1.2 by rw [d2])).trans ((show S1.2 = S.2 by rw [d1])), ?_⟩
  · intro p i hW
    clear b2 e2 c1 b1 e1
    exact ((show S2.1 p i = S1.1 p i by rw [d2]; exact if_neg (by omega))).trans ((show S1.1 p i = S.1 p i by rw [d1]; exact if_neg (by omega)))
theorem q350_0 (S : fx_S) (x1 x2 x3 : Int) (hS : fx_Sok S) (g2 : -2147483648 ≤ x2 ∧ x2 ≤ 2147483647) (g3 : -2147483648 ≤ x3 ∧ x3 ≤ 2147483647) (v3 : Int) (e3 : v3 = ((cz_sl.getD (x1).toNat 0 : Nat) : Int)) (v4 : Int) (e4 : v4 = fx_shr v3 0) (c1 : v4 ≤ x3) : s350 S x1 x2 x3 x2 S := by
  exact rfl
theorem q350_1 (S : fx_S) (x1 x2 x3 : Int) (hS : fx_Sok S) (g2 : -2147483648 ≤ x2 ∧ x2 ≤ 2147483647) (g3 : -2147483648 ≤ x3 ∧ x3 ≤ 2147483647) (v3 : Int) (e3 : v3 = ((cz_sl.getD (x1).toNat 0 : Nat) : Int)) (v4 : Int) (e4 : v4 = fx_shr v3 0) (c1 : x3 < v4) (c2 : x2 = 0) : s350 S x1 x2 x3 x2 S := by
  exact rfl
theorem q350_2 (S : fx_S) (x1 x2 x3 : Int) (hS : fx_Sok S) (g2 : -2147483648 ≤ x2 ∧ x2 ≤ 2147483647) (g3 : -2147483648 ≤ x3 ∧ x3 ≤ 2147483647) (v3 : Int) (e3 : v3 = ((cz_sl.getD (x1).toNat 0 : Nat) : Int)) (v4 : Int) (e4 : v4 = fx_shr v3 0) (c1 : x3 < v4) (c2 : x2 ≠ 0) (v5 : Int) (e5 : v5 = S.1 66 9) (b5 : -2147483648 ≤ v5 ∧ v5 ≤ 2147483647) (v6 : Int) (e6 : v6 = fx_add v5 x3) (c3 : 0 ≤ v6) (c4 : v6 < 600) (v7 : Int) (e7 : v7 = S.1 70 v6) (b7 : -128 ≤ v7 ∧ v7 ≤ 127) (v8 : Int) (e8 : v8 = ((cz_sl.getD (x1).toNat 0 : Nat) : Int)) (c5 : 0 ≤ x3) (c6 : x3 < v8) (v9 : Int) (e9 : v9 = ((cz_sb.getD (x1).toNat []).getD (x3).toNat 0).toInt) (v10 : Int) (e10 : v10 = fx_and v9 255) (v11 : Int) (e11 : v11 = fx_i2c v10) (c7 : v7 ≠ v11) (v12 : Int) (e12 : v12 = fx_add x3 1) (z : Int) (Z : fx_S) (kz : fx_Sok Z) (bz : -2147483648 ≤ z ∧ z ≤ 2147483647) (pz : s350 S x1 0 v12 z Z) : s350 S x1 x2 x3 z Z := by
  obtain rfl : S = Z := pz
  exact rfl
theorem q350_3 (S : fx_S) (x1 x2 x3 : Int) (hS : fx_Sok S) (g2 : -2147483648 ≤ x2 ∧ x2 ≤ 2147483647) (g3 : -2147483648 ≤ x3 ∧ x3 ≤ 2147483647) (v3 : Int) (e3 : v3 = ((cz_sl.getD (x1).toNat 0 : Nat) : Int)) (v4 : Int) (e4 : v4 = fx_shr v3 0) (c1 : x3 < v4) (c2 : x2 ≠ 0) (v5 : Int) (e5 : v5 = S.1 66 9) (b5 : -2147483648 ≤ v5 ∧ v5 ≤ 2147483647) (v6 : Int) (e6 : v6 = fx_add v5 x3) (c3 : 0 ≤ v6) (c4 : v6 < 600) (v7 : Int) (e7 : v7 = S.1 70 v6) (b7 : -128 ≤ v7 ∧ v7 ≤ 127) (v8 : Int) (e8 : v8 = ((cz_sl.getD (x1).toNat 0 : Nat) : Int)) (c5 : 0 ≤ x3) (c6 : x3 < v8) (v9 : Int) (e9 : v9 = ((cz_sb.getD (x1).toNat []).getD (x3).toNat 0).toInt) (v10 : Int) (e10 : v10 = fx_and v9 255) (v11 : Int) (e11 : v11 = fx_i2c v10) (c7 : v7 = v11) (v12 : Int) (e12 : v12 = fx_add x3 1) (z : Int) (Z : fx_S) (kz : fx_Sok Z) (bz : -2147483648 ≤ z ∧ z ≤ 2147483647) (pz : s350 S x1 1 v12 z Z) : s350 S x1 x2 x3 z Z := by
  obtain rfl : S = Z := pz
  exact rfl
theorem q351_0 (S : fx_S) (x1 x2 : Int) (hS : fx_Sok S) (g1 : -2147483648 ≤ x1 ∧ x1 ≤ 2147483647) (g2 : -2147483648 ≤ x2 ∧ x2 ≤ 2147483647) (v2 : Int) (e2 : v2 = S.1 66 12) (b2 : -2147483648 ≤ v2 ∧ v2 ≤ 2147483647) (c1 : v2 ≠ 0) : s351 S x1 x2 0 S := by
  refine ⟨rfl, ?_, ?_⟩
  · intro p i hW
    clear c1 b2 e2
    exact rfl
  · skip
    skip
    first
      | exact .inl rfl
      | exact .inr (by omega)
      | (have q := p2 (by omega); omega)
      | (have q := p1 (by omega); omega)
theorem q351_1 (S : fx_S) (x1 x2 : Int) (hS : fx_Sok S) (g1 : -2147483648 ≤ x1 ∧ x1 ≤ 2147483647) (g2 : -2147483648 ≤ x2 ∧ x2 ≤ 2147483647) (v2 : Int) (e2 : v2 = S.1 66 12) (b2 : -2147483648 ≤ v2 ∧ v2 ≤ 2147483647) (c1 : v2 = 0) (v3 : Int) (e3 : v3 = S.1 66 10) (b3 : -2147483648 ≤ v3 ∧ v3 ≤ 2147483647) (c2 : v3 = 2) (v4 : Int) (e4 : v4 = S.1 66 11) (b4 : -2147483648 ≤ v4 ∧ v4 ≤ 2147483647) (v5 : Int) (S1 : fx_S) (k1 : fx_Sok S1) (b5 : -2147483648 ≤ v5 ∧ v5 ≤ 2147483647) (p1 : s113 S v4 x1 x2 v5 S1) (c3 : v5 ≠ 0) (v6 : Int) (e6 : v6 = S1.1 66 12) (b6 : -2147483648 ≤ v6 ∧ v6 ≤ 2147483647) (c4 : v6 ≠ 0) : s351 S x1 x2 0 S1 := by
  obtain ⟨rfl, p1⟩ := p1
  refine ⟨rfl, ?_, ?_⟩
  · intro p i hW
    clear c4 b6 e6 c3 b5 b4 e4 c2 b3 e3 c1 b2 e2
    exact rfl
  · skip
    have m1 := fx_in01 p1
    obtain rfl : v2 = v6 := by rw [e6, e2]
    first
      | exact .inl rfl
      | exact .inr (by omega)
      | (have q := p2 (by omega); omega)
      | (have q := p1 (by omega); omega)
theorem q351_2 (S : fx_S) (x1 x2 : Int) (hS : fx_Sok S) (g1 : -2147483648 ≤ x1 ∧ x1 ≤ 2147483647) (g2 : -2147483648 ≤ x2 ∧ x2 ≤ 2147483647) (v2 : Int) (e2 : v2 = S.1 66 12) (b2 : -2147483648 ≤ v2 ∧ v2 ≤ 2147483647) (c1 : v2 = 0) (v3 : Int) (e3 : v3 = S.1 66 10) (b3 : -2147483648 ≤ v3 ∧ v3 ≤ 2147483647) (c2 : v3 = 2) (v4 : Int) (e4 : v4 = S.1 66 11) (b4 : -2147483648 ≤ v4 ∧ v4 ≤ 2147483647) (v5 : Int) (S1 : fx_S) (k1 : fx_Sok S1) (b5 : -2147483648 ≤ v5 ∧ v5 ≤ 2147483647) (p1 : s113 S v4 x1 x2 v5 S1) (c3 : v5 ≠ 0) (v6 : Int) (e6 : v6 = S1.1 66 12) (b6 : -2147483648 ≤ v6 ∧ v6 ≤ 2147483647) (c4 : v6 = 0) (v7 : Int) (e7 : v7 = S1.1 66 11) (b7 : -2147483648 ≤ v7 ∧ v7 ≤ 2147483647) (v8 : Int) (S2 : fx_S) (k2 : fx_Sok S2) (b8 : v8 = 0) (p2 : s120 S1  v8 S2) : s351 S x1 x2 v7 S2 := by
  obtain ⟨rfl, p1⟩ := p1
  obtain ⟨r2, f2⟩ := p2
  refine ⟨r2, ?_, ?_⟩
  · intro p i hW
    clear b8 b7 e7 c4 b6 e6 c3 b5 b4 e4 c2 b3 e3 c1 b2 e2
    exact (f2 p i (by omega))
  · skip
    have m1 := fx_in01 p1
    obtain rfl : v2 = v6 := by rw [e6, e2]
    obtain rfl : v4 = v7 := by rw [e7, e4]
    first
      | exact .inl rfl
      | exact .inr (by omega)
      | (have q := p2 (by omega); omega)
      | (have q := p1 (by omega); omega)
theorem q351_3 (S : fx_S) (x1 x2 : Int) (hS : fx_Sok S) (g1 : -2147483648 ≤ x1 ∧ x1 ≤ 2147483647) (g2 : -2147483648 ≤ x2 ∧ x2 ≤ 2147483647) (v2 : Int) (e2 : v2 = S.1 66 12) (b2 : -2147483648 ≤ v2 ∧ v2 ≤ 2147483647) (c1 : v2 = 0) (v3 : Int) (e3 : v3 = S.1 66 10) (b3 : -2147483648 ≤ v3 ∧ v3 ≤ 2147483647) (c2 : v3 = 2) (v4 : Int) (e4 : v4 = S.1 66 11) (b4 : -2147483648 ≤ v4 ∧ v4 ≤ 2147483647) (v5 : Int) (S1 : fx_S) (k1 : fx_Sok S1) (b5 : -2147483648 ≤ v5 ∧ v5 ≤ 2147483647) (p1 : s113 S v4 x1 x2 v5 S1) (c3 : v5 = 0) (v6 : Int) (S2 : fx_S) (k2 : fx_Sok S2) (b6 : v6 = 0) (p2 : s226 S1 2 v6 S2) (v7 : Int) (e7 : v7 = S2.1 66 12) (b7 : -2147483648 ≤ v7 ∧ v7 ≤ 2147483647) (c4 : v7 ≠ 0) : s351 S x1 x2 0 S2 := by
  obtain ⟨rfl, p1⟩ := p1
  obtain ⟨r2, f2, p2⟩ := p2
  refine ⟨r2, ?_, ?_⟩
  · intro p i hW
    clear c4 b7 e7 b6 c3 b5 b4 e4 c2 b3 e3 c1 b2 e2
    exact (f2 p i (by omega))
  · skip
    have m1 := fx_in01 p1
    first
      | exact .inl rfl
      | exact .inr (by omega)
      | (have q := p2 (by omega); omega)
      | (have q := p1 (by omega); omega)
theorem q351_4 (S : fx_S) (x1 x2 : Int) (hS : fx_Sok S) (g1 : -2147483648 ≤ x1 ∧ x1 ≤ 2147483647) (g2 : -2147483648 ≤ x2 ∧ x2 ≤ 2147483647) (v2 : Int) (e2 : v2 = S.1 66 12) (b2 : -2147483648 ≤ v2 ∧ v2 ≤ 2147483647) (c1 : v2 = 0) (v3 : Int) (e3 : v3 = S.1 66 10) (b3 : -2147483648 ≤ v3 ∧ v3 ≤ 2147483647) (c2 : v3 = 2) (v4 : Int) (e4 : v4 = S.1 66 11) (b4 : -2147483648 ≤ v4 ∧ v4 ≤ 2147483647) (v5 : Int) (S1 : fx_S) (k1 : fx_Sok S1) (b5 : -2147483648 ≤ v5 ∧ v5 ≤ 2147483647) (p1 : s113 S v4 x1 x2 v5 S1) (c3 : v5 = 0) (v6 : Int) (S2 : fx_S) (k2 : fx_Sok S2) (b6 : v6 = 0) (p2 : s226 S1 2 v6 S2) (v7 : Int) (e7 : v7 = S2.1 66 12) (b7 : -2147483648 ≤ v7 ∧ v7 ≤ 2147483647) (c4 : v7 = 0) (v8 : Int) (e8 : v8 = S2.1 66 11) (b8 : -2147483648 ≤ v8 ∧ v8 ≤ 2147483647) (v9 : Int) (S3 : fx_S) (k3 : fx_Sok S3) (b9 : v9 = 0) (p3 : s120 S2  v9 S3) : s351 S x1 x2 v8 S3 := by
  obtain ⟨rfl, p1⟩ := p1
  obtain ⟨r2, f2, p2⟩ := p2
  obtain ⟨r3, f3⟩ := p3
  refine ⟨(r3).trans (r2), ?_, ?_⟩
  · intro p i hW
    clear b9 b8 e8 c4 b7 e7 b6 c3 b5 b4 e4 c2 b3 e3 c1 b2 e2
    exact ((f3 p i (by omega))).trans ((f2 p i (by omega)))
  · skip
    have m1 := fx_in01 p1
    rw [f2 66 11 (by omega)] at e8
    obtain rfl : v4 = v8 := by rw [e8, e4]
    first
      | exact .inl rfl
      | exact .inr (by omega)
      | (have q := p2 (by omega); omega)
      | (have q := p1 (by omega); omega)
theorem q351_5 (S : fx_S) (x1 x2 : Int) (hS : fx_Sok S) (g1 : -2147483648 ≤ x1 ∧ x1 ≤ 2147483647) (g2 : -2147483648 ≤ x2 ∧ x2 ≤ 2147483647) (v2 : Int) (e2 : v2 = S.1 66 12) (b2 : -2147483648 ≤ v2 ∧ v2 ≤ 2147483647) (c1 : v2 = 0) (v3 : Int) (e3 : v3 = S.1 66 10) (b3 : -2147483648 ≤ v3 ∧ v3 ≤ 2147483647) (c2 : v3 ≠ 2) (v4 : Int) (S1 : fx_S) (k1 : fx_Sok S1) (b4 : v4 = 0) (p1 : s226 S 1 v4 S1) (v5 : Int) (e5 : v5 = S1.1 66 12) (b5 : -2147483648 ≤ v5 ∧ v5 ≤ 2147483647) (c3 : v5 ≠ 0) : s351 S x1 x2 0 S1 := by
  obtain ⟨r1, f1, p1⟩ := p1
  refine ⟨r1, ?_, ?_⟩
  · intro p i hW
    clear c3 b5 e5 b4 c2 b3 e3 c1 b2 e2
    exact (f1 p i (by omega))
  · skip
    skip
    first
      | exact .inl rfl
      | exact .inr (by omega)
      | (have q := p2 (by omega); omega)
      | (have q := p1 (by omega); omega)
theorem q351_6 (S : fx_S) (x1 x2 : Int) (hS : fx_Sok S) (g1 : -2147483648 ≤ x1 ∧ x1 ≤ 2147483647) (g2 : -2147483648 ≤ x2 ∧ x2 ≤ 2147483647) (v2 : Int) (e2 : v2 = S.1 66 12) (b2 : -2147483648 ≤ v2 ∧ v2 ≤ 2147483647) (c1 : v2 = 0) (v3 : Int) (e3 : v3 = S.1 66 10) (b3 : -2147483648 ≤ v3 ∧ v3 ≤ 2147483647) (c2 : v3 ≠ 2) (v4 : Int) (S1 : fx_S) (k1 : fx_Sok S1) (b4 : v4 = 0) (p1 : s226 S 1 v4 S1) (v5 : Int) (e5 : v5 = S1.1 66 12) (b5 : -2147483648 ≤ v5 ∧ v5 ≤ 2147483647) (c3 : v5 = 0) (v6 : Int) (e6 : v6 = S1.1 66 11) (b6 : -2147483648 ≤ v6 ∧ v6 ≤ 2147483647) (v7 : Int) (S2 : fx_S) (k2 : fx_Sok S2) (b7 : v7 = 0) (p2 : s120 S1  v7 S2) : s351 S x1 x2 v6 S2 := by
  obtain ⟨r1, f1, p1⟩ := p1
  obtain ⟨r2, f2⟩ := p2
  refine ⟨(r2).trans (r1), ?_, ?_⟩
  · intro p i hW
    clear b7 b6 e6 c3 b5 e5 b4 c2 b3 e3 c1 b2 e2
    exact ((f2 p i (by omega))).trans ((f1 p i (by omega)))
  · skip
    rw [f1 66 11 (by omega)] at e6
    first
      | exact .inl rfl
      | exact .inr (by omega)
      | (have q := p2 (by omega); omega)
      | (have q := p1 (by omega); omega)
theorem q352_0 (S : fx_S) (x1 : Int) (hS : fx_Sok S) (g1 : -2147483648 ≤ x1 ∧ x1 ≤ 2147483647) (v1 : Int) (e1 : v1 = S.1 66 12) (b1 : -2147483648 ≤ v1 ∧ v1 ≤ 2147483647) (c1 : v1 ≠ 0) : s352 S x1 0 S := by
  exact rfl
theorem q352_1 (S : fx_S) (x1 : Int) (hS : fx_Sok S) (g1 : -2147483648 ≤ x1 ∧ x1 ≤ 2147483647) (v1 : Int) (e1 : v1 = S.1 66 12) (b1 : -2147483648 ≤ v1 ∧ v1 ≤ 2147483647) (c1 : v1 = 0) (v2 : Int) (e2 : v2 = S.1 66 10) (b2 : -2147483648 ≤ v2 ∧ v2 ≤ 2147483647) (c2 : v2 ≠ 3) : s352 S x1 0 S := by
  exact rfl
theorem q352_2 (S : fx_S) (x1 : Int) (hS : fx_Sok S) (g1 : -2147483648 ≤ x1 ∧ x1 ≤ 2147483647) (v1 : Int) (e1 : v1 = S.1 66 12) (b1 : -2147483648 ≤ v1 ∧ v1 ≤ 2147483647) (c1 : v1 = 0) (v2 : Int) (e2 : v2 = S.1 66 10) (b2 : -2147483648 ≤ v2 ∧ v2 ≤ 2147483647) (c2 : v2 = 3) (v3 : Int) (e3 : v3 = S.1 66 11) (b3 : -2147483648 ≤ v3 ∧ v3 ≤ 2147483647) (c3 : v3 ≠ x1) : s352 S x1 0 S := by
  exact rfl
theorem q352_3 (S : fx_S) (x1 : Int) (hS : fx_Sok S) (g1 : -2147483648 ≤ x1 ∧ x1 ≤ 2147483647) (v1 : Int) (e1 : v1 = S.1 66 12) (b1 : -2147483648 ≤ v1 ∧ v1 ≤ 2147483647) (c1 : v1 = 0) (v2 : Int) (e2 : v2 = S.1 66 10) (b2 : -2147483648 ≤ v2 ∧ v2 ≤ 2147483647) (c2 : v2 = 3) (v3 : Int) (e3 : v3 = S.1 66 11) (b3 : -2147483648 ≤ v3 ∧ v3 ≤ 2147483647) (c3 : v3 = x1) : s352 S x1 1 S := by
  exact rfl
theorem q353_0 (S : fx_S) (x1 : Int) (hS : fx_Sok S) (v1 : Int) (S1 : fx_S) (k1 : fx_Sok S1) (b1 : -2147483648 ≤ v1 ∧ v1 ≤ 2147483647) (p1 : s304 S x1 v1 S1) (c1 : v1 = 0) : s353 S x1 v1 S1 := by
  obtain rfl : S = S1 := p1
  refine ⟨rfl, ?_⟩
  · intro p i hW
    clear c1 b1
    exact rfl
theorem q353_1 (S : fx_S) (x1 : Int) (hS : fx_Sok S) (v1 : Int) (S1 : fx_S) (k1 : fx_Sok S1) (b1 : -2147483648 ≤ v1 ∧ v1 ≤ 2147483647) (p1 : s304 S x1 v1 S1) (c1 : v1 ≠ 0) (v2 : Int) (S2 : fx_S) (k2 : fx_Sok S2) (b2 : v2 = 0) (p2 : s120 S1  v2 S2) : s353 S x1 v1 S2 := by
  obtain rfl : S = S1 := p1
  obtain ⟨r2, f2⟩ := p2
  refine ⟨r2, ?_⟩
  · intro p i hW
    clear b2 c1 b1
    exact (f2 p i (by omega))
theorem q354_0 (S : fx_S) (x1 : Int) (hS : fx_Sok S) (g1 : -2147483648 ≤ x1 ∧ x1 ≤ 2147483647) (v1 : Int) (e1 : v1 = fx_add x1 1) (v2 : Int) (S1 : fx_S) (k1 : fx_Sok S1) (b2 : -2147483648 ≤ v2 ∧ v2 ≤ 2147483647) (p1 : s351 S 0 3 v2 S1) (c1 : 0 ≤ v1) (c2 : v1 < 260) (S2 : fx_S) (d2 : S2 = (fx_up S1.1 72 v1 v2, S1.2)) (v3 : Int) (S3 : fx_S) (k3 : fx_Sok S3) (b3 : -2147483648 ≤ v3 ∧ v3 ≤ 2147483647) (p3 : s353 S2 5 v3 S3) (c3 : v3 ≠ 0) (z : Int) (Z : fx_S) (kz : fx_Sok Z) (bz : z = 0) (pz : s379 S3 x1 1 z Z) : s354 S x1 z Z := by
  obtain ⟨r1, f1, p1⟩ := p1
  obtain ⟨r3, f3⟩ := p3
  obtain ⟨rZ, fZ, pz⟩ := pz
  refine ⟨(rZ).trans ((r3).trans (((show S2.2 = S1.2 by rw [d2])).trans (r1))), ?_, ?_⟩
  · intro p i hW
    clear c3 b3 c2 c1 b2 e1
    exact ((fZ p i (by omega))).trans (((f3 p i (by omega))).trans (((show S2.1 p i = S1.1 p i by rw [d2]; exact if_neg (by omega))).trans ((f1 p i (by omega)))))
  · skip
    intro a0 a1
    have h1 := e1
    first | rw [fx_add_eq (by omega) (by omega)] at h1 | skip
    have t1 : ∀ i, S1.1 72 i = S.1 72 i := fun i => f1 72 i (by omega)
    have t2 : ∀ i, i ≠ x1 + 1 → S2.1 72 i = S1.1 72 i := fun i hi => by rw [d2]; first | exact if_neg (by omega) | rfl
    have t3 : ∀ i, S3.1 72 i = S2.1 72 i := fun i => f3 72 i (by omega)
    have u : S2.1 72 (x1 + 1) = v2 := by rw [d2]; exact if_pos ⟨rfl, by omega⟩
    obtain ⟨b1, b2⟩ := pz a0 (by rw [t3, t2 _ (by omega), t1, a1]; omega)
    refine ⟨?_, fun i hi => ?_⟩
    · rw [b2 _ (by omega), t3, u]
      omega
    · rw [b2 _ (by omega), t3, t2 _ (by omega), t1]
theorem q354_1 (S : fx_S) (x1 : Int) (hS : fx_Sok S) (g1 : -2147483648 ≤ x1 ∧ x1 ≤ 2147483647) (v1 : Int) (e1 : v1 = fx_add x1 1) (v2 : Int) (S1 : fx_S) (k1 : fx_Sok S1) (b2 : -2147483648 ≤ v2 ∧ v2 ≤ 2147483647) (p1 : s351 S 0 3 v2 S1) (c1 : 0 ≤ v1) (c2 : v1 < 260) (S2 : fx_S) (d2 : S2 = (fx_up S1.1 72 v1 v2, S1.2)) (v3 : Int) (S3 : fx_S) (k3 : fx_Sok S3) (b3 : -2147483648 ≤ v3 ∧ v3 ≤ 2147483647) (p3 : s353 S2 5 v3 S3) (c3 : v3 = 0) : s354 S x1 0 S3 := by
  obtain ⟨r1, f1, p1⟩ := p1
  obtain ⟨r3, f3⟩ := p3
  refine ⟨(r3).trans (((show S2.2 = S1.2 by rw [d2])).trans (r1)), ?_, ?_⟩
  · intro p i hW
    clear c3 b3 c2 c1 b2 e1
    exact ((f3 p i (by omega))).trans (((show S2.1 p i = S1.1 p i by rw [d2]; exact if_neg (by omega))).trans ((f1 p i (by omega))))
  · skip
    intro a0 a1
    have h1 := e1
    first | rw [fx_add_eq (by omega) (by omega)] at h1 | skip
    have t1 : ∀ i, S1.1 72 i = S.1 72 i := fun i => f1 72 i (by omega)
    have t2 : ∀ i, i ≠ x1 + 1 → S2.1 72 i = S1.1 72 i := fun i hi => by rw [d2]; first | exact if_neg (by omega) | rfl
    have t3 : ∀ i, S3.1 72 i = S2.1 72 i := fun i => f3 72 i (by omega)
    have u : S2.1 72 (x1 + 1) = v2 := by rw [d2]; exact if_pos ⟨rfl, by omega⟩
    refine ⟨?_, fun i hi => ?_⟩
    · rw [t3, u]
      omega
    · rw [t3, t2 _ (by omega), t1]
theorem q355_0 (S : fx_S) (x0 x1 x2 x3 x4 : Int) (hS : fx_Sok S) (g0 : -1 ≤ x0 ∧ x0 < S.2.2) (g1 : -2147483648 ≤ x1 ∧ x1 ≤ 2147483647) (g2 : -2147483648 ≤ x2 ∧ x2 ≤ 2147483647) (g3 : -2147483648 ≤ x3 ∧ x3 ≤ 2147483647) (g4 : -2147483648 ≤ x4 ∧ x4 ≤ 2147483647) (c1 : x1 ≠ 0) (c2 : x0 ≠ (-1)) (v5 : Int) (e5 : v5 = fx_sub x1 1) (c3 : 0 ≤ v5) (c4 : v5 < 16) (v6 : Int) (e6 : v6 = S.1 (x0 + 3) v5) (b6 : -2147483648 ≤ v6 ∧ v6 ≤ 2147483647) (z : Int) (Z : fx_S) (kz : fx_Sok Z) (bz : -2147483648 ≤ z ∧ z ≤ 2147483647) (pz : s380 S x0 x1 x2 x3 x4 v6 z Z) : s355 S x0 x1 x2 x3 x4 z Z := by
  obtain rfl : S = Z := pz
  exact rfl
theorem q355_1 (S : fx_S) (x0 x1 x2 x3 x4 : Int) (hS : fx_Sok S) (g0 : -1 ≤ x0 ∧ x0 < S.2.2) (g1 : -2147483648 ≤ x1 ∧ x1 ≤ 2147483647) (g2 : -2147483648 ≤ x2 ∧ x2 ≤ 2147483647) (g3 : -2147483648 ≤ x3 ∧ x3 ≤ 2147483647) (g4 : -2147483648 ≤ x4 ∧ x4 ≤ 2147483647) (c1 : x1 = 0) (z : Int) (Z : fx_S) (kz : fx_Sok Z) (bz : -2147483648 ≤ z ∧ z ≤ 2147483647) (pz : s380 S x0 x1 x2 x3 x4 0 z Z) : s355 S x0 x1 x2 x3 x4 z Z := by
  obtain rfl : S = Z := pz
  exact rfl
theorem q356_0 (S : fx_S) (x1 x2 x3 : Int) (hS : fx_Sok S) (g1 : -2147483648 ≤ x1 ∧ x1 ≤ 2147483647) (g2 : -2147483648 ≤ x2 ∧ x2 ≤ 2147483647) (g3 : -2147483648 ≤ x3 ∧ x3 ≤ 2147483647) (v3 : Int) (e3 : v3 = fx_add x1 3) (c1 : 0 ≤ v3) (c2 : v3 < 8090) (v4 : Int) (e4 : v4 = S.1 67 v3) (b4 : -2147483648 ≤ v4 ∧ v4 ≤ 2147483647) (v5 : Int) (e5 : v5 = fx_add x1 1) (c3 : 0 ≤ v5) (c4 : v5 < 8090) (v6 : Int) (e6 : v6 = S.1 67 v5) (b6 : -2147483648 ≤ v6 ∧ v6 ≤ 2147483647) (c5 : v6 ≠ 3) (v7 : Int) (e7 : v7 = fx_add x1 1) (c6 : 0 ≤ v7) (c7 : v7 < 8090) (v8 : Int) (e8 : v8 = S.1 67 v7) (b8 : -2147483648 ≤ v8 ∧ v8 ≤ 2147483647) (c8 : v8 ≠ 0) (v9 : Int) (e9 : v9 = fx_mul 4 x2) (v10 : Int) (e10 : v10 = fx_add 20 v9) (v11 : Int) (e11 : v11 = fx_add x1 1) (c9 : 0 ≤ v11) (c10 : v11 < 8090) (v12 : Int) (e12 : v12 = S.1 67 v11) (b12 : -2147483648 ≤ v12 ∧ v12 ≤ 2147483647) (v13 : Int) (e13 : v13 = fx_add v10 v12) (v14 : Int) (e14 : v14 = fx_sub v13 1) (c11 : 0 ≤ v14) (c12 : v14 < 8090) (v15 : Int) (e15 : v15 = S.1 67 v14) (b15 : -2147483648 ≤ v15 ∧ v15 ≤ 2147483647) (v16 : Int) (e16 : v16 = fx_add x1 2) (c13 : 0 ≤ v16) (c14 : v16 < 8090) (v17 : Int) (e17 : v17 = S.1 67 v16) (b17 : -2147483648 ≤ v17 ∧ v17 ≤ 2147483647) (c15 : v17 ≠ 60) (v18 : Int) (e18 : v18 = fx_add x1 2) (c16 : 0 ≤ v18) (c17 : v18 < 8090) (v19 : Int) (e19 : v19 = S.1 67 v18) (b19 : -2147483648 ≤ v19 ∧ v19 ≤ 2147483647) (c18 : v19 ≠ 62) (c19 : v15 ≠ v4) (c20 : 0 ≤ x1) (c21 : x1 < 8090) (v20 : Int) (e20 : v20 = S.1 67 x1) (b20 : -2147483648 ≤ v20 ∧ v20 ≤ 2147483647) (c22 : v20 ≠ 1) : s356 S x1 x2 x3 0 S := by
  exact rfl
theorem q356_1 (S : fx_S) (x1 x2 x3 : Int) (hS : fx_Sok S) (g1 : -2147483648 ≤ x1 ∧ x1 ≤ 2147483647) (g2 : -2147483648 ≤ x2 ∧ x2 ≤ 2147483647) (g3 : -2147483648 ≤ x3 ∧ x3 ≤ 2147483647) (v3 : Int) (e3 : v3 = fx_add x1 3) (c1 : 0 ≤ v3) (c2 : v3 < 8090) (v4 : Int) (e4 : v4 = S.1 67 v3) (b4 : -2147483648 ≤ v4 ∧ v4 ≤ 2147483647) (v5 : Int) (e5 : v5 = fx_add x1 1) (c3 : 0 ≤ v5) (c4 : v5 < 8090) (v6 : Int) (e6 : v6 = S.1 67 v5) (b6 : -2147483648 ≤ v6 ∧ v6 ≤ 2147483647) (c5 : v6 ≠ 3) (v7 : Int) (e7 : v7 = fx_add x1 1) (c6 : 0 ≤ v7) (c7 : v7 < 8090) (v8 : Int) (e8 : v8 = S.1 67 v7) (b8 : -2147483648 ≤ v8 ∧ v8 ≤ 2147483647) (c8 : v8 ≠ 0) (v9 : Int) (e9 : v9 = fx_mul 4 x2) (v10 : Int) (e10 : v10 = fx_add 20 v9) (v11 : Int) (e11 : v11 = fx_add x1 1) (c9 : 0 ≤ v11) (c10 : v11 < 8090) (v12 : Int) (e12 : v12 = S.1 67 v11) (b12 : -2147483648 ≤ v12 ∧ v12 ≤ 2147483647) (v13 : Int) (e13 : v13 = fx_add v10 v12) (v14 : Int) (e14 : v14 = fx_sub v13 1) (c11 : 0 ≤ v14) (c12 : v14 < 8090) (v15 : Int) (e15 : v15 = S.1 67 v14) (b15 : -2147483648 ≤ v15 ∧ v15 ≤ 2147483647) (v16 : Int) (e16 : v16 = fx_add x1 2) (c13 : 0 ≤ v16) (c14 : v16 < 8090) (v17 : Int) (e17 : v17 = S.1 67 v16) (b17 : -2147483648 ≤ v17 ∧ v17 ≤ 2147483647) (c15 : v17 ≠ 60) (v18 : Int) (e18 : v18 = fx_add x1 2) (c16 : 0 ≤ v18) (c17 : v18 < 8090) (v19 : Int) (e19 : v19 = S.1 67 v18) (b19 : -2147483648 ≤ v19 ∧ v19 ≤ 2147483647) (c18 : v19 ≠ 62) (c19 : v15 ≠ v4) (c20 : 0 ≤ x1) (c21 : x1 < 8090) (v20 : Int) (e20 : v20 = S.1 67 x1) (b20 : -2147483648 ≤ v20 ∧ v20 ≤ 2147483647) (c22 : v20 = 1) : s356 S x1 x2 x3 1 S := by
  exact rfl
theorem q356_2 (S : fx_S) (x1 x2 x3 : Int) (hS : fx_Sok S) (g1 : -2147483648 ≤ x1 ∧ x1 ≤ 2147483647) (g2 : -2147483648 ≤ x2 ∧ x2 ≤ 2147483647) (g3 : -2147483648 ≤ x3 ∧ x3 ≤ 2147483647) (v3 : Int) (e3 : v3 = fx_add x1 3) (c1 : 0 ≤ v3) (c2 : v3 < 8090) (v4 : Int) (e4 : v4 = S.1 67 v3) (b4 : -2147483648 ≤ v4 ∧ v4 ≤ 2147483647) (v5 : Int) (e5 : v5 = fx_add x1 1) (c3 : 0 ≤ v5) (c4 : v5 < 8090) (v6 : Int) (e6 : v6 = S.1 67 v5) (b6 : -2147483648 ≤ v6 ∧ v6 ≤ 2147483647) (c5 : v6 ≠ 3) (v7 : Int) (e7 : v7 = fx_add x1 1) (c6 : 0 ≤ v7) (c7 : v7 < 8090) (v8 : Int) (e8 : v8 = S.1 67 v7) (b8 : -2147483648 ≤ v8 ∧ v8 ≤ 2147483647) (c8 : v8 ≠ 0) (v9 : Int) (e9 : v9 = fx_mul 4 x2) (v10 : Int) (e10 : v10 = fx_add 20 v9) (v11 : Int) (e11 : v11 = fx_add x1 1) (c9 : 0 ≤ v11) (c10 : v11 < 8090) (v12 : Int) (e12 : v12 = S.1 67 v11) (b12 : -2147483648 ≤ v12 ∧ v12 ≤ 2147483647) (v13 : Int) (e13 : v13 = fx_add v10 v12) (v14 : Int) (e14 : v14 = fx_sub v13 1) (c11 : 0 ≤ v14) (c12 : v14 < 8090) (v15 : Int) (e15 : v15 = S.1 67 v14) (b15 : -2147483648 ≤ v15 ∧ v15 ≤ 2147483647) (v16 : Int) (e16 : v16 = fx_add x1 2) (c13 : 0 ≤ v16) (c14 : v16 < 8090) (v17 : Int) (e17 : v17 = S.1 67 v16) (b17 : -2147483648 ≤ v17 ∧ v17 ≤ 2147483647) (c15 : v17 ≠ 60) (v18 : Int) (e18 : v18 = fx_add x1 2) (c16 : 0 ≤ v18) (c17 : v18 < 8090) (v19 : Int) (e19 : v19 = S.1 67 v18) (b19 : -2147483648 ≤ v19 ∧ v19 ≤ 2147483647) (c18 : v19 ≠ 62) (c19 : v15 = v4) (c20 : 0 ≤ x1) (c21 : x1 < 8090) (v20 : Int) (e20 : v20 = S.1 67 x1) (b20 : -2147483648 ≤ v20 ∧ v20 ≤ 2147483647) (c22 : v20 ≠ 1) : s356 S x1 x2 x3 1 S := by
  exact rfl
theorem q356_3 (S : fx_S) (x1 x2 x3 : Int) (hS : fx_Sok S) (g1 : -2147483648 ≤ x1 ∧ x1 ≤ 2147483647) (g2 : -2147483648 ≤ x2 ∧ x2 ≤ 2147483647) (g3 : -2147483648 ≤ x3 ∧ x3 ≤ 2147483647) (v3 : Int) (e3 : v3 = fx_add x1 3) (c1 : 0 ≤ v3) (c2 : v3 < 8090) (v4 : Int) (e4 : v4 = S.1 67 v3) (b4 : -2147483648 ≤ v4 ∧ v4 ≤ 2147483647) (v5 : Int) (e5 : v5 = fx_add x1 1) (c3 : 0 ≤ v5) (c4 : v5 < 8090) (v6 : Int) (e6 : v6 = S.1 67 v5) (b6 : -2147483648 ≤ v6 ∧ v6 ≤ 2147483647) (c5 : v6 ≠ 3) (v7 : Int) (e7 : v7 = fx_add x1 1) (c6 : 0 ≤ v7) (c7 : v7 < 8090) (v8 : Int) (e8 : v8 = S.1 67 v7) (b8 : -2147483648 ≤ v8 ∧ v8 ≤ 2147483647) (c8 : v8 ≠ 0) (v9 : Int) (e9 : v9 = fx_mul 4 x2) (v10 : Int) (e10 : v10 = fx_add 20 v9) (v11 : Int) (e11 : v11 = fx_add x1 1) (c9 : 0 ≤ v11) (c10 : v11 < 8090) (v12 : Int) (e12 : v12 = S.1 67 v11) (b12 : -2147483648 ≤ v12 ∧ v12 ≤ 2147483647) (v13 : Int) (e13 : v13 = fx_add v10 v12) (v14 : Int) (e14 : v14 = fx_sub v13 1) (c11 : 0 ≤ v14) (c12 : v14 < 8090) (v15 : Int) (e15 : v15 = S.1 67 v14) (b15 : -2147483648 ≤ v15 ∧ v15 ≤ 2147483647) (v16 : Int) (e16 : v16 = fx_add x1 2) (c13 : 0 ≤ v16) (c14 : v16 < 8090) (v17 : Int) (e17 : v17 = S.1 67 v16) (b17 : -2147483648 ≤ v17 ∧ v17 ≤ 2147483647) (c15 : v17 ≠ 60) (v18 : Int) (e18 : v18 = fx_add x1 2) (c16 : 0 ≤ v18) (c17 : v18 < 8090) (v19 : Int) (e19 : v19 = S.1 67 v18) (b19 : -2147483648 ≤ v19 ∧ v19 ≤ 2147483647) (c18 : v19 ≠ 62) (c19 : v15 = v4) (c20 : 0 ≤ x1) (c21 : x1 < 8090) (v20 : Int) (e20 : v20 = S.1 67 x1) (b20 : -2147483648 ≤ v20 ∧ v20 ≤ 2147483647) (c22 : v20 = 1) : s356 S x1 x2 x3 0 S := by
  exact rfl
theorem q356_4 (S : fx_S) (x1 x2 x3 : Int) (hS : fx_Sok S) (g1 : -2147483648 ≤ x1 ∧ x1 ≤ 2147483647) (g2 : -2147483648 ≤ x2 ∧ x2 ≤ 2147483647) (g3 : -2147483648 ≤ x3 ∧ x3 ≤ 2147483647) (v3 : Int) (e3 : v3 = fx_add x1 3) (c1 : 0 ≤ v3) (c2 : v3 < 8090) (v4 : Int) (e4 : v4 = S.1 67 v3) (b4 : -2147483648 ≤ v4 ∧ v4 ≤ 2147483647) (v5 : Int) (e5 : v5 = fx_add x1 1) (c3 : 0 ≤ v5) (c4 : v5 < 8090) (v6 : Int) (e6 : v6 = S.1 67 v5) (b6 : -2147483648 ≤ v6 ∧ v6 ≤ 2147483647) (c5 : v6 ≠ 3) (v7 : Int) (e7 : v7 = fx_add x1 1) (c6 : 0 ≤ v7) (c7 : v7 < 8090) (v8 : Int) (e8 : v8 = S.1 67 v7) (b8 : -2147483648 ≤ v8 ∧ v8 ≤ 2147483647) (c8 : v8 ≠ 0) (v9 : Int) (e9 : v9 = fx_mul 4 x2) (v10 : Int) (e10 : v10 = fx_add 20 v9) (v11 : Int) (e11 : v11 = fx_add x1 1) (c9 : 0 ≤ v11) (c10 : v11 < 8090) (v12 : Int) (e12 : v12 = S.1 67 v11) (b12 : -2147483648 ≤ v12 ∧ v12 ≤ 2147483647) (v13 : Int) (e13 : v13 = fx_add v10 v12) (v14 : Int) (e14 : v14 = fx_sub v13 1) (c11 : 0 ≤ v14) (c12 : v14 < 8090) (v15 : Int) (e15 : v15 = S.1 67 v14) (b15 : -2147483648 ≤ v15 ∧ v15 ≤ 2147483647) (v16 : Int) (e16 : v16 = fx_add x1 2) (c13 : 0 ≤ v16) (c14 : v16 < 8090) (v17 : Int) (e17 : v17 = S.1 67 v16) (b17 : -2147483648 ≤ v17 ∧ v17 ≤ 2147483647) (c15 : v17 ≠ 60) (v18 : Int) (e18 : v18 = fx_add x1 2) (c16 : 0 ≤ v18) (c17 : v18 < 8090) (v19 : Int) (e19 : v19 = S.1 67 v18) (b19 : -2147483648 ≤ v19 ∧ v19 ≤ 2147483647) (c18 : v19 = 62) (c19 : v15 ≤ v4) (c20 : 0 ≤ x1) (c21 : x1 < 8090) (v20 : Int) (e20 : v20 = S.1 67 x1) (b20 : -2147483648 ≤ v20 ∧ v20 ≤ 2147483647) (c22 : v20 ≠ 1) : s356 S x1 x2 x3 0 S := by
  exact rfl
theorem q356_5 (S : fx_S) (x1 x2 x3 : Int) (hS : fx_Sok S) (g1 : -2147483648 ≤ x1 ∧ x1 ≤ 2147483647) (g2 : -2147483648 ≤ x2 ∧ x2 ≤ 2147483647) (g3 : -2147483648 ≤ x3 ∧ x3 ≤ 2147483647) (v3 : Int) (e3 : v3 = fx_add x1 3) (c1 : 0 ≤ v3) (c2 : v3 < 8090) (v4 : Int) (e4 : v4 = S.1 67 v3) (b4 : -2147483648 ≤ v4 ∧ v4 ≤ 2147483647) (v5 : Int) (e5 : v5 = fx_add x1 1) (c3 : 0 ≤ v5) (c4 : v5 < 8090) (v6 : Int) (e6 : v6 = S.1 67 v5) (b6 : -2147483648 ≤ v6 ∧ v6 ≤ 2147483647) (c5 : v6 ≠ 3) (v7 : Int) (e7 : v7 = fx_add x1 1) (c6 : 0 ≤ v7) (c7 : v7 < 8090) (v8 : Int) (e8 : v8 = S.1 67 v7) (b8 : -2147483648 ≤ v8 ∧ v8 ≤ 2147483647) (c8 : v8 ≠ 0) (v9 : Int) (e9 : v9 = fx_mul 4 x2) (v10 : Int) (e10 : v10 = fx_add 20 v9) (v11 : Int) (e11 : v11 = fx_add x1 1) (c9 : 0 ≤ v11) (c10 : v11 < 8090) (v12 : Int) (e12 : v12 = S.1 67 v11) (b12 : -2147483648 ≤ v12 ∧ v12 ≤ 2147483647) (v13 : Int) (e13 : v13 = fx_add v10 v12) (v14 : Int) (e14 : v14 = fx_sub v13 1) (c11 : 0 ≤ v14) (c12 : v14 < 8090) (v15 : Int) (e15 : v15 = S.1 67 v14) (b15 : -2147483648 ≤ v15 ∧ v15 ≤ 2147483647) (v16 : Int) (e16 : v16 = fx_add x1 2) (c13 : 0 ≤ v16) (c14 : v16 < 8090) (v17 : Int) (e17 : v17 = S.1 67 v16) (b17 : -2147483648 ≤ v17 ∧ v17 ≤ 2147483647) (c15 : v17 ≠ 60) (v18 : Int) (e18 : v18 = fx_add x1 2) (c16 : 0 ≤ v18) (c17 : v18 < 8090) (v19 : Int) (e19 : v19 = S.1 67 v18) (b19 : -2147483648 ≤ v19 ∧ v19 ≤ 2147483647) (c18 : v19 = 62) (c19 : v15 ≤ v4) (c20 : 0 ≤ x1) (c21 : x1 < 8090) (v20 : Int) (e20 : v20 = S.1 67 x1) (b20 : -2147483648 ≤ v20 ∧ v20 ≤ 2147483647) (c22 : v20 = 1) : s356 S x1 x2 x3 1 S := by
  exact rfl
