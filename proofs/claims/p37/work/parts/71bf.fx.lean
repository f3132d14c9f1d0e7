/-! FX: what is to be shown of the entries -/
theorem q375_0 (S : fx_S) (x0 : Int) (hS : fx_Sok S) (g0 : -2147483648 ≤ x0 ∧ x0 ≤ 2147483647) (c1 : 0 ≤ x0) : s375 S x0 x0 S := by
  exact rfl
theorem q375_1 (S : fx_S) (x0 : Int) (hS : fx_Sok S) (g0 : -2147483648 ≤ x0 ∧ x0 ≤ 2147483647) (c1 : x0 < 0) (v1 : Int) (e1 : v1 = fx_neg x0) : s375 S x0 v1 S := by
  exact rfl
theorem q376_0 (S : fx_S) (x1 : Int) (hS : fx_Sok S) (v1 : Int) (e1 : v1 = S.1 50 2) (b1 : -2147483648 ≤ v1 ∧ v1 ≤ 2147483647) (c1 : v1 ≠ 0) : s376 S x1 0 S := by
  exact rfl
theorem q376_1 (S : fx_S) (x1 : Int) (hS : fx_Sok S) (v1 : Int) (e1 : v1 = S.1 50 2) (b1 : -2147483648 ≤ v1 ∧ v1 ≤ 2147483647) (c1 : v1 = 0) (v2 : Int) (e2 : v2 = S.1 50 6) (b2 : -2147483648 ≤ v2 ∧ v2 ≤ 2147483647) (c2 : v2 ≠ 1) : s376 S x1 0 S := by
  exact rfl
theorem q376_2 (S : fx_S) (x1 : Int) (hS : fx_Sok S) (v1 : Int) (e1 : v1 = S.1 50 2) (b1 : -2147483648 ≤ v1 ∧ v1 ≤ 2147483647) (c1 : v1 = 0) (v2 : Int) (e2 : v2 = S.1 50 6) (b2 : -2147483648 ≤ v2 ∧ v2 ≤ 2147483647) (c2 : v2 = 1) (v3 : Int) (e3 : v3 = S.1 50 4) (b3 : -2147483648 ≤ v3 ∧ v3 ≤ 2147483647) (v4 : Int) (e4 : v4 = S.1 50 5) (b4 : -2147483648 ≤ v4 ∧ v4 ≤ 2147483647) (v5 : Int) (e5 : v5 = fx_sub v3 v4) (v6 : Int) (e6 : v6 = ((cz_sl.getD (x1).toNat 0 : Nat) : Int)) (v7 : Int) (e7 : v7 = fx_shr v6 0) (c3 : v5 = v7) (z : Int) (Z : fx_S) (kz : fx_Sok Z) (bz : -2147483648 ≤ z ∧ z ≤ 2147483647) (pz : s390 S x1 0 z Z) : s376 S x1 z Z := by
  obtain rfl : S = Z := pz
  exact rfl
theorem q376_3 (S : fx_S) (x1 : Int) (hS : fx_Sok S) (v1 : Int) (e1 : v1 = S.1 50 2) (b1 : -2147483648 ≤ v1 ∧ v1 ≤ 2147483647) (c1 : v1 = 0) (v2 : Int) (e2 : v2 = S.1 50 6) (b2 : -2147483648 ≤ v2 ∧ v2 ≤ 2147483647) (c2 : v2 = 1) (v3 : Int) (e3 : v3 = S.1 50 4) (b3 : -2147483648 ≤ v3 ∧ v3 ≤ 2147483647) (v4 : Int) (e4 : v4 = S.1 50 5) (b4 : -2147483648 ≤ v4 ∧ v4 ≤ 2147483647) (v5 : Int) (e5 : v5 = fx_sub v3 v4) (v6 : Int) (e6 : v6 = ((cz_sl.getD (x1).toNat 0 : Nat) : Int)) (v7 : Int) (e7 : v7 = fx_shr v6 0) (c3 : v5 ≠ v7) : s376 S x1 0 S := by
  exact rfl
theorem q377_0 (S : fx_S) (hS : fx_Sok S) (v0 : Int) (e0 : v0 = S.1 50 5) (b0 : -2147483648 ≤ v0 ∧ v0 ≤ 2147483647) (z : Int) (Z : fx_S) (kz : fx_Sok Z) (bz : -2147483648 ≤ z ∧ z ≤ 2147483647) (pz : s391 S 0 v0 z Z) : s377 S  z Z := by
  obtain rfl : S = Z := pz
  exact rfl
theorem q378_0 (S : fx_S) (x1 x3 x4 : Int) (hS : fx_Sok S) (g1 : 0 ≤ x1 ∧ x1 < S.2.2) (g3 : -2147483648 ≤ x3 ∧ x3 ≤ 2147483647) (g4 : -2147483648 ≤ x4 ∧ x4 ≤ 2147483647) (c1 : 3 < x4) : s378 S x1 x3 x4 0 S := by
  refine ⟨rfl, ?_⟩
  · intro p i hW
    exact rfl
theorem q378_1 (S : fx_S) (x1 x3 x4 : Int) (hS : fx_Sok S) (g1 : 0 ≤ x1 ∧ x1 < S.2.2) (g3 : -2147483648 ≤ x3 ∧ x3 ≤ 2147483647) (g4 : -2147483648 ≤ x4 ∧ x4 ≤ 2147483647) (c1 : x4 ≤ 3) (c2 : x3 = 0) : s378 S x1 x3 x4 0 S := by
  refine ⟨rfl, ?_⟩
  · intro p i hW
    exact rfl
theorem q378_2 (S : fx_S) (x1 x3 x4 : Int) (hS : fx_Sok S) (g1 : 0 ≤ x1 ∧ x1 < S.2.2) (g3 : -2147483648 ≤ x3 ∧ x3 ≤ 2147483647) (g4 : -2147483648 ≤ x4 ∧ x4 ≤ 2147483647) (c1 : x4 ≤ 3) (c2 : x3 ≠ 0) (v3 : Int) (S1 : fx_S) (k1 : fx_Sok S1) (b3 : v3 = 0) (p1 : s392 S x1 x4 v3 S1) (v4 : Int) (S2 : fx_S) (k2 : fx_Sok S2) (b4 : -2147483648 ≤ v4 ∧ v4 ≤ 2147483647) (p2 : s343 S1 11 v4 S2) (v5 : Int) (e5 : v5 = fx_add x4 1) (z : Int) (Z : fx_S) (kz : fx_Sok Z) (bz : z = 0) (pz : s378 S2 x1 v4 v5 z Z) : s378 S x1 x3 x4 z Z := by
  obtain ⟨r1, f1⟩ := p1
  obtain ⟨r2, f2⟩ := p2
  obtain ⟨rZ, fZ⟩ := pz
  refine ⟨(rZ).trans ((r2).trans (r1)), ?_⟩
  · intro p i hW
    exact ((fZ p i (by omega))).trans (((f2 p i (by omega))).trans ((f1 p i (by omega))))
theorem q379_0 (S : fx_S) (x1 x2 : Int) (hS : fx_Sok S) (g1 : -2147483648 ≤ x1 ∧ x1 ≤ 2147483647) (g2 : -2147483648 ≤ x2 ∧ x2 ≤ 2147483647) (c1 : x2 = 0) : s379 S x1 x2 0 S := by
  refine ⟨rfl, ?_, ?_⟩
  · intro p i hW
    clear c1
    exact rfl
  · skip
    exact fun a0 a1 => ⟨a1, fun i hi => rfl⟩
theorem q379_1 (S : fx_S) (x1 x2 : Int) (hS : fx_Sok S) (g1 : -2147483648 ≤ x1 ∧ x1 ≤ 2147483647) (g2 : -2147483648 ≤ x2 ∧ x2 ≤ 2147483647) (c1 : x2 ≠ 0) (v2 : Int) (e2 : v2 = S.1 66 12) (b2 : -2147483648 ≤ v2 ∧ v2 ≤ 2147483647) (c2 : v2 ≠ 0) : s379 S x1 x2 0 S := by
  refine ⟨rfl, ?_, ?_⟩
  · intro p i hW
    clear c2 b2 e2 c1
    exact rfl
  · skip
    exact fun a0 a1 => ⟨a1, fun i hi => rfl⟩
theorem q379_2 (S : fx_S) (x1 x2 : Int) (hS : fx_Sok S) (g1 : -2147483648 ≤ x1 ∧ x1 ≤ 2147483647) (g2 : -2147483648 ≤ x2 ∧ x2 ≤ 2147483647) (c1 : x2 ≠ 0) (v2 : Int) (e2 : v2 = S.1 66 12) (b2 : -2147483648 ≤ v2 ∧ v2 ≤ 2147483647) (c2 : v2 = 0) (v3 : Int) (S1 : fx_S) (k1 : fx_Sok S1) (b3 : v3 = 0) (p1 : s393 S x1 v3 S1) (v4 : Int) (S2 : fx_S) (k2 : fx_Sok S2) (b4 : -2147483648 ≤ v4 ∧ v4 ≤ 2147483647) (p2 : s353 S1 11 v4 S2) (z : Int) (Z : fx_S) (kz : fx_Sok Z) (bz : z = 0) (pz : s379 S2 x1 v4 z Z) : s379 S x1 x2 z Z := by
  obtain ⟨r1, f1, p1⟩ := p1
  obtain ⟨r2, f2⟩ := p2
  obtain ⟨rZ, fZ, pz⟩ := pz
  refine ⟨(rZ).trans ((r2).trans (r1)), ?_, ?_⟩
  · intro p i hW
    clear b4 b3 c2 b2 e2 c1
    exact ((fZ p i (by omega))).trans (((f2 p i (by omega))).trans ((f1 p i (by omega))))
  · skip
    intro a0 a1
    obtain ⟨b1, b2⟩ := p1 a0 a1
    have t : ∀ i, S2.1 72 i = S1.1 72 i := fun i => f2 72 i (by omega)
    obtain ⟨b3, b4⟩ := pz a0 (by rw [t]; exact b1)
    exact ⟨b3, fun i hi => (b4 i hi).trans ((t i).trans (b2 i hi))⟩
theorem q380_0 (S : fx_S) (x0 x1 x2 x3 x4 x6 : Int) (hS : fx_Sok S) (g0 : -1 ≤ x0 ∧ x0 < S.2.2) (g1 : -2147483648 ≤ x1 ∧ x1 ≤ 2147483647) (g2 : -2147483648 ≤ x2 ∧ x2 ≤ 2147483647) (g3 : -2147483648 ≤ x3 ∧ x3 ≤ 2147483647) (g4 : -2147483648 ≤ x4 ∧ x4 ≤ 2147483647) (g6 : -2147483648 ≤ x6 ∧ x6 ≤ 2147483647) (c1 : x0 ≠ (-1)) (c2 : 0 ≤ x1) (c3 : x1 < 16) (v6 : Int) (e6 : v6 = S.1 (x0 + 3) x1) (b6 : -2147483648 ≤ v6 ∧ v6 ≤ 2147483647) (c4 : v6 ≤ x6) : s380 S x0 x1 x2 x3 x4 x6 1 S := by
  exact rfl
theorem q380_1 (S : fx_S) (x0 x1 x2 x3 x4 x6 : Int) (hS : fx_Sok S) (g0 : -1 ≤ x0 ∧ x0 < S.2.2) (g1 : -2147483648 ≤ x1 ∧ x1 ≤ 2147483647) (g2 : -2147483648 ≤ x2 ∧ x2 ≤ 2147483647) (g3 : -2147483648 ≤ x3 ∧ x3 ≤ 2147483647) (g4 : -2147483648 ≤ x4 ∧ x4 ≤ 2147483647) (g6 : -2147483648 ≤ x6 ∧ x6 ≤ 2147483647) (c1 : x0 ≠ (-1)) (c2 : 0 ≤ x1) (c3 : x1 < 16) (v6 : Int) (e6 : v6 = S.1 (x0 + 3) x1) (b6 : -2147483648 ≤ v6 ∧ v6 ≤ 2147483647) (c4 : x6 < v6) (v7 : Int) (S1 : fx_S) (k1 : fx_Sok S1) (b7 : -2147483648 ≤ v7 ∧ v7 ≤ 2147483647) (p1 : s394 S x0 x6 x2 x3 x4 v7 S1) (c5 : x0 ≠ (-1)) (c6 : 0 ≤ x6) (c7 : x6 < 48) (v8 : Int) (e8 : v8 = S1.1 (x0 + 6) x6) (b8 : 0 ≤ v8 ∧ v8 ≤ 65535) (c8 : x0 ≠ (-1)) (c9 : 0 ≤ x6) (c10 : x6 < 48) (v9 : Int) (e9 : v9 = S1.1 (x0 + 7) x6) (b9 : -2147483648 ≤ v9 ∧ v9 ≤ 2147483647) (v10 : Int) (S2 : fx_S) (k2 : fx_Sok S2) (b10 : -2147483648 ≤ v10 ∧ v10 ≤ 2147483647) (p2 : s395 S1 v7 v8 v9 v10 S2) (c11 : x0 ≠ (-1)) (c12 : 0 ≤ x6) (c13 : x6 < 48) (v11 : Int) (e11 : v11 = S2.1 (x0 + 5) x6) (b11 : 0 ≤ v11 ∧ v11 ≤ 1) (c14 : v10 ≠ v11) (v12 : Int) (e12 : v12 = fx_add x6 1) (z : Int) (Z : fx_S) (kz : fx_Sok Z) (bz : -2147483648 ≤ z ∧ z ≤ 2147483647) (pz : s380 S2 x0 x1 x2 x3 x4 v12 z Z) : s380 S x0 x1 x2 x3 x4 x6 z Z := by
  obtain rfl : S = S1 := p1
  obtain rfl : S = S2 := p2
  obtain rfl : S = Z := pz
  exact rfl
theorem q380_2 (S : fx_S) (x0 x1 x2 x3 x4 x6 : Int) (hS : fx_Sok S) (g0 : -1 ≤ x0 ∧ x0 < S.2.2) (g1 : -2147483648 ≤ x1 ∧ x1 ≤ 2147483647) (g2 : -2147483648 ≤ x2 ∧ x2 ≤ 2147483647) (g3 : -2147483648 ≤ x3 ∧ x3 ≤ 2147483647) (g4 : -2147483648 ≤ x4 ∧ x4 ≤ 2147483647) (g6 : -2147483648 ≤ x6 ∧ x6 ≤ 2147483647) (c1 : x0 ≠ (-1)) (c2 : 0 ≤ x1) (c3 : x1 < 16) (v6 : Int) (e6 : v6 = S.1 (x0 + 3) x1) (b6 : -2147483648 ≤ v6 ∧ v6 ≤ 2147483647) (c4 : x6 < v6) (v7 : Int) (S1 : fx_S) (k1 : fx_Sok S1) (b7 : -2147483648 ≤ v7 ∧ v7 ≤ 2147483647) (p1 : s394 S x0 x6 x2 x3 x4 v7 S1) (c5 : x0 ≠ (-1)) (c6 : 0 ≤ x6) (c7 : x6 < 48) (v8 : Int) (e8 : v8 = S1.1 (x0 + 6) x6) (b8 : 0 ≤ v8 ∧ v8 ≤ 65535) (c8 : x0 ≠ (-1)) (c9 : 0 ≤ x6) (c10 : x6 < 48) (v9 : Int) (e9 : v9 = S1.1 (x0 + 7) x6) (b9 : -2147483648 ≤ v9 ∧ v9 ≤ 2147483647) (v10 : Int) (S2 : fx_S) (k2 : fx_Sok S2) (b10 : -2147483648 ≤ v10 ∧ v10 ≤ 2147483647) (p2 : s395 S1 v7 v8 v9 v10 S2) (c11 : x0 ≠ (-1)) (c12 : 0 ≤ x6) (c13 : x6 < 48) (v11 : Int) (e11 : v11 = S2.1 (x0 + 5) x6) (b11 : 0 ≤ v11 ∧ v11 ≤ 1) (c14 : v10 = v11) : s380 S x0 x1 x2 x3 x4 x6 0 S2 := by
  obtain rfl : S = S1 := p1
  obtain rfl : S = S2 := p2
  exact rfl
theorem q381_0 (S : fx_S) (x1 x2 x3 : Int) (hS : fx_Sok S) (g1 : -2147483648 ≤ x1 ∧ x1 ≤ 2147483647) (g2 : -2147483648 ≤ x2 ∧ x2 ≤ 2147483647) (g3 : -2147483648 ≤ x3 ∧ x3 ≤ 2147483647) (v3 : Int) (e3 : v3 = fx_mul 4 x1) (v4 : Int) (e4 : v4 = fx_add 20 v3) (c1 : 0 ≤ v4) (c2 : v4 < 8090) (v5 : Int) (e5 : v5 = S.1 67 v4) (b5 : -2147483648 ≤ v5 ∧ v5 ≤ 2147483647) (v6 : Int) (e6 : v6 = fx_mul 4 x2) (v7 : Int) (e7 : v7 = fx_add 20 v6) (c3 : 0 ≤ v7) (c4 : v7 < 8090) (v8 : Int) (e8 : v8 = S.1 67 v7) (b8 : -2147483648 ≤ v8 ∧ v8 ≤ 2147483647) (v9 : Int) (e9 : v9 = fx_sub v5 v8) (v10 : Int) (e10 : v10 = fx_mul 4 x1) (v11 : Int) (e11 : v11 = fx_add 20 v10) (v12 : Int) (e12 : v12 = fx_add v11 1) (c5 : 0 ≤ v12) (c6 : v12 < 8090) (v13 : Int) (e13 : v13 = S.1 67 v12) (b13 : -2147483648 ≤ v13 ∧ v13 ≤ 2147483647) (v14 : Int) (e14 : v14 = fx_mul 4 x2) (v15 : Int) (e15 : v15 = fx_add 20 v14) (v16 : Int) (e16 : v16 = fx_add v15 1) (c7 : 0 ≤ v16) (c8 : v16 < 8090) (v17 : Int) (e17 : v17 = S.1 67 v16) (b17 : -2147483648 ≤ v17 ∧ v17 ≤ 2147483647) (v18 : Int) (e18 : v18 = fx_sub v13 v17) (v19 : Int) (e19 : v19 = fx_mul v9 v9) (v20 : Int) (e20 : v20 = fx_mul v18 v18) (v21 : Int) (e21 : v21 = fx_add v19 v20) (v22 : Int) (e22 : v22 = fx_mul x3 x3) (c9 : v22 < v21) : s381 S x1 x2 x3 0 S := by
  exact rfl
theorem q381_1 (S : fx_S) (x1 x2 x3 : Int) (hS : fx_Sok S) (g1 : -2147483648 ≤ x1 ∧ x1 ≤ 2147483647) (g2 : -2147483648 ≤ x2 ∧ x2 ≤ 2147483647) (g3 : -2147483648 ≤ x3 ∧ x3 ≤ 2147483647) (v3 : Int) (e3 : v3 = fx_mul 4 x1) (v4 : Int) (e4 : v4 = fx_add 20 v3) (c1 : 0 ≤ v4) (c2 : v4 < 8090) (v5 : Int) (e5 : v5 = S.1 67 v4) (b5 : -2147483648 ≤ v5 ∧ v5 ≤ 2147483647) (v6 : Int) (e6 : v6 = fx_mul 4 x2) (v7 : Int) (e7 : v7 = fx_add 20 v6) (c3 : 0 ≤ v7) (c4 : v7 < 8090) (v8 : Int) (e8 : v8 = S.1 67 v7) (b8 : -2147483648 ≤ v8 ∧ v8 ≤ 2147483647) (v9 : Int) (e9 : v9 = fx_sub v5 v8) (v10 : Int) (e10 : v10 = fx_mul 4 x1) (v11 : Int) (e11 : v11 = fx_add 20 v10) (v12 : Int) (e12 : v12 = fx_add v11 1) (c5 : 0 ≤ v12) (c6 : v12 < 8090) (v13 : Int) (e13 : v13 = S.1 67 v12) (b13 : -2147483648 ≤ v13 ∧ v13 ≤ 2147483647) (v14 : Int) (e14 : v14 = fx_mul 4 x2) (v15 : Int) (e15 : v15 = fx_add 20 v14) (v16 : Int) (e16 : v16 = fx_add v15 1) (c7 : 0 ≤ v16) (c8 : v16 < 8090) (v17 : Int) (e17 : v17 = S.1 67 v16) (b17 : -2147483648 ≤ v17 ∧ v17 ≤ 2147483647) (v18 : Int) (e18 : v18 = fx_sub v13 v17) (v19 : Int) (e19 : v19 = fx_mul v9 v9) (v20 : Int) (e20 : v20 = fx_mul v18 v18) (v21 : Int) (e21 : v21 = fx_add v19 v20) (v22 : Int) (e22 : v22 = fx_mul x3 x3) (c9 : v21 ≤ v22) : s381 S x1 x2 x3 1 S := by
  exact rfl
theorem q382_0 (S : fx_S) (x1 x2 : Int) (hS : fx_Sok S) (g1 : -2147483648 ≤ x1 ∧ x1 ≤ 2147483647) (g2 : -2147483648 ≤ x2 ∧ x2 ≤ 2147483647) (c1 : 4 ≤ x2) : s382 S x1 x2 x1 S := by
  exact rfl
theorem q382_1 (S : fx_S) (x1 x2 : Int) (hS : fx_Sok S) (g1 : -2147483648 ≤ x1 ∧ x1 ≤ 2147483647) (g2 : -2147483648 ≤ x2 ∧ x2 ≤ 2147483647) (c1 : x2 < 4) (c2 : 0 ≤ x2) (c3 : x2 < 4) (v2 : Int) (e2 : v2 = S.1 28 x2) (b2 : -2147483648 ≤ v2 ∧ v2 ≤ 2147483647) (c4 : 0 ≤ x1) (c5 : x1 < 4) (v3 : Int) (e3 : v3 = S.1 28 x1) (b3 : -2147483648 ≤ v3 ∧ v3 ≤ 2147483647) (c6 : v2 ≤ v3) (v4 : Int) (e4 : v4 = fx_add x2 1) (z : Int) (Z : fx_S) (kz : fx_Sok Z) (bz : -2147483648 ≤ z ∧ z ≤ 2147483647) (pz : s382 S x1 v4 z Z) : s382 S x1 x2 z Z := by
  obtain rfl : S = Z := pz
  exact rfl
theorem q382_2 (S : fx_S) (x1 x2 : Int) (hS : fx_Sok S) (g1 : -2147483648 ≤ x1 ∧ x1 ≤ 2147483647) (g2 : -2147483648 ≤ x2 ∧ x2 ≤ 2147483647) (c1 : x2 < 4) (c2 : 0 ≤ x2) (c3 : x2 < 4) (v2 : Int) (e2 : v2 = S.1 28 x2) (b2 : -2147483648 ≤ v2 ∧ v2 ≤ 2147483647) (c4 : 0 ≤ x1) (c5 : x1 < 4) (v3 : Int) (e3 : v3 = S.1 28 x1) (b3 : -2147483648 ≤ v3 ∧ v3 ≤ 2147483647) (c6 : v3 < v2) (v4 : Int) (e4 : v4 = fx_add x2 1) (z : Int) (Z : fx_S) (kz : fx_Sok Z) (bz : -2147483648 ≤ z ∧ z ≤ 2147483647) (pz : s382 S x2 v4 z Z) : s382 S x1 x2 z Z := by
  obtain rfl : S = Z := pz
  exact rfl
theorem q383_0 (S : fx_S) (x1 x4 : Int) (hS : fx_Sok S) (g1 : -2147483648 ≤ x1 ∧ x1 ≤ 2147483647) (g4 : -2147483648 ≤ x4 ∧ x4 ≤ 2147483647) (c1 : 4 ≤ x4) (v2 : Int) (e2 : v2 = S.1 67 9) (b2 : -2147483648 ≤ v2 ∧ v2 ≤ 2147483647) (v3 : Int) (e3 : v3 = fx_add v2 x1) (S1 : fx_S) (d1 : S1 = (fx_up S.1 67 9 v3, S.2)) (v4 : Int) (S2 : fx_S) (k2 : fx_Sok S2) (b4 : -2147483648 ≤ v4 ∧ v4 ≤ 2147483647) (p2 : s204 S1  v4 S2) : s383 S x1 x4 v4 S2 := by
  obtain rfl : S1 = S2 := p2
  unfold s383
  intro hB hP
  have BS := hB
  have NS := fx_WB_n BS
  have h3 := e3
  first | rw [fx_add_eq (by omega) (by omega)] at h3 | skip
  have BS1 : fx_WB S1 := by rw [d1]; exact fx_WB_up BS (by omega) (by omega) (by omega) (by omega) (by omega) (by omega) (by omega) (by omega) (by omega) (by omega) (by omega) (fun h => absurd h (by omega))
  refine ⟨(show S1.2 = S.2 by rw [d1]), ?_, BS1⟩
  · intro p i hW
    exact (show S1.1 p i = S.1 p i by rw [d1]; exact if_neg (by omega))
theorem q383_1 (S : fx_S) (x1 x4 : Int) (hS : fx_Sok S) (g1 : -2147483648 ≤ x1 ∧ x1 ≤ 2147483647) (g4 : -2147483648 ≤ x4 ∧ x4 ≤ 2147483647) (c1 : x4 < 4) (v2 : Int) (e2 : v2 = fx_add 12 x4) (c2 : 0 ≤ v2) (c3 : v2 < 8090) (v3 : Int) (e3 : v3 = S.1 67 v2) (b3 : -2147483648 ≤ v3 ∧ v3 ≤ 2147483647) (c4 : 0 ≤ x4) (c5 : x4 < 4) (v4 : Int) (e4 : v4 = S.1 74 x4) (b4 : -2147483648 ≤ v4 ∧ v4 ≤ 2147483647) (v5 : Int) (e5 : v5 = fx_sub v3 v4) (c6 : 0 ≤ v2) (c7 : v2 < 8090) (S1 : fx_S) (d1 : S1 = (fx_up S.1 67 v2 v5, S.2)) (v6 : Int) (e6 : v6 = fx_add 16 x4) (c8 : 0 ≤ x4) (c9 : x4 < 4) (v7 : Int) (e7 : v7 = S1.1 74 x4) (b7 : -2147483648 ≤ v7 ∧ v7 ≤ 2147483647) (c10 : 0 ≤ v6) (c11 : v6 < 8090) (S2 : fx_S) (d2 : S2 = (fx_up S1.1 67 v6 v7, S1.2)) (v8 : Int) (e8 : v8 = fx_add x4 1) (z : Int) (Z : fx_S) (kz : fx_Sok Z) (bz : -2147483648 ≤ z ∧ z ≤ 2147483647) (pz : s383 S2 x1 v8 z Z) : s383 S x1 x4 z Z := by
  unfold s383 at pz
  unfold s383
  intro hB hP
  have BS := hB
  have NS := fx_WB_n BS
  have h2 := e2
  first | rw [fx_add_eq (by omega) (by omega)] at h2 | skip
  have h5 := e5
  first | rw [fx_sub_eq (by omega) (by omega)] at h5 | skip
  have BS1 : fx_WB S1 := by rw [d1]; exact fx_WB_up BS (by omega) (by omega) (by omega) (by omega) (by omega) (by omega) (by omega) (by omega) (by omega) (by omega) (by omega) (fun h => absurd h (by omega))
  have h6 := e6
  first | rw [fx_add_eq (by omega) (by omega)] at h6 | skip
  have t7_1 : S1.1 74 x4 = S.1 74 x4 := by rw [d1]; first | exact if_neg (by omega) | rfl
  rw [t7_1] at e7
  obtain rfl : v4 = v7 := by rw [e7, e4]
  have BS2 : fx_WB S2 := by rw [d2]; exact fx_WB_up BS1 (by omega) (by omega) (by omega) (by omega) (by omega) (by omega) (by omega) (by omega) (by omega) (by omega) (by omega) (fun h => absurd h (by omega))
  have h8 := e8
  first | rw [fx_add_eq (by omega) (by omega)] at h8 | skip
  obtain ⟨rZ, fZ, BZ⟩ := pz BS2 (by omega)
  refine ⟨(rZ).trans (((show S2.2 = S1.2 by rw [d2])).trans ((show S1.2 = S.2 by rw [d1]))), ?_, BZ⟩
  · intro p i hW
    exact ((fZ p i (by omega))).trans (((show S2.1 p i = S1.1 p i by rw [d2]; exact if_neg (by omega))).trans ((show S1.1 p i = S.1 p i by rw [d1]; exact if_neg (by omega))))
theorem q384_0 (S : fx_S) (x3 x4 x5 x6 : Int) (hS : fx_Sok S) (g3 : -2147483648 ≤ x3 ∧ x3 ≤ 2147483647) (g4 : -2147483648 ≤ x4 ∧ x4 ≤ 2147483647) (g5 : -2147483648 ≤ x5 ∧ x5 ≤ 2147483647) (g6 : -2147483648 ≤ x6 ∧ x6 ≤ 2147483647) (c1 : 80 < x6) : s384 S x3 x4 x5 x6 1000 S := by
  exact rfl
theorem q384_1 (S : fx_S) (x3 x4 x5 x6 : Int) (hS : fx_Sok S) (g3 : -2147483648 ≤ x3 ∧ x3 ≤ 2147483647) (g4 : -2147483648 ≤ x4 ∧ x4 ≤ 2147483647) (g5 : -2147483648 ≤ x5 ∧ x5 ≤ 2147483647) (g6 : -2147483648 ≤ x6 ∧ x6 ≤ 2147483647) (c1 : x6 ≤ 80) (c2 : 0 ≤ x4) (c3 : x4 < 105) (v4 : Int) (e4 : v4 = S.1 35 x4) (b4 : -2147483648 ≤ v4 ∧ v4 ≤ 2147483647) (c4 : v4 < x6) (c5 : 0 ≤ x4) (c6 : x4 < 105) (v5 : Int) (e5 : v5 = S.1 36 x4) (b5 : -2147483648 ≤ v5 ∧ v5 ≤ 2147483647) (c7 : v5 < x6) (v6 : Int) (e6 : v6 = fx_add x6 1) (z : Int) (Z : fx_S) (kz : fx_Sok Z) (bz : -2147483648 ≤ z ∧ z ≤ 2147483647) (pz : s384 S x3 x4 x5 v6 z Z) : s384 S x3 x4 x5 x6 z Z := by
  obtain rfl : S = Z := pz
  exact rfl
theorem q384_2 (S : fx_S) (x3 x4 x5 x6 : Int) (hS : fx_Sok S) (g3 : -2147483648 ≤ x3 ∧ x3 ≤ 2147483647) (g4 : -2147483648 ≤ x4 ∧ x4 ≤ 2147483647) (g5 : -2147483648 ≤ x5 ∧ x5 ≤ 2147483647) (g6 : -2147483648 ≤ x6 ∧ x6 ≤ 2147483647) (c1 : x6 ≤ 80) (c2 : 0 ≤ x4) (c3 : x4 < 105) (v4 : Int) (e4 : v4 = S.1 35 x4) (b4 : -2147483648 ≤ v4 ∧ v4 ≤ 2147483647) (c4 : v4 < x6) (c5 : 0 ≤ x4) (c6 : x4 < 105) (v5 : Int) (e5 : v5 = S.1 36 x4) (b5 : -2147483648 ≤ v5 ∧ v5 ≤ 2147483647) (c7 : x6 ≤ v5) (v6 : Int) (e6 : v6 = fx_mul 2 x6) (v7 : Int) (e7 : v7 = fx_add x5 v6) (v8 : Int) (S1 : fx_S) (k1 : fx_Sok S1) (b8 : -2147483648 ≤ v8 ∧ v8 ≤ 2147483647) (p1 : s315 S v7 v8 S1) (c8 : v8 ≠ x3) (v9 : Int) (e9 : v9 = fx_add x6 1) (z : Int) (Z : fx_S) (kz : fx_Sok Z) (bz : -2147483648 ≤ z ∧ z ≤ 2147483647) (pz : s384 S1 x3 x4 x5 v9 z Z) : s384 S x3 x4 x5 x6 z Z := by
  obtain rfl : S = S1 := p1
  obtain rfl : S = Z := pz
  exact rfl
theorem q384_3 (S : fx_S) (x3 x4 x5 x6 : Int) (hS : fx_Sok S) (g3 : -2147483648 ≤ x3 ∧ x3 ≤ 2147483647) (g4 : -2147483648 ≤ x4 ∧ x4 ≤ 2147483647) (g5 : -2147483648 ≤ x5 ∧ x5 ≤ 2147483647) (g6 : -2147483648 ≤ x6 ∧ x6 ≤ 2147483647) (c1 : x6 ≤ 80) (c2 : 0 ≤ x4) (c3 : x4 < 105) (v4 : Int) (e4 : v4 = S.1 35 x4) (b4 : -2147483648 ≤ v4 ∧ v4 ≤ 2147483647) (c4 : v4 < x6) (c5 : 0 ≤ x4) (c6 : x4 < 105) (v5 : Int) (e5 : v5 = S.1 36 x4) (b5 : -2147483648 ≤ v5 ∧ v5 ≤ 2147483647) (c7 : x6 ≤ v5) (v6 : Int) (e6 : v6 = fx_mul 2 x6) (v7 : Int) (e7 : v7 = fx_add x5 v6) (v8 : Int) (S1 : fx_S) (k1 : fx_Sok S1) (b8 : -2147483648 ≤ v8 ∧ v8 ≤ 2147483647) (p1 : s315 S v7 v8 S1) (c8 : v8 = x3) : s384 S x3 x4 x5 x6 x6 S1 := by
  obtain rfl : S = S1 := p1
  exact rfl
theorem q384_4 (S : fx_S) (x3 x4 x5 x6 : Int) (hS : fx_Sok S) (g3 : -2147483648 ≤ x3 ∧ x3 ≤ 2147483647) (g4 : -2147483648 ≤ x4 ∧ x4 ≤ 2147483647) (g5 : -2147483648 ≤ x5 ∧ x5 ≤ 2147483647) (g6 : -2147483648 ≤ x6 ∧ x6 ≤ 2147483647) (c1 : x6 ≤ 80) (c2 : 0 ≤ x4) (c3 : x4 < 105) (v4 : Int) (e4 : v4 = S.1 35 x4) (b4 : -2147483648 ≤ v4 ∧ v4 ≤ 2147483647) (c4 : x6 ≤ v4) (v5 : Int) (e5 : v5 = fx_mul 2 x6) (v6 : Int) (e6 : v6 = fx_sub x5 v5) (v7 : Int) (S1 : fx_S) (k1 : fx_Sok S1) (b7 : -2147483648 ≤ v7 ∧ v7 ≤ 2147483647) (p1 : s315 S v6 v7 S1) (c5 : v7 ≠ x3) (c6 : 0 ≤ x4) (c7 : x4 < 105) (v8 : Int) (e8 : v8 = S1.1 36 x4) (b8 : -2147483648 ≤ v8 ∧ v8 ≤ 2147483647) (c8 : v8 < x6) (v9 : Int) (e9 : v9 = fx_add x6 1) (z : Int) (Z : fx_S) (kz : fx_Sok Z) (bz : -2147483648 ≤ z ∧ z ≤ 2147483647) (pz : s384 S1 x3 x4 x5 v9 z Z) : s384 S x3 x4 x5 x6 z Z := by
  obtain rfl : S = S1 := p1
  obtain rfl : S = Z := pz
  exact rfl
theorem q384_5 (S : fx_S) (x3 x4 x5 x6 : Int) (hS : fx_Sok S) (g3 : -2147483648 ≤ x3 ∧ x3 ≤ 2147483647) (g4 : -2147483648 ≤ x4 ∧ x4 ≤ 2147483647) (g5 : -2147483648 ≤ x5 ∧ x5 ≤ 2147483647) (g6 : -2147483648 ≤ x6 ∧ x6 ≤ 2147483647) (c1 : x6 ≤ 80) (c2 : 0 ≤ x4) (c3 : x4 < 105) (v4 : Int) (e4 : v4 = S.1 35 x4) (b4 : -2147483648 ≤ v4 ∧ v4 ≤ 2147483647) (c4 : x6 ≤ v4) (v5 : Int) (e5 : v5 = fx_mul 2 x6) (v6 : Int) (e6 : v6 = fx_sub x5 v5) (v7 : Int) (S1 : fx_S) (k1 : fx_Sok S1) (b7 : -2147483648 ≤ v7 ∧ v7 ≤ 2147483647) (p1 : s315 S v6 v7 S1) (c5 : v7 ≠ x3) (c6 : 0 ≤ x4) (c7 : x4 < 105) (v8 : Int) (e8 : v8 = S1.1 36 x4) (b8 : -2147483648 ≤ v8 ∧ v8 ≤ 2147483647) (c8 : x6 ≤ v8) (v9 : Int) (e9 : v9 = fx_mul 2 x6) (v10 : Int) (e10 : v10 = fx_add x5 v9) (v11 : Int) (S2 : fx_S) (k2 : fx_Sok S2) (b11 : -2147483648 ≤ v11 ∧ v11 ≤ 2147483647) (p2 : s315 S1 v10 v11 S2) (c9 : v11 ≠ x3) (v12 : Int) (e12 : v12 = fx_add x6 1) (z : Int) (Z : fx_S) (kz : fx_Sok Z) (bz : -2147483648 ≤ z ∧ z ≤ 2147483647) (pz : s384 S2 x3 x4 x5 v12 z Z) : s384 S x3 x4 x5 x6 z Z := by
  obtain rfl : S = S1 := p1
  obtain rfl : S = S2 := p2
  obtain rfl : S = Z := pz
  exact rfl
theorem q384_6 (S : fx_S) (x3 x4 x5 x6 : Int) (hS : fx_Sok S) (g3 : -2147483648 ≤ x3 ∧ x3 ≤ 2147483647) (g4 : -2147483648 ≤ x4 ∧ x4 ≤ 2147483647) (g5 : -2147483648 ≤ x5 ∧ x5 ≤ 2147483647) (g6 : -2147483648 ≤ x6 ∧ x6 ≤ 2147483647) (c1 : x6 ≤ 80) (c2 : 0 ≤ x4) (c3 : x4 < 105) (v4 : Int) (e4 : v4 = S.1 35 x4) (b4 : -2147483648 ≤ v4 ∧ v4 ≤ 2147483647) (c4 : x6 ≤ v4) (v5 : Int) (e5 : v5 = fx_mul 2 x6) (v6 : Int) (e6 : v6 = fx_sub x5 v5) (v7 : Int) (S1 : fx_S) (k1 : fx_Sok S1) (b7 : -2147483648 ≤ v7 ∧ v7 ≤ 2147483647) (p1 : s315 S v6 v7 S1) (c5 : v7 ≠ x3) (c6 : 0 ≤ x4) (c7 : x4 < 105) (v8 : Int) (e8 : v8 = S1.1 36 x4) (b8 : -2147483648 ≤ v8 ∧ v8 ≤ 2147483647) (c8 : x6 ≤ v8) (v9 : Int) (e9 : v9 = fx_mul 2 x6) (v10 : Int) (e10 : v10 = fx_add x5 v9) (v11 : Int) (S2 : fx_S) (k2 : fx_Sok S2) (b11 : -2147483648 ≤ v11 ∧ v11 ≤ 2147483647) (p2 : s315 S1 v10 v11 S2) (c9 : v11 = x3) : s384 S x3 x4 x5 x6 x6 S2 := by
  obtain rfl : S = S1 := p1
  obtain rfl : S = S2 := p2
  exact rfl
theorem q384_7 (S : fx_S) (x3 x4 x5 x6 : Int) (hS : fx_Sok S) (g3 : -2147483648 ≤ x3 ∧ x3 ≤ 2147483647) (g4 : -2147483648 ≤ x4 ∧ x4 ≤ 2147483647) (g5 : -2147483648 ≤ x5 ∧ x5 ≤ 2147483647) (g6 : -2147483648 ≤ x6 ∧ x6 ≤ 2147483647) (c1 : x6 ≤ 80) (c2 : 0 ≤ x4) (c3 : x4 < 105) (v4 : Int) (e4 : v4 = S.1 35 x4) (b4 : -2147483648 ≤ v4 ∧ v4 ≤ 2147483647) (c4 : x6 ≤ v4) (v5 : Int) (e5 : v5 = fx_mul 2 x6) (v6 : Int) (e6 : v6 = fx_sub x5 v5) (v7 : Int) (S1 : fx_S) (k1 : fx_Sok S1) (b7 : -2147483648 ≤ v7 ∧ v7 ≤ 2147483647) (p1 : s315 S v6 v7 S1) (c5 : v7 = x3) (c6 : 0 ≤ x4) (c7 : x4 < 105) (v8 : Int) (e8 : v8 = S1.1 36 x4) (b8 : -2147483648 ≤ v8 ∧ v8 ≤ 2147483647) (c8 : v8 < x6) : s384 S x3 x4 x5 x6 x6 S1 := by
  obtain rfl : S = S1 := p1
  exact rfl
theorem q384_8 (S : fx_S) (x3 x4 x5 x6 : Int) (hS : fx_Sok S) (g3 : -2147483648 ≤ x3 ∧ x3 ≤ 2147483647) (g4 : -2147483648 ≤ x4 ∧ x4 ≤ 2147483647) (g5 : -2147483648 ≤ x5 ∧ x5 ≤ 2147483647) (g6 : -2147483648 ≤ x6 ∧ x6 ≤ 2147483647) (c1 : x6 ≤ 80) (c2 : 0 ≤ x4) (c3 : x4 < 105) (v4 : Int) (e4 : v4 = S.1 35 x4) (b4 : -2147483648 ≤ v4 ∧ v4 ≤ 2147483647) (c4 : x6 ≤ v4) (v5 : Int) (e5 : v5 = fx_mul 2 x6) (v6 : Int) (e6 : v6 = fx_sub x5 v5) (v7 : Int) (S1 : fx_S) (k1 : fx_Sok S1) (b7 : -2147483648 ≤ v7 ∧ v7 ≤ 2147483647) (p1 : s315 S v6 v7 S1) (c5 : v7 = x3) (c6 : 0 ≤ x4) (c7 : x4 < 105) (v8 : Int) (e8 : v8 = S1.1 36 x4) (b8 : -2147483648 ≤ v8 ∧ v8 ≤ 2147483647) (c8 : x6 ≤ v8) (v9 : Int) (e9 : v9 = fx_mul 2 x6) (v10 : Int) (e10 : v10 = fx_add x5 v9) (v11 : Int) (S2 : fx_S) (k2 : fx_Sok S2) (b11 : -2147483648 ≤ v11 ∧ v11 ≤ 2147483647) (p2 : s315 S1 v10 v11 S2) (c9 : v11 ≠ x3) : s384 S x3 x4 x5 x6 x6 S2 := by
  obtain rfl : S = S1 := p1
  obtain rfl : S = S2 := p2
  exact rfl
theorem q384_9 (S : fx_S) (x3 x4 x5 x6 : Int) (hS : fx_Sok S) (g3 : -2147483648 ≤ x3 ∧ x3 ≤ 2147483647) (g4 : -2147483648 ≤ x4 ∧ x4 ≤ 2147483647) (g5 : -2147483648 ≤ x5 ∧ x5 ≤ 2147483647) (g6 : -2147483648 ≤ x6 ∧ x6 ≤ 2147483647) (c1 : x6 ≤ 80) (c2 : 0 ≤ x4) (c3 : x4 < 105) (v4 : Int) (e4 : v4 = S.1 35 x4) (b4 : -2147483648 ≤ v4 ∧ v4 ≤ 2147483647) (c4 : x6 ≤ v4) (v5 : Int) (e5 : v5 = fx_mul 2 x6) (v6 : Int) (e6 : v6 = fx_sub x5 v5) (v7 : Int) (S1 : fx_S) (k1 : fx_Sok S1) (b7 : -2147483648 ≤ v7 ∧ v7 ≤ 2147483647) (p1 : s315 S v6 v7 S1) (c5 : v7 = x3) (c6 : 0 ≤ x4) (c7 : x4 < 105) (v8 : Int) (e8 : v8 = S1.1 36 x4) (b8 : -2147483648 ≤ v8 ∧ v8 ≤ 2147483647) (c8 : x6 ≤ v8) (v9 : Int) (e9 : v9 = fx_mul 2 x6) (v10 : Int) (e10 : v10 = fx_add x5 v9) (v11 : Int) (S2 : fx_S) (k2 : fx_Sok S2) (b11 : -2147483648 ≤ v11 ∧ v11 ≤ 2147483647) (p2 : s315 S1 v10 v11 S2) (c9 : v11 = x3) : s384 S x3 x4 x5 x6 x6 S2 := by
  obtain rfl : S = S1 := p1
  obtain rfl : S = S2 := p2
  exact rfl
theorem q385_0 (S : fx_S) (x1 x2 x3 : Int) (hS : fx_Sok S) (g1 : -2147483648 ≤ x1 ∧ x1 ≤ 2147483647) (g2 : -2147483648 ≤ x2 ∧ x2 ≤ 2147483647) (g3 : -2147483648 ≤ x3 ∧ x3 ≤ 2147483647) (c1 : 9 ≤ x3) (z : Int) (Z : fx_S) (kz : fx_Sok Z) (bz : -2147483648 ≤ z ∧ z ≤ 2147483647) (pz : s396 S x1 x2 0 z Z) : s385 S x1 x2 x3 z Z := by
  obtain ⟨rZ, fZ⟩ := pz
  refine ⟨rZ, ?_⟩
  · intro p i hW
    clear c1
    exact (fZ p i (by omega))
theorem q385_1 (S : fx_S) (x1 x2 x3 : Int) (hS : fx_Sok S) (g1 : -2147483648 ≤ x1 ∧ x1 ≤ 2147483647) (g2 : -2147483648 ≤ x2 ∧ x2 ≤ 2147483647) (g3 : -2147483648 ≤ x3 ∧ x3 ≤ 2147483647) (c1 : x3 < 9) (z : Int) (Z : fx_S) (kz : fx_Sok Z) (bz : -2147483648 ≤ z ∧ z ≤ 2147483647) (pz : s397 S x1 x2 x3 (-1) z Z) : s385 S x1 x2 x3 z Z := by
  obtain ⟨rZ, fZ⟩ := pz
  refine ⟨rZ, ?_⟩
  · intro p i hW
    clear c1
    exact (fZ p i (by omega))
theorem q386_0 (S : fx_S) (x1 x2 : Int) (hS : fx_Sok S) (g1 : -2147483648 ≤ x1 ∧ x1 ≤ 2147483647) (g2 : -2147483648 ≤ x2 ∧ x2 ≤ 2147483647) (c1 : 0 ≤ x1) (c2 : x1 < 80) (v2 : Int) (e2 : v2 = S.1 19 x1) (b2 : -2147483648 ≤ v2 ∧ v2 ≤ 2147483647) (c3 : v2 ≤ x2) : s386 S x1 x2 (-1) S := by
  refine ⟨rfl, ?_⟩
  · intro p i hW
    clear c3 b2 e2 c2 c1
    exact rfl
theorem q386_1 (S : fx_S) (x1 x2 : Int) (hS : fx_Sok S) (g1 : -2147483648 ≤ x1 ∧ x1 ≤ 2147483647) (g2 : -2147483648 ≤ x2 ∧ x2 ≤ 2147483647) (c1 : 0 ≤ x1) (c2 : x1 < 80) (v2 : Int) (e2 : v2 = S.1 19 x1) (b2 : -2147483648 ≤ v2 ∧ v2 ≤ 2147483647) (c3 : x2 < v2) (v3 : Int) (e3 : v3 = fx_mul x1 4) (v4 : Int) (e4 : v4 = fx_add v3 x2) (c4 : 0 ≤ v4) (c5 : v4 < 320) (v5 : Int) (e5 : v5 = S.1 20 v4) (b5 : -2147483648 ≤ v5 ∧ v5 ≤ 2147483647) (v6 : Int) (e6 : v6 = S.1 38 0) (b6 : -2147483648 ≤ v6 ∧ v6 ≤ 2147483647) (v7 : Int) (e7 : v7 = fx_sub v6 1) (v8 : Int) (S1 : fx_S) (k1 : fx_Sok S1) (b8 : -2147483648 ≤ v8 ∧ v8 ≤ 2147483647) (p1 : s114 S v5 0 v7 v8 S1) (c6 : v8 = 0) (v9 : Int) (e9 : v9 = fx_add x2 1) (z : Int) (Z : fx_S) (kz : fx_Sok Z) (bz : -2147483648 ≤ z ∧ z ≤ 2147483647) (pz : s386 S1 x1 v9 z Z) : s386 S x1 x2 z Z := by
  obtain ⟨rfl, p1⟩ := p1
  obtain ⟨rZ, fZ⟩ := pz
  refine ⟨rZ, ?_⟩
  · intro p i hW
    clear e9 c6 b8 e7 b6 e6 b5 e5 c5 c4 e4 e3 c3 b2 e2 c2 c1
    exact (fZ p i (by omega))
theorem q386_2 (S : fx_S) (x1 x2 : Int) (hS : fx_Sok S) (g1 : -2147483648 ≤ x1 ∧ x1 ≤ 2147483647) (g2 : -2147483648 ≤ x2 ∧ x2 ≤ 2147483647) (c1 : 0 ≤ x1) (c2 : x1 < 80) (v2 : Int) (e2 : v2 = S.1 19 x1) (b2 : -2147483648 ≤ v2 ∧ v2 ≤ 2147483647) (c3 : x2 < v2) (v3 : Int) (e3 : v3 = fx_mul x1 4) (v4 : Int) (e4 : v4 = fx_add v3 x2) (c4 : 0 ≤ v4) (c5 : v4 < 320) (v5 : Int) (e5 : v5 = S.1 20 v4) (b5 : -2147483648 ≤ v5 ∧ v5 ≤ 2147483647) (v6 : Int) (e6 : v6 = S.1 38 0) (b6 : -2147483648 ≤ v6 ∧ v6 ≤ 2147483647) (v7 : Int) (e7 : v7 = fx_sub v6 1) (v8 : Int) (S1 : fx_S) (k1 : fx_Sok S1) (b8 : -2147483648 ≤ v8 ∧ v8 ≤ 2147483647) (p1 : s114 S v5 0 v7 v8 S1) (c6 : v8 ≠ 0) (v9 : Int) (S2 : fx_S) (k2 : fx_Sok S2) (b9 : -2147483648 ≤ v9 ∧ v9 ≤ 2147483647) (p2 : s398 S1 v5 v9 S2) (c7 : v9 = 0) (v10 : Int) (e10 : v10 = fx_add x2 1) (z : Int) (Z : fx_S) (kz : fx_Sok Z) (bz : -2147483648 ≤ z ∧ z ≤ 2147483647) (pz : s386 S2 x1 v10 z Z) : s386 S x1 x2 z Z := by
  obtain ⟨rfl, p1⟩ := p1
  obtain ⟨r2, f2⟩ := p2
  obtain ⟨rZ, fZ⟩ := pz
  refine ⟨(rZ).trans (r2), ?_⟩
  · intro p i hW
    clear e10 c7 b9 c6 b8 e7 b6 e6 b5 e5 c5 c4 e4 e3 c3 b2 e2 c2 c1
    exact ((fZ p i (by omega))).trans ((f2 p i (by omega)))
theorem q386_3 (S : fx_S) (x1 x2 : Int) (hS : fx_Sok S) (g1 : -2147483648 ≤ x1 ∧ x1 ≤ 2147483647) (g2 : -2147483648 ≤ x2 ∧ x2 ≤ 2147483647) (c1 : 0 ≤ x1) (c2 : x1 < 80) (v2 : Int) (e2 : v2 = S.1 19 x1) (b2 : -2147483648 ≤ v2 ∧ v2 ≤ 2147483647) (c3 : x2 < v2) (v3 : Int) (e3 : v3 = fx_mul x1 4) (v4 : Int) (e4 : v4 = fx_add v3 x2) (c4 : 0 ≤ v4) (c5 : v4 < 320) (v5 : Int) (e5 : v5 = S.1 20 v4) (b5 : -2147483648 ≤ v5 ∧ v5 ≤ 2147483647) (v6 : Int) (e6 : v6 = S.1 38 0) (b6 : -2147483648 ≤ v6 ∧ v6 ≤ 2147483647) (v7 : Int) (e7 : v7 = fx_sub v6 1) (v8 : Int) (S1 : fx_S) (k1 : fx_Sok S1) (b8 : -2147483648 ≤ v8 ∧ v8 ≤ 2147483647) (p1 : s114 S v5 0 v7 v8 S1) (c6 : v8 ≠ 0) (v9 : Int) (S2 : fx_S) (k2 : fx_Sok S2) (b9 : -2147483648 ≤ v9 ∧ v9 ≤ 2147483647) (p2 : s398 S1 v5 v9 S2) (c7 : v9 ≠ 0) : s386 S x1 x2 v5 S2 := by
  obtain ⟨rfl, p1⟩ := p1
  obtain ⟨r2, f2⟩ := p2
  refine ⟨r2, ?_⟩
  · intro p i hW
    clear c7 b9 c6 b8 e7 b6 e6 b5 e5 c5 c4 e4 e3 c3 b2 e2 c2 c1
    exact (f2 p i (by omega))
theorem q387_0 (S : fx_S) (x1 : Int) (hS : fx_Sok S) (g1 : -2147483648 ≤ x1 ∧ x1 ≤ 2147483647) (v1 : Int) (e1 : v1 = fx_mul 10 x1) (v2 : Int) (e2 : v2 = fx_add 300 v1) (v3 : Int) (e3 : v3 = fx_add v2 5) (z : Int) (Z : fx_S) (kz : fx_Sok Z) (bz : -2147483648 ≤ z ∧ z ≤ 2147483647) (pz : s399 S v3 0 z Z) : s387 S x1 z Z := by
  obtain ⟨rZ, fZ⟩ := pz
  refine ⟨rZ, ?_⟩
  · intro p i hW
    clear e3 e2 e1
    exact (fZ p i (by omega))
theorem q388_0 (S : fx_S) (hS : fx_Sok S) (v0 : Int) (S1 : fx_S) (k1 : fx_Sok S1) (b0 : v0 = 0) (p1 : s400 S (-1) v0 S1) (z : Int) (Z : fx_S) (kz : fx_Sok Z) (bz : z = 0) (pz : s401 S1 0 0 z Z) : s388 S  z Z := by
  obtain ⟨r1, f1⟩ := p1
  obtain ⟨rZ, fZ⟩ := pz
  refine ⟨(rZ).trans (r1), ?_⟩
  · intro p i hW
    clear b0
    exact ((fZ p i (by omega))).trans ((f1 p i (by omega)))
theorem q389_0 (S : fx_S) (x2 x3 : Int) (hS : fx_Sok S) (g2 : -2147483648 ≤ x2 ∧ x2 ≤ 2147483647) (g3 : -2147483648 ≤ x3 ∧ x3 ≤ 2147483647) (v2 : Int) (e2 : v2 = S.1 56 3) (b2 : -2147483648 ≤ v2 ∧ v2 ≤ 2147483647) (v3 : Int) (e3 : v3 = fx_shl 1 v2) (c1 : v3 ≤ x3) (v4 : Int) (e4 : v4 = fx_add x2 (-1)) (z : Int) (Z : fx_S) (kz : fx_Sok Z) (bz : -2147483648 ≤ z ∧ z ≤ 2147483647) (pz : s373 S v4 z Z) : s389 S x2 x3 z Z := by
  obtain ⟨rZ, fZ⟩ := pz
  refine ⟨rZ, ?_⟩
  · intro p i hW
    clear e4 c1 e3 b2 e2
    exact (fZ p i (by omega))
theorem q389_1 (S : fx_S) (x2 x3 : Int) (hS : fx_Sok S) (g2 : -2147483648 ≤ x2 ∧ x2 ≤ 2147483647) (g3 : -2147483648 ≤ x3 ∧ x3 ≤ 2147483647) (v2 : Int) (e2 : v2 = S.1 56 3) (b2 : -2147483648 ≤ v2 ∧ v2 ≤ 2147483647) (v3 : Int) (e3 : v3 = fx_shl 1 v2) (c1 : x3 < v3) (v4 : Int) (S1 : fx_S) (k1 : fx_Sok S1) (b4 : v4 = 0) (p1 : s402 S x2 x3 v4 S1) (v5 : Int) (e5 : v5 = fx_add x3 1) (z : Int) (Z : fx_S) (kz : fx_Sok Z) (bz : -2147483648 ≤ z ∧ z ≤ 2147483647) (pz : s389 S1 x2 v5 z Z) : s389 S x2 x3 z Z := by
  obtain ⟨r1, f1⟩ := p1
  obtain ⟨rZ, fZ⟩ := pz
  refine ⟨(rZ).trans (r1), ?_⟩
  · intro p i hW
    clear e5 b4 c1 e3 b2 e2
    exact ((fZ p i (by omega))).trans ((f1 p i (by omega)))
theorem q390_0 (S : fx_S) (x1 x2 : Int) (hS : fx_Sok S) (g2 : -2147483648 ≤ x2 ∧ x2 ≤ 2147483647) (v2 : Int) (e2 : v2 = ((cz_sl.getD (x1).toNat 0 : Nat) : Int)) (v3 : Int) (e3 : v3 = fx_shr v2 0) (c1 : v3 ≤ x2) : s390 S x1 x2 1 S := by
  exact rfl
theorem q390_1 (S : fx_S) (x1 x2 : Int) (hS : fx_Sok S) (g2 : -2147483648 ≤ x2 ∧ x2 ≤ 2147483647) (v2 : Int) (e2 : v2 = ((cz_sl.getD (x1).toNat 0 : Nat) : Int)) (v3 : Int) (e3 : v3 = fx_shr v2 0) (c1 : x2 < v3) (v4 : Int) (e4 : v4 = S.1 50 5) (b4 : -2147483648 ≤ v4 ∧ v4 ≤ 2147483647) (v5 : Int) (e5 : v5 = fx_add v4 x2) (c2 : 0 ≤ v5) (c3 : v5 < 600) (v6 : Int) (e6 : v6 = S.1 51 v5) (b6 : -128 ≤ v6 ∧ v6 ≤ 127) (v7 : Int) (e7 : v7 = ((cz_sl.getD (x1).toNat 0 : Nat) : Int)) (c4 : 0 ≤ x2) (c5 : x2 < v7) (v8 : Int) (e8 : v8 = ((cz_sb.getD (x1).toNat []).getD (x2).toNat 0).toInt) (v9 : Int) (e9 : v9 = fx_and v8 255) (v10 : Int) (e10 : v10 = fx_i2c v9) (c6 : v6 = v10) (v11 : Int) (e11 : v11 = fx_add x2 1) (z : Int) (Z : fx_S) (kz : fx_Sok Z) (bz : -2147483648 ≤ z ∧ z ≤ 2147483647) (pz : s390 S x1 v11 z Z) : s390 S x1 x2 z Z := by
  obtain rfl : S = Z := pz
  exact rfl
theorem q390_2 (S : fx_S) (x1 x2 : Int) (hS : fx_Sok S) (g2 : -2147483648 ≤ x2 ∧ x2 ≤ 2147483647) (v2 : Int) (e2 : v2 = ((cz_sl.getD (x1).toNat 0 : Nat) : Int)) (v3 : Int) (e3 : v3 = fx_shr v2 0) (c1 : x2 < v3) (v4 : Int) (e4 : v4 = S.1 50 5) (b4 : -2147483648 ≤ v4 ∧ v4 ≤ 2147483647) (v5 : Int) (e5 : v5 = fx_add v4 x2) (c2 : 0 ≤ v5) (c3 : v5 < 600) (v6 : Int) (e6 : v6 = S.1 51 v5) (b6 : -128 ≤ v6 ∧ v6 ≤ 127) (v7 : Int) (e7 : v7 = ((cz_sl.getD (x1).toNat 0 : Nat) : Int)) (c4 : 0 ≤ x2) (c5 : x2 < v7) (v8 : Int) (e8 : v8 = ((cz_sb.getD (x1).toNat []).getD (x2).toNat 0).toInt) (v9 : Int) (e9 : v9 = fx_and v8 255) (v10 : Int) (e10 : v10 = fx_i2c v9) (c6 : v6 ≠ v10) : s390 S x1 x2 0 S := by
  exact rfl
