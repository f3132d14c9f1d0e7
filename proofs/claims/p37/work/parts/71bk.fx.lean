/-! FX: what is to be shown of the entries -/
theorem q393_48 (S : fx_S) (x1 : Int) (hS : fx_Sok S) (g1 : -2147483648 ≤ x1 ∧ x1 ≤ 2147483647) (v1 : Int) (e1 : v1 = fx_add x1 3) (c1 : 0 ≤ v1) (c2 : v1 < 260) (v2 : Int) (e2 : v2 = S.1 72 v1) (b2 : -2147483648 ≤ v2 ∧ v2 ≤ 2147483647) (c3 : v2 = 3) (v3 : Int) (S1 : fx_S) (k1 : fx_Sok S1) (b3 : -2147483648 ≤ v3 ∧ v3 ≤ 2147483647) (p1 : s304 S 6 v3 S1) (c4 : v3 ≠ 0) (v4 : Int) (S2 : fx_S) (k2 : fx_Sok S2) (b4 : v4 = 0) (p2 : s226 S1 3 v4 S2) : s393 S x1 0 S2 := by
  obtain rfl : S = S1 := p1
  obtain ⟨r2, f2, p2⟩ := p2
  refine ⟨r2, ?_, ?_⟩
  · intro p i hW
    clear b4 c4 b3 c3 b2 e2 c2 c1 e1
    exact (f2 p i (by omega))
  · skip
    intro a0 a1
    have f0 := e1
    rw [fx_add_eq (by omega) (by omega)] at f0
    have a2 := a1
    rw [← f0, ← e2] at a2
    have h1 := e1
    first | rw [fx_add_eq (by omega) (by omega)] at h1 | skip
    exact ⟨by rw [show S2.1 72 (x1 + 3) = S.1 72 (x1 + 3) from ((f2 72 (x1 + 3) (by omega)))]; exact a1, fun i hi => ((f2 72 (i) (by omega)))⟩
theorem q393_49 (S : fx_S) (x1 : Int) (hS : fx_Sok S) (g1 : -2147483648 ≤ x1 ∧ x1 ≤ 2147483647) (v1 : Int) (e1 : v1 = fx_add x1 3) (c1 : 0 ≤ v1) (c2 : v1 < 260) (v2 : Int) (e2 : v2 = S.1 72 v1) (b2 : -2147483648 ≤ v2 ∧ v2 ≤ 2147483647) (c3 : v2 = 3) (v3 : Int) (S1 : fx_S) (k1 : fx_Sok S1) (b3 : -2147483648 ≤ v3 ∧ v3 ≤ 2147483647) (p1 : s304 S 6 v3 S1) (c4 : v3 = 0) (v4 : Int) (S2 : fx_S) (k2 : fx_Sok S2) (b4 : -2147483648 ≤ v4 ∧ v4 ≤ 2147483647) (p2 : s407 S1  v4 S2) (c5 : v4 = (-1)) (v5 : Int) (S3 : fx_S) (k3 : fx_Sok S3) (b5 : v5 = 0) (p3 : s226 S2 1 v5 S3) : s393 S x1 0 S3 := by
  obtain rfl : S = S1 := p1
  obtain rfl : S = S2 := p2
  obtain ⟨r3, f3, p3⟩ := p3
  refine ⟨r3, ?_, ?_⟩
  · intro p i hW
    clear b5 c5 b4 c4 b3 c3 b2 e2 c2 c1 e1
    exact (f3 p i (by omega))
  · skip
    intro a0 a1
    have f0 := e1
    rw [fx_add_eq (by omega) (by omega)] at f0
    have a2 := a1
    rw [← f0, ← e2] at a2
    have h1 := e1
    first | rw [fx_add_eq (by omega) (by omega)] at h1 | skip
    exact ⟨by rw [show S3.1 72 (x1 + 3) = S.1 72 (x1 + 3) from ((f3 72 (x1 + 3) (by omega)))]; exact a1, fun i hi => ((f3 72 (i) (by omega)))⟩
theorem q393_50 (S : fx_S) (x1 : Int) (hS : fx_Sok S) (g1 : -2147483648 ≤ x1 ∧ x1 ≤ 2147483647) (v1 : Int) (e1 : v1 = fx_add x1 3) (c1 : 0 ≤ v1) (c2 : v1 < 260) (v2 : Int) (e2 : v2 = S.1 72 v1) (b2 : -2147483648 ≤ v2 ∧ v2 ≤ 2147483647) (c3 : v2 = 3) (v3 : Int) (S1 : fx_S) (k1 : fx_Sok S1) (b3 : -2147483648 ≤ v3 ∧ v3 ≤ 2147483647) (p1 : s304 S 6 v3 S1) (c4 : v3 = 0) (v4 : Int) (S2 : fx_S) (k2 : fx_Sok S2) (b4 : -2147483648 ≤ v4 ∧ v4 ≤ 2147483647) (p2 : s407 S1  v4 S2) (c5 : v4 ≠ (-1)) (v5 : Int) (S3 : fx_S) (k3 : fx_Sok S3) (b5 : v5 = 0) (p3 : s226 S2 3 v5 S3) : s393 S x1 0 S3 := by
  obtain rfl : S = S1 := p1
  obtain rfl : S = S2 := p2
  obtain ⟨r3, f3, p3⟩ := p3
  refine ⟨r3, ?_, ?_⟩
  · intro p i hW
    clear b5 c5 b4 c4 b3 c3 b2 e2 c2 c1 e1
    exact (f3 p i (by omega))
  · skip
    intro a0 a1
    have f0 := e1
    rw [fx_add_eq (by omega) (by omega)] at f0
    have a2 := a1
    rw [← f0, ← e2] at a2
    have h1 := e1
    first | rw [fx_add_eq (by omega) (by omega)] at h1 | skip
    exact ⟨by rw [show S3.1 72 (x1 + 3) = S.1 72 (x1 + 3) from ((f3 72 (x1 + 3) (by omega)))]; exact a1, fun i hi => ((f3 72 (i) (by omega)))⟩
theorem q394_0 (S : fx_S) (x0 x1 x2 x3 x4 : Int) (hS : fx_Sok S) (g0 : -1 ≤ x0 ∧ x0 < S.2.2) (g1 : -2147483648 ≤ x1 ∧ x1 ≤ 2147483647) (g2 : -2147483648 ≤ x2 ∧ x2 ≤ 2147483647) (g3 : -2147483648 ≤ x3 ∧ x3 ≤ 2147483647) (g4 : -2147483648 ≤ x4 ∧ x4 ≤ 2147483647) (c1 : x0 ≠ (-1)) (c2 : 0 ≤ x1) (c3 : x1 < 48) (v5 : Int) (e5 : v5 = S.1 (x0 + 4) x1) (b5 : -2147483648 ≤ v5 ∧ v5 ≤ 2147483647) (c4 : v5 < 0) (c5 : x0 ≠ (-1)) (c6 : 0 ≤ x1) (c7 : x1 < 48) (v6 : Int) (e6 : v6 = S.1 (x0 + 8) x1) (b6 : -2147483648 ≤ v6 ∧ v6 ≤ 2147483647) (v7 : Int) (e7 : v7 = fx_sub x2 v6) (c8 : x0 ≠ (-1)) (c9 : 0 ≤ x1) (c10 : x1 < 48) (v8 : Int) (e8 : v8 = S.1 (x0 + 9) x1) (b8 : -2147483648 ≤ v8 ∧ v8 ≤ 2147483647) (v9 : Int) (e9 : v9 = fx_sub x3 v8) (v10 : Int) (e10 : v10 = fx_mul v7 v7) (v11 : Int) (e11 : v11 = fx_mul v9 v9) (v12 : Int) (e12 : v12 = fx_add v10 v11) : s394 S x0 x1 x2 x3 x4 v12 S := by
  exact rfl
theorem q394_1 (S : fx_S) (x0 x1 x2 x3 x4 : Int) (hS : fx_Sok S) (g0 : -1 ≤ x0 ∧ x0 < S.2.2) (g1 : -2147483648 ≤ x1 ∧ x1 ≤ 2147483647) (g2 : -2147483648 ≤ x2 ∧ x2 ≤ 2147483647) (g3 : -2147483648 ≤ x3 ∧ x3 ≤ 2147483647) (g4 : -2147483648 ≤ x4 ∧ x4 ≤ 2147483647) (c1 : x0 ≠ (-1)) (c2 : 0 ≤ x1) (c3 : x1 < 48) (v5 : Int) (e5 : v5 = S.1 (x0 + 4) x1) (b5 : -2147483648 ≤ v5 ∧ v5 ≤ 2147483647) (c4 : 2 < v5) (c5 : x0 ≠ (-1)) (c6 : 0 ≤ x1) (c7 : x1 < 48) (v6 : Int) (e6 : v6 = S.1 (x0 + 8) x1) (b6 : -2147483648 ≤ v6 ∧ v6 ≤ 2147483647) (v7 : Int) (e7 : v7 = fx_sub x2 v6) (c8 : x0 ≠ (-1)) (c9 : 0 ≤ x1) (c10 : x1 < 48) (v8 : Int) (e8 : v8 = S.1 (x0 + 9) x1) (b8 : -2147483648 ≤ v8 ∧ v8 ≤ 2147483647) (v9 : Int) (e9 : v9 = fx_sub x3 v8) (v10 : Int) (e10 : v10 = fx_mul v7 v7) (v11 : Int) (e11 : v11 = fx_mul v9 v9) (v12 : Int) (e12 : v12 = fx_add v10 v11) : s394 S x0 x1 x2 x3 x4 v12 S := by
  exact rfl
theorem q394_2 (S : fx_S) (x0 x1 x2 x3 x4 : Int) (hS : fx_Sok S) (g0 : -1 ≤ x0 ∧ x0 < S.2.2) (g1 : -2147483648 ≤ x1 ∧ x1 ≤ 2147483647) (g2 : -2147483648 ≤ x2 ∧ x2 ≤ 2147483647) (g3 : -2147483648 ≤ x3 ∧ x3 ≤ 2147483647) (g4 : -2147483648 ≤ x4 ∧ x4 ≤ 2147483647) (c1 : x0 ≠ (-1)) (c2 : 0 ≤ x1) (c3 : x1 < 48) (v5 : Int) (e5 : v5 = S.1 (x0 + 4) x1) (b5 : -2147483648 ≤ v5 ∧ v5 ≤ 2147483647) (c4 : v5 = 0) : s394 S x0 x1 x2 x3 x4 x4 S := by
  exact rfl
theorem q394_3 (S : fx_S) (x0 x1 x2 x3 x4 : Int) (hS : fx_Sok S) (g0 : -1 ≤ x0 ∧ x0 < S.2.2) (g1 : -2147483648 ≤ x1 ∧ x1 ≤ 2147483647) (g2 : -2147483648 ≤ x2 ∧ x2 ≤ 2147483647) (g3 : -2147483648 ≤ x3 ∧ x3 ≤ 2147483647) (g4 : -2147483648 ≤ x4 ∧ x4 ≤ 2147483647) (c1 : x0 ≠ (-1)) (c2 : 0 ≤ x1) (c3 : x1 < 48) (v5 : Int) (e5 : v5 = S.1 (x0 + 4) x1) (b5 : -2147483648 ≤ v5 ∧ v5 ≤ 2147483647) (c4 : v5 = 1) : s394 S x0 x1 x2 x3 x4 x2 S := by
  exact rfl
theorem q394_4 (S : fx_S) (x0 x1 x2 x3 x4 : Int) (hS : fx_Sok S) (g0 : -1 ≤ x0 ∧ x0 < S.2.2) (g1 : -2147483648 ≤ x1 ∧ x1 ≤ 2147483647) (g2 : -2147483648 ≤ x2 ∧ x2 ≤ 2147483647) (g3 : -2147483648 ≤ x3 ∧ x3 ≤ 2147483647) (g4 : -2147483648 ≤ x4 ∧ x4 ≤ 2147483647) (c1 : x0 ≠ (-1)) (c2 : 0 ≤ x1) (c3 : x1 < 48) (v5 : Int) (e5 : v5 = S.1 (x0 + 4) x1) (b5 : -2147483648 ≤ v5 ∧ v5 ≤ 2147483647) (c4 : v5 = 2) : s394 S x0 x1 x2 x3 x4 x3 S := by
  exact rfl
theorem q395_0 (S : fx_S) (x0 x1 x2 : Int) (hS : fx_Sok S) (g0 : -2147483648 ≤ x0 ∧ x0 ≤ 2147483647) (g1 : -2147483648 ≤ x1 ∧ x1 ≤ 2147483647) (g2 : -2147483648 ≤ x2 ∧ x2 ≤ 2147483647) (c1 : x1 ≠ 60) (c2 : x1 ≠ 62) (c3 : x0 ≠ x2) : s395 S x0 x1 x2 0 S := by
  exact rfl
theorem q395_1 (S : fx_S) (x0 x1 x2 : Int) (hS : fx_Sok S) (g0 : -2147483648 ≤ x0 ∧ x0 ≤ 2147483647) (g1 : -2147483648 ≤ x1 ∧ x1 ≤ 2147483647) (g2 : -2147483648 ≤ x2 ∧ x2 ≤ 2147483647) (c1 : x1 ≠ 60) (c2 : x1 ≠ 62) (c3 : x0 = x2) : s395 S x0 x1 x2 1 S := by
  exact rfl
theorem q395_2 (S : fx_S) (x0 x1 x2 : Int) (hS : fx_Sok S) (g0 : -2147483648 ≤ x0 ∧ x0 ≤ 2147483647) (g1 : -2147483648 ≤ x1 ∧ x1 ≤ 2147483647) (g2 : -2147483648 ≤ x2 ∧ x2 ≤ 2147483647) (c1 : x1 ≠ 60) (c2 : x1 = 62) (c3 : x0 ≤ x2) : s395 S x0 x1 x2 0 S := by
  exact rfl
theorem q395_3 (S : fx_S) (x0 x1 x2 : Int) (hS : fx_Sok S) (g0 : -2147483648 ≤ x0 ∧ x0 ≤ 2147483647) (g1 : -2147483648 ≤ x1 ∧ x1 ≤ 2147483647) (g2 : -2147483648 ≤ x2 ∧ x2 ≤ 2147483647) (c1 : x1 ≠ 60) (c2 : x1 = 62) (c3 : x2 < x0) : s395 S x0 x1 x2 1 S := by
  exact rfl
theorem q395_4 (S : fx_S) (x0 x1 x2 : Int) (hS : fx_Sok S) (g0 : -2147483648 ≤ x0 ∧ x0 ≤ 2147483647) (g1 : -2147483648 ≤ x1 ∧ x1 ≤ 2147483647) (g2 : -2147483648 ≤ x2 ∧ x2 ≤ 2147483647) (c1 : x1 = 60) (c2 : x2 ≤ x0) : s395 S x0 x1 x2 0 S := by
  exact rfl
theorem q395_5 (S : fx_S) (x0 x1 x2 : Int) (hS : fx_Sok S) (g0 : -2147483648 ≤ x0 ∧ x0 ≤ 2147483647) (g1 : -2147483648 ≤ x1 ∧ x1 ≤ 2147483647) (g2 : -2147483648 ≤ x2 ∧ x2 ≤ 2147483647) (c1 : x1 = 60) (c2 : x0 < x2) : s395 S x0 x1 x2 1 S := by
  exact rfl
theorem q396_0 (S : fx_S) (x1 x2 x3 : Int) (hS : fx_Sok S) (g1 : -2147483648 ≤ x1 ∧ x1 ≤ 2147483647) (g2 : -2147483648 ≤ x2 ∧ x2 ≤ 2147483647) (g3 : -2147483648 ≤ x3 ∧ x3 ≤ 2147483647) (c1 : 9 ≤ x3) (v3 : Int) (e3 : v3 = fx_add x2 1) (z : Int) (Z : fx_S) (kz : fx_Sok Z) (bz : -2147483648 ≤ z ∧ z ≤ 2147483647) (pz : s319 S x1 v3 z Z) : s396 S x1 x2 x3 z Z := by
  obtain ⟨rZ, fZ⟩ := pz
  refine ⟨rZ, ?_⟩
  · intro p i hW
    clear e3 c1
    exact (fZ p i (by omega))
theorem q396_1 (S : fx_S) (x1 x2 x3 : Int) (hS : fx_Sok S) (g1 : -2147483648 ≤ x1 ∧ x1 ≤ 2147483647) (g2 : -2147483648 ≤ x2 ∧ x2 ≤ 2147483647) (g3 : -2147483648 ≤ x3 ∧ x3 ≤ 2147483647) (c1 : x3 < 9) (c2 : 0 ≤ x3) (c3 : x3 < 9) (v3 : Int) (e3 : v3 = S.1 79 x3) (b3 : -2147483648 ≤ v3 ∧ v3 ≤ 2147483647) (c4 : 0 ≤ x3) (c5 : x3 < 9) (S1 : fx_S) (d1 : S1 = (fx_up S.1 78 x3 v3, S.2)) (v4 : Int) (e4 : v4 = fx_add x3 1) (z : Int) (Z : fx_S) (kz : fx_Sok Z) (bz : -2147483648 ≤ z ∧ z ≤ 2147483647) (pz : s396 S1 x1 x2 v4 z Z) : s396 S x1 x2 x3 z Z := by
  obtain ⟨rZ, fZ⟩ := pz
  refine ⟨(rZ).trans ((show S1.2 = S.2 by rw [d1])), ?_⟩
  · intro p i hW
    clear e4 c5 c4 b3 e3 c3 c2 c1
    exact ((fZ p i (by omega))).trans ((show S1.1 p i = S.1 p i by rw [d1]; exact if_neg (by omega)))
theorem q397_0 (S : fx_S) (x1 x2 x3 x4 : Int) (hS : fx_Sok S) (g1 : -2147483648 ≤ x1 ∧ x1 ≤ 2147483647) (g2 : -2147483648 ≤ x2 ∧ x2 ≤ 2147483647) (g3 : -2147483648 ≤ x3 ∧ x3 ≤ 2147483647) (g4 : -2147483648 ≤ x4 ∧ x4 ≤ 2147483647) (c1 : 1 < x4) (v4 : Int) (e4 : v4 = fx_add x3 1) (z : Int) (Z : fx_S) (kz : fx_Sok Z) (bz : -2147483648 ≤ z ∧ z ≤ 2147483647) (pz : s385 S x1 x2 v4 z Z) : s397 S x1 x2 x3 x4 z Z := by
  obtain ⟨rZ, fZ⟩ := pz
  refine ⟨rZ, ?_⟩
  · intro p i hW
    clear e4 c1
    exact (fZ p i (by omega))
theorem q397_1 (S : fx_S) (x1 x2 x3 x4 : Int) (hS : fx_Sok S) (g1 : -2147483648 ≤ x1 ∧ x1 ≤ 2147483647) (g2 : -2147483648 ≤ x2 ∧ x2 ≤ 2147483647) (g3 : -2147483648 ≤ x3 ∧ x3 ≤ 2147483647) (g4 : -2147483648 ≤ x4 ∧ x4 ≤ 2147483647) (c1 : x4 ≤ 1) (v4 : Int) (e4 : v4 = fx_add x3 x4) (v5 : Int) (S1 : fx_S) (k1 : fx_Sok S1) (b5 : -2147483648 ≤ v5 ∧ v5 ≤ 2147483647) (p1 : s113 S v4 0 8 v5 S1) (c2 : v5 = 0) (v6 : Int) (e6 : v6 = fx_add x4 1) (z : Int) (Z : fx_S) (kz : fx_Sok Z) (bz : -2147483648 ≤ z ∧ z ≤ 2147483647) (pz : s397 S1 x1 x2 x3 v6 z Z) : s397 S x1 x2 x3 x4 z Z := by
  obtain ⟨rfl, p1⟩ := p1
  obtain ⟨rZ, fZ⟩ := pz
  refine ⟨rZ, ?_⟩
  · intro p i hW
    clear e6 c2 b5 e4 c1
    exact (fZ p i (by omega))
theorem q397_2 (S : fx_S) (x1 x2 x3 x4 : Int) (hS : fx_Sok S) (g1 : -2147483648 ≤ x1 ∧ x1 ≤ 2147483647) (g2 : -2147483648 ≤ x2 ∧ x2 ≤ 2147483647) (g3 : -2147483648 ≤ x3 ∧ x3 ≤ 2147483647) (g4 : -2147483648 ≤ x4 ∧ x4 ≤ 2147483647) (c1 : x4 ≤ 1) (v4 : Int) (e4 : v4 = fx_add x3 x4) (v5 : Int) (S1 : fx_S) (k1 : fx_Sok S1) (b5 : -2147483648 ≤ v5 ∧ v5 ≤ 2147483647) (p1 : s113 S v4 0 8 v5 S1) (c2 : v5 ≠ 0) (v6 : Int) (e6 : v6 = fx_add x3 x4) (v7 : Int) (e7 : v7 = fx_add x3 x4) (c3 : 0 ≤ v7) (c4 : v7 < 9) (v8 : Int) (e8 : v8 = S1.1 79 v7) (b8 : -2147483648 ≤ v8 ∧ v8 ≤ 2147483647) (c5 : 0 ≤ x3) (c6 : x3 < 9) (v9 : Int) (e9 : v9 = S1.1 78 x3) (b9 : -2147483648 ≤ v9 ∧ v9 ≤ 2147483647) (v10 : Int) (S2 : fx_S) (k2 : fx_Sok S2) (b10 : -2147483648 ≤ v10 ∧ v10 ≤ 2147483647) (p2 : s408 S1 x2 x4 v10 S2) (v11 : Int) (e11 : v11 = fx_add v9 v10) (v12 : Int) (S3 : fx_S) (k3 : fx_Sok S3) (b12 : -2147483648 ≤ v12 ∧ v12 ≤ 2147483647) (p3 : s125 S2 v8 v11 v12 S3) (c7 : 0 ≤ v6) (c8 : v6 < 9) (S4 : fx_S) (d4 : S4 = (fx_up S3.1 79 v6 v12, S3.2)) (v13 : Int) (e13 : v13 = fx_add x4 1) (z : Int) (Z : fx_S) (kz : fx_Sok Z) (bz : -2147483648 ≤ z ∧ z ≤ 2147483647) (pz : s397 S4 x1 x2 x3 v13 z Z) : s397 S x1 x2 x3 x4 z Z := by
  obtain ⟨rfl, p1⟩ := p1
  obtain rfl : S = S2 := p2
  obtain ⟨rfl, p3⟩ := p3
  obtain ⟨rZ, fZ⟩ := pz
  refine ⟨(rZ).trans ((show S4.2 = S.2 by rw [d4])), ?_⟩
  · intro p i hW
    clear e13 c8 c7 b12 e11 b10 b9 e9 c6 c5 b8 e8 c4 c3 e7 e6 c2 b5 e4 c1
    exact ((fZ p i (by omega))).trans ((show S4.1 p i = S.1 p i by rw [d4]; exact if_neg (by omega)))
theorem q398_0 (S : fx_S) (x1 : Int) (hS : fx_Sok S) (g1 : -2147483648 ≤ x1 ∧ x1 ≤ 2147483647) (c1 : 0 ≤ x1) (c2 : x1 < 12) (v1 : Int) (e1 : v1 = S.1 43 x1) (b1 : -2147483648 ≤ v1 ∧ v1 ≤ 2147483647) (c3 : 0 < v1) (c4 : 0 ≤ x1) (c5 : x1 < 12) (v2 : Int) (e2 : v2 = S.1 43 x1) (b2 : -2147483648 ≤ v2 ∧ v2 ≤ 2147483647) (v3 : Int) (e3 : v3 = fx_sub v2 1) (c6 : 0 ≤ x1) (c7 : x1 < 12) (S1 : fx_S) (d1 : S1 = (fx_up S.1 43 x1 v3, S.2)) : s398 S x1 1 S1 := by
  refine ⟨(show S1.2 = S.2 by rw [d1]), ?_⟩
  · intro p i hW
    clear c7 c6 e3 b2 e2 c5 c4 c3 b1 e1 c2 c1
    exact (show S1.1 p i = S.1 p i by rw [d1]; exact if_neg (by omega))
theorem q398_1 (S : fx_S) (x1 : Int) (hS : fx_Sok S) (g1 : -2147483648 ≤ x1 ∧ x1 ≤ 2147483647) (c1 : 0 ≤ x1) (c2 : x1 < 12) (v1 : Int) (e1 : v1 = S.1 43 x1) (b1 : -2147483648 ≤ v1 ∧ v1 ≤ 2147483647) (c3 : v1 ≤ 0) : s398 S x1 0 S := by
  refine ⟨rfl, ?_⟩
  · intro p i hW
    clear c3 b1 e1 c2 c1
    exact rfl
theorem q399_0 (S : fx_S) (x2 x3 : Int) (hS : fx_Sok S) (g2 : -2147483648 ≤ x2 ∧ x2 ≤ 2147483647) (g3 : -2147483648 ≤ x3 ∧ x3 ≤ 2147483647) (c1 : 0 ≤ x2) (c2 : x2 < 8090) (v2 : Int) (e2 : v2 = S.1 67 x2) (b2 : -2147483648 ≤ v2 ∧ v2 ≤ 2147483647) (c3 : v2 ≤ x3) : s399 S x2 x3 (-1) S := by
  refine ⟨rfl, ?_⟩
  · intro p i hW
    clear c3 b2 e2 c2 c1
    exact rfl
theorem q399_1 (S : fx_S) (x2 x3 : Int) (hS : fx_Sok S) (g2 : -2147483648 ≤ x2 ∧ x2 ≤ 2147483647) (g3 : -2147483648 ≤ x3 ∧ x3 ≤ 2147483647) (c1 : 0 ≤ x2) (c2 : x2 < 8090) (v2 : Int) (e2 : v2 = S.1 67 x2) (b2 : -2147483648 ≤ v2 ∧ v2 ≤ 2147483647) (c3 : x3 < v2) (v3 : Int) (e3 : v3 = fx_add x2 1) (v4 : Int) (e4 : v4 = fx_add v3 x3) (c4 : 0 ≤ v4) (c5 : v4 < 8090) (v5 : Int) (e5 : v5 = S.1 67 v4) (b5 : -2147483648 ≤ v5 ∧ v5 ≤ 2147483647) (c6 : 0 ≤ v5) (c7 : v5 < 12) (v6 : Int) (e6 : v6 = S.1 82 v5) (b6 : -2147483648 ≤ v6 ∧ v6 ≤ 2147483647) (c8 : v6 ≠ 0) (c9 : 0 ≤ v5) (c10 : v5 < 12) (v7 : Int) (e7 : v7 = S.1 82 v5) (b7 : -2147483648 ≤ v7 ∧ v7 ≤ 2147483647) (v8 : Int) (e8 : v8 = fx_sub v7 1) (c11 : 0 ≤ v5) (c12 : v5 < 12) (S1 : fx_S) (d1 : S1 = (fx_up S.1 82 v5 v8, S.2)) : s399 S x2 x3 v5 S1 := by
  refine ⟨(show S1.2 = S.2 by rw [d1]), ?_⟩
  · intro p i hW
    clear c12 c11 e8 b7 e7 c10 c9 c8 b6 e6 c7 c6 b5 e5 c5 c4 e4 e3 c3 b2 e2 c2 c1
    exact (show S1.1 p i = S.1 p i by rw [d1]; exact if_neg (by omega))
theorem q399_2 (S : fx_S) (x2 x3 : Int) (hS : fx_Sok S) (g2 : -2147483648 ≤ x2 ∧ x2 ≤ 2147483647) (g3 : -2147483648 ≤ x3 ∧ x3 ≤ 2147483647) (c1 : 0 ≤ x2) (c2 : x2 < 8090) (v2 : Int) (e2 : v2 = S.1 67 x2) (b2 : -2147483648 ≤ v2 ∧ v2 ≤ 2147483647) (c3 : x3 < v2) (v3 : Int) (e3 : v3 = fx_add x2 1) (v4 : Int) (e4 : v4 = fx_add v3 x3) (c4 : 0 ≤ v4) (c5 : v4 < 8090) (v5 : Int) (e5 : v5 = S.1 67 v4) (b5 : -2147483648 ≤ v5 ∧ v5 ≤ 2147483647) (c6 : 0 ≤ v5) (c7 : v5 < 12) (v6 : Int) (e6 : v6 = S.1 82 v5) (b6 : -2147483648 ≤ v6 ∧ v6 ≤ 2147483647) (c8 : v6 = 0) (v7 : Int) (e7 : v7 = fx_add x3 1) (z : Int) (Z : fx_S) (kz : fx_Sok Z) (bz : -2147483648 ≤ z ∧ z ≤ 2147483647) (pz : s399 S x2 v7 z Z) : s399 S x2 x3 z Z := by
  obtain ⟨rZ, fZ⟩ := pz
  refine ⟨rZ, ?_⟩
  · intro p i hW
    clear e7 c8 b6 e6 c7 c6 b5 e5 c5 c4 e4 e3 c3 b2 e2 c2 c1
    exact (fZ p i (by omega))
theorem q400_0 (S : fx_S) (x1 : Int) (hS : fx_Sok S) (g1 : -2147483648 ≤ x1 ∧ x1 ≤ 2147483647) (z : Int) (Z : fx_S) (kz : fx_Sok Z) (bz : z = 0) (pz : s409 S x1 0 7 z Z) : s400 S x1 z Z := by
  obtain ⟨rZ, fZ⟩ := pz
  refine ⟨rZ, ?_⟩
  · intro p i hW
    exact (fZ p i (by omega))
theorem q401_0 (S : fx_S) (x1 x2 : Int) (hS : fx_Sok S) (g1 : -2147483648 ≤ x1 ∧ x1 ≤ 2147483647) (g2 : -2147483648 ≤ x2 ∧ x2 ≤ 2147483647) (v2 : Int) (e2 : v2 = S.1 56 2) (b2 : -2147483648 ≤ v2 ∧ v2 ≤ 2147483647) (c1 : v2 ≤ x2) : s401 S x1 x2 0 S := by
  refine ⟨rfl, ?_⟩
  · intro p i hW
    clear c1 b2 e2
    exact rfl
theorem q401_1 (S : fx_S) (x1 x2 : Int) (hS : fx_Sok S) (g1 : -2147483648 ≤ x1 ∧ x1 ≤ 2147483647) (g2 : -2147483648 ≤ x2 ∧ x2 ≤ 2147483647) (v2 : Int) (e2 : v2 = S.1 56 2) (b2 : -2147483648 ≤ v2 ∧ v2 ≤ 2147483647) (c1 : x2 < v2) (v3 : Int) (S1 : fx_S) (k1 : fx_Sok S1) (b3 : -2147483648 ≤ v3 ∧ v3 ≤ 2147483647) (p1 : s410 S x2 x1 v3 S1) (c2 : 0 ≤ x2) (c3 : x2 < 7) (S2 : fx_S) (d2 : S2 = (fx_up S1.1 57 x2 v3, S1.2)) (c4 : 0 ≤ x2) (c5 : x2 < 7) (v4 : Int) (e4 : v4 = S2.1 57 x2) (b4 : -2147483648 ≤ v4 ∧ v4 ≤ 2147483647) (c6 : v4 = (-1)) (v5 : Int) (e5 : v5 = fx_add x2 1) (z : Int) (Z : fx_S) (kz : fx_Sok Z) (bz : z = 0) (pz : s401 S2 x1 v5 z Z) : s401 S x1 x2 z Z := by
  obtain rfl : S = S1 := p1
  obtain ⟨rZ, fZ⟩ := pz
  refine ⟨(rZ).trans ((show S2.2 = S.2 by rw [d2])), ?_⟩
  · intro p i hW
    clear e5 c6 b4 e4 c5 c4 c3 c2 b3 c1 b2 e2
    exact ((fZ p i (by omega))).trans ((show S2.1 p i = S.1 p i by rw [d2]; exact if_neg (by omega)))
theorem q401_2 (S : fx_S) (x1 x2 : Int) (hS : fx_Sok S) (g1 : -2147483648 ≤ x1 ∧ x1 ≤ 2147483647) (g2 : -2147483648 ≤ x2 ∧ x2 ≤ 2147483647) (v2 : Int) (e2 : v2 = S.1 56 2) (b2 : -2147483648 ≤ v2 ∧ v2 ≤ 2147483647) (c1 : x2 < v2) (v3 : Int) (S1 : fx_S) (k1 : fx_Sok S1) (b3 : -2147483648 ≤ v3 ∧ v3 ≤ 2147483647) (p1 : s410 S x2 x1 v3 S1) (c2 : 0 ≤ x2) (c3 : x2 < 7) (S2 : fx_S) (d2 : S2 = (fx_up S1.1 57 x2 v3, S1.2)) (c4 : 0 ≤ x2) (c5 : x2 < 7) (v4 : Int) (e4 : v4 = S2.1 57 x2) (b4 : -2147483648 ≤ v4 ∧ v4 ≤ 2147483647) (c6 : v4 ≠ (-1)) (c7 : 0 ≤ x2) (c8 : x2 < 7) (v5 : Int) (e5 : v5 = S2.1 57 x2) (b5 : -2147483648 ≤ v5 ∧ v5 ≤ 2147483647) (v6 : Int) (e6 : v6 = fx_shl 1 v5) (v7 : Int) (e7 : v7 = fx_or x1 v6) (v8 : Int) (e8 : v8 = fx_add x2 1) (z : Int) (Z : fx_S) (kz : fx_Sok Z) (bz : z = 0) (pz : s401 S2 v7 v8 z Z) : s401 S x1 x2 z Z := by
  obtain rfl : S = S1 := p1
  obtain ⟨rZ, fZ⟩ := pz
  refine ⟨(rZ).trans ((show S2.2 = S.2 by rw [d2])), ?_⟩
  · intro p i hW
    clear e8 e7 e6 b5 e5 c8 c7 c6 b4 e4 c5 c4 c3 c2 b3 c1 b2 e2
    exact ((fZ p i (by omega))).trans ((show S2.1 p i = S.1 p i by rw [d2]; exact if_neg (by omega)))
theorem q402_0 (S : fx_S) (x1 x2 : Int) (hS : fx_Sok S) (g1 : -2147483648 ≤ x1 ∧ x1 ≤ 2147483647) (g2 : -2147483648 ≤ x2 ∧ x2 ≤ 2147483647) (v2 : Int) (e2 : v2 = fx_add x1 1) (v3 : Int) (e3 : v3 = fx_mul v2 128) (v4 : Int) (e4 : v4 = fx_add v3 x2) (c1 : 0 ≤ v4) (c2 : v4 < 1024) (v5 : Int) (e5 : v5 = S.1 59 v4) (b5 : -2147483648 ≤ v5 ∧ v5 ≤ 2147483647) (c3 : 0 ≤ v4) (c4 : v4 < 1024) (v6 : Int) (e6 : v6 = S.1 60 v4) (b6 : -2147483648 ≤ v6 ∧ v6 ≤ 2147483647) (z : Int) (Z : fx_S) (kz : fx_Sok Z) (bz : z = 0) (pz : s411 S x1 x2 v5 v6 0 z Z) : s402 S x1 x2 z Z := by
  obtain ⟨rZ, fZ⟩ := pz
  refine ⟨rZ, ?_⟩
  · intro p i hW
    clear b6 e6 c4 c3 b5 e5 c2 c1 e4 e3 e2
    exact (fZ p i (by omega))
theorem q403_0 (S : fx_S) (x0 x1 x2 x3 x4 : Int) (hS : fx_Sok S) (g0 : 0 ≤ x0 ∧ x0 < S.2.2) (g1 : -2147483648 ≤ x1 ∧ x1 ≤ 2147483647) (g2 : -2147483648 ≤ x2 ∧ x2 ≤ 2147483647) (g3 : -2147483648 ≤ x3 ∧ x3 ≤ 2147483647) (g4 : -2147483648 ≤ x4 ∧ x4 ≤ 2147483647) (v5 : Int) (e5 : v5 = S.1 x0 7) (b5 : -2147483648 ≤ v5 ∧ v5 ≤ 2147483647) (c1 : 48 ≤ v5) : s403 S x0 x1 x2 x3 x4 0 S := by
  refine ⟨rfl, ?_⟩
  · intro p i hW
    exact rfl
theorem q403_1 (S : fx_S) (x0 x1 x2 x3 x4 : Int) (hS : fx_Sok S) (g0 : 0 ≤ x0 ∧ x0 < S.2.2) (g1 : -2147483648 ≤ x1 ∧ x1 ≤ 2147483647) (g2 : -2147483648 ≤ x2 ∧ x2 ≤ 2147483647) (g3 : -2147483648 ≤ x3 ∧ x3 ≤ 2147483647) (g4 : -2147483648 ≤ x4 ∧ x4 ≤ 2147483647) (v5 : Int) (e5 : v5 = S.1 x0 7) (b5 : -2147483648 ≤ v5 ∧ v5 ≤ 2147483647) (c1 : v5 < 48) (v6 : Int) (e6 : v6 = S.1 x0 7) (b6 : -2147483648 ≤ v6 ∧ v6 ≤ 2147483647) (c2 : 0 ≤ v6) (c3 : v6 < 48) (S1 : fx_S) (d1 : S1 = (fx_up S.1 (x0 + 8) v6 x2, S.2)) (v7 : Int) (e7 : v7 = S1.1 x0 7) (b7 : -2147483648 ≤ v7 ∧ v7 ≤ 2147483647) (c4 : 0 ≤ v7) (c5 : v7 < 48) (S2 : fx_S) (d2 : S2 = (fx_up S1.1 (x0 + 9) v7 x3, S1.2)) (v8 : Int) (e8 : v8 = fx_mul x4 x4) (v9 : Int) (e9 : v9 = fx_add v8 1) (v10 : Int) (S3 : fx_S) (k3 : fx_Sok S3) (b10 : v10 = 0) (p3 : s405 S2 x0 3 x1 60 v9 v10 S3) : s403 S x0 x1 x2 x3 x4 0 S3 := by
  obtain ⟨r3, f3⟩ := p3
  refine ⟨(r3).trans (((show S2.2 = S1.2 by rw [d2])).trans ((show S1.2 = S.2 by rw [d1]))), ?_⟩
  · intro p i hW
    exact ((f3 p i (by omega))).trans (((show S2.1 p i = S1.1 p i by rw [d2]; exact if_neg (by omega))).trans ((show S1.1 p i = S.1 p i by rw [d1]; exact if_neg (by omega))))
theorem q404_0 (S : fx_S) (hS : fx_Sok S) (v0 : Int) (e0 : v0 = S.1 50 6) (b0 : -2147483648 ≤ v0 ∧ v0 ≤ 2147483647) (c1 : v0 ≠ 3) (v1 : Int) (S1 : fx_S) (k1 : fx_Sok S1) (b1 : v1 = 0) (p1 : s349 S 1 v1 S1) : s404 S  61 S1 := by
  obtain ⟨r1, f1⟩ := p1
  refine ⟨r1, ?_⟩
  · intro p i hW
    clear b1 c1 b0 e0
    exact (f1 p i (by omega))
theorem q404_1 (S : fx_S) (hS : fx_Sok S) (v0 : Int) (e0 : v0 = S.1 50 6) (b0 : -2147483648 ≤ v0 ∧ v0 ≤ 2147483647) (c1 : v0 = 3) (v1 : Int) (e1 : v1 = S.1 50 5) (b1 : -2147483648 ≤ v1 ∧ v1 ≤ 2147483647) (c2 : 0 ≤ v1) (c3 : v1 < 600) (v2 : Int) (e2 : v2 = S.1 51 v1) (b2 : -128 ≤ v2 ∧ v2 ≤ 127) (c4 : v2 ≠ 59) (v3 : Int) (e3 : v3 = S.1 50 5) (b3 : -2147483648 ≤ v3 ∧ v3 ≤ 2147483647) (c5 : 0 ≤ v3) (c6 : v3 < 600) (v4 : Int) (e4 : v4 = S.1 51 v3) (b4 : -128 ≤ v4 ∧ v4 ≤ 127) (v5 : Int) (e5 : v5 = fx_i2c v4) (v6 : Int) (S1 : fx_S) (k1 : fx_Sok S1) (b6 : v6 = 0) (p1 : s218 S  v6 S1) : s404 S  v5 S1 := by
  obtain ⟨r1, f1⟩ := p1
  refine ⟨r1, ?_⟩
  · intro p i hW
    clear b6 e5 b4 e4 c6 c5 b3 e3 c4 b2 e2 c3 c2 b1 e1 c1 b0 e0
    exact (f1 p i (by omega))
theorem q404_2 (S : fx_S) (hS : fx_Sok S) (v0 : Int) (e0 : v0 = S.1 50 6) (b0 : -2147483648 ≤ v0 ∧ v0 ≤ 2147483647) (c1 : v0 = 3) (v1 : Int) (e1 : v1 = S.1 50 5) (b1 : -2147483648 ≤ v1 ∧ v1 ≤ 2147483647) (c2 : 0 ≤ v1) (c3 : v1 < 600) (v2 : Int) (e2 : v2 = S.1 51 v1) (b2 : -128 ≤ v2 ∧ v2 ≤ 127) (c4 : v2 = 59) (v3 : Int) (S1 : fx_S) (k1 : fx_Sok S1) (b3 : v3 = 0) (p1 : s349 S 1 v3 S1) : s404 S  61 S1 := by
  obtain ⟨r1, f1⟩ := p1
  refine ⟨r1, ?_⟩
  · intro p i hW
    clear b3 c4 b2 e2 c3 c2 b1 e1 c1 b0 e0
    exact (f1 p i (by omega))
theorem q405_0 (S : fx_S) (x0 x1 x2 x3 x4 : Int) (hS : fx_Sok S) (g0 : 0 ≤ x0 ∧ x0 < S.2.2) (g1 : -2147483648 ≤ x1 ∧ x1 ≤ 2147483647) (g2 : -2147483648 ≤ x2 ∧ x2 ≤ 2147483647) (g3 : -2147483648 ≤ x3 ∧ x3 ≤ 2147483647) (g4 : -2147483648 ≤ x4 ∧ x4 ≤ 2147483647) (v5 : Int) (e5 : v5 = S.1 x0 7) (b5 : -2147483648 ≤ v5 ∧ v5 ≤ 2147483647) (c1 : 48 ≤ v5) : s405 S x0 x1 x2 x3 x4 0 S := by
  refine ⟨rfl, ?_⟩
  · intro p i hW
    exact rfl
theorem q405_1 (S : fx_S) (x0 x1 x2 x3 x4 : Int) (hS : fx_Sok S) (g0 : 0 ≤ x0 ∧ x0 < S.2.2) (g1 : -2147483648 ≤ x1 ∧ x1 ≤ 2147483647) (g2 : -2147483648 ≤ x2 ∧ x2 ≤ 2147483647) (g3 : -2147483648 ≤ x3 ∧ x3 ≤ 2147483647) (g4 : -2147483648 ≤ x4 ∧ x4 ≤ 2147483647) (v5 : Int) (e5 : v5 = S.1 x0 7) (b5 : -2147483648 ≤ v5 ∧ v5 ≤ 2147483647) (c1 : v5 < 48) (v6 : Int) (e6 : v6 = S.1 x0 4) (b6 : -2147483648 ≤ v6 ∧ v6 ≤ 2147483647) (c2 : v6 ≤ 0) : s405 S x0 x1 x2 x3 x4 0 S := by
  refine ⟨rfl, ?_⟩
  · intro p i hW
    exact rfl
theorem q405_2 (S : fx_S) (x0 x1 x2 x3 x4 : Int) (hS : fx_Sok S) (g0 : 0 ≤ x0 ∧ x0 < S.2.2) (g1 : -2147483648 ≤ x1 ∧ x1 ≤ 2147483647) (g2 : -2147483648 ≤ x2 ∧ x2 ≤ 2147483647) (g3 : -2147483648 ≤ x3 ∧ x3 ≤ 2147483647) (g4 : -2147483648 ≤ x4 ∧ x4 ≤ 2147483647) (v5 : Int) (e5 : v5 = S.1 x0 7) (b5 : -2147483648 ≤ v5 ∧ v5 ≤ 2147483647) (c1 : v5 < 48) (v6 : Int) (e6 : v6 = S.1 x0 4) (b6 : -2147483648 ≤ v6 ∧ v6 ≤ 2147483647) (c2 : 0 < v6) (v7 : Int) (e7 : v7 = S.1 x0 7) (b7 : -2147483648 ≤ v7 ∧ v7 ≤ 2147483647) (c3 : 0 ≤ v7) (c4 : v7 < 48) (S1 : fx_S) (d1 : S1 = (fx_up S.1 (x0 + 4) v7 x1, S.2)) (v8 : Int) (e8 : v8 = S1.1 x0 7) (b8 : -2147483648 ≤ v8 ∧ v8 ≤ 2147483647) (v9 : Int) (e9 : v9 = fx_nar 4 x2) (c5 : 0 ≤ v8) (c6 : v8 < 48) (S2 : fx_S) (d2 : S2 = (fx_up S1.1 (x0 + 5) v8 v9, S1.2)) (v10 : Int) (e10 : v10 = S2.1 x0 7) (b10 : -2147483648 ≤ v10 ∧ v10 ≤ 2147483647) (v11 : Int) (e11 : v11 = fx_nar 3 x3) (c7 : 0 ≤ v10) (c8 : v10 < 48) (S3 : fx_S) (d3 : S3 = (fx_up S2.1 (x0 + 6) v10 v11, S2.2)) (v12 : Int) (e12 : v12 = S3.1 x0 7) (b12 : -2147483648 ≤ v12 ∧ v12 ≤ 2147483647) (c9 : 0 ≤ v12) (c10 : v12 < 48) (S4 : fx_S) (d4 : S4 = (fx_up S3.1 (x0 + 7) v12 x4, S3.2)) (v13 : Int) (e13 : v13 = S4.1 x0 7) (b13 : -2147483648 ≤ v13 ∧ v13 ≤ 2147483647) (v14 : Int) (e14 : v14 = fx_add v13 1) (S5 : fx_S) (d5 : S5 = (fx_up S4.1 x0 7 v14, S4.2)) (v15 : Int) (e15 : v15 = S5.1 x0 4) (b15 : -2147483648 ≤ v15 ∧ v15 ≤ 2147483647) (v16 : Int) (e16 : v16 = fx_sub v15 1) (v17 : Int) (e17 : v17 = S5.1 x0 7) (b17 : -2147483648 ≤ v17 ∧ v17 ≤ 2147483647) (c11 : 0 ≤ v16) (c12 : v16 < 16) (S6 : fx_S) (d6 : S6 = (fx_up S5.1 (x0 + 3) v16 v17, S5.2)) : s405 S x0 x1 x2 x3 x4 0 S6 := by
  refine ⟨((show S6.2 = S5.2 by rw [d6])).trans (((show S5.2 = S4.2 by rw [d5])).trans (((show S4.2 = S3.2 by rw [d4])).trans (((show S3.2 = S2.2 by rw [d3])).trans (((show S2.2 = S1.2 by rw [d2])).trans ((show S1.2 = S.2 by rw [d1])))))), ?_⟩
  · intro p i hW
    exact ((show S6.1 p i = S5.1 p i by rw [d6]; exact if_neg (by omega))).trans (((show S5.1 p i = S4.1 p i by rw [d5]; exact if_neg (by omega))).trans (((show S4.1 p i = S3.1 p i by rw [d4]; exact if_neg (by omega))).trans (((show S3.1 p i = S2.1 p i by rw [d3]; exact if_neg (by omega))).trans (((show S2.1 p i = S1.1 p i by rw [d2]; exact if_neg (by omega))).trans ((show S1.1 p i = S.1 p i by rw [d1]; exact if_neg (by omega)))))))
theorem q406_0 (S : fx_S) (hS : fx_Sok S) (v0 : Int) (S1 : fx_S) (k1 : fx_Sok S1) (b0 : -2147483648 ≤ v0 ∧ v0 ≤ 2147483647) (p1 : s376 S 7 v0 S1) (c1 : v0 ≠ 0) : s406 S  1 S1 := by
  obtain rfl : S = S1 := p1
  exact rfl
theorem q406_1 (S : fx_S) (hS : fx_Sok S) (v0 : Int) (S1 : fx_S) (k1 : fx_Sok S1) (b0 : -2147483648 ≤ v0 ∧ v0 ≤ 2147483647) (p1 : s376 S 7 v0 S1) (c1 : v0 = 0) (v1 : Int) (S2 : fx_S) (k2 : fx_Sok S2) (b1 : -2147483648 ≤ v1 ∧ v1 ≤ 2147483647) (p2 : s376 S1 8 v1 S2) (c2 : v1 ≠ 0) : s406 S  1 S2 := by
  obtain rfl : S = S1 := p1
  obtain rfl : S = S2 := p2
  exact rfl
theorem q406_2 (S : fx_S) (hS : fx_Sok S) (v0 : Int) (S1 : fx_S) (k1 : fx_Sok S1) (b0 : -2147483648 ≤ v0 ∧ v0 ≤ 2147483647) (p1 : s376 S 7 v0 S1) (c1 : v0 = 0) (v1 : Int) (S2 : fx_S) (k2 : fx_Sok S2) (b1 : -2147483648 ≤ v1 ∧ v1 ≤ 2147483647) (p2 : s376 S1 8 v1 S2) (c2 : v1 = 0) (v2 : Int) (S3 : fx_S) (k3 : fx_Sok S3) (b2 : -2147483648 ≤ v2 ∧ v2 ≤ 2147483647) (p3 : s376 S2 9 v2 S3) (c3 : v2 ≠ 0) : s406 S  1 S3 := by
  obtain rfl : S = S1 := p1
  obtain rfl : S = S2 := p2
  obtain rfl : S = S3 := p3
  exact rfl
theorem q406_3 (S : fx_S) (hS : fx_Sok S) (v0 : Int) (S1 : fx_S) (k1 : fx_Sok S1) (b0 : -2147483648 ≤ v0 ∧ v0 ≤ 2147483647) (p1 : s376 S 7 v0 S1) (c1 : v0 = 0) (v1 : Int) (S2 : fx_S) (k2 : fx_Sok S2) (b1 : -2147483648 ≤ v1 ∧ v1 ≤ 2147483647) (p2 : s376 S1 8 v1 S2) (c2 : v1 = 0) (v2 : Int) (S3 : fx_S) (k3 : fx_Sok S3) (b2 : -2147483648 ≤ v2 ∧ v2 ≤ 2147483647) (p3 : s376 S2 9 v2 S3) (c3 : v2 = 0) (v3 : Int) (S4 : fx_S) (k4 : fx_Sok S4) (b3 : -2147483648 ≤ v3 ∧ v3 ≤ 2147483647) (p4 : s376 S3 10 v3 S4) (c4 : v3 = 0) : s406 S  0 S4 := by
  obtain rfl : S = S1 := p1
  obtain rfl : S = S2 := p2
  obtain rfl : S = S3 := p3
  obtain rfl : S = S4 := p4
  exact rfl
theorem q406_4 (S : fx_S) (hS : fx_Sok S) (v0 : Int) (S1 : fx_S) (k1 : fx_Sok S1) (b0 : -2147483648 ≤ v0 ∧ v0 ≤ 2147483647) (p1 : s376 S 7 v0 S1) (c1 : v0 = 0) (v1 : Int) (S2 : fx_S) (k2 : fx_Sok S2) (b1 : -2147483648 ≤ v1 ∧ v1 ≤ 2147483647) (p2 : s376 S1 8 v1 S2) (c2 : v1 = 0) (v2 : Int) (S3 : fx_S) (k3 : fx_Sok S3) (b2 : -2147483648 ≤ v2 ∧ v2 ≤ 2147483647) (p3 : s376 S2 9 v2 S3) (c3 : v2 = 0) (v3 : Int) (S4 : fx_S) (k4 : fx_Sok S4) (b3 : -2147483648 ≤ v3 ∧ v3 ≤ 2147483647) (p4 : s376 S3 10 v3 S4) (c4 : v3 ≠ 0) : s406 S  1 S4 := by
  obtain rfl : S = S1 := p1
  obtain rfl : S = S2 := p2
  obtain rfl : S = S3 := p3
  obtain rfl : S = S4 := p4
  exact rfl
theorem q407_0 (S : fx_S) (hS : fx_Sok S) (v0 : Int) (S1 : fx_S) (k1 : fx_Sok S1) (b0 : -2147483648 ≤ v0 ∧ v0 ≤ 2147483647) (p1 : s304 S 7 v0 S1) (c1 : v0 = 0) (v1 : Int) (S2 : fx_S) (k2 : fx_Sok S2) (b1 : -2147483648 ≤ v1 ∧ v1 ≤ 2147483647) (p2 : s304 S1 8 v1 S2) (c2 : v1 = 0) (v2 : Int) (S3 : fx_S) (k3 : fx_Sok S3) (b2 : -2147483648 ≤ v2 ∧ v2 ≤ 2147483647) (p3 : s304 S2 9 v2 S3) (c3 : v2 = 0) (v3 : Int) (S4 : fx_S) (k4 : fx_Sok S4) (b3 : -2147483648 ≤ v3 ∧ v3 ≤ 2147483647) (p4 : s304 S3 10 v3 S4) (c4 : v3 = 0) : s407 S  (-1) S4 := by
  obtain rfl : S = S1 := p1
  obtain rfl : S = S2 := p2
  obtain rfl : S = S3 := p3
  obtain rfl : S = S4 := p4
  exact rfl
theorem q407_1 (S : fx_S) (hS : fx_Sok S) (v0 : Int) (S1 : fx_S) (k1 : fx_Sok S1) (b0 : -2147483648 ≤ v0 ∧ v0 ≤ 2147483647) (p1 : s304 S 7 v0 S1) (c1 : v0 = 0) (v1 : Int) (S2 : fx_S) (k2 : fx_Sok S2) (b1 : -2147483648 ≤ v1 ∧ v1 ≤ 2147483647) (p2 : s304 S1 8 v1 S2) (c2 : v1 = 0) (v2 : Int) (S3 : fx_S) (k3 : fx_Sok S3) (b2 : -2147483648 ≤ v2 ∧ v2 ≤ 2147483647) (p3 : s304 S2 9 v2 S3) (c3 : v2 = 0) (v3 : Int) (S4 : fx_S) (k4 : fx_Sok S4) (b3 : -2147483648 ≤ v3 ∧ v3 ≤ 2147483647) (p4 : s304 S3 10 v3 S4) (c4 : v3 ≠ 0) : s407 S  3 S4 := by
  obtain rfl : S = S1 := p1
  obtain rfl : S = S2 := p2
  obtain rfl : S = S3 := p3
  obtain rfl : S = S4 := p4
  exact rfl
theorem q407_2 (S : fx_S) (hS : fx_Sok S) (v0 : Int) (S1 : fx_S) (k1 : fx_Sok S1) (b0 : -2147483648 ≤ v0 ∧ v0 ≤ 2147483647) (p1 : s304 S 7 v0 S1) (c1 : v0 = 0) (v1 : Int) (S2 : fx_S) (k2 : fx_Sok S2) (b1 : -2147483648 ≤ v1 ∧ v1 ≤ 2147483647) (p2 : s304 S1 8 v1 S2) (c2 : v1 = 0) (v2 : Int) (S3 : fx_S) (k3 : fx_Sok S3) (b2 : -2147483648 ≤ v2 ∧ v2 ≤ 2147483647) (p3 : s304 S2 9 v2 S3) (c3 : v2 ≠ 0) : s407 S  2 S3 := by
  obtain rfl : S = S1 := p1
  obtain rfl : S = S2 := p2
  obtain rfl : S = S3 := p3
  exact rfl
theorem q407_3 (S : fx_S) (hS : fx_Sok S) (v0 : Int) (S1 : fx_S) (k1 : fx_Sok S1) (b0 : -2147483648 ≤ v0 ∧ v0 ≤ 2147483647) (p1 : s304 S 7 v0 S1) (c1 : v0 = 0) (v1 : Int) (S2 : fx_S) (k2 : fx_Sok S2) (b1 : -2147483648 ≤ v1 ∧ v1 ≤ 2147483647) (p2 : s304 S1 8 v1 S2) (c2 : v1 ≠ 0) : s407 S  1 S2 := by
  obtain rfl : S = S1 := p1
  obtain rfl : S = S2 := p2
  exact rfl
theorem q407_4 (S : fx_S) (hS : fx_Sok S) (v0 : Int) (S1 : fx_S) (k1 : fx_Sok S1) (b0 : -2147483648 ≤ v0 ∧ v0 ≤ 2147483647) (p1 : s304 S 7 v0 S1) (c1 : v0 ≠ 0) : s407 S  0 S1 := by
  obtain rfl : S = S1 := p1
  exact rfl
theorem q408_0 (S : fx_S) (x1 x2 : Int) (hS : fx_Sok S) (g1 : -2147483648 ≤ x1 ∧ x1 ≤ 2147483647) (g2 : -2147483648 ≤ x2 ∧ x2 ≤ 2147483647) (c1 : 0 ≤ x1) (c2 : x1 < 4) (v2 : Int) (e2 : v2 = S.1 76 x1) (b2 : -2147483648 ≤ v2 ∧ v2 ≤ 2147483647) (v3 : Int) (e3 : v3 = fx_neg v2) (z : Int) (Z : fx_S) (kz : fx_Sok Z) (bz : -2147483648 ≤ z ∧ z ≤ 2147483647) (pz : s412 S x1 x2 1000000 v3 z Z) : s408 S x1 x2 z Z := by
  obtain rfl : S = Z := pz
  exact rfl
theorem q409_0 (S : fx_S) (x1 x2 x3 : Int) (hS : fx_Sok S) (g1 : -2147483648 ≤ x1 ∧ x1 ≤ 2147483647) (g2 : -2147483648 ≤ x2 ∧ x2 ≤ 2147483647) (g3 : -2147483648 ≤ x3 ∧ x3 ≤ 2147483647) (c1 : x3 ≤ x2) : s409 S x1 x2 x3 0 S := by
  refine ⟨rfl, ?_⟩
  · intro p i hW
    clear c1
    exact rfl
theorem q409_1 (S : fx_S) (x1 x2 x3 : Int) (hS : fx_Sok S) (g1 : -2147483648 ≤ x1 ∧ x1 ≤ 2147483647) (g2 : -2147483648 ≤ x2 ∧ x2 ≤ 2147483647) (g3 : -2147483648 ≤ x3 ∧ x3 ≤ 2147483647) (c1 : x2 < x3) (c2 : 0 ≤ x2) (c3 : x2 < 7) (S1 : fx_S) (d1 : S1 = (fx_up S.1 57 x2 x1, S.2)) (v3 : Int) (e3 : v3 = fx_add x2 1) (z : Int) (Z : fx_S) (kz : fx_Sok Z) (bz : z = 0) (pz : s409 S1 x1 v3 x3 z Z) : s409 S x1 x2 x3 z Z := by
  obtain ⟨rZ, fZ⟩ := pz
  refine ⟨(rZ).trans ((show S1.2 = S.2 by rw [d1])), ?_⟩
  · intro p i hW
    clear e3 c3 c2 c1
    exact ((fZ p i (by omega))).trans ((show S1.1 p i = S.1 p i by rw [d1]; exact if_neg (by omega)))
theorem q410_0 (S : fx_S) (x1 x2 : Int) (hS : fx_Sok S) (g1 : -2147483648 ≤ x1 ∧ x1 ≤ 2147483647) (g2 : -2147483648 ≤ x2 ∧ x2 ≤ 2147483647) (v2 : Int) (e2 : v2 = fx_mul x1 128) (v3 : Int) (e3 : v3 = fx_add v2 x2) (c1 : 0 ≤ v3) (c2 : v3 < 1024) (v4 : Int) (e4 : v4 = S.1 59 v3) (b4 : -2147483648 ≤ v4 ∧ v4 ≤ 2147483647) (z : Int) (Z : fx_S) (kz : fx_Sok Z) (bz : -2147483648 ≤ z ∧ z ≤ 2147483647) (pz : s413 S x1 x2 v4 0 z Z) : s410 S x1 x2 z Z := by
  obtain rfl : S = Z := pz
  exact rfl
theorem q411_0 (S : fx_S) (x1 x2 x4 x5 x6 : Int) (hS : fx_Sok S) (g1 : -2147483648 ≤ x1 ∧ x1 ≤ 2147483647) (g2 : -2147483648 ≤ x2 ∧ x2 ≤ 2147483647) (g4 : -2147483648 ≤ x4 ∧ x4 ≤ 2147483647) (g5 : -2147483648 ≤ x5 ∧ x5 ≤ 2147483647) (g6 : -2147483648 ≤ x6 ∧ x6 ≤ 2147483647) (v5 : Int) (e5 : v5 = S.1 56 3) (b5 : -2147483648 ≤ v5 ∧ v5 ≤ 2147483647) (c1 : v5 ≤ x6) (v6 : Int) (e6 : v6 = fx_mul x1 128) (v7 : Int) (e7 : v7 = fx_add v6 x2) (c2 : 0 ≤ v7) (c3 : v7 < 1024) (S1 : fx_S) (d1 : S1 = (fx_up S.1 59 v7 x4, S.2)) (v8 : Int) (e8 : v8 = fx_mul x1 128) (v9 : Int) (e9 : v9 = fx_add v8 x2) (c4 : 0 ≤ v9) (c5 : v9 < 1024) (S2 : fx_S) (d2 : S2 = (fx_up S1.1 60 v9 x5, S1.2)) : s411 S x1 x2 x4 x5 x6 0 S2 := by
  refine ⟨((show S2.2 = S1.2 by rw [d2])).trans ((show S1.2 = S.2 by rw [d1])), ?_⟩
  · intro p i hW
    clear c5 c4 e9 e8 c3 c2 e7 e6 c1 b5 e5
    exact ((show S2.1 p i = S1.1 p i by rw [d2]; exact if_neg (by omega))).trans ((show S1.1 p i = S.1 p i by rw [d1]; exact if_neg (by omega)))
theorem q411_1 (S : fx_S) (x1 x2 x4 x5 x6 : Int) (hS : fx_Sok S) (g1 : -2147483648 ≤ x1 ∧ x1 ≤ 2147483647) (g2 : -2147483648 ≤ x2 ∧ x2 ≤ 2147483647) (g4 : -2147483648 ≤ x4 ∧ x4 ≤ 2147483647) (g5 : -2147483648 ≤ x5 ∧ x5 ≤ 2147483647) (g6 : -2147483648 ≤ x6 ∧ x6 ≤ 2147483647) (v5 : Int) (e5 : v5 = S.1 56 3) (b5 : -2147483648 ≤ v5 ∧ v5 ≤ 2147483647) (c1 : x6 < v5) (v6 : Int) (S1 : fx_S) (k1 : fx_Sok S1) (b6 : -2147483648 ≤ v6 ∧ v6 ≤ 2147483647) (p1 : s414 S x1 x6 x2 v6 S1) (c2 : v6 = 0) (v7 : Int) (e7 : v7 = fx_add x6 1) (z : Int) (Z : fx_S) (kz : fx_Sok Z) (bz : z = 0) (pz : s411 S1 x1 x2 x4 x5 v7 z Z) : s411 S x1 x2 x4 x5 x6 z Z := by
  obtain rfl : S = S1 := p1
  obtain ⟨rZ, fZ⟩ := pz
  refine ⟨rZ, ?_⟩
  · intro p i hW
    clear e7 c2 b6 c1 b5 e5
    exact (fZ p i (by omega))
