/-! FX: what is to be shown of the entries -/
theorem q81_0 (S : fx_S) (x1 : Int) (hS : fx_Sok S) (g1 : -2147483648 ≤ x1 ∧ x1 ≤ 2147483647) (c1 : x1 = 0) (v1 : Int) (S1 : fx_S) (k1 : fx_Sok S1) (b1 : -2147483648 ≤ v1 ∧ v1 ≤ 2147483647) (p1 : s194 S  v1 S1) : s81 S x1 v1 S1 := by
  obtain ⟨r1, f1, p1⟩ := p1
  refine ⟨r1, ?_, ?_⟩
  · intro p i hW
    clear b1 c1
    exact (f1 p i (by omega))
  · skip
    intro n hn hw8
    exact .inl ⟨c1, p1 n hn (by omega)⟩
theorem q81_1 (S : fx_S) (x1 : Int) (hS : fx_Sok S) (g1 : -2147483648 ≤ x1 ∧ x1 ≤ 2147483647) (c1 : x1 ≠ 0) (c2 : x1 = 1) (v1 : Int) (S1 : fx_S) (k1 : fx_Sok S1) (b1 : -2147483648 ≤ v1 ∧ v1 ≤ 2147483647) (p1 : s195 S  v1 S1) : s81 S x1 v1 S1 := by
  obtain ⟨r1, f1, p1⟩ := p1
  refine ⟨r1, ?_, ?_⟩
  · intro p i hW
    clear b1 c2 c1
    exact (f1 p i (by omega))
  · skip
    intro n hn hw8
    exact .inr (.inl ⟨c2, (p1 n hn hw8).1, (p1 n hn hw8).2, fun i => f1 65 i (by omega), f1 0 10 (by omega)⟩)
theorem q81_2 (S : fx_S) (x1 : Int) (hS : fx_Sok S) (g1 : -2147483648 ≤ x1 ∧ x1 ≤ 2147483647) (c1 : x1 ≠ 0) (c2 : x1 ≠ 1) : s81 S x1 (-2) S := by
  refine ⟨rfl, ?_, ?_⟩
  · intro p i hW
    clear c2 c1
    exact rfl
  · skip
    intro n hn hw8
    exact .inr (.inr ⟨c1, c2, rfl, rfl⟩)
theorem q82_0 (S : fx_S) (x1 : Int) (hS : fx_Sok S) (g1 : -2147483648 ≤ x1 ∧ x1 ≤ 2147483647) (v1 : Int) (S1 : fx_S) (k1 : fx_Sok S1) (b1 : -2147483648 ≤ v1 ∧ v1 ≤ 2147483647) (p1 : s113 S x1 0 1 v1 S1) (c1 : v1 ≠ 0) (c2 : x1 ≠ 0) (v2 : Int) (S2 : fx_S) (k2 : fx_Sok S2) (b2 : v2 = 0) (p2 : s196 S1  v2 S2) (v3 : Int) (e3 : v3 = S2.1 66 29) (b3 : -2147483648 ≤ v3 ∧ v3 ≤ 2147483647) : s82 S x1 v3 S2 := by
  obtain ⟨rfl, p1⟩ := p1
  obtain ⟨r2, f2, p2⟩ := p2
  refine ⟨r2, ?_, ?_⟩
  · intro p i hW
    clear b3 e3 b2 c2 c1 b1
    exact (f2 p i (by omega))
  · skip
    intro n hn hw8
    have m1 := fx_in01 p1
    have hx : x1 = 1 := by omega
    exact .inr (.inl ⟨hx, e3, (p2 n hn hw8).1, (p2 n hn hw8).2, fun i => f2 84 i (by omega), f2 66 30 (by omega)⟩)
theorem q82_1 (S : fx_S) (x1 : Int) (hS : fx_Sok S) (g1 : -2147483648 ≤ x1 ∧ x1 ≤ 2147483647) (v1 : Int) (S1 : fx_S) (k1 : fx_Sok S1) (b1 : -2147483648 ≤ v1 ∧ v1 ≤ 2147483647) (p1 : s113 S x1 0 1 v1 S1) (c1 : v1 ≠ 0) (c2 : x1 = 0) (v2 : Int) (S2 : fx_S) (k2 : fx_Sok S2) (b2 : v2 = 0) (p2 : s197 S1  v2 S2) (v3 : Int) (e3 : v3 = S2.1 66 29) (b3 : -2147483648 ≤ v3 ∧ v3 ≤ 2147483647) : s82 S x1 v3 S2 := by
  obtain ⟨rfl, p1⟩ := p1
  obtain ⟨r2, f2, p2⟩ := p2
  refine ⟨r2, ?_, ?_⟩
  · intro p i hW
    clear b3 e3 b2 c2 c1 b1
    exact (f2 p i (by omega))
  · skip
    intro n hn hw8
    exact .inl ⟨c2, e3, p2 n hn hw8⟩
theorem q82_2 (S : fx_S) (x1 : Int) (hS : fx_Sok S) (g1 : -2147483648 ≤ x1 ∧ x1 ≤ 2147483647) (v1 : Int) (S1 : fx_S) (k1 : fx_Sok S1) (b1 : -2147483648 ≤ v1 ∧ v1 ≤ 2147483647) (p1 : s113 S x1 0 1 v1 S1) (c1 : v1 = 0) : s82 S x1 (-2) S1 := by
  obtain ⟨rfl, p1⟩ := p1
  refine ⟨rfl, ?_, ?_⟩
  · intro p i hW
    clear c1 b1
    exact rfl
  · skip
    intro n hn hw8
    have m1 := fx_in01 p1
    exact .inr (.inr ⟨by omega, by omega, rfl, rfl⟩)
theorem q83_0 (S : fx_S) (x1 x2 : Int) (hS : fx_Sok S) (g1 : -2147483648 ≤ x1 ∧ x1 ≤ 2147483647) (g2 : -2147483648 ≤ x2 ∧ x2 ≤ 2147483647) (v2 : Int) (e2 : v2 = S.1 13 0) (b2 : -2147483648 ≤ v2 ∧ v2 ≤ 2147483647) (v3 : Int) (e3 : v3 = fx_sub v2 1) (v4 : Int) (S1 : fx_S) (k1 : fx_Sok S1) (b4 : -2147483648 ≤ v4 ∧ v4 ≤ 2147483647) (p1 : s114 S x1 0 v3 v4 S1) (c1 : v4 = 0) : s83 S x1 x2 (-2) S1 := by
  obtain ⟨rfl, p1⟩ := p1
  refine ⟨rfl, ?_, ?_⟩
  · intro p i hW
    clear c1 b4 e3 b2 e2
    exact rfl
  · skip
    intro n hn hw8
    have h3 := e3
    first | rw [fx_sub_eq (by omega) (by omega)] at h3 | skip
    have m1 := fx_in01 p1
    exact .inl ⟨rfl, by omega, rfl⟩
theorem q83_1 (S : fx_S) (x1 x2 : Int) (hS : fx_Sok S) (g1 : -2147483648 ≤ x1 ∧ x1 ≤ 2147483647) (g2 : -2147483648 ≤ x2 ∧ x2 ≤ 2147483647) (v2 : Int) (e2 : v2 = S.1 13 0) (b2 : -2147483648 ≤ v2 ∧ v2 ≤ 2147483647) (v3 : Int) (e3 : v3 = fx_sub v2 1) (v4 : Int) (S1 : fx_S) (k1 : fx_Sok S1) (b4 : -2147483648 ≤ v4 ∧ v4 ≤ 2147483647) (p1 : s114 S x1 0 v3 v4 S1) (c1 : v4 ≠ 0) (v5 : Int) (S2 : fx_S) (k2 : fx_Sok S2) (b5 : -2147483648 ≤ v5 ∧ v5 ≤ 2147483647) (p2 : s114 S1 x2 0 1 v5 S2) (c2 : v5 ≠ 0) (c3 : x2 ≠ 0) (v6 : Int) (S3 : fx_S) (k3 : fx_Sok S3) (b6 : -2147483648 ≤ v6 ∧ v6 ≤ 2147483647) (p3 : s195 S2  v6 S3) (c4 : 0 ≤ x1) (c5 : x1 < 80) (v7 : Int) (e7 : v7 = S3.1 64 x1) (b7 : -128 ≤ v7 ∧ v7 ≤ 127) : s83 S x1 x2 v7 S3 := by
  obtain ⟨rfl, p1⟩ := p1
  obtain ⟨rfl, p2⟩ := p2
  obtain ⟨r3, f3, p3⟩ := p3
  refine ⟨r3, ?_, ?_⟩
  · intro p i hW
    clear b7 e7 c5 c4 b6 c3 c2 b5 c1 b4 e3 b2 e2
    exact (f3 p i (by omega))
  · skip
    intro n hn hw8
    have h3 := e3
    first | rw [fx_sub_eq (by omega) (by omega)] at h3 | skip
    have m1 := fx_in01 p1
    have m2 := fx_in01 p2
    have m1 := fx_in01 p1
    have m2 := fx_in01 p2
    have hx : x2 = 1 := by omega
    exact .inr ⟨by omega, e7, .inr ⟨hx, v6, (p3 n hn hw8).1, (p3 n hn hw8).2, fun i => f3 65 i (by omega), f3 0 10 (by omega)⟩⟩
theorem q83_2 (S : fx_S) (x1 x2 : Int) (hS : fx_Sok S) (g1 : -2147483648 ≤ x1 ∧ x1 ≤ 2147483647) (g2 : -2147483648 ≤ x2 ∧ x2 ≤ 2147483647) (v2 : Int) (e2 : v2 = S.1 13 0) (b2 : -2147483648 ≤ v2 ∧ v2 ≤ 2147483647) (v3 : Int) (e3 : v3 = fx_sub v2 1) (v4 : Int) (S1 : fx_S) (k1 : fx_Sok S1) (b4 : -2147483648 ≤ v4 ∧ v4 ≤ 2147483647) (p1 : s114 S x1 0 v3 v4 S1) (c1 : v4 ≠ 0) (v5 : Int) (S2 : fx_S) (k2 : fx_Sok S2) (b5 : -2147483648 ≤ v5 ∧ v5 ≤ 2147483647) (p2 : s114 S1 x2 0 1 v5 S2) (c2 : v5 ≠ 0) (c3 : x2 = 0) (v6 : Int) (S3 : fx_S) (k3 : fx_Sok S3) (b6 : -2147483648 ≤ v6 ∧ v6 ≤ 2147483647) (p3 : s194 S2  v6 S3) (c4 : 0 ≤ x1) (c5 : x1 < 80) (v7 : Int) (e7 : v7 = S3.1 64 x1) (b7 : -128 ≤ v7 ∧ v7 ≤ 127) : s83 S x1 x2 v7 S3 := by
  obtain ⟨rfl, p1⟩ := p1
  obtain ⟨rfl, p2⟩ := p2
  obtain ⟨r3, f3, p3⟩ := p3
  refine ⟨r3, ?_, ?_⟩
  · intro p i hW
    clear b7 e7 c5 c4 b6 c3 c2 b5 c1 b4 e3 b2 e2
    exact (f3 p i (by omega))
  · skip
    intro n hn hw8
    have h3 := e3
    first | rw [fx_sub_eq (by omega) (by omega)] at h3 | skip
    have m1 := fx_in01 p1
    have m2 := fx_in01 p2
    have m1 := fx_in01 p1
    have m2 := fx_in01 p2
    exact .inr ⟨by omega, e7, .inl ⟨c3, v6, p3 n hn (by omega)⟩⟩
theorem q83_3 (S : fx_S) (x1 x2 : Int) (hS : fx_Sok S) (g1 : -2147483648 ≤ x1 ∧ x1 ≤ 2147483647) (g2 : -2147483648 ≤ x2 ∧ x2 ≤ 2147483647) (v2 : Int) (e2 : v2 = S.1 13 0) (b2 : -2147483648 ≤ v2 ∧ v2 ≤ 2147483647) (v3 : Int) (e3 : v3 = fx_sub v2 1) (v4 : Int) (S1 : fx_S) (k1 : fx_Sok S1) (b4 : -2147483648 ≤ v4 ∧ v4 ≤ 2147483647) (p1 : s114 S x1 0 v3 v4 S1) (c1 : v4 ≠ 0) (v5 : Int) (S2 : fx_S) (k2 : fx_Sok S2) (b5 : -2147483648 ≤ v5 ∧ v5 ≤ 2147483647) (p2 : s114 S1 x2 0 1 v5 S2) (c2 : v5 = 0) : s83 S x1 x2 (-2) S2 := by
  obtain ⟨rfl, p1⟩ := p1
  obtain ⟨rfl, p2⟩ := p2
  refine ⟨rfl, ?_, ?_⟩
  · intro p i hW
    clear c2 b5 c1 b4 e3 b2 e2
    exact rfl
  · skip
    intro n hn hw8
    have h3 := e3
    first | rw [fx_sub_eq (by omega) (by omega)] at h3 | skip
    have m1 := fx_in01 p1
    have m2 := fx_in01 p2
    exact .inl ⟨rfl, by omega, rfl⟩
theorem q84_0 (S : fx_S) (x1 x2 : Int) (hS : fx_Sok S) (g1 : -2147483648 ≤ x1 ∧ x1 ≤ 2147483647) (g2 : -2147483648 ≤ x2 ∧ x2 ≤ 2147483647) (v2 : Int) (S1 : fx_S) (k1 : fx_Sok S1) (b2 : -2147483648 ≤ v2 ∧ v2 ≤ 2147483647) (p1 : s113 S x2 0 1 v2 S1) (c1 : v2 = 0) : s84 S x1 x2 (-2) S1 := by
  obtain ⟨rfl, p1⟩ := p1
  refine ⟨rfl, ?_, ?_⟩
  · intro p i hW
    clear c1 b2
    exact rfl
  · skip
    intro n hn hw8
    have m1 := fx_in01 p1
    have m1 := fx_in01 p1
    first | have m2 := fx_in01 p2 | skip
    exact .inl ⟨rfl, by omega, rfl⟩
theorem q84_1 (S : fx_S) (x1 x2 : Int) (hS : fx_Sok S) (g1 : -2147483648 ≤ x1 ∧ x1 ≤ 2147483647) (g2 : -2147483648 ≤ x2 ∧ x2 ≤ 2147483647) (v2 : Int) (S1 : fx_S) (k1 : fx_Sok S1) (b2 : -2147483648 ≤ v2 ∧ v2 ≤ 2147483647) (p1 : s113 S x2 0 1 v2 S1) (c1 : v2 ≠ 0) (v3 : Int) (e3 : v3 = S1.1 67 2) (b3 : -2147483648 ≤ v3 ∧ v3 ≤ 2147483647) (v4 : Int) (e4 : v4 = fx_sub v3 1) (v5 : Int) (S2 : fx_S) (k2 : fx_Sok S2) (b5 : -2147483648 ≤ v5 ∧ v5 ≤ 2147483647) (p2 : s113 S1 x1 0 v4 v5 S2) (c2 : v5 ≠ 0) (c3 : x2 ≠ 0) (v6 : Int) (S3 : fx_S) (k3 : fx_Sok S3) (b6 : v6 = 0) (p3 : s196 S2  v6 S3) (c4 : 0 ≤ x1) (c5 : x1 < 80) (v7 : Int) (e7 : v7 = S3.1 83 x1) (b7 : 0 ≤ v7 ∧ v7 ≤ 1) (c6 : v7 = 0) : s84 S x1 x2 0 S3 := by
  obtain ⟨rfl, p1⟩ := p1
  obtain ⟨rfl, p2⟩ := p2
  obtain ⟨r3, f3, p3⟩ := p3
  refine ⟨r3, ?_, ?_⟩
  · intro p i hW
    clear c6 b7 e7 c5 c4 b6 c3 c2 b5 e4 b3 e3 c1 b2
    exact (f3 p i (by omega))
  · skip
    intro n hn hw8
    have m1 := fx_in01 p1
    have h4 := e4
    first | rw [fx_sub_eq (by omega) (by omega)] at h4 | skip
    have m2 := fx_in01 p2
    have m1 := fx_in01 p1
    first | have m2 := fx_in01 p2 | skip
    have hx : x2 = 1 := by omega
    exact .inr ⟨by omega, by rw [← e7, if_pos c6], .inr ⟨hx, (p3 n hn hw8).1, (p3 n hn hw8).2, fun i => f3 84 i (by omega), f3 66 30 (by omega)⟩⟩
theorem q84_2 (S : fx_S) (x1 x2 : Int) (hS : fx_Sok S) (g1 : -2147483648 ≤ x1 ∧ x1 ≤ 2147483647) (g2 : -2147483648 ≤ x2 ∧ x2 ≤ 2147483647) (v2 : Int) (S1 : fx_S) (k1 : fx_Sok S1) (b2 : -2147483648 ≤ v2 ∧ v2 ≤ 2147483647) (p1 : s113 S x2 0 1 v2 S1) (c1 : v2 ≠ 0) (v3 : Int) (e3 : v3 = S1.1 67 2) (b3 : -2147483648 ≤ v3 ∧ v3 ≤ 2147483647) (v4 : Int) (e4 : v4 = fx_sub v3 1) (v5 : Int) (S2 : fx_S) (k2 : fx_Sok S2) (b5 : -2147483648 ≤ v5 ∧ v5 ≤ 2147483647) (p2 : s113 S1 x1 0 v4 v5 S2) (c2 : v5 ≠ 0) (c3 : x2 ≠ 0) (v6 : Int) (S3 : fx_S) (k3 : fx_Sok S3) (b6 : v6 = 0) (p3 : s196 S2  v6 S3) (c4 : 0 ≤ x1) (c5 : x1 < 80) (v7 : Int) (e7 : v7 = S3.1 83 x1) (b7 : 0 ≤ v7 ∧ v7 ≤ 1) (c6 : v7 ≠ 0) : s84 S x1 x2 1 S3 := by
  obtain ⟨rfl, p1⟩ := p1
  obtain ⟨rfl, p2⟩ := p2
  obtain ⟨r3, f3, p3⟩ := p3
  refine ⟨r3, ?_, ?_⟩
  · intro p i hW
    clear c6 b7 e7 c5 c4 b6 c3 c2 b5 e4 b3 e3 c1 b2
    exact (f3 p i (by omega))
  · skip
    intro n hn hw8
    have m1 := fx_in01 p1
    have h4 := e4
    first | rw [fx_sub_eq (by omega) (by omega)] at h4 | skip
    have m2 := fx_in01 p2
    have m1 := fx_in01 p1
    first | have m2 := fx_in01 p2 | skip
    have hx : x2 = 1 := by omega
    exact .inr ⟨by omega, by rw [← e7, if_neg c6], .inr ⟨hx, (p3 n hn hw8).1, (p3 n hn hw8).2, fun i => f3 84 i (by omega), f3 66 30 (by omega)⟩⟩
theorem q84_3 (S : fx_S) (x1 x2 : Int) (hS : fx_Sok S) (g1 : -2147483648 ≤ x1 ∧ x1 ≤ 2147483647) (g2 : -2147483648 ≤ x2 ∧ x2 ≤ 2147483647) (v2 : Int) (S1 : fx_S) (k1 : fx_Sok S1) (b2 : -2147483648 ≤ v2 ∧ v2 ≤ 2147483647) (p1 : s113 S x2 0 1 v2 S1) (c1 : v2 ≠ 0) (v3 : Int) (e3 : v3 = S1.1 67 2) (b3 : -2147483648 ≤ v3 ∧ v3 ≤ 2147483647) (v4 : Int) (e4 : v4 = fx_sub v3 1) (v5 : Int) (S2 : fx_S) (k2 : fx_Sok S2) (b5 : -2147483648 ≤ v5 ∧ v5 ≤ 2147483647) (p2 : s113 S1 x1 0 v4 v5 S2) (c2 : v5 ≠ 0) (c3 : x2 = 0) (v6 : Int) (S3 : fx_S) (k3 : fx_Sok S3) (b6 : v6 = 0) (p3 : s197 S2  v6 S3) (c4 : 0 ≤ x1) (c5 : x1 < 80) (v7 : Int) (e7 : v7 = S3.1 83 x1) (b7 : 0 ≤ v7 ∧ v7 ≤ 1) (c6 : v7 = 0) : s84 S x1 x2 0 S3 := by
  obtain ⟨rfl, p1⟩ := p1
  obtain ⟨rfl, p2⟩ := p2
  obtain ⟨r3, f3, p3⟩ := p3
  refine ⟨r3, ?_, ?_⟩
  · intro p i hW
    clear c6 b7 e7 c5 c4 b6 c3 c2 b5 e4 b3 e3 c1 b2
    exact (f3 p i (by omega))
  · skip
    intro n hn hw8
    have m1 := fx_in01 p1
    have h4 := e4
    first | rw [fx_sub_eq (by omega) (by omega)] at h4 | skip
    have m2 := fx_in01 p2
    have m1 := fx_in01 p1
    first | have m2 := fx_in01 p2 | skip
    exact .inr ⟨by omega, by rw [← e7, if_pos c6], .inl ⟨c3, p3 n hn hw8⟩⟩
theorem q84_4 (S : fx_S) (x1 x2 : Int) (hS : fx_Sok S) (g1 : -2147483648 ≤ x1 ∧ x1 ≤ 2147483647) (g2 : -2147483648 ≤ x2 ∧ x2 ≤ 2147483647) (v2 : Int) (S1 : fx_S) (k1 : fx_Sok S1) (b2 : -2147483648 ≤ v2 ∧ v2 ≤ 2147483647) (p1 : s113 S x2 0 1 v2 S1) (c1 : v2 ≠ 0) (v3 : Int) (e3 : v3 = S1.1 67 2) (b3 : -2147483648 ≤ v3 ∧ v3 ≤ 2147483647) (v4 : Int) (e4 : v4 = fx_sub v3 1) (v5 : Int) (S2 : fx_S) (k2 : fx_Sok S2) (b5 : -2147483648 ≤ v5 ∧ v5 ≤ 2147483647) (p2 : s113 S1 x1 0 v4 v5 S2) (c2 : v5 ≠ 0) (c3 : x2 = 0) (v6 : Int) (S3 : fx_S) (k3 : fx_Sok S3) (b6 : v6 = 0) (p3 : s197 S2  v6 S3) (c4 : 0 ≤ x1) (c5 : x1 < 80) (v7 : Int) (e7 : v7 = S3.1 83 x1) (b7 : 0 ≤ v7 ∧ v7 ≤ 1) (c6 : v7 ≠ 0) : s84 S x1 x2 1 S3 := by
  obtain ⟨rfl, p1⟩ := p1
  obtain ⟨rfl, p2⟩ := p2
  obtain ⟨r3, f3, p3⟩ := p3
  refine ⟨r3, ?_, ?_⟩
  · intro p i hW
    clear c6 b7 e7 c5 c4 b6 c3 c2 b5 e4 b3 e3 c1 b2
    exact (f3 p i (by omega))
  · skip
    intro n hn hw8
    have m1 := fx_in01 p1
    have h4 := e4
    first | rw [fx_sub_eq (by omega) (by omega)] at h4 | skip
    have m2 := fx_in01 p2
    have m1 := fx_in01 p1
    first | have m2 := fx_in01 p2 | skip
    exact .inr ⟨by omega, by rw [← e7, if_neg c6], .inl ⟨c3, p3 n hn hw8⟩⟩
theorem q84_5 (S : fx_S) (x1 x2 : Int) (hS : fx_Sok S) (g1 : -2147483648 ≤ x1 ∧ x1 ≤ 2147483647) (g2 : -2147483648 ≤ x2 ∧ x2 ≤ 2147483647) (v2 : Int) (S1 : fx_S) (k1 : fx_Sok S1) (b2 : -2147483648 ≤ v2 ∧ v2 ≤ 2147483647) (p1 : s113 S x2 0 1 v2 S1) (c1 : v2 ≠ 0) (v3 : Int) (e3 : v3 = S1.1 67 2) (b3 : -2147483648 ≤ v3 ∧ v3 ≤ 2147483647) (v4 : Int) (e4 : v4 = fx_sub v3 1) (v5 : Int) (S2 : fx_S) (k2 : fx_Sok S2) (b5 : -2147483648 ≤ v5 ∧ v5 ≤ 2147483647) (p2 : s113 S1 x1 0 v4 v5 S2) (c2 : v5 = 0) : s84 S x1 x2 (-2) S2 := by
  obtain ⟨rfl, p1⟩ := p1
  obtain ⟨rfl, p2⟩ := p2
  refine ⟨rfl, ?_, ?_⟩
  · intro p i hW
    clear c2 b5 e4 b3 e3 c1 b2
    exact rfl
  · skip
    intro n hn hw8
    have m1 := fx_in01 p1
    have h4 := e4
    first | rw [fx_sub_eq (by omega) (by omega)] at h4 | skip
    have m2 := fx_in01 p2
    have m1 := fx_in01 p1
    first | have m2 := fx_in01 p2 | skip
    exact .inl ⟨rfl, by omega, rfl⟩
theorem q85_0 (S : fx_S) (x1 : Int) (hS : fx_Sok S) (g1 : -2147483648 ≤ x1 ∧ x1 ≤ 2147483647) (v1 : Int) (S1 : fx_S) (k1 : fx_Sok S1) (b1 : -2147483648 ≤ v1 ∧ v1 ≤ 2147483647) (p1 : s194 S  v1 S1) (c1 : x1 < 0) : s85 S x1 (-1) S1 := by
  obtain ⟨r1, f1, p1⟩ := p1
  refine ⟨r1, ?_, ?_⟩
  · intro p i hW
    clear c1 b1
    exact (f1 p i (by omega))
  · skip
    intro n hn hw8
    exact ⟨by rw [if_neg (by omega)], v1, p1 n hn (by omega)⟩
theorem q85_1 (S : fx_S) (x1 : Int) (hS : fx_Sok S) (g1 : -2147483648 ≤ x1 ∧ x1 ≤ 2147483647) (v1 : Int) (S1 : fx_S) (k1 : fx_Sok S1) (b1 : -2147483648 ≤ v1 ∧ v1 ≤ 2147483647) (p1 : s194 S  v1 S1) (c1 : 0 ≤ x1) (v2 : Int) (e2 : v2 = S1.1 0 10) (b2 : -2147483648 ≤ v2 ∧ v2 ≤ 2147483647) (c2 : v2 ≤ x1) : s85 S x1 (-1) S1 := by
  obtain ⟨r1, f1, p1⟩ := p1
  refine ⟨r1, ?_, ?_⟩
  · intro p i hW
    clear c2 b2 e2 c1 b1
    exact (f1 p i (by omega))
  · skip
    intro n hn hw8
    exact ⟨by rw [if_neg (by omega)], v1, p1 n hn (by omega)⟩
theorem q85_2 (S : fx_S) (x1 : Int) (hS : fx_Sok S) (g1 : -2147483648 ≤ x1 ∧ x1 ≤ 2147483647) (v1 : Int) (S1 : fx_S) (k1 : fx_Sok S1) (b1 : -2147483648 ≤ v1 ∧ v1 ≤ 2147483647) (p1 : s194 S  v1 S1) (c1 : 0 ≤ x1) (v2 : Int) (e2 : v2 = S1.1 0 10) (b2 : -2147483648 ≤ v2 ∧ v2 ≤ 2147483647) (c2 : x1 < v2) (c3 : 0 ≤ x1) (c4 : x1 < 80) (v3 : Int) (e3 : v3 = S1.1 65 x1) (b3 : -2147483648 ≤ v3 ∧ v3 ≤ 2147483647) : s85 S x1 v3 S1 := by
  obtain ⟨r1, f1, p1⟩ := p1
  refine ⟨r1, ?_, ?_⟩
  · intro p i hW
    clear b3 e3 c4 c3 c2 b2 e2 c1 b1
    exact (f1 p i (by omega))
  · skip
    intro n hn hw8
    exact ⟨by rw [if_pos (by omega)]; exact e3, v1, p1 n hn (by omega)⟩
theorem q86_0 (S : fx_S) (x1 : Int) (hS : fx_Sok S) (g1 : -2147483648 ≤ x1 ∧ x1 ≤ 2147483647) (v1 : Int) (S1 : fx_S) (k1 : fx_Sok S1) (b1 : v1 = 0) (p1 : s197 S  v1 S1) (v2 : Int) (e2 : v2 = S1.1 66 30) (b2 : -2147483648 ≤ v2 ∧ v2 ≤ 2147483647) (v3 : Int) (e3 : v3 = fx_sub v2 1) (v4 : Int) (S2 : fx_S) (k2 : fx_Sok S2) (b4 : -2147483648 ≤ v4 ∧ v4 ≤ 2147483647) (p2 : s113 S1 x1 0 v3 v4 S2) (c1 : v4 = 0) : s86 S x1 (-1) S2 := by
  obtain ⟨r1, f1, p1⟩ := p1
  obtain ⟨rfl, p2⟩ := p2
  refine ⟨r1, ?_, ?_⟩
  · intro p i hW
    clear c1 b4 e3 b2 e2 b1
    exact (f1 p i (by omega))
  · skip
    intro n hn hw8
    refine ⟨fun hc => ?_, p1 n hn hw8⟩
    have h3 := e3
    first | rw [fx_sub_eq (by omega) (by omega)] at h3 | skip
    have m2 := fx_in01 p2
    have m1 := fx_in01 p2
    rw [if_neg (by omega)]
theorem q86_1 (S : fx_S) (x1 : Int) (hS : fx_Sok S) (g1 : -2147483648 ≤ x1 ∧ x1 ≤ 2147483647) (v1 : Int) (S1 : fx_S) (k1 : fx_Sok S1) (b1 : v1 = 0) (p1 : s197 S  v1 S1) (v2 : Int) (e2 : v2 = S1.1 66 30) (b2 : -2147483648 ≤ v2 ∧ v2 ≤ 2147483647) (v3 : Int) (e3 : v3 = fx_sub v2 1) (v4 : Int) (S2 : fx_S) (k2 : fx_Sok S2) (b4 : -2147483648 ≤ v4 ∧ v4 ≤ 2147483647) (p2 : s113 S1 x1 0 v3 v4 S2) (c1 : v4 ≠ 0) (c2 : 0 ≤ x1) (c3 : x1 < 80) (v5 : Int) (e5 : v5 = S2.1 84 x1) (b5 : -2147483648 ≤ v5 ∧ v5 ≤ 2147483647) : s86 S x1 v5 S2 := by
  obtain ⟨r1, f1, p1⟩ := p1
  obtain ⟨rfl, p2⟩ := p2
  refine ⟨r1, ?_, ?_⟩
  · intro p i hW
    clear b5 e5 c3 c2 c1 b4 e3 b2 e2 b1
    exact (f1 p i (by omega))
  · skip
    intro n hn hw8
    refine ⟨fun hc => ?_, p1 n hn hw8⟩
    have h3 := e3
    first | rw [fx_sub_eq (by omega) (by omega)] at h3 | skip
    have m2 := fx_in01 p2
    have m1 := fx_in01 p2
    rw [if_pos (by omega)]
    exact e5
theorem q195_0 (S : fx_S) (hS : fx_Sok S) (v0 : Int) (S1 : fx_S) (k1 : fx_Sok S1) (b0 : v0 = 0) (p1 : s278 S 0 v0 S1) (z : Int) (Z : fx_S) (kz : fx_Sok Z) (bz : -2147483648 ≤ z ∧ z ≤ 2147483647) (pz : s279 S1 0 0 z Z) : s195 S  z Z := by
  obtain ⟨r1, f1, p1⟩ := p1
  obtain ⟨rZ, fZ, pz⟩ := pz
  refine ⟨(rZ).trans (r1), ?_, ?_⟩
  · intro p i hW
    clear b0
    exact ((fZ p i (by omega))).trans ((f1 p i (by omega)))
  · skip
    intro n hn hw8
    have gF : ∀ p : Int, p ≠ 64 → S1.1 p = S.1 p := fun p h1 => funext fun i => f1 p i (by omega)
    have q := pz n 80 (by rw [gF 13 (by omega)]; exact hn) hw8 (by omega) (by omega) (by omega)
    rw [gF 13 (by omega), gF 18 (by omega), gF 16 (by omega), gF 17 (by omega), gF 1 (by omega), funext p1] at q
    exact q
theorem q196_0 (S : fx_S) (hS : fx_Sok S) (S1 : fx_S) (d1 : S1 = (fx_up S.1 66 29 0, S.2)) (z : Int) (Z : fx_S) (kz : fx_Sok Z) (bz : z = 0) (pz : s280 S1 0 z Z) : s196 S  z Z := by
  obtain ⟨rZ, fZ, pz⟩ := pz
  refine ⟨(rZ).trans ((show S1.2 = S.2 by rw [d1])), ?_, ?_⟩
  · intro p i hW
    exact ((fZ p i (by omega))).trans ((show S1.1 p i = S.1 p i by rw [d1]; exact if_neg (by omega)))
  · skip
    intro n hn hw8
    have gF : ∀ p : Int, p ≠ 66 → S1.1 p = S.1 p := fun p h1 => funext fun i => by
      rw [d1]
      exact if_neg (fun q => h1 q.1)
    have q := pz n (by rw [gF 67 (by omega)]; exact hn) hw8 (by rw [d1]; rfl) (by omega) (fun i i0 i1 => by omega)
    rw [gF 67 (by omega), gF 83 (by omega)] at q
    exact q
theorem q197_0 (S : fx_S) (hS : fx_Sok S) (S1 : fx_S) (d1 : S1 = (fx_up S.1 66 29 0, S.2)) (S2 : fx_S) (d2 : S2 = (fx_up S1.1 66 30 0, S1.2)) (z : Int) (Z : fx_S) (kz : fx_Sok Z) (bz : z = 0) (pz : s281 S2 0 z Z) : s197 S  z Z := by
  obtain ⟨rZ, fZ, pz⟩ := pz
  refine ⟨(rZ).trans (((show S2.2 = S1.2 by rw [d2])).trans ((show S1.2 = S.2 by rw [d1]))), ?_, ?_⟩
  · intro p i hW
    exact ((fZ p i (by omega))).trans (((show S2.1 p i = S1.1 p i by rw [d2]; exact if_neg (by omega))).trans ((show S1.1 p i = S.1 p i by rw [d1]; exact if_neg (by omega))))
  · skip
    intro n hn hw8
    have gf : ∀ p i : Int, p ≠ 66 → S2.1 p i = S.1 p i := fun p i h1 => by
      subst d2; subst d1
      dsimp only [fx_up]
      repeat (first | rw [if_pos (by omega)] | rw [if_neg (by omega)])
    have g67 : S2.1 67 = S.1 67 := funext fun i => gf 67 i (by omega)
    have g84 : S2.1 84 = S.1 84 := funext fun i => gf 84 i (by omega)
    have g83 : S2.1 83 = S.1 83 := funext fun i => gf 83 i (by omega)
    have g29 : S2.1 66 29 = 0 := by subst d2; subst d1; rfl
    have g30 : S2.1 66 30 = 0 := by subst d2; subst d1; rfl
    have q := pz n (by rw [g67]; exact hn) hw8 (by omega) (by omega) g30 (by rw [g29]; omega) 80 80 (by omega) (by omega)
    rw [g67, g84, g83, g29] at q
    exact q
theorem q279_0 (S : fx_S) (x1 x2 : Int) (hS : fx_Sok S) (g1 : -2147483648 ≤ x1 ∧ x1 ≤ 2147483647) (g2 : -2147483648 ≤ x2 ∧ x2 ≤ 2147483647) (c1 : 80 ≤ x2) : s279 S x1 x2 x1 S := by
  refine ⟨rfl, ?_, ?_⟩
  · intro p i hW
    clear c1
    exact rfl
  · skip
    intro n k hn hw8 hk h0 hx
    cases k with
    | zero =>
      unfold fx_few
      exact ⟨rfl, fun i => rfl⟩
    | succ k => exact absurd hk (by omega)
theorem q279_1 (S : fx_S) (x1 x2 : Int) (hS : fx_Sok S) (g1 : -2147483648 ≤ x1 ∧ x1 ≤ 2147483647) (g2 : -2147483648 ≤ x2 ∧ x2 ≤ 2147483647) (c1 : x2 < 80) (v2 : Int) (S1 : fx_S) (k1 : fx_Sok S1) (b2 : -2147483648 ≤ v2 ∧ v2 ≤ 2147483647) (p1 : s332 S x1 v2 S1) (c2 : v2 ≠ 0) (v3 : Int) (e3 : v3 = fx_add x1 v2) (v4 : Int) (e4 : v4 = fx_add x2 1) (z : Int) (Z : fx_S) (kz : fx_Sok Z) (bz : -2147483648 ≤ z ∧ z ≤ 2147483647) (pz : s279 S1 v3 v4 z Z) : s279 S x1 x2 z Z := by
  obtain ⟨r1, f1, p1⟩ := p1
  obtain ⟨rZ, fZ, pz⟩ := pz
  refine ⟨(rZ).trans (r1), ?_, ?_⟩
  · intro p i hW
    clear e4 e3 c2 b2 c1
    exact ((fZ p i (by omega))).trans ((f1 p i (by omega)))
  · skip
    intro n k hn hw8 hk h0 hx
    have h3 := e3
    first | rw [fx_add_eq (by omega) (by omega)] at h3 | skip
    have h4 := e4
    first | rw [fx_add_eq (by omega) (by omega)] at h4 | skip
    obtain ⟨b0, b1⟩ := p1 n hn
    have hr := fx_wi_rng (o := S.1 18) (T := (fun q : Int => if (0 ≤ q ∧ q < S.1 13 0) ∧ S.1 16 q ≤ S.1 1 0 ∧ S.1 1 0 < S.1 17 q then 1 else 0)) (g := x1) n 0 (S.1 64)
    have h3 : v3 = x1 + v2 := by rw [e3]; exact fx_add_eq (by omega) (by omega)
    have gF : ∀ p : Int, p ≠ 64 → S1.1 p = S.1 p := fun p h1 => funext fun i => f1 p i (by omega)
    cases k with
    | zero => exact absurd hk (by omega)
    | succ k =>
      have q := pz n k (by rw [gF 13 (by omega)]; exact hn) hw8 (by omega) (by omega) (by omega)
      rw [gF 13 (by omega), gF 18 (by omega), gF 16 (by omega), gF 17 (by omega), gF 1 (by omega), funext b1, h3, b0] at q
      unfold fx_few
      rw [if_neg (by omega)]
      exact q
theorem q279_2 (S : fx_S) (x1 x2 : Int) (hS : fx_Sok S) (g1 : -2147483648 ≤ x1 ∧ x1 ≤ 2147483647) (g2 : -2147483648 ≤ x2 ∧ x2 ≤ 2147483647) (c1 : x2 < 80) (v2 : Int) (S1 : fx_S) (k1 : fx_Sok S1) (b2 : -2147483648 ≤ v2 ∧ v2 ≤ 2147483647) (p1 : s332 S x1 v2 S1) (c2 : v2 = 0) : s279 S x1 x2 x1 S1 := by
  obtain ⟨r1, f1, p1⟩ := p1
  refine ⟨r1, ?_, ?_⟩
  · intro p i hW
    clear c2 b2 c1
    exact (f1 p i (by omega))
  · skip
    intro n k hn hw8 hk h0 hx
    obtain ⟨b0, b1⟩ := p1 n hn
    cases k with
    | zero => exact absurd hk (by omega)
    | succ k =>
      unfold fx_few
      rw [if_pos (by omega)]
      exact ⟨rfl, b1⟩
theorem q280_0 (S : fx_S) (x1 : Int) (hS : fx_Sok S) (g1 : -2147483648 ≤ x1 ∧ x1 ≤ 2147483647) (c1 : 80 ≤ x1) (z : Int) (Z : fx_S) (kz : fx_Sok Z) (bz : z = 0) (pz : s333 S 1 z Z) : s280 S x1 z Z := by
  obtain ⟨rZ, fZ, pz⟩ := pz
  refine ⟨rZ, ?_, ?_⟩
  · intro p i hW
    clear c1
    exact (fZ p i (by omega))
  · skip
    intro n hn hw8 hw29 h0 ha
    have cz : ∀ (k : Nat) (q : Int), 0 ≤ q → q + k ≤ 80 → fx_cnt (S.1 83) k q = 0 := by
      intro k
      induction k with
      | zero => intro q _ _; rfl
      | succ k ih =>
        intro q q0 q1
        unfold fx_cnt
        rw [ih (q + 1) (by omega) (by omega), ha q q0 (by omega)]
        rfl
    rcases pz n hn hw8 ⟨by omega, by omega, by rw [cz n 0 (by omega) (by omega)]; exact hw29, fun i i0 i1 => .inl (ha i i0 (by omega))⟩ with ⟨b1, b2⟩ | ⟨b1, b2⟩
    · omega
    · have t := b2 80 (by omega)
      rw [hw29] at t
      rw [show (fun i : Int => if x1 ≤ i ∧ i < 80 then 0 else S.1 83 i) = S.1 83 from funext fun i => if_neg (by omega)]
      exact t
theorem q280_1 (S : fx_S) (x1 : Int) (hS : fx_Sok S) (g1 : -2147483648 ≤ x1 ∧ x1 ≤ 2147483647) (c1 : x1 < 80) (c2 : 0 ≤ x1) (c3 : x1 < 80) (S1 : fx_S) (d1 : S1 = (fx_up S.1 83 x1 0, S.2)) (v1 : Int) (e1 : v1 = fx_add x1 1) (z : Int) (Z : fx_S) (kz : fx_Sok Z) (bz : z = 0) (pz : s280 S1 v1 z Z) : s280 S x1 z Z := by
  obtain ⟨rZ, fZ, pz⟩ := pz
  refine ⟨(rZ).trans ((show S1.2 = S.2 by rw [d1])), ?_, ?_⟩
  · intro p i hW
    clear e1 c3 c2 c1
    exact ((fZ p i (by omega))).trans ((show S1.1 p i = S.1 p i by rw [d1]; exact if_neg (by omega)))
  · skip
    intro n hn hw8 hw29 h0 ha
    have h1 := e1
    first | rw [fx_add_eq (by omega) (by omega)] at h1 | skip
    have gF : ∀ p : Int, p ≠ 83 → S1.1 p = S.1 p := fun p h1 => funext fun i => by
      rw [d1]
      exact if_neg (fun q => h1 q.1)
    have q := pz n (by rw [gF 67 (by omega)]; exact hn) hw8 (by rw [gF 66 (by omega)]; exact hw29) (by omega) (fun i i0 i1 => by
      rw [d1]
      dsimp only [fx_up]
      by_cases hi : i = x1
      · rw [if_pos ⟨rfl, hi⟩]
      · rw [if_neg (fun q => hi q.2)]
        exact ha i i0 (by omega))
    rw [gF 67 (by omega)] at q
    rw [show (fun i : Int => if v1 ≤ i ∧ i < 80 then 0 else S1.1 83 i) = (fun i : Int => if x1 ≤ i ∧ i < 80 then 0 else S.1 83 i) from funext fun i => by
      rw [d1]
      dsimp only [fx_up]
      by_cases hi : i = x1
      · rw [if_neg (by omega), if_pos ⟨rfl, hi⟩, if_pos (by omega)]
      · by_cases h2 : x1 ≤ i ∧ i < 80
        · rw [if_pos (by omega), if_pos h2]
        · rw [if_neg (by omega), if_neg (fun q => hi q.2), if_neg h2]] at q
    exact q
theorem q281_0 (S : fx_S) (x1 : Int) (hS : fx_Sok S) (g1 : -2147483648 ≤ x1 ∧ x1 ≤ 2147483647) (c1 : 80 ≤ x1) (z : Int) (Z : fx_S) (kz : fx_Sok Z) (bz : z = 0) (pz : s334 S 1 z Z) : s281 S x1 z Z := by
  obtain ⟨rZ, fZ, pz⟩ := pz
  refine ⟨rZ, ?_, ?_⟩
  · intro p i hW
    clear c1
    exact (fZ p i (by omega))
  · skip
    intro n hn hw8 h0 h1 hw30 hg k j hk hj
    skip
    have e : (fun i : Int => if x1 ≤ i ∧ i < 80 then (fun q : Int => if (0 ≤ q ∧ q < S.1 67 2) ∧ S.1 67 (302 + 10 * q) ≤ S.1 67 0 ∧ (S.1 67 (303 + 10 * q) = -1 ∨ S.1 67 0 < S.1 67 (303 + 10 * q)) then 1 else 0) i else S.1 83 i) = S.1 83 := funext fun i => if_neg (by omega)
    cases j with
    | zero =>
      rcases pz n hn hw8 (by omega) with ⟨b1, b2⟩ | ⟨b1, b2⟩
      · omega
      · have t := b2 k (by omega)
        rw [hw30] at t
        unfold fx_cnt
        rw [e, Int.add_zero]
        exact t
    | succ j => exact absurd hj (by omega)
theorem q281_1 (S : fx_S) (x1 : Int) (hS : fx_Sok S) (g1 : -2147483648 ≤ x1 ∧ x1 ≤ 2147483647) (c1 : x1 < 80) (v1 : Int) (e1 : v1 = S.1 67 2) (b1 : -2147483648 ≤ v1 ∧ v1 ≤ 2147483647) (v2 : Int) (e2 : v2 = fx_sub v1 1) (v3 : Int) (S1 : fx_S) (k1 : fx_Sok S1) (b3 : -2147483648 ≤ v3 ∧ v3 ≤ 2147483647) (p1 : s113 S x1 0 v2 v3 S1) (c2 : v3 = 0) (c3 : 0 ≤ x1) (c4 : x1 < 80) (S2 : fx_S) (d2 : S2 = (fx_up S1.1 83 x1 0, S1.2)) (v4 : Int) (e4 : v4 = S2.1 66 29) (b4 : -2147483648 ≤ v4 ∧ v4 ≤ 2147483647) (c5 : 0 ≤ x1) (c6 : x1 < 80) (v5 : Int) (e5 : v5 = S2.1 83 x1) (b5 : 0 ≤ v5 ∧ v5 ≤ 1) (c7 : v5 = 0) (v6 : Int) (e6 : v6 = fx_add v4 0) (S3 : fx_S) (d3 : S3 = (fx_up S2.1 66 29 v6, S2.2)) (v7 : Int) (e7 : v7 = fx_add x1 1) (z : Int) (Z : fx_S) (kz : fx_Sok Z) (bz : z = 0) (pz : s281 S3 v7 z Z) : s281 S x1 z Z := by
  obtain ⟨rfl, p1⟩ := p1
  obtain ⟨rZ, fZ, pz⟩ := pz
  refine ⟨(rZ).trans (((show S3.2 = S2.2 by rw [d3])).trans ((show S2.2 = S.2 by rw [d2]))), ?_, ?_⟩
  · intro p i hW
    clear e7 e6 c7 b5 e5 c6 c5 b4 e4 c4 c3 c2 b3 e2 b1 e1 c1
    exact ((fZ p i (by omega))).trans (((show S3.1 p i = S2.1 p i by rw [d3]; exact if_neg (by omega))).trans ((show S2.1 p i = S.1 p i by rw [d2]; exact if_neg (by omega))))
  · skip
    intro n hn hw8 h0 h1 hw30 hg k j hk hj
    have h2 := e2
    first | rw [fx_sub_eq (by omega) (by omega)] at h2 | skip
    have m1 := fx_in01 p1
    have t4_2 : S2.1 66 29 = S.1 66 29 := by rw [d2]; first | exact if_neg (by omega) | rfl
    rw [t4_2] at e4
    have t5_2 : S2.1 83 x1 = 0 := by rw [d2]; first | exact if_pos ⟨rfl, by omega⟩ | rfl
    rw [t5_2] at e5
    have h6 := e6
    first | rw [fx_add_eq (by omega) (by omega)] at h6 | skip
    have h7 := e7
    first | rw [fx_add_eq (by omega) (by omega)] at h7 | skip
    first | have m1 := fx_in01 p1 | skip
    have hT : ¬ ((0 ≤ x1 ∧ x1 < S.1 67 2) ∧ S.1 67 (302 + 10 * x1) ≤ S.1 67 0 ∧ (S.1 67 (303 + 10 * x1) = -1 ∨ S.1 67 0 < S.1 67 (303 + 10 * x1))) := fun q => by omega
    have gf : ∀ p i : Int, p ≠ 83 → p ≠ 66 → S3.1 p i = S.1 p i := fun p i h1 h2 => by
      subst d3; subst d2
      dsimp only [fx_up]
      repeat (first | rw [if_pos (by omega)] | rw [if_neg (by omega)])
    have g67 : S3.1 67 = S.1 67 := funext fun i => gf 67 i (by omega) (by omega)
    have g84 : S3.1 84 = S.1 84 := funext fun i => gf 84 i (by omega) (by omega)
    have g30 : S3.1 66 30 = S.1 66 30 := by
      subst d3; subst d2
      rfl
    have g29 : S3.1 66 29 = S.1 66 29 + 0 := by
      have q : S3.1 66 29 = v6 := by
        subst d3; subst d2
        rfl
      omega
    have g83 : ∀ i, S3.1 83 i = if i = x1 then 0 else S.1 83 i := fun i => by
      subst d3; subst d2
      dsimp only [fx_up]
      by_cases hi : i = x1
      all_goals repeat (first | rw [if_pos (by omega)] | rw [if_neg (by omega)])
    cases j with
    | zero => exact absurd hj (by omega)
    | succ j =>
      have q := pz n (by rw [g67]; exact hn) hw8 (by omega) (by omega) (by rw [g30]; exact hw30) (by rw [g29]; omega) k j hk (by omega)
      rw [g67, g84, g29] at q
      have ea : (fun i : Int => if v7 ≤ i ∧ i < 80 then (fun q : Int => if (0 ≤ q ∧ q < S.1 67 2) ∧ S.1 67 (302 + 10 * q) ≤ S.1 67 0 ∧ (S.1 67 (303 + 10 * q) = -1 ∨ S.1 67 0 < S.1 67 (303 + 10 * q)) then 1 else 0) i else S3.1 83 i) = (fun i : Int => if x1 ≤ i ∧ i < 80 then (fun q : Int => if (0 ≤ q ∧ q < S.1 67 2) ∧ S.1 67 (302 + 10 * q) ≤ S.1 67 0 ∧ (S.1 67 (303 + 10 * q) = -1 ∨ S.1 67 0 < S.1 67 (303 + 10 * q)) then 1 else 0) i else S.1 83 i) := funext fun i => by
        dsimp only
        by_cases hi : i = x1
        · subst hi
          rw [if_neg (by omega), g83, if_pos rfl, if_pos (by omega), if_neg hT]
        · rw [g83, if_neg hi]
          by_cases h2 : x1 ≤ i ∧ i < 80
          · rw [if_pos h2, if_pos (by omega)]
          · rw [if_neg h2, if_neg (by omega)]
      rw [ea] at q
      unfold fx_cnt
      dsimp only
      rw [if_neg hT, show x1 + 1 = v7 by omega, ← Int.add_assoc]
      exact q
theorem q281_2 (S : fx_S) (x1 : Int) (hS : fx_Sok S) (g1 : -2147483648 ≤ x1 ∧ x1 ≤ 2147483647) (c1 : x1 < 80) (v1 : Int) (e1 : v1 = S.1 67 2) (b1 : -2147483648 ≤ v1 ∧ v1 ≤ 2147483647) (v2 : Int) (e2 : v2 = fx_sub v1 1) (v3 : Int) (S1 : fx_S) (k1 : fx_Sok S1) (b3 : -2147483648 ≤ v3 ∧ v3 ≤ 2147483647) (p1 : s113 S x1 0 v2 v3 S1) (c2 : v3 = 0) (c3 : 0 ≤ x1) (c4 : x1 < 80) (S2 : fx_S) (d2 : S2 = (fx_up S1.1 83 x1 0, S1.2)) (v4 : Int) (e4 : v4 = S2.1 66 29) (b4 : -2147483648 ≤ v4 ∧ v4 ≤ 2147483647) (c5 : 0 ≤ x1) (c6 : x1 < 80) (v5 : Int) (e5 : v5 = S2.1 83 x1) (b5 : 0 ≤ v5 ∧ v5 ≤ 1) (c7 : v5 ≠ 0) (v6 : Int) (e6 : v6 = fx_add v4 1) (S3 : fx_S) (d3 : S3 = (fx_up S2.1 66 29 v6, S2.2)) (v7 : Int) (e7 : v7 = fx_add x1 1) (z : Int) (Z : fx_S) (kz : fx_Sok Z) (bz : z = 0) (pz : s281 S3 v7 z Z) : s281 S x1 z Z := by
  obtain ⟨rfl, p1⟩ := p1
  obtain ⟨rZ, fZ, pz⟩ := pz
  refine ⟨(rZ).trans (((show S3.2 = S2.2 by rw [d3])).trans ((show S2.2 = S.2 by rw [d2]))), ?_, ?_⟩
  · intro p i hW
    clear e7 e6 c7 b5 e5 c6 c5 b4 e4 c4 c3 c2 b3 e2 b1 e1 c1
    exact ((fZ p i (by omega))).trans (((show S3.1 p i = S2.1 p i by rw [d3]; exact if_neg (by omega))).trans ((show S2.1 p i = S.1 p i by rw [d2]; exact if_neg (by omega))))
  · skip
    intro n hn hw8 h0 h1 hw30 hg k j hk hj
    have h2 := e2
    first | rw [fx_sub_eq (by omega) (by omega)] at h2 | skip
    have m1 := fx_in01 p1
    have t4_2 : S2.1 66 29 = S.1 66 29 := by rw [d2]; first | exact if_neg (by omega) | rfl
    rw [t4_2] at e4
    have t5_2 : S2.1 83 x1 = 0 := by rw [d2]; first | exact if_pos ⟨rfl, by omega⟩ | rfl
    rw [t5_2] at e5
    have h6 := e6
    first | rw [fx_add_eq (by omega) (by omega)] at h6 | skip
    have h7 := e7
    first | rw [fx_add_eq (by omega) (by omega)] at h7 | skip
    exfalso
    omega
theorem q281_3 (S : fx_S) (x1 : Int) (hS : fx_Sok S) (g1 : -2147483648 ≤ x1 ∧ x1 ≤ 2147483647) (c1 : x1 < 80) (v1 : Int) (e1 : v1 = S.1 67 2) (b1 : -2147483648 ≤ v1 ∧ v1 ≤ 2147483647) (v2 : Int) (e2 : v2 = fx_sub v1 1) (v3 : Int) (S1 : fx_S) (k1 : fx_Sok S1) (b3 : -2147483648 ≤ v3 ∧ v3 ≤ 2147483647) (p1 : s113 S x1 0 v2 v3 S1) (c2 : v3 ≠ 0) (v4 : Int) (e4 : v4 = S1.1 67 0) (b4 : -2147483648 ≤ v4 ∧ v4 ≤ 2147483647) (v5 : Int) (S2 : fx_S) (k2 : fx_Sok S2) (b5 : -2147483648 ≤ v5 ∧ v5 ≤ 2147483647) (p2 : s156 S1 x1 v4 v5 S2) (c3 : v5 = 0) (c4 : 0 ≤ x1) (c5 : x1 < 80) (S3 : fx_S) (d3 : S3 = (fx_up S2.1 83 x1 0, S2.2)) (v6 : Int) (e6 : v6 = S3.1 66 29) (b6 : -2147483648 ≤ v6 ∧ v6 ≤ 2147483647) (c6 : 0 ≤ x1) (c7 : x1 < 80) (v7 : Int) (e7 : v7 = S3.1 83 x1) (b7 : 0 ≤ v7 ∧ v7 ≤ 1) (c8 : v7 = 0) (v8 : Int) (e8 : v8 = fx_add v6 0) (S4 : fx_S) (d4 : S4 = (fx_up S3.1 66 29 v8, S3.2)) (v9 : Int) (e9 : v9 = fx_add x1 1) (z : Int) (Z : fx_S) (kz : fx_Sok Z) (bz : z = 0) (pz : s281 S4 v9 z Z) : s281 S x1 z Z := by
  obtain ⟨rfl, p1⟩ := p1
  obtain ⟨rfl, p2⟩ := p2
  obtain ⟨rZ, fZ, pz⟩ := pz
  refine ⟨(rZ).trans (((show S4.2 = S3.2 by rw [d4])).trans ((show S3.2 = S.2 by rw [d3]))), ?_, ?_⟩
  · intro p i hW
    clear e9 e8 c8 b7 e7 c7 c6 b6 e6 c5 c4 c3 b5 b4 e4 c2 b3 e2 b1 e1 c1
    exact ((fZ p i (by omega))).trans (((show S4.1 p i = S3.1 p i by rw [d4]; exact if_neg (by omega))).trans ((show S3.1 p i = S.1 p i by rw [d3]; exact if_neg (by omega))))
  · skip
    intro n hn hw8 h0 h1 hw30 hg k j hk hj
    have h2 := e2
    first | rw [fx_sub_eq (by omega) (by omega)] at h2 | skip
    have m1 := fx_in01 p1
    have t6_3 : S3.1 66 29 = S.1 66 29 := by rw [d3]; first | exact if_neg (by omega) | rfl
    rw [t6_3] at e6
    have t7_3 : S3.1 83 x1 = 0 := by rw [d3]; first | exact if_pos ⟨rfl, by omega⟩ | rfl
    rw [t7_3] at e7
    have h8 := e8
    first | rw [fx_add_eq (by omega) (by omega)] at h8 | skip
    have h9 := e9
    first | rw [fx_add_eq (by omega) (by omega)] at h9 | skip
    first | have m1 := fx_in01 p1 | skip
    have t := p2 (by omega) (by omega)
    rw [e4] at t
    have hT : ¬ ((0 ≤ x1 ∧ x1 < S.1 67 2) ∧ S.1 67 (302 + 10 * x1) ≤ S.1 67 0 ∧ (S.1 67 (303 + 10 * x1) = -1 ∨ S.1 67 0 < S.1 67 (303 + 10 * x1))) := fun q => by rw [if_pos q.2] at t; omega
    have gf : ∀ p i : Int, p ≠ 83 → p ≠ 66 → S4.1 p i = S.1 p i := fun p i h1 h2 => by
      subst d4; subst d3
      dsimp only [fx_up]
      repeat (first | rw [if_pos (by omega)] | rw [if_neg (by omega)])
    have g67 : S4.1 67 = S.1 67 := funext fun i => gf 67 i (by omega) (by omega)
    have g84 : S4.1 84 = S.1 84 := funext fun i => gf 84 i (by omega) (by omega)
    have g30 : S4.1 66 30 = S.1 66 30 := by
      subst d4; subst d3
      rfl
    have g29 : S4.1 66 29 = S.1 66 29 + 0 := by
      have q : S4.1 66 29 = v8 := by
        subst d4; subst d3
        rfl
      omega
    have g83 : ∀ i, S4.1 83 i = if i = x1 then 0 else S.1 83 i := fun i => by
      subst d4; subst d3
      dsimp only [fx_up]
      by_cases hi : i = x1
      all_goals repeat (first | rw [if_pos (by omega)] | rw [if_neg (by omega)])
    cases j with
    | zero => exact absurd hj (by omega)
    | succ j =>
      have q := pz n (by rw [g67]; exact hn) hw8 (by omega) (by omega) (by rw [g30]; exact hw30) (by rw [g29]; omega) k j hk (by omega)
      rw [g67, g84, g29] at q
      have ea : (fun i : Int => if v9 ≤ i ∧ i < 80 then (fun q : Int => if (0 ≤ q ∧ q < S.1 67 2) ∧ S.1 67 (302 + 10 * q) ≤ S.1 67 0 ∧ (S.1 67 (303 + 10 * q) = -1 ∨ S.1 67 0 < S.1 67 (303 + 10 * q)) then 1 else 0) i else S4.1 83 i) = (fun i : Int => if x1 ≤ i ∧ i < 80 then (fun q : Int => if (0 ≤ q ∧ q < S.1 67 2) ∧ S.1 67 (302 + 10 * q) ≤ S.1 67 0 ∧ (S.1 67 (303 + 10 * q) = -1 ∨ S.1 67 0 < S.1 67 (303 + 10 * q)) then 1 else 0) i else S.1 83 i) := funext fun i => by
        dsimp only
        by_cases hi : i = x1
        · subst hi
          rw [if_neg (by omega), g83, if_pos rfl, if_pos (by omega), if_neg hT]
        · rw [g83, if_neg hi]
          by_cases h2 : x1 ≤ i ∧ i < 80
          · rw [if_pos h2, if_pos (by omega)]
          · rw [if_neg h2, if_neg (by omega)]
      rw [ea] at q
      unfold fx_cnt
      dsimp only
      rw [if_neg hT, show x1 + 1 = v9 by omega, ← Int.add_assoc]
      exact q
theorem q281_4 (S : fx_S) (x1 : Int) (hS : fx_Sok S) (g1 : -2147483648 ≤ x1 ∧ x1 ≤ 2147483647) (c1 : x1 < 80) (v1 : Int) (e1 : v1 = S.1 67 2) (b1 : -2147483648 ≤ v1 ∧ v1 ≤ 2147483647) (v2 : Int) (e2 : v2 = fx_sub v1 1) (v3 : Int) (S1 : fx_S) (k1 : fx_Sok S1) (b3 : -2147483648 ≤ v3 ∧ v3 ≤ 2147483647) (p1 : s113 S x1 0 v2 v3 S1) (c2 : v3 ≠ 0) (v4 : Int) (e4 : v4 = S1.1 67 0) (b4 : -2147483648 ≤ v4 ∧ v4 ≤ 2147483647) (v5 : Int) (S2 : fx_S) (k2 : fx_Sok S2) (b5 : -2147483648 ≤ v5 ∧ v5 ≤ 2147483647) (p2 : s156 S1 x1 v4 v5 S2) (c3 : v5 = 0) (c4 : 0 ≤ x1) (c5 : x1 < 80) (S3 : fx_S) (d3 : S3 = (fx_up S2.1 83 x1 0, S2.2)) (v6 : Int) (e6 : v6 = S3.1 66 29) (b6 : -2147483648 ≤ v6 ∧ v6 ≤ 2147483647) (c6 : 0 ≤ x1) (c7 : x1 < 80) (v7 : Int) (e7 : v7 = S3.1 83 x1) (b7 : 0 ≤ v7 ∧ v7 ≤ 1) (c8 : v7 ≠ 0) (v8 : Int) (e8 : v8 = fx_add v6 1) (S4 : fx_S) (d4 : S4 = (fx_up S3.1 66 29 v8, S3.2)) (v9 : Int) (e9 : v9 = fx_add x1 1) (z : Int) (Z : fx_S) (kz : fx_Sok Z) (bz : z = 0) (pz : s281 S4 v9 z Z) : s281 S x1 z Z := by
  obtain ⟨rfl, p1⟩ := p1
  obtain ⟨rfl, p2⟩ := p2
  obtain ⟨rZ, fZ, pz⟩ := pz
  refine ⟨(rZ).trans (((show S4.2 = S3.2 by rw [d4])).trans ((show S3.2 = S.2 by rw [d3]))), ?_, ?_⟩
  · intro p i hW
    clear e9 e8 c8 b7 e7 c7 c6 b6 e6 c5 c4 c3 b5 b4 e4 c2 b3 e2 b1 e1 c1
    exact ((fZ p i (by omega))).trans (((show S4.1 p i = S3.1 p i by rw [d4]; exact if_neg (by omega))).trans ((show S3.1 p i = S.1 p i by rw [d3]; exact if_neg (by omega))))
  · skip
    intro n hn hw8 h0 h1 hw30 hg k j hk hj
    have h2 := e2
    first | rw [fx_sub_eq (by omega) (by omega)] at h2 | skip
    have m1 := fx_in01 p1
    have t6_3 : S3.1 66 29 = S.1 66 29 := by rw [d3]; first | exact if_neg (by omega) | rfl
    rw [t6_3] at e6
    have t7_3 : S3.1 83 x1 = 0 := by rw [d3]; first | exact if_pos ⟨rfl, by omega⟩ | rfl
    rw [t7_3] at e7
    have h8 := e8
    first | rw [fx_add_eq (by omega) (by omega)] at h8 | skip
    have h9 := e9
    first | rw [fx_add_eq (by omega) (by omega)] at h9 | skip
    exfalso
    omega
theorem q281_5 (S : fx_S) (x1 : Int) (hS : fx_Sok S) (g1 : -2147483648 ≤ x1 ∧ x1 ≤ 2147483647) (c1 : x1 < 80) (v1 : Int) (e1 : v1 = S.1 67 2) (b1 : -2147483648 ≤ v1 ∧ v1 ≤ 2147483647) (v2 : Int) (e2 : v2 = fx_sub v1 1) (v3 : Int) (S1 : fx_S) (k1 : fx_Sok S1) (b3 : -2147483648 ≤ v3 ∧ v3 ≤ 2147483647) (p1 : s113 S x1 0 v2 v3 S1) (c2 : v3 ≠ 0) (v4 : Int) (e4 : v4 = S1.1 67 0) (b4 : -2147483648 ≤ v4 ∧ v4 ≤ 2147483647) (v5 : Int) (S2 : fx_S) (k2 : fx_Sok S2) (b5 : -2147483648 ≤ v5 ∧ v5 ≤ 2147483647) (p2 : s156 S1 x1 v4 v5 S2) (c3 : v5 ≠ 0) (c4 : 0 ≤ x1) (c5 : x1 < 80) (S3 : fx_S) (d3 : S3 = (fx_up S2.1 83 x1 1, S2.2)) (v6 : Int) (e6 : v6 = S3.1 66 29) (b6 : -2147483648 ≤ v6 ∧ v6 ≤ 2147483647) (c6 : 0 ≤ x1) (c7 : x1 < 80) (v7 : Int) (e7 : v7 = S3.1 83 x1) (b7 : 0 ≤ v7 ∧ v7 ≤ 1) (c8 : v7 = 0) (v8 : Int) (e8 : v8 = fx_add v6 0) (S4 : fx_S) (d4 : S4 = (fx_up S3.1 66 29 v8, S3.2)) (v9 : Int) (e9 : v9 = fx_add x1 1) (z : Int) (Z : fx_S) (kz : fx_Sok Z) (bz : z = 0) (pz : s281 S4 v9 z Z) : s281 S x1 z Z := by
  obtain ⟨rfl, p1⟩ := p1
  obtain ⟨rfl, p2⟩ := p2
  obtain ⟨rZ, fZ, pz⟩ := pz
  refine ⟨(rZ).trans (((show S4.2 = S3.2 by rw [d4])).trans ((show S3.2 = S.2 by rw [d3]))), ?_, ?_⟩
  · intro p i hW
    clear e9 e8 c8 b7 e7 c7 c6 b6 e6 c5 c4 c3 b5 b4 e4 c2 b3 e2 b1 e1 c1
    exact ((fZ p i (by omega))).trans (((show S4.1 p i = S3.1 p i by rw [d4]; exact if_neg (by omega))).trans ((show S3.1 p i = S.1 p i by rw [d3]; exact if_neg (by omega))))
  · skip
    intro n hn hw8 h0 h1 hw30 hg k j hk hj
    have h2 := e2
    first | rw [fx_sub_eq (by omega) (by omega)] at h2 | skip
    have m1 := fx_in01 p1
    have t6_3 : S3.1 66 29 = S.1 66 29 := by rw [d3]; first | exact if_neg (by omega) | rfl
    rw [t6_3] at e6
    have t7_3 : S3.1 83 x1 = 1 := by rw [d3]; first | exact if_pos ⟨rfl, by omega⟩ | rfl
    rw [t7_3] at e7
    have h8 := e8
    first | rw [fx_add_eq (by omega) (by omega)] at h8 | skip
    have h9 := e9
    first | rw [fx_add_eq (by omega) (by omega)] at h9 | skip
    exfalso
    omega
theorem q281_6 (S : fx_S) (x1 : Int) (hS : fx_Sok S) (g1 : -2147483648 ≤ x1 ∧ x1 ≤ 2147483647) (c1 : x1 < 80) (v1 : Int) (e1 : v1 = S.1 67 2) (b1 : -2147483648 ≤ v1 ∧ v1 ≤ 2147483647) (v2 : Int) (e2 : v2 = fx_sub v1 1) (v3 : Int) (S1 : fx_S) (k1 : fx_Sok S1) (b3 : -2147483648 ≤ v3 ∧ v3 ≤ 2147483647) (p1 : s113 S x1 0 v2 v3 S1) (c2 : v3 ≠ 0) (v4 : Int) (e4 : v4 = S1.1 67 0) (b4 : -2147483648 ≤ v4 ∧ v4 ≤ 2147483647) (v5 : Int) (S2 : fx_S) (k2 : fx_Sok S2) (b5 : -2147483648 ≤ v5 ∧ v5 ≤ 2147483647) (p2 : s156 S1 x1 v4 v5 S2) (c3 : v5 ≠ 0) (c4 : 0 ≤ x1) (c5 : x1 < 80) (S3 : fx_S) (d3 : S3 = (fx_up S2.1 83 x1 1, S2.2)) (v6 : Int) (e6 : v6 = S3.1 66 29) (b6 : -2147483648 ≤ v6 ∧ v6 ≤ 2147483647) (c6 : 0 ≤ x1) (c7 : x1 < 80) (v7 : Int) (e7 : v7 = S3.1 83 x1) (b7 : 0 ≤ v7 ∧ v7 ≤ 1) (c8 : v7 ≠ 0) (v8 : Int) (e8 : v8 = fx_add v6 1) (S4 : fx_S) (d4 : S4 = (fx_up S3.1 66 29 v8, S3.2)) (v9 : Int) (e9 : v9 = fx_add x1 1) (z : Int) (Z : fx_S) (kz : fx_Sok Z) (bz : z = 0) (pz : s281 S4 v9 z Z) : s281 S x1 z Z := by
  obtain ⟨rfl, p1⟩ := p1
  obtain ⟨rfl, p2⟩ := p2
  obtain ⟨rZ, fZ, pz⟩ := pz
  refine ⟨(rZ).trans (((show S4.2 = S3.2 by rw [d4])).trans ((show S3.2 = S.2 by rw [d3]))), ?_, ?_⟩
  · intro p i hW
    clear e9 e8 c8 b7 e7 c7 c6 b6 e6 c5 c4 c3 b5 b4 e4 c2 b3 e2 b1 e1 c1
    exact ((fZ p i (by omega))).trans (((show S4.1 p i = S3.1 p i by rw [d4]; exact if_neg (by omega))).trans ((show S3.1 p i = S.1 p i by rw [d3]; exact if_neg (by omega))))
  · skip
    intro n hn hw8 h0 h1 hw30 hg k j hk hj
    have h2 := e2
    first | rw [fx_sub_eq (by omega) (by omega)] at h2 | skip
    have m1 := fx_in01 p1
    have t6_3 : S3.1 66 29 = S.1 66 29 := by rw [d3]; first | exact if_neg (by omega) | rfl
    rw [t6_3] at e6
    have t7_3 : S3.1 83 x1 = 1 := by rw [d3]; first | exact if_pos ⟨rfl, by omega⟩ | rfl
    rw [t7_3] at e7
    have h8 := e8
    first | rw [fx_add_eq (by omega) (by omega)] at h8 | skip
    have h9 := e9
    first | rw [fx_add_eq (by omega) (by omega)] at h9 | skip
    first | have m1 := fx_in01 p1 | skip
    have t := p2 (by omega) (by omega)
    rw [e4] at t
    have hT : (0 ≤ x1 ∧ x1 < S.1 67 2) ∧ S.1 67 (302 + 10 * x1) ≤ S.1 67 0 ∧ (S.1 67 (303 + 10 * x1) = -1 ∨ S.1 67 0 < S.1 67 (303 + 10 * x1)) := by
      by_cases q : S.1 67 (302 + 10 * x1) ≤ S.1 67 0 ∧ (S.1 67 (303 + 10 * x1) = -1 ∨ S.1 67 0 < S.1 67 (303 + 10 * x1))
      · exact ⟨by omega, q⟩
      · rw [if_neg q] at t; omega
    have gf : ∀ p i : Int, p ≠ 83 → p ≠ 66 → S4.1 p i = S.1 p i := fun p i h1 h2 => by
      subst d4; subst d3
      dsimp only [fx_up]
      repeat (first | rw [if_pos (by omega)] | rw [if_neg (by omega)])
    have g67 : S4.1 67 = S.1 67 := funext fun i => gf 67 i (by omega) (by omega)
    have g84 : S4.1 84 = S.1 84 := funext fun i => gf 84 i (by omega) (by omega)
    have g30 : S4.1 66 30 = S.1 66 30 := by
      subst d4; subst d3
      rfl
    have g29 : S4.1 66 29 = S.1 66 29 + 1 := by
      have q : S4.1 66 29 = v8 := by
        subst d4; subst d3
        rfl
      omega
    have g83 : ∀ i, S4.1 83 i = if i = x1 then 1 else S.1 83 i := fun i => by
      subst d4; subst d3
      dsimp only [fx_up]
      by_cases hi : i = x1
      all_goals repeat (first | rw [if_pos (by omega)] | rw [if_neg (by omega)])
    cases j with
    | zero => exact absurd hj (by omega)
    | succ j =>
      have q := pz n (by rw [g67]; exact hn) hw8 (by omega) (by omega) (by rw [g30]; exact hw30) (by rw [g29]; omega) k j hk (by omega)
      rw [g67, g84, g29] at q
      have ea : (fun i : Int => if v9 ≤ i ∧ i < 80 then (fun q : Int => if (0 ≤ q ∧ q < S.1 67 2) ∧ S.1 67 (302 + 10 * q) ≤ S.1 67 0 ∧ (S.1 67 (303 + 10 * q) = -1 ∨ S.1 67 0 < S.1 67 (303 + 10 * q)) then 1 else 0) i else S4.1 83 i) = (fun i : Int => if x1 ≤ i ∧ i < 80 then (fun q : Int => if (0 ≤ q ∧ q < S.1 67 2) ∧ S.1 67 (302 + 10 * q) ≤ S.1 67 0 ∧ (S.1 67 (303 + 10 * q) = -1 ∨ S.1 67 0 < S.1 67 (303 + 10 * q)) then 1 else 0) i else S.1 83 i) := funext fun i => by
        dsimp only
        by_cases hi : i = x1
        · subst hi
          rw [if_neg (by omega), g83, if_pos rfl, if_pos (by omega), if_pos hT]
        · rw [g83, if_neg hi]
          by_cases h2 : x1 ≤ i ∧ i < 80
          · rw [if_pos h2, if_pos (by omega)]
          · rw [if_neg h2, if_neg (by omega)]
      rw [ea] at q
      unfold fx_cnt
      dsimp only
      rw [if_pos hT, show x1 + 1 = v9 by omega, ← Int.add_assoc]
      exact q
theorem q332_0 (S : fx_S) (x1 : Int) (hS : fx_Sok S) (g1 : -2147483648 ≤ x1 ∧ x1 ≤ 2147483647) (z : Int) (Z : fx_S) (kz : fx_Sok Z) (bz : -2147483648 ≤ z ∧ z ≤ 2147483647) (pz : s370 S x1 0 0 z Z) : s332 S x1 z Z := by
  obtain ⟨rZ, fZ, pz⟩ := pz
  refine ⟨rZ, ?_, ?_⟩
  · intro p i hW
    exact (fZ p i (by omega))
  · skip
    intro k hk
    obtain ⟨b0, b1⟩ := pz k (by omega) (by omega) (by omega)
    exact ⟨by omega, b1⟩
theorem q333_0 (S : fx_S) (x1 : Int) (hS : fx_Sok S) (g1 : -2147483648 ≤ x1 ∧ x1 ≤ 2147483647) (c1 : x1 = 0) : s333 S x1 0 S := by
  refine ⟨rfl, ?_, ?_⟩
  · intro p i hW
    clear c1
    exact rfl
  · skip
    intro n hn hw8 hg
    exact .inl ⟨c1, rfl⟩
theorem q333_1 (S : fx_S) (x1 : Int) (hS : fx_Sok S) (g1 : -2147483648 ≤ x1 ∧ x1 ≤ 2147483647) (c1 : x1 ≠ 0) (v1 : Int) (e1 : v1 = S.1 66 29) (b1 : -2147483648 ≤ v1 ∧ v1 ≤ 2147483647) (z : Int) (Z : fx_S) (kz : fx_Sok Z) (bz : z = 0) (pz : s371 S v1 0 z Z) : s333 S x1 z Z := by
  obtain ⟨rZ, fZ, pz⟩ := pz
  refine ⟨rZ, ?_, ?_⟩
  · intro p i hW
    clear b1 e1 c1
    exact (fZ p i (by omega))
  · skip
    intro n hn hw8 hg
    refine .inr ⟨c1, fun k hk => ?_⟩
    have q := pz n n hn hw8 (by omega) (by omega) ⟨hg, by omega, by omega⟩
    rw [e1] at q
    have cn := fx_wi_cn (o := (fun q : Int => S.1 67 (304 + 10 * q))) (T := (fun q : Int => if (0 ≤ q ∧ q < S.1 67 2) ∧ S.1 67 (302 + 10 * q) ≤ S.1 67 0 ∧ (S.1 67 (303 + 10 * q) = -1 ∨ S.1 67 0 < S.1 67 (303 + 10 * q)) then 1 else 0)) (g := S.1 66 29) (n := n) n 0 (S.1 83) (by omega) (by omega) hg.2.2.2
    have rg := fx_wi_rng (o := (fun q : Int => S.1 67 (304 + 10 * q))) (T := (fun q : Int => if (0 ≤ q ∧ q < S.1 67 2) ∧ S.1 67 (302 + 10 * q) ≤ S.1 67 0 ∧ (S.1 67 (303 + 10 * q) = -1 ∨ S.1 67 0 < S.1 67 (303 + 10 * q)) then 1 else 0)) (g := S.1 66 29) n 0 (S.1 83)
    cases k with
    | zero =>
      have full := (fx_cn_full n 0 (fun i i0 i1 => hg.2.2.2 i i0 (by omega))).2 (by have := (fx_cn_full n 0 (fun i i0 i1 => hg.2.2.2 i i0 (by omega))).1; omega)
      have e := fx_wi_full (o := (fun q : Int => S.1 67 (304 + 10 * q))) (T := (fun q : Int => if (0 ≤ q ∧ q < S.1 67 2) ∧ S.1 67 (302 + 10 * q) ≤ S.1 67 0 ∧ (S.1 67 (303 + 10 * q) = -1 ∨ S.1 67 0 < S.1 67 (303 + 10 * q)) then 1 else 0)) (g := S.1 66 29) n 0 (S.1 83) (fun i i0 i1 => full i i0 i1)
      unfold fx_few
      rcases q with ⟨b1, b2, b3⟩ | ⟨b1, b2⟩
      · rw [e] at b2 b3
        exact ⟨by rw [b2]; dsimp only; omega, b3⟩
      · rw [e] at b1
        dsimp only at b1
        omega
    | succ k =>
      unfold fx_few
      rcases q with ⟨b1, b2, b3⟩ | ⟨b1, b2⟩
      · rw [if_pos (by omega)]
        exact ⟨by rw [b2]; dsimp only; omega, b3⟩
      · rw [if_neg (by omega)]
        exact b2 k (by omega)
theorem q370_0 (S : fx_S) (x1 x2 x3 : Int) (hS : fx_Sok S) (g1 : -2147483648 ≤ x1 ∧ x1 ≤ 2147483647) (g2 : -2147483648 ≤ x2 ∧ x2 ≤ 2147483647) (g3 : -2147483648 ≤ x3 ∧ x3 ≤ 2147483647) (v3 : Int) (e3 : v3 = S.1 13 0) (b3 : -2147483648 ≤ v3 ∧ v3 ≤ 2147483647) (c1 : v3 ≤ x3) : s370 S x1 x2 x3 x2 S := by
  refine ⟨rfl, ?_, ?_⟩
  · intro p i hW
    clear c1 b3 e3
    exact rfl
  · skip
    intro k hk h0 hx
    skip
    cases k with
    | zero =>
      unfold fx_wi
      exact ⟨by omega, fun i => rfl⟩
    | succ k => exact absurd hk (by omega)
theorem q370_1 (S : fx_S) (x1 x2 x3 : Int) (hS : fx_Sok S) (g1 : -2147483648 ≤ x1 ∧ x1 ≤ 2147483647) (g2 : -2147483648 ≤ x2 ∧ x2 ≤ 2147483647) (g3 : -2147483648 ≤ x3 ∧ x3 ≤ 2147483647) (v3 : Int) (e3 : v3 = S.1 13 0) (b3 : -2147483648 ≤ v3 ∧ v3 ≤ 2147483647) (c1 : x3 < v3) (c2 : 0 ≤ x3) (c3 : x3 < 80) (v4 : Int) (e4 : v4 = S.1 18 x3) (b4 : -2147483648 ≤ v4 ∧ v4 ≤ 2147483647) (c4 : x1 < v4) (c5 : 0 ≤ x3) (c6 : x3 < 80) (v5 : Int) (e5 : v5 = S.1 64 x3) (b5 : -128 ≤ v5 ∧ v5 ≤ 127) (c7 : v5 ≠ 0) (v6 : Int) (e6 : v6 = fx_add x3 1) (z : Int) (Z : fx_S) (kz : fx_Sok Z) (bz : -2147483648 ≤ z ∧ z ≤ 2147483647) (pz : s370 S x1 x2 v6 z Z) : s370 S x1 x2 x3 z Z := by
  obtain ⟨rZ, fZ, pz⟩ := pz
  refine ⟨rZ, ?_, ?_⟩
  · intro p i hW
    clear e6 c7 b5 e5 c6 c5 c4 b4 e4 c3 c2 c1 b3 e3
    exact (fZ p i (by omega))
  · skip
    intro k hk h0 hx
    have h6 := e6
    first | rw [fx_add_eq (by omega) (by omega)] at h6 | skip
    cases k with
    | zero => exact absurd hk (by omega)
    | succ k =>
      have q := pz k (by omega) (by omega) (by omega)
      unfold fx_wi
      rw [if_neg (fun q => by omega), show x3 + 1 = v6 by omega]
      exact q
theorem q370_2 (S : fx_S) (x1 x2 x3 : Int) (hS : fx_Sok S) (g1 : -2147483648 ≤ x1 ∧ x1 ≤ 2147483647) (g2 : -2147483648 ≤ x2 ∧ x2 ≤ 2147483647) (g3 : -2147483648 ≤ x3 ∧ x3 ≤ 2147483647) (v3 : Int) (e3 : v3 = S.1 13 0) (b3 : -2147483648 ≤ v3 ∧ v3 ≤ 2147483647) (c1 : x3 < v3) (c2 : 0 ≤ x3) (c3 : x3 < 80) (v4 : Int) (e4 : v4 = S.1 18 x3) (b4 : -2147483648 ≤ v4 ∧ v4 ≤ 2147483647) (c4 : x1 < v4) (c5 : 0 ≤ x3) (c6 : x3 < 80) (v5 : Int) (e5 : v5 = S.1 64 x3) (b5 : -128 ≤ v5 ∧ v5 ≤ 127) (c7 : v5 = 0) (v6 : Int) (e6 : v6 = fx_add x3 1) (z : Int) (Z : fx_S) (kz : fx_Sok Z) (bz : -2147483648 ≤ z ∧ z ≤ 2147483647) (pz : s370 S x1 x2 v6 z Z) : s370 S x1 x2 x3 z Z := by
  obtain ⟨rZ, fZ, pz⟩ := pz
  refine ⟨rZ, ?_, ?_⟩
  · intro p i hW
    clear e6 c7 b5 e5 c6 c5 c4 b4 e4 c3 c2 c1 b3 e3
    exact (fZ p i (by omega))
  · skip
    intro k hk h0 hx
    have h6 := e6
    first | rw [fx_add_eq (by omega) (by omega)] at h6 | skip
    cases k with
    | zero => exact absurd hk (by omega)
    | succ k =>
      have q := pz k (by omega) (by omega) (by omega)
      unfold fx_wi
      rw [if_neg (fun q => by omega), show x3 + 1 = v6 by omega]
      exact q
theorem q370_3 (S : fx_S) (x1 x2 x3 : Int) (hS : fx_Sok S) (g1 : -2147483648 ≤ x1 ∧ x1 ≤ 2147483647) (g2 : -2147483648 ≤ x2 ∧ x2 ≤ 2147483647) (g3 : -2147483648 ≤ x3 ∧ x3 ≤ 2147483647) (v3 : Int) (e3 : v3 = S.1 13 0) (b3 : -2147483648 ≤ v3 ∧ v3 ≤ 2147483647) (c1 : x3 < v3) (c2 : 0 ≤ x3) (c3 : x3 < 80) (v4 : Int) (e4 : v4 = S.1 18 x3) (b4 : -2147483648 ≤ v4 ∧ v4 ≤ 2147483647) (c4 : v4 ≤ x1) (c5 : 0 ≤ x3) (c6 : x3 < 80) (v5 : Int) (e5 : v5 = S.1 64 x3) (b5 : -128 ≤ v5 ∧ v5 ≤ 127) (c7 : v5 ≠ 0) (v6 : Int) (e6 : v6 = fx_add x3 1) (z : Int) (Z : fx_S) (kz : fx_Sok Z) (bz : -2147483648 ≤ z ∧ z ≤ 2147483647) (pz : s370 S x1 x2 v6 z Z) : s370 S x1 x2 x3 z Z := by
  obtain ⟨rZ, fZ, pz⟩ := pz
  refine ⟨rZ, ?_, ?_⟩
  · intro p i hW
    clear e6 c7 b5 e5 c6 c5 c4 b4 e4 c3 c2 c1 b3 e3
    exact (fZ p i (by omega))
  · skip
    intro k hk h0 hx
    have h6 := e6
    first | rw [fx_add_eq (by omega) (by omega)] at h6 | skip
    cases k with
    | zero => exact absurd hk (by omega)
    | succ k =>
      have q := pz k (by omega) (by omega) (by omega)
      unfold fx_wi
      rw [if_neg (fun q => by omega), show x3 + 1 = v6 by omega]
      exact q
theorem q370_4 (S : fx_S) (x1 x2 x3 : Int) (hS : fx_Sok S) (g1 : -2147483648 ≤ x1 ∧ x1 ≤ 2147483647) (g2 : -2147483648 ≤ x2 ∧ x2 ≤ 2147483647) (g3 : -2147483648 ≤ x3 ∧ x3 ≤ 2147483647) (v3 : Int) (e3 : v3 = S.1 13 0) (b3 : -2147483648 ≤ v3 ∧ v3 ≤ 2147483647) (c1 : x3 < v3) (c2 : 0 ≤ x3) (c3 : x3 < 80) (v4 : Int) (e4 : v4 = S.1 18 x3) (b4 : -2147483648 ≤ v4 ∧ v4 ≤ 2147483647) (c4 : v4 ≤ x1) (c5 : 0 ≤ x3) (c6 : x3 < 80) (v5 : Int) (e5 : v5 = S.1 64 x3) (b5 : -128 ≤ v5 ∧ v5 ≤ 127) (c7 : v5 = 0) (v6 : Int) (S1 : fx_S) (k1 : fx_Sok S1) (b6 : -2147483648 ≤ v6 ∧ v6 ≤ 2147483647) (p1 : s136 S x3 v6 S1) (c8 : v6 = 0) (v7 : Int) (e7 : v7 = fx_add x3 1) (z : Int) (Z : fx_S) (kz : fx_Sok Z) (bz : -2147483648 ≤ z ∧ z ≤ 2147483647) (pz : s370 S1 x1 x2 v7 z Z) : s370 S x1 x2 x3 z Z := by
  obtain ⟨rfl, p1⟩ := p1
  obtain ⟨rZ, fZ, pz⟩ := pz
  refine ⟨rZ, ?_, ?_⟩
  · intro p i hW
    clear e7 c8 b6 c7 b5 e5 c6 c5 c4 b4 e4 c3 c2 c1 b3 e3
    exact (fZ p i (by omega))
  · skip
    intro k hk h0 hx
    have h7 := e7
    first | rw [fx_add_eq (by omega) (by omega)] at h7 | skip
    cases k with
    | zero => exact absurd hk (by omega)
    | succ k =>
      have t := p1 (by omega)
      have q := pz k (by omega) (by omega) (by omega)
      unfold fx_wi
      rw [if_neg (fun q => by have q2 := q.2.2; (try dsimp only at q2); rw [← t] at q2; omega), show x3 + 1 = v7 by omega]
      exact q
theorem q370_5 (S : fx_S) (x1 x2 x3 : Int) (hS : fx_Sok S) (g1 : -2147483648 ≤ x1 ∧ x1 ≤ 2147483647) (g2 : -2147483648 ≤ x2 ∧ x2 ≤ 2147483647) (g3 : -2147483648 ≤ x3 ∧ x3 ≤ 2147483647) (v3 : Int) (e3 : v3 = S.1 13 0) (b3 : -2147483648 ≤ v3 ∧ v3 ≤ 2147483647) (c1 : x3 < v3) (c2 : 0 ≤ x3) (c3 : x3 < 80) (v4 : Int) (e4 : v4 = S.1 18 x3) (b4 : -2147483648 ≤ v4 ∧ v4 ≤ 2147483647) (c4 : v4 ≤ x1) (c5 : 0 ≤ x3) (c6 : x3 < 80) (v5 : Int) (e5 : v5 = S.1 64 x3) (b5 : -128 ≤ v5 ∧ v5 ≤ 127) (c7 : v5 = 0) (v6 : Int) (S1 : fx_S) (k1 : fx_Sok S1) (b6 : -2147483648 ≤ v6 ∧ v6 ≤ 2147483647) (p1 : s136 S x3 v6 S1) (c8 : v6 ≠ 0) (c9 : 0 ≤ x3) (c10 : x3 < 80) (S2 : fx_S) (d2 : S2 = (fx_up S1.1 64 x3 1, S1.2)) (v7 : Int) (e7 : v7 = fx_add x2 1) (v8 : Int) (e8 : v8 = fx_add x3 1) (z : Int) (Z : fx_S) (kz : fx_Sok Z) (bz : -2147483648 ≤ z ∧ z ≤ 2147483647) (pz : s370 S2 x1 v7 v8 z Z) : s370 S x1 x2 x3 z Z := by
  obtain ⟨rfl, p1⟩ := p1
  obtain ⟨rZ, fZ, pz⟩ := pz
  refine ⟨(rZ).trans ((show S2.2 = S.2 by rw [d2])), ?_, ?_⟩
  · intro p i hW
    clear e8 e7 c10 c9 c8 b6 c7 b5 e5 c6 c5 c4 b4 e4 c3 c2 c1 b3 e3
    exact ((fZ p i (by omega))).trans ((show S2.1 p i = S.1 p i by rw [d2]; exact if_neg (by omega)))
  · skip
    intro k hk h0 hx
    have h7 := e7
    first | rw [fx_add_eq (by omega) (by omega)] at h7 | skip
    have h8 := e8
    first | rw [fx_add_eq (by omega) (by omega)] at h8 | skip
    cases k with
    | zero => exact absurd hk (by omega)
    | succ k =>
      have t := p1 (by omega)
      have ht : (if (0 ≤ x3 ∧ x3 < S.1 13 0) ∧ S.1 16 x3 ≤ S.1 1 0 ∧ S.1 1 0 < S.1 17 x3 then (1 : Int) else 0) = 1 := by
        split at t
        · rename_i q
          rw [if_pos q]
        · omega
      have gF : ∀ p : Int, p ≠ 64 → S2.1 p = S.1 p := fun p h1 => funext fun i => by
        rw [d2]
        exact if_neg (fun q => h1 q.1)
      have g64 : S2.1 64 = fx_se (S.1 64) x3 1 := funext fun i => by
        rw [d2]
        dsimp only [fx_up, fx_se]
        by_cases hi : i = x3
        · rw [if_pos ⟨rfl, hi⟩, if_pos hi]
        · rw [if_neg (fun q => hi q.2), if_neg hi]
      have q := pz k (by rw [gF 13 (by omega)]; omega) (by omega) (by omega)
      rw [gF 13 (by omega), gF 18 (by omega), gF 16 (by omega), gF 17 (by omega), gF 1 (by omega), g64] at q
      unfold fx_wi
      rw [if_pos ⟨by omega, by omega, ht⟩, show x3 + 1 = v8 by omega]
      unfold fx_ap
      exact ⟨by rw [q.1]; dsimp only; omega, q.2⟩
theorem q371_0 (S : fx_S) (x2 x3 : Int) (hS : fx_Sok S) (g2 : -2147483648 ≤ x2 ∧ x2 ≤ 2147483647) (g3 : -2147483648 ≤ x3 ∧ x3 ≤ 2147483647) (v2 : Int) (e2 : v2 = S.1 67 2) (b2 : -2147483648 ≤ v2 ∧ v2 ≤ 2147483647) (c1 : v2 ≤ x3) (v3 : Int) (e3 : v3 = S.1 66 29) (b3 : -2147483648 ≤ v3 ∧ v3 ≤ 2147483647) (c2 : v3 ≤ x2) (z : Int) (Z : fx_S) (kz : fx_Sok Z) (bz : z = 0) (pz : s333 S 0 z Z) : s371 S x2 x3 z Z := by
  obtain ⟨rZ, fZ, pz⟩ := pz
  refine ⟨rZ, ?_, ?_⟩
  · intro p i hW
    clear c2 b3 e3 c1 b2 e2
    exact (fZ p i (by omega))
  · skip
    intro n j hn hw8 hj h0 hg
    skip
    cases j with
    | zero =>
      unfold fx_wi
      dsimp only
      rw [Int.add_zero]
      rcases pz n hn hw8 hg.1 with ⟨b1, b2⟩ | ⟨b1, b2⟩
      · rw [b2]
        exact .inl ⟨by omega, rfl, fun i => rfl⟩
      · exact absurd rfl b1
    | succ j => exact absurd hj (by omega)
theorem q371_1 (S : fx_S) (x2 x3 : Int) (hS : fx_Sok S) (g2 : -2147483648 ≤ x2 ∧ x2 ≤ 2147483647) (g3 : -2147483648 ≤ x3 ∧ x3 ≤ 2147483647) (v2 : Int) (e2 : v2 = S.1 67 2) (b2 : -2147483648 ≤ v2 ∧ v2 ≤ 2147483647) (c1 : v2 ≤ x3) (v3 : Int) (e3 : v3 = S.1 66 29) (b3 : -2147483648 ≤ v3 ∧ v3 ≤ 2147483647) (c2 : x2 < v3) (z : Int) (Z : fx_S) (kz : fx_Sok Z) (bz : z = 0) (pz : s333 S 1 z Z) : s371 S x2 x3 z Z := by
  obtain ⟨rZ, fZ, pz⟩ := pz
  refine ⟨rZ, ?_, ?_⟩
  · intro p i hW
    clear c2 b3 e3 c1 b2 e2
    exact (fZ p i (by omega))
  · skip
    intro n j hn hw8 hj h0 hg
    skip
    cases j with
    | zero =>
      unfold fx_wi
      dsimp only
      rw [Int.add_zero]
      rcases pz n hn hw8 hg.1 with ⟨b1, b2⟩ | ⟨b1, b2⟩
      · omega
      · exact .inr ⟨by omega, b2⟩
    | succ j => exact absurd hj (by omega)
theorem q371_2 (S : fx_S) (x2 x3 : Int) (hS : fx_Sok S) (g2 : -2147483648 ≤ x2 ∧ x2 ≤ 2147483647) (g3 : -2147483648 ≤ x3 ∧ x3 ≤ 2147483647) (v2 : Int) (e2 : v2 = S.1 67 2) (b2 : -2147483648 ≤ v2 ∧ v2 ≤ 2147483647) (c1 : x3 < v2) (c2 : 0 ≤ x3) (c3 : x3 < 80) (v3 : Int) (e3 : v3 = S.1 83 x3) (b3 : 0 ≤ v3 ∧ v3 ≤ 1) (c4 : v3 ≠ 0) (v4 : Int) (e4 : v4 = fx_add x3 1) (z : Int) (Z : fx_S) (kz : fx_Sok Z) (bz : z = 0) (pz : s371 S x2 v4 z Z) : s371 S x2 x3 z Z := by
  obtain ⟨rZ, fZ, pz⟩ := pz
  refine ⟨rZ, ?_, ?_⟩
  · intro p i hW
    clear e4 c4 b3 e3 c3 c2 c1 b2 e2
    exact (fZ p i (by omega))
  · skip
    intro n j hn hw8 hj h0 hg
    have h4 := e4
    first | rw [fx_add_eq (by omega) (by omega)] at h4 | skip
    cases j with
    | zero => exact absurd hj (by omega)
    | succ j =>
      have q := pz n j hn hw8 (by omega) (by omega) hg
      unfold fx_wi
      rw [if_neg (fun q => by omega), show x3 + 1 = v4 by omega]
      exact q
theorem q371_3 (S : fx_S) (x2 x3 : Int) (hS : fx_Sok S) (g2 : -2147483648 ≤ x2 ∧ x2 ≤ 2147483647) (g3 : -2147483648 ≤ x3 ∧ x3 ≤ 2147483647) (v2 : Int) (e2 : v2 = S.1 67 2) (b2 : -2147483648 ≤ v2 ∧ v2 ≤ 2147483647) (c1 : x3 < v2) (c2 : 0 ≤ x3) (c3 : x3 < 80) (v3 : Int) (e3 : v3 = S.1 83 x3) (b3 : 0 ≤ v3 ∧ v3 ≤ 1) (c4 : v3 = 0) (v4 : Int) (e4 : v4 = S.1 67 0) (b4 : -2147483648 ≤ v4 ∧ v4 ≤ 2147483647) (v5 : Int) (S1 : fx_S) (k1 : fx_Sok S1) (b5 : -2147483648 ≤ v5 ∧ v5 ≤ 2147483647) (p1 : s156 S x3 v4 v5 S1) (c5 : v5 = 0) (v6 : Int) (e6 : v6 = fx_add x3 1) (z : Int) (Z : fx_S) (kz : fx_Sok Z) (bz : z = 0) (pz : s371 S1 x2 v6 z Z) : s371 S x2 x3 z Z := by
  obtain ⟨rfl, p1⟩ := p1
  obtain ⟨rZ, fZ, pz⟩ := pz
  refine ⟨rZ, ?_, ?_⟩
  · intro p i hW
    clear e6 c5 b5 b4 e4 c4 b3 e3 c3 c2 c1 b2 e2
    exact (fZ p i (by omega))
  · skip
    intro n j hn hw8 hj h0 hg
    have h6 := e6
    first | rw [fx_add_eq (by omega) (by omega)] at h6 | skip
    cases j with
    | zero => exact absurd hj (by omega)
    | succ j =>
      have t := p1 (by omega) (by omega)
      rw [e4] at t
      have q := pz n j hn hw8 (by omega) (by omega) hg
      unfold fx_wi
      rw [if_neg (fun q => by
        have q2 := q.2.2
        try dsimp only at q2
        split at q2
        · rename_i q3
          rw [if_pos q3.2] at t
          omega
        · omega), show x3 + 1 = v6 by omega]
      exact q
theorem q371_4 (S : fx_S) (x2 x3 : Int) (hS : fx_Sok S) (g2 : -2147483648 ≤ x2 ∧ x2 ≤ 2147483647) (g3 : -2147483648 ≤ x3 ∧ x3 ≤ 2147483647) (v2 : Int) (e2 : v2 = S.1 67 2) (b2 : -2147483648 ≤ v2 ∧ v2 ≤ 2147483647) (c1 : x3 < v2) (c2 : 0 ≤ x3) (c3 : x3 < 80) (v3 : Int) (e3 : v3 = S.1 83 x3) (b3 : 0 ≤ v3 ∧ v3 ≤ 1) (c4 : v3 = 0) (v4 : Int) (e4 : v4 = S.1 67 0) (b4 : -2147483648 ≤ v4 ∧ v4 ≤ 2147483647) (v5 : Int) (S1 : fx_S) (k1 : fx_Sok S1) (b5 : -2147483648 ≤ v5 ∧ v5 ≤ 2147483647) (p1 : s156 S x3 v4 v5 S1) (c5 : v5 ≠ 0) (v6 : Int) (e6 : v6 = fx_mul 10 x3) (v7 : Int) (e7 : v7 = fx_add 300 v6) (v8 : Int) (e8 : v8 = fx_add v7 4) (c6 : 0 ≤ v8) (c7 : v8 < 8090) (v9 : Int) (e9 : v9 = S1.1 67 v8) (b9 : -2147483648 ≤ v9 ∧ v9 ≤ 2147483647) (c8 : v9 ≤ x2) (c9 : 0 ≤ x3) (c10 : x3 < 80) (S2 : fx_S) (d2 : S2 = (fx_up S1.1 83 x3 1, S1.2)) (v10 : Int) (e10 : v10 = S2.1 66 29) (b10 : -2147483648 ≤ v10 ∧ v10 ≤ 2147483647) (v11 : Int) (e11 : v11 = fx_add v10 1) (S3 : fx_S) (d3 : S3 = (fx_up S2.1 66 29 v11, S2.2)) (v12 : Int) (e12 : v12 = fx_add x3 1) (z : Int) (Z : fx_S) (kz : fx_Sok Z) (bz : z = 0) (pz : s371 S3 x2 v12 z Z) : s371 S x2 x3 z Z := by
  obtain ⟨rfl, p1⟩ := p1
  obtain ⟨rZ, fZ, pz⟩ := pz
  refine ⟨(rZ).trans (((show S3.2 = S2.2 by rw [d3])).trans ((show S2.2 = S.2 by rw [d2]))), ?_, ?_⟩
  · intro p i hW
    clear e12 e11 b10 e10 c10 c9 c8 b9 e9 c7 c6 e8 e7 e6 c5 b5 b4 e4 c4 b3 e3 c3 c2 c1 b2 e2
    exact ((fZ p i (by omega))).trans (((show S3.1 p i = S2.1 p i by rw [d3]; exact if_neg (by omega))).trans ((show S2.1 p i = S.1 p i by rw [d2]; exact if_neg (by omega))))
  · skip
    intro n j hn hw8 hj h0 hg
    have h6 := e6
    first | rw [fx_mul_eq (by omega) (by omega)] at h6 | skip
    have h7 := e7
    first | rw [fx_add_eq (by omega) (by omega)] at h7 | skip
    have h8 := e8
    first | rw [fx_add_eq (by omega) (by omega)] at h8 | skip
    have t10_2 : S2.1 66 29 = S.1 66 29 := by rw [d2]; first | exact if_neg (by omega) | rfl
    rw [t10_2] at e10
    have h11 := e11
    first | rw [fx_add_eq (by omega) (by omega)] at h11 | skip
    have h12 := e12
    first | rw [fx_add_eq (by omega) (by omega)] at h12 | skip
    cases j with
    | zero => exact absurd hj (by omega)
    | succ j =>
      have u1 : S.1 67 (304 + 10 * x3) = v9 := by rw [show 304 + 10 * x3 = v8 by omega]; exact e9.symm
      have t := p1 (by omega) (by omega)
      rw [e4] at t
      have ht : (if (0 ≤ x3 ∧ x3 < S.1 67 2) ∧ S.1 67 (302 + 10 * x3) ≤ S.1 67 0 ∧ (S.1 67 (303 + 10 * x3) = -1 ∨ S.1 67 0 < S.1 67 (303 + 10 * x3)) then (1 : Int) else 0) = 1 := by
        split at t
        · rename_i q
          rw [if_pos ⟨by omega, q⟩]
        · omega
      have gF : ∀ p : Int, p ≠ 83 → p ≠ 66 → S3.1 p = S.1 p := fun p h1 h2 => funext fun i => by
        subst d3; subst d2
        dsimp only [fx_up]
        repeat (first | rw [if_pos (by omega)] | rw [if_neg (by omega)])
      have g29 : S3.1 66 29 = S.1 66 29 + 1 := by
        rw [d3]
        show v11 = _
        omega
      have g83 : S3.1 83 = fx_se (S.1 83) x3 1 := funext fun i => by
        subst d3; subst d2
        dsimp only [fx_up, fx_se]
        by_cases hi : i = x3
        all_goals repeat (first | rw [if_pos (by omega)] | rw [if_neg (by omega)])
      have a0 : S.1 83 x3 = 0 := by omega
      have cs := fx_cn_se a0 n 0 (by omega) (by omega)
      have cl := (fx_cn_full n 0 (a := fx_se (S.1 83) x3 1) (fun i i0 i1 => by
        unfold fx_se
        by_cases e : i = x3
        · rw [if_pos e]; exact .inr rfl
        · rw [if_neg e]; exact hg.1.2.2.2 i i0 (by omega))).1
      have q := pz n j (by rw [gF 67 (by omega) (by omega)]; exact hn) hw8 (by omega) (by omega) ⟨⟨by omega, by omega, by rw [g29, g83, cs]; omega, fun i i0 i1 => by
        rw [g83]
        unfold fx_se
        by_cases e : i = x3
        · rw [if_pos e]; exact .inr rfl
        · rw [if_neg e]; exact hg.1.2.2.2 i i0 i1⟩, by omega, by omega⟩
      rw [gF 67 (by omega) (by omega), g83, g29] at q
      unfold fx_wi
      rw [if_pos ⟨a0, by first | omega | (dsimp only; omega), ht⟩, show x3 + 1 = v12 by omega]
      unfold fx_ap
      dsimp only
      rw [← Int.add_assoc]
      exact q
theorem q371_5 (S : fx_S) (x2 x3 : Int) (hS : fx_Sok S) (g2 : -2147483648 ≤ x2 ∧ x2 ≤ 2147483647) (g3 : -2147483648 ≤ x3 ∧ x3 ≤ 2147483647) (v2 : Int) (e2 : v2 = S.1 67 2) (b2 : -2147483648 ≤ v2 ∧ v2 ≤ 2147483647) (c1 : x3 < v2) (c2 : 0 ≤ x3) (c3 : x3 < 80) (v3 : Int) (e3 : v3 = S.1 83 x3) (b3 : 0 ≤ v3 ∧ v3 ≤ 1) (c4 : v3 = 0) (v4 : Int) (e4 : v4 = S.1 67 0) (b4 : -2147483648 ≤ v4 ∧ v4 ≤ 2147483647) (v5 : Int) (S1 : fx_S) (k1 : fx_Sok S1) (b5 : -2147483648 ≤ v5 ∧ v5 ≤ 2147483647) (p1 : s156 S x3 v4 v5 S1) (c5 : v5 ≠ 0) (v6 : Int) (e6 : v6 = fx_mul 10 x3) (v7 : Int) (e7 : v7 = fx_add 300 v6) (v8 : Int) (e8 : v8 = fx_add v7 4) (c6 : 0 ≤ v8) (c7 : v8 < 8090) (v9 : Int) (e9 : v9 = S1.1 67 v8) (b9 : -2147483648 ≤ v9 ∧ v9 ≤ 2147483647) (c8 : x2 < v9) (v10 : Int) (e10 : v10 = fx_add x3 1) (z : Int) (Z : fx_S) (kz : fx_Sok Z) (bz : z = 0) (pz : s371 S1 x2 v10 z Z) : s371 S x2 x3 z Z := by
  obtain ⟨rfl, p1⟩ := p1
  obtain ⟨rZ, fZ, pz⟩ := pz
  refine ⟨rZ, ?_, ?_⟩
  · intro p i hW
    clear e10 c8 b9 e9 c7 c6 e8 e7 e6 c5 b5 b4 e4 c4 b3 e3 c3 c2 c1 b2 e2
    exact (fZ p i (by omega))
  · skip
    intro n j hn hw8 hj h0 hg
    have h6 := e6
    first | rw [fx_mul_eq (by omega) (by omega)] at h6 | skip
    have h7 := e7
    first | rw [fx_add_eq (by omega) (by omega)] at h7 | skip
    have h8 := e8
    first | rw [fx_add_eq (by omega) (by omega)] at h8 | skip
    have h10 := e10
    first | rw [fx_add_eq (by omega) (by omega)] at h10 | skip
    cases j with
    | zero => exact absurd hj (by omega)
    | succ j =>
      have u1 : S.1 67 (304 + 10 * x3) = v9 := by rw [show 304 + 10 * x3 = v8 by omega]; exact e9.symm
      have q := pz n j hn hw8 (by omega) (by omega) hg
      unfold fx_wi
      rw [if_neg (fun q => by have q2 := q.2.1; (try dsimp only at q2); omega), show x3 + 1 = v10 by omega]
      exact q
