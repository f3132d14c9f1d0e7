/-! FX: the paths of the entries, all -/
set_option maxRecDepth 40000 in
theorem u373_1 (X : (Int → Int) × Int) (S : fx_S) (x2 : Int) (hS : fx_Sok S) (g2 : -2147483648 ≤ x2 ∧ x2 ≤ 2147483647) : fx_VC (fx_Mx X) 373 [x2] S (fx_p373.getD 1 ([], .inl (0, 0))) := fx_VCR_ok (show fx_VCR (fx_Mx X) 373 [x2] S _ from q373_1 S x2 hS g2)
set_option maxRecDepth 40000 in
theorem w373 (X : (Int → Int) × Int) (zs : List Int) (S : fx_S) (hS : fx_Sok S) (hz : zs.length = (fx_lv0 fx_t373.2.2.1 0).2) (rz : fx_rz fx_t373 zs S) : ∀ p ∈ fx_p373, fx_VC (fx_Mx X) 373 zs S p := by
  obtain ⟨x2, rfl⟩ := fx_len1 hz
  have g2 : -2147483648 ≤ x2 ∧ x2 ≤ 2147483647 := rz 2 _ rfl
  exact List.forall_mem_cons.mpr ⟨(u373_0 X S x2 hS g2), List.forall_mem_cons.mpr ⟨(u373_1 X S x2 hS g2), fun _ h => absurd h List.not_mem_nil⟩⟩
set_option maxRecDepth 40000 in
theorem u374_0 (X : (Int → Int) × Int) (S : fx_S) (x1 x2 : Int) (hS : fx_Sok S) (g1 : -2147483648 ≤ x1 ∧ x1 ≤ 2147483647) (g2 : -2147483648 ≤ x2 ∧ x2 ≤ 2147483647) : fx_VC (fx_Mx X) 374 [x1, x2] S (fx_p374.getD 0 ([], .inl (0, 0))) := fx_VCR_ok (show fx_VCR (fx_Mx X) 374 [x1, x2] S _ from q374_0 S x1 x2 hS g1 g2)
set_option maxRecDepth 40000 in
theorem u374_1 (X : (Int → Int) × Int) (S : fx_S) (x1 x2 : Int) (hS : fx_Sok S) (g1 : -2147483648 ≤ x1 ∧ x1 ≤ 2147483647) (g2 : -2147483648 ≤ x2 ∧ x2 ≤ 2147483647) : fx_VC (fx_Mx X) 374 [x1, x2] S (fx_p374.getD 1 ([], .inl (0, 0))) := fx_VCR_ok (show fx_VCR (fx_Mx X) 374 [x1, x2] S _ from q374_1 S x1 x2 hS g1 g2)
set_option maxRecDepth 40000 in
theorem u374_2 (X : (Int → Int) × Int) (S : fx_S) (x1 x2 : Int) (hS : fx_Sok S) (g1 : -2147483648 ≤ x1 ∧ x1 ≤ 2147483647) (g2 : -2147483648 ≤ x2 ∧ x2 ≤ 2147483647) : fx_VC (fx_Mx X) 374 [x1, x2] S (fx_p374.getD 2 ([], .inl (0, 0))) := fx_VCR_ok (show fx_VCR (fx_Mx X) 374 [x1, x2] S _ from q374_2 S x1 x2 hS g1 g2)
set_option maxRecDepth 40000 in
theorem u374_3 (X : (Int → Int) × Int) (S : fx_S) (x1 x2 : Int) (hS : fx_Sok S) (g1 : -2147483648 ≤ x1 ∧ x1 ≤ 2147483647) (g2 : -2147483648 ≤ x2 ∧ x2 ≤ 2147483647) : fx_VC (fx_Mx X) 374 [x1, x2] S (fx_p374.getD 3 ([], .inl (0, 0))) := fx_VCR_ok (show fx_VCR (fx_Mx X) 374 [x1, x2] S _ from q374_3 S x1 x2 hS g1 g2)
set_option maxRecDepth 40000 in
theorem w374 (X : (Int → Int) × Int) (zs : List Int) (S : fx_S) (hS : fx_Sok S) (hz : zs.length = (fx_lv0 fx_t374.2.2.1 0).2) (rz : fx_rz fx_t374 zs S) : ∀ p ∈ fx_p374, fx_VC (fx_Mx X) 374 zs S p := by
  obtain ⟨x1, x2, rfl⟩ := fx_len2 hz
  have g1 : -2147483648 ≤ x1 ∧ x1 ≤ 2147483647 := rz 1 _ rfl
  have g2 : -2147483648 ≤ x2 ∧ x2 ≤ 2147483647 := rz 2 _ rfl
  exact List.forall_mem_cons.mpr ⟨(u374_0 X S x1 x2 hS g1 g2), List.forall_mem_cons.mpr ⟨(u374_1 X S x1 x2 hS g1 g2), List.forall_mem_cons.mpr ⟨(u374_2 X S x1 x2 hS g1 g2), List.forall_mem_cons.mpr ⟨(u374_3 X S x1 x2 hS g1 g2), fun _ h => absurd h List.not_mem_nil⟩⟩⟩⟩
set_option maxRecDepth 40000 in
theorem u375_0 (X : (Int → Int) × Int) (S : fx_S) (x0 : Int) (hS : fx_Sok S) (g0 : -2147483648 ≤ x0 ∧ x0 ≤ 2147483647) : fx_VC (fx_Mx X) 375 [x0] S (fx_p375.getD 0 ([], .inl (0, 0))) := fx_VCR_ok (show fx_VCR (fx_Mx X) 375 [x0] S _ from q375_0 S x0 hS g0)
set_option maxRecDepth 40000 in
theorem u375_1 (X : (Int → Int) × Int) (S : fx_S) (x0 : Int) (hS : fx_Sok S) (g0 : -2147483648 ≤ x0 ∧ x0 ≤ 2147483647) : fx_VC (fx_Mx X) 375 [x0] S (fx_p375.getD 1 ([], .inl (0, 0))) := fx_VCR_ok (show fx_VCR (fx_Mx X) 375 [x0] S _ from q375_1 S x0 hS g0)
set_option maxRecDepth 40000 in
theorem w375 (X : (Int → Int) × Int) (zs : List Int) (S : fx_S) (hS : fx_Sok S) (hz : zs.length = (fx_lv0 fx_t375.2.2.1 0).2) (rz : fx_rz fx_t375 zs S) : ∀ p ∈ fx_p375, fx_VC (fx_Mx X) 375 zs S p := by
  obtain ⟨x0, rfl⟩ := fx_len1 hz
  have g0 : -2147483648 ≤ x0 ∧ x0 ≤ 2147483647 := rz 0 _ rfl
  exact List.forall_mem_cons.mpr ⟨(u375_0 X S x0 hS g0), List.forall_mem_cons.mpr ⟨(u375_1 X S x0 hS g0), fun _ h => absurd h List.not_mem_nil⟩⟩
set_option maxRecDepth 40000 in
theorem u376_0 (X : (Int → Int) × Int) (S : fx_S) (x1 : Int) (hS : fx_Sok S) : fx_VC (fx_Mx X) 376 [x1] S (fx_p376.getD 0 ([], .inl (0, 0))) := fx_VCR_ok (show fx_VCR (fx_Mx X) 376 [x1] S _ from q376_0 S x1 hS)
set_option maxRecDepth 40000 in
theorem u376_1 (X : (Int → Int) × Int) (S : fx_S) (x1 : Int) (hS : fx_Sok S) : fx_VC (fx_Mx X) 376 [x1] S (fx_p376.getD 1 ([], .inl (0, 0))) := fx_VCR_ok (show fx_VCR (fx_Mx X) 376 [x1] S _ from q376_1 S x1 hS)
set_option maxRecDepth 40000 in
theorem u376_2 (X : (Int → Int) × Int) (S : fx_S) (x1 : Int) (hS : fx_Sok S) : fx_VC (fx_Mx X) 376 [x1] S (fx_p376.getD 2 ([], .inl (0, 0))) := fx_VCR_ok (show fx_VCR (fx_Mx X) 376 [x1] S _ from q376_2 S x1 hS)
set_option maxRecDepth 40000 in
theorem u376_3 (X : (Int → Int) × Int) (S : fx_S) (x1 : Int) (hS : fx_Sok S) : fx_VC (fx_Mx X) 376 [x1] S (fx_p376.getD 3 ([], .inl (0, 0))) := fx_VCR_ok (show fx_VCR (fx_Mx X) 376 [x1] S _ from q376_3 S x1 hS)
set_option maxRecDepth 40000 in
theorem w376 (X : (Int → Int) × Int) (zs : List Int) (S : fx_S) (hS : fx_Sok S) (hz : zs.length = (fx_lv0 fx_t376.2.2.1 0).2) (rz : fx_rz fx_t376 zs S) : ∀ p ∈ fx_p376, fx_VC (fx_Mx X) 376 zs S p := by
  obtain ⟨x1, rfl⟩ := fx_len1 hz
  exact List.forall_mem_cons.mpr ⟨(u376_0 X S x1 hS), List.forall_mem_cons.mpr ⟨(u376_1 X S x1 hS), List.forall_mem_cons.mpr ⟨(u376_2 X S x1 hS), List.forall_mem_cons.mpr ⟨(u376_3 X S x1 hS), fun _ h => absurd h List.not_mem_nil⟩⟩⟩⟩
set_option maxRecDepth 40000 in
theorem u377_0 (X : (Int → Int) × Int) (S : fx_S) (hS : fx_Sok S) : fx_VC (fx_Mx X) 377 [] S (fx_p377.getD 0 ([], .inl (0, 0))) := fx_VCR_ok (show fx_VCR (fx_Mx X) 377 [] S _ from q377_0 S hS)
set_option maxRecDepth 40000 in
theorem w377 (X : (Int → Int) × Int) (zs : List Int) (S : fx_S) (hS : fx_Sok S) (hz : zs.length = (fx_lv0 fx_t377.2.2.1 0).2) (rz : fx_rz fx_t377 zs S) : ∀ p ∈ fx_p377, fx_VC (fx_Mx X) 377 zs S p := by
  obtain rfl := List.eq_nil_of_length_eq_zero hz
  exact List.forall_mem_cons.mpr ⟨(u377_0 X S hS), fun _ h => absurd h List.not_mem_nil⟩
set_option maxRecDepth 40000 in
theorem u378_0 (X : (Int → Int) × Int) (S : fx_S) (x1 x3 x4 : Int) (hS : fx_Sok S) (g1 : 0 ≤ x1 ∧ x1 < S.2.2) (g3 : -2147483648 ≤ x3 ∧ x3 ≤ 2147483647) (g4 : -2147483648 ≤ x4 ∧ x4 ≤ 2147483647) : fx_VC (fx_Mx X) 378 [x1, x3, x4] S (fx_p378.getD 0 ([], .inl (0, 0))) := fx_VCR_ok (show fx_VCR (fx_Mx X) 378 [x1, x3, x4] S _ from q378_0 S x1 x3 x4 hS g1 g3 g4)
set_option maxRecDepth 40000 in
theorem u378_1 (X : (Int → Int) × Int) (S : fx_S) (x1 x3 x4 : Int) (hS : fx_Sok S) (g1 : 0 ≤ x1 ∧ x1 < S.2.2) (g3 : -2147483648 ≤ x3 ∧ x3 ≤ 2147483647) (g4 : -2147483648 ≤ x4 ∧ x4 ≤ 2147483647) : fx_VC (fx_Mx X) 378 [x1, x3, x4] S (fx_p378.getD 1 ([], .inl (0, 0))) := fx_VCR_ok (show fx_VCR (fx_Mx X) 378 [x1, x3, x4] S _ from q378_1 S x1 x3 x4 hS g1 g3 g4)
set_option maxRecDepth 40000 in
theorem u378_2 (X : (Int → Int) × Int) (S : fx_S) (x1 x3 x4 : Int) (hS : fx_Sok S) (g1 : 0 ≤ x1 ∧ x1 < S.2.2) (g3 : -2147483648 ≤ x3 ∧ x3 ≤ 2147483647) (g4 : -2147483648 ≤ x4 ∧ x4 ≤ 2147483647) : fx_VC (fx_Mx X) 378 [x1, x3, x4] S (fx_p378.getD 2 ([], .inl (0, 0))) := fx_VCR_ok (show fx_VCR (fx_Mx X) 378 [x1, x3, x4] S _ from q378_2 S x1 x3 x4 hS g1 g3 g4)
set_option maxRecDepth 40000 in
theorem w378 (X : (Int → Int) × Int) (zs : List Int) (S : fx_S) (hS : fx_Sok S) (hz : zs.length = (fx_lv0 fx_t378.2.2.1 0).2) (rz : fx_rz fx_t378 zs S) : ∀ p ∈ fx_p378, fx_VC (fx_Mx X) 378 zs S p := by
  obtain ⟨x1, x3, x4, rfl⟩ := fx_len3 hz
  have g1 : 0 ≤ x1 ∧ x1 < S.2.2 := rz 1 _ rfl
  have g3 : -2147483648 ≤ x3 ∧ x3 ≤ 2147483647 := rz 3 _ rfl
  have g4 : -2147483648 ≤ x4 ∧ x4 ≤ 2147483647 := rz 4 _ rfl
  exact List.forall_mem_cons.mpr ⟨(u378_0 X S x1 x3 x4 hS g1 g3 g4), List.forall_mem_cons.mpr ⟨(u378_1 X S x1 x3 x4 hS g1 g3 g4), List.forall_mem_cons.mpr ⟨(u378_2 X S x1 x3 x4 hS g1 g3 g4), fun _ h => absurd h List.not_mem_nil⟩⟩⟩
set_option maxRecDepth 40000 in
theorem u379_0 (X : (Int → Int) × Int) (S : fx_S) (x1 x2 : Int) (hS : fx_Sok S) (g1 : -2147483648 ≤ x1 ∧ x1 ≤ 2147483647) (g2 : -2147483648 ≤ x2 ∧ x2 ≤ 2147483647) : fx_VC (fx_Mx X) 379 [x1, x2] S (fx_p379.getD 0 ([], .inl (0, 0))) := fx_VCR_ok (show fx_VCR (fx_Mx X) 379 [x1, x2] S _ from q379_0 S x1 x2 hS g1 g2)
set_option maxRecDepth 40000 in
theorem u379_1 (X : (Int → Int) × Int) (S : fx_S) (x1 x2 : Int) (hS : fx_Sok S) (g1 : -2147483648 ≤ x1 ∧ x1 ≤ 2147483647) (g2 : -2147483648 ≤ x2 ∧ x2 ≤ 2147483647) : fx_VC (fx_Mx X) 379 [x1, x2] S (fx_p379.getD 1 ([], .inl (0, 0))) := fx_VCR_ok (show fx_VCR (fx_Mx X) 379 [x1, x2] S _ from q379_1 S x1 x2 hS g1 g2)
set_option maxRecDepth 40000 in
theorem u379_2 (X : (Int → Int) × Int) (S : fx_S) (x1 x2 : Int) (hS : fx_Sok S) (g1 : -2147483648 ≤ x1 ∧ x1 ≤ 2147483647) (g2 : -2147483648 ≤ x2 ∧ x2 ≤ 2147483647) : fx_VC (fx_Mx X) 379 [x1, x2] S (fx_p379.getD 2 ([], .inl (0, 0))) := fx_VCR_ok (show fx_VCR (fx_Mx X) 379 [x1, x2] S _ from q379_2 S x1 x2 hS g1 g2)
set_option maxRecDepth 40000 in
theorem w379 (X : (Int → Int) × Int) (zs : List Int) (S : fx_S) (hS : fx_Sok S) (hz : zs.length = (fx_lv0 fx_t379.2.2.1 0).2) (rz : fx_rz fx_t379 zs S) : ∀ p ∈ fx_p379, fx_VC (fx_Mx X) 379 zs S p := by
  obtain ⟨x1, x2, rfl⟩ := fx_len2 hz
  have g1 : -2147483648 ≤ x1 ∧ x1 ≤ 2147483647 := rz 1 _ rfl
  have g2 : -2147483648 ≤ x2 ∧ x2 ≤ 2147483647 := rz 2 _ rfl
  exact List.forall_mem_cons.mpr ⟨(u379_0 X S x1 x2 hS g1 g2), List.forall_mem_cons.mpr ⟨(u379_1 X S x1 x2 hS g1 g2), List.forall_mem_cons.mpr ⟨(u379_2 X S x1 x2 hS g1 g2), fun _ h => absurd h List.not_mem_nil⟩⟩⟩
set_option maxRecDepth 40000 in
theorem u380_0 (X : (Int → Int) × Int) (S : fx_S) (x0 x1 x2 x3 x4 x6 : Int) (hS : fx_Sok S) (g0 : -1 ≤ x0 ∧ x0 < S.2.2) (g1 : -2147483648 ≤ x1 ∧ x1 ≤ 2147483647) (g2 : -2147483648 ≤ x2 ∧ x2 ≤ 2147483647) (g3 : -2147483648 ≤ x3 ∧ x3 ≤ 2147483647) (g4 : -2147483648 ≤ x4 ∧ x4 ≤ 2147483647) (g6 : -2147483648 ≤ x6 ∧ x6 ≤ 2147483647) : fx_VC (fx_Mx X) 380 [x0, x1, x2, x3, x4, x6] S (fx_p380.getD 0 ([], .inl (0, 0))) := fx_VCR_ok (show fx_VCR (fx_Mx X) 380 [x0, x1, x2, x3, x4, x6] S _ from q380_0 S x0 x1 x2 x3 x4 x6 hS g0 g1 g2 g3 g4 g6)
set_option maxRecDepth 40000 in
theorem u380_1 (X : (Int → Int) × Int) (S : fx_S) (x0 x1 x2 x3 x4 x6 : Int) (hS : fx_Sok S) (g0 : -1 ≤ x0 ∧ x0 < S.2.2) (g1 : -2147483648 ≤ x1 ∧ x1 ≤ 2147483647) (g2 : -2147483648 ≤ x2 ∧ x2 ≤ 2147483647) (g3 : -2147483648 ≤ x3 ∧ x3 ≤ 2147483647) (g4 : -2147483648 ≤ x4 ∧ x4 ≤ 2147483647) (g6 : -2147483648 ≤ x6 ∧ x6 ≤ 2147483647) : fx_VC (fx_Mx X) 380 [x0, x1, x2, x3, x4, x6] S (fx_p380.getD 1 ([], .inl (0, 0))) := fx_VCR_ok (show fx_VCR (fx_Mx X) 380 [x0, x1, x2, x3, x4, x6] S _ from q380_1 S x0 x1 x2 x3 x4 x6 hS g0 g1 g2 g3 g4 g6)
set_option maxRecDepth 40000 in
theorem u380_2 (X : (Int → Int) × Int) (S : fx_S) (x0 x1 x2 x3 x4 x6 : Int) (hS : fx_Sok S) (g0 : -1 ≤ x0 ∧ x0 < S.2.2) (g1 : -2147483648 ≤ x1 ∧ x1 ≤ 2147483647) (g2 : -2147483648 ≤ x2 ∧ x2 ≤ 2147483647) (g3 : -2147483648 ≤ x3 ∧ x3 ≤ 2147483647) (g4 : -2147483648 ≤ x4 ∧ x4 ≤ 2147483647) (g6 : -2147483648 ≤ x6 ∧ x6 ≤ 2147483647) : fx_VC (fx_Mx X) 380 [x0, x1, x2, x3, x4, x6] S (fx_p380.getD 2 ([], .inl (0, 0))) := fx_VCR_ok (show fx_VCR (fx_Mx X) 380 [x0, x1, x2, x3, x4, x6] S _ from q380_2 S x0 x1 x2 x3 x4 x6 hS g0 g1 g2 g3 g4 g6)
set_option maxRecDepth 40000 in
theorem w380 (X : (Int → Int) × Int) (zs : List Int) (S : fx_S) (hS : fx_Sok S) (hz : zs.length = (fx_lv0 fx_t380.2.2.1 0).2) (rz : fx_rz fx_t380 zs S) : ∀ p ∈ fx_p380, fx_VC (fx_Mx X) 380 zs S p := by
  obtain ⟨x0, x1, x2, x3, x4, x6, rfl⟩ := fx_len6 hz
  have g0 : -1 ≤ x0 ∧ x0 < S.2.2 := rz 0 _ rfl
  have g1 : -2147483648 ≤ x1 ∧ x1 ≤ 2147483647 := rz 1 _ rfl
  have g2 : -2147483648 ≤ x2 ∧ x2 ≤ 2147483647 := rz 2 _ rfl
  have g3 : -2147483648 ≤ x3 ∧ x3 ≤ 2147483647 := rz 3 _ rfl
  have g4 : -2147483648 ≤ x4 ∧ x4 ≤ 2147483647 := rz 4 _ rfl
  have g6 : -2147483648 ≤ x6 ∧ x6 ≤ 2147483647 := rz 6 _ rfl
  exact List.forall_mem_cons.mpr ⟨(u380_0 X S x0 x1 x2 x3 x4 x6 hS g0 g1 g2 g3 g4 g6), List.forall_mem_cons.mpr ⟨(u380_1 X S x0 x1 x2 x3 x4 x6 hS g0 g1 g2 g3 g4 g6), List.forall_mem_cons.mpr ⟨(u380_2 X S x0 x1 x2 x3 x4 x6 hS g0 g1 g2 g3 g4 g6), fun _ h => absurd h List.not_mem_nil⟩⟩⟩
set_option maxRecDepth 40000 in
theorem u381_0 (X : (Int → Int) × Int) (S : fx_S) (x1 x2 x3 : Int) (hS : fx_Sok S) (g1 : -2147483648 ≤ x1 ∧ x1 ≤ 2147483647) (g2 : -2147483648 ≤ x2 ∧ x2 ≤ 2147483647) (g3 : -2147483648 ≤ x3 ∧ x3 ≤ 2147483647) : fx_VC (fx_Mx X) 381 [x1, x2, x3] S (fx_p381.getD 0 ([], .inl (0, 0))) := fx_VCR_ok (show fx_VCR (fx_Mx X) 381 [x1, x2, x3] S _ from q381_0 S x1 x2 x3 hS g1 g2 g3)
set_option maxRecDepth 40000 in
theorem u381_1 (X : (Int → Int) × Int) (S : fx_S) (x1 x2 x3 : Int) (hS : fx_Sok S) (g1 : -2147483648 ≤ x1 ∧ x1 ≤ 2147483647) (g2 : -2147483648 ≤ x2 ∧ x2 ≤ 2147483647) (g3 : -2147483648 ≤ x3 ∧ x3 ≤ 2147483647) : fx_VC (fx_Mx X) 381 [x1, x2, x3] S (fx_p381.getD 1 ([], .inl (0, 0))) := fx_VCR_ok (show fx_VCR (fx_Mx X) 381 [x1, x2, x3] S _ from q381_1 S x1 x2 x3 hS g1 g2 g3)
set_option maxRecDepth 40000 in
theorem w381 (X : (Int → Int) × Int) (zs : List Int) (S : fx_S) (hS : fx_Sok S) (hz : zs.length = (fx_lv0 fx_t381.2.2.1 0).2) (rz : fx_rz fx_t381 zs S) : ∀ p ∈ fx_p381, fx_VC (fx_Mx X) 381 zs S p := by
  obtain ⟨x1, x2, x3, rfl⟩ := fx_len3 hz
  have g1 : -2147483648 ≤ x1 ∧ x1 ≤ 2147483647 := rz 1 _ rfl
  have g2 : -2147483648 ≤ x2 ∧ x2 ≤ 2147483647 := rz 2 _ rfl
  have g3 : -2147483648 ≤ x3 ∧ x3 ≤ 2147483647 := rz 3 _ rfl
  exact List.forall_mem_cons.mpr ⟨(u381_0 X S x1 x2 x3 hS g1 g2 g3), List.forall_mem_cons.mpr ⟨(u381_1 X S x1 x2 x3 hS g1 g2 g3), fun _ h => absurd h List.not_mem_nil⟩⟩
set_option maxRecDepth 40000 in
theorem u382_0 (X : (Int → Int) × Int) (S : fx_S) (x1 x2 : Int) (hS : fx_Sok S) (g1 : -2147483648 ≤ x1 ∧ x1 ≤ 2147483647) (g2 : -2147483648 ≤ x2 ∧ x2 ≤ 2147483647) : fx_VC (fx_Mx X) 382 [x1, x2] S (fx_p382.getD 0 ([], .inl (0, 0))) := fx_VCR_ok (show fx_VCR (fx_Mx X) 382 [x1, x2] S _ from q382_0 S x1 x2 hS g1 g2)
set_option maxRecDepth 40000 in
theorem u382_1 (X : (Int → Int) × Int) (S : fx_S) (x1 x2 : Int) (hS : fx_Sok S) (g1 : -2147483648 ≤ x1 ∧ x1 ≤ 2147483647) (g2 : -2147483648 ≤ x2 ∧ x2 ≤ 2147483647) : fx_VC (fx_Mx X) 382 [x1, x2] S (fx_p382.getD 1 ([], .inl (0, 0))) := fx_VCR_ok (show fx_VCR (fx_Mx X) 382 [x1, x2] S _ from q382_1 S x1 x2 hS g1 g2)
set_option maxRecDepth 40000 in
theorem u382_2 (X : (Int → Int) × Int) (S : fx_S) (x1 x2 : Int) (hS : fx_Sok S) (g1 : -2147483648 ≤ x1 ∧ x1 ≤ 2147483647) (g2 : -2147483648 ≤ x2 ∧ x2 ≤ 2147483647) : fx_VC (fx_Mx X) 382 [x1, x2] S (fx_p382.getD 2 ([], .inl (0, 0))) := fx_VCR_ok (show fx_VCR (fx_Mx X) 382 [x1, x2] S _ from q382_2 S x1 x2 hS g1 g2)
set_option maxRecDepth 40000 in
theorem w382 (X : (Int → Int) × Int) (zs : List Int) (S : fx_S) (hS : fx_Sok S) (hz : zs.length = (fx_lv0 fx_t382.2.2.1 0).2) (rz : fx_rz fx_t382 zs S) : ∀ p ∈ fx_p382, fx_VC (fx_Mx X) 382 zs S p := by
  obtain ⟨x1, x2, rfl⟩ := fx_len2 hz
  have g1 : -2147483648 ≤ x1 ∧ x1 ≤ 2147483647 := rz 1 _ rfl
  have g2 : -2147483648 ≤ x2 ∧ x2 ≤ 2147483647 := rz 2 _ rfl
  exact List.forall_mem_cons.mpr ⟨(u382_0 X S x1 x2 hS g1 g2), List.forall_mem_cons.mpr ⟨(u382_1 X S x1 x2 hS g1 g2), List.forall_mem_cons.mpr ⟨(u382_2 X S x1 x2 hS g1 g2), fun _ h => absurd h List.not_mem_nil⟩⟩⟩
set_option maxRecDepth 40000 in
theorem u383_0 (X : (Int → Int) × Int) (S : fx_S) (x1 x4 : Int) (hS : fx_Sok S) (g1 : -2147483648 ≤ x1 ∧ x1 ≤ 2147483647) (g4 : -2147483648 ≤ x4 ∧ x4 ≤ 2147483647) : fx_VC (fx_Mx X) 383 [x1, x4] S (fx_p383.getD 0 ([], .inl (0, 0))) := fx_VCR_ok (show fx_VCR (fx_Mx X) 383 [x1, x4] S _ from q383_0 S x1 x4 hS g1 g4)
set_option maxRecDepth 40000 in
theorem u383_1 (X : (Int → Int) × Int) (S : fx_S) (x1 x4 : Int) (hS : fx_Sok S) (g1 : -2147483648 ≤ x1 ∧ x1 ≤ 2147483647) (g4 : -2147483648 ≤ x4 ∧ x4 ≤ 2147483647) : fx_VC (fx_Mx X) 383 [x1, x4] S (fx_p383.getD 1 ([], .inl (0, 0))) := fx_VCR_ok (show fx_VCR (fx_Mx X) 383 [x1, x4] S _ from q383_1 S x1 x4 hS g1 g4)
set_option maxRecDepth 40000 in
theorem w383 (X : (Int → Int) × Int) (zs : List Int) (S : fx_S) (hS : fx_Sok S) (hz : zs.length = (fx_lv0 fx_t383.2.2.1 0).2) (rz : fx_rz fx_t383 zs S) : ∀ p ∈ fx_p383, fx_VC (fx_Mx X) 383 zs S p := by
  obtain ⟨x1, x4, rfl⟩ := fx_len2 hz
  have g1 : -2147483648 ≤ x1 ∧ x1 ≤ 2147483647 := rz 1 _ rfl
  have g4 : -2147483648 ≤ x4 ∧ x4 ≤ 2147483647 := rz 4 _ rfl
  exact List.forall_mem_cons.mpr ⟨(u383_0 X S x1 x4 hS g1 g4), List.forall_mem_cons.mpr ⟨(u383_1 X S x1 x4 hS g1 g4), fun _ h => absurd h List.not_mem_nil⟩⟩
set_option maxRecDepth 40000 in
theorem u384_0 (X : (Int → Int) × Int) (S : fx_S) (x3 x4 x5 x6 : Int) (hS : fx_Sok S) (g3 : -2147483648 ≤ x3 ∧ x3 ≤ 2147483647) (g4 : -2147483648 ≤ x4 ∧ x4 ≤ 2147483647) (g5 : -2147483648 ≤ x5 ∧ x5 ≤ 2147483647) (g6 : -2147483648 ≤ x6 ∧ x6 ≤ 2147483647) : fx_VC (fx_Mx X) 384 [x3, x4, x5, x6] S (fx_p384.getD 0 ([], .inl (0, 0))) := fx_VCR_ok (show fx_VCR (fx_Mx X) 384 [x3, x4, x5, x6] S _ from q384_0 S x3 x4 x5 x6 hS g3 g4 g5 g6)
set_option maxRecDepth 40000 in
theorem u384_1 (X : (Int → Int) × Int) (S : fx_S) (x3 x4 x5 x6 : Int) (hS : fx_Sok S) (g3 : -2147483648 ≤ x3 ∧ x3 ≤ 2147483647) (g4 : -2147483648 ≤ x4 ∧ x4 ≤ 2147483647) (g5 : -2147483648 ≤ x5 ∧ x5 ≤ 2147483647) (g6 : -2147483648 ≤ x6 ∧ x6 ≤ 2147483647) : fx_VC (fx_Mx X) 384 [x3, x4, x5, x6] S (fx_p384.getD 1 ([], .inl (0, 0))) := fx_VCR_ok (show fx_VCR (fx_Mx X) 384 [x3, x4, x5, x6] S _ from q384_1 S x3 x4 x5 x6 hS g3 g4 g5 g6)
set_option maxRecDepth 40000 in
theorem u384_2 (X : (Int → Int) × Int) (S : fx_S) (x3 x4 x5 x6 : Int) (hS : fx_Sok S) (g3 : -2147483648 ≤ x3 ∧ x3 ≤ 2147483647) (g4 : -2147483648 ≤ x4 ∧ x4 ≤ 2147483647) (g5 : -2147483648 ≤ x5 ∧ x5 ≤ 2147483647) (g6 : -2147483648 ≤ x6 ∧ x6 ≤ 2147483647) : fx_VC (fx_Mx X) 384 [x3, x4, x5, x6] S (fx_p384.getD 2 ([], .inl (0, 0))) := fx_VCR_ok (show fx_VCR (fx_Mx X) 384 [x3, x4, x5, x6] S _ from q384_2 S x3 x4 x5 x6 hS g3 g4 g5 g6)
set_option maxRecDepth 40000 in
theorem u384_3 (X : (Int → Int) × Int) (S : fx_S) (x3 x4 x5 x6 : Int) (hS : fx_Sok S) (g3 : -2147483648 ≤ x3 ∧ x3 ≤ 2147483647) (g4 : -2147483648 ≤ x4 ∧ x4 ≤ 2147483647) (g5 : -2147483648 ≤ x5 ∧ x5 ≤ 2147483647) (g6 : -2147483648 ≤ x6 ∧ x6 ≤ 2147483647) : fx_VC (fx_Mx X) 384 [x3, x4, x5, x6] S (fx_p384.getD 3 ([], .inl (0, 0))) := fx_VCR_ok (show fx_VCR (fx_Mx X) 384 [x3, x4, x5, x6] S _ from q384_3 S x3 x4 x5 x6 hS g3 g4 g5 g6)
set_option maxRecDepth 40000 in
theorem u384_4 (X : (Int → Int) × Int) (S : fx_S) (x3 x4 x5 x6 : Int) (hS : fx_Sok S) (g3 : -2147483648 ≤ x3 ∧ x3 ≤ 2147483647) (g4 : -2147483648 ≤ x4 ∧ x4 ≤ 2147483647) (g5 : -2147483648 ≤ x5 ∧ x5 ≤ 2147483647) (g6 : -2147483648 ≤ x6 ∧ x6 ≤ 2147483647) : fx_VC (fx_Mx X) 384 [x3, x4, x5, x6] S (fx_p384.getD 4 ([], .inl (0, 0))) := fx_VCR_ok (show fx_VCR (fx_Mx X) 384 [x3, x4, x5, x6] S _ from q384_4 S x3 x4 x5 x6 hS g3 g4 g5 g6)
set_option maxRecDepth 40000 in
theorem u384_5 (X : (Int → Int) × Int) (S : fx_S) (x3 x4 x5 x6 : Int) (hS : fx_Sok S) (g3 : -2147483648 ≤ x3 ∧ x3 ≤ 2147483647) (g4 : -2147483648 ≤ x4 ∧ x4 ≤ 2147483647) (g5 : -2147483648 ≤ x5 ∧ x5 ≤ 2147483647) (g6 : -2147483648 ≤ x6 ∧ x6 ≤ 2147483647) : fx_VC (fx_Mx X) 384 [x3, x4, x5, x6] S (fx_p384.getD 5 ([], .inl (0, 0))) := fx_VCR_ok (show fx_VCR (fx_Mx X) 384 [x3, x4, x5, x6] S _ from q384_5 S x3 x4 x5 x6 hS g3 g4 g5 g6)
set_option maxRecDepth 40000 in
theorem u384_6 (X : (Int → Int) × Int) (S : fx_S) (x3 x4 x5 x6 : Int) (hS : fx_Sok S) (g3 : -2147483648 ≤ x3 ∧ x3 ≤ 2147483647) (g4 : -2147483648 ≤ x4 ∧ x4 ≤ 2147483647) (g5 : -2147483648 ≤ x5 ∧ x5 ≤ 2147483647) (g6 : -2147483648 ≤ x6 ∧ x6 ≤ 2147483647) : fx_VC (fx_Mx X) 384 [x3, x4, x5, x6] S (fx_p384.getD 6 ([], .inl (0, 0))) := fx_VCR_ok (show fx_VCR (fx_Mx X) 384 [x3, x4, x5, x6] S _ from q384_6 S x3 x4 x5 x6 hS g3 g4 g5 g6)
set_option maxRecDepth 40000 in
theorem u384_7 (X : (Int → Int) × Int) (S : fx_S) (x3 x4 x5 x6 : Int) (hS : fx_Sok S) (g3 : -2147483648 ≤ x3 ∧ x3 ≤ 2147483647) (g4 : -2147483648 ≤ x4 ∧ x4 ≤ 2147483647) (g5 : -2147483648 ≤ x5 ∧ x5 ≤ 2147483647) (g6 : -2147483648 ≤ x6 ∧ x6 ≤ 2147483647) : fx_VC (fx_Mx X) 384 [x3, x4, x5, x6] S (fx_p384.getD 7 ([], .inl (0, 0))) := fx_VCR_ok (show fx_VCR (fx_Mx X) 384 [x3, x4, x5, x6] S _ from q384_7 S x3 x4 x5 x6 hS g3 g4 g5 g6)
set_option maxRecDepth 40000 in
theorem u384_8 (X : (Int → Int) × Int) (S : fx_S) (x3 x4 x5 x6 : Int) (hS : fx_Sok S) (g3 : -2147483648 ≤ x3 ∧ x3 ≤ 2147483647) (g4 : -2147483648 ≤ x4 ∧ x4 ≤ 2147483647) (g5 : -2147483648 ≤ x5 ∧ x5 ≤ 2147483647) (g6 : -2147483648 ≤ x6 ∧ x6 ≤ 2147483647) : fx_VC (fx_Mx X) 384 [x3, x4, x5, x6] S (fx_p384.getD 8 ([], .inl (0, 0))) := fx_VCR_ok (show fx_VCR (fx_Mx X) 384 [x3, x4, x5, x6] S _ from q384_8 S x3 x4 x5 x6 hS g3 g4 g5 g6)
set_option maxRecDepth 40000 in
theorem u384_9 (X : (Int → Int) × Int) (S : fx_S) (x3 x4 x5 x6 : Int) (hS : fx_Sok S) (g3 : -2147483648 ≤ x3 ∧ x3 ≤ 2147483647) (g4 : -2147483648 ≤ x4 ∧ x4 ≤ 2147483647) (g5 : -2147483648 ≤ x5 ∧ x5 ≤ 2147483647) (g6 : -2147483648 ≤ x6 ∧ x6 ≤ 2147483647) : fx_VC (fx_Mx X) 384 [x3, x4, x5, x6] S (fx_p384.getD 9 ([], .inl (0, 0))) := fx_VCR_ok (show fx_VCR (fx_Mx X) 384 [x3, x4, x5, x6] S _ from q384_9 S x3 x4 x5 x6 hS g3 g4 g5 g6)
set_option maxRecDepth 40000 in
theorem w384 (X : (Int → Int) × Int) (zs : List Int) (S : fx_S) (hS : fx_Sok S) (hz : zs.length = (fx_lv0 fx_t384.2.2.1 0).2) (rz : fx_rz fx_t384 zs S) : ∀ p ∈ fx_p384, fx_VC (fx_Mx X) 384 zs S p := by
  obtain ⟨x3, x4, x5, x6, rfl⟩ := fx_len4 hz
  have g3 : -2147483648 ≤ x3 ∧ x3 ≤ 2147483647 := rz 3 _ rfl
  have g4 : -2147483648 ≤ x4 ∧ x4 ≤ 2147483647 := rz 4 _ rfl
  have g5 : -2147483648 ≤ x5 ∧ x5 ≤ 2147483647 := rz 5 _ rfl
  have g6 : -2147483648 ≤ x6 ∧ x6 ≤ 2147483647 := rz 6 _ rfl
  exact List.forall_mem_cons.mpr ⟨(u384_0 X S x3 x4 x5 x6 hS g3 g4 g5 g6), List.forall_mem_cons.mpr ⟨(u384_1 X S x3 x4 x5 x6 hS g3 g4 g5 g6), List.forall_mem_cons.mpr ⟨(u384_2 X S x3 x4 x5 x6 hS g3 g4 g5 g6), List.forall_mem_cons.mpr ⟨(u384_3 X S x3 x4 x5 x6 hS g3 g4 g5 g6), List.forall_mem_cons.mpr ⟨(u384_4 X S x3 x4 x5 x6 hS g3 g4 g5 g6), List.forall_mem_cons.mpr ⟨(u384_5 X S x3 x4 x5 x6 hS g3 g4 g5 g6), List.forall_mem_cons.mpr ⟨(u384_6 X S x3 x4 x5 x6 hS g3 g4 g5 g6), List.forall_mem_cons.mpr ⟨(u384_7 X S x3 x4 x5 x6 hS g3 g4 g5 g6), List.forall_mem_cons.mpr ⟨(u384_8 X S x3 x4 x5 x6 hS g3 g4 g5 g6), List.forall_mem_cons.mpr ⟨(u384_9 X S x3 x4 x5 x6 hS g3 g4 g5 g6), fun _ h => absurd h List.not_mem_nil⟩⟩⟩⟩⟩⟩⟩⟩⟩⟩
set_option maxRecDepth 40000 in
theorem u385_0 (X : (Int → Int) × Int) (S : fx_S) (x1 x2 x3 : Int) (hS : fx_Sok S) (g1 : -2147483648 ≤ x1 ∧ x1 ≤ 2147483647) (g2 : -2147483648 ≤ x2 ∧ x2 ≤ 2147483647) (g3 : -2147483648 ≤ x3 ∧ x3 ≤ 2147483647) : fx_VC (fx_Mx X) 385 [x1, x2, x3] S (fx_p385.getD 0 ([], .inl (0, 0))) := fx_VCR_ok (show fx_VCR (fx_Mx X) 385 [x1, x2, x3] S _ from q385_0 S x1 x2 x3 hS g1 g2 g3)
set_option maxRecDepth 40000 in
theorem u385_1 (X : (Int → Int) × Int) (S : fx_S) (x1 x2 x3 : Int) (hS : fx_Sok S) (g1 : -2147483648 ≤ x1 ∧ x1 ≤ 2147483647) (g2 : -2147483648 ≤ x2 ∧ x2 ≤ 2147483647) (g3 : -2147483648 ≤ x3 ∧ x3 ≤ 2147483647) : fx_VC (fx_Mx X) 385 [x1, x2, x3] S (fx_p385.getD 1 ([], .inl (0, 0))) := fx_VCR_ok (show fx_VCR (fx_Mx X) 385 [x1, x2, x3] S _ from q385_1 S x1 x2 x3 hS g1 g2 g3)
set_option maxRecDepth 40000 in
theorem w385 (X : (Int → Int) × Int) (zs : List Int) (S : fx_S) (hS : fx_Sok S) (hz : zs.length = (fx_lv0 fx_t385.2.2.1 0).2) (rz : fx_rz fx_t385 zs S) : ∀ p ∈ fx_p385, fx_VC (fx_Mx X) 385 zs S p := by
  obtain ⟨x1, x2, x3, rfl⟩ := fx_len3 hz
  have g1 : -2147483648 ≤ x1 ∧ x1 ≤ 2147483647 := rz 1 _ rfl
  have g2 : -2147483648 ≤ x2 ∧ x2 ≤ 2147483647 := rz 2 _ rfl
  have g3 : -2147483648 ≤ x3 ∧ x3 ≤ 2147483647 := rz 3 _ rfl
  exact List.forall_mem_cons.mpr ⟨(u385_0 X S x1 x2 x3 hS g1 g2 g3), List.forall_mem_cons.mpr ⟨(u385_1 X S x1 x2 x3 hS g1 g2 g3), fun _ h => absurd h List.not_mem_nil⟩⟩
set_option maxRecDepth 40000 in
theorem u386_0 (X : (Int → Int) × Int) (S : fx_S) (x1 x2 : Int) (hS : fx_Sok S) (g1 : -2147483648 ≤ x1 ∧ x1 ≤ 2147483647) (g2 : -2147483648 ≤ x2 ∧ x2 ≤ 2147483647) : fx_VC (fx_Mx X) 386 [x1, x2] S (fx_p386.getD 0 ([], .inl (0, 0))) := fx_VCR_ok (show fx_VCR (fx_Mx X) 386 [x1, x2] S _ from q386_0 S x1 x2 hS g1 g2)
set_option maxRecDepth 40000 in
theorem u386_1 (X : (Int → Int) × Int) (S : fx_S) (x1 x2 : Int) (hS : fx_Sok S) (g1 : -2147483648 ≤ x1 ∧ x1 ≤ 2147483647) (g2 : -2147483648 ≤ x2 ∧ x2 ≤ 2147483647) : fx_VC (fx_Mx X) 386 [x1, x2] S (fx_p386.getD 1 ([], .inl (0, 0))) := fx_VCR_ok (show fx_VCR (fx_Mx X) 386 [x1, x2] S _ from q386_1 S x1 x2 hS g1 g2)
set_option maxRecDepth 40000 in
theorem u386_2 (X : (Int → Int) × Int) (S : fx_S) (x1 x2 : Int) (hS : fx_Sok S) (g1 : -2147483648 ≤ x1 ∧ x1 ≤ 2147483647) (g2 : -2147483648 ≤ x2 ∧ x2 ≤ 2147483647) : fx_VC (fx_Mx X) 386 [x1, x2] S (fx_p386.getD 2 ([], .inl (0, 0))) := fx_VCR_ok (show fx_VCR (fx_Mx X) 386 [x1, x2] S _ from q386_2 S x1 x2 hS g1 g2)
set_option maxRecDepth 40000 in
theorem u386_3 (X : (Int → Int) × Int) (S : fx_S) (x1 x2 : Int) (hS : fx_Sok S) (g1 : -2147483648 ≤ x1 ∧ x1 ≤ 2147483647) (g2 : -2147483648 ≤ x2 ∧ x2 ≤ 2147483647) : fx_VC (fx_Mx X) 386 [x1, x2] S (fx_p386.getD 3 ([], .inl (0, 0))) := fx_VCR_ok (show fx_VCR (fx_Mx X) 386 [x1, x2] S _ from q386_3 S x1 x2 hS g1 g2)
set_option maxRecDepth 40000 in
theorem w386 (X : (Int → Int) × Int) (zs : List Int) (S : fx_S) (hS : fx_Sok S) (hz : zs.length = (fx_lv0 fx_t386.2.2.1 0).2) (rz : fx_rz fx_t386 zs S) : ∀ p ∈ fx_p386, fx_VC (fx_Mx X) 386 zs S p := by
  obtain ⟨x1, x2, rfl⟩ := fx_len2 hz
  have g1 : -2147483648 ≤ x1 ∧ x1 ≤ 2147483647 := rz 1 _ rfl
  have g2 : -2147483648 ≤ x2 ∧ x2 ≤ 2147483647 := rz 2 _ rfl
  exact List.forall_mem_cons.mpr ⟨(u386_0 X S x1 x2 hS g1 g2), List.forall_mem_cons.mpr ⟨(u386_1 X S x1 x2 hS g1 g2), List.forall_mem_cons.mpr ⟨(u386_2 X S x1 x2 hS g1 g2), List.forall_mem_cons.mpr ⟨(u386_3 X S x1 x2 hS g1 g2), fun _ h => absurd h List.not_mem_nil⟩⟩⟩⟩
set_option maxRecDepth 40000 in
theorem u387_0 (X : (Int → Int) × Int) (S : fx_S) (x1 : Int) (hS : fx_Sok S) (g1 : -2147483648 ≤ x1 ∧ x1 ≤ 2147483647) : fx_VC (fx_Mx X) 387 [x1] S (fx_p387.getD 0 ([], .inl (0, 0))) := fx_VCR_ok (show fx_VCR (fx_Mx X) 387 [x1] S _ from q387_0 S x1 hS g1)
set_option maxRecDepth 40000 in
theorem w387 (X : (Int → Int) × Int) (zs : List Int) (S : fx_S) (hS : fx_Sok S) (hz : zs.length = (fx_lv0 fx_t387.2.2.1 0).2) (rz : fx_rz fx_t387 zs S) : ∀ p ∈ fx_p387, fx_VC (fx_Mx X) 387 zs S p := by
  obtain ⟨x1, rfl⟩ := fx_len1 hz
  have g1 : -2147483648 ≤ x1 ∧ x1 ≤ 2147483647 := rz 1 _ rfl
  exact List.forall_mem_cons.mpr ⟨(u387_0 X S x1 hS g1), fun _ h => absurd h List.not_mem_nil⟩
set_option maxRecDepth 40000 in
theorem u388_0 (X : (Int → Int) × Int) (S : fx_S) (hS : fx_Sok S) : fx_VC (fx_Mx X) 388 [] S (fx_p388.getD 0 ([], .inl (0, 0))) := fx_VCR_ok (show fx_VCR (fx_Mx X) 388 [] S _ from q388_0 S hS)
set_option maxRecDepth 40000 in
theorem w388 (X : (Int → Int) × Int) (zs : List Int) (S : fx_S) (hS : fx_Sok S) (hz : zs.length = (fx_lv0 fx_t388.2.2.1 0).2) (rz : fx_rz fx_t388 zs S) : ∀ p ∈ fx_p388, fx_VC (fx_Mx X) 388 zs S p := by
  obtain rfl := List.eq_nil_of_length_eq_zero hz
  exact List.forall_mem_cons.mpr ⟨(u388_0 X S hS), fun _ h => absurd h List.not_mem_nil⟩
set_option maxRecDepth 40000 in
theorem u389_0 (X : (Int → Int) × Int) (S : fx_S) (x2 x3 : Int) (hS : fx_Sok S) (g2 : -2147483648 ≤ x2 ∧ x2 ≤ 2147483647) (g3 : -2147483648 ≤ x3 ∧ x3 ≤ 2147483647) : fx_VC (fx_Mx X) 389 [x2, x3] S (fx_p389.getD 0 ([], .inl (0, 0))) := fx_VCR_ok (show fx_VCR (fx_Mx X) 389 [x2, x3] S _ from fun v2 e2 b2 v3 e3 c1 v4 e4 z Z kz bz pz => q389_0 S x2 x3 hS g2 g3 v2 e2 b2 v3 e3 c1 v4 (e4.trans (fx_bq0 _ _)) z Z kz bz pz)
set_option maxRecDepth 40000 in
theorem u389_1 (X : (Int → Int) × Int) (S : fx_S) (x2 x3 : Int) (hS : fx_Sok S) (g2 : -2147483648 ≤ x2 ∧ x2 ≤ 2147483647) (g3 : -2147483648 ≤ x3 ∧ x3 ≤ 2147483647) : fx_VC (fx_Mx X) 389 [x2, x3] S (fx_p389.getD 1 ([], .inl (0, 0))) := fx_VCR_ok (show fx_VCR (fx_Mx X) 389 [x2, x3] S _ from q389_1 S x2 x3 hS g2 g3)
set_option maxRecDepth 40000 in
theorem w389 (X : (Int → Int) × Int) (zs : List Int) (S : fx_S) (hS : fx_Sok S) (hz : zs.length = (fx_lv0 fx_t389.2.2.1 0).2) (rz : fx_rz fx_t389 zs S) : ∀ p ∈ fx_p389, fx_VC (fx_Mx X) 389 zs S p := by
  obtain ⟨x2, x3, rfl⟩ := fx_len2 hz
  have g2 : -2147483648 ≤ x2 ∧ x2 ≤ 2147483647 := rz 2 _ rfl
  have g3 : -2147483648 ≤ x3 ∧ x3 ≤ 2147483647 := rz 3 _ rfl
  exact List.forall_mem_cons.mpr ⟨(u389_0 X S x2 x3 hS g2 g3), List.forall_mem_cons.mpr ⟨(u389_1 X S x2 x3 hS g2 g3), fun _ h => absurd h List.not_mem_nil⟩⟩
set_option maxRecDepth 40000 in
theorem u390_0 (X : (Int → Int) × Int) (S : fx_S) (x1 x2 : Int) (hS : fx_Sok S) (g2 : -2147483648 ≤ x2 ∧ x2 ≤ 2147483647) : fx_VC (fx_Mx X) 390 [x1, x2] S (fx_p390.getD 0 ([], .inl (0, 0))) := fx_VCR_ok (show fx_VCR (fx_Mx X) 390 [x1, x2] S _ from q390_0 S x1 x2 hS g2)
set_option maxRecDepth 40000 in
theorem u390_1 (X : (Int → Int) × Int) (S : fx_S) (x1 x2 : Int) (hS : fx_Sok S) (g2 : -2147483648 ≤ x2 ∧ x2 ≤ 2147483647) : fx_VC (fx_Mx X) 390 [x1, x2] S (fx_p390.getD 1 ([], .inl (0, 0))) := fx_VCR_ok (show fx_VCR (fx_Mx X) 390 [x1, x2] S _ from q390_1 S x1 x2 hS g2)
set_option maxRecDepth 40000 in
theorem u390_2 (X : (Int → Int) × Int) (S : fx_S) (x1 x2 : Int) (hS : fx_Sok S) (g2 : -2147483648 ≤ x2 ∧ x2 ≤ 2147483647) : fx_VC (fx_Mx X) 390 [x1, x2] S (fx_p390.getD 2 ([], .inl (0, 0))) := fx_VCR_ok (show fx_VCR (fx_Mx X) 390 [x1, x2] S _ from q390_2 S x1 x2 hS g2)
set_option maxRecDepth 40000 in
theorem w390 (X : (Int → Int) × Int) (zs : List Int) (S : fx_S) (hS : fx_Sok S) (hz : zs.length = (fx_lv0 fx_t390.2.2.1 0).2) (rz : fx_rz fx_t390 zs S) : ∀ p ∈ fx_p390, fx_VC (fx_Mx X) 390 zs S p := by
  obtain ⟨x1, x2, rfl⟩ := fx_len2 hz
  have g2 : -2147483648 ≤ x2 ∧ x2 ≤ 2147483647 := rz 2 _ rfl
  exact List.forall_mem_cons.mpr ⟨(u390_0 X S x1 x2 hS g2), List.forall_mem_cons.mpr ⟨(u390_1 X S x1 x2 hS g2), List.forall_mem_cons.mpr ⟨(u390_2 X S x1 x2 hS g2), fun _ h => absurd h List.not_mem_nil⟩⟩⟩
set_option maxRecDepth 40000 in
theorem u391_0 (X : (Int → Int) × Int) (S : fx_S) (x1 x2 : Int) (hS : fx_Sok S) (g1 : -2147483648 ≤ x1 ∧ x1 ≤ 2147483647) (g2 : -2147483648 ≤ x2 ∧ x2 ≤ 2147483647) : fx_VC (fx_Mx X) 391 [x1, x2] S (fx_p391.getD 0 ([], .inl (0, 0))) := fx_VCR_ok (show fx_VCR (fx_Mx X) 391 [x1, x2] S _ from q391_0 S x1 x2 hS g1 g2)
set_option maxRecDepth 40000 in
theorem u391_1 (X : (Int → Int) × Int) (S : fx_S) (x1 x2 : Int) (hS : fx_Sok S) (g1 : -2147483648 ≤ x1 ∧ x1 ≤ 2147483647) (g2 : -2147483648 ≤ x2 ∧ x2 ≤ 2147483647) : fx_VC (fx_Mx X) 391 [x1, x2] S (fx_p391.getD 1 ([], .inl (0, 0))) := fx_VCR_ok (show fx_VCR (fx_Mx X) 391 [x1, x2] S _ from q391_1 S x1 x2 hS g1 g2)
set_option maxRecDepth 40000 in
theorem w391 (X : (Int → Int) × Int) (zs : List Int) (S : fx_S) (hS : fx_Sok S) (hz : zs.length = (fx_lv0 fx_t391.2.2.1 0).2) (rz : fx_rz fx_t391 zs S) : ∀ p ∈ fx_p391, fx_VC (fx_Mx X) 391 zs S p := by
  obtain ⟨x1, x2, rfl⟩ := fx_len2 hz
  have g1 : -2147483648 ≤ x1 ∧ x1 ≤ 2147483647 := rz 1 _ rfl
  have g2 : -2147483648 ≤ x2 ∧ x2 ≤ 2147483647 := rz 2 _ rfl
  exact List.forall_mem_cons.mpr ⟨(u391_0 X S x1 x2 hS g1 g2), List.forall_mem_cons.mpr ⟨(u391_1 X S x1 x2 hS g1 g2), fun _ h => absurd h List.not_mem_nil⟩⟩
set_option maxRecDepth 40000 in
theorem u392_0 (X : (Int → Int) × Int) (S : fx_S) (x1 x3 : Int) (hS : fx_Sok S) (g1 : 0 ≤ x1 ∧ x1 < S.2.2) (g3 : -2147483648 ≤ x3 ∧ x3 ≤ 2147483647) : fx_VC (fx_Mx X) 392 [x1, x3] S (fx_p392.getD 0 ([], .inl (0, 0))) := fx_VCR_ok (show fx_VCR (fx_Mx X) 392 [x1, x3] S _ from q392_0 S x1 x3 hS g1 g3)
set_option maxRecDepth 40000 in
theorem u392_1 (X : (Int → Int) × Int) (S : fx_S) (x1 x3 : Int) (hS : fx_Sok S) (g1 : 0 ≤ x1 ∧ x1 < S.2.2) (g3 : -2147483648 ≤ x3 ∧ x3 ≤ 2147483647) : fx_VC (fx_Mx X) 392 [x1, x3] S (fx_p392.getD 1 ([], .inl (0, 0))) := fx_VCR_ok (show fx_VCR (fx_Mx X) 392 [x1, x3] S _ from q392_1 S x1 x3 hS g1 g3)
