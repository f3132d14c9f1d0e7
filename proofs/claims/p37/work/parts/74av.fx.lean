/-! FX: the paths of the entries, all -/
set_option maxRecDepth 40000 in
theorem u344_1 (X : (Int → Int) × Int) (S : fx_S) (x1 : Int) (hS : fx_Sok S) (g1 : 0 ≤ x1 ∧ x1 < S.2.2) : fx_VC (fx_Mx X) 344 [x1] S (fx_p344.getD 1 ([], .inl (0, 0))) := fx_VCR_ok (show fx_VCR (fx_Mx X) 344 [x1] S _ from q344_1 S x1 hS g1)
set_option maxRecDepth 40000 in
theorem u344_2 (X : (Int → Int) × Int) (S : fx_S) (x1 : Int) (hS : fx_Sok S) (g1 : 0 ≤ x1 ∧ x1 < S.2.2) : fx_VC (fx_Mx X) 344 [x1] S (fx_p344.getD 2 ([], .inl (0, 0))) := fx_VCR_ok (show fx_VCR (fx_Mx X) 344 [x1] S _ from q344_2 S x1 hS g1)
set_option maxRecDepth 40000 in
theorem w344 (X : (Int → Int) × Int) (zs : List Int) (S : fx_S) (hS : fx_Sok S) (hz : zs.length = (fx_lv0 fx_t344.2.2.1 0).2) (rz : fx_rz fx_t344 zs S) : ∀ p ∈ fx_p344, fx_VC (fx_Mx X) 344 zs S p := by
  obtain ⟨x1, rfl⟩ := fx_len1 hz
  have g1 : 0 ≤ x1 ∧ x1 < S.2.2 := rz 1 _ rfl
  exact List.forall_mem_cons.mpr ⟨(u344_0 X S x1 hS g1), List.forall_mem_cons.mpr ⟨(u344_1 X S x1 hS g1), List.forall_mem_cons.mpr ⟨(u344_2 X S x1 hS g1), fun _ h => absurd h List.not_mem_nil⟩⟩⟩
set_option maxRecDepth 40000 in
theorem u345_0 (X : (Int → Int) × Int) (S : fx_S) (x1 : Int) (hS : fx_Sok S) (g1 : -2147483648 ≤ x1 ∧ x1 ≤ 2147483647) : fx_VC (fx_Mx X) 345 [x1] S (fx_p345.getD 0 ([], .inl (0, 0))) := fx_VCR_ok (show fx_VCR (fx_Mx X) 345 [x1] S _ from q345_0 S x1 hS g1)
set_option maxRecDepth 40000 in
theorem u345_1 (X : (Int → Int) × Int) (S : fx_S) (x1 : Int) (hS : fx_Sok S) (g1 : -2147483648 ≤ x1 ∧ x1 ≤ 2147483647) : fx_VC (fx_Mx X) 345 [x1] S (fx_p345.getD 1 ([], .inl (0, 0))) := fx_VCR_ok (show fx_VCR (fx_Mx X) 345 [x1] S _ from q345_1 S x1 hS g1)
set_option maxRecDepth 40000 in
theorem u345_2 (X : (Int → Int) × Int) (S : fx_S) (x1 : Int) (hS : fx_Sok S) (g1 : -2147483648 ≤ x1 ∧ x1 ≤ 2147483647) : fx_VC (fx_Mx X) 345 [x1] S (fx_p345.getD 2 ([], .inl (0, 0))) := fx_VCR_ok (show fx_VCR (fx_Mx X) 345 [x1] S _ from q345_2 S x1 hS g1)
set_option maxRecDepth 40000 in
theorem w345 (X : (Int → Int) × Int) (zs : List Int) (S : fx_S) (hS : fx_Sok S) (hz : zs.length = (fx_lv0 fx_t345.2.2.1 0).2) (rz : fx_rz fx_t345 zs S) : ∀ p ∈ fx_p345, fx_VC (fx_Mx X) 345 zs S p := by
  obtain ⟨x1, rfl⟩ := fx_len1 hz
  have g1 : -2147483648 ≤ x1 ∧ x1 ≤ 2147483647 := rz 1 _ rfl
  exact List.forall_mem_cons.mpr ⟨(u345_0 X S x1 hS g1), List.forall_mem_cons.mpr ⟨(u345_1 X S x1 hS g1), List.forall_mem_cons.mpr ⟨(u345_2 X S x1 hS g1), fun _ h => absurd h List.not_mem_nil⟩⟩⟩
set_option maxRecDepth 40000 in
theorem u346_0 (X : (Int → Int) × Int) (S : fx_S) (x1 x2 : Int) (hS : fx_Sok S) (g1 : -2147483648 ≤ x1 ∧ x1 ≤ 2147483647) (g2 : -2147483648 ≤ x2 ∧ x2 ≤ 2147483647) : fx_VC (fx_Mx X) 346 [x1, x2] S (fx_p346.getD 0 ([], .inl (0, 0))) := fx_VCR_ok (show fx_VCR (fx_Mx X) 346 [x1, x2] S _ from q346_0 S x1 x2 hS g1 g2)
set_option maxRecDepth 40000 in
theorem u346_1 (X : (Int → Int) × Int) (S : fx_S) (x1 x2 : Int) (hS : fx_Sok S) (g1 : -2147483648 ≤ x1 ∧ x1 ≤ 2147483647) (g2 : -2147483648 ≤ x2 ∧ x2 ≤ 2147483647) : fx_VC (fx_Mx X) 346 [x1, x2] S (fx_p346.getD 1 ([], .inl (0, 0))) := fx_VCR_ok (show fx_VCR (fx_Mx X) 346 [x1, x2] S _ from q346_1 S x1 x2 hS g1 g2)
set_option maxRecDepth 40000 in
theorem u346_2 (X : (Int → Int) × Int) (S : fx_S) (x1 x2 : Int) (hS : fx_Sok S) (g1 : -2147483648 ≤ x1 ∧ x1 ≤ 2147483647) (g2 : -2147483648 ≤ x2 ∧ x2 ≤ 2147483647) : fx_VC (fx_Mx X) 346 [x1, x2] S (fx_p346.getD 2 ([], .inl (0, 0))) := fx_VCR_ok (show fx_VCR (fx_Mx X) 346 [x1, x2] S _ from q346_2 S x1 x2 hS g1 g2)
set_option maxRecDepth 40000 in
theorem u346_3 (X : (Int → Int) × Int) (S : fx_S) (x1 x2 : Int) (hS : fx_Sok S) (g1 : -2147483648 ≤ x1 ∧ x1 ≤ 2147483647) (g2 : -2147483648 ≤ x2 ∧ x2 ≤ 2147483647) : fx_VC (fx_Mx X) 346 [x1, x2] S (fx_p346.getD 3 ([], .inl (0, 0))) := fx_VCR_ok (show fx_VCR (fx_Mx X) 346 [x1, x2] S _ from q346_3 S x1 x2 hS g1 g2)
set_option maxRecDepth 40000 in
theorem u346_4 (X : (Int → Int) × Int) (S : fx_S) (x1 x2 : Int) (hS : fx_Sok S) (g1 : -2147483648 ≤ x1 ∧ x1 ≤ 2147483647) (g2 : -2147483648 ≤ x2 ∧ x2 ≤ 2147483647) : fx_VC (fx_Mx X) 346 [x1, x2] S (fx_p346.getD 4 ([], .inl (0, 0))) := fx_VCR_ok (show fx_VCR (fx_Mx X) 346 [x1, x2] S _ from q346_4 S x1 x2 hS g1 g2)
set_option maxRecDepth 40000 in
theorem u346_5 (X : (Int → Int) × Int) (S : fx_S) (x1 x2 : Int) (hS : fx_Sok S) (g1 : -2147483648 ≤ x1 ∧ x1 ≤ 2147483647) (g2 : -2147483648 ≤ x2 ∧ x2 ≤ 2147483647) : fx_VC (fx_Mx X) 346 [x1, x2] S (fx_p346.getD 5 ([], .inl (0, 0))) := fx_VCR_ok (show fx_VCR (fx_Mx X) 346 [x1, x2] S _ from q346_5 S x1 x2 hS g1 g2)
set_option maxRecDepth 40000 in
theorem u346_6 (X : (Int → Int) × Int) (S : fx_S) (x1 x2 : Int) (hS : fx_Sok S) (g1 : -2147483648 ≤ x1 ∧ x1 ≤ 2147483647) (g2 : -2147483648 ≤ x2 ∧ x2 ≤ 2147483647) : fx_VC (fx_Mx X) 346 [x1, x2] S (fx_p346.getD 6 ([], .inl (0, 0))) := fx_VCR_ok (show fx_VCR (fx_Mx X) 346 [x1, x2] S _ from q346_6 S x1 x2 hS g1 g2)
set_option maxRecDepth 40000 in
theorem w346 (X : (Int → Int) × Int) (zs : List Int) (S : fx_S) (hS : fx_Sok S) (hz : zs.length = (fx_lv0 fx_t346.2.2.1 0).2) (rz : fx_rz fx_t346 zs S) : ∀ p ∈ fx_p346, fx_VC (fx_Mx X) 346 zs S p := by
  obtain ⟨x1, x2, rfl⟩ := fx_len2 hz
  have g1 : -2147483648 ≤ x1 ∧ x1 ≤ 2147483647 := rz 1 _ rfl
  have g2 : -2147483648 ≤ x2 ∧ x2 ≤ 2147483647 := rz 2 _ rfl
  exact List.forall_mem_cons.mpr ⟨(u346_0 X S x1 x2 hS g1 g2), List.forall_mem_cons.mpr ⟨(u346_1 X S x1 x2 hS g1 g2), List.forall_mem_cons.mpr ⟨(u346_2 X S x1 x2 hS g1 g2), List.forall_mem_cons.mpr ⟨(u346_3 X S x1 x2 hS g1 g2), List.forall_mem_cons.mpr ⟨(u346_4 X S x1 x2 hS g1 g2), List.forall_mem_cons.mpr ⟨(u346_5 X S x1 x2 hS g1 g2), List.forall_mem_cons.mpr ⟨(u346_6 X S x1 x2 hS g1 g2), fun _ h => absurd h List.not_mem_nil⟩⟩⟩⟩⟩⟩⟩
set_option maxRecDepth 40000 in
theorem u347_0 (X : (Int → Int) × Int) (S : fx_S) (x0 x1 : Int) (hS : fx_Sok S) (g0 : 0 ≤ x0 ∧ x0 < S.2.2) (g1 : -2147483648 ≤ x1 ∧ x1 ≤ 2147483647) : fx_VC (fx_Mx X) 347 [x0, x1] S (fx_p347.getD 0 ([], .inl (0, 0))) := fx_VCR_ok (show fx_VCR (fx_Mx X) 347 [x0, x1] S _ from q347_0 S x0 x1 hS g0 g1)
set_option maxRecDepth 40000 in
theorem u347_1 (X : (Int → Int) × Int) (S : fx_S) (x0 x1 : Int) (hS : fx_Sok S) (g0 : 0 ≤ x0 ∧ x0 < S.2.2) (g1 : -2147483648 ≤ x1 ∧ x1 ≤ 2147483647) : fx_VC (fx_Mx X) 347 [x0, x1] S (fx_p347.getD 1 ([], .inl (0, 0))) := fx_VCR_ok (show fx_VCR (fx_Mx X) 347 [x0, x1] S _ from q347_1 S x0 x1 hS g0 g1)
set_option maxRecDepth 40000 in
theorem w347 (X : (Int → Int) × Int) (zs : List Int) (S : fx_S) (hS : fx_Sok S) (hz : zs.length = (fx_lv0 fx_t347.2.2.1 0).2) (rz : fx_rz fx_t347 zs S) : ∀ p ∈ fx_p347, fx_VC (fx_Mx X) 347 zs S p := by
  obtain ⟨x0, x1, rfl⟩ := fx_len2 hz
  have g0 : 0 ≤ x0 ∧ x0 < S.2.2 := rz 0 _ rfl
  have g1 : -2147483648 ≤ x1 ∧ x1 ≤ 2147483647 := rz 1 _ rfl
  exact List.forall_mem_cons.mpr ⟨(u347_0 X S x0 x1 hS g0 g1), List.forall_mem_cons.mpr ⟨(u347_1 X S x0 x1 hS g0 g1), fun _ h => absurd h List.not_mem_nil⟩⟩
set_option maxRecDepth 40000 in
theorem u348_0 (X : (Int → Int) × Int) (S : fx_S) (x1 : Int) (hS : fx_Sok S) (g1 : 0 ≤ x1 ∧ x1 < S.2.2) : fx_VC (fx_Mx X) 348 [x1] S (fx_p348.getD 0 ([], .inl (0, 0))) := fx_VCR_ok (show fx_VCR (fx_Mx X) 348 [x1] S _ from q348_0 S x1 hS g1)
set_option maxRecDepth 40000 in
theorem w348 (X : (Int → Int) × Int) (zs : List Int) (S : fx_S) (hS : fx_Sok S) (hz : zs.length = (fx_lv0 fx_t348.2.2.1 0).2) (rz : fx_rz fx_t348 zs S) : ∀ p ∈ fx_p348, fx_VC (fx_Mx X) 348 zs S p := by
  obtain ⟨x1, rfl⟩ := fx_len1 hz
  have g1 : 0 ≤ x1 ∧ x1 < S.2.2 := rz 1 _ rfl
  exact List.forall_mem_cons.mpr ⟨(u348_0 X S x1 hS g1), fun _ h => absurd h List.not_mem_nil⟩
set_option maxRecDepth 40000 in
theorem u349_0 (X : (Int → Int) × Int) (S : fx_S) (x1 : Int) (hS : fx_Sok S) (g1 : -2147483648 ≤ x1 ∧ x1 ≤ 2147483647) : fx_VC (fx_Mx X) 349 [x1] S (fx_p349.getD 0 ([], .inl (0, 0))) := fx_VCR_ok (show fx_VCR (fx_Mx X) 349 [x1] S _ from q349_0 S x1 hS g1)
set_option maxRecDepth 40000 in
theorem u349_1 (X : (Int → Int) × Int) (S : fx_S) (x1 : Int) (hS : fx_Sok S) (g1 : -2147483648 ≤ x1 ∧ x1 ≤ 2147483647) : fx_VC (fx_Mx X) 349 [x1] S (fx_p349.getD 1 ([], .inl (0, 0))) := fx_VCR_ok (show fx_VCR (fx_Mx X) 349 [x1] S _ from q349_1 S x1 hS g1)
set_option maxRecDepth 40000 in
theorem w349 (X : (Int → Int) × Int) (zs : List Int) (S : fx_S) (hS : fx_Sok S) (hz : zs.length = (fx_lv0 fx_t349.2.2.1 0).2) (rz : fx_rz fx_t349 zs S) : ∀ p ∈ fx_p349, fx_VC (fx_Mx X) 349 zs S p := by
  obtain ⟨x1, rfl⟩ := fx_len1 hz
  have g1 : -2147483648 ≤ x1 ∧ x1 ≤ 2147483647 := rz 1 _ rfl
  exact List.forall_mem_cons.mpr ⟨(u349_0 X S x1 hS g1), List.forall_mem_cons.mpr ⟨(u349_1 X S x1 hS g1), fun _ h => absurd h List.not_mem_nil⟩⟩
set_option maxRecDepth 40000 in
theorem u350_0 (X : (Int → Int) × Int) (S : fx_S) (x1 x2 x3 : Int) (hS : fx_Sok S) (g2 : -2147483648 ≤ x2 ∧ x2 ≤ 2147483647) (g3 : -2147483648 ≤ x3 ∧ x3 ≤ 2147483647) : fx_VC (fx_Mx X) 350 [x1, x2, x3] S (fx_p350.getD 0 ([], .inl (0, 0))) := fx_VCR_ok (show fx_VCR (fx_Mx X) 350 [x1, x2, x3] S _ from q350_0 S x1 x2 x3 hS g2 g3)
set_option maxRecDepth 40000 in
theorem u350_1 (X : (Int → Int) × Int) (S : fx_S) (x1 x2 x3 : Int) (hS : fx_Sok S) (g2 : -2147483648 ≤ x2 ∧ x2 ≤ 2147483647) (g3 : -2147483648 ≤ x3 ∧ x3 ≤ 2147483647) : fx_VC (fx_Mx X) 350 [x1, x2, x3] S (fx_p350.getD 1 ([], .inl (0, 0))) := fx_VCR_ok (show fx_VCR (fx_Mx X) 350 [x1, x2, x3] S _ from q350_1 S x1 x2 x3 hS g2 g3)
set_option maxRecDepth 40000 in
theorem u350_2 (X : (Int → Int) × Int) (S : fx_S) (x1 x2 x3 : Int) (hS : fx_Sok S) (g2 : -2147483648 ≤ x2 ∧ x2 ≤ 2147483647) (g3 : -2147483648 ≤ x3 ∧ x3 ≤ 2147483647) : fx_VC (fx_Mx X) 350 [x1, x2, x3] S (fx_p350.getD 2 ([], .inl (0, 0))) := fx_VCR_ok (show fx_VCR (fx_Mx X) 350 [x1, x2, x3] S _ from q350_2 S x1 x2 x3 hS g2 g3)
set_option maxRecDepth 40000 in
theorem u350_3 (X : (Int → Int) × Int) (S : fx_S) (x1 x2 x3 : Int) (hS : fx_Sok S) (g2 : -2147483648 ≤ x2 ∧ x2 ≤ 2147483647) (g3 : -2147483648 ≤ x3 ∧ x3 ≤ 2147483647) : fx_VC (fx_Mx X) 350 [x1, x2, x3] S (fx_p350.getD 3 ([], .inl (0, 0))) := fx_VCR_ok (show fx_VCR (fx_Mx X) 350 [x1, x2, x3] S _ from q350_3 S x1 x2 x3 hS g2 g3)
set_option maxRecDepth 40000 in
theorem w350 (X : (Int → Int) × Int) (zs : List Int) (S : fx_S) (hS : fx_Sok S) (hz : zs.length = (fx_lv0 fx_t350.2.2.1 0).2) (rz : fx_rz fx_t350 zs S) : ∀ p ∈ fx_p350, fx_VC (fx_Mx X) 350 zs S p := by
  obtain ⟨x1, x2, x3, rfl⟩ := fx_len3 hz
  have g2 : -2147483648 ≤ x2 ∧ x2 ≤ 2147483647 := rz 2 _ rfl
  have g3 : -2147483648 ≤ x3 ∧ x3 ≤ 2147483647 := rz 3 _ rfl
  exact List.forall_mem_cons.mpr ⟨(u350_0 X S x1 x2 x3 hS g2 g3), List.forall_mem_cons.mpr ⟨(u350_1 X S x1 x2 x3 hS g2 g3), List.forall_mem_cons.mpr ⟨(u350_2 X S x1 x2 x3 hS g2 g3), List.forall_mem_cons.mpr ⟨(u350_3 X S x1 x2 x3 hS g2 g3), fun _ h => absurd h List.not_mem_nil⟩⟩⟩⟩
set_option maxRecDepth 40000 in
theorem u351_0 (X : (Int → Int) × Int) (S : fx_S) (x1 x2 : Int) (hS : fx_Sok S) (g1 : -2147483648 ≤ x1 ∧ x1 ≤ 2147483647) (g2 : -2147483648 ≤ x2 ∧ x2 ≤ 2147483647) : fx_VC (fx_Mx X) 351 [x1, x2] S (fx_p351.getD 0 ([], .inl (0, 0))) := fx_VCR_ok (show fx_VCR (fx_Mx X) 351 [x1, x2] S _ from q351_0 S x1 x2 hS g1 g2)
set_option maxRecDepth 40000 in
theorem u351_1 (X : (Int → Int) × Int) (S : fx_S) (x1 x2 : Int) (hS : fx_Sok S) (g1 : -2147483648 ≤ x1 ∧ x1 ≤ 2147483647) (g2 : -2147483648 ≤ x2 ∧ x2 ≤ 2147483647) : fx_VC (fx_Mx X) 351 [x1, x2] S (fx_p351.getD 1 ([], .inl (0, 0))) := fx_VCR_ok (show fx_VCR (fx_Mx X) 351 [x1, x2] S _ from q351_1 S x1 x2 hS g1 g2)
set_option maxRecDepth 40000 in
theorem u351_2 (X : (Int → Int) × Int) (S : fx_S) (x1 x2 : Int) (hS : fx_Sok S) (g1 : -2147483648 ≤ x1 ∧ x1 ≤ 2147483647) (g2 : -2147483648 ≤ x2 ∧ x2 ≤ 2147483647) : fx_VC (fx_Mx X) 351 [x1, x2] S (fx_p351.getD 2 ([], .inl (0, 0))) := fx_VCR_ok (show fx_VCR (fx_Mx X) 351 [x1, x2] S _ from q351_2 S x1 x2 hS g1 g2)
set_option maxRecDepth 40000 in
theorem u351_3 (X : (Int → Int) × Int) (S : fx_S) (x1 x2 : Int) (hS : fx_Sok S) (g1 : -2147483648 ≤ x1 ∧ x1 ≤ 2147483647) (g2 : -2147483648 ≤ x2 ∧ x2 ≤ 2147483647) : fx_VC (fx_Mx X) 351 [x1, x2] S (fx_p351.getD 3 ([], .inl (0, 0))) := fx_VCR_ok (show fx_VCR (fx_Mx X) 351 [x1, x2] S _ from q351_3 S x1 x2 hS g1 g2)
set_option maxRecDepth 40000 in
theorem u351_4 (X : (Int → Int) × Int) (S : fx_S) (x1 x2 : Int) (hS : fx_Sok S) (g1 : -2147483648 ≤ x1 ∧ x1 ≤ 2147483647) (g2 : -2147483648 ≤ x2 ∧ x2 ≤ 2147483647) : fx_VC (fx_Mx X) 351 [x1, x2] S (fx_p351.getD 4 ([], .inl (0, 0))) := fx_VCR_ok (show fx_VCR (fx_Mx X) 351 [x1, x2] S _ from q351_4 S x1 x2 hS g1 g2)
set_option maxRecDepth 40000 in
theorem u351_5 (X : (Int → Int) × Int) (S : fx_S) (x1 x2 : Int) (hS : fx_Sok S) (g1 : -2147483648 ≤ x1 ∧ x1 ≤ 2147483647) (g2 : -2147483648 ≤ x2 ∧ x2 ≤ 2147483647) : fx_VC (fx_Mx X) 351 [x1, x2] S (fx_p351.getD 5 ([], .inl (0, 0))) := fx_VCR_ok (show fx_VCR (fx_Mx X) 351 [x1, x2] S _ from q351_5 S x1 x2 hS g1 g2)
set_option maxRecDepth 40000 in
theorem u351_6 (X : (Int → Int) × Int) (S : fx_S) (x1 x2 : Int) (hS : fx_Sok S) (g1 : -2147483648 ≤ x1 ∧ x1 ≤ 2147483647) (g2 : -2147483648 ≤ x2 ∧ x2 ≤ 2147483647) : fx_VC (fx_Mx X) 351 [x1, x2] S (fx_p351.getD 6 ([], .inl (0, 0))) := fx_VCR_ok (show fx_VCR (fx_Mx X) 351 [x1, x2] S _ from q351_6 S x1 x2 hS g1 g2)
set_option maxRecDepth 40000 in
theorem w351 (X : (Int → Int) × Int) (zs : List Int) (S : fx_S) (hS : fx_Sok S) (hz : zs.length = (fx_lv0 fx_t351.2.2.1 0).2) (rz : fx_rz fx_t351 zs S) : ∀ p ∈ fx_p351, fx_VC (fx_Mx X) 351 zs S p := by
  obtain ⟨x1, x2, rfl⟩ := fx_len2 hz
  have g1 : -2147483648 ≤ x1 ∧ x1 ≤ 2147483647 := rz 1 _ rfl
  have g2 : -2147483648 ≤ x2 ∧ x2 ≤ 2147483647 := rz 2 _ rfl
  exact List.forall_mem_cons.mpr ⟨(u351_0 X S x1 x2 hS g1 g2), List.forall_mem_cons.mpr ⟨(u351_1 X S x1 x2 hS g1 g2), List.forall_mem_cons.mpr ⟨(u351_2 X S x1 x2 hS g1 g2), List.forall_mem_cons.mpr ⟨(u351_3 X S x1 x2 hS g1 g2), List.forall_mem_cons.mpr ⟨(u351_4 X S x1 x2 hS g1 g2), List.forall_mem_cons.mpr ⟨(u351_5 X S x1 x2 hS g1 g2), List.forall_mem_cons.mpr ⟨(u351_6 X S x1 x2 hS g1 g2), fun _ h => absurd h List.not_mem_nil⟩⟩⟩⟩⟩⟩⟩
set_option maxRecDepth 40000 in
theorem u352_0 (X : (Int → Int) × Int) (S : fx_S) (x1 : Int) (hS : fx_Sok S) (g1 : -2147483648 ≤ x1 ∧ x1 ≤ 2147483647) : fx_VC (fx_Mx X) 352 [x1] S (fx_p352.getD 0 ([], .inl (0, 0))) := fx_VCR_ok (show fx_VCR (fx_Mx X) 352 [x1] S _ from q352_0 S x1 hS g1)
set_option maxRecDepth 40000 in
theorem u352_1 (X : (Int → Int) × Int) (S : fx_S) (x1 : Int) (hS : fx_Sok S) (g1 : -2147483648 ≤ x1 ∧ x1 ≤ 2147483647) : fx_VC (fx_Mx X) 352 [x1] S (fx_p352.getD 1 ([], .inl (0, 0))) := fx_VCR_ok (show fx_VCR (fx_Mx X) 352 [x1] S _ from q352_1 S x1 hS g1)
set_option maxRecDepth 40000 in
theorem u352_2 (X : (Int → Int) × Int) (S : fx_S) (x1 : Int) (hS : fx_Sok S) (g1 : -2147483648 ≤ x1 ∧ x1 ≤ 2147483647) : fx_VC (fx_Mx X) 352 [x1] S (fx_p352.getD 2 ([], .inl (0, 0))) := fx_VCR_ok (show fx_VCR (fx_Mx X) 352 [x1] S _ from q352_2 S x1 hS g1)
set_option maxRecDepth 40000 in
theorem u352_3 (X : (Int → Int) × Int) (S : fx_S) (x1 : Int) (hS : fx_Sok S) (g1 : -2147483648 ≤ x1 ∧ x1 ≤ 2147483647) : fx_VC (fx_Mx X) 352 [x1] S (fx_p352.getD 3 ([], .inl (0, 0))) := fx_VCR_ok (show fx_VCR (fx_Mx X) 352 [x1] S _ from q352_3 S x1 hS g1)
set_option maxRecDepth 40000 in
theorem w352 (X : (Int → Int) × Int) (zs : List Int) (S : fx_S) (hS : fx_Sok S) (hz : zs.length = (fx_lv0 fx_t352.2.2.1 0).2) (rz : fx_rz fx_t352 zs S) : ∀ p ∈ fx_p352, fx_VC (fx_Mx X) 352 zs S p := by
  obtain ⟨x1, rfl⟩ := fx_len1 hz
  have g1 : -2147483648 ≤ x1 ∧ x1 ≤ 2147483647 := rz 1 _ rfl
  exact List.forall_mem_cons.mpr ⟨(u352_0 X S x1 hS g1), List.forall_mem_cons.mpr ⟨(u352_1 X S x1 hS g1), List.forall_mem_cons.mpr ⟨(u352_2 X S x1 hS g1), List.forall_mem_cons.mpr ⟨(u352_3 X S x1 hS g1), fun _ h => absurd h List.not_mem_nil⟩⟩⟩⟩
set_option maxRecDepth 40000 in
theorem u353_0 (X : (Int → Int) × Int) (S : fx_S) (x1 : Int) (hS : fx_Sok S) : fx_VC (fx_Mx X) 353 [x1] S (fx_p353.getD 0 ([], .inl (0, 0))) := fx_VCR_ok (show fx_VCR (fx_Mx X) 353 [x1] S _ from q353_0 S x1 hS)
set_option maxRecDepth 40000 in
theorem u353_1 (X : (Int → Int) × Int) (S : fx_S) (x1 : Int) (hS : fx_Sok S) : fx_VC (fx_Mx X) 353 [x1] S (fx_p353.getD 1 ([], .inl (0, 0))) := fx_VCR_ok (show fx_VCR (fx_Mx X) 353 [x1] S _ from q353_1 S x1 hS)
set_option maxRecDepth 40000 in
theorem w353 (X : (Int → Int) × Int) (zs : List Int) (S : fx_S) (hS : fx_Sok S) (hz : zs.length = (fx_lv0 fx_t353.2.2.1 0).2) (rz : fx_rz fx_t353 zs S) : ∀ p ∈ fx_p353, fx_VC (fx_Mx X) 353 zs S p := by
  obtain ⟨x1, rfl⟩ := fx_len1 hz
  exact List.forall_mem_cons.mpr ⟨(u353_0 X S x1 hS), List.forall_mem_cons.mpr ⟨(u353_1 X S x1 hS), fun _ h => absurd h List.not_mem_nil⟩⟩
set_option maxRecDepth 40000 in
theorem u354_0 (X : (Int → Int) × Int) (S : fx_S) (x1 : Int) (hS : fx_Sok S) (g1 : -2147483648 ≤ x1 ∧ x1 ≤ 2147483647) : fx_VC (fx_Mx X) 354 [x1] S (fx_p354.getD 0 ([], .inl (0, 0))) := fx_VCR_ok (show fx_VCR (fx_Mx X) 354 [x1] S _ from q354_0 S x1 hS g1)
set_option maxRecDepth 40000 in
theorem u354_1 (X : (Int → Int) × Int) (S : fx_S) (x1 : Int) (hS : fx_Sok S) (g1 : -2147483648 ≤ x1 ∧ x1 ≤ 2147483647) : fx_VC (fx_Mx X) 354 [x1] S (fx_p354.getD 1 ([], .inl (0, 0))) := fx_VCR_ok (show fx_VCR (fx_Mx X) 354 [x1] S _ from q354_1 S x1 hS g1)
set_option maxRecDepth 40000 in
theorem w354 (X : (Int → Int) × Int) (zs : List Int) (S : fx_S) (hS : fx_Sok S) (hz : zs.length = (fx_lv0 fx_t354.2.2.1 0).2) (rz : fx_rz fx_t354 zs S) : ∀ p ∈ fx_p354, fx_VC (fx_Mx X) 354 zs S p := by
  obtain ⟨x1, rfl⟩ := fx_len1 hz
  have g1 : -2147483648 ≤ x1 ∧ x1 ≤ 2147483647 := rz 1 _ rfl
  exact List.forall_mem_cons.mpr ⟨(u354_0 X S x1 hS g1), List.forall_mem_cons.mpr ⟨(u354_1 X S x1 hS g1), fun _ h => absurd h List.not_mem_nil⟩⟩
set_option maxRecDepth 40000 in
theorem u355_0 (X : (Int → Int) × Int) (S : fx_S) (x0 x1 x2 x3 x4 : Int) (hS : fx_Sok S) (g0 : -1 ≤ x0 ∧ x0 < S.2.2) (g1 : -2147483648 ≤ x1 ∧ x1 ≤ 2147483647) (g2 : -2147483648 ≤ x2 ∧ x2 ≤ 2147483647) (g3 : -2147483648 ≤ x3 ∧ x3 ≤ 2147483647) (g4 : -2147483648 ≤ x4 ∧ x4 ≤ 2147483647) : fx_VC (fx_Mx X) 355 [x0, x1, x2, x3, x4] S (fx_p355.getD 0 ([], .inl (0, 0))) := fx_VCR_ok (show fx_VCR (fx_Mx X) 355 [x0, x1, x2, x3, x4] S _ from q355_0 S x0 x1 x2 x3 x4 hS g0 g1 g2 g3 g4)
set_option maxRecDepth 40000 in
theorem u355_1 (X : (Int → Int) × Int) (S : fx_S) (x0 x1 x2 x3 x4 : Int) (hS : fx_Sok S) (g0 : -1 ≤ x0 ∧ x0 < S.2.2) (g1 : -2147483648 ≤ x1 ∧ x1 ≤ 2147483647) (g2 : -2147483648 ≤ x2 ∧ x2 ≤ 2147483647) (g3 : -2147483648 ≤ x3 ∧ x3 ≤ 2147483647) (g4 : -2147483648 ≤ x4 ∧ x4 ≤ 2147483647) : fx_VC (fx_Mx X) 355 [x0, x1, x2, x3, x4] S (fx_p355.getD 1 ([], .inl (0, 0))) := fx_VCR_ok (show fx_VCR (fx_Mx X) 355 [x0, x1, x2, x3, x4] S _ from q355_1 S x0 x1 x2 x3 x4 hS g0 g1 g2 g3 g4)
set_option maxRecDepth 40000 in
theorem w355 (X : (Int → Int) × Int) (zs : List Int) (S : fx_S) (hS : fx_Sok S) (hz : zs.length = (fx_lv0 fx_t355.2.2.1 0).2) (rz : fx_rz fx_t355 zs S) : ∀ p ∈ fx_p355, fx_VC (fx_Mx X) 355 zs S p := by
  obtain ⟨x0, x1, x2, x3, x4, rfl⟩ := fx_len5 hz
  have g0 : -1 ≤ x0 ∧ x0 < S.2.2 := rz 0 _ rfl
  have g1 : -2147483648 ≤ x1 ∧ x1 ≤ 2147483647 := rz 1 _ rfl
  have g2 : -2147483648 ≤ x2 ∧ x2 ≤ 2147483647 := rz 2 _ rfl
  have g3 : -2147483648 ≤ x3 ∧ x3 ≤ 2147483647 := rz 3 _ rfl
  have g4 : -2147483648 ≤ x4 ∧ x4 ≤ 2147483647 := rz 4 _ rfl
  exact List.forall_mem_cons.mpr ⟨(u355_0 X S x0 x1 x2 x3 x4 hS g0 g1 g2 g3 g4), List.forall_mem_cons.mpr ⟨(u355_1 X S x0 x1 x2 x3 x4 hS g0 g1 g2 g3 g4), fun _ h => absurd h List.not_mem_nil⟩⟩
set_option maxRecDepth 40000 in
theorem u356_0 (X : (Int → Int) × Int) (S : fx_S) (x1 x2 x3 : Int) (hS : fx_Sok S) (g1 : -2147483648 ≤ x1 ∧ x1 ≤ 2147483647) (g2 : -2147483648 ≤ x2 ∧ x2 ≤ 2147483647) (g3 : -2147483648 ≤ x3 ∧ x3 ≤ 2147483647) : fx_VC (fx_Mx X) 356 [x1, x2, x3] S (fx_p356.getD 0 ([], .inl (0, 0))) := fx_VCR_ok (show fx_VCR (fx_Mx X) 356 [x1, x2, x3] S _ from q356_0 S x1 x2 x3 hS g1 g2 g3)
set_option maxRecDepth 40000 in
theorem u356_1 (X : (Int → Int) × Int) (S : fx_S) (x1 x2 x3 : Int) (hS : fx_Sok S) (g1 : -2147483648 ≤ x1 ∧ x1 ≤ 2147483647) (g2 : -2147483648 ≤ x2 ∧ x2 ≤ 2147483647) (g3 : -2147483648 ≤ x3 ∧ x3 ≤ 2147483647) : fx_VC (fx_Mx X) 356 [x1, x2, x3] S (fx_p356.getD 1 ([], .inl (0, 0))) := fx_VCR_ok (show fx_VCR (fx_Mx X) 356 [x1, x2, x3] S _ from q356_1 S x1 x2 x3 hS g1 g2 g3)
set_option maxRecDepth 40000 in
theorem u356_2 (X : (Int → Int) × Int) (S : fx_S) (x1 x2 x3 : Int) (hS : fx_Sok S) (g1 : -2147483648 ≤ x1 ∧ x1 ≤ 2147483647) (g2 : -2147483648 ≤ x2 ∧ x2 ≤ 2147483647) (g3 : -2147483648 ≤ x3 ∧ x3 ≤ 2147483647) : fx_VC (fx_Mx X) 356 [x1, x2, x3] S (fx_p356.getD 2 ([], .inl (0, 0))) := fx_VCR_ok (show fx_VCR (fx_Mx X) 356 [x1, x2, x3] S _ from q356_2 S x1 x2 x3 hS g1 g2 g3)
set_option maxRecDepth 40000 in
theorem u356_3 (X : (Int → Int) × Int) (S : fx_S) (x1 x2 x3 : Int) (hS : fx_Sok S) (g1 : -2147483648 ≤ x1 ∧ x1 ≤ 2147483647) (g2 : -2147483648 ≤ x2 ∧ x2 ≤ 2147483647) (g3 : -2147483648 ≤ x3 ∧ x3 ≤ 2147483647) : fx_VC (fx_Mx X) 356 [x1, x2, x3] S (fx_p356.getD 3 ([], .inl (0, 0))) := fx_VCR_ok (show fx_VCR (fx_Mx X) 356 [x1, x2, x3] S _ from q356_3 S x1 x2 x3 hS g1 g2 g3)
set_option maxRecDepth 40000 in
theorem u356_4 (X : (Int → Int) × Int) (S : fx_S) (x1 x2 x3 : Int) (hS : fx_Sok S) (g1 : -2147483648 ≤ x1 ∧ x1 ≤ 2147483647) (g2 : -2147483648 ≤ x2 ∧ x2 ≤ 2147483647) (g3 : -2147483648 ≤ x3 ∧ x3 ≤ 2147483647) : fx_VC (fx_Mx X) 356 [x1, x2, x3] S (fx_p356.getD 4 ([], .inl (0, 0))) := fx_VCR_ok (show fx_VCR (fx_Mx X) 356 [x1, x2, x3] S _ from q356_4 S x1 x2 x3 hS g1 g2 g3)
set_option maxRecDepth 40000 in
theorem u356_5 (X : (Int → Int) × Int) (S : fx_S) (x1 x2 x3 : Int) (hS : fx_Sok S) (g1 : -2147483648 ≤ x1 ∧ x1 ≤ 2147483647) (g2 : -2147483648 ≤ x2 ∧ x2 ≤ 2147483647) (g3 : -2147483648 ≤ x3 ∧ x3 ≤ 2147483647) : fx_VC (fx_Mx X) 356 [x1, x2, x3] S (fx_p356.getD 5 ([], .inl (0, 0))) := fx_VCR_ok (show fx_VCR (fx_Mx X) 356 [x1, x2, x3] S _ from q356_5 S x1 x2 x3 hS g1 g2 g3)
set_option maxRecDepth 40000 in
theorem u356_6 (X : (Int → Int) × Int) (S : fx_S) (x1 x2 x3 : Int) (hS : fx_Sok S) (g1 : -2147483648 ≤ x1 ∧ x1 ≤ 2147483647) (g2 : -2147483648 ≤ x2 ∧ x2 ≤ 2147483647) (g3 : -2147483648 ≤ x3 ∧ x3 ≤ 2147483647) : fx_VC (fx_Mx X) 356 [x1, x2, x3] S (fx_p356.getD 6 ([], .inl (0, 0))) := fx_VCR_ok (show fx_VCR (fx_Mx X) 356 [x1, x2, x3] S _ from q356_6 S x1 x2 x3 hS g1 g2 g3)
set_option maxRecDepth 40000 in
theorem u356_7 (X : (Int → Int) × Int) (S : fx_S) (x1 x2 x3 : Int) (hS : fx_Sok S) (g1 : -2147483648 ≤ x1 ∧ x1 ≤ 2147483647) (g2 : -2147483648 ≤ x2 ∧ x2 ≤ 2147483647) (g3 : -2147483648 ≤ x3 ∧ x3 ≤ 2147483647) : fx_VC (fx_Mx X) 356 [x1, x2, x3] S (fx_p356.getD 7 ([], .inl (0, 0))) := fx_VCR_ok (show fx_VCR (fx_Mx X) 356 [x1, x2, x3] S _ from q356_7 S x1 x2 x3 hS g1 g2 g3)
set_option maxRecDepth 40000 in
theorem u356_8 (X : (Int → Int) × Int) (S : fx_S) (x1 x2 x3 : Int) (hS : fx_Sok S) (g1 : -2147483648 ≤ x1 ∧ x1 ≤ 2147483647) (g2 : -2147483648 ≤ x2 ∧ x2 ≤ 2147483647) (g3 : -2147483648 ≤ x3 ∧ x3 ≤ 2147483647) : fx_VC (fx_Mx X) 356 [x1, x2, x3] S (fx_p356.getD 8 ([], .inl (0, 0))) := fx_VCR_ok (show fx_VCR (fx_Mx X) 356 [x1, x2, x3] S _ from q356_8 S x1 x2 x3 hS g1 g2 g3)
set_option maxRecDepth 40000 in
theorem u356_9 (X : (Int → Int) × Int) (S : fx_S) (x1 x2 x3 : Int) (hS : fx_Sok S) (g1 : -2147483648 ≤ x1 ∧ x1 ≤ 2147483647) (g2 : -2147483648 ≤ x2 ∧ x2 ≤ 2147483647) (g3 : -2147483648 ≤ x3 ∧ x3 ≤ 2147483647) : fx_VC (fx_Mx X) 356 [x1, x2, x3] S (fx_p356.getD 9 ([], .inl (0, 0))) := fx_VCR_ok (show fx_VCR (fx_Mx X) 356 [x1, x2, x3] S _ from q356_9 S x1 x2 x3 hS g1 g2 g3)
