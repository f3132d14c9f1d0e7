/-! FX: the paths of the entries, all -/
set_option maxRecDepth 40000 in
theorem u318_1 (X : (Int → Int) × Int) (S : fx_S) (x1 x2 x3 x4 : Int) (hS : fx_Sok S) (g1 : -2147483648 ≤ x1 ∧ x1 ≤ 2147483647) (g2 : -2147483648 ≤ x2 ∧ x2 ≤ 2147483647) (g3 : -2147483648 ≤ x3 ∧ x3 ≤ 2147483647) (g4 : -2147483648 ≤ x4 ∧ x4 ≤ 2147483647) : fx_VC (fx_Mx X) 318 [x1, x2, x3, x4] S (fx_p318.getD 1 ([], .inl (0, 0))) := fx_VCR_ok (show fx_VCR (fx_Mx X) 318 [x1, x2, x3, x4] S _ from q318_1 S x1 x2 x3 x4 hS g1 g2 g3 g4)
set_option maxRecDepth 40000 in
theorem w318 (X : (Int → Int) × Int) (zs : List Int) (S : fx_S) (hS : fx_Sok S) (hz : zs.length = (fx_lv0 fx_t318.2.2.1 0).2) (rz : fx_rz fx_t318 zs S) : ∀ p ∈ fx_p318, fx_VC (fx_Mx X) 318 zs S p := by
  obtain ⟨x1, x2, x3, x4, rfl⟩ := fx_len4 hz
  have g1 : -2147483648 ≤ x1 ∧ x1 ≤ 2147483647 := rz 1 _ rfl
  have g2 : -2147483648 ≤ x2 ∧ x2 ≤ 2147483647 := rz 2 _ rfl
  have g3 : -2147483648 ≤ x3 ∧ x3 ≤ 2147483647 := rz 3 _ rfl
  have g4 : -2147483648 ≤ x4 ∧ x4 ≤ 2147483647 := rz 4 _ rfl
  exact List.forall_mem_cons.mpr ⟨(u318_0 X S x1 x2 x3 x4 hS g1 g2 g3 g4), List.forall_mem_cons.mpr ⟨(u318_1 X S x1 x2 x3 x4 hS g1 g2 g3 g4), fun _ h => absurd h List.not_mem_nil⟩⟩
set_option maxRecDepth 40000 in
theorem u319_0 (X : (Int → Int) × Int) (S : fx_S) (x1 x2 : Int) (hS : fx_Sok S) (g1 : -2147483648 ≤ x1 ∧ x1 ≤ 2147483647) (g2 : -2147483648 ≤ x2 ∧ x2 ≤ 2147483647) : fx_VC (fx_Mx X) 319 [x1, x2] S (fx_p319.getD 0 ([], .inl (0, 0))) := fx_VCR_ok (show fx_VCR (fx_Mx X) 319 [x1, x2] S _ from q319_0 S x1 x2 hS g1 g2)
set_option maxRecDepth 40000 in
theorem u319_1 (X : (Int → Int) × Int) (S : fx_S) (x1 x2 : Int) (hS : fx_Sok S) (g1 : -2147483648 ≤ x1 ∧ x1 ≤ 2147483647) (g2 : -2147483648 ≤ x2 ∧ x2 ≤ 2147483647) : fx_VC (fx_Mx X) 319 [x1, x2] S (fx_p319.getD 1 ([], .inl (0, 0))) := fx_VCR_ok (show fx_VCR (fx_Mx X) 319 [x1, x2] S _ from q319_1 S x1 x2 hS g1 g2)
set_option maxRecDepth 40000 in
theorem w319 (X : (Int → Int) × Int) (zs : List Int) (S : fx_S) (hS : fx_Sok S) (hz : zs.length = (fx_lv0 fx_t319.2.2.1 0).2) (rz : fx_rz fx_t319 zs S) : ∀ p ∈ fx_p319, fx_VC (fx_Mx X) 319 zs S p := by
  obtain ⟨x1, x2, rfl⟩ := fx_len2 hz
  have g1 : -2147483648 ≤ x1 ∧ x1 ≤ 2147483647 := rz 1 _ rfl
  have g2 : -2147483648 ≤ x2 ∧ x2 ≤ 2147483647 := rz 2 _ rfl
  exact List.forall_mem_cons.mpr ⟨(u319_0 X S x1 x2 hS g1 g2), List.forall_mem_cons.mpr ⟨(u319_1 X S x1 x2 hS g1 g2), fun _ h => absurd h List.not_mem_nil⟩⟩
set_option maxRecDepth 40000 in
theorem u320_0 (X : (Int → Int) × Int) (S : fx_S) (x2 x3 : Int) (hS : fx_Sok S) (g2 : -2147483648 ≤ x2 ∧ x2 ≤ 2147483647) (g3 : -2147483648 ≤ x3 ∧ x3 ≤ 2147483647) : fx_VC (fx_Mx X) 320 [x2, x3] S (fx_p320.getD 0 ([], .inl (0, 0))) := fx_VCR_ok (show fx_VCR (fx_Mx X) 320 [x2, x3] S _ from q320_0 S x2 x3 hS g2 g3)
set_option maxRecDepth 40000 in
theorem u320_1 (X : (Int → Int) × Int) (S : fx_S) (x2 x3 : Int) (hS : fx_Sok S) (g2 : -2147483648 ≤ x2 ∧ x2 ≤ 2147483647) (g3 : -2147483648 ≤ x3 ∧ x3 ≤ 2147483647) : fx_VC (fx_Mx X) 320 [x2, x3] S (fx_p320.getD 1 ([], .inl (0, 0))) := fx_VCR_ok (show fx_VCR (fx_Mx X) 320 [x2, x3] S _ from q320_1 S x2 x3 hS g2 g3)
set_option maxRecDepth 40000 in
theorem u320_2 (X : (Int → Int) × Int) (S : fx_S) (x2 x3 : Int) (hS : fx_Sok S) (g2 : -2147483648 ≤ x2 ∧ x2 ≤ 2147483647) (g3 : -2147483648 ≤ x3 ∧ x3 ≤ 2147483647) : fx_VC (fx_Mx X) 320 [x2, x3] S (fx_p320.getD 2 ([], .inl (0, 0))) := fx_VCR_ok (show fx_VCR (fx_Mx X) 320 [x2, x3] S _ from q320_2 S x2 x3 hS g2 g3)
set_option maxRecDepth 40000 in
theorem u320_3 (X : (Int → Int) × Int) (S : fx_S) (x2 x3 : Int) (hS : fx_Sok S) (g2 : -2147483648 ≤ x2 ∧ x2 ≤ 2147483647) (g3 : -2147483648 ≤ x3 ∧ x3 ≤ 2147483647) : fx_VC (fx_Mx X) 320 [x2, x3] S (fx_p320.getD 3 ([], .inl (0, 0))) := fx_VCR_ok (show fx_VCR (fx_Mx X) 320 [x2, x3] S _ from q320_3 S x2 x3 hS g2 g3)
set_option maxRecDepth 40000 in
theorem u320_4 (X : (Int → Int) × Int) (S : fx_S) (x2 x3 : Int) (hS : fx_Sok S) (g2 : -2147483648 ≤ x2 ∧ x2 ≤ 2147483647) (g3 : -2147483648 ≤ x3 ∧ x3 ≤ 2147483647) : fx_VC (fx_Mx X) 320 [x2, x3] S (fx_p320.getD 4 ([], .inl (0, 0))) := fx_VCR_ok (show fx_VCR (fx_Mx X) 320 [x2, x3] S _ from q320_4 S x2 x3 hS g2 g3)
set_option maxRecDepth 40000 in
theorem u320_5 (X : (Int → Int) × Int) (S : fx_S) (x2 x3 : Int) (hS : fx_Sok S) (g2 : -2147483648 ≤ x2 ∧ x2 ≤ 2147483647) (g3 : -2147483648 ≤ x3 ∧ x3 ≤ 2147483647) : fx_VC (fx_Mx X) 320 [x2, x3] S (fx_p320.getD 5 ([], .inl (0, 0))) := fx_VCR_ok (show fx_VCR (fx_Mx X) 320 [x2, x3] S _ from q320_5 S x2 x3 hS g2 g3)
set_option maxRecDepth 40000 in
theorem u320_6 (X : (Int → Int) × Int) (S : fx_S) (x2 x3 : Int) (hS : fx_Sok S) (g2 : -2147483648 ≤ x2 ∧ x2 ≤ 2147483647) (g3 : -2147483648 ≤ x3 ∧ x3 ≤ 2147483647) : fx_VC (fx_Mx X) 320 [x2, x3] S (fx_p320.getD 6 ([], .inl (0, 0))) := fx_VCR_ok (show fx_VCR (fx_Mx X) 320 [x2, x3] S _ from q320_6 S x2 x3 hS g2 g3)
set_option maxRecDepth 40000 in
theorem u320_7 (X : (Int → Int) × Int) (S : fx_S) (x2 x3 : Int) (hS : fx_Sok S) (g2 : -2147483648 ≤ x2 ∧ x2 ≤ 2147483647) (g3 : -2147483648 ≤ x3 ∧ x3 ≤ 2147483647) : fx_VC (fx_Mx X) 320 [x2, x3] S (fx_p320.getD 7 ([], .inl (0, 0))) := fx_VCR_ok (show fx_VCR (fx_Mx X) 320 [x2, x3] S _ from q320_7 S x2 x3 hS g2 g3)
set_option maxRecDepth 40000 in
theorem u320_8 (X : (Int → Int) × Int) (S : fx_S) (x2 x3 : Int) (hS : fx_Sok S) (g2 : -2147483648 ≤ x2 ∧ x2 ≤ 2147483647) (g3 : -2147483648 ≤ x3 ∧ x3 ≤ 2147483647) : fx_VC (fx_Mx X) 320 [x2, x3] S (fx_p320.getD 8 ([], .inl (0, 0))) := fx_VCR_ok (show fx_VCR (fx_Mx X) 320 [x2, x3] S _ from q320_8 S x2 x3 hS g2 g3)
set_option maxRecDepth 40000 in
theorem u320_9 (X : (Int → Int) × Int) (S : fx_S) (x2 x3 : Int) (hS : fx_Sok S) (g2 : -2147483648 ≤ x2 ∧ x2 ≤ 2147483647) (g3 : -2147483648 ≤ x3 ∧ x3 ≤ 2147483647) : fx_VC (fx_Mx X) 320 [x2, x3] S (fx_p320.getD 9 ([], .inl (0, 0))) := fx_VCR_ok (show fx_VCR (fx_Mx X) 320 [x2, x3] S _ from q320_9 S x2 x3 hS g2 g3)
set_option maxRecDepth 40000 in
theorem u320_10 (X : (Int → Int) × Int) (S : fx_S) (x2 x3 : Int) (hS : fx_Sok S) (g2 : -2147483648 ≤ x2 ∧ x2 ≤ 2147483647) (g3 : -2147483648 ≤ x3 ∧ x3 ≤ 2147483647) : fx_VC (fx_Mx X) 320 [x2, x3] S (fx_p320.getD 10 ([], .inl (0, 0))) := fx_VCR_ok (show fx_VCR (fx_Mx X) 320 [x2, x3] S _ from q320_10 S x2 x3 hS g2 g3)
set_option maxRecDepth 40000 in
theorem u320_11 (X : (Int → Int) × Int) (S : fx_S) (x2 x3 : Int) (hS : fx_Sok S) (g2 : -2147483648 ≤ x2 ∧ x2 ≤ 2147483647) (g3 : -2147483648 ≤ x3 ∧ x3 ≤ 2147483647) : fx_VC (fx_Mx X) 320 [x2, x3] S (fx_p320.getD 11 ([], .inl (0, 0))) := fx_VCR_ok (show fx_VCR (fx_Mx X) 320 [x2, x3] S _ from q320_11 S x2 x3 hS g2 g3)
set_option maxRecDepth 40000 in
theorem u320_12 (X : (Int → Int) × Int) (S : fx_S) (x2 x3 : Int) (hS : fx_Sok S) (g2 : -2147483648 ≤ x2 ∧ x2 ≤ 2147483647) (g3 : -2147483648 ≤ x3 ∧ x3 ≤ 2147483647) : fx_VC (fx_Mx X) 320 [x2, x3] S (fx_p320.getD 12 ([], .inl (0, 0))) := fx_VCR_ok (show fx_VCR (fx_Mx X) 320 [x2, x3] S _ from q320_12 S x2 x3 hS g2 g3)
set_option maxRecDepth 40000 in
theorem u320_13 (X : (Int → Int) × Int) (S : fx_S) (x2 x3 : Int) (hS : fx_Sok S) (g2 : -2147483648 ≤ x2 ∧ x2 ≤ 2147483647) (g3 : -2147483648 ≤ x3 ∧ x3 ≤ 2147483647) : fx_VC (fx_Mx X) 320 [x2, x3] S (fx_p320.getD 13 ([], .inl (0, 0))) := fx_VCR_ok (show fx_VCR (fx_Mx X) 320 [x2, x3] S _ from q320_13 S x2 x3 hS g2 g3)
set_option maxRecDepth 40000 in
theorem w320 (X : (Int → Int) × Int) (zs : List Int) (S : fx_S) (hS : fx_Sok S) (hz : zs.length = (fx_lv0 fx_t320.2.2.1 0).2) (rz : fx_rz fx_t320 zs S) : ∀ p ∈ fx_p320, fx_VC (fx_Mx X) 320 zs S p := by
  obtain ⟨x2, x3, rfl⟩ := fx_len2 hz
  have g2 : -2147483648 ≤ x2 ∧ x2 ≤ 2147483647 := rz 2 _ rfl
  have g3 : -2147483648 ≤ x3 ∧ x3 ≤ 2147483647 := rz 3 _ rfl
  exact List.forall_mem_cons.mpr ⟨(u320_0 X S x2 x3 hS g2 g3), List.forall_mem_cons.mpr ⟨(u320_1 X S x2 x3 hS g2 g3), List.forall_mem_cons.mpr ⟨(u320_2 X S x2 x3 hS g2 g3), List.forall_mem_cons.mpr ⟨(u320_3 X S x2 x3 hS g2 g3), List.forall_mem_cons.mpr ⟨(u320_4 X S x2 x3 hS g2 g3), List.forall_mem_cons.mpr ⟨(u320_5 X S x2 x3 hS g2 g3), List.forall_mem_cons.mpr ⟨(u320_6 X S x2 x3 hS g2 g3), List.forall_mem_cons.mpr ⟨(u320_7 X S x2 x3 hS g2 g3), List.forall_mem_cons.mpr ⟨(u320_8 X S x2 x3 hS g2 g3), List.forall_mem_cons.mpr ⟨(u320_9 X S x2 x3 hS g2 g3), List.forall_mem_cons.mpr ⟨(u320_10 X S x2 x3 hS g2 g3), List.forall_mem_cons.mpr ⟨(u320_11 X S x2 x3 hS g2 g3), List.forall_mem_cons.mpr ⟨(u320_12 X S x2 x3 hS g2 g3), List.forall_mem_cons.mpr ⟨(u320_13 X S x2 x3 hS g2 g3), fun _ h => absurd h List.not_mem_nil⟩⟩⟩⟩⟩⟩⟩⟩⟩⟩⟩⟩⟩⟩
set_option maxRecDepth 40000 in
theorem u321_0 (X : (Int → Int) × Int) (S : fx_S) (x2 x3 : Int) (hS : fx_Sok S) (g2 : -2147483648 ≤ x2 ∧ x2 ≤ 2147483647) (g3 : -2147483648 ≤ x3 ∧ x3 ≤ 2147483647) : fx_VC (fx_Mx X) 321 [x2, x3] S (fx_p321.getD 0 ([], .inl (0, 0))) := fx_VCR_ok (show fx_VCR (fx_Mx X) 321 [x2, x3] S _ from q321_0 S x2 x3 hS g2 g3)
set_option maxRecDepth 40000 in
theorem u321_1 (X : (Int → Int) × Int) (S : fx_S) (x2 x3 : Int) (hS : fx_Sok S) (g2 : -2147483648 ≤ x2 ∧ x2 ≤ 2147483647) (g3 : -2147483648 ≤ x3 ∧ x3 ≤ 2147483647) : fx_VC (fx_Mx X) 321 [x2, x3] S (fx_p321.getD 1 ([], .inl (0, 0))) := fx_VCR_ok (show fx_VCR (fx_Mx X) 321 [x2, x3] S _ from q321_1 S x2 x3 hS g2 g3)
set_option maxRecDepth 40000 in
theorem u321_2 (X : (Int → Int) × Int) (S : fx_S) (x2 x3 : Int) (hS : fx_Sok S) (g2 : -2147483648 ≤ x2 ∧ x2 ≤ 2147483647) (g3 : -2147483648 ≤ x3 ∧ x3 ≤ 2147483647) : fx_VC (fx_Mx X) 321 [x2, x3] S (fx_p321.getD 2 ([], .inl (0, 0))) := fx_VCR_ok (show fx_VCR (fx_Mx X) 321 [x2, x3] S _ from q321_2 S x2 x3 hS g2 g3)
set_option maxRecDepth 40000 in
theorem u321_3 (X : (Int → Int) × Int) (S : fx_S) (x2 x3 : Int) (hS : fx_Sok S) (g2 : -2147483648 ≤ x2 ∧ x2 ≤ 2147483647) (g3 : -2147483648 ≤ x3 ∧ x3 ≤ 2147483647) : fx_VC (fx_Mx X) 321 [x2, x3] S (fx_p321.getD 3 ([], .inl (0, 0))) := fx_VCR_ok (show fx_VCR (fx_Mx X) 321 [x2, x3] S _ from q321_3 S x2 x3 hS g2 g3)
set_option maxRecDepth 40000 in
theorem u321_4 (X : (Int → Int) × Int) (S : fx_S) (x2 x3 : Int) (hS : fx_Sok S) (g2 : -2147483648 ≤ x2 ∧ x2 ≤ 2147483647) (g3 : -2147483648 ≤ x3 ∧ x3 ≤ 2147483647) : fx_VC (fx_Mx X) 321 [x2, x3] S (fx_p321.getD 4 ([], .inl (0, 0))) := fx_VCR_ok (show fx_VCR (fx_Mx X) 321 [x2, x3] S _ from q321_4 S x2 x3 hS g2 g3)
set_option maxRecDepth 40000 in
theorem u321_5 (X : (Int → Int) × Int) (S : fx_S) (x2 x3 : Int) (hS : fx_Sok S) (g2 : -2147483648 ≤ x2 ∧ x2 ≤ 2147483647) (g3 : -2147483648 ≤ x3 ∧ x3 ≤ 2147483647) : fx_VC (fx_Mx X) 321 [x2, x3] S (fx_p321.getD 5 ([], .inl (0, 0))) := fx_VCR_ok (show fx_VCR (fx_Mx X) 321 [x2, x3] S _ from q321_5 S x2 x3 hS g2 g3)
set_option maxRecDepth 40000 in
theorem u321_6 (X : (Int → Int) × Int) (S : fx_S) (x2 x3 : Int) (hS : fx_Sok S) (g2 : -2147483648 ≤ x2 ∧ x2 ≤ 2147483647) (g3 : -2147483648 ≤ x3 ∧ x3 ≤ 2147483647) : fx_VC (fx_Mx X) 321 [x2, x3] S (fx_p321.getD 6 ([], .inl (0, 0))) := fx_VCR_ok (show fx_VCR (fx_Mx X) 321 [x2, x3] S _ from q321_6 S x2 x3 hS g2 g3)
set_option maxRecDepth 40000 in
theorem u321_7 (X : (Int → Int) × Int) (S : fx_S) (x2 x3 : Int) (hS : fx_Sok S) (g2 : -2147483648 ≤ x2 ∧ x2 ≤ 2147483647) (g3 : -2147483648 ≤ x3 ∧ x3 ≤ 2147483647) : fx_VC (fx_Mx X) 321 [x2, x3] S (fx_p321.getD 7 ([], .inl (0, 0))) := fx_VCR_ok (show fx_VCR (fx_Mx X) 321 [x2, x3] S _ from q321_7 S x2 x3 hS g2 g3)
set_option maxRecDepth 40000 in
theorem u321_8 (X : (Int → Int) × Int) (S : fx_S) (x2 x3 : Int) (hS : fx_Sok S) (g2 : -2147483648 ≤ x2 ∧ x2 ≤ 2147483647) (g3 : -2147483648 ≤ x3 ∧ x3 ≤ 2147483647) : fx_VC (fx_Mx X) 321 [x2, x3] S (fx_p321.getD 8 ([], .inl (0, 0))) := fx_VCR_ok (show fx_VCR (fx_Mx X) 321 [x2, x3] S _ from q321_8 S x2 x3 hS g2 g3)
set_option maxRecDepth 40000 in
theorem u321_9 (X : (Int → Int) × Int) (S : fx_S) (x2 x3 : Int) (hS : fx_Sok S) (g2 : -2147483648 ≤ x2 ∧ x2 ≤ 2147483647) (g3 : -2147483648 ≤ x3 ∧ x3 ≤ 2147483647) : fx_VC (fx_Mx X) 321 [x2, x3] S (fx_p321.getD 9 ([], .inl (0, 0))) := fx_VCR_ok (show fx_VCR (fx_Mx X) 321 [x2, x3] S _ from q321_9 S x2 x3 hS g2 g3)
set_option maxRecDepth 40000 in
theorem u321_10 (X : (Int → Int) × Int) (S : fx_S) (x2 x3 : Int) (hS : fx_Sok S) (g2 : -2147483648 ≤ x2 ∧ x2 ≤ 2147483647) (g3 : -2147483648 ≤ x3 ∧ x3 ≤ 2147483647) : fx_VC (fx_Mx X) 321 [x2, x3] S (fx_p321.getD 10 ([], .inl (0, 0))) := fx_VCR_ok (show fx_VCR (fx_Mx X) 321 [x2, x3] S _ from q321_10 S x2 x3 hS g2 g3)
set_option maxRecDepth 40000 in
theorem u321_11 (X : (Int → Int) × Int) (S : fx_S) (x2 x3 : Int) (hS : fx_Sok S) (g2 : -2147483648 ≤ x2 ∧ x2 ≤ 2147483647) (g3 : -2147483648 ≤ x3 ∧ x3 ≤ 2147483647) : fx_VC (fx_Mx X) 321 [x2, x3] S (fx_p321.getD 11 ([], .inl (0, 0))) := fx_VCR_ok (show fx_VCR (fx_Mx X) 321 [x2, x3] S _ from q321_11 S x2 x3 hS g2 g3)
set_option maxRecDepth 40000 in
theorem u321_12 (X : (Int → Int) × Int) (S : fx_S) (x2 x3 : Int) (hS : fx_Sok S) (g2 : -2147483648 ≤ x2 ∧ x2 ≤ 2147483647) (g3 : -2147483648 ≤ x3 ∧ x3 ≤ 2147483647) : fx_VC (fx_Mx X) 321 [x2, x3] S (fx_p321.getD 12 ([], .inl (0, 0))) := fx_VCR_ok (show fx_VCR (fx_Mx X) 321 [x2, x3] S _ from q321_12 S x2 x3 hS g2 g3)
set_option maxRecDepth 40000 in
theorem u321_13 (X : (Int → Int) × Int) (S : fx_S) (x2 x3 : Int) (hS : fx_Sok S) (g2 : -2147483648 ≤ x2 ∧ x2 ≤ 2147483647) (g3 : -2147483648 ≤ x3 ∧ x3 ≤ 2147483647) : fx_VC (fx_Mx X) 321 [x2, x3] S (fx_p321.getD 13 ([], .inl (0, 0))) := fx_VCR_ok (show fx_VCR (fx_Mx X) 321 [x2, x3] S _ from q321_13 S x2 x3 hS g2 g3)
set_option maxRecDepth 40000 in
theorem w321 (X : (Int → Int) × Int) (zs : List Int) (S : fx_S) (hS : fx_Sok S) (hz : zs.length = (fx_lv0 fx_t321.2.2.1 0).2) (rz : fx_rz fx_t321 zs S) : ∀ p ∈ fx_p321, fx_VC (fx_Mx X) 321 zs S p := by
  obtain ⟨x2, x3, rfl⟩ := fx_len2 hz
  have g2 : -2147483648 ≤ x2 ∧ x2 ≤ 2147483647 := rz 2 _ rfl
  have g3 : -2147483648 ≤ x3 ∧ x3 ≤ 2147483647 := rz 3 _ rfl
  exact List.forall_mem_cons.mpr ⟨(u321_0 X S x2 x3 hS g2 g3), List.forall_mem_cons.mpr ⟨(u321_1 X S x2 x3 hS g2 g3), List.forall_mem_cons.mpr ⟨(u321_2 X S x2 x3 hS g2 g3), List.forall_mem_cons.mpr ⟨(u321_3 X S x2 x3 hS g2 g3), List.forall_mem_cons.mpr ⟨(u321_4 X S x2 x3 hS g2 g3), List.forall_mem_cons.mpr ⟨(u321_5 X S x2 x3 hS g2 g3), List.forall_mem_cons.mpr ⟨(u321_6 X S x2 x3 hS g2 g3), List.forall_mem_cons.mpr ⟨(u321_7 X S x2 x3 hS g2 g3), List.forall_mem_cons.mpr ⟨(u321_8 X S x2 x3 hS g2 g3), List.forall_mem_cons.mpr ⟨(u321_9 X S x2 x3 hS g2 g3), List.forall_mem_cons.mpr ⟨(u321_10 X S x2 x3 hS g2 g3), List.forall_mem_cons.mpr ⟨(u321_11 X S x2 x3 hS g2 g3), List.forall_mem_cons.mpr ⟨(u321_12 X S x2 x3 hS g2 g3), List.forall_mem_cons.mpr ⟨(u321_13 X S x2 x3 hS g2 g3), fun _ h => absurd h List.not_mem_nil⟩⟩⟩⟩⟩⟩⟩⟩⟩⟩⟩⟩⟩⟩
set_option maxRecDepth 40000 in
theorem u322_0 (X : (Int → Int) × Int) (S : fx_S) (x1 x2 x3 : Int) (hS : fx_Sok S) (g1 : -2147483648 ≤ x1 ∧ x1 ≤ 2147483647) (g2 : -2147483648 ≤ x2 ∧ x2 ≤ 2147483647) (g3 : -2147483648 ≤ x3 ∧ x3 ≤ 2147483647) : fx_VC (fx_Mx X) 322 [x1, x2, x3] S (fx_p322.getD 0 ([], .inl (0, 0))) := fx_VCR_ok (show fx_VCR (fx_Mx X) 322 [x1, x2, x3] S _ from q322_0 S x1 x2 x3 hS g1 g2 g3)
set_option maxRecDepth 40000 in
theorem u322_1 (X : (Int → Int) × Int) (S : fx_S) (x1 x2 x3 : Int) (hS : fx_Sok S) (g1 : -2147483648 ≤ x1 ∧ x1 ≤ 2147483647) (g2 : -2147483648 ≤ x2 ∧ x2 ≤ 2147483647) (g3 : -2147483648 ≤ x3 ∧ x3 ≤ 2147483647) : fx_VC (fx_Mx X) 322 [x1, x2, x3] S (fx_p322.getD 1 ([], .inl (0, 0))) := fx_VCR_ok (show fx_VCR (fx_Mx X) 322 [x1, x2, x3] S _ from q322_1 S x1 x2 x3 hS g1 g2 g3)
set_option maxRecDepth 40000 in
theorem u322_2 (X : (Int → Int) × Int) (S : fx_S) (x1 x2 x3 : Int) (hS : fx_Sok S) (g1 : -2147483648 ≤ x1 ∧ x1 ≤ 2147483647) (g2 : -2147483648 ≤ x2 ∧ x2 ≤ 2147483647) (g3 : -2147483648 ≤ x3 ∧ x3 ≤ 2147483647) : fx_VC (fx_Mx X) 322 [x1, x2, x3] S (fx_p322.getD 2 ([], .inl (0, 0))) := fx_VCR_ok (show fx_VCR (fx_Mx X) 322 [x1, x2, x3] S _ from q322_2 S x1 x2 x3 hS g1 g2 g3)
set_option maxRecDepth 40000 in
theorem u322_3 (X : (Int → Int) × Int) (S : fx_S) (x1 x2 x3 : Int) (hS : fx_Sok S) (g1 : -2147483648 ≤ x1 ∧ x1 ≤ 2147483647) (g2 : -2147483648 ≤ x2 ∧ x2 ≤ 2147483647) (g3 : -2147483648 ≤ x3 ∧ x3 ≤ 2147483647) : fx_VC (fx_Mx X) 322 [x1, x2, x3] S (fx_p322.getD 3 ([], .inl (0, 0))) := fx_VCR_ok (show fx_VCR (fx_Mx X) 322 [x1, x2, x3] S _ from q322_3 S x1 x2 x3 hS g1 g2 g3)
set_option maxRecDepth 40000 in
theorem u322_4 (X : (Int → Int) × Int) (S : fx_S) (x1 x2 x3 : Int) (hS : fx_Sok S) (g1 : -2147483648 ≤ x1 ∧ x1 ≤ 2147483647) (g2 : -2147483648 ≤ x2 ∧ x2 ≤ 2147483647) (g3 : -2147483648 ≤ x3 ∧ x3 ≤ 2147483647) : fx_VC (fx_Mx X) 322 [x1, x2, x3] S (fx_p322.getD 4 ([], .inl (0, 0))) := fx_VCR_ok (show fx_VCR (fx_Mx X) 322 [x1, x2, x3] S _ from q322_4 S x1 x2 x3 hS g1 g2 g3)
set_option maxRecDepth 40000 in
theorem w322 (X : (Int → Int) × Int) (zs : List Int) (S : fx_S) (hS : fx_Sok S) (hz : zs.length = (fx_lv0 fx_t322.2.2.1 0).2) (rz : fx_rz fx_t322 zs S) : ∀ p ∈ fx_p322, fx_VC (fx_Mx X) 322 zs S p := by
  obtain ⟨x1, x2, x3, rfl⟩ := fx_len3 hz
  have g1 : -2147483648 ≤ x1 ∧ x1 ≤ 2147483647 := rz 1 _ rfl
  have g2 : -2147483648 ≤ x2 ∧ x2 ≤ 2147483647 := rz 2 _ rfl
  have g3 : -2147483648 ≤ x3 ∧ x3 ≤ 2147483647 := rz 3 _ rfl
  exact List.forall_mem_cons.mpr ⟨(u322_0 X S x1 x2 x3 hS g1 g2 g3), List.forall_mem_cons.mpr ⟨(u322_1 X S x1 x2 x3 hS g1 g2 g3), List.forall_mem_cons.mpr ⟨(u322_2 X S x1 x2 x3 hS g1 g2 g3), List.forall_mem_cons.mpr ⟨(u322_3 X S x1 x2 x3 hS g1 g2 g3), List.forall_mem_cons.mpr ⟨(u322_4 X S x1 x2 x3 hS g1 g2 g3), fun _ h => absurd h List.not_mem_nil⟩⟩⟩⟩⟩
set_option maxRecDepth 40000 in
theorem u323_0 (X : (Int → Int) × Int) (S : fx_S) (x3 x4 x5 : Int) (hS : fx_Sok S) (g3 : -2147483648 ≤ x3 ∧ x3 ≤ 2147483647) (g4 : -2147483648 ≤ x4 ∧ x4 ≤ 2147483647) (g5 : -2147483648 ≤ x5 ∧ x5 ≤ 2147483647) : fx_VC (fx_Mx X) 323 [x3, x4, x5] S (fx_p323.getD 0 ([], .inl (0, 0))) := fx_VCR_ok (show fx_VCR (fx_Mx X) 323 [x3, x4, x5] S _ from q323_0 S x3 x4 x5 hS g3 g4 g5)
set_option maxRecDepth 40000 in
theorem u323_1 (X : (Int → Int) × Int) (S : fx_S) (x3 x4 x5 : Int) (hS : fx_Sok S) (g3 : -2147483648 ≤ x3 ∧ x3 ≤ 2147483647) (g4 : -2147483648 ≤ x4 ∧ x4 ≤ 2147483647) (g5 : -2147483648 ≤ x5 ∧ x5 ≤ 2147483647) : fx_VC (fx_Mx X) 323 [x3, x4, x5] S (fx_p323.getD 1 ([], .inl (0, 0))) := fx_VCR_ok (show fx_VCR (fx_Mx X) 323 [x3, x4, x5] S _ from q323_1 S x3 x4 x5 hS g3 g4 g5)
set_option maxRecDepth 40000 in
theorem u323_2 (X : (Int → Int) × Int) (S : fx_S) (x3 x4 x5 : Int) (hS : fx_Sok S) (g3 : -2147483648 ≤ x3 ∧ x3 ≤ 2147483647) (g4 : -2147483648 ≤ x4 ∧ x4 ≤ 2147483647) (g5 : -2147483648 ≤ x5 ∧ x5 ≤ 2147483647) : fx_VC (fx_Mx X) 323 [x3, x4, x5] S (fx_p323.getD 2 ([], .inl (0, 0))) := fx_VCR_ok (show fx_VCR (fx_Mx X) 323 [x3, x4, x5] S _ from q323_2 S x3 x4 x5 hS g3 g4 g5)
set_option maxRecDepth 40000 in
theorem w323 (X : (Int → Int) × Int) (zs : List Int) (S : fx_S) (hS : fx_Sok S) (hz : zs.length = (fx_lv0 fx_t323.2.2.1 0).2) (rz : fx_rz fx_t323 zs S) : ∀ p ∈ fx_p323, fx_VC (fx_Mx X) 323 zs S p := by
  obtain ⟨x3, x4, x5, rfl⟩ := fx_len3 hz
  have g3 : -2147483648 ≤ x3 ∧ x3 ≤ 2147483647 := rz 3 _ rfl
  have g4 : -2147483648 ≤ x4 ∧ x4 ≤ 2147483647 := rz 4 _ rfl
  have g5 : -2147483648 ≤ x5 ∧ x5 ≤ 2147483647 := rz 5 _ rfl
  exact List.forall_mem_cons.mpr ⟨(u323_0 X S x3 x4 x5 hS g3 g4 g5), List.forall_mem_cons.mpr ⟨(u323_1 X S x3 x4 x5 hS g3 g4 g5), List.forall_mem_cons.mpr ⟨(u323_2 X S x3 x4 x5 hS g3 g4 g5), fun _ h => absurd h List.not_mem_nil⟩⟩⟩
set_option maxRecDepth 40000 in
theorem u324_0 (X : (Int → Int) × Int) (S : fx_S) (x1 x4 x5 x6 : Int) (hS : fx_Sok S) (g1 : -2147483648 ≤ x1 ∧ x1 ≤ 2147483647) (g4 : -2147483648 ≤ x4 ∧ x4 ≤ 2147483647) (g5 : -2147483648 ≤ x5 ∧ x5 ≤ 2147483647) (g6 : -2147483648 ≤ x6 ∧ x6 ≤ 2147483647) : fx_VC (fx_Mx X) 324 [x1, x4, x5, x6] S (fx_p324.getD 0 ([], .inl (0, 0))) := fx_VCR_ok (show fx_VCR (fx_Mx X) 324 [x1, x4, x5, x6] S _ from q324_0 S x1 x4 x5 x6 hS g1 g4 g5 g6)
set_option maxRecDepth 40000 in
theorem u324_1 (X : (Int → Int) × Int) (S : fx_S) (x1 x4 x5 x6 : Int) (hS : fx_Sok S) (g1 : -2147483648 ≤ x1 ∧ x1 ≤ 2147483647) (g4 : -2147483648 ≤ x4 ∧ x4 ≤ 2147483647) (g5 : -2147483648 ≤ x5 ∧ x5 ≤ 2147483647) (g6 : -2147483648 ≤ x6 ∧ x6 ≤ 2147483647) : fx_VC (fx_Mx X) 324 [x1, x4, x5, x6] S (fx_p324.getD 1 ([], .inl (0, 0))) := fx_VCR_ok (show fx_VCR (fx_Mx X) 324 [x1, x4, x5, x6] S _ from q324_1 S x1 x4 x5 x6 hS g1 g4 g5 g6)
set_option maxRecDepth 40000 in
theorem u324_2 (X : (Int → Int) × Int) (S : fx_S) (x1 x4 x5 x6 : Int) (hS : fx_Sok S) (g1 : -2147483648 ≤ x1 ∧ x1 ≤ 2147483647) (g4 : -2147483648 ≤ x4 ∧ x4 ≤ 2147483647) (g5 : -2147483648 ≤ x5 ∧ x5 ≤ 2147483647) (g6 : -2147483648 ≤ x6 ∧ x6 ≤ 2147483647) : fx_VC (fx_Mx X) 324 [x1, x4, x5, x6] S (fx_p324.getD 2 ([], .inl (0, 0))) := fx_VCR_ok (show fx_VCR (fx_Mx X) 324 [x1, x4, x5, x6] S _ from q324_2 S x1 x4 x5 x6 hS g1 g4 g5 g6)
set_option maxRecDepth 40000 in
theorem u324_3 (X : (Int → Int) × Int) (S : fx_S) (x1 x4 x5 x6 : Int) (hS : fx_Sok S) (g1 : -2147483648 ≤ x1 ∧ x1 ≤ 2147483647) (g4 : -2147483648 ≤ x4 ∧ x4 ≤ 2147483647) (g5 : -2147483648 ≤ x5 ∧ x5 ≤ 2147483647) (g6 : -2147483648 ≤ x6 ∧ x6 ≤ 2147483647) : fx_VC (fx_Mx X) 324 [x1, x4, x5, x6] S (fx_p324.getD 3 ([], .inl (0, 0))) := fx_VCR_ok (show fx_VCR (fx_Mx X) 324 [x1, x4, x5, x6] S _ from q324_3 S x1 x4 x5 x6 hS g1 g4 g5 g6)
set_option maxRecDepth 40000 in
theorem w324 (X : (Int → Int) × Int) (zs : List Int) (S : fx_S) (hS : fx_Sok S) (hz : zs.length = (fx_lv0 fx_t324.2.2.1 0).2) (rz : fx_rz fx_t324 zs S) : ∀ p ∈ fx_p324, fx_VC (fx_Mx X) 324 zs S p := by
  obtain ⟨x1, x4, x5, x6, rfl⟩ := fx_len4 hz
  have g1 : -2147483648 ≤ x1 ∧ x1 ≤ 2147483647 := rz 1 _ rfl
  have g4 : -2147483648 ≤ x4 ∧ x4 ≤ 2147483647 := rz 4 _ rfl
  have g5 : -2147483648 ≤ x5 ∧ x5 ≤ 2147483647 := rz 5 _ rfl
  have g6 : -2147483648 ≤ x6 ∧ x6 ≤ 2147483647 := rz 6 _ rfl
  exact List.forall_mem_cons.mpr ⟨(u324_0 X S x1 x4 x5 x6 hS g1 g4 g5 g6), List.forall_mem_cons.mpr ⟨(u324_1 X S x1 x4 x5 x6 hS g1 g4 g5 g6), List.forall_mem_cons.mpr ⟨(u324_2 X S x1 x4 x5 x6 hS g1 g4 g5 g6), List.forall_mem_cons.mpr ⟨(u324_3 X S x1 x4 x5 x6 hS g1 g4 g5 g6), fun _ h => absurd h List.not_mem_nil⟩⟩⟩⟩
set_option maxRecDepth 40000 in
theorem u325_0 (X : (Int → Int) × Int) (S : fx_S) (x1 : Int) (hS : fx_Sok S) (g1 : -2147483648 ≤ x1 ∧ x1 ≤ 2147483647) : fx_VC (fx_Mx X) 325 [x1] S (fx_p325.getD 0 ([], .inl (0, 0))) := fx_VCR_ok (show fx_VCR (fx_Mx X) 325 [x1] S _ from q325_0 S x1 hS g1)
set_option maxRecDepth 40000 in
theorem w325 (X : (Int → Int) × Int) (zs : List Int) (S : fx_S) (hS : fx_Sok S) (hz : zs.length = (fx_lv0 fx_t325.2.2.1 0).2) (rz : fx_rz fx_t325 zs S) : ∀ p ∈ fx_p325, fx_VC (fx_Mx X) 325 zs S p := by
  obtain ⟨x1, rfl⟩ := fx_len1 hz
  have g1 : -2147483648 ≤ x1 ∧ x1 ≤ 2147483647 := rz 1 _ rfl
  exact List.forall_mem_cons.mpr ⟨(u325_0 X S x1 hS g1), fun _ h => absurd h List.not_mem_nil⟩
set_option maxRecDepth 40000 in
theorem u326_0 (X : (Int → Int) × Int) (S : fx_S) (x1 : Int) (hS : fx_Sok S) (g1 : -2147483648 ≤ x1 ∧ x1 ≤ 2147483647) : fx_VC (fx_Mx X) 326 [x1] S (fx_p326.getD 0 ([], .inl (0, 0))) := fx_VCR_ok (show fx_VCR (fx_Mx X) 326 [x1] S _ from q326_0 S x1 hS g1)
set_option maxRecDepth 40000 in
theorem w326 (X : (Int → Int) × Int) (zs : List Int) (S : fx_S) (hS : fx_Sok S) (hz : zs.length = (fx_lv0 fx_t326.2.2.1 0).2) (rz : fx_rz fx_t326 zs S) : ∀ p ∈ fx_p326, fx_VC (fx_Mx X) 326 zs S p := by
  obtain ⟨x1, rfl⟩ := fx_len1 hz
  have g1 : -2147483648 ≤ x1 ∧ x1 ≤ 2147483647 := rz 1 _ rfl
  exact List.forall_mem_cons.mpr ⟨(u326_0 X S x1 hS g1), fun _ h => absurd h List.not_mem_nil⟩
set_option maxRecDepth 40000 in
theorem u327_0 (X : (Int → Int) × Int) (S : fx_S) (x1 x3 x4 : Int) (hS : fx_Sok S) (g1 : -2147483648 ≤ x1 ∧ x1 ≤ 2147483647) (g3 : -2147483648 ≤ x3 ∧ x3 ≤ 2147483647) (g4 : -2147483648 ≤ x4 ∧ x4 ≤ 2147483647) : fx_VC (fx_Mx X) 327 [x1, x3, x4] S (fx_p327.getD 0 ([], .inl (0, 0))) := fx_VCR_ok (show fx_VCR (fx_Mx X) 327 [x1, x3, x4] S _ from q327_0 S x1 x3 x4 hS g1 g3 g4)
set_option maxRecDepth 40000 in
theorem u327_1 (X : (Int → Int) × Int) (S : fx_S) (x1 x3 x4 : Int) (hS : fx_Sok S) (g1 : -2147483648 ≤ x1 ∧ x1 ≤ 2147483647) (g3 : -2147483648 ≤ x3 ∧ x3 ≤ 2147483647) (g4 : -2147483648 ≤ x4 ∧ x4 ≤ 2147483647) : fx_VC (fx_Mx X) 327 [x1, x3, x4] S (fx_p327.getD 1 ([], .inl (0, 0))) := fx_VCR_ok (show fx_VCR (fx_Mx X) 327 [x1, x3, x4] S _ from q327_1 S x1 x3 x4 hS g1 g3 g4)
set_option maxRecDepth 40000 in
theorem u327_2 (X : (Int → Int) × Int) (S : fx_S) (x1 x3 x4 : Int) (hS : fx_Sok S) (g1 : -2147483648 ≤ x1 ∧ x1 ≤ 2147483647) (g3 : -2147483648 ≤ x3 ∧ x3 ≤ 2147483647) (g4 : -2147483648 ≤ x4 ∧ x4 ≤ 2147483647) : fx_VC (fx_Mx X) 327 [x1, x3, x4] S (fx_p327.getD 2 ([], .inl (0, 0))) := fx_VCR_ok (show fx_VCR (fx_Mx X) 327 [x1, x3, x4] S _ from q327_2 S x1 x3 x4 hS g1 g3 g4)
set_option maxRecDepth 40000 in
theorem u327_3 (X : (Int → Int) × Int) (S : fx_S) (x1 x3 x4 : Int) (hS : fx_Sok S) (g1 : -2147483648 ≤ x1 ∧ x1 ≤ 2147483647) (g3 : -2147483648 ≤ x3 ∧ x3 ≤ 2147483647) (g4 : -2147483648 ≤ x4 ∧ x4 ≤ 2147483647) : fx_VC (fx_Mx X) 327 [x1, x3, x4] S (fx_p327.getD 3 ([], .inl (0, 0))) := fx_VCR_ok (show fx_VCR (fx_Mx X) 327 [x1, x3, x4] S _ from q327_3 S x1 x3 x4 hS g1 g3 g4)
set_option maxRecDepth 40000 in
theorem u327_4 (X : (Int → Int) × Int) (S : fx_S) (x1 x3 x4 : Int) (hS : fx_Sok S) (g1 : -2147483648 ≤ x1 ∧ x1 ≤ 2147483647) (g3 : -2147483648 ≤ x3 ∧ x3 ≤ 2147483647) (g4 : -2147483648 ≤ x4 ∧ x4 ≤ 2147483647) : fx_VC (fx_Mx X) 327 [x1, x3, x4] S (fx_p327.getD 4 ([], .inl (0, 0))) := fx_VCR_ok (show fx_VCR (fx_Mx X) 327 [x1, x3, x4] S _ from q327_4 S x1 x3 x4 hS g1 g3 g4)
set_option maxRecDepth 40000 in
theorem w327 (X : (Int → Int) × Int) (zs : List Int) (S : fx_S) (hS : fx_Sok S) (hz : zs.length = (fx_lv0 fx_t327.2.2.1 0).2) (rz : fx_rz fx_t327 zs S) : ∀ p ∈ fx_p327, fx_VC (fx_Mx X) 327 zs S p := by
  obtain ⟨x1, x3, x4, rfl⟩ := fx_len3 hz
  have g1 : -2147483648 ≤ x1 ∧ x1 ≤ 2147483647 := rz 1 _ rfl
  have g3 : -2147483648 ≤ x3 ∧ x3 ≤ 2147483647 := rz 3 _ rfl
  have g4 : -2147483648 ≤ x4 ∧ x4 ≤ 2147483647 := rz 4 _ rfl
  exact List.forall_mem_cons.mpr ⟨(u327_0 X S x1 x3 x4 hS g1 g3 g4), List.forall_mem_cons.mpr ⟨(u327_1 X S x1 x3 x4 hS g1 g3 g4), List.forall_mem_cons.mpr ⟨(u327_2 X S x1 x3 x4 hS g1 g3 g4), List.forall_mem_cons.mpr ⟨(u327_3 X S x1 x3 x4 hS g1 g3 g4), List.forall_mem_cons.mpr ⟨(u327_4 X S x1 x3 x4 hS g1 g3 g4), fun _ h => absurd h List.not_mem_nil⟩⟩⟩⟩⟩
set_option maxRecDepth 40000 in
theorem u328_0 (X : (Int → Int) × Int) (S : fx_S) (x1 x2 : Int) (hS : fx_Sok S) (g1 : -2147483648 ≤ x1 ∧ x1 ≤ 2147483647) (g2 : -2147483648 ≤ x2 ∧ x2 ≤ 2147483647) : fx_VC (fx_Mx X) 328 [x1, x2] S (fx_p328.getD 0 ([], .inl (0, 0))) := fx_VCR_ok (show fx_VCR (fx_Mx X) 328 [x1, x2] S _ from q328_0 S x1 x2 hS g1 g2)
