/-! FX: the paths of the entries, all -/
set_option maxRecDepth 40000 in
theorem w107 (X : (Int → Int) × Int) (zs : List Int) (S : fx_S) (hS : fx_Sok S) (hz : zs.length = (fx_lv0 fx_t107.2.2.1 0).2) (rz : fx_rz fx_t107 zs S) : ∀ p ∈ fx_p107, fx_VC (fx_Mx X) 107 zs S p := by
  obtain ⟨x1, x2, x3, rfl⟩ := fx_len3 hz
  have g1 : -2147483648 ≤ x1 ∧ x1 ≤ 2147483647 := rz 1 _ rfl
  have g2 : -2147483648 ≤ x2 ∧ x2 ≤ 2147483647 := rz 2 _ rfl
  have g3 : -9223372036854775808 ≤ x3 ∧ x3 ≤ 9223372036854775807 := rz 3 _ rfl
  exact List.forall_mem_cons.mpr ⟨(u107_0 X S x1 x2 x3 hS g1 g2 g3), List.forall_mem_cons.mpr ⟨(u107_1 X S x1 x2 x3 hS g1 g2 g3), List.forall_mem_cons.mpr ⟨(u107_2 X S x1 x2 x3 hS g1 g2 g3), List.forall_mem_cons.mpr ⟨(u107_3 X S x1 x2 x3 hS g1 g2 g3), List.forall_mem_cons.mpr ⟨(u107_4 X S x1 x2 x3 hS g1 g2 g3), List.forall_mem_cons.mpr ⟨(u107_5 X S x1 x2 x3 hS g1 g2 g3), fun _ h => absurd h List.not_mem_nil⟩⟩⟩⟩⟩⟩
set_option maxRecDepth 40000 in
theorem u108_0 (X : (Int → Int) × Int) (S : fx_S) (x1 x2 x3 : Int) (hS : fx_Sok S) (g1 : -2147483648 ≤ x1 ∧ x1 ≤ 2147483647) (g2 : -2147483648 ≤ x2 ∧ x2 ≤ 2147483647) (g3 : -9223372036854775808 ≤ x3 ∧ x3 ≤ 9223372036854775807) : fx_VC (fx_Mx X) 108 [x1, x2, x3] S (fx_p108.getD 0 ([], .inl (0, 0))) := fx_VCR_ok (show fx_VCR (fx_Mx X) 108 [x1, x2, x3] S _ from q108_0 S x1 x2 x3 hS g1 g2 g3)
set_option maxRecDepth 40000 in
theorem u108_1 (X : (Int → Int) × Int) (S : fx_S) (x1 x2 x3 : Int) (hS : fx_Sok S) (g1 : -2147483648 ≤ x1 ∧ x1 ≤ 2147483647) (g2 : -2147483648 ≤ x2 ∧ x2 ≤ 2147483647) (g3 : -9223372036854775808 ≤ x3 ∧ x3 ≤ 9223372036854775807) : fx_VC (fx_Mx X) 108 [x1, x2, x3] S (fx_p108.getD 1 ([], .inl (0, 0))) := fx_VCR_ok (show fx_VCR (fx_Mx X) 108 [x1, x2, x3] S _ from q108_1 S x1 x2 x3 hS g1 g2 g3)
set_option maxRecDepth 40000 in
theorem u108_2 (X : (Int → Int) × Int) (S : fx_S) (x1 x2 x3 : Int) (hS : fx_Sok S) (g1 : -2147483648 ≤ x1 ∧ x1 ≤ 2147483647) (g2 : -2147483648 ≤ x2 ∧ x2 ≤ 2147483647) (g3 : -9223372036854775808 ≤ x3 ∧ x3 ≤ 9223372036854775807) : fx_VC (fx_Mx X) 108 [x1, x2, x3] S (fx_p108.getD 2 ([], .inl (0, 0))) := fx_VCR_ok (show fx_VCR (fx_Mx X) 108 [x1, x2, x3] S _ from q108_2 S x1 x2 x3 hS g1 g2 g3)
set_option maxRecDepth 40000 in
theorem u108_3 (X : (Int → Int) × Int) (S : fx_S) (x1 x2 x3 : Int) (hS : fx_Sok S) (g1 : -2147483648 ≤ x1 ∧ x1 ≤ 2147483647) (g2 : -2147483648 ≤ x2 ∧ x2 ≤ 2147483647) (g3 : -9223372036854775808 ≤ x3 ∧ x3 ≤ 9223372036854775807) : fx_VC (fx_Mx X) 108 [x1, x2, x3] S (fx_p108.getD 3 ([], .inl (0, 0))) := fx_VCR_ok (show fx_VCR (fx_Mx X) 108 [x1, x2, x3] S _ from q108_3 S x1 x2 x3 hS g1 g2 g3)
set_option maxRecDepth 40000 in
theorem w108 (X : (Int → Int) × Int) (zs : List Int) (S : fx_S) (hS : fx_Sok S) (hz : zs.length = (fx_lv0 fx_t108.2.2.1 0).2) (rz : fx_rz fx_t108 zs S) : ∀ p ∈ fx_p108, fx_VC (fx_Mx X) 108 zs S p := by
  obtain ⟨x1, x2, x3, rfl⟩ := fx_len3 hz
  have g1 : -2147483648 ≤ x1 ∧ x1 ≤ 2147483647 := rz 1 _ rfl
  have g2 : -2147483648 ≤ x2 ∧ x2 ≤ 2147483647 := rz 2 _ rfl
  have g3 : -9223372036854775808 ≤ x3 ∧ x3 ≤ 9223372036854775807 := rz 3 _ rfl
  exact List.forall_mem_cons.mpr ⟨(u108_0 X S x1 x2 x3 hS g1 g2 g3), List.forall_mem_cons.mpr ⟨(u108_1 X S x1 x2 x3 hS g1 g2 g3), List.forall_mem_cons.mpr ⟨(u108_2 X S x1 x2 x3 hS g1 g2 g3), List.forall_mem_cons.mpr ⟨(u108_3 X S x1 x2 x3 hS g1 g2 g3), fun _ h => absurd h List.not_mem_nil⟩⟩⟩⟩
set_option maxRecDepth 40000 in
theorem u109_0 (X : (Int → Int) × Int) (S : fx_S) (x1 x2 x3 x4 x5 : Int) (hS : fx_Sok S) (g1 : -2147483648 ≤ x1 ∧ x1 ≤ 2147483647) (g2 : -2147483648 ≤ x2 ∧ x2 ≤ 2147483647) (g3 : -2147483648 ≤ x3 ∧ x3 ≤ 2147483647) (g4 : -2147483648 ≤ x4 ∧ x4 ≤ 2147483647) (g5 : -2147483648 ≤ x5 ∧ x5 ≤ 2147483647) : fx_VC (fx_Mx X) 109 [x1, x2, x3, x4, x5] S (fx_p109.getD 0 ([], .inl (0, 0))) := fx_VCR_ok (show fx_VCR (fx_Mx X) 109 [x1, x2, x3, x4, x5] S _ from q109_0 S x1 x2 x3 x4 x5 hS g1 g2 g3 g4 g5)
set_option maxRecDepth 40000 in
theorem u109_1 (X : (Int → Int) × Int) (S : fx_S) (x1 x2 x3 x4 x5 : Int) (hS : fx_Sok S) (g1 : -2147483648 ≤ x1 ∧ x1 ≤ 2147483647) (g2 : -2147483648 ≤ x2 ∧ x2 ≤ 2147483647) (g3 : -2147483648 ≤ x3 ∧ x3 ≤ 2147483647) (g4 : -2147483648 ≤ x4 ∧ x4 ≤ 2147483647) (g5 : -2147483648 ≤ x5 ∧ x5 ≤ 2147483647) : fx_VC (fx_Mx X) 109 [x1, x2, x3, x4, x5] S (fx_p109.getD 1 ([], .inl (0, 0))) := fx_VCR_ok (show fx_VCR (fx_Mx X) 109 [x1, x2, x3, x4, x5] S _ from q109_1 S x1 x2 x3 x4 x5 hS g1 g2 g3 g4 g5)
set_option maxRecDepth 40000 in
theorem u109_2 (X : (Int → Int) × Int) (S : fx_S) (x1 x2 x3 x4 x5 : Int) (hS : fx_Sok S) (g1 : -2147483648 ≤ x1 ∧ x1 ≤ 2147483647) (g2 : -2147483648 ≤ x2 ∧ x2 ≤ 2147483647) (g3 : -2147483648 ≤ x3 ∧ x3 ≤ 2147483647) (g4 : -2147483648 ≤ x4 ∧ x4 ≤ 2147483647) (g5 : -2147483648 ≤ x5 ∧ x5 ≤ 2147483647) : fx_VC (fx_Mx X) 109 [x1, x2, x3, x4, x5] S (fx_p109.getD 2 ([], .inl (0, 0))) := fx_VCR_ok (show fx_VCR (fx_Mx X) 109 [x1, x2, x3, x4, x5] S _ from q109_2 S x1 x2 x3 x4 x5 hS g1 g2 g3 g4 g5)
set_option maxRecDepth 40000 in
theorem u109_3 (X : (Int → Int) × Int) (S : fx_S) (x1 x2 x3 x4 x5 : Int) (hS : fx_Sok S) (g1 : -2147483648 ≤ x1 ∧ x1 ≤ 2147483647) (g2 : -2147483648 ≤ x2 ∧ x2 ≤ 2147483647) (g3 : -2147483648 ≤ x3 ∧ x3 ≤ 2147483647) (g4 : -2147483648 ≤ x4 ∧ x4 ≤ 2147483647) (g5 : -2147483648 ≤ x5 ∧ x5 ≤ 2147483647) : fx_VC (fx_Mx X) 109 [x1, x2, x3, x4, x5] S (fx_p109.getD 3 ([], .inl (0, 0))) := fx_VCR_ok (show fx_VCR (fx_Mx X) 109 [x1, x2, x3, x4, x5] S _ from q109_3 S x1 x2 x3 x4 x5 hS g1 g2 g3 g4 g5)
set_option maxRecDepth 40000 in
theorem u109_4 (X : (Int → Int) × Int) (S : fx_S) (x1 x2 x3 x4 x5 : Int) (hS : fx_Sok S) (g1 : -2147483648 ≤ x1 ∧ x1 ≤ 2147483647) (g2 : -2147483648 ≤ x2 ∧ x2 ≤ 2147483647) (g3 : -2147483648 ≤ x3 ∧ x3 ≤ 2147483647) (g4 : -2147483648 ≤ x4 ∧ x4 ≤ 2147483647) (g5 : -2147483648 ≤ x5 ∧ x5 ≤ 2147483647) : fx_VC (fx_Mx X) 109 [x1, x2, x3, x4, x5] S (fx_p109.getD 4 ([], .inl (0, 0))) := fx_VCR_ok (show fx_VCR (fx_Mx X) 109 [x1, x2, x3, x4, x5] S _ from q109_4 S x1 x2 x3 x4 x5 hS g1 g2 g3 g4 g5)
set_option maxRecDepth 40000 in
theorem u109_5 (X : (Int → Int) × Int) (S : fx_S) (x1 x2 x3 x4 x5 : Int) (hS : fx_Sok S) (g1 : -2147483648 ≤ x1 ∧ x1 ≤ 2147483647) (g2 : -2147483648 ≤ x2 ∧ x2 ≤ 2147483647) (g3 : -2147483648 ≤ x3 ∧ x3 ≤ 2147483647) (g4 : -2147483648 ≤ x4 ∧ x4 ≤ 2147483647) (g5 : -2147483648 ≤ x5 ∧ x5 ≤ 2147483647) : fx_VC (fx_Mx X) 109 [x1, x2, x3, x4, x5] S (fx_p109.getD 5 ([], .inl (0, 0))) := fx_VCR_ok (show fx_VCR (fx_Mx X) 109 [x1, x2, x3, x4, x5] S _ from q109_5 S x1 x2 x3 x4 x5 hS g1 g2 g3 g4 g5)
set_option maxRecDepth 40000 in
theorem u109_6 (X : (Int → Int) × Int) (S : fx_S) (x1 x2 x3 x4 x5 : Int) (hS : fx_Sok S) (g1 : -2147483648 ≤ x1 ∧ x1 ≤ 2147483647) (g2 : -2147483648 ≤ x2 ∧ x2 ≤ 2147483647) (g3 : -2147483648 ≤ x3 ∧ x3 ≤ 2147483647) (g4 : -2147483648 ≤ x4 ∧ x4 ≤ 2147483647) (g5 : -2147483648 ≤ x5 ∧ x5 ≤ 2147483647) : fx_VC (fx_Mx X) 109 [x1, x2, x3, x4, x5] S (fx_p109.getD 6 ([], .inl (0, 0))) := fx_VCR_ok (show fx_VCR (fx_Mx X) 109 [x1, x2, x3, x4, x5] S _ from q109_6 S x1 x2 x3 x4 x5 hS g1 g2 g3 g4 g5)
set_option maxRecDepth 40000 in
theorem u109_7 (X : (Int → Int) × Int) (S : fx_S) (x1 x2 x3 x4 x5 : Int) (hS : fx_Sok S) (g1 : -2147483648 ≤ x1 ∧ x1 ≤ 2147483647) (g2 : -2147483648 ≤ x2 ∧ x2 ≤ 2147483647) (g3 : -2147483648 ≤ x3 ∧ x3 ≤ 2147483647) (g4 : -2147483648 ≤ x4 ∧ x4 ≤ 2147483647) (g5 : -2147483648 ≤ x5 ∧ x5 ≤ 2147483647) : fx_VC (fx_Mx X) 109 [x1, x2, x3, x4, x5] S (fx_p109.getD 7 ([], .inl (0, 0))) := fx_VCR_ok (show fx_VCR (fx_Mx X) 109 [x1, x2, x3, x4, x5] S _ from q109_7 S x1 x2 x3 x4 x5 hS g1 g2 g3 g4 g5)
set_option maxRecDepth 40000 in
theorem u109_8 (X : (Int → Int) × Int) (S : fx_S) (x1 x2 x3 x4 x5 : Int) (hS : fx_Sok S) (g1 : -2147483648 ≤ x1 ∧ x1 ≤ 2147483647) (g2 : -2147483648 ≤ x2 ∧ x2 ≤ 2147483647) (g3 : -2147483648 ≤ x3 ∧ x3 ≤ 2147483647) (g4 : -2147483648 ≤ x4 ∧ x4 ≤ 2147483647) (g5 : -2147483648 ≤ x5 ∧ x5 ≤ 2147483647) : fx_VC (fx_Mx X) 109 [x1, x2, x3, x4, x5] S (fx_p109.getD 8 ([], .inl (0, 0))) := fx_VCR_ok (show fx_VCR (fx_Mx X) 109 [x1, x2, x3, x4, x5] S _ from q109_8 S x1 x2 x3 x4 x5 hS g1 g2 g3 g4 g5)
set_option maxRecDepth 40000 in
theorem u109_9 (X : (Int → Int) × Int) (S : fx_S) (x1 x2 x3 x4 x5 : Int) (hS : fx_Sok S) (g1 : -2147483648 ≤ x1 ∧ x1 ≤ 2147483647) (g2 : -2147483648 ≤ x2 ∧ x2 ≤ 2147483647) (g3 : -2147483648 ≤ x3 ∧ x3 ≤ 2147483647) (g4 : -2147483648 ≤ x4 ∧ x4 ≤ 2147483647) (g5 : -2147483648 ≤ x5 ∧ x5 ≤ 2147483647) : fx_VC (fx_Mx X) 109 [x1, x2, x3, x4, x5] S (fx_p109.getD 9 ([], .inl (0, 0))) := fx_VCR_ok (show fx_VCR (fx_Mx X) 109 [x1, x2, x3, x4, x5] S _ from q109_9 S x1 x2 x3 x4 x5 hS g1 g2 g3 g4 g5)
set_option maxRecDepth 40000 in
theorem w109 (X : (Int → Int) × Int) (zs : List Int) (S : fx_S) (hS : fx_Sok S) (hz : zs.length = (fx_lv0 fx_t109.2.2.1 0).2) (rz : fx_rz fx_t109 zs S) : ∀ p ∈ fx_p109, fx_VC (fx_Mx X) 109 zs S p := by
  obtain ⟨x1, x2, x3, x4, x5, rfl⟩ := fx_len5 hz
  have g1 : -2147483648 ≤ x1 ∧ x1 ≤ 2147483647 := rz 1 _ rfl
  have g2 : -2147483648 ≤ x2 ∧ x2 ≤ 2147483647 := rz 2 _ rfl
  have g3 : -2147483648 ≤ x3 ∧ x3 ≤ 2147483647 := rz 3 _ rfl
  have g4 : -2147483648 ≤ x4 ∧ x4 ≤ 2147483647 := rz 4 _ rfl
  have g5 : -2147483648 ≤ x5 ∧ x5 ≤ 2147483647 := rz 5 _ rfl
  exact List.forall_mem_cons.mpr ⟨(u109_0 X S x1 x2 x3 x4 x5 hS g1 g2 g3 g4 g5), List.forall_mem_cons.mpr ⟨(u109_1 X S x1 x2 x3 x4 x5 hS g1 g2 g3 g4 g5), List.forall_mem_cons.mpr ⟨(u109_2 X S x1 x2 x3 x4 x5 hS g1 g2 g3 g4 g5), List.forall_mem_cons.mpr ⟨(u109_3 X S x1 x2 x3 x4 x5 hS g1 g2 g3 g4 g5), List.forall_mem_cons.mpr ⟨(u109_4 X S x1 x2 x3 x4 x5 hS g1 g2 g3 g4 g5), List.forall_mem_cons.mpr ⟨(u109_5 X S x1 x2 x3 x4 x5 hS g1 g2 g3 g4 g5), List.forall_mem_cons.mpr ⟨(u109_6 X S x1 x2 x3 x4 x5 hS g1 g2 g3 g4 g5), List.forall_mem_cons.mpr ⟨(u109_7 X S x1 x2 x3 x4 x5 hS g1 g2 g3 g4 g5), List.forall_mem_cons.mpr ⟨(u109_8 X S x1 x2 x3 x4 x5 hS g1 g2 g3 g4 g5), List.forall_mem_cons.mpr ⟨(u109_9 X S x1 x2 x3 x4 x5 hS g1 g2 g3 g4 g5), fun _ h => absurd h List.not_mem_nil⟩⟩⟩⟩⟩⟩⟩⟩⟩⟩
set_option maxRecDepth 40000 in
theorem u110_0 (X : (Int → Int) × Int) (S : fx_S) (x1 x2 x3 x4 x5 : Int) (hS : fx_Sok S) (g1 : -2147483648 ≤ x1 ∧ x1 ≤ 2147483647) (g2 : -2147483648 ≤ x2 ∧ x2 ≤ 2147483647) (g3 : -2147483648 ≤ x3 ∧ x3 ≤ 2147483647) (g4 : -2147483648 ≤ x4 ∧ x4 ≤ 2147483647) (g5 : -2147483648 ≤ x5 ∧ x5 ≤ 2147483647) : fx_VC (fx_Mx X) 110 [x1, x2, x3, x4, x5] S (fx_p110.getD 0 ([], .inl (0, 0))) := fx_VCR_ok (show fx_VCR (fx_Mx X) 110 [x1, x2, x3, x4, x5] S _ from q110_0 S x1 x2 x3 x4 x5 hS g1 g2 g3 g4 g5)
set_option maxRecDepth 40000 in
theorem u110_1 (X : (Int → Int) × Int) (S : fx_S) (x1 x2 x3 x4 x5 : Int) (hS : fx_Sok S) (g1 : -2147483648 ≤ x1 ∧ x1 ≤ 2147483647) (g2 : -2147483648 ≤ x2 ∧ x2 ≤ 2147483647) (g3 : -2147483648 ≤ x3 ∧ x3 ≤ 2147483647) (g4 : -2147483648 ≤ x4 ∧ x4 ≤ 2147483647) (g5 : -2147483648 ≤ x5 ∧ x5 ≤ 2147483647) : fx_VC (fx_Mx X) 110 [x1, x2, x3, x4, x5] S (fx_p110.getD 1 ([], .inl (0, 0))) := fx_VCR_ok (show fx_VCR (fx_Mx X) 110 [x1, x2, x3, x4, x5] S _ from q110_1 S x1 x2 x3 x4 x5 hS g1 g2 g3 g4 g5)
set_option maxRecDepth 40000 in
theorem u110_2 (X : (Int → Int) × Int) (S : fx_S) (x1 x2 x3 x4 x5 : Int) (hS : fx_Sok S) (g1 : -2147483648 ≤ x1 ∧ x1 ≤ 2147483647) (g2 : -2147483648 ≤ x2 ∧ x2 ≤ 2147483647) (g3 : -2147483648 ≤ x3 ∧ x3 ≤ 2147483647) (g4 : -2147483648 ≤ x4 ∧ x4 ≤ 2147483647) (g5 : -2147483648 ≤ x5 ∧ x5 ≤ 2147483647) : fx_VC (fx_Mx X) 110 [x1, x2, x3, x4, x5] S (fx_p110.getD 2 ([], .inl (0, 0))) := fx_VCR_ok (show fx_VCR (fx_Mx X) 110 [x1, x2, x3, x4, x5] S _ from q110_2 S x1 x2 x3 x4 x5 hS g1 g2 g3 g4 g5)
set_option maxRecDepth 40000 in
theorem u110_3 (X : (Int → Int) × Int) (S : fx_S) (x1 x2 x3 x4 x5 : Int) (hS : fx_Sok S) (g1 : -2147483648 ≤ x1 ∧ x1 ≤ 2147483647) (g2 : -2147483648 ≤ x2 ∧ x2 ≤ 2147483647) (g3 : -2147483648 ≤ x3 ∧ x3 ≤ 2147483647) (g4 : -2147483648 ≤ x4 ∧ x4 ≤ 2147483647) (g5 : -2147483648 ≤ x5 ∧ x5 ≤ 2147483647) : fx_VC (fx_Mx X) 110 [x1, x2, x3, x4, x5] S (fx_p110.getD 3 ([], .inl (0, 0))) := fx_VCR_ok (show fx_VCR (fx_Mx X) 110 [x1, x2, x3, x4, x5] S _ from q110_3 S x1 x2 x3 x4 x5 hS g1 g2 g3 g4 g5)
set_option maxRecDepth 40000 in
theorem u110_4 (X : (Int → Int) × Int) (S : fx_S) (x1 x2 x3 x4 x5 : Int) (hS : fx_Sok S) (g1 : -2147483648 ≤ x1 ∧ x1 ≤ 2147483647) (g2 : -2147483648 ≤ x2 ∧ x2 ≤ 2147483647) (g3 : -2147483648 ≤ x3 ∧ x3 ≤ 2147483647) (g4 : -2147483648 ≤ x4 ∧ x4 ≤ 2147483647) (g5 : -2147483648 ≤ x5 ∧ x5 ≤ 2147483647) : fx_VC (fx_Mx X) 110 [x1, x2, x3, x4, x5] S (fx_p110.getD 4 ([], .inl (0, 0))) := fx_VCR_ok (show fx_VCR (fx_Mx X) 110 [x1, x2, x3, x4, x5] S _ from q110_4 S x1 x2 x3 x4 x5 hS g1 g2 g3 g4 g5)
set_option maxRecDepth 40000 in
theorem u110_5 (X : (Int → Int) × Int) (S : fx_S) (x1 x2 x3 x4 x5 : Int) (hS : fx_Sok S) (g1 : -2147483648 ≤ x1 ∧ x1 ≤ 2147483647) (g2 : -2147483648 ≤ x2 ∧ x2 ≤ 2147483647) (g3 : -2147483648 ≤ x3 ∧ x3 ≤ 2147483647) (g4 : -2147483648 ≤ x4 ∧ x4 ≤ 2147483647) (g5 : -2147483648 ≤ x5 ∧ x5 ≤ 2147483647) : fx_VC (fx_Mx X) 110 [x1, x2, x3, x4, x5] S (fx_p110.getD 5 ([], .inl (0, 0))) := fx_VCR_ok (show fx_VCR (fx_Mx X) 110 [x1, x2, x3, x4, x5] S _ from q110_5 S x1 x2 x3 x4 x5 hS g1 g2 g3 g4 g5)
set_option maxRecDepth 40000 in
theorem u110_6 (X : (Int → Int) × Int) (S : fx_S) (x1 x2 x3 x4 x5 : Int) (hS : fx_Sok S) (g1 : -2147483648 ≤ x1 ∧ x1 ≤ 2147483647) (g2 : -2147483648 ≤ x2 ∧ x2 ≤ 2147483647) (g3 : -2147483648 ≤ x3 ∧ x3 ≤ 2147483647) (g4 : -2147483648 ≤ x4 ∧ x4 ≤ 2147483647) (g5 : -2147483648 ≤ x5 ∧ x5 ≤ 2147483647) : fx_VC (fx_Mx X) 110 [x1, x2, x3, x4, x5] S (fx_p110.getD 6 ([], .inl (0, 0))) := fx_VCR_ok (show fx_VCR (fx_Mx X) 110 [x1, x2, x3, x4, x5] S _ from q110_6 S x1 x2 x3 x4 x5 hS g1 g2 g3 g4 g5)
set_option maxRecDepth 40000 in
theorem u110_7 (X : (Int → Int) × Int) (S : fx_S) (x1 x2 x3 x4 x5 : Int) (hS : fx_Sok S) (g1 : -2147483648 ≤ x1 ∧ x1 ≤ 2147483647) (g2 : -2147483648 ≤ x2 ∧ x2 ≤ 2147483647) (g3 : -2147483648 ≤ x3 ∧ x3 ≤ 2147483647) (g4 : -2147483648 ≤ x4 ∧ x4 ≤ 2147483647) (g5 : -2147483648 ≤ x5 ∧ x5 ≤ 2147483647) : fx_VC (fx_Mx X) 110 [x1, x2, x3, x4, x5] S (fx_p110.getD 7 ([], .inl (0, 0))) := fx_VCR_ok (show fx_VCR (fx_Mx X) 110 [x1, x2, x3, x4, x5] S _ from q110_7 S x1 x2 x3 x4 x5 hS g1 g2 g3 g4 g5)
set_option maxRecDepth 40000 in
theorem u110_8 (X : (Int → Int) × Int) (S : fx_S) (x1 x2 x3 x4 x5 : Int) (hS : fx_Sok S) (g1 : -2147483648 ≤ x1 ∧ x1 ≤ 2147483647) (g2 : -2147483648 ≤ x2 ∧ x2 ≤ 2147483647) (g3 : -2147483648 ≤ x3 ∧ x3 ≤ 2147483647) (g4 : -2147483648 ≤ x4 ∧ x4 ≤ 2147483647) (g5 : -2147483648 ≤ x5 ∧ x5 ≤ 2147483647) : fx_VC (fx_Mx X) 110 [x1, x2, x3, x4, x5] S (fx_p110.getD 8 ([], .inl (0, 0))) := fx_VCR_ok (show fx_VCR (fx_Mx X) 110 [x1, x2, x3, x4, x5] S _ from q110_8 S x1 x2 x3 x4 x5 hS g1 g2 g3 g4 g5)
set_option maxRecDepth 40000 in
theorem u110_9 (X : (Int → Int) × Int) (S : fx_S) (x1 x2 x3 x4 x5 : Int) (hS : fx_Sok S) (g1 : -2147483648 ≤ x1 ∧ x1 ≤ 2147483647) (g2 : -2147483648 ≤ x2 ∧ x2 ≤ 2147483647) (g3 : -2147483648 ≤ x3 ∧ x3 ≤ 2147483647) (g4 : -2147483648 ≤ x4 ∧ x4 ≤ 2147483647) (g5 : -2147483648 ≤ x5 ∧ x5 ≤ 2147483647) : fx_VC (fx_Mx X) 110 [x1, x2, x3, x4, x5] S (fx_p110.getD 9 ([], .inl (0, 0))) := fx_VCR_ok (show fx_VCR (fx_Mx X) 110 [x1, x2, x3, x4, x5] S _ from q110_9 S x1 x2 x3 x4 x5 hS g1 g2 g3 g4 g5)
set_option maxRecDepth 40000 in
theorem u110_10 (X : (Int → Int) × Int) (S : fx_S) (x1 x2 x3 x4 x5 : Int) (hS : fx_Sok S) (g1 : -2147483648 ≤ x1 ∧ x1 ≤ 2147483647) (g2 : -2147483648 ≤ x2 ∧ x2 ≤ 2147483647) (g3 : -2147483648 ≤ x3 ∧ x3 ≤ 2147483647) (g4 : -2147483648 ≤ x4 ∧ x4 ≤ 2147483647) (g5 : -2147483648 ≤ x5 ∧ x5 ≤ 2147483647) : fx_VC (fx_Mx X) 110 [x1, x2, x3, x4, x5] S (fx_p110.getD 10 ([], .inl (0, 0))) := fx_VCR_ok (show fx_VCR (fx_Mx X) 110 [x1, x2, x3, x4, x5] S _ from q110_10 S x1 x2 x3 x4 x5 hS g1 g2 g3 g4 g5)
set_option maxRecDepth 40000 in
theorem w110 (X : (Int → Int) × Int) (zs : List Int) (S : fx_S) (hS : fx_Sok S) (hz : zs.length = (fx_lv0 fx_t110.2.2.1 0).2) (rz : fx_rz fx_t110 zs S) : ∀ p ∈ fx_p110, fx_VC (fx_Mx X) 110 zs S p := by
  obtain ⟨x1, x2, x3, x4, x5, rfl⟩ := fx_len5 hz
  have g1 : -2147483648 ≤ x1 ∧ x1 ≤ 2147483647 := rz 1 _ rfl
  have g2 : -2147483648 ≤ x2 ∧ x2 ≤ 2147483647 := rz 2 _ rfl
  have g3 : -2147483648 ≤ x3 ∧ x3 ≤ 2147483647 := rz 3 _ rfl
  have g4 : -2147483648 ≤ x4 ∧ x4 ≤ 2147483647 := rz 4 _ rfl
  have g5 : -2147483648 ≤ x5 ∧ x5 ≤ 2147483647 := rz 5 _ rfl
  exact List.forall_mem_cons.mpr ⟨(u110_0 X S x1 x2 x3 x4 x5 hS g1 g2 g3 g4 g5), List.forall_mem_cons.mpr ⟨(u110_1 X S x1 x2 x3 x4 x5 hS g1 g2 g3 g4 g5), List.forall_mem_cons.mpr ⟨(u110_2 X S x1 x2 x3 x4 x5 hS g1 g2 g3 g4 g5), List.forall_mem_cons.mpr ⟨(u110_3 X S x1 x2 x3 x4 x5 hS g1 g2 g3 g4 g5), List.forall_mem_cons.mpr ⟨(u110_4 X S x1 x2 x3 x4 x5 hS g1 g2 g3 g4 g5), List.forall_mem_cons.mpr ⟨(u110_5 X S x1 x2 x3 x4 x5 hS g1 g2 g3 g4 g5), List.forall_mem_cons.mpr ⟨(u110_6 X S x1 x2 x3 x4 x5 hS g1 g2 g3 g4 g5), List.forall_mem_cons.mpr ⟨(u110_7 X S x1 x2 x3 x4 x5 hS g1 g2 g3 g4 g5), List.forall_mem_cons.mpr ⟨(u110_8 X S x1 x2 x3 x4 x5 hS g1 g2 g3 g4 g5), List.forall_mem_cons.mpr ⟨(u110_9 X S x1 x2 x3 x4 x5 hS g1 g2 g3 g4 g5), List.forall_mem_cons.mpr ⟨(u110_10 X S x1 x2 x3 x4 x5 hS g1 g2 g3 g4 g5), fun _ h => absurd h List.not_mem_nil⟩⟩⟩⟩⟩⟩⟩⟩⟩⟩⟩
set_option maxRecDepth 40000 in
theorem u111_0 (X : (Int → Int) × Int) (S : fx_S) (x1 : Int) (hS : fx_Sok S) (g1 : -2147483648 ≤ x1 ∧ x1 ≤ 2147483647) : fx_VC (fx_Mx X) 111 [x1] S (fx_p111.getD 0 ([], .inl (0, 0))) := fx_VCR_ok (show fx_VCR (fx_Mx X) 111 [x1] S _ from q111_0 S x1 hS g1)
set_option maxRecDepth 40000 in
theorem w111 (X : (Int → Int) × Int) (zs : List Int) (S : fx_S) (hS : fx_Sok S) (hz : zs.length = (fx_lv0 fx_t111.2.2.1 0).2) (rz : fx_rz fx_t111 zs S) : ∀ p ∈ fx_p111, fx_VC (fx_Mx X) 111 zs S p := by
  obtain ⟨x1, rfl⟩ := fx_len1 hz
  have g1 : -2147483648 ≤ x1 ∧ x1 ≤ 2147483647 := rz 1 _ rfl
  exact List.forall_mem_cons.mpr ⟨(u111_0 X S x1 hS g1), fun _ h => absurd h List.not_mem_nil⟩
set_option maxRecDepth 40000 in
theorem u112_0 (X : (Int → Int) × Int) (S : fx_S) (x6 : Int) (hS : fx_Sok S) (g6 : -2147483648 ≤ x6 ∧ x6 ≤ 2147483647) : fx_VC (fx_Mx X) 112 [x6] S (fx_p112.getD 0 ([], .inl (0, 0))) := fx_VCR_ok (show fx_VCR (fx_Mx X) 112 [x6] S _ from q112_0 S x6 hS g6)
set_option maxRecDepth 40000 in
theorem u112_1 (X : (Int → Int) × Int) (S : fx_S) (x6 : Int) (hS : fx_Sok S) (g6 : -2147483648 ≤ x6 ∧ x6 ≤ 2147483647) : fx_VC (fx_Mx X) 112 [x6] S (fx_p112.getD 1 ([], .inl (0, 0))) := fx_VCR_ok (show fx_VCR (fx_Mx X) 112 [x6] S _ from q112_1 S x6 hS g6)
set_option maxRecDepth 40000 in
theorem w112 (X : (Int → Int) × Int) (zs : List Int) (S : fx_S) (hS : fx_Sok S) (hz : zs.length = (fx_lv0 fx_t112.2.2.1 0).2) (rz : fx_rz fx_t112 zs S) : ∀ p ∈ fx_p112, fx_VC (fx_Mx X) 112 zs S p := by
  obtain ⟨x6, rfl⟩ := fx_len1 hz
  have g6 : -2147483648 ≤ x6 ∧ x6 ≤ 2147483647 := rz 6 _ rfl
  exact List.forall_mem_cons.mpr ⟨(u112_0 X S x6 hS g6), List.forall_mem_cons.mpr ⟨(u112_1 X S x6 hS g6), fun _ h => absurd h List.not_mem_nil⟩⟩
set_option maxRecDepth 40000 in
theorem u113_0 (X : (Int → Int) × Int) (S : fx_S) (x0 x2 x4 : Int) (hS : fx_Sok S) (g0 : -9223372036854775808 ≤ x0 ∧ x0 ≤ 9223372036854775807) (g2 : -9223372036854775808 ≤ x2 ∧ x2 ≤ 9223372036854775807) (g4 : -9223372036854775808 ≤ x4 ∧ x4 ≤ 9223372036854775807) : fx_VC (fx_Mx X) 113 [x0, x2, x4] S (fx_p113.getD 0 ([], .inl (0, 0))) := fx_VCR_ok (show fx_VCR (fx_Mx X) 113 [x0, x2, x4] S _ from q113_0 S x0 x2 x4 hS g0 g2 g4)
set_option maxRecDepth 40000 in
theorem u113_1 (X : (Int → Int) × Int) (S : fx_S) (x0 x2 x4 : Int) (hS : fx_Sok S) (g0 : -9223372036854775808 ≤ x0 ∧ x0 ≤ 9223372036854775807) (g2 : -9223372036854775808 ≤ x2 ∧ x2 ≤ 9223372036854775807) (g4 : -9223372036854775808 ≤ x4 ∧ x4 ≤ 9223372036854775807) : fx_VC (fx_Mx X) 113 [x0, x2, x4] S (fx_p113.getD 1 ([], .inl (0, 0))) := fx_VCR_ok (show fx_VCR (fx_Mx X) 113 [x0, x2, x4] S _ from q113_1 S x0 x2 x4 hS g0 g2 g4)
set_option maxRecDepth 40000 in
theorem u113_2 (X : (Int → Int) × Int) (S : fx_S) (x0 x2 x4 : Int) (hS : fx_Sok S) (g0 : -9223372036854775808 ≤ x0 ∧ x0 ≤ 9223372036854775807) (g2 : -9223372036854775808 ≤ x2 ∧ x2 ≤ 9223372036854775807) (g4 : -9223372036854775808 ≤ x4 ∧ x4 ≤ 9223372036854775807) : fx_VC (fx_Mx X) 113 [x0, x2, x4] S (fx_p113.getD 2 ([], .inl (0, 0))) := fx_VCR_ok (show fx_VCR (fx_Mx X) 113 [x0, x2, x4] S _ from q113_2 S x0 x2 x4 hS g0 g2 g4)
set_option maxRecDepth 40000 in
theorem w113 (X : (Int → Int) × Int) (zs : List Int) (S : fx_S) (hS : fx_Sok S) (hz : zs.length = (fx_lv0 fx_t113.2.2.1 0).2) (rz : fx_rz fx_t113 zs S) : ∀ p ∈ fx_p113, fx_VC (fx_Mx X) 113 zs S p := by
  obtain ⟨x0, x2, x4, rfl⟩ := fx_len3 hz
  have g0 : -9223372036854775808 ≤ x0 ∧ x0 ≤ 9223372036854775807 := rz 0 _ rfl
  have g2 : -9223372036854775808 ≤ x2 ∧ x2 ≤ 9223372036854775807 := rz 2 _ rfl
  have g4 : -9223372036854775808 ≤ x4 ∧ x4 ≤ 9223372036854775807 := rz 4 _ rfl
  exact List.forall_mem_cons.mpr ⟨(u113_0 X S x0 x2 x4 hS g0 g2 g4), List.forall_mem_cons.mpr ⟨(u113_1 X S x0 x2 x4 hS g0 g2 g4), List.forall_mem_cons.mpr ⟨(u113_2 X S x0 x2 x4 hS g0 g2 g4), fun _ h => absurd h List.not_mem_nil⟩⟩⟩
set_option maxRecDepth 40000 in
theorem u114_0 (X : (Int → Int) × Int) (S : fx_S) (x0 x1 x2 : Int) (hS : fx_Sok S) (g0 : -2147483648 ≤ x0 ∧ x0 ≤ 2147483647) (g1 : -2147483648 ≤ x1 ∧ x1 ≤ 2147483647) (g2 : -2147483648 ≤ x2 ∧ x2 ≤ 2147483647) : fx_VC (fx_Mx X) 114 [x0, x1, x2] S (fx_p114.getD 0 ([], .inl (0, 0))) := fx_VCR_ok (show fx_VCR (fx_Mx X) 114 [x0, x1, x2] S _ from q114_0 S x0 x1 x2 hS g0 g1 g2)
set_option maxRecDepth 40000 in
theorem u114_1 (X : (Int → Int) × Int) (S : fx_S) (x0 x1 x2 : Int) (hS : fx_Sok S) (g0 : -2147483648 ≤ x0 ∧ x0 ≤ 2147483647) (g1 : -2147483648 ≤ x1 ∧ x1 ≤ 2147483647) (g2 : -2147483648 ≤ x2 ∧ x2 ≤ 2147483647) : fx_VC (fx_Mx X) 114 [x0, x1, x2] S (fx_p114.getD 1 ([], .inl (0, 0))) := fx_VCR_ok (show fx_VCR (fx_Mx X) 114 [x0, x1, x2] S _ from q114_1 S x0 x1 x2 hS g0 g1 g2)
set_option maxRecDepth 40000 in
theorem u114_2 (X : (Int → Int) × Int) (S : fx_S) (x0 x1 x2 : Int) (hS : fx_Sok S) (g0 : -2147483648 ≤ x0 ∧ x0 ≤ 2147483647) (g1 : -2147483648 ≤ x1 ∧ x1 ≤ 2147483647) (g2 : -2147483648 ≤ x2 ∧ x2 ≤ 2147483647) : fx_VC (fx_Mx X) 114 [x0, x1, x2] S (fx_p114.getD 2 ([], .inl (0, 0))) := fx_VCR_ok (show fx_VCR (fx_Mx X) 114 [x0, x1, x2] S _ from q114_2 S x0 x1 x2 hS g0 g1 g2)
set_option maxRecDepth 40000 in
theorem w114 (X : (Int → Int) × Int) (zs : List Int) (S : fx_S) (hS : fx_Sok S) (hz : zs.length = (fx_lv0 fx_t114.2.2.1 0).2) (rz : fx_rz fx_t114 zs S) : ∀ p ∈ fx_p114, fx_VC (fx_Mx X) 114 zs S p := by
  obtain ⟨x0, x1, x2, rfl⟩ := fx_len3 hz
  have g0 : -2147483648 ≤ x0 ∧ x0 ≤ 2147483647 := rz 0 _ rfl
  have g1 : -2147483648 ≤ x1 ∧ x1 ≤ 2147483647 := rz 1 _ rfl
  have g2 : -2147483648 ≤ x2 ∧ x2 ≤ 2147483647 := rz 2 _ rfl
  exact List.forall_mem_cons.mpr ⟨(u114_0 X S x0 x1 x2 hS g0 g1 g2), List.forall_mem_cons.mpr ⟨(u114_1 X S x0 x1 x2 hS g0 g1 g2), List.forall_mem_cons.mpr ⟨(u114_2 X S x0 x1 x2 hS g0 g1 g2), fun _ h => absurd h List.not_mem_nil⟩⟩⟩
set_option maxRecDepth 40000 in
theorem u115_0 (X : (Int → Int) × Int) (S : fx_S) (x1 x2 x3 : Int) (hS : fx_Sok S) (g1 : -2147483648 ≤ x1 ∧ x1 ≤ 2147483647) (g2 : -2147483648 ≤ x2 ∧ x2 ≤ 2147483647) (g3 : -2147483648 ≤ x3 ∧ x3 ≤ 2147483647) : fx_VC (fx_Mx X) 115 [x1, x2, x3] S (fx_p115.getD 0 ([], .inl (0, 0))) := fx_VCR_ok (show fx_VCR (fx_Mx X) 115 [x1, x2, x3] S _ from q115_0 S x1 x2 x3 hS g1 g2 g3)
set_option maxRecDepth 40000 in
theorem u115_1 (X : (Int → Int) × Int) (S : fx_S) (x1 x2 x3 : Int) (hS : fx_Sok S) (g1 : -2147483648 ≤ x1 ∧ x1 ≤ 2147483647) (g2 : -2147483648 ≤ x2 ∧ x2 ≤ 2147483647) (g3 : -2147483648 ≤ x3 ∧ x3 ≤ 2147483647) : fx_VC (fx_Mx X) 115 [x1, x2, x3] S (fx_p115.getD 1 ([], .inl (0, 0))) := fx_VCR_ok (show fx_VCR (fx_Mx X) 115 [x1, x2, x3] S _ from q115_1 S x1 x2 x3 hS g1 g2 g3)
set_option maxRecDepth 40000 in
theorem w115 (X : (Int → Int) × Int) (zs : List Int) (S : fx_S) (hS : fx_Sok S) (hz : zs.length = (fx_lv0 fx_t115.2.2.1 0).2) (rz : fx_rz fx_t115 zs S) : ∀ p ∈ fx_p115, fx_VC (fx_Mx X) 115 zs S p := by
  obtain ⟨x1, x2, x3, rfl⟩ := fx_len3 hz
  have g1 : -2147483648 ≤ x1 ∧ x1 ≤ 2147483647 := rz 1 _ rfl
  have g2 : -2147483648 ≤ x2 ∧ x2 ≤ 2147483647 := rz 2 _ rfl
  have g3 : -2147483648 ≤ x3 ∧ x3 ≤ 2147483647 := rz 3 _ rfl
  exact List.forall_mem_cons.mpr ⟨(u115_0 X S x1 x2 x3 hS g1 g2 g3), List.forall_mem_cons.mpr ⟨(u115_1 X S x1 x2 x3 hS g1 g2 g3), fun _ h => absurd h List.not_mem_nil⟩⟩
set_option maxRecDepth 40000 in
theorem u116_0 (X : (Int → Int) × Int) (S : fx_S) (x1 x2 x3 : Int) (hS : fx_Sok S) (g1 : -2147483648 ≤ x1 ∧ x1 ≤ 2147483647) (g2 : -2147483648 ≤ x2 ∧ x2 ≤ 2147483647) (g3 : -2147483648 ≤ x3 ∧ x3 ≤ 2147483647) : fx_VC (fx_Mx X) 116 [x1, x2, x3] S (fx_p116.getD 0 ([], .inl (0, 0))) := fx_VCR_ok (show fx_VCR (fx_Mx X) 116 [x1, x2, x3] S _ from q116_0 S x1 x2 x3 hS g1 g2 g3)
set_option maxRecDepth 40000 in
theorem u116_1 (X : (Int → Int) × Int) (S : fx_S) (x1 x2 x3 : Int) (hS : fx_Sok S) (g1 : -2147483648 ≤ x1 ∧ x1 ≤ 2147483647) (g2 : -2147483648 ≤ x2 ∧ x2 ≤ 2147483647) (g3 : -2147483648 ≤ x3 ∧ x3 ≤ 2147483647) : fx_VC (fx_Mx X) 116 [x1, x2, x3] S (fx_p116.getD 1 ([], .inl (0, 0))) := fx_VCR_ok (show fx_VCR (fx_Mx X) 116 [x1, x2, x3] S _ from q116_1 S x1 x2 x3 hS g1 g2 g3)
set_option maxRecDepth 40000 in
theorem w116 (X : (Int → Int) × Int) (zs : List Int) (S : fx_S) (hS : fx_Sok S) (hz : zs.length = (fx_lv0 fx_t116.2.2.1 0).2) (rz : fx_rz fx_t116 zs S) : ∀ p ∈ fx_p116, fx_VC (fx_Mx X) 116 zs S p := by
  obtain ⟨x1, x2, x3, rfl⟩ := fx_len3 hz
  have g1 : -2147483648 ≤ x1 ∧ x1 ≤ 2147483647 := rz 1 _ rfl
  have g2 : -2147483648 ≤ x2 ∧ x2 ≤ 2147483647 := rz 2 _ rfl
  have g3 : -2147483648 ≤ x3 ∧ x3 ≤ 2147483647 := rz 3 _ rfl
  exact List.forall_mem_cons.mpr ⟨(u116_0 X S x1 x2 x3 hS g1 g2 g3), List.forall_mem_cons.mpr ⟨(u116_1 X S x1 x2 x3 hS g1 g2 g3), fun _ h => absurd h List.not_mem_nil⟩⟩
set_option maxRecDepth 40000 in
theorem u117_0 (X : (Int → Int) × Int) (S : fx_S) (hS : fx_Sok S) : fx_VC (fx_Mx X) 117 [] S (fx_p117.getD 0 ([], .inl (0, 0))) := fx_VCR_ok (show fx_VCR (fx_Mx X) 117 [] S _ from q117_0 S hS)
set_option maxRecDepth 40000 in
theorem w117 (X : (Int → Int) × Int) (zs : List Int) (S : fx_S) (hS : fx_Sok S) (hz : zs.length = (fx_lv0 fx_t117.2.2.1 0).2) (rz : fx_rz fx_t117 zs S) : ∀ p ∈ fx_p117, fx_VC (fx_Mx X) 117 zs S p := by
  obtain rfl := List.eq_nil_of_length_eq_zero hz
  exact List.forall_mem_cons.mpr ⟨(u117_0 X S hS), fun _ h => absurd h List.not_mem_nil⟩
set_option maxRecDepth 40000 in
theorem u118_0 (X : (Int → Int) × Int) (S : fx_S) (x1 x2 x3 : Int) (hS : fx_Sok S) (g1 : -1 ≤ x1 ∧ x1 < S.2.2) (g2 : -2147483648 ≤ x2 ∧ x2 ≤ 2147483647) (g3 : -2147483648 ≤ x3 ∧ x3 ≤ 2147483647) : fx_VC (fx_Mx X) 118 [x1, x2, x3] S (fx_p118.getD 0 ([], .inl (0, 0))) := fx_VCR_ok (show fx_VCR (fx_Mx X) 118 [x1, x2, x3] S _ from q118_0 S x1 x2 x3 hS g1 g2 g3)
set_option maxRecDepth 40000 in
theorem u118_1 (X : (Int → Int) × Int) (S : fx_S) (x1 x2 x3 : Int) (hS : fx_Sok S) (g1 : -1 ≤ x1 ∧ x1 < S.2.2) (g2 : -2147483648 ≤ x2 ∧ x2 ≤ 2147483647) (g3 : -2147483648 ≤ x3 ∧ x3 ≤ 2147483647) : fx_VC (fx_Mx X) 118 [x1, x2, x3] S (fx_p118.getD 1 ([], .inl (0, 0))) := fx_VCR_ok (show fx_VCR (fx_Mx X) 118 [x1, x2, x3] S _ from q118_1 S x1 x2 x3 hS g1 g2 g3)
set_option maxRecDepth 40000 in
theorem w118 (X : (Int → Int) × Int) (zs : List Int) (S : fx_S) (hS : fx_Sok S) (hz : zs.length = (fx_lv0 fx_t118.2.2.1 0).2) (rz : fx_rz fx_t118 zs S) : ∀ p ∈ fx_p118, fx_VC (fx_Mx X) 118 zs S p := by
  obtain ⟨x1, x2, x3, rfl⟩ := fx_len3 hz
  have g1 : -1 ≤ x1 ∧ x1 < S.2.2 := rz 1 _ rfl
  have g2 : -2147483648 ≤ x2 ∧ x2 ≤ 2147483647 := rz 2 _ rfl
  have g3 : -2147483648 ≤ x3 ∧ x3 ≤ 2147483647 := rz 3 _ rfl
  exact List.forall_mem_cons.mpr ⟨(u118_0 X S x1 x2 x3 hS g1 g2 g3), List.forall_mem_cons.mpr ⟨(u118_1 X S x1 x2 x3 hS g1 g2 g3), fun _ h => absurd h List.not_mem_nil⟩⟩
set_option maxRecDepth 40000 in
theorem u119_0 (X : (Int → Int) × Int) (S : fx_S) (x1 : Int) (hS : fx_Sok S) (g1 : -2147483648 ≤ x1 ∧ x1 ≤ 2147483647) : fx_VC (fx_Mx X) 119 [x1] S (fx_p119.getD 0 ([], .inl (0, 0))) := fx_VCR_ok (show fx_VCR (fx_Mx X) 119 [x1] S _ from q119_0 S x1 hS g1)
set_option maxRecDepth 40000 in
theorem u119_1 (X : (Int → Int) × Int) (S : fx_S) (x1 : Int) (hS : fx_Sok S) (g1 : -2147483648 ≤ x1 ∧ x1 ≤ 2147483647) : fx_VC (fx_Mx X) 119 [x1] S (fx_p119.getD 1 ([], .inl (0, 0))) := fx_VCR_ok (show fx_VCR (fx_Mx X) 119 [x1] S _ from q119_1 S x1 hS g1)
set_option maxRecDepth 40000 in
theorem u119_2 (X : (Int → Int) × Int) (S : fx_S) (x1 : Int) (hS : fx_Sok S) (g1 : -2147483648 ≤ x1 ∧ x1 ≤ 2147483647) : fx_VC (fx_Mx X) 119 [x1] S (fx_p119.getD 2 ([], .inl (0, 0))) := fx_VCR_ok (show fx_VCR (fx_Mx X) 119 [x1] S _ from q119_2 S x1 hS g1)
set_option maxRecDepth 40000 in
theorem u119_3 (X : (Int → Int) × Int) (S : fx_S) (x1 : Int) (hS : fx_Sok S) (g1 : -2147483648 ≤ x1 ∧ x1 ≤ 2147483647) : fx_VC (fx_Mx X) 119 [x1] S (fx_p119.getD 3 ([], .inl (0, 0))) := fx_VCR_ok (show fx_VCR (fx_Mx X) 119 [x1] S _ from q119_3 S x1 hS g1)
set_option maxRecDepth 40000 in
theorem u119_4 (X : (Int → Int) × Int) (S : fx_S) (x1 : Int) (hS : fx_Sok S) (g1 : -2147483648 ≤ x1 ∧ x1 ≤ 2147483647) : fx_VC (fx_Mx X) 119 [x1] S (fx_p119.getD 4 ([], .inl (0, 0))) := fx_VCR_ok (show fx_VCR (fx_Mx X) 119 [x1] S _ from q119_4 S x1 hS g1)
set_option maxRecDepth 40000 in
theorem u119_5 (X : (Int → Int) × Int) (S : fx_S) (x1 : Int) (hS : fx_Sok S) (g1 : -2147483648 ≤ x1 ∧ x1 ≤ 2147483647) : fx_VC (fx_Mx X) 119 [x1] S (fx_p119.getD 5 ([], .inl (0, 0))) := fx_VCR_ok (show fx_VCR (fx_Mx X) 119 [x1] S _ from q119_5 S x1 hS g1)
set_option maxRecDepth 40000 in
theorem u119_6 (X : (Int → Int) × Int) (S : fx_S) (x1 : Int) (hS : fx_Sok S) (g1 : -2147483648 ≤ x1 ∧ x1 ≤ 2147483647) : fx_VC (fx_Mx X) 119 [x1] S (fx_p119.getD 6 ([], .inl (0, 0))) := fx_VCR_ok (show fx_VCR (fx_Mx X) 119 [x1] S _ from q119_6 S x1 hS g1)
set_option maxRecDepth 40000 in
theorem u119_7 (X : (Int → Int) × Int) (S : fx_S) (x1 : Int) (hS : fx_Sok S) (g1 : -2147483648 ≤ x1 ∧ x1 ≤ 2147483647) : fx_VC (fx_Mx X) 119 [x1] S (fx_p119.getD 7 ([], .inl (0, 0))) := fx_VCR_ok (show fx_VCR (fx_Mx X) 119 [x1] S _ from q119_7 S x1 hS g1)
set_option maxRecDepth 40000 in
theorem w119 (X : (Int → Int) × Int) (zs : List Int) (S : fx_S) (hS : fx_Sok S) (hz : zs.length = (fx_lv0 fx_t119.2.2.1 0).2) (rz : fx_rz fx_t119 zs S) : ∀ p ∈ fx_p119, fx_VC (fx_Mx X) 119 zs S p := by
  obtain ⟨x1, rfl⟩ := fx_len1 hz
  have g1 : -2147483648 ≤ x1 ∧ x1 ≤ 2147483647 := rz 1 _ rfl
  exact List.forall_mem_cons.mpr ⟨(u119_0 X S x1 hS g1), List.forall_mem_cons.mpr ⟨(u119_1 X S x1 hS g1), List.forall_mem_cons.mpr ⟨(u119_2 X S x1 hS g1), List.forall_mem_cons.mpr ⟨(u119_3 X S x1 hS g1), List.forall_mem_cons.mpr ⟨(u119_4 X S x1 hS g1), List.forall_mem_cons.mpr ⟨(u119_5 X S x1 hS g1), List.forall_mem_cons.mpr ⟨(u119_6 X S x1 hS g1), List.forall_mem_cons.mpr ⟨(u119_7 X S x1 hS g1), fun _ h => absurd h List.not_mem_nil⟩⟩⟩⟩⟩⟩⟩⟩
set_option maxRecDepth 40000 in
theorem u120_0 (X : (Int → Int) × Int) (S : fx_S) (hS : fx_Sok S) : fx_VC (fx_Mx X) 120 [] S (fx_p120.getD 0 ([], .inl (0, 0))) := fx_VCR_ok (show fx_VCR (fx_Mx X) 120 [] S _ from q120_0 S hS)
