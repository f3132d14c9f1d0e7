/-! FX: the paths of the entries, all -/
set_option maxRecDepth 40000 in
theorem w62 (X : (Int → Int) × Int) (zs : List Int) (S : fx_S) (hS : fx_Sok S) (hz : zs.length = (fx_lv0 fx_t62.2.2.1 0).2) (rz : fx_rz fx_t62 zs S) : ∀ p ∈ fx_p62, fx_VC (fx_Mx X) 62 zs S p := by
  obtain ⟨x1, rfl⟩ := fx_len1 hz
  have g1 : -2147483648 ≤ x1 ∧ x1 ≤ 2147483647 := rz 1 _ rfl
  exact List.forall_mem_cons.mpr ⟨(u62_0 X S x1 hS g1), List.forall_mem_cons.mpr ⟨(u62_1 X S x1 hS g1), List.forall_mem_cons.mpr ⟨(u62_2 X S x1 hS g1), List.forall_mem_cons.mpr ⟨(u62_3 X S x1 hS g1), fun _ h => absurd h List.not_mem_nil⟩⟩⟩⟩
theorem u63_0 (X : (Int → Int) × Int) (S : fx_S) (x1 x2 : Int) (hS : fx_Sok S) (g1 : -2147483648 ≤ x1 ∧ x1 ≤ 2147483647) (g2 : -2147483648 ≤ x2 ∧ x2 ≤ 2147483647) : fx_VC (fx_Mx X) 63 [x1, x2] S (fx_p63.getD 0 ([], .inl (0, 0))) := fx_VCR_ok (show fx_VCR (fx_Mx X) 63 [x1, x2] S _ from q63_0 S x1 x2 hS g1 g2)
theorem u63_1 (X : (Int → Int) × Int) (S : fx_S) (x1 x2 : Int) (hS : fx_Sok S) (g1 : -2147483648 ≤ x1 ∧ x1 ≤ 2147483647) (g2 : -2147483648 ≤ x2 ∧ x2 ≤ 2147483647) : fx_VC (fx_Mx X) 63 [x1, x2] S (fx_p63.getD 1 ([], .inl (0, 0))) := fx_VCR_ok (show fx_VCR (fx_Mx X) 63 [x1, x2] S _ from q63_1 S x1 x2 hS g1 g2)
theorem u63_2 (X : (Int → Int) × Int) (S : fx_S) (x1 x2 : Int) (hS : fx_Sok S) (g1 : -2147483648 ≤ x1 ∧ x1 ≤ 2147483647) (g2 : -2147483648 ≤ x2 ∧ x2 ≤ 2147483647) : fx_VC (fx_Mx X) 63 [x1, x2] S (fx_p63.getD 2 ([], .inl (0, 0))) := fx_VCR_ok (show fx_VCR (fx_Mx X) 63 [x1, x2] S _ from q63_2 S x1 x2 hS g1 g2)
set_option maxRecDepth 40000 in
theorem w63 (X : (Int → Int) × Int) (zs : List Int) (S : fx_S) (hS : fx_Sok S) (hz : zs.length = (fx_lv0 fx_t63.2.2.1 0).2) (rz : fx_rz fx_t63 zs S) : ∀ p ∈ fx_p63, fx_VC (fx_Mx X) 63 zs S p := by
  obtain ⟨x1, x2, rfl⟩ := fx_len2 hz
  have g1 : -2147483648 ≤ x1 ∧ x1 ≤ 2147483647 := rz 1 _ rfl
  have g2 : -2147483648 ≤ x2 ∧ x2 ≤ 2147483647 := rz 2 _ rfl
  exact List.forall_mem_cons.mpr ⟨(u63_0 X S x1 x2 hS g1 g2), List.forall_mem_cons.mpr ⟨(u63_1 X S x1 x2 hS g1 g2), List.forall_mem_cons.mpr ⟨(u63_2 X S x1 x2 hS g1 g2), fun _ h => absurd h List.not_mem_nil⟩⟩⟩
theorem u64_0 (X : (Int → Int) × Int) (S : fx_S) (x1 x2 : Int) (hS : fx_Sok S) (g1 : -2147483648 ≤ x1 ∧ x1 ≤ 2147483647) (g2 : -2147483648 ≤ x2 ∧ x2 ≤ 2147483647) : fx_VC (fx_Mx X) 64 [x1, x2] S (fx_p64.getD 0 ([], .inl (0, 0))) := fx_VCR_ok (show fx_VCR (fx_Mx X) 64 [x1, x2] S _ from q64_0 S x1 x2 hS g1 g2)
theorem u64_1 (X : (Int → Int) × Int) (S : fx_S) (x1 x2 : Int) (hS : fx_Sok S) (g1 : -2147483648 ≤ x1 ∧ x1 ≤ 2147483647) (g2 : -2147483648 ≤ x2 ∧ x2 ≤ 2147483647) : fx_VC (fx_Mx X) 64 [x1, x2] S (fx_p64.getD 1 ([], .inl (0, 0))) := fx_VCR_ok (show fx_VCR (fx_Mx X) 64 [x1, x2] S _ from q64_1 S x1 x2 hS g1 g2)
theorem u64_2 (X : (Int → Int) × Int) (S : fx_S) (x1 x2 : Int) (hS : fx_Sok S) (g1 : -2147483648 ≤ x1 ∧ x1 ≤ 2147483647) (g2 : -2147483648 ≤ x2 ∧ x2 ≤ 2147483647) : fx_VC (fx_Mx X) 64 [x1, x2] S (fx_p64.getD 2 ([], .inl (0, 0))) := fx_VCR_ok (show fx_VCR (fx_Mx X) 64 [x1, x2] S _ from q64_2 S x1 x2 hS g1 g2)
set_option maxRecDepth 40000 in
theorem w64 (X : (Int → Int) × Int) (zs : List Int) (S : fx_S) (hS : fx_Sok S) (hz : zs.length = (fx_lv0 fx_t64.2.2.1 0).2) (rz : fx_rz fx_t64 zs S) : ∀ p ∈ fx_p64, fx_VC (fx_Mx X) 64 zs S p := by
  obtain ⟨x1, x2, rfl⟩ := fx_len2 hz
  have g1 : -2147483648 ≤ x1 ∧ x1 ≤ 2147483647 := rz 1 _ rfl
  have g2 : -2147483648 ≤ x2 ∧ x2 ≤ 2147483647 := rz 2 _ rfl
  exact List.forall_mem_cons.mpr ⟨(u64_0 X S x1 x2 hS g1 g2), List.forall_mem_cons.mpr ⟨(u64_1 X S x1 x2 hS g1 g2), List.forall_mem_cons.mpr ⟨(u64_2 X S x1 x2 hS g1 g2), fun _ h => absurd h List.not_mem_nil⟩⟩⟩
theorem u65_0 (X : (Int → Int) × Int) (S : fx_S) (x1 x2 : Int) (hS : fx_Sok S) (g1 : -2147483648 ≤ x1 ∧ x1 ≤ 2147483647) (g2 : -2147483648 ≤ x2 ∧ x2 ≤ 2147483647) : fx_VC (fx_Mx X) 65 [x1, x2] S (fx_p65.getD 0 ([], .inl (0, 0))) := fx_VCR_ok (show fx_VCR (fx_Mx X) 65 [x1, x2] S _ from q65_0 S x1 x2 hS g1 g2)
theorem u65_1 (X : (Int → Int) × Int) (S : fx_S) (x1 x2 : Int) (hS : fx_Sok S) (g1 : -2147483648 ≤ x1 ∧ x1 ≤ 2147483647) (g2 : -2147483648 ≤ x2 ∧ x2 ≤ 2147483647) : fx_VC (fx_Mx X) 65 [x1, x2] S (fx_p65.getD 1 ([], .inl (0, 0))) := fx_VCR_ok (show fx_VCR (fx_Mx X) 65 [x1, x2] S _ from q65_1 S x1 x2 hS g1 g2)
theorem u65_2 (X : (Int → Int) × Int) (S : fx_S) (x1 x2 : Int) (hS : fx_Sok S) (g1 : -2147483648 ≤ x1 ∧ x1 ≤ 2147483647) (g2 : -2147483648 ≤ x2 ∧ x2 ≤ 2147483647) : fx_VC (fx_Mx X) 65 [x1, x2] S (fx_p65.getD 2 ([], .inl (0, 0))) := fx_VCR_ok (show fx_VCR (fx_Mx X) 65 [x1, x2] S _ from q65_2 S x1 x2 hS g1 g2)
set_option maxRecDepth 40000 in
theorem w65 (X : (Int → Int) × Int) (zs : List Int) (S : fx_S) (hS : fx_Sok S) (hz : zs.length = (fx_lv0 fx_t65.2.2.1 0).2) (rz : fx_rz fx_t65 zs S) : ∀ p ∈ fx_p65, fx_VC (fx_Mx X) 65 zs S p := by
  obtain ⟨x1, x2, rfl⟩ := fx_len2 hz
  have g1 : -2147483648 ≤ x1 ∧ x1 ≤ 2147483647 := rz 1 _ rfl
  have g2 : -2147483648 ≤ x2 ∧ x2 ≤ 2147483647 := rz 2 _ rfl
  exact List.forall_mem_cons.mpr ⟨(u65_0 X S x1 x2 hS g1 g2), List.forall_mem_cons.mpr ⟨(u65_1 X S x1 x2 hS g1 g2), List.forall_mem_cons.mpr ⟨(u65_2 X S x1 x2 hS g1 g2), fun _ h => absurd h List.not_mem_nil⟩⟩⟩
theorem u66_0 (X : (Int → Int) × Int) (S : fx_S) (x1 x2 : Int) (hS : fx_Sok S) (g1 : -2147483648 ≤ x1 ∧ x1 ≤ 2147483647) (g2 : -2147483648 ≤ x2 ∧ x2 ≤ 2147483647) : fx_VC (fx_Mx X) 66 [x1, x2] S (fx_p66.getD 0 ([], .inl (0, 0))) := fx_VCR_ok (show fx_VCR (fx_Mx X) 66 [x1, x2] S _ from q66_0 S x1 x2 hS g1 g2)
theorem u66_1 (X : (Int → Int) × Int) (S : fx_S) (x1 x2 : Int) (hS : fx_Sok S) (g1 : -2147483648 ≤ x1 ∧ x1 ≤ 2147483647) (g2 : -2147483648 ≤ x2 ∧ x2 ≤ 2147483647) : fx_VC (fx_Mx X) 66 [x1, x2] S (fx_p66.getD 1 ([], .inl (0, 0))) := fx_VCR_ok (show fx_VCR (fx_Mx X) 66 [x1, x2] S _ from q66_1 S x1 x2 hS g1 g2)
theorem u66_2 (X : (Int → Int) × Int) (S : fx_S) (x1 x2 : Int) (hS : fx_Sok S) (g1 : -2147483648 ≤ x1 ∧ x1 ≤ 2147483647) (g2 : -2147483648 ≤ x2 ∧ x2 ≤ 2147483647) : fx_VC (fx_Mx X) 66 [x1, x2] S (fx_p66.getD 2 ([], .inl (0, 0))) := fx_VCR_ok (show fx_VCR (fx_Mx X) 66 [x1, x2] S _ from q66_2 S x1 x2 hS g1 g2)
set_option maxRecDepth 40000 in
theorem w66 (X : (Int → Int) × Int) (zs : List Int) (S : fx_S) (hS : fx_Sok S) (hz : zs.length = (fx_lv0 fx_t66.2.2.1 0).2) (rz : fx_rz fx_t66 zs S) : ∀ p ∈ fx_p66, fx_VC (fx_Mx X) 66 zs S p := by
  obtain ⟨x1, x2, rfl⟩ := fx_len2 hz
  have g1 : -2147483648 ≤ x1 ∧ x1 ≤ 2147483647 := rz 1 _ rfl
  have g2 : -2147483648 ≤ x2 ∧ x2 ≤ 2147483647 := rz 2 _ rfl
  exact List.forall_mem_cons.mpr ⟨(u66_0 X S x1 x2 hS g1 g2), List.forall_mem_cons.mpr ⟨(u66_1 X S x1 x2 hS g1 g2), List.forall_mem_cons.mpr ⟨(u66_2 X S x1 x2 hS g1 g2), fun _ h => absurd h List.not_mem_nil⟩⟩⟩
theorem u67_0 (X : (Int → Int) × Int) (S : fx_S) (x1 x2 x3 : Int) (hS : fx_Sok S) (g1 : -2147483648 ≤ x1 ∧ x1 ≤ 2147483647) (g2 : -2147483648 ≤ x2 ∧ x2 ≤ 2147483647) (g3 : -2147483648 ≤ x3 ∧ x3 ≤ 2147483647) : fx_VC (fx_Mx X) 67 [x1, x2, x3] S (fx_p67.getD 0 ([], .inl (0, 0))) := fx_VCR_ok (show fx_VCR (fx_Mx X) 67 [x1, x2, x3] S _ from q67_0 S x1 x2 x3 hS g1 g2 g3)
theorem u67_1 (X : (Int → Int) × Int) (S : fx_S) (x1 x2 x3 : Int) (hS : fx_Sok S) (g1 : -2147483648 ≤ x1 ∧ x1 ≤ 2147483647) (g2 : -2147483648 ≤ x2 ∧ x2 ≤ 2147483647) (g3 : -2147483648 ≤ x3 ∧ x3 ≤ 2147483647) : fx_VC (fx_Mx X) 67 [x1, x2, x3] S (fx_p67.getD 1 ([], .inl (0, 0))) := fx_VCR_ok (show fx_VCR (fx_Mx X) 67 [x1, x2, x3] S _ from q67_1 S x1 x2 x3 hS g1 g2 g3)
theorem u67_2 (X : (Int → Int) × Int) (S : fx_S) (x1 x2 x3 : Int) (hS : fx_Sok S) (g1 : -2147483648 ≤ x1 ∧ x1 ≤ 2147483647) (g2 : -2147483648 ≤ x2 ∧ x2 ≤ 2147483647) (g3 : -2147483648 ≤ x3 ∧ x3 ≤ 2147483647) : fx_VC (fx_Mx X) 67 [x1, x2, x3] S (fx_p67.getD 2 ([], .inl (0, 0))) := fx_VCR_ok (show fx_VCR (fx_Mx X) 67 [x1, x2, x3] S _ from q67_2 S x1 x2 x3 hS g1 g2 g3)
theorem u67_3 (X : (Int → Int) × Int) (S : fx_S) (x1 x2 x3 : Int) (hS : fx_Sok S) (g1 : -2147483648 ≤ x1 ∧ x1 ≤ 2147483647) (g2 : -2147483648 ≤ x2 ∧ x2 ≤ 2147483647) (g3 : -2147483648 ≤ x3 ∧ x3 ≤ 2147483647) : fx_VC (fx_Mx X) 67 [x1, x2, x3] S (fx_p67.getD 3 ([], .inl (0, 0))) := fx_VCR_ok (show fx_VCR (fx_Mx X) 67 [x1, x2, x3] S _ from q67_3 S x1 x2 x3 hS g1 g2 g3)
set_option maxRecDepth 40000 in
theorem w67 (X : (Int → Int) × Int) (zs : List Int) (S : fx_S) (hS : fx_Sok S) (hz : zs.length = (fx_lv0 fx_t67.2.2.1 0).2) (rz : fx_rz fx_t67 zs S) : ∀ p ∈ fx_p67, fx_VC (fx_Mx X) 67 zs S p := by
  obtain ⟨x1, x2, x3, rfl⟩ := fx_len3 hz
  have g1 : -2147483648 ≤ x1 ∧ x1 ≤ 2147483647 := rz 1 _ rfl
  have g2 : -2147483648 ≤ x2 ∧ x2 ≤ 2147483647 := rz 2 _ rfl
  have g3 : -2147483648 ≤ x3 ∧ x3 ≤ 2147483647 := rz 3 _ rfl
  exact List.forall_mem_cons.mpr ⟨(u67_0 X S x1 x2 x3 hS g1 g2 g3), List.forall_mem_cons.mpr ⟨(u67_1 X S x1 x2 x3 hS g1 g2 g3), List.forall_mem_cons.mpr ⟨(u67_2 X S x1 x2 x3 hS g1 g2 g3), List.forall_mem_cons.mpr ⟨(u67_3 X S x1 x2 x3 hS g1 g2 g3), fun _ h => absurd h List.not_mem_nil⟩⟩⟩⟩
theorem u68_0 (X : (Int → Int) × Int) (S : fx_S) (x1 x2 x3 : Int) (hS : fx_Sok S) (g1 : -2147483648 ≤ x1 ∧ x1 ≤ 2147483647) (g2 : -2147483648 ≤ x2 ∧ x2 ≤ 2147483647) (g3 : -2147483648 ≤ x3 ∧ x3 ≤ 2147483647) : fx_VC (fx_Mx X) 68 [x1, x2, x3] S (fx_p68.getD 0 ([], .inl (0, 0))) := fx_VCR_ok (show fx_VCR (fx_Mx X) 68 [x1, x2, x3] S _ from q68_0 S x1 x2 x3 hS g1 g2 g3)
theorem u68_1 (X : (Int → Int) × Int) (S : fx_S) (x1 x2 x3 : Int) (hS : fx_Sok S) (g1 : -2147483648 ≤ x1 ∧ x1 ≤ 2147483647) (g2 : -2147483648 ≤ x2 ∧ x2 ≤ 2147483647) (g3 : -2147483648 ≤ x3 ∧ x3 ≤ 2147483647) : fx_VC (fx_Mx X) 68 [x1, x2, x3] S (fx_p68.getD 1 ([], .inl (0, 0))) := fx_VCR_ok (show fx_VCR (fx_Mx X) 68 [x1, x2, x3] S _ from q68_1 S x1 x2 x3 hS g1 g2 g3)
theorem u68_2 (X : (Int → Int) × Int) (S : fx_S) (x1 x2 x3 : Int) (hS : fx_Sok S) (g1 : -2147483648 ≤ x1 ∧ x1 ≤ 2147483647) (g2 : -2147483648 ≤ x2 ∧ x2 ≤ 2147483647) (g3 : -2147483648 ≤ x3 ∧ x3 ≤ 2147483647) : fx_VC (fx_Mx X) 68 [x1, x2, x3] S (fx_p68.getD 2 ([], .inl (0, 0))) := fx_VCR_ok (show fx_VCR (fx_Mx X) 68 [x1, x2, x3] S _ from q68_2 S x1 x2 x3 hS g1 g2 g3)
theorem u68_3 (X : (Int → Int) × Int) (S : fx_S) (x1 x2 x3 : Int) (hS : fx_Sok S) (g1 : -2147483648 ≤ x1 ∧ x1 ≤ 2147483647) (g2 : -2147483648 ≤ x2 ∧ x2 ≤ 2147483647) (g3 : -2147483648 ≤ x3 ∧ x3 ≤ 2147483647) : fx_VC (fx_Mx X) 68 [x1, x2, x3] S (fx_p68.getD 3 ([], .inl (0, 0))) := fx_VCR_ok (show fx_VCR (fx_Mx X) 68 [x1, x2, x3] S _ from q68_3 S x1 x2 x3 hS g1 g2 g3)
theorem u68_4 (X : (Int → Int) × Int) (S : fx_S) (x1 x2 x3 : Int) (hS : fx_Sok S) (g1 : -2147483648 ≤ x1 ∧ x1 ≤ 2147483647) (g2 : -2147483648 ≤ x2 ∧ x2 ≤ 2147483647) (g3 : -2147483648 ≤ x3 ∧ x3 ≤ 2147483647) : fx_VC (fx_Mx X) 68 [x1, x2, x3] S (fx_p68.getD 4 ([], .inl (0, 0))) := fx_VCR_ok (show fx_VCR (fx_Mx X) 68 [x1, x2, x3] S _ from q68_4 S x1 x2 x3 hS g1 g2 g3)
set_option maxRecDepth 40000 in
theorem w68 (X : (Int → Int) × Int) (zs : List Int) (S : fx_S) (hS : fx_Sok S) (hz : zs.length = (fx_lv0 fx_t68.2.2.1 0).2) (rz : fx_rz fx_t68 zs S) : ∀ p ∈ fx_p68, fx_VC (fx_Mx X) 68 zs S p := by
  obtain ⟨x1, x2, x3, rfl⟩ := fx_len3 hz
  have g1 : -2147483648 ≤ x1 ∧ x1 ≤ 2147483647 := rz 1 _ rfl
  have g2 : -2147483648 ≤ x2 ∧ x2 ≤ 2147483647 := rz 2 _ rfl
  have g3 : -2147483648 ≤ x3 ∧ x3 ≤ 2147483647 := rz 3 _ rfl
  exact List.forall_mem_cons.mpr ⟨(u68_0 X S x1 x2 x3 hS g1 g2 g3), List.forall_mem_cons.mpr ⟨(u68_1 X S x1 x2 x3 hS g1 g2 g3), List.forall_mem_cons.mpr ⟨(u68_2 X S x1 x2 x3 hS g1 g2 g3), List.forall_mem_cons.mpr ⟨(u68_3 X S x1 x2 x3 hS g1 g2 g3), List.forall_mem_cons.mpr ⟨(u68_4 X S x1 x2 x3 hS g1 g2 g3), fun _ h => absurd h List.not_mem_nil⟩⟩⟩⟩⟩
theorem u69_0 (X : (Int → Int) × Int) (S : fx_S) (x1 x2 : Int) (hS : fx_Sok S) (g1 : -2147483648 ≤ x1 ∧ x1 ≤ 2147483647) (g2 : -2147483648 ≤ x2 ∧ x2 ≤ 2147483647) : fx_VC (fx_Mx X) 69 [x1, x2] S (fx_p69.getD 0 ([], .inl (0, 0))) := fx_VCR_ok (show fx_VCR (fx_Mx X) 69 [x1, x2] S _ from q69_0 S x1 x2 hS g1 g2)
theorem u69_1 (X : (Int → Int) × Int) (S : fx_S) (x1 x2 : Int) (hS : fx_Sok S) (g1 : -2147483648 ≤ x1 ∧ x1 ≤ 2147483647) (g2 : -2147483648 ≤ x2 ∧ x2 ≤ 2147483647) : fx_VC (fx_Mx X) 69 [x1, x2] S (fx_p69.getD 1 ([], .inl (0, 0))) := fx_VCR_ok (show fx_VCR (fx_Mx X) 69 [x1, x2] S _ from q69_1 S x1 x2 hS g1 g2)
theorem u69_2 (X : (Int → Int) × Int) (S : fx_S) (x1 x2 : Int) (hS : fx_Sok S) (g1 : -2147483648 ≤ x1 ∧ x1 ≤ 2147483647) (g2 : -2147483648 ≤ x2 ∧ x2 ≤ 2147483647) : fx_VC (fx_Mx X) 69 [x1, x2] S (fx_p69.getD 2 ([], .inl (0, 0))) := fx_VCR_ok (show fx_VCR (fx_Mx X) 69 [x1, x2] S _ from q69_2 S x1 x2 hS g1 g2)
set_option maxRecDepth 40000 in
theorem w69 (X : (Int → Int) × Int) (zs : List Int) (S : fx_S) (hS : fx_Sok S) (hz : zs.length = (fx_lv0 fx_t69.2.2.1 0).2) (rz : fx_rz fx_t69 zs S) : ∀ p ∈ fx_p69, fx_VC (fx_Mx X) 69 zs S p := by
  obtain ⟨x1, x2, rfl⟩ := fx_len2 hz
  have g1 : -2147483648 ≤ x1 ∧ x1 ≤ 2147483647 := rz 1 _ rfl
  have g2 : -2147483648 ≤ x2 ∧ x2 ≤ 2147483647 := rz 2 _ rfl
  exact List.forall_mem_cons.mpr ⟨(u69_0 X S x1 x2 hS g1 g2), List.forall_mem_cons.mpr ⟨(u69_1 X S x1 x2 hS g1 g2), List.forall_mem_cons.mpr ⟨(u69_2 X S x1 x2 hS g1 g2), fun _ h => absurd h List.not_mem_nil⟩⟩⟩
theorem u70_0 (X : (Int → Int) × Int) (S : fx_S) (x1 x2 : Int) (hS : fx_Sok S) (g1 : -2147483648 ≤ x1 ∧ x1 ≤ 2147483647) (g2 : -2147483648 ≤ x2 ∧ x2 ≤ 2147483647) : fx_VC (fx_Mx X) 70 [x1, x2] S (fx_p70.getD 0 ([], .inl (0, 0))) := fx_VCR_ok (show fx_VCR (fx_Mx X) 70 [x1, x2] S _ from q70_0 S x1 x2 hS g1 g2)
theorem u70_1 (X : (Int → Int) × Int) (S : fx_S) (x1 x2 : Int) (hS : fx_Sok S) (g1 : -2147483648 ≤ x1 ∧ x1 ≤ 2147483647) (g2 : -2147483648 ≤ x2 ∧ x2 ≤ 2147483647) : fx_VC (fx_Mx X) 70 [x1, x2] S (fx_p70.getD 1 ([], .inl (0, 0))) := fx_VCR_ok (show fx_VCR (fx_Mx X) 70 [x1, x2] S _ from q70_1 S x1 x2 hS g1 g2)
theorem u70_2 (X : (Int → Int) × Int) (S : fx_S) (x1 x2 : Int) (hS : fx_Sok S) (g1 : -2147483648 ≤ x1 ∧ x1 ≤ 2147483647) (g2 : -2147483648 ≤ x2 ∧ x2 ≤ 2147483647) : fx_VC (fx_Mx X) 70 [x1, x2] S (fx_p70.getD 2 ([], .inl (0, 0))) := fx_VCR_ok (show fx_VCR (fx_Mx X) 70 [x1, x2] S _ from q70_2 S x1 x2 hS g1 g2)
set_option maxRecDepth 40000 in
theorem w70 (X : (Int → Int) × Int) (zs : List Int) (S : fx_S) (hS : fx_Sok S) (hz : zs.length = (fx_lv0 fx_t70.2.2.1 0).2) (rz : fx_rz fx_t70 zs S) : ∀ p ∈ fx_p70, fx_VC (fx_Mx X) 70 zs S p := by
  obtain ⟨x1, x2, rfl⟩ := fx_len2 hz
  have g1 : -2147483648 ≤ x1 ∧ x1 ≤ 2147483647 := rz 1 _ rfl
  have g2 : -2147483648 ≤ x2 ∧ x2 ≤ 2147483647 := rz 2 _ rfl
  exact List.forall_mem_cons.mpr ⟨(u70_0 X S x1 x2 hS g1 g2), List.forall_mem_cons.mpr ⟨(u70_1 X S x1 x2 hS g1 g2), List.forall_mem_cons.mpr ⟨(u70_2 X S x1 x2 hS g1 g2), fun _ h => absurd h List.not_mem_nil⟩⟩⟩
theorem u71_0 (X : (Int → Int) × Int) (S : fx_S) (x1 : Int) (hS : fx_Sok S) (g1 : -2147483648 ≤ x1 ∧ x1 ≤ 2147483647) : fx_VC (fx_Mx X) 71 [x1] S (fx_p71.getD 0 ([], .inl (0, 0))) := fx_VCR_ok (show fx_VCR (fx_Mx X) 71 [x1] S _ from q71_0 S x1 hS g1)
theorem u71_1 (X : (Int → Int) × Int) (S : fx_S) (x1 : Int) (hS : fx_Sok S) (g1 : -2147483648 ≤ x1 ∧ x1 ≤ 2147483647) : fx_VC (fx_Mx X) 71 [x1] S (fx_p71.getD 1 ([], .inl (0, 0))) := fx_VCR_ok (show fx_VCR (fx_Mx X) 71 [x1] S _ from q71_1 S x1 hS g1)
set_option maxRecDepth 40000 in
theorem w71 (X : (Int → Int) × Int) (zs : List Int) (S : fx_S) (hS : fx_Sok S) (hz : zs.length = (fx_lv0 fx_t71.2.2.1 0).2) (rz : fx_rz fx_t71 zs S) : ∀ p ∈ fx_p71, fx_VC (fx_Mx X) 71 zs S p := by
  obtain ⟨x1, rfl⟩ := fx_len1 hz
  have g1 : -2147483648 ≤ x1 ∧ x1 ≤ 2147483647 := rz 1 _ rfl
  exact List.forall_mem_cons.mpr ⟨(u71_0 X S x1 hS g1), List.forall_mem_cons.mpr ⟨(u71_1 X S x1 hS g1), fun _ h => absurd h List.not_mem_nil⟩⟩
theorem u72_0 (X : (Int → Int) × Int) (S : fx_S) (x1 : Int) (hS : fx_Sok S) (g1 : -2147483648 ≤ x1 ∧ x1 ≤ 2147483647) : fx_VC (fx_Mx X) 72 [x1] S (fx_p72.getD 0 ([], .inl (0, 0))) := fx_VCR_ok (show fx_VCR (fx_Mx X) 72 [x1] S _ from q72_0 S x1 hS g1)
theorem u72_1 (X : (Int → Int) × Int) (S : fx_S) (x1 : Int) (hS : fx_Sok S) (g1 : -2147483648 ≤ x1 ∧ x1 ≤ 2147483647) : fx_VC (fx_Mx X) 72 [x1] S (fx_p72.getD 1 ([], .inl (0, 0))) := fx_VCR_ok (show fx_VCR (fx_Mx X) 72 [x1] S _ from q72_1 S x1 hS g1)
theorem u72_2 (X : (Int → Int) × Int) (S : fx_S) (x1 : Int) (hS : fx_Sok S) (g1 : -2147483648 ≤ x1 ∧ x1 ≤ 2147483647) : fx_VC (fx_Mx X) 72 [x1] S (fx_p72.getD 2 ([], .inl (0, 0))) := fx_VCR_ok (show fx_VCR (fx_Mx X) 72 [x1] S _ from q72_2 S x1 hS g1)
set_option maxRecDepth 40000 in
theorem w72 (X : (Int → Int) × Int) (zs : List Int) (S : fx_S) (hS : fx_Sok S) (hz : zs.length = (fx_lv0 fx_t72.2.2.1 0).2) (rz : fx_rz fx_t72 zs S) : ∀ p ∈ fx_p72, fx_VC (fx_Mx X) 72 zs S p := by
  obtain ⟨x1, rfl⟩ := fx_len1 hz
  have g1 : -2147483648 ≤ x1 ∧ x1 ≤ 2147483647 := rz 1 _ rfl
  exact List.forall_mem_cons.mpr ⟨(u72_0 X S x1 hS g1), List.forall_mem_cons.mpr ⟨(u72_1 X S x1 hS g1), List.forall_mem_cons.mpr ⟨(u72_2 X S x1 hS g1), fun _ h => absurd h List.not_mem_nil⟩⟩⟩
theorem u73_0 (X : (Int → Int) × Int) (S : fx_S) (x1 x2 : Int) (hS : fx_Sok S) (g1 : -2147483648 ≤ x1 ∧ x1 ≤ 2147483647) (g2 : -2147483648 ≤ x2 ∧ x2 ≤ 2147483647) : fx_VC (fx_Mx X) 73 [x1, x2] S (fx_p73.getD 0 ([], .inl (0, 0))) := fx_VCR_ok (show fx_VCR (fx_Mx X) 73 [x1, x2] S _ from q73_0 S x1 x2 hS g1 g2)
theorem u73_1 (X : (Int → Int) × Int) (S : fx_S) (x1 x2 : Int) (hS : fx_Sok S) (g1 : -2147483648 ≤ x1 ∧ x1 ≤ 2147483647) (g2 : -2147483648 ≤ x2 ∧ x2 ≤ 2147483647) : fx_VC (fx_Mx X) 73 [x1, x2] S (fx_p73.getD 1 ([], .inl (0, 0))) := fx_VCR_ok (show fx_VCR (fx_Mx X) 73 [x1, x2] S _ from q73_1 S x1 x2 hS g1 g2)
theorem u73_2 (X : (Int → Int) × Int) (S : fx_S) (x1 x2 : Int) (hS : fx_Sok S) (g1 : -2147483648 ≤ x1 ∧ x1 ≤ 2147483647) (g2 : -2147483648 ≤ x2 ∧ x2 ≤ 2147483647) : fx_VC (fx_Mx X) 73 [x1, x2] S (fx_p73.getD 2 ([], .inl (0, 0))) := fx_VCR_ok (show fx_VCR (fx_Mx X) 73 [x1, x2] S _ from q73_2 S x1 x2 hS g1 g2)
set_option maxRecDepth 40000 in
theorem w73 (X : (Int → Int) × Int) (zs : List Int) (S : fx_S) (hS : fx_Sok S) (hz : zs.length = (fx_lv0 fx_t73.2.2.1 0).2) (rz : fx_rz fx_t73 zs S) : ∀ p ∈ fx_p73, fx_VC (fx_Mx X) 73 zs S p := by
  obtain ⟨x1, x2, rfl⟩ := fx_len2 hz
  have g1 : -2147483648 ≤ x1 ∧ x1 ≤ 2147483647 := rz 1 _ rfl
  have g2 : -2147483648 ≤ x2 ∧ x2 ≤ 2147483647 := rz 2 _ rfl
  exact List.forall_mem_cons.mpr ⟨(u73_0 X S x1 x2 hS g1 g2), List.forall_mem_cons.mpr ⟨(u73_1 X S x1 x2 hS g1 g2), List.forall_mem_cons.mpr ⟨(u73_2 X S x1 x2 hS g1 g2), fun _ h => absurd h List.not_mem_nil⟩⟩⟩
theorem u74_0 (X : (Int → Int) × Int) (S : fx_S) (x1 x2 : Int) (hS : fx_Sok S) (g1 : -2147483648 ≤ x1 ∧ x1 ≤ 2147483647) (g2 : -2147483648 ≤ x2 ∧ x2 ≤ 2147483647) : fx_VC (fx_Mx X) 74 [x1, x2] S (fx_p74.getD 0 ([], .inl (0, 0))) := fx_VCR_ok (show fx_VCR (fx_Mx X) 74 [x1, x2] S _ from q74_0 S x1 x2 hS g1 g2)
theorem u74_1 (X : (Int → Int) × Int) (S : fx_S) (x1 x2 : Int) (hS : fx_Sok S) (g1 : -2147483648 ≤ x1 ∧ x1 ≤ 2147483647) (g2 : -2147483648 ≤ x2 ∧ x2 ≤ 2147483647) : fx_VC (fx_Mx X) 74 [x1, x2] S (fx_p74.getD 1 ([], .inl (0, 0))) := fx_VCR_ok (show fx_VCR (fx_Mx X) 74 [x1, x2] S _ from q74_1 S x1 x2 hS g1 g2)
theorem u74_2 (X : (Int → Int) × Int) (S : fx_S) (x1 x2 : Int) (hS : fx_Sok S) (g1 : -2147483648 ≤ x1 ∧ x1 ≤ 2147483647) (g2 : -2147483648 ≤ x2 ∧ x2 ≤ 2147483647) : fx_VC (fx_Mx X) 74 [x1, x2] S (fx_p74.getD 2 ([], .inl (0, 0))) := fx_VCR_ok (show fx_VCR (fx_Mx X) 74 [x1, x2] S _ from q74_2 S x1 x2 hS g1 g2)
set_option maxRecDepth 40000 in
theorem w74 (X : (Int → Int) × Int) (zs : List Int) (S : fx_S) (hS : fx_Sok S) (hz : zs.length = (fx_lv0 fx_t74.2.2.1 0).2) (rz : fx_rz fx_t74 zs S) : ∀ p ∈ fx_p74, fx_VC (fx_Mx X) 74 zs S p := by
  obtain ⟨x1, x2, rfl⟩ := fx_len2 hz
  have g1 : -2147483648 ≤ x1 ∧ x1 ≤ 2147483647 := rz 1 _ rfl
  have g2 : -2147483648 ≤ x2 ∧ x2 ≤ 2147483647 := rz 2 _ rfl
  exact List.forall_mem_cons.mpr ⟨(u74_0 X S x1 x2 hS g1 g2), List.forall_mem_cons.mpr ⟨(u74_1 X S x1 x2 hS g1 g2), List.forall_mem_cons.mpr ⟨(u74_2 X S x1 x2 hS g1 g2), fun _ h => absurd h List.not_mem_nil⟩⟩⟩
theorem u75_0 (X : (Int → Int) × Int) (S : fx_S) (hS : fx_Sok S) : fx_VC (fx_Mx X) 75 [] S (fx_p75.getD 0 ([], .inl (0, 0))) := fx_VCR_ok (show fx_VCR (fx_Mx X) 75 [] S _ from q75_0 S hS)
set_option maxRecDepth 40000 in
theorem w75 (X : (Int → Int) × Int) (zs : List Int) (S : fx_S) (hS : fx_Sok S) (hz : zs.length = (fx_lv0 fx_t75.2.2.1 0).2) (rz : fx_rz fx_t75 zs S) : ∀ p ∈ fx_p75, fx_VC (fx_Mx X) 75 zs S p := by
  obtain rfl := List.eq_nil_of_length_eq_zero hz
  exact List.forall_mem_cons.mpr ⟨(u75_0 X S hS), fun _ h => absurd h List.not_mem_nil⟩
theorem u76_0 (X : (Int → Int) × Int) (S : fx_S) (hS : fx_Sok S) : fx_VC (fx_Mx X) 76 [] S (fx_p76.getD 0 ([], .inl (0, 0))) := fx_VCR_ok (show fx_VCR (fx_Mx X) 76 [] S _ from q76_0 S hS)
set_option maxRecDepth 40000 in
theorem w76 (X : (Int → Int) × Int) (zs : List Int) (S : fx_S) (hS : fx_Sok S) (hz : zs.length = (fx_lv0 fx_t76.2.2.1 0).2) (rz : fx_rz fx_t76 zs S) : ∀ p ∈ fx_p76, fx_VC (fx_Mx X) 76 zs S p := by
  obtain rfl := List.eq_nil_of_length_eq_zero hz
  exact List.forall_mem_cons.mpr ⟨(u76_0 X S hS), fun _ h => absurd h List.not_mem_nil⟩
theorem u77_0 (X : (Int → Int) × Int) (S : fx_S) (x1 : Int) (hS : fx_Sok S) (g1 : -2147483648 ≤ x1 ∧ x1 ≤ 2147483647) : fx_VC (fx_Mx X) 77 [x1] S (fx_p77.getD 0 ([], .inl (0, 0))) := fx_VCR_ok (show fx_VCR (fx_Mx X) 77 [x1] S _ from q77_0 S x1 hS g1)
theorem u77_1 (X : (Int → Int) × Int) (S : fx_S) (x1 : Int) (hS : fx_Sok S) (g1 : -2147483648 ≤ x1 ∧ x1 ≤ 2147483647) : fx_VC (fx_Mx X) 77 [x1] S (fx_p77.getD 1 ([], .inl (0, 0))) := fx_VCR_ok (show fx_VCR (fx_Mx X) 77 [x1] S _ from q77_1 S x1 hS g1)
set_option maxRecDepth 40000 in
theorem w77 (X : (Int → Int) × Int) (zs : List Int) (S : fx_S) (hS : fx_Sok S) (hz : zs.length = (fx_lv0 fx_t77.2.2.1 0).2) (rz : fx_rz fx_t77 zs S) : ∀ p ∈ fx_p77, fx_VC (fx_Mx X) 77 zs S p := by
  obtain ⟨x1, rfl⟩ := fx_len1 hz
  have g1 : -2147483648 ≤ x1 ∧ x1 ≤ 2147483647 := rz 1 _ rfl
  exact List.forall_mem_cons.mpr ⟨(u77_0 X S x1 hS g1), List.forall_mem_cons.mpr ⟨(u77_1 X S x1 hS g1), fun _ h => absurd h List.not_mem_nil⟩⟩
theorem u78_0 (X : (Int → Int) × Int) (S : fx_S) (x1 : Int) (hS : fx_Sok S) (g1 : -2147483648 ≤ x1 ∧ x1 ≤ 2147483647) : fx_VC (fx_Mx X) 78 [x1] S (fx_p78.getD 0 ([], .inl (0, 0))) := fx_VCR_ok (show fx_VCR (fx_Mx X) 78 [x1] S _ from q78_0 S x1 hS g1)
theorem u78_1 (X : (Int → Int) × Int) (S : fx_S) (x1 : Int) (hS : fx_Sok S) (g1 : -2147483648 ≤ x1 ∧ x1 ≤ 2147483647) : fx_VC (fx_Mx X) 78 [x1] S (fx_p78.getD 1 ([], .inl (0, 0))) := fx_VCR_ok (show fx_VCR (fx_Mx X) 78 [x1] S _ from q78_1 S x1 hS g1)
theorem u78_2 (X : (Int → Int) × Int) (S : fx_S) (x1 : Int) (hS : fx_Sok S) (g1 : -2147483648 ≤ x1 ∧ x1 ≤ 2147483647) : fx_VC (fx_Mx X) 78 [x1] S (fx_p78.getD 2 ([], .inl (0, 0))) := fx_VCR_ok (show fx_VCR (fx_Mx X) 78 [x1] S _ from q78_2 S x1 hS g1)
set_option maxRecDepth 40000 in
theorem w78 (X : (Int → Int) × Int) (zs : List Int) (S : fx_S) (hS : fx_Sok S) (hz : zs.length = (fx_lv0 fx_t78.2.2.1 0).2) (rz : fx_rz fx_t78 zs S) : ∀ p ∈ fx_p78, fx_VC (fx_Mx X) 78 zs S p := by
  obtain ⟨x1, rfl⟩ := fx_len1 hz
  have g1 : -2147483648 ≤ x1 ∧ x1 ≤ 2147483647 := rz 1 _ rfl
  exact List.forall_mem_cons.mpr ⟨(u78_0 X S x1 hS g1), List.forall_mem_cons.mpr ⟨(u78_1 X S x1 hS g1), List.forall_mem_cons.mpr ⟨(u78_2 X S x1 hS g1), fun _ h => absurd h List.not_mem_nil⟩⟩⟩
theorem u79_0 (X : (Int → Int) × Int) (S : fx_S) (x1 x2 : Int) (hS : fx_Sok S) (g1 : -2147483648 ≤ x1 ∧ x1 ≤ 2147483647) (g2 : -2147483648 ≤ x2 ∧ x2 ≤ 2147483647) : fx_VC (fx_Mx X) 79 [x1, x2] S (fx_p79.getD 0 ([], .inl (0, 0))) := fx_VCR_ok (show fx_VCR (fx_Mx X) 79 [x1, x2] S _ from q79_0 S x1 x2 hS g1 g2)
theorem u79_1 (X : (Int → Int) × Int) (S : fx_S) (x1 x2 : Int) (hS : fx_Sok S) (g1 : -2147483648 ≤ x1 ∧ x1 ≤ 2147483647) (g2 : -2147483648 ≤ x2 ∧ x2 ≤ 2147483647) : fx_VC (fx_Mx X) 79 [x1, x2] S (fx_p79.getD 1 ([], .inl (0, 0))) := fx_VCR_ok (show fx_VCR (fx_Mx X) 79 [x1, x2] S _ from q79_1 S x1 x2 hS g1 g2)
theorem u79_2 (X : (Int → Int) × Int) (S : fx_S) (x1 x2 : Int) (hS : fx_Sok S) (g1 : -2147483648 ≤ x1 ∧ x1 ≤ 2147483647) (g2 : -2147483648 ≤ x2 ∧ x2 ≤ 2147483647) : fx_VC (fx_Mx X) 79 [x1, x2] S (fx_p79.getD 2 ([], .inl (0, 0))) := fx_VCR_ok (show fx_VCR (fx_Mx X) 79 [x1, x2] S _ from q79_2 S x1 x2 hS g1 g2)
set_option maxRecDepth 40000 in
theorem w79 (X : (Int → Int) × Int) (zs : List Int) (S : fx_S) (hS : fx_Sok S) (hz : zs.length = (fx_lv0 fx_t79.2.2.1 0).2) (rz : fx_rz fx_t79 zs S) : ∀ p ∈ fx_p79, fx_VC (fx_Mx X) 79 zs S p := by
  obtain ⟨x1, x2, rfl⟩ := fx_len2 hz
  have g1 : -2147483648 ≤ x1 ∧ x1 ≤ 2147483647 := rz 1 _ rfl
  have g2 : -2147483648 ≤ x2 ∧ x2 ≤ 2147483647 := rz 2 _ rfl
  exact List.forall_mem_cons.mpr ⟨(u79_0 X S x1 x2 hS g1 g2), List.forall_mem_cons.mpr ⟨(u79_1 X S x1 x2 hS g1 g2), List.forall_mem_cons.mpr ⟨(u79_2 X S x1 x2 hS g1 g2), fun _ h => absurd h List.not_mem_nil⟩⟩⟩
theorem u80_0 (X : (Int → Int) × Int) (S : fx_S) (x1 x2 : Int) (hS : fx_Sok S) (g1 : -2147483648 ≤ x1 ∧ x1 ≤ 2147483647) (g2 : -2147483648 ≤ x2 ∧ x2 ≤ 2147483647) : fx_VC (fx_Mx X) 80 [x1, x2] S (fx_p80.getD 0 ([], .inl (0, 0))) := fx_VCR_ok (show fx_VCR (fx_Mx X) 80 [x1, x2] S _ from q80_0 S x1 x2 hS g1 g2)
theorem u80_1 (X : (Int → Int) × Int) (S : fx_S) (x1 x2 : Int) (hS : fx_Sok S) (g1 : -2147483648 ≤ x1 ∧ x1 ≤ 2147483647) (g2 : -2147483648 ≤ x2 ∧ x2 ≤ 2147483647) : fx_VC (fx_Mx X) 80 [x1, x2] S (fx_p80.getD 1 ([], .inl (0, 0))) := fx_VCR_ok (show fx_VCR (fx_Mx X) 80 [x1, x2] S _ from q80_1 S x1 x2 hS g1 g2)
theorem u80_2 (X : (Int → Int) × Int) (S : fx_S) (x1 x2 : Int) (hS : fx_Sok S) (g1 : -2147483648 ≤ x1 ∧ x1 ≤ 2147483647) (g2 : -2147483648 ≤ x2 ∧ x2 ≤ 2147483647) : fx_VC (fx_Mx X) 80 [x1, x2] S (fx_p80.getD 2 ([], .inl (0, 0))) := fx_VCR_ok (show fx_VCR (fx_Mx X) 80 [x1, x2] S _ from q80_2 S x1 x2 hS g1 g2)
set_option maxRecDepth 40000 in
theorem w80 (X : (Int → Int) × Int) (zs : List Int) (S : fx_S) (hS : fx_Sok S) (hz : zs.length = (fx_lv0 fx_t80.2.2.1 0).2) (rz : fx_rz fx_t80 zs S) : ∀ p ∈ fx_p80, fx_VC (fx_Mx X) 80 zs S p := by
  obtain ⟨x1, x2, rfl⟩ := fx_len2 hz
  have g1 : -2147483648 ≤ x1 ∧ x1 ≤ 2147483647 := rz 1 _ rfl
  have g2 : -2147483648 ≤ x2 ∧ x2 ≤ 2147483647 := rz 2 _ rfl
  exact List.forall_mem_cons.mpr ⟨(u80_0 X S x1 x2 hS g1 g2), List.forall_mem_cons.mpr ⟨(u80_1 X S x1 x2 hS g1 g2), List.forall_mem_cons.mpr ⟨(u80_2 X S x1 x2 hS g1 g2), fun _ h => absurd h List.not_mem_nil⟩⟩⟩
theorem u81_0 (X : (Int → Int) × Int) (S : fx_S) (x1 : Int) (hS : fx_Sok S) (g1 : -2147483648 ≤ x1 ∧ x1 ≤ 2147483647) : fx_VC (fx_Mx X) 81 [x1] S (fx_p81.getD 0 ([], .inl (0, 0))) := fx_VCR_ok (show fx_VCR (fx_Mx X) 81 [x1] S _ from q81_0 S x1 hS g1)
theorem u81_1 (X : (Int → Int) × Int) (S : fx_S) (x1 : Int) (hS : fx_Sok S) (g1 : -2147483648 ≤ x1 ∧ x1 ≤ 2147483647) : fx_VC (fx_Mx X) 81 [x1] S (fx_p81.getD 1 ([], .inl (0, 0))) := fx_VCR_ok (show fx_VCR (fx_Mx X) 81 [x1] S _ from q81_1 S x1 hS g1)
theorem u81_2 (X : (Int → Int) × Int) (S : fx_S) (x1 : Int) (hS : fx_Sok S) (g1 : -2147483648 ≤ x1 ∧ x1 ≤ 2147483647) : fx_VC (fx_Mx X) 81 [x1] S (fx_p81.getD 2 ([], .inl (0, 0))) := fx_VCR_ok (show fx_VCR (fx_Mx X) 81 [x1] S _ from q81_2 S x1 hS g1)
set_option maxRecDepth 40000 in
theorem w81 (X : (Int → Int) × Int) (zs : List Int) (S : fx_S) (hS : fx_Sok S) (hz : zs.length = (fx_lv0 fx_t81.2.2.1 0).2) (rz : fx_rz fx_t81 zs S) : ∀ p ∈ fx_p81, fx_VC (fx_Mx X) 81 zs S p := by
  obtain ⟨x1, rfl⟩ := fx_len1 hz
  have g1 : -2147483648 ≤ x1 ∧ x1 ≤ 2147483647 := rz 1 _ rfl
  exact List.forall_mem_cons.mpr ⟨(u81_0 X S x1 hS g1), List.forall_mem_cons.mpr ⟨(u81_1 X S x1 hS g1), List.forall_mem_cons.mpr ⟨(u81_2 X S x1 hS g1), fun _ h => absurd h List.not_mem_nil⟩⟩⟩
theorem u82_0 (X : (Int → Int) × Int) (S : fx_S) (x1 : Int) (hS : fx_Sok S) (g1 : -2147483648 ≤ x1 ∧ x1 ≤ 2147483647) : fx_VC (fx_Mx X) 82 [x1] S (fx_p82.getD 0 ([], .inl (0, 0))) := fx_VCR_ok (show fx_VCR (fx_Mx X) 82 [x1] S _ from q82_0 S x1 hS g1)
theorem u82_1 (X : (Int → Int) × Int) (S : fx_S) (x1 : Int) (hS : fx_Sok S) (g1 : -2147483648 ≤ x1 ∧ x1 ≤ 2147483647) : fx_VC (fx_Mx X) 82 [x1] S (fx_p82.getD 1 ([], .inl (0, 0))) := fx_VCR_ok (show fx_VCR (fx_Mx X) 82 [x1] S _ from q82_1 S x1 hS g1)
theorem u82_2 (X : (Int → Int) × Int) (S : fx_S) (x1 : Int) (hS : fx_Sok S) (g1 : -2147483648 ≤ x1 ∧ x1 ≤ 2147483647) : fx_VC (fx_Mx X) 82 [x1] S (fx_p82.getD 2 ([], .inl (0, 0))) := fx_VCR_ok (show fx_VCR (fx_Mx X) 82 [x1] S _ from q82_2 S x1 hS g1)
set_option maxRecDepth 40000 in
theorem w82 (X : (Int → Int) × Int) (zs : List Int) (S : fx_S) (hS : fx_Sok S) (hz : zs.length = (fx_lv0 fx_t82.2.2.1 0).2) (rz : fx_rz fx_t82 zs S) : ∀ p ∈ fx_p82, fx_VC (fx_Mx X) 82 zs S p := by
  obtain ⟨x1, rfl⟩ := fx_len1 hz
  have g1 : -2147483648 ≤ x1 ∧ x1 ≤ 2147483647 := rz 1 _ rfl
  exact List.forall_mem_cons.mpr ⟨(u82_0 X S x1 hS g1), List.forall_mem_cons.mpr ⟨(u82_1 X S x1 hS g1), List.forall_mem_cons.mpr ⟨(u82_2 X S x1 hS g1), fun _ h => absurd h List.not_mem_nil⟩⟩⟩
theorem u83_0 (X : (Int → Int) × Int) (S : fx_S) (x1 x2 : Int) (hS : fx_Sok S) (g1 : -2147483648 ≤ x1 ∧ x1 ≤ 2147483647) (g2 : -2147483648 ≤ x2 ∧ x2 ≤ 2147483647) : fx_VC (fx_Mx X) 83 [x1, x2] S (fx_p83.getD 0 ([], .inl (0, 0))) := fx_VCR_ok (show fx_VCR (fx_Mx X) 83 [x1, x2] S _ from q83_0 S x1 x2 hS g1 g2)
theorem u83_1 (X : (Int → Int) × Int) (S : fx_S) (x1 x2 : Int) (hS : fx_Sok S) (g1 : -2147483648 ≤ x1 ∧ x1 ≤ 2147483647) (g2 : -2147483648 ≤ x2 ∧ x2 ≤ 2147483647) : fx_VC (fx_Mx X) 83 [x1, x2] S (fx_p83.getD 1 ([], .inl (0, 0))) := fx_VCR_ok (show fx_VCR (fx_Mx X) 83 [x1, x2] S _ from q83_1 S x1 x2 hS g1 g2)
theorem u83_2 (X : (Int → Int) × Int) (S : fx_S) (x1 x2 : Int) (hS : fx_Sok S) (g1 : -2147483648 ≤ x1 ∧ x1 ≤ 2147483647) (g2 : -2147483648 ≤ x2 ∧ x2 ≤ 2147483647) : fx_VC (fx_Mx X) 83 [x1, x2] S (fx_p83.getD 2 ([], .inl (0, 0))) := fx_VCR_ok (show fx_VCR (fx_Mx X) 83 [x1, x2] S _ from q83_2 S x1 x2 hS g1 g2)
theorem u83_3 (X : (Int → Int) × Int) (S : fx_S) (x1 x2 : Int) (hS : fx_Sok S) (g1 : -2147483648 ≤ x1 ∧ x1 ≤ 2147483647) (g2 : -2147483648 ≤ x2 ∧ x2 ≤ 2147483647) : fx_VC (fx_Mx X) 83 [x1, x2] S (fx_p83.getD 3 ([], .inl (0, 0))) := fx_VCR_ok (show fx_VCR (fx_Mx X) 83 [x1, x2] S _ from q83_3 S x1 x2 hS g1 g2)
set_option maxRecDepth 40000 in
theorem w83 (X : (Int → Int) × Int) (zs : List Int) (S : fx_S) (hS : fx_Sok S) (hz : zs.length = (fx_lv0 fx_t83.2.2.1 0).2) (rz : fx_rz fx_t83 zs S) : ∀ p ∈ fx_p83, fx_VC (fx_Mx X) 83 zs S p := by
  obtain ⟨x1, x2, rfl⟩ := fx_len2 hz
  have g1 : -2147483648 ≤ x1 ∧ x1 ≤ 2147483647 := rz 1 _ rfl
  have g2 : -2147483648 ≤ x2 ∧ x2 ≤ 2147483647 := rz 2 _ rfl
  exact List.forall_mem_cons.mpr ⟨(u83_0 X S x1 x2 hS g1 g2), List.forall_mem_cons.mpr ⟨(u83_1 X S x1 x2 hS g1 g2), List.forall_mem_cons.mpr ⟨(u83_2 X S x1 x2 hS g1 g2), List.forall_mem_cons.mpr ⟨(u83_3 X S x1 x2 hS g1 g2), fun _ h => absurd h List.not_mem_nil⟩⟩⟩⟩
theorem u84_0 (X : (Int → Int) × Int) (S : fx_S) (x1 x2 : Int) (hS : fx_Sok S) (g1 : -2147483648 ≤ x1 ∧ x1 ≤ 2147483647) (g2 : -2147483648 ≤ x2 ∧ x2 ≤ 2147483647) : fx_VC (fx_Mx X) 84 [x1, x2] S (fx_p84.getD 0 ([], .inl (0, 0))) := fx_VCR_ok (show fx_VCR (fx_Mx X) 84 [x1, x2] S _ from q84_0 S x1 x2 hS g1 g2)
theorem u84_1 (X : (Int → Int) × Int) (S : fx_S) (x1 x2 : Int) (hS : fx_Sok S) (g1 : -2147483648 ≤ x1 ∧ x1 ≤ 2147483647) (g2 : -2147483648 ≤ x2 ∧ x2 ≤ 2147483647) : fx_VC (fx_Mx X) 84 [x1, x2] S (fx_p84.getD 1 ([], .inl (0, 0))) := fx_VCR_ok (show fx_VCR (fx_Mx X) 84 [x1, x2] S _ from q84_1 S x1 x2 hS g1 g2)
theorem u84_2 (X : (Int → Int) × Int) (S : fx_S) (x1 x2 : Int) (hS : fx_Sok S) (g1 : -2147483648 ≤ x1 ∧ x1 ≤ 2147483647) (g2 : -2147483648 ≤ x2 ∧ x2 ≤ 2147483647) : fx_VC (fx_Mx X) 84 [x1, x2] S (fx_p84.getD 2 ([], .inl (0, 0))) := fx_VCR_ok (show fx_VCR (fx_Mx X) 84 [x1, x2] S _ from q84_2 S x1 x2 hS g1 g2)
theorem u84_3 (X : (Int → Int) × Int) (S : fx_S) (x1 x2 : Int) (hS : fx_Sok S) (g1 : -2147483648 ≤ x1 ∧ x1 ≤ 2147483647) (g2 : -2147483648 ≤ x2 ∧ x2 ≤ 2147483647) : fx_VC (fx_Mx X) 84 [x1, x2] S (fx_p84.getD 3 ([], .inl (0, 0))) := fx_VCR_ok (show fx_VCR (fx_Mx X) 84 [x1, x2] S _ from q84_3 S x1 x2 hS g1 g2)
theorem u84_4 (X : (Int → Int) × Int) (S : fx_S) (x1 x2 : Int) (hS : fx_Sok S) (g1 : -2147483648 ≤ x1 ∧ x1 ≤ 2147483647) (g2 : -2147483648 ≤ x2 ∧ x2 ≤ 2147483647) : fx_VC (fx_Mx X) 84 [x1, x2] S (fx_p84.getD 4 ([], .inl (0, 0))) := fx_VCR_ok (show fx_VCR (fx_Mx X) 84 [x1, x2] S _ from q84_4 S x1 x2 hS g1 g2)
theorem u84_5 (X : (Int → Int) × Int) (S : fx_S) (x1 x2 : Int) (hS : fx_Sok S) (g1 : -2147483648 ≤ x1 ∧ x1 ≤ 2147483647) (g2 : -2147483648 ≤ x2 ∧ x2 ≤ 2147483647) : fx_VC (fx_Mx X) 84 [x1, x2] S (fx_p84.getD 5 ([], .inl (0, 0))) := fx_VCR_ok (show fx_VCR (fx_Mx X) 84 [x1, x2] S _ from q84_5 S x1 x2 hS g1 g2)
set_option maxRecDepth 40000 in
theorem w84 (X : (Int → Int) × Int) (zs : List Int) (S : fx_S) (hS : fx_Sok S) (hz : zs.length = (fx_lv0 fx_t84.2.2.1 0).2) (rz : fx_rz fx_t84 zs S) : ∀ p ∈ fx_p84, fx_VC (fx_Mx X) 84 zs S p := by
  obtain ⟨x1, x2, rfl⟩ := fx_len2 hz
  have g1 : -2147483648 ≤ x1 ∧ x1 ≤ 2147483647 := rz 1 _ rfl
  have g2 : -2147483648 ≤ x2 ∧ x2 ≤ 2147483647 := rz 2 _ rfl
  exact List.forall_mem_cons.mpr ⟨(u84_0 X S x1 x2 hS g1 g2), List.forall_mem_cons.mpr ⟨(u84_1 X S x1 x2 hS g1 g2), List.forall_mem_cons.mpr ⟨(u84_2 X S x1 x2 hS g1 g2), List.forall_mem_cons.mpr ⟨(u84_3 X S x1 x2 hS g1 g2), List.forall_mem_cons.mpr ⟨(u84_4 X S x1 x2 hS g1 g2), List.forall_mem_cons.mpr ⟨(u84_5 X S x1 x2 hS g1 g2), fun _ h => absurd h List.not_mem_nil⟩⟩⟩⟩⟩⟩
theorem u85_0 (X : (Int → Int) × Int) (S : fx_S) (x1 : Int) (hS : fx_Sok S) (g1 : -2147483648 ≤ x1 ∧ x1 ≤ 2147483647) : fx_VC (fx_Mx X) 85 [x1] S (fx_p85.getD 0 ([], .inl (0, 0))) := fx_VCR_ok (show fx_VCR (fx_Mx X) 85 [x1] S _ from q85_0 S x1 hS g1)
theorem u85_1 (X : (Int → Int) × Int) (S : fx_S) (x1 : Int) (hS : fx_Sok S) (g1 : -2147483648 ≤ x1 ∧ x1 ≤ 2147483647) : fx_VC (fx_Mx X) 85 [x1] S (fx_p85.getD 1 ([], .inl (0, 0))) := fx_VCR_ok (show fx_VCR (fx_Mx X) 85 [x1] S _ from q85_1 S x1 hS g1)
theorem u85_2 (X : (Int → Int) × Int) (S : fx_S) (x1 : Int) (hS : fx_Sok S) (g1 : -2147483648 ≤ x1 ∧ x1 ≤ 2147483647) : fx_VC (fx_Mx X) 85 [x1] S (fx_p85.getD 2 ([], .inl (0, 0))) := fx_VCR_ok (show fx_VCR (fx_Mx X) 85 [x1] S _ from q85_2 S x1 hS g1)
set_option maxRecDepth 40000 in
theorem w85 (X : (Int → Int) × Int) (zs : List Int) (S : fx_S) (hS : fx_Sok S) (hz : zs.length = (fx_lv0 fx_t85.2.2.1 0).2) (rz : fx_rz fx_t85 zs S) : ∀ p ∈ fx_p85, fx_VC (fx_Mx X) 85 zs S p := by
  obtain ⟨x1, rfl⟩ := fx_len1 hz
  have g1 : -2147483648 ≤ x1 ∧ x1 ≤ 2147483647 := rz 1 _ rfl
  exact List.forall_mem_cons.mpr ⟨(u85_0 X S x1 hS g1), List.forall_mem_cons.mpr ⟨(u85_1 X S x1 hS g1), List.forall_mem_cons.mpr ⟨(u85_2 X S x1 hS g1), fun _ h => absurd h List.not_mem_nil⟩⟩⟩
theorem u86_0 (X : (Int → Int) × Int) (S : fx_S) (x1 : Int) (hS : fx_Sok S) (g1 : -2147483648 ≤ x1 ∧ x1 ≤ 2147483647) : fx_VC (fx_Mx X) 86 [x1] S (fx_p86.getD 0 ([], .inl (0, 0))) := fx_VCR_ok (show fx_VCR (fx_Mx X) 86 [x1] S _ from q86_0 S x1 hS g1)
theorem u86_1 (X : (Int → Int) × Int) (S : fx_S) (x1 : Int) (hS : fx_Sok S) (g1 : -2147483648 ≤ x1 ∧ x1 ≤ 2147483647) : fx_VC (fx_Mx X) 86 [x1] S (fx_p86.getD 1 ([], .inl (0, 0))) := fx_VCR_ok (show fx_VCR (fx_Mx X) 86 [x1] S _ from q86_1 S x1 hS g1)
