/-! FX: the paths of the entries, all -/
set_option maxRecDepth 40000 in
theorem u156_3 (X : (Int → Int) × Int) (S : fx_S) (x1 x2 : Int) (hS : fx_Sok S) (g1 : -2147483648 ≤ x1 ∧ x1 ≤ 2147483647) (g2 : -2147483648 ≤ x2 ∧ x2 ≤ 2147483647) : fx_VC (fx_Mx X) 156 [x1, x2] S (fx_p156.getD 3 ([], .inl (0, 0))) := fx_VCR_ok (show fx_VCR (fx_Mx X) 156 [x1, x2] S _ from q156_3 S x1 x2 hS g1 g2)
set_option maxRecDepth 40000 in
theorem w156 (X : (Int → Int) × Int) (zs : List Int) (S : fx_S) (hS : fx_Sok S) (hz : zs.length = (fx_lv0 fx_t156.2.2.1 0).2) (rz : fx_rz fx_t156 zs S) : ∀ p ∈ fx_p156, fx_VC (fx_Mx X) 156 zs S p := by
  obtain ⟨x1, x2, rfl⟩ := fx_len2 hz
  have g1 : -2147483648 ≤ x1 ∧ x1 ≤ 2147483647 := rz 1 _ rfl
  have g2 : -2147483648 ≤ x2 ∧ x2 ≤ 2147483647 := rz 2 _ rfl
  exact List.forall_mem_cons.mpr ⟨(u156_0 X S x1 x2 hS g1 g2), List.forall_mem_cons.mpr ⟨(u156_1 X S x1 x2 hS g1 g2), List.forall_mem_cons.mpr ⟨(u156_2 X S x1 x2 hS g1 g2), List.forall_mem_cons.mpr ⟨(u156_3 X S x1 x2 hS g1 g2), fun _ h => absurd h List.not_mem_nil⟩⟩⟩⟩
set_option maxRecDepth 40000 in
theorem u157_0 (X : (Int → Int) × Int) (S : fx_S) (x1 : Int) (hS : fx_Sok S) (g1 : -2147483648 ≤ x1 ∧ x1 ≤ 2147483647) : fx_VC (fx_Mx X) 157 [x1] S (fx_p157.getD 0 ([], .inl (0, 0))) := fx_VCR_ok (show fx_VCR (fx_Mx X) 157 [x1] S _ from q157_0 S x1 hS g1)
set_option maxRecDepth 40000 in
theorem w157 (X : (Int → Int) × Int) (zs : List Int) (S : fx_S) (hS : fx_Sok S) (hz : zs.length = (fx_lv0 fx_t157.2.2.1 0).2) (rz : fx_rz fx_t157 zs S) : ∀ p ∈ fx_p157, fx_VC (fx_Mx X) 157 zs S p := by
  obtain ⟨x1, rfl⟩ := fx_len1 hz
  have g1 : -2147483648 ≤ x1 ∧ x1 ≤ 2147483647 := rz 1 _ rfl
  exact List.forall_mem_cons.mpr ⟨(u157_0 X S x1 hS g1), fun _ h => absurd h List.not_mem_nil⟩
set_option maxRecDepth 40000 in
theorem u158_0 (X : (Int → Int) × Int) (S : fx_S) (x1 : Int) (hS : fx_Sok S) (g1 : -2147483648 ≤ x1 ∧ x1 ≤ 2147483647) : fx_VC (fx_Mx X) 158 [x1] S (fx_p158.getD 0 ([], .inl (0, 0))) := fx_VCR_ok (show fx_VCR (fx_Mx X) 158 [x1] S _ from q158_0 S x1 hS g1)
set_option maxRecDepth 40000 in
theorem u158_1 (X : (Int → Int) × Int) (S : fx_S) (x1 : Int) (hS : fx_Sok S) (g1 : -2147483648 ≤ x1 ∧ x1 ≤ 2147483647) : fx_VC (fx_Mx X) 158 [x1] S (fx_p158.getD 1 ([], .inl (0, 0))) := fx_VCR_ok (show fx_VCR (fx_Mx X) 158 [x1] S _ from q158_1 S x1 hS g1)
set_option maxRecDepth 40000 in
theorem w158 (X : (Int → Int) × Int) (zs : List Int) (S : fx_S) (hS : fx_Sok S) (hz : zs.length = (fx_lv0 fx_t158.2.2.1 0).2) (rz : fx_rz fx_t158 zs S) : ∀ p ∈ fx_p158, fx_VC (fx_Mx X) 158 zs S p := by
  obtain ⟨x1, rfl⟩ := fx_len1 hz
  have g1 : -2147483648 ≤ x1 ∧ x1 ≤ 2147483647 := rz 1 _ rfl
  exact List.forall_mem_cons.mpr ⟨(u158_0 X S x1 hS g1), List.forall_mem_cons.mpr ⟨(u158_1 X S x1 hS g1), fun _ h => absurd h List.not_mem_nil⟩⟩
set_option maxRecDepth 40000 in
theorem u159_0 (X : (Int → Int) × Int) (S : fx_S) (x1 x2 x3 : Int) (hS : fx_Sok S) (g1 : -2147483648 ≤ x1 ∧ x1 ≤ 2147483647) (g2 : -2147483648 ≤ x2 ∧ x2 ≤ 2147483647) (g3 : -2147483648 ≤ x3 ∧ x3 ≤ 2147483647) : fx_VC (fx_Mx X) 159 [x1, x2, x3] S (fx_p159.getD 0 ([], .inl (0, 0))) := fx_VCR_ok (show fx_VCR (fx_Mx X) 159 [x1, x2, x3] S _ from q159_0 S x1 x2 x3 hS g1 g2 g3)
set_option maxRecDepth 40000 in
theorem u159_1 (X : (Int → Int) × Int) (S : fx_S) (x1 x2 x3 : Int) (hS : fx_Sok S) (g1 : -2147483648 ≤ x1 ∧ x1 ≤ 2147483647) (g2 : -2147483648 ≤ x2 ∧ x2 ≤ 2147483647) (g3 : -2147483648 ≤ x3 ∧ x3 ≤ 2147483647) : fx_VC (fx_Mx X) 159 [x1, x2, x3] S (fx_p159.getD 1 ([], .inl (0, 0))) := fx_VCR_ok (show fx_VCR (fx_Mx X) 159 [x1, x2, x3] S _ from q159_1 S x1 x2 x3 hS g1 g2 g3)
set_option maxRecDepth 40000 in
theorem u159_2 (X : (Int → Int) × Int) (S : fx_S) (x1 x2 x3 : Int) (hS : fx_Sok S) (g1 : -2147483648 ≤ x1 ∧ x1 ≤ 2147483647) (g2 : -2147483648 ≤ x2 ∧ x2 ≤ 2147483647) (g3 : -2147483648 ≤ x3 ∧ x3 ≤ 2147483647) : fx_VC (fx_Mx X) 159 [x1, x2, x3] S (fx_p159.getD 2 ([], .inl (0, 0))) := fx_VCR_ok (show fx_VCR (fx_Mx X) 159 [x1, x2, x3] S _ from q159_2 S x1 x2 x3 hS g1 g2 g3)
set_option maxRecDepth 40000 in
theorem u159_3 (X : (Int → Int) × Int) (S : fx_S) (x1 x2 x3 : Int) (hS : fx_Sok S) (g1 : -2147483648 ≤ x1 ∧ x1 ≤ 2147483647) (g2 : -2147483648 ≤ x2 ∧ x2 ≤ 2147483647) (g3 : -2147483648 ≤ x3 ∧ x3 ≤ 2147483647) : fx_VC (fx_Mx X) 159 [x1, x2, x3] S (fx_p159.getD 3 ([], .inl (0, 0))) := fx_VCR_ok (show fx_VCR (fx_Mx X) 159 [x1, x2, x3] S _ from q159_3 S x1 x2 x3 hS g1 g2 g3)
set_option maxRecDepth 40000 in
theorem w159 (X : (Int → Int) × Int) (zs : List Int) (S : fx_S) (hS : fx_Sok S) (hz : zs.length = (fx_lv0 fx_t159.2.2.1 0).2) (rz : fx_rz fx_t159 zs S) : ∀ p ∈ fx_p159, fx_VC (fx_Mx X) 159 zs S p := by
  obtain ⟨x1, x2, x3, rfl⟩ := fx_len3 hz
  have g1 : -2147483648 ≤ x1 ∧ x1 ≤ 2147483647 := rz 1 _ rfl
  have g2 : -2147483648 ≤ x2 ∧ x2 ≤ 2147483647 := rz 2 _ rfl
  have g3 : -2147483648 ≤ x3 ∧ x3 ≤ 2147483647 := rz 3 _ rfl
  exact List.forall_mem_cons.mpr ⟨(u159_0 X S x1 x2 x3 hS g1 g2 g3), List.forall_mem_cons.mpr ⟨(u159_1 X S x1 x2 x3 hS g1 g2 g3), List.forall_mem_cons.mpr ⟨(u159_2 X S x1 x2 x3 hS g1 g2 g3), List.forall_mem_cons.mpr ⟨(u159_3 X S x1 x2 x3 hS g1 g2 g3), fun _ h => absurd h List.not_mem_nil⟩⟩⟩⟩
set_option maxRecDepth 40000 in
theorem u160_0 (X : (Int → Int) × Int) (S : fx_S) (x1 : Int) (hS : fx_Sok S) (g1 : -2147483648 ≤ x1 ∧ x1 ≤ 2147483647) : fx_VC (fx_Mx X) 160 [x1] S (fx_p160.getD 0 ([], .inl (0, 0))) := fx_VCR_ok (show fx_VCR (fx_Mx X) 160 [x1] S _ from q160_0 S x1 hS g1)
set_option maxRecDepth 40000 in
theorem u160_1 (X : (Int → Int) × Int) (S : fx_S) (x1 : Int) (hS : fx_Sok S) (g1 : -2147483648 ≤ x1 ∧ x1 ≤ 2147483647) : fx_VC (fx_Mx X) 160 [x1] S (fx_p160.getD 1 ([], .inl (0, 0))) := fx_VCR_ok (show fx_VCR (fx_Mx X) 160 [x1] S _ from q160_1 S x1 hS g1)
set_option maxRecDepth 40000 in
theorem u160_2 (X : (Int → Int) × Int) (S : fx_S) (x1 : Int) (hS : fx_Sok S) (g1 : -2147483648 ≤ x1 ∧ x1 ≤ 2147483647) : fx_VC (fx_Mx X) 160 [x1] S (fx_p160.getD 2 ([], .inl (0, 0))) := fx_VCR_ok (show fx_VCR (fx_Mx X) 160 [x1] S _ from q160_2 S x1 hS g1)
set_option maxRecDepth 40000 in
theorem u160_3 (X : (Int → Int) × Int) (S : fx_S) (x1 : Int) (hS : fx_Sok S) (g1 : -2147483648 ≤ x1 ∧ x1 ≤ 2147483647) : fx_VC (fx_Mx X) 160 [x1] S (fx_p160.getD 3 ([], .inl (0, 0))) := fx_VCR_ok (show fx_VCR (fx_Mx X) 160 [x1] S _ from q160_3 S x1 hS g1)
set_option maxRecDepth 40000 in
theorem w160 (X : (Int → Int) × Int) (zs : List Int) (S : fx_S) (hS : fx_Sok S) (hz : zs.length = (fx_lv0 fx_t160.2.2.1 0).2) (rz : fx_rz fx_t160 zs S) : ∀ p ∈ fx_p160, fx_VC (fx_Mx X) 160 zs S p := by
  obtain ⟨x1, rfl⟩ := fx_len1 hz
  have g1 : -2147483648 ≤ x1 ∧ x1 ≤ 2147483647 := rz 1 _ rfl
  exact List.forall_mem_cons.mpr ⟨(u160_0 X S x1 hS g1), List.forall_mem_cons.mpr ⟨(u160_1 X S x1 hS g1), List.forall_mem_cons.mpr ⟨(u160_2 X S x1 hS g1), List.forall_mem_cons.mpr ⟨(u160_3 X S x1 hS g1), fun _ h => absurd h List.not_mem_nil⟩⟩⟩⟩
set_option maxRecDepth 40000 in
theorem u161_0 (X : (Int → Int) × Int) (S : fx_S) (x1 x2 : Int) (hS : fx_Sok S) (g1 : -2147483648 ≤ x1 ∧ x1 ≤ 2147483647) (g2 : -2147483648 ≤ x2 ∧ x2 ≤ 2147483647) : fx_VC (fx_Mx X) 161 [x1, x2] S (fx_p161.getD 0 ([], .inl (0, 0))) := fx_VCR_ok (show fx_VCR (fx_Mx X) 161 [x1, x2] S _ from q161_0 S x1 x2 hS g1 g2)
set_option maxRecDepth 40000 in
theorem w161 (X : (Int → Int) × Int) (zs : List Int) (S : fx_S) (hS : fx_Sok S) (hz : zs.length = (fx_lv0 fx_t161.2.2.1 0).2) (rz : fx_rz fx_t161 zs S) : ∀ p ∈ fx_p161, fx_VC (fx_Mx X) 161 zs S p := by
  obtain ⟨x1, x2, rfl⟩ := fx_len2 hz
  have g1 : -2147483648 ≤ x1 ∧ x1 ≤ 2147483647 := rz 1 _ rfl
  have g2 : -2147483648 ≤ x2 ∧ x2 ≤ 2147483647 := rz 2 _ rfl
  exact List.forall_mem_cons.mpr ⟨(u161_0 X S x1 x2 hS g1 g2), fun _ h => absurd h List.not_mem_nil⟩
set_option maxRecDepth 40000 in
theorem u162_0 (X : (Int → Int) × Int) (S : fx_S) (x1 x2 : Int) (hS : fx_Sok S) (g1 : -2147483648 ≤ x1 ∧ x1 ≤ 2147483647) (g2 : -2147483648 ≤ x2 ∧ x2 ≤ 2147483647) : fx_VC (fx_Mx X) 162 [x1, x2] S (fx_p162.getD 0 ([], .inl (0, 0))) := fx_VCR_ok (show fx_VCR (fx_Mx X) 162 [x1, x2] S _ from q162_0 S x1 x2 hS g1 g2)
set_option maxRecDepth 40000 in
theorem w162 (X : (Int → Int) × Int) (zs : List Int) (S : fx_S) (hS : fx_Sok S) (hz : zs.length = (fx_lv0 fx_t162.2.2.1 0).2) (rz : fx_rz fx_t162 zs S) : ∀ p ∈ fx_p162, fx_VC (fx_Mx X) 162 zs S p := by
  obtain ⟨x1, x2, rfl⟩ := fx_len2 hz
  have g1 : -2147483648 ≤ x1 ∧ x1 ≤ 2147483647 := rz 1 _ rfl
  have g2 : -2147483648 ≤ x2 ∧ x2 ≤ 2147483647 := rz 2 _ rfl
  exact List.forall_mem_cons.mpr ⟨(u162_0 X S x1 x2 hS g1 g2), fun _ h => absurd h List.not_mem_nil⟩
set_option maxRecDepth 40000 in
theorem u163_0 (X : (Int → Int) × Int) (S : fx_S) (x1 : Int) (hS : fx_Sok S) (g1 : -2147483648 ≤ x1 ∧ x1 ≤ 2147483647) : fx_VC (fx_Mx X) 163 [x1] S (fx_p163.getD 0 ([], .inl (0, 0))) := fx_VCR_ok (show fx_VCR (fx_Mx X) 163 [x1] S _ from q163_0 S x1 hS g1)
set_option maxRecDepth 40000 in
theorem w163 (X : (Int → Int) × Int) (zs : List Int) (S : fx_S) (hS : fx_Sok S) (hz : zs.length = (fx_lv0 fx_t163.2.2.1 0).2) (rz : fx_rz fx_t163 zs S) : ∀ p ∈ fx_p163, fx_VC (fx_Mx X) 163 zs S p := by
  obtain ⟨x1, rfl⟩ := fx_len1 hz
  have g1 : -2147483648 ≤ x1 ∧ x1 ≤ 2147483647 := rz 1 _ rfl
  exact List.forall_mem_cons.mpr ⟨(u163_0 X S x1 hS g1), fun _ h => absurd h List.not_mem_nil⟩
set_option maxRecDepth 40000 in
theorem u164_0 (X : (Int → Int) × Int) (S : fx_S) (x1 : Int) (hS : fx_Sok S) (g1 : -2147483648 ≤ x1 ∧ x1 ≤ 2147483647) : fx_VC (fx_Mx X) 164 [x1] S (fx_p164.getD 0 ([], .inl (0, 0))) := fx_VCR_ok (show fx_VCR (fx_Mx X) 164 [x1] S _ from q164_0 S x1 hS g1)
set_option maxRecDepth 40000 in
theorem w164 (X : (Int → Int) × Int) (zs : List Int) (S : fx_S) (hS : fx_Sok S) (hz : zs.length = (fx_lv0 fx_t164.2.2.1 0).2) (rz : fx_rz fx_t164 zs S) : ∀ p ∈ fx_p164, fx_VC (fx_Mx X) 164 zs S p := by
  obtain ⟨x1, rfl⟩ := fx_len1 hz
  have g1 : -2147483648 ≤ x1 ∧ x1 ≤ 2147483647 := rz 1 _ rfl
  exact List.forall_mem_cons.mpr ⟨(u164_0 X S x1 hS g1), fun _ h => absurd h List.not_mem_nil⟩
set_option maxRecDepth 40000 in
theorem u165_0 (X : (Int → Int) × Int) (S : fx_S) (x1 x2 : Int) (hS : fx_Sok S) (g1 : -2147483648 ≤ x1 ∧ x1 ≤ 2147483647) (g2 : -2147483648 ≤ x2 ∧ x2 ≤ 2147483647) : fx_VC (fx_Mx X) 165 [x1, x2] S (fx_p165.getD 0 ([], .inl (0, 0))) := fx_VCR_ok (show fx_VCR (fx_Mx X) 165 [x1, x2] S _ from q165_0 S x1 x2 hS g1 g2)
set_option maxRecDepth 40000 in
theorem w165 (X : (Int → Int) × Int) (zs : List Int) (S : fx_S) (hS : fx_Sok S) (hz : zs.length = (fx_lv0 fx_t165.2.2.1 0).2) (rz : fx_rz fx_t165 zs S) : ∀ p ∈ fx_p165, fx_VC (fx_Mx X) 165 zs S p := by
  obtain ⟨x1, x2, rfl⟩ := fx_len2 hz
  have g1 : -2147483648 ≤ x1 ∧ x1 ≤ 2147483647 := rz 1 _ rfl
  have g2 : -2147483648 ≤ x2 ∧ x2 ≤ 2147483647 := rz 2 _ rfl
  exact List.forall_mem_cons.mpr ⟨(u165_0 X S x1 x2 hS g1 g2), fun _ h => absurd h List.not_mem_nil⟩
set_option maxRecDepth 40000 in
theorem u166_0 (X : (Int → Int) × Int) (S : fx_S) (x1 x2 : Int) (hS : fx_Sok S) (g1 : -2147483648 ≤ x1 ∧ x1 ≤ 2147483647) (g2 : -2147483648 ≤ x2 ∧ x2 ≤ 2147483647) : fx_VC (fx_Mx X) 166 [x1, x2] S (fx_p166.getD 0 ([], .inl (0, 0))) := fx_VCR_ok (show fx_VCR (fx_Mx X) 166 [x1, x2] S _ from q166_0 S x1 x2 hS g1 g2)
set_option maxRecDepth 40000 in
theorem w166 (X : (Int → Int) × Int) (zs : List Int) (S : fx_S) (hS : fx_Sok S) (hz : zs.length = (fx_lv0 fx_t166.2.2.1 0).2) (rz : fx_rz fx_t166 zs S) : ∀ p ∈ fx_p166, fx_VC (fx_Mx X) 166 zs S p := by
  obtain ⟨x1, x2, rfl⟩ := fx_len2 hz
  have g1 : -2147483648 ≤ x1 ∧ x1 ≤ 2147483647 := rz 1 _ rfl
  have g2 : -2147483648 ≤ x2 ∧ x2 ≤ 2147483647 := rz 2 _ rfl
  exact List.forall_mem_cons.mpr ⟨(u166_0 X S x1 x2 hS g1 g2), fun _ h => absurd h List.not_mem_nil⟩
set_option maxRecDepth 40000 in
theorem u167_0 (X : (Int → Int) × Int) (S : fx_S) (x1 x2 x3 : Int) (hS : fx_Sok S) (g1 : -2147483648 ≤ x1 ∧ x1 ≤ 2147483647) (g2 : -2147483648 ≤ x2 ∧ x2 ≤ 2147483647) (g3 : -2147483648 ≤ x3 ∧ x3 ≤ 2147483647) : fx_VC (fx_Mx X) 167 [x1, x2, x3] S (fx_p167.getD 0 ([], .inl (0, 0))) := fx_VCR_ok (show fx_VCR (fx_Mx X) 167 [x1, x2, x3] S _ from q167_0 S x1 x2 x3 hS g1 g2 g3)
set_option maxRecDepth 40000 in
theorem u167_1 (X : (Int → Int) × Int) (S : fx_S) (x1 x2 x3 : Int) (hS : fx_Sok S) (g1 : -2147483648 ≤ x1 ∧ x1 ≤ 2147483647) (g2 : -2147483648 ≤ x2 ∧ x2 ≤ 2147483647) (g3 : -2147483648 ≤ x3 ∧ x3 ≤ 2147483647) : fx_VC (fx_Mx X) 167 [x1, x2, x3] S (fx_p167.getD 1 ([], .inl (0, 0))) := fx_VCR_ok (show fx_VCR (fx_Mx X) 167 [x1, x2, x3] S _ from q167_1 S x1 x2 x3 hS g1 g2 g3)
set_option maxRecDepth 40000 in
theorem u167_2 (X : (Int → Int) × Int) (S : fx_S) (x1 x2 x3 : Int) (hS : fx_Sok S) (g1 : -2147483648 ≤ x1 ∧ x1 ≤ 2147483647) (g2 : -2147483648 ≤ x2 ∧ x2 ≤ 2147483647) (g3 : -2147483648 ≤ x3 ∧ x3 ≤ 2147483647) : fx_VC (fx_Mx X) 167 [x1, x2, x3] S (fx_p167.getD 2 ([], .inl (0, 0))) := fx_VCR_ok (show fx_VCR (fx_Mx X) 167 [x1, x2, x3] S _ from q167_2 S x1 x2 x3 hS g1 g2 g3)
set_option maxRecDepth 40000 in
theorem w167 (X : (Int → Int) × Int) (zs : List Int) (S : fx_S) (hS : fx_Sok S) (hz : zs.length = (fx_lv0 fx_t167.2.2.1 0).2) (rz : fx_rz fx_t167 zs S) : ∀ p ∈ fx_p167, fx_VC (fx_Mx X) 167 zs S p := by
  obtain ⟨x1, x2, x3, rfl⟩ := fx_len3 hz
  have g1 : -2147483648 ≤ x1 ∧ x1 ≤ 2147483647 := rz 1 _ rfl
  have g2 : -2147483648 ≤ x2 ∧ x2 ≤ 2147483647 := rz 2 _ rfl
  have g3 : -2147483648 ≤ x3 ∧ x3 ≤ 2147483647 := rz 3 _ rfl
  exact List.forall_mem_cons.mpr ⟨(u167_0 X S x1 x2 x3 hS g1 g2 g3), List.forall_mem_cons.mpr ⟨(u167_1 X S x1 x2 x3 hS g1 g2 g3), List.forall_mem_cons.mpr ⟨(u167_2 X S x1 x2 x3 hS g1 g2 g3), fun _ h => absurd h List.not_mem_nil⟩⟩⟩
set_option maxRecDepth 40000 in
theorem u168_0 (X : (Int → Int) × Int) (S : fx_S) (x1 : Int) (hS : fx_Sok S) (g1 : -2147483648 ≤ x1 ∧ x1 ≤ 2147483647) : fx_VC (fx_Mx X) 168 [x1] S (fx_p168.getD 0 ([], .inl (0, 0))) := fx_VCR_ok (show fx_VCR (fx_Mx X) 168 [x1] S _ from q168_0 S x1 hS g1)
set_option maxRecDepth 40000 in
theorem w168 (X : (Int → Int) × Int) (zs : List Int) (S : fx_S) (hS : fx_Sok S) (hz : zs.length = (fx_lv0 fx_t168.2.2.1 0).2) (rz : fx_rz fx_t168 zs S) : ∀ p ∈ fx_p168, fx_VC (fx_Mx X) 168 zs S p := by
  obtain ⟨x1, rfl⟩ := fx_len1 hz
  have g1 : -2147483648 ≤ x1 ∧ x1 ≤ 2147483647 := rz 1 _ rfl
  exact List.forall_mem_cons.mpr ⟨(u168_0 X S x1 hS g1), fun _ h => absurd h List.not_mem_nil⟩
set_option maxRecDepth 40000 in
theorem u169_0 (X : (Int → Int) × Int) (S : fx_S) (x1 x2 : Int) (hS : fx_Sok S) (g1 : -2147483648 ≤ x1 ∧ x1 ≤ 2147483647) (g2 : -2147483648 ≤ x2 ∧ x2 ≤ 2147483647) : fx_VC (fx_Mx X) 169 [x1, x2] S (fx_p169.getD 0 ([], .inl (0, 0))) := fx_VCR_ok (show fx_VCR (fx_Mx X) 169 [x1, x2] S _ from q169_0 S x1 x2 hS g1 g2)
set_option maxRecDepth 40000 in
theorem w169 (X : (Int → Int) × Int) (zs : List Int) (S : fx_S) (hS : fx_Sok S) (hz : zs.length = (fx_lv0 fx_t169.2.2.1 0).2) (rz : fx_rz fx_t169 zs S) : ∀ p ∈ fx_p169, fx_VC (fx_Mx X) 169 zs S p := by
  obtain ⟨x1, x2, rfl⟩ := fx_len2 hz
  have g1 : -2147483648 ≤ x1 ∧ x1 ≤ 2147483647 := rz 1 _ rfl
  have g2 : -2147483648 ≤ x2 ∧ x2 ≤ 2147483647 := rz 2 _ rfl
  exact List.forall_mem_cons.mpr ⟨(u169_0 X S x1 x2 hS g1 g2), fun _ h => absurd h List.not_mem_nil⟩
set_option maxRecDepth 40000 in
theorem u170_0 (X : (Int → Int) × Int) (S : fx_S) (x1 : Int) (hS : fx_Sok S) (g1 : -2147483648 ≤ x1 ∧ x1 ≤ 2147483647) : fx_VC (fx_Mx X) 170 [x1] S (fx_p170.getD 0 ([], .inl (0, 0))) := fx_VCR_ok (show fx_VCR (fx_Mx X) 170 [x1] S _ from q170_0 S x1 hS g1)
set_option maxRecDepth 40000 in
theorem u170_1 (X : (Int → Int) × Int) (S : fx_S) (x1 : Int) (hS : fx_Sok S) (g1 : -2147483648 ≤ x1 ∧ x1 ≤ 2147483647) : fx_VC (fx_Mx X) 170 [x1] S (fx_p170.getD 1 ([], .inl (0, 0))) := fx_VCR_ok (show fx_VCR (fx_Mx X) 170 [x1] S _ from q170_1 S x1 hS g1)
set_option maxRecDepth 40000 in
theorem u170_2 (X : (Int → Int) × Int) (S : fx_S) (x1 : Int) (hS : fx_Sok S) (g1 : -2147483648 ≤ x1 ∧ x1 ≤ 2147483647) : fx_VC (fx_Mx X) 170 [x1] S (fx_p170.getD 2 ([], .inl (0, 0))) := fx_VCR_ok (show fx_VCR (fx_Mx X) 170 [x1] S _ from q170_2 S x1 hS g1)
set_option maxRecDepth 40000 in
theorem u170_3 (X : (Int → Int) × Int) (S : fx_S) (x1 : Int) (hS : fx_Sok S) (g1 : -2147483648 ≤ x1 ∧ x1 ≤ 2147483647) : fx_VC (fx_Mx X) 170 [x1] S (fx_p170.getD 3 ([], .inl (0, 0))) := fx_VCR_ok (show fx_VCR (fx_Mx X) 170 [x1] S _ from q170_3 S x1 hS g1)
set_option maxRecDepth 40000 in
theorem u170_4 (X : (Int → Int) × Int) (S : fx_S) (x1 : Int) (hS : fx_Sok S) (g1 : -2147483648 ≤ x1 ∧ x1 ≤ 2147483647) : fx_VC (fx_Mx X) 170 [x1] S (fx_p170.getD 4 ([], .inl (0, 0))) := fx_VCR_ok (show fx_VCR (fx_Mx X) 170 [x1] S _ from q170_4 S x1 hS g1)
set_option maxRecDepth 40000 in
theorem w170 (X : (Int → Int) × Int) (zs : List Int) (S : fx_S) (hS : fx_Sok S) (hz : zs.length = (fx_lv0 fx_t170.2.2.1 0).2) (rz : fx_rz fx_t170 zs S) : ∀ p ∈ fx_p170, fx_VC (fx_Mx X) 170 zs S p := by
  obtain ⟨x1, rfl⟩ := fx_len1 hz
  have g1 : -2147483648 ≤ x1 ∧ x1 ≤ 2147483647 := rz 1 _ rfl
  exact List.forall_mem_cons.mpr ⟨(u170_0 X S x1 hS g1), List.forall_mem_cons.mpr ⟨(u170_1 X S x1 hS g1), List.forall_mem_cons.mpr ⟨(u170_2 X S x1 hS g1), List.forall_mem_cons.mpr ⟨(u170_3 X S x1 hS g1), List.forall_mem_cons.mpr ⟨(u170_4 X S x1 hS g1), fun _ h => absurd h List.not_mem_nil⟩⟩⟩⟩⟩
set_option maxRecDepth 40000 in
theorem u171_0 (X : (Int → Int) × Int) (S : fx_S) (x1 : Int) (hS : fx_Sok S) (g1 : -2147483648 ≤ x1 ∧ x1 ≤ 2147483647) : fx_VC (fx_Mx X) 171 [x1] S (fx_p171.getD 0 ([], .inl (0, 0))) := fx_VCR_ok (show fx_VCR (fx_Mx X) 171 [x1] S _ from q171_0 S x1 hS g1)
set_option maxRecDepth 40000 in
theorem u171_1 (X : (Int → Int) × Int) (S : fx_S) (x1 : Int) (hS : fx_Sok S) (g1 : -2147483648 ≤ x1 ∧ x1 ≤ 2147483647) : fx_VC (fx_Mx X) 171 [x1] S (fx_p171.getD 1 ([], .inl (0, 0))) := fx_VCR_ok (show fx_VCR (fx_Mx X) 171 [x1] S _ from q171_1 S x1 hS g1)
set_option maxRecDepth 40000 in
theorem w171 (X : (Int → Int) × Int) (zs : List Int) (S : fx_S) (hS : fx_Sok S) (hz : zs.length = (fx_lv0 fx_t171.2.2.1 0).2) (rz : fx_rz fx_t171 zs S) : ∀ p ∈ fx_p171, fx_VC (fx_Mx X) 171 zs S p := by
  obtain ⟨x1, rfl⟩ := fx_len1 hz
  have g1 : -2147483648 ≤ x1 ∧ x1 ≤ 2147483647 := rz 1 _ rfl
  exact List.forall_mem_cons.mpr ⟨(u171_0 X S x1 hS g1), List.forall_mem_cons.mpr ⟨(u171_1 X S x1 hS g1), fun _ h => absurd h List.not_mem_nil⟩⟩
set_option maxRecDepth 40000 in
theorem u172_0 (X : (Int → Int) × Int) (S : fx_S) (x1 x2 : Int) (hS : fx_Sok S) (g1 : -2147483648 ≤ x1 ∧ x1 ≤ 2147483647) (g2 : -2147483648 ≤ x2 ∧ x2 ≤ 2147483647) : fx_VC (fx_Mx X) 172 [x1, x2] S (fx_p172.getD 0 ([], .inl (0, 0))) := fx_VCR_ok (show fx_VCR (fx_Mx X) 172 [x1, x2] S _ from q172_0 S x1 x2 hS g1 g2)
set_option maxRecDepth 40000 in
theorem u172_1 (X : (Int → Int) × Int) (S : fx_S) (x1 x2 : Int) (hS : fx_Sok S) (g1 : -2147483648 ≤ x1 ∧ x1 ≤ 2147483647) (g2 : -2147483648 ≤ x2 ∧ x2 ≤ 2147483647) : fx_VC (fx_Mx X) 172 [x1, x2] S (fx_p172.getD 1 ([], .inl (0, 0))) := fx_VCR_ok (show fx_VCR (fx_Mx X) 172 [x1, x2] S _ from q172_1 S x1 x2 hS g1 g2)
set_option maxRecDepth 40000 in
theorem u172_2 (X : (Int → Int) × Int) (S : fx_S) (x1 x2 : Int) (hS : fx_Sok S) (g1 : -2147483648 ≤ x1 ∧ x1 ≤ 2147483647) (g2 : -2147483648 ≤ x2 ∧ x2 ≤ 2147483647) : fx_VC (fx_Mx X) 172 [x1, x2] S (fx_p172.getD 2 ([], .inl (0, 0))) := fx_VCR_ok (show fx_VCR (fx_Mx X) 172 [x1, x2] S _ from q172_2 S x1 x2 hS g1 g2)
set_option maxRecDepth 40000 in
theorem w172 (X : (Int → Int) × Int) (zs : List Int) (S : fx_S) (hS : fx_Sok S) (hz : zs.length = (fx_lv0 fx_t172.2.2.1 0).2) (rz : fx_rz fx_t172 zs S) : ∀ p ∈ fx_p172, fx_VC (fx_Mx X) 172 zs S p := by
  obtain ⟨x1, x2, rfl⟩ := fx_len2 hz
  have g1 : -2147483648 ≤ x1 ∧ x1 ≤ 2147483647 := rz 1 _ rfl
  have g2 : -2147483648 ≤ x2 ∧ x2 ≤ 2147483647 := rz 2 _ rfl
  exact List.forall_mem_cons.mpr ⟨(u172_0 X S x1 x2 hS g1 g2), List.forall_mem_cons.mpr ⟨(u172_1 X S x1 x2 hS g1 g2), List.forall_mem_cons.mpr ⟨(u172_2 X S x1 x2 hS g1 g2), fun _ h => absurd h List.not_mem_nil⟩⟩⟩
set_option maxRecDepth 40000 in
theorem u173_0 (X : (Int → Int) × Int) (S : fx_S) (x1 x2 : Int) (hS : fx_Sok S) (g1 : -2147483648 ≤ x1 ∧ x1 ≤ 2147483647) (g2 : -2147483648 ≤ x2 ∧ x2 ≤ 2147483647) : fx_VC (fx_Mx X) 173 [x1, x2] S (fx_p173.getD 0 ([], .inl (0, 0))) := fx_VCR_ok (show fx_VCR (fx_Mx X) 173 [x1, x2] S _ from q173_0 S x1 x2 hS g1 g2)
set_option maxRecDepth 40000 in
theorem u173_1 (X : (Int → Int) × Int) (S : fx_S) (x1 x2 : Int) (hS : fx_Sok S) (g1 : -2147483648 ≤ x1 ∧ x1 ≤ 2147483647) (g2 : -2147483648 ≤ x2 ∧ x2 ≤ 2147483647) : fx_VC (fx_Mx X) 173 [x1, x2] S (fx_p173.getD 1 ([], .inl (0, 0))) := fx_VCR_ok (show fx_VCR (fx_Mx X) 173 [x1, x2] S _ from q173_1 S x1 x2 hS g1 g2)
set_option maxRecDepth 40000 in
theorem w173 (X : (Int → Int) × Int) (zs : List Int) (S : fx_S) (hS : fx_Sok S) (hz : zs.length = (fx_lv0 fx_t173.2.2.1 0).2) (rz : fx_rz fx_t173 zs S) : ∀ p ∈ fx_p173, fx_VC (fx_Mx X) 173 zs S p := by
  obtain ⟨x1, x2, rfl⟩ := fx_len2 hz
  have g1 : -2147483648 ≤ x1 ∧ x1 ≤ 2147483647 := rz 1 _ rfl
  have g2 : -2147483648 ≤ x2 ∧ x2 ≤ 2147483647 := rz 2 _ rfl
  exact List.forall_mem_cons.mpr ⟨(u173_0 X S x1 x2 hS g1 g2), List.forall_mem_cons.mpr ⟨(u173_1 X S x1 x2 hS g1 g2), fun _ h => absurd h List.not_mem_nil⟩⟩
set_option maxRecDepth 40000 in
theorem u174_0 (X : (Int → Int) × Int) (S : fx_S) (x1 : Int) (hS : fx_Sok S) (g1 : -2147483648 ≤ x1 ∧ x1 ≤ 2147483647) : fx_VC (fx_Mx X) 174 [x1] S (fx_p174.getD 0 ([], .inl (0, 0))) := fx_VCR_ok (show fx_VCR (fx_Mx X) 174 [x1] S _ from q174_0 S x1 hS g1)
set_option maxRecDepth 40000 in
theorem w174 (X : (Int → Int) × Int) (zs : List Int) (S : fx_S) (hS : fx_Sok S) (hz : zs.length = (fx_lv0 fx_t174.2.2.1 0).2) (rz : fx_rz fx_t174 zs S) : ∀ p ∈ fx_p174, fx_VC (fx_Mx X) 174 zs S p := by
  obtain ⟨x1, rfl⟩ := fx_len1 hz
  have g1 : -2147483648 ≤ x1 ∧ x1 ≤ 2147483647 := rz 1 _ rfl
  exact List.forall_mem_cons.mpr ⟨(u174_0 X S x1 hS g1), fun _ h => absurd h List.not_mem_nil⟩
set_option maxRecDepth 40000 in
theorem u175_0 (X : (Int → Int) × Int) (S : fx_S) (x1 x2 x3 x4 : Int) (hS : fx_Sok S) (g1 : -2147483648 ≤ x1 ∧ x1 ≤ 2147483647) (g2 : -2147483648 ≤ x2 ∧ x2 ≤ 2147483647) (g3 : -2147483648 ≤ x3 ∧ x3 ≤ 2147483647) (g4 : -2147483648 ≤ x4 ∧ x4 ≤ 2147483647) : fx_VC (fx_Mx X) 175 [x1, x2, x3, x4] S (fx_p175.getD 0 ([], .inl (0, 0))) := fx_VCR_ok (show fx_VCR (fx_Mx X) 175 [x1, x2, x3, x4] S _ from q175_0 S x1 x2 x3 x4 hS g1 g2 g3 g4)
set_option maxRecDepth 40000 in
theorem w175 (X : (Int → Int) × Int) (zs : List Int) (S : fx_S) (hS : fx_Sok S) (hz : zs.length = (fx_lv0 fx_t175.2.2.1 0).2) (rz : fx_rz fx_t175 zs S) : ∀ p ∈ fx_p175, fx_VC (fx_Mx X) 175 zs S p := by
  obtain ⟨x1, x2, x3, x4, rfl⟩ := fx_len4 hz
  have g1 : -2147483648 ≤ x1 ∧ x1 ≤ 2147483647 := rz 1 _ rfl
  have g2 : -2147483648 ≤ x2 ∧ x2 ≤ 2147483647 := rz 2 _ rfl
  have g3 : -2147483648 ≤ x3 ∧ x3 ≤ 2147483647 := rz 3 _ rfl
  have g4 : -2147483648 ≤ x4 ∧ x4 ≤ 2147483647 := rz 4 _ rfl
  exact List.forall_mem_cons.mpr ⟨(u175_0 X S x1 x2 x3 x4 hS g1 g2 g3 g4), fun _ h => absurd h List.not_mem_nil⟩
set_option maxRecDepth 40000 in
theorem u176_0 (X : (Int → Int) × Int) (S : fx_S) (x2 x3 x4 x5 x6 : Int) (hS : fx_Sok S) (g2 : -2147483648 ≤ x2 ∧ x2 ≤ 2147483647) (g3 : -2147483648 ≤ x3 ∧ x3 ≤ 2147483647) (g4 : -2147483648 ≤ x4 ∧ x4 ≤ 2147483647) (g5 : -2147483648 ≤ x5 ∧ x5 ≤ 2147483647) (g6 : -2147483648 ≤ x6 ∧ x6 ≤ 2147483647) : fx_VC (fx_Mx X) 176 [x2, x3, x4, x5, x6] S (fx_p176.getD 0 ([], .inl (0, 0))) := fx_VCR_ok (show fx_VCR (fx_Mx X) 176 [x2, x3, x4, x5, x6] S _ from q176_0 S x2 x3 x4 x5 x6 hS g2 g3 g4 g5 g6)
set_option maxRecDepth 40000 in
theorem u176_1 (X : (Int → Int) × Int) (S : fx_S) (x2 x3 x4 x5 x6 : Int) (hS : fx_Sok S) (g2 : -2147483648 ≤ x2 ∧ x2 ≤ 2147483647) (g3 : -2147483648 ≤ x3 ∧ x3 ≤ 2147483647) (g4 : -2147483648 ≤ x4 ∧ x4 ≤ 2147483647) (g5 : -2147483648 ≤ x5 ∧ x5 ≤ 2147483647) (g6 : -2147483648 ≤ x6 ∧ x6 ≤ 2147483647) : fx_VC (fx_Mx X) 176 [x2, x3, x4, x5, x6] S (fx_p176.getD 1 ([], .inl (0, 0))) := fx_VCR_ok (show fx_VCR (fx_Mx X) 176 [x2, x3, x4, x5, x6] S _ from q176_1 S x2 x3 x4 x5 x6 hS g2 g3 g4 g5 g6)
set_option maxRecDepth 40000 in
theorem u176_2 (X : (Int → Int) × Int) (S : fx_S) (x2 x3 x4 x5 x6 : Int) (hS : fx_Sok S) (g2 : -2147483648 ≤ x2 ∧ x2 ≤ 2147483647) (g3 : -2147483648 ≤ x3 ∧ x3 ≤ 2147483647) (g4 : -2147483648 ≤ x4 ∧ x4 ≤ 2147483647) (g5 : -2147483648 ≤ x5 ∧ x5 ≤ 2147483647) (g6 : -2147483648 ≤ x6 ∧ x6 ≤ 2147483647) : fx_VC (fx_Mx X) 176 [x2, x3, x4, x5, x6] S (fx_p176.getD 2 ([], .inl (0, 0))) := fx_VCR_ok (show fx_VCR (fx_Mx X) 176 [x2, x3, x4, x5, x6] S _ from q176_2 S x2 x3 x4 x5 x6 hS g2 g3 g4 g5 g6)
set_option maxRecDepth 40000 in
theorem u176_3 (X : (Int → Int) × Int) (S : fx_S) (x2 x3 x4 x5 x6 : Int) (hS : fx_Sok S) (g2 : -2147483648 ≤ x2 ∧ x2 ≤ 2147483647) (g3 : -2147483648 ≤ x3 ∧ x3 ≤ 2147483647) (g4 : -2147483648 ≤ x4 ∧ x4 ≤ 2147483647) (g5 : -2147483648 ≤ x5 ∧ x5 ≤ 2147483647) (g6 : -2147483648 ≤ x6 ∧ x6 ≤ 2147483647) : fx_VC (fx_Mx X) 176 [x2, x3, x4, x5, x6] S (fx_p176.getD 3 ([], .inl (0, 0))) := fx_VCR_ok (show fx_VCR (fx_Mx X) 176 [x2, x3, x4, x5, x6] S _ from q176_3 S x2 x3 x4 x5 x6 hS g2 g3 g4 g5 g6)
set_option maxRecDepth 40000 in
theorem u176_4 (X : (Int → Int) × Int) (S : fx_S) (x2 x3 x4 x5 x6 : Int) (hS : fx_Sok S) (g2 : -2147483648 ≤ x2 ∧ x2 ≤ 2147483647) (g3 : -2147483648 ≤ x3 ∧ x3 ≤ 2147483647) (g4 : -2147483648 ≤ x4 ∧ x4 ≤ 2147483647) (g5 : -2147483648 ≤ x5 ∧ x5 ≤ 2147483647) (g6 : -2147483648 ≤ x6 ∧ x6 ≤ 2147483647) : fx_VC (fx_Mx X) 176 [x2, x3, x4, x5, x6] S (fx_p176.getD 4 ([], .inl (0, 0))) := fx_VCR_ok (show fx_VCR (fx_Mx X) 176 [x2, x3, x4, x5, x6] S _ from q176_4 S x2 x3 x4 x5 x6 hS g2 g3 g4 g5 g6)
set_option maxRecDepth 40000 in
theorem u176_5 (X : (Int → Int) × Int) (S : fx_S) (x2 x3 x4 x5 x6 : Int) (hS : fx_Sok S) (g2 : -2147483648 ≤ x2 ∧ x2 ≤ 2147483647) (g3 : -2147483648 ≤ x3 ∧ x3 ≤ 2147483647) (g4 : -2147483648 ≤ x4 ∧ x4 ≤ 2147483647) (g5 : -2147483648 ≤ x5 ∧ x5 ≤ 2147483647) (g6 : -2147483648 ≤ x6 ∧ x6 ≤ 2147483647) : fx_VC (fx_Mx X) 176 [x2, x3, x4, x5, x6] S (fx_p176.getD 5 ([], .inl (0, 0))) := fx_VCR_ok (show fx_VCR (fx_Mx X) 176 [x2, x3, x4, x5, x6] S _ from q176_5 S x2 x3 x4 x5 x6 hS g2 g3 g4 g5 g6)
set_option maxRecDepth 40000 in
theorem u176_6 (X : (Int → Int) × Int) (S : fx_S) (x2 x3 x4 x5 x6 : Int) (hS : fx_Sok S) (g2 : -2147483648 ≤ x2 ∧ x2 ≤ 2147483647) (g3 : -2147483648 ≤ x3 ∧ x3 ≤ 2147483647) (g4 : -2147483648 ≤ x4 ∧ x4 ≤ 2147483647) (g5 : -2147483648 ≤ x5 ∧ x5 ≤ 2147483647) (g6 : -2147483648 ≤ x6 ∧ x6 ≤ 2147483647) : fx_VC (fx_Mx X) 176 [x2, x3, x4, x5, x6] S (fx_p176.getD 6 ([], .inl (0, 0))) := fx_VCR_ok (show fx_VCR (fx_Mx X) 176 [x2, x3, x4, x5, x6] S _ from q176_6 S x2 x3 x4 x5 x6 hS g2 g3 g4 g5 g6)
set_option maxRecDepth 40000 in
theorem u176_7 (X : (Int → Int) × Int) (S : fx_S) (x2 x3 x4 x5 x6 : Int) (hS : fx_Sok S) (g2 : -2147483648 ≤ x2 ∧ x2 ≤ 2147483647) (g3 : -2147483648 ≤ x3 ∧ x3 ≤ 2147483647) (g4 : -2147483648 ≤ x4 ∧ x4 ≤ 2147483647) (g5 : -2147483648 ≤ x5 ∧ x5 ≤ 2147483647) (g6 : -2147483648 ≤ x6 ∧ x6 ≤ 2147483647) : fx_VC (fx_Mx X) 176 [x2, x3, x4, x5, x6] S (fx_p176.getD 7 ([], .inl (0, 0))) := fx_VCR_ok (show fx_VCR (fx_Mx X) 176 [x2, x3, x4, x5, x6] S _ from q176_7 S x2 x3 x4 x5 x6 hS g2 g3 g4 g5 g6)
set_option maxRecDepth 40000 in
theorem u176_8 (X : (Int → Int) × Int) (S : fx_S) (x2 x3 x4 x5 x6 : Int) (hS : fx_Sok S) (g2 : -2147483648 ≤ x2 ∧ x2 ≤ 2147483647) (g3 : -2147483648 ≤ x3 ∧ x3 ≤ 2147483647) (g4 : -2147483648 ≤ x4 ∧ x4 ≤ 2147483647) (g5 : -2147483648 ≤ x5 ∧ x5 ≤ 2147483647) (g6 : -2147483648 ≤ x6 ∧ x6 ≤ 2147483647) : fx_VC (fx_Mx X) 176 [x2, x3, x4, x5, x6] S (fx_p176.getD 8 ([], .inl (0, 0))) := fx_VCR_ok (show fx_VCR (fx_Mx X) 176 [x2, x3, x4, x5, x6] S _ from q176_8 S x2 x3 x4 x5 x6 hS g2 g3 g4 g5 g6)
set_option maxRecDepth 40000 in
theorem u176_9 (X : (Int → Int) × Int) (S : fx_S) (x2 x3 x4 x5 x6 : Int) (hS : fx_Sok S) (g2 : -2147483648 ≤ x2 ∧ x2 ≤ 2147483647) (g3 : -2147483648 ≤ x3 ∧ x3 ≤ 2147483647) (g4 : -2147483648 ≤ x4 ∧ x4 ≤ 2147483647) (g5 : -2147483648 ≤ x5 ∧ x5 ≤ 2147483647) (g6 : -2147483648 ≤ x6 ∧ x6 ≤ 2147483647) : fx_VC (fx_Mx X) 176 [x2, x3, x4, x5, x6] S (fx_p176.getD 9 ([], .inl (0, 0))) := fx_VCR_ok (show fx_VCR (fx_Mx X) 176 [x2, x3, x4, x5, x6] S _ from q176_9 S x2 x3 x4 x5 x6 hS g2 g3 g4 g5 g6)
set_option maxRecDepth 40000 in
theorem u176_10 (X : (Int → Int) × Int) (S : fx_S) (x2 x3 x4 x5 x6 : Int) (hS : fx_Sok S) (g2 : -2147483648 ≤ x2 ∧ x2 ≤ 2147483647) (g3 : -2147483648 ≤ x3 ∧ x3 ≤ 2147483647) (g4 : -2147483648 ≤ x4 ∧ x4 ≤ 2147483647) (g5 : -2147483648 ≤ x5 ∧ x5 ≤ 2147483647) (g6 : -2147483648 ≤ x6 ∧ x6 ≤ 2147483647) : fx_VC (fx_Mx X) 176 [x2, x3, x4, x5, x6] S (fx_p176.getD 10 ([], .inl (0, 0))) := fx_VCR_ok (show fx_VCR (fx_Mx X) 176 [x2, x3, x4, x5, x6] S _ from q176_10 S x2 x3 x4 x5 x6 hS g2 g3 g4 g5 g6)
set_option maxRecDepth 40000 in
theorem u176_11 (X : (Int → Int) × Int) (S : fx_S) (x2 x3 x4 x5 x6 : Int) (hS : fx_Sok S) (g2 : -2147483648 ≤ x2 ∧ x2 ≤ 2147483647) (g3 : -2147483648 ≤ x3 ∧ x3 ≤ 2147483647) (g4 : -2147483648 ≤ x4 ∧ x4 ≤ 2147483647) (g5 : -2147483648 ≤ x5 ∧ x5 ≤ 2147483647) (g6 : -2147483648 ≤ x6 ∧ x6 ≤ 2147483647) : fx_VC (fx_Mx X) 176 [x2, x3, x4, x5, x6] S (fx_p176.getD 11 ([], .inl (0, 0))) := fx_VCR_ok (show fx_VCR (fx_Mx X) 176 [x2, x3, x4, x5, x6] S _ from q176_11 S x2 x3 x4 x5 x6 hS g2 g3 g4 g5 g6)
set_option maxRecDepth 40000 in
theorem u176_12 (X : (Int → Int) × Int) (S : fx_S) (x2 x3 x4 x5 x6 : Int) (hS : fx_Sok S) (g2 : -2147483648 ≤ x2 ∧ x2 ≤ 2147483647) (g3 : -2147483648 ≤ x3 ∧ x3 ≤ 2147483647) (g4 : -2147483648 ≤ x4 ∧ x4 ≤ 2147483647) (g5 : -2147483648 ≤ x5 ∧ x5 ≤ 2147483647) (g6 : -2147483648 ≤ x6 ∧ x6 ≤ 2147483647) : fx_VC (fx_Mx X) 176 [x2, x3, x4, x5, x6] S (fx_p176.getD 12 ([], .inl (0, 0))) := fx_VCR_ok (show fx_VCR (fx_Mx X) 176 [x2, x3, x4, x5, x6] S _ from q176_12 S x2 x3 x4 x5 x6 hS g2 g3 g4 g5 g6)
set_option maxRecDepth 40000 in
theorem u176_13 (X : (Int → Int) × Int) (S : fx_S) (x2 x3 x4 x5 x6 : Int) (hS : fx_Sok S) (g2 : -2147483648 ≤ x2 ∧ x2 ≤ 2147483647) (g3 : -2147483648 ≤ x3 ∧ x3 ≤ 2147483647) (g4 : -2147483648 ≤ x4 ∧ x4 ≤ 2147483647) (g5 : -2147483648 ≤ x5 ∧ x5 ≤ 2147483647) (g6 : -2147483648 ≤ x6 ∧ x6 ≤ 2147483647) : fx_VC (fx_Mx X) 176 [x2, x3, x4, x5, x6] S (fx_p176.getD 13 ([], .inl (0, 0))) := fx_VCR_ok (show fx_VCR (fx_Mx X) 176 [x2, x3, x4, x5, x6] S _ from q176_13 S x2 x3 x4 x5 x6 hS g2 g3 g4 g5 g6)
set_option maxRecDepth 40000 in
theorem u176_14 (X : (Int → Int) × Int) (S : fx_S) (x2 x3 x4 x5 x6 : Int) (hS : fx_Sok S) (g2 : -2147483648 ≤ x2 ∧ x2 ≤ 2147483647) (g3 : -2147483648 ≤ x3 ∧ x3 ≤ 2147483647) (g4 : -2147483648 ≤ x4 ∧ x4 ≤ 2147483647) (g5 : -2147483648 ≤ x5 ∧ x5 ≤ 2147483647) (g6 : -2147483648 ≤ x6 ∧ x6 ≤ 2147483647) : fx_VC (fx_Mx X) 176 [x2, x3, x4, x5, x6] S (fx_p176.getD 14 ([], .inl (0, 0))) := fx_VCR_ok (show fx_VCR (fx_Mx X) 176 [x2, x3, x4, x5, x6] S _ from q176_14 S x2 x3 x4 x5 x6 hS g2 g3 g4 g5 g6)
set_option maxRecDepth 40000 in
theorem u176_15 (X : (Int → Int) × Int) (S : fx_S) (x2 x3 x4 x5 x6 : Int) (hS : fx_Sok S) (g2 : -2147483648 ≤ x2 ∧ x2 ≤ 2147483647) (g3 : -2147483648 ≤ x3 ∧ x3 ≤ 2147483647) (g4 : -2147483648 ≤ x4 ∧ x4 ≤ 2147483647) (g5 : -2147483648 ≤ x5 ∧ x5 ≤ 2147483647) (g6 : -2147483648 ≤ x6 ∧ x6 ≤ 2147483647) : fx_VC (fx_Mx X) 176 [x2, x3, x4, x5, x6] S (fx_p176.getD 15 ([], .inl (0, 0))) := fx_VCR_ok (show fx_VCR (fx_Mx X) 176 [x2, x3, x4, x5, x6] S _ from q176_15 S x2 x3 x4 x5 x6 hS g2 g3 g4 g5 g6)
set_option maxRecDepth 40000 in
theorem u176_16 (X : (Int → Int) × Int) (S : fx_S) (x2 x3 x4 x5 x6 : Int) (hS : fx_Sok S) (g2 : -2147483648 ≤ x2 ∧ x2 ≤ 2147483647) (g3 : -2147483648 ≤ x3 ∧ x3 ≤ 2147483647) (g4 : -2147483648 ≤ x4 ∧ x4 ≤ 2147483647) (g5 : -2147483648 ≤ x5 ∧ x5 ≤ 2147483647) (g6 : -2147483648 ≤ x6 ∧ x6 ≤ 2147483647) : fx_VC (fx_Mx X) 176 [x2, x3, x4, x5, x6] S (fx_p176.getD 16 ([], .inl (0, 0))) := fx_VCR_ok (show fx_VCR (fx_Mx X) 176 [x2, x3, x4, x5, x6] S _ from q176_16 S x2 x3 x4 x5 x6 hS g2 g3 g4 g5 g6)
set_option maxRecDepth 40000 in
theorem u176_17 (X : (Int → Int) × Int) (S : fx_S) (x2 x3 x4 x5 x6 : Int) (hS : fx_Sok S) (g2 : -2147483648 ≤ x2 ∧ x2 ≤ 2147483647) (g3 : -2147483648 ≤ x3 ∧ x3 ≤ 2147483647) (g4 : -2147483648 ≤ x4 ∧ x4 ≤ 2147483647) (g5 : -2147483648 ≤ x5 ∧ x5 ≤ 2147483647) (g6 : -2147483648 ≤ x6 ∧ x6 ≤ 2147483647) : fx_VC (fx_Mx X) 176 [x2, x3, x4, x5, x6] S (fx_p176.getD 17 ([], .inl (0, 0))) := fx_VCR_ok (show fx_VCR (fx_Mx X) 176 [x2, x3, x4, x5, x6] S _ from q176_17 S x2 x3 x4 x5 x6 hS g2 g3 g4 g5 g6)
set_option maxRecDepth 40000 in
theorem w176 (X : (Int → Int) × Int) (zs : List Int) (S : fx_S) (hS : fx_Sok S) (hz : zs.length = (fx_lv0 fx_t176.2.2.1 0).2) (rz : fx_rz fx_t176 zs S) : ∀ p ∈ fx_p176, fx_VC (fx_Mx X) 176 zs S p := by
  obtain ⟨x2, x3, x4, x5, x6, rfl⟩ := fx_len5 hz
  have g2 : -2147483648 ≤ x2 ∧ x2 ≤ 2147483647 := rz 2 _ rfl
  have g3 : -2147483648 ≤ x3 ∧ x3 ≤ 2147483647 := rz 3 _ rfl
  have g4 : -2147483648 ≤ x4 ∧ x4 ≤ 2147483647 := rz 4 _ rfl
  have g5 : -2147483648 ≤ x5 ∧ x5 ≤ 2147483647 := rz 5 _ rfl
  have g6 : -2147483648 ≤ x6 ∧ x6 ≤ 2147483647 := rz 6 _ rfl
  exact List.forall_mem_cons.mpr ⟨(u176_0 X S x2 x3 x4 x5 x6 hS g2 g3 g4 g5 g6), List.forall_mem_cons.mpr ⟨(u176_1 X S x2 x3 x4 x5 x6 hS g2 g3 g4 g5 g6), List.forall_mem_cons.mpr ⟨(u176_2 X S x2 x3 x4 x5 x6 hS g2 g3 g4 g5 g6), List.forall_mem_cons.mpr ⟨(u176_3 X S x2 x3 x4 x5 x6 hS g2 g3 g4 g5 g6), List.forall_mem_cons.mpr ⟨(u176_4 X S x2 x3 x4 x5 x6 hS g2 g3 g4 g5 g6), List.forall_mem_cons.mpr ⟨(u176_5 X S x2 x3 x4 x5 x6 hS g2 g3 g4 g5 g6), List.forall_mem_cons.mpr ⟨(u176_6 X S x2 x3 x4 x5 x6 hS g2 g3 g4 g5 g6), List.forall_mem_cons.mpr ⟨(u176_7 X S x2 x3 x4 x5 x6 hS g2 g3 g4 g5 g6), List.forall_mem_cons.mpr ⟨(u176_8 X S x2 x3 x4 x5 x6 hS g2 g3 g4 g5 g6), List.forall_mem_cons.mpr ⟨(u176_9 X S x2 x3 x4 x5 x6 hS g2 g3 g4 g5 g6), List.forall_mem_cons.mpr ⟨(u176_10 X S x2 x3 x4 x5 x6 hS g2 g3 g4 g5 g6), List.forall_mem_cons.mpr ⟨(u176_11 X S x2 x3 x4 x5 x6 hS g2 g3 g4 g5 g6), List.forall_mem_cons.mpr ⟨(u176_12 X S x2 x3 x4 x5 x6 hS g2 g3 g4 g5 g6), List.forall_mem_cons.mpr ⟨(u176_13 X S x2 x3 x4 x5 x6 hS g2 g3 g4 g5 g6), List.forall_mem_cons.mpr ⟨(u176_14 X S x2 x3 x4 x5 x6 hS g2 g3 g4 g5 g6), List.forall_mem_cons.mpr ⟨(u176_15 X S x2 x3 x4 x5 x6 hS g2 g3 g4 g5 g6), List.forall_mem_cons.mpr ⟨(u176_16 X S x2 x3 x4 x5 x6 hS g2 g3 g4 g5 g6), List.forall_mem_cons.mpr ⟨(u176_17 X S x2 x3 x4 x5 x6 hS g2 g3 g4 g5 g6), fun _ h => absurd h List.not_mem_nil⟩⟩⟩⟩⟩⟩⟩⟩⟩⟩⟩⟩⟩⟩⟩⟩⟩⟩
set_option maxRecDepth 40000 in
theorem u177_0 (X : (Int → Int) × Int) (S : fx_S) (x1 : Int) (hS : fx_Sok S) (g1 : -2147483648 ≤ x1 ∧ x1 ≤ 2147483647) : fx_VC (fx_Mx X) 177 [x1] S (fx_p177.getD 0 ([], .inl (0, 0))) := fx_VCR_ok (show fx_VCR (fx_Mx X) 177 [x1] S _ from q177_0 S x1 hS g1)
set_option maxRecDepth 40000 in
theorem w177 (X : (Int → Int) × Int) (zs : List Int) (S : fx_S) (hS : fx_Sok S) (hz : zs.length = (fx_lv0 fx_t177.2.2.1 0).2) (rz : fx_rz fx_t177 zs S) : ∀ p ∈ fx_p177, fx_VC (fx_Mx X) 177 zs S p := by
  obtain ⟨x1, rfl⟩ := fx_len1 hz
  have g1 : -2147483648 ≤ x1 ∧ x1 ≤ 2147483647 := rz 1 _ rfl
  exact List.forall_mem_cons.mpr ⟨(u177_0 X S x1 hS g1), fun _ h => absurd h List.not_mem_nil⟩
set_option maxRecDepth 40000 in
theorem u178_0 (X : (Int → Int) × Int) (S : fx_S) (x3 x4 : Int) (hS : fx_Sok S) (g3 : -2147483648 ≤ x3 ∧ x3 ≤ 2147483647) (g4 : -2147483648 ≤ x4 ∧ x4 ≤ 2147483647) : fx_VC (fx_Mx X) 178 [x3, x4] S (fx_p178.getD 0 ([], .inl (0, 0))) := fx_VCR_ok (show fx_VCR (fx_Mx X) 178 [x3, x4] S _ from q178_0 S x3 x4 hS g3 g4)
set_option maxRecDepth 40000 in
theorem u178_1 (X : (Int → Int) × Int) (S : fx_S) (x3 x4 : Int) (hS : fx_Sok S) (g3 : -2147483648 ≤ x3 ∧ x3 ≤ 2147483647) (g4 : -2147483648 ≤ x4 ∧ x4 ≤ 2147483647) : fx_VC (fx_Mx X) 178 [x3, x4] S (fx_p178.getD 1 ([], .inl (0, 0))) := fx_VCR_ok (show fx_VCR (fx_Mx X) 178 [x3, x4] S _ from q178_1 S x3 x4 hS g3 g4)
set_option maxRecDepth 40000 in
theorem w178 (X : (Int → Int) × Int) (zs : List Int) (S : fx_S) (hS : fx_Sok S) (hz : zs.length = (fx_lv0 fx_t178.2.2.1 0).2) (rz : fx_rz fx_t178 zs S) : ∀ p ∈ fx_p178, fx_VC (fx_Mx X) 178 zs S p := by
  obtain ⟨x3, x4, rfl⟩ := fx_len2 hz
  have g3 : -2147483648 ≤ x3 ∧ x3 ≤ 2147483647 := rz 3 _ rfl
  have g4 : -2147483648 ≤ x4 ∧ x4 ≤ 2147483647 := rz 4 _ rfl
  exact List.forall_mem_cons.mpr ⟨(u178_0 X S x3 x4 hS g3 g4), List.forall_mem_cons.mpr ⟨(u178_1 X S x3 x4 hS g3 g4), fun _ h => absurd h List.not_mem_nil⟩⟩
set_option maxRecDepth 40000 in
theorem u179_0 (X : (Int → Int) × Int) (S : fx_S) (hS : fx_Sok S) : fx_VC (fx_Mx X) 179 [] S (fx_p179.getD 0 ([], .inl (0, 0))) := fx_VCR_ok (show fx_VCR (fx_Mx X) 179 [] S _ from q179_0 S hS)
set_option maxRecDepth 40000 in
theorem w179 (X : (Int → Int) × Int) (zs : List Int) (S : fx_S) (hS : fx_Sok S) (hz : zs.length = (fx_lv0 fx_t179.2.2.1 0).2) (rz : fx_rz fx_t179 zs S) : ∀ p ∈ fx_p179, fx_VC (fx_Mx X) 179 zs S p := by
  obtain rfl := List.eq_nil_of_length_eq_zero hz
  exact List.forall_mem_cons.mpr ⟨(u179_0 X S hS), fun _ h => absurd h List.not_mem_nil⟩
set_option maxRecDepth 40000 in
theorem u180_0 (X : (Int → Int) × Int) (S : fx_S) (x1 : Int) (hS : fx_Sok S) (g1 : -2147483648 ≤ x1 ∧ x1 ≤ 2147483647) : fx_VC (fx_Mx X) 180 [x1] S (fx_p180.getD 0 ([], .inl (0, 0))) := fx_VCR_ok (show fx_VCR (fx_Mx X) 180 [x1] S _ from q180_0 S x1 hS g1)
set_option maxRecDepth 40000 in
theorem w180 (X : (Int → Int) × Int) (zs : List Int) (S : fx_S) (hS : fx_Sok S) (hz : zs.length = (fx_lv0 fx_t180.2.2.1 0).2) (rz : fx_rz fx_t180 zs S) : ∀ p ∈ fx_p180, fx_VC (fx_Mx X) 180 zs S p := by
  obtain ⟨x1, rfl⟩ := fx_len1 hz
  have g1 : -2147483648 ≤ x1 ∧ x1 ≤ 2147483647 := rz 1 _ rfl
  exact List.forall_mem_cons.mpr ⟨(u180_0 X S x1 hS g1), fun _ h => absurd h List.not_mem_nil⟩
set_option maxRecDepth 40000 in
theorem u181_0 (X : (Int → Int) × Int) (S : fx_S) (x1 x2 : Int) (hS : fx_Sok S) (g1 : -2147483648 ≤ x1 ∧ x1 ≤ 2147483647) (g2 : -2147483648 ≤ x2 ∧ x2 ≤ 2147483647) : fx_VC (fx_Mx X) 181 [x1, x2] S (fx_p181.getD 0 ([], .inl (0, 0))) := fx_VCR_ok (show fx_VCR (fx_Mx X) 181 [x1, x2] S _ from q181_0 S x1 x2 hS g1 g2)
set_option maxRecDepth 40000 in
theorem w181 (X : (Int → Int) × Int) (zs : List Int) (S : fx_S) (hS : fx_Sok S) (hz : zs.length = (fx_lv0 fx_t181.2.2.1 0).2) (rz : fx_rz fx_t181 zs S) : ∀ p ∈ fx_p181, fx_VC (fx_Mx X) 181 zs S p := by
  obtain ⟨x1, x2, rfl⟩ := fx_len2 hz
  have g1 : -2147483648 ≤ x1 ∧ x1 ≤ 2147483647 := rz 1 _ rfl
  have g2 : -2147483648 ≤ x2 ∧ x2 ≤ 2147483647 := rz 2 _ rfl
  exact List.forall_mem_cons.mpr ⟨(u181_0 X S x1 x2 hS g1 g2), fun _ h => absurd h List.not_mem_nil⟩
set_option maxRecDepth 40000 in
theorem u182_0 (X : (Int → Int) × Int) (S : fx_S) (x1 : Int) (hS : fx_Sok S) (g1 : -2147483648 ≤ x1 ∧ x1 ≤ 2147483647) : fx_VC (fx_Mx X) 182 [x1] S (fx_p182.getD 0 ([], .inl (0, 0))) := fx_VCR_ok (show fx_VCR (fx_Mx X) 182 [x1] S _ from q182_0 S x1 hS g1)
set_option maxRecDepth 40000 in
theorem w182 (X : (Int → Int) × Int) (zs : List Int) (S : fx_S) (hS : fx_Sok S) (hz : zs.length = (fx_lv0 fx_t182.2.2.1 0).2) (rz : fx_rz fx_t182 zs S) : ∀ p ∈ fx_p182, fx_VC (fx_Mx X) 182 zs S p := by
  obtain ⟨x1, rfl⟩ := fx_len1 hz
  have g1 : -2147483648 ≤ x1 ∧ x1 ≤ 2147483647 := rz 1 _ rfl
  exact List.forall_mem_cons.mpr ⟨(u182_0 X S x1 hS g1), fun _ h => absurd h List.not_mem_nil⟩
set_option maxRecDepth 40000 in
theorem u183_0 (X : (Int → Int) × Int) (S : fx_S) (x1 x2 : Int) (hS : fx_Sok S) (g1 : -2147483648 ≤ x1 ∧ x1 ≤ 2147483647) (g2 : -2147483648 ≤ x2 ∧ x2 ≤ 2147483647) : fx_VC (fx_Mx X) 183 [x1, x2] S (fx_p183.getD 0 ([], .inl (0, 0))) := fx_VCR_ok (show fx_VCR (fx_Mx X) 183 [x1, x2] S _ from q183_0 S x1 x2 hS g1 g2)
set_option maxRecDepth 40000 in
theorem w183 (X : (Int → Int) × Int) (zs : List Int) (S : fx_S) (hS : fx_Sok S) (hz : zs.length = (fx_lv0 fx_t183.2.2.1 0).2) (rz : fx_rz fx_t183 zs S) : ∀ p ∈ fx_p183, fx_VC (fx_Mx X) 183 zs S p := by
  obtain ⟨x1, x2, rfl⟩ := fx_len2 hz
  have g1 : -2147483648 ≤ x1 ∧ x1 ≤ 2147483647 := rz 1 _ rfl
  have g2 : -2147483648 ≤ x2 ∧ x2 ≤ 2147483647 := rz 2 _ rfl
  exact List.forall_mem_cons.mpr ⟨(u183_0 X S x1 x2 hS g1 g2), fun _ h => absurd h List.not_mem_nil⟩
set_option maxRecDepth 40000 in
theorem u184_0 (X : (Int → Int) × Int) (S : fx_S) (x1 x3 x4 : Int) (hS : fx_Sok S) (g1 : -2147483648 ≤ x1 ∧ x1 ≤ 2147483647) (g3 : -2147483648 ≤ x3 ∧ x3 ≤ 2147483647) (g4 : -2147483648 ≤ x4 ∧ x4 ≤ 2147483647) : fx_VC (fx_Mx X) 184 [x1, x3, x4] S (fx_p184.getD 0 ([], .inl (0, 0))) := fx_VCR_ok (show fx_VCR (fx_Mx X) 184 [x1, x3, x4] S _ from q184_0 S x1 x3 x4 hS g1 g3 g4)
set_option maxRecDepth 40000 in
theorem u184_1 (X : (Int → Int) × Int) (S : fx_S) (x1 x3 x4 : Int) (hS : fx_Sok S) (g1 : -2147483648 ≤ x1 ∧ x1 ≤ 2147483647) (g3 : -2147483648 ≤ x3 ∧ x3 ≤ 2147483647) (g4 : -2147483648 ≤ x4 ∧ x4 ≤ 2147483647) : fx_VC (fx_Mx X) 184 [x1, x3, x4] S (fx_p184.getD 1 ([], .inl (0, 0))) := fx_VCR_ok (show fx_VCR (fx_Mx X) 184 [x1, x3, x4] S _ from q184_1 S x1 x3 x4 hS g1 g3 g4)
set_option maxRecDepth 40000 in
theorem u184_2 (X : (Int → Int) × Int) (S : fx_S) (x1 x3 x4 : Int) (hS : fx_Sok S) (g1 : -2147483648 ≤ x1 ∧ x1 ≤ 2147483647) (g3 : -2147483648 ≤ x3 ∧ x3 ≤ 2147483647) (g4 : -2147483648 ≤ x4 ∧ x4 ≤ 2147483647) : fx_VC (fx_Mx X) 184 [x1, x3, x4] S (fx_p184.getD 2 ([], .inl (0, 0))) := fx_VCR_ok (show fx_VCR (fx_Mx X) 184 [x1, x3, x4] S _ from q184_2 S x1 x3 x4 hS g1 g3 g4)
set_option maxRecDepth 40000 in
theorem u184_3 (X : (Int → Int) × Int) (S : fx_S) (x1 x3 x4 : Int) (hS : fx_Sok S) (g1 : -2147483648 ≤ x1 ∧ x1 ≤ 2147483647) (g3 : -2147483648 ≤ x3 ∧ x3 ≤ 2147483647) (g4 : -2147483648 ≤ x4 ∧ x4 ≤ 2147483647) : fx_VC (fx_Mx X) 184 [x1, x3, x4] S (fx_p184.getD 3 ([], .inl (0, 0))) := fx_VCR_ok (show fx_VCR (fx_Mx X) 184 [x1, x3, x4] S _ from q184_3 S x1 x3 x4 hS g1 g3 g4)
set_option maxRecDepth 40000 in
theorem w184 (X : (Int → Int) × Int) (zs : List Int) (S : fx_S) (hS : fx_Sok S) (hz : zs.length = (fx_lv0 fx_t184.2.2.1 0).2) (rz : fx_rz fx_t184 zs S) : ∀ p ∈ fx_p184, fx_VC (fx_Mx X) 184 zs S p := by
  obtain ⟨x1, x3, x4, rfl⟩ := fx_len3 hz
  have g1 : -2147483648 ≤ x1 ∧ x1 ≤ 2147483647 := rz 1 _ rfl
  have g3 : -2147483648 ≤ x3 ∧ x3 ≤ 2147483647 := rz 3 _ rfl
  have g4 : -2147483648 ≤ x4 ∧ x4 ≤ 2147483647 := rz 4 _ rfl
  exact List.forall_mem_cons.mpr ⟨(u184_0 X S x1 x3 x4 hS g1 g3 g4), List.forall_mem_cons.mpr ⟨(u184_1 X S x1 x3 x4 hS g1 g3 g4), List.forall_mem_cons.mpr ⟨(u184_2 X S x1 x3 x4 hS g1 g3 g4), List.forall_mem_cons.mpr ⟨(u184_3 X S x1 x3 x4 hS g1 g3 g4), fun _ h => absurd h List.not_mem_nil⟩⟩⟩⟩
set_option maxRecDepth 40000 in
theorem u185_0 (X : (Int → Int) × Int) (S : fx_S) (x1 x3 : Int) (hS : fx_Sok S) (g1 : -2147483648 ≤ x1 ∧ x1 ≤ 2147483647) (g3 : -2147483648 ≤ x3 ∧ x3 ≤ 2147483647) : fx_VC (fx_Mx X) 185 [x1, x3] S (fx_p185.getD 0 ([], .inl (0, 0))) := fx_VCR_ok (show fx_VCR (fx_Mx X) 185 [x1, x3] S _ from q185_0 S x1 x3 hS g1 g3)
set_option maxRecDepth 40000 in
theorem u185_1 (X : (Int → Int) × Int) (S : fx_S) (x1 x3 : Int) (hS : fx_Sok S) (g1 : -2147483648 ≤ x1 ∧ x1 ≤ 2147483647) (g3 : -2147483648 ≤ x3 ∧ x3 ≤ 2147483647) : fx_VC (fx_Mx X) 185 [x1, x3] S (fx_p185.getD 1 ([], .inl (0, 0))) := fx_VCR_ok (show fx_VCR (fx_Mx X) 185 [x1, x3] S _ from q185_1 S x1 x3 hS g1 g3)
set_option maxRecDepth 40000 in
theorem u185_2 (X : (Int → Int) × Int) (S : fx_S) (x1 x3 : Int) (hS : fx_Sok S) (g1 : -2147483648 ≤ x1 ∧ x1 ≤ 2147483647) (g3 : -2147483648 ≤ x3 ∧ x3 ≤ 2147483647) : fx_VC (fx_Mx X) 185 [x1, x3] S (fx_p185.getD 2 ([], .inl (0, 0))) := fx_VCR_ok (show fx_VCR (fx_Mx X) 185 [x1, x3] S _ from q185_2 S x1 x3 hS g1 g3)
set_option maxRecDepth 40000 in
theorem w185 (X : (Int → Int) × Int) (zs : List Int) (S : fx_S) (hS : fx_Sok S) (hz : zs.length = (fx_lv0 fx_t185.2.2.1 0).2) (rz : fx_rz fx_t185 zs S) : ∀ p ∈ fx_p185, fx_VC (fx_Mx X) 185 zs S p := by
  obtain ⟨x1, x3, rfl⟩ := fx_len2 hz
  have g1 : -2147483648 ≤ x1 ∧ x1 ≤ 2147483647 := rz 1 _ rfl
  have g3 : -2147483648 ≤ x3 ∧ x3 ≤ 2147483647 := rz 3 _ rfl
  exact List.forall_mem_cons.mpr ⟨(u185_0 X S x1 x3 hS g1 g3), List.forall_mem_cons.mpr ⟨(u185_1 X S x1 x3 hS g1 g3), List.forall_mem_cons.mpr ⟨(u185_2 X S x1 x3 hS g1 g3), fun _ h => absurd h List.not_mem_nil⟩⟩⟩
set_option maxRecDepth 40000 in
theorem u186_0 (X : (Int → Int) × Int) (S : fx_S) (x1 x2 x3 : Int) (hS : fx_Sok S) (g1 : -2147483648 ≤ x1 ∧ x1 ≤ 2147483647) (g2 : -2147483648 ≤ x2 ∧ x2 ≤ 2147483647) (g3 : -2147483648 ≤ x3 ∧ x3 ≤ 2147483647) : fx_VC (fx_Mx X) 186 [x1, x2, x3] S (fx_p186.getD 0 ([], .inl (0, 0))) := fx_VCR_ok (show fx_VCR (fx_Mx X) 186 [x1, x2, x3] S _ from q186_0 S x1 x2 x3 hS g1 g2 g3)
set_option maxRecDepth 40000 in
theorem u186_1 (X : (Int → Int) × Int) (S : fx_S) (x1 x2 x3 : Int) (hS : fx_Sok S) (g1 : -2147483648 ≤ x1 ∧ x1 ≤ 2147483647) (g2 : -2147483648 ≤ x2 ∧ x2 ≤ 2147483647) (g3 : -2147483648 ≤ x3 ∧ x3 ≤ 2147483647) : fx_VC (fx_Mx X) 186 [x1, x2, x3] S (fx_p186.getD 1 ([], .inl (0, 0))) := fx_VCR_ok (show fx_VCR (fx_Mx X) 186 [x1, x2, x3] S _ from q186_1 S x1 x2 x3 hS g1 g2 g3)
set_option maxRecDepth 40000 in
theorem w186 (X : (Int → Int) × Int) (zs : List Int) (S : fx_S) (hS : fx_Sok S) (hz : zs.length = (fx_lv0 fx_t186.2.2.1 0).2) (rz : fx_rz fx_t186 zs S) : ∀ p ∈ fx_p186, fx_VC (fx_Mx X) 186 zs S p := by
  obtain ⟨x1, x2, x3, rfl⟩ := fx_len3 hz
  have g1 : -2147483648 ≤ x1 ∧ x1 ≤ 2147483647 := rz 1 _ rfl
  have g2 : -2147483648 ≤ x2 ∧ x2 ≤ 2147483647 := rz 2 _ rfl
  have g3 : -2147483648 ≤ x3 ∧ x3 ≤ 2147483647 := rz 3 _ rfl
  exact List.forall_mem_cons.mpr ⟨(u186_0 X S x1 x2 x3 hS g1 g2 g3), List.forall_mem_cons.mpr ⟨(u186_1 X S x1 x2 x3 hS g1 g2 g3), fun _ h => absurd h List.not_mem_nil⟩⟩
set_option maxRecDepth 40000 in
theorem u187_0 (X : (Int → Int) × Int) (S : fx_S) (x1 : Int) (hS : fx_Sok S) (g1 : -2147483648 ≤ x1 ∧ x1 ≤ 2147483647) : fx_VC (fx_Mx X) 187 [x1] S (fx_p187.getD 0 ([], .inl (0, 0))) := fx_VCR_ok (show fx_VCR (fx_Mx X) 187 [x1] S _ from q187_0 S x1 hS g1)
