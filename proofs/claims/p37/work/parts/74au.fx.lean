/-! FX: the paths of the entries, all -/
set_option maxRecDepth 40000 in
theorem u328_1 (X : (Int → Int) × Int) (S : fx_S) (x1 x2 : Int) (hS : fx_Sok S) (g1 : -2147483648 ≤ x1 ∧ x1 ≤ 2147483647) (g2 : -2147483648 ≤ x2 ∧ x2 ≤ 2147483647) : fx_VC (fx_Mx X) 328 [x1, x2] S (fx_p328.getD 1 ([], .inl (0, 0))) := fx_VCR_ok (show fx_VCR (fx_Mx X) 328 [x1, x2] S _ from q328_1 S x1 x2 hS g1 g2)
set_option maxRecDepth 40000 in
theorem w328 (X : (Int → Int) × Int) (zs : List Int) (S : fx_S) (hS : fx_Sok S) (hz : zs.length = (fx_lv0 fx_t328.2.2.1 0).2) (rz : fx_rz fx_t328 zs S) : ∀ p ∈ fx_p328, fx_VC (fx_Mx X) 328 zs S p := by
  obtain ⟨x1, x2, rfl⟩ := fx_len2 hz
  have g1 : -2147483648 ≤ x1 ∧ x1 ≤ 2147483647 := rz 1 _ rfl
  have g2 : -2147483648 ≤ x2 ∧ x2 ≤ 2147483647 := rz 2 _ rfl
  exact List.forall_mem_cons.mpr ⟨(u328_0 X S x1 x2 hS g1 g2), List.forall_mem_cons.mpr ⟨(u328_1 X S x1 x2 hS g1 g2), fun _ h => absurd h List.not_mem_nil⟩⟩
set_option maxRecDepth 40000 in
theorem u329_0 (X : (Int → Int) × Int) (S : fx_S) (x1 x2 : Int) (hS : fx_Sok S) (g1 : -2147483648 ≤ x1 ∧ x1 ≤ 2147483647) (g2 : -2147483648 ≤ x2 ∧ x2 ≤ 2147483647) : fx_VC (fx_Mx X) 329 [x1, x2] S (fx_p329.getD 0 ([], .inl (0, 0))) := fx_VCR_ok (show fx_VCR (fx_Mx X) 329 [x1, x2] S _ from q329_0 S x1 x2 hS g1 g2)
set_option maxRecDepth 40000 in
theorem u329_1 (X : (Int → Int) × Int) (S : fx_S) (x1 x2 : Int) (hS : fx_Sok S) (g1 : -2147483648 ≤ x1 ∧ x1 ≤ 2147483647) (g2 : -2147483648 ≤ x2 ∧ x2 ≤ 2147483647) : fx_VC (fx_Mx X) 329 [x1, x2] S (fx_p329.getD 1 ([], .inl (0, 0))) := fx_VCR_ok (show fx_VCR (fx_Mx X) 329 [x1, x2] S _ from q329_1 S x1 x2 hS g1 g2)
set_option maxRecDepth 40000 in
theorem u329_2 (X : (Int → Int) × Int) (S : fx_S) (x1 x2 : Int) (hS : fx_Sok S) (g1 : -2147483648 ≤ x1 ∧ x1 ≤ 2147483647) (g2 : -2147483648 ≤ x2 ∧ x2 ≤ 2147483647) : fx_VC (fx_Mx X) 329 [x1, x2] S (fx_p329.getD 2 ([], .inl (0, 0))) := fx_VCR_ok (show fx_VCR (fx_Mx X) 329 [x1, x2] S _ from q329_2 S x1 x2 hS g1 g2)
set_option maxRecDepth 40000 in
theorem w329 (X : (Int → Int) × Int) (zs : List Int) (S : fx_S) (hS : fx_Sok S) (hz : zs.length = (fx_lv0 fx_t329.2.2.1 0).2) (rz : fx_rz fx_t329 zs S) : ∀ p ∈ fx_p329, fx_VC (fx_Mx X) 329 zs S p := by
  obtain ⟨x1, x2, rfl⟩ := fx_len2 hz
  have g1 : -2147483648 ≤ x1 ∧ x1 ≤ 2147483647 := rz 1 _ rfl
  have g2 : -2147483648 ≤ x2 ∧ x2 ≤ 2147483647 := rz 2 _ rfl
  exact List.forall_mem_cons.mpr ⟨(u329_0 X S x1 x2 hS g1 g2), List.forall_mem_cons.mpr ⟨(u329_1 X S x1 x2 hS g1 g2), List.forall_mem_cons.mpr ⟨(u329_2 X S x1 x2 hS g1 g2), fun _ h => absurd h List.not_mem_nil⟩⟩⟩
set_option maxRecDepth 40000 in
theorem u330_0 (X : (Int → Int) × Int) (S : fx_S) (x1 : Int) (hS : fx_Sok S) (g1 : -2147483648 ≤ x1 ∧ x1 ≤ 2147483647) : fx_VC (fx_Mx X) 330 [x1] S (fx_p330.getD 0 ([], .inl (0, 0))) := fx_VCR_ok (show fx_VCR (fx_Mx X) 330 [x1] S _ from q330_0 S x1 hS g1)
set_option maxRecDepth 40000 in
theorem w330 (X : (Int → Int) × Int) (zs : List Int) (S : fx_S) (hS : fx_Sok S) (hz : zs.length = (fx_lv0 fx_t330.2.2.1 0).2) (rz : fx_rz fx_t330 zs S) : ∀ p ∈ fx_p330, fx_VC (fx_Mx X) 330 zs S p := by
  obtain ⟨x1, rfl⟩ := fx_len1 hz
  have g1 : -2147483648 ≤ x1 ∧ x1 ≤ 2147483647 := rz 1 _ rfl
  exact List.forall_mem_cons.mpr ⟨(u330_0 X S x1 hS g1), fun _ h => absurd h List.not_mem_nil⟩
set_option maxRecDepth 40000 in
theorem u331_0 (X : (Int → Int) × Int) (S : fx_S) (x1 x2 x3 : Int) (hS : fx_Sok S) (g1 : -2147483648 ≤ x1 ∧ x1 ≤ 2147483647) (g2 : -2147483648 ≤ x2 ∧ x2 ≤ 2147483647) (g3 : -2147483648 ≤ x3 ∧ x3 ≤ 2147483647) : fx_VC (fx_Mx X) 331 [x1, x2, x3] S (fx_p331.getD 0 ([], .inl (0, 0))) := fx_VCR_ok (show fx_VCR (fx_Mx X) 331 [x1, x2, x3] S _ from q331_0 S x1 x2 x3 hS g1 g2 g3)
set_option maxRecDepth 40000 in
theorem u331_1 (X : (Int → Int) × Int) (S : fx_S) (x1 x2 x3 : Int) (hS : fx_Sok S) (g1 : -2147483648 ≤ x1 ∧ x1 ≤ 2147483647) (g2 : -2147483648 ≤ x2 ∧ x2 ≤ 2147483647) (g3 : -2147483648 ≤ x3 ∧ x3 ≤ 2147483647) : fx_VC (fx_Mx X) 331 [x1, x2, x3] S (fx_p331.getD 1 ([], .inl (0, 0))) := fx_VCR_ok (show fx_VCR (fx_Mx X) 331 [x1, x2, x3] S _ from q331_1 S x1 x2 x3 hS g1 g2 g3)
set_option maxRecDepth 40000 in
theorem w331 (X : (Int → Int) × Int) (zs : List Int) (S : fx_S) (hS : fx_Sok S) (hz : zs.length = (fx_lv0 fx_t331.2.2.1 0).2) (rz : fx_rz fx_t331 zs S) : ∀ p ∈ fx_p331, fx_VC (fx_Mx X) 331 zs S p := by
  obtain ⟨x1, x2, x3, rfl⟩ := fx_len3 hz
  have g1 : -2147483648 ≤ x1 ∧ x1 ≤ 2147483647 := rz 1 _ rfl
  have g2 : -2147483648 ≤ x2 ∧ x2 ≤ 2147483647 := rz 2 _ rfl
  have g3 : -2147483648 ≤ x3 ∧ x3 ≤ 2147483647 := rz 3 _ rfl
  exact List.forall_mem_cons.mpr ⟨(u331_0 X S x1 x2 x3 hS g1 g2 g3), List.forall_mem_cons.mpr ⟨(u331_1 X S x1 x2 x3 hS g1 g2 g3), fun _ h => absurd h List.not_mem_nil⟩⟩
set_option maxRecDepth 40000 in
theorem u332_0 (X : (Int → Int) × Int) (S : fx_S) (x1 : Int) (hS : fx_Sok S) (g1 : -2147483648 ≤ x1 ∧ x1 ≤ 2147483647) : fx_VC (fx_Mx X) 332 [x1] S (fx_p332.getD 0 ([], .inl (0, 0))) := fx_VCR_ok (show fx_VCR (fx_Mx X) 332 [x1] S _ from q332_0 S x1 hS g1)
set_option maxRecDepth 40000 in
theorem w332 (X : (Int → Int) × Int) (zs : List Int) (S : fx_S) (hS : fx_Sok S) (hz : zs.length = (fx_lv0 fx_t332.2.2.1 0).2) (rz : fx_rz fx_t332 zs S) : ∀ p ∈ fx_p332, fx_VC (fx_Mx X) 332 zs S p := by
  obtain ⟨x1, rfl⟩ := fx_len1 hz
  have g1 : -2147483648 ≤ x1 ∧ x1 ≤ 2147483647 := rz 1 _ rfl
  exact List.forall_mem_cons.mpr ⟨(u332_0 X S x1 hS g1), fun _ h => absurd h List.not_mem_nil⟩
set_option maxRecDepth 40000 in
theorem u333_0 (X : (Int → Int) × Int) (S : fx_S) (x1 : Int) (hS : fx_Sok S) (g1 : -2147483648 ≤ x1 ∧ x1 ≤ 2147483647) : fx_VC (fx_Mx X) 333 [x1] S (fx_p333.getD 0 ([], .inl (0, 0))) := fx_VCR_ok (show fx_VCR (fx_Mx X) 333 [x1] S _ from q333_0 S x1 hS g1)
set_option maxRecDepth 40000 in
theorem u333_1 (X : (Int → Int) × Int) (S : fx_S) (x1 : Int) (hS : fx_Sok S) (g1 : -2147483648 ≤ x1 ∧ x1 ≤ 2147483647) : fx_VC (fx_Mx X) 333 [x1] S (fx_p333.getD 1 ([], .inl (0, 0))) := fx_VCR_ok (show fx_VCR (fx_Mx X) 333 [x1] S _ from q333_1 S x1 hS g1)
set_option maxRecDepth 40000 in
theorem w333 (X : (Int → Int) × Int) (zs : List Int) (S : fx_S) (hS : fx_Sok S) (hz : zs.length = (fx_lv0 fx_t333.2.2.1 0).2) (rz : fx_rz fx_t333 zs S) : ∀ p ∈ fx_p333, fx_VC (fx_Mx X) 333 zs S p := by
  obtain ⟨x1, rfl⟩ := fx_len1 hz
  have g1 : -2147483648 ≤ x1 ∧ x1 ≤ 2147483647 := rz 1 _ rfl
  exact List.forall_mem_cons.mpr ⟨(u333_0 X S x1 hS g1), List.forall_mem_cons.mpr ⟨(u333_1 X S x1 hS g1), fun _ h => absurd h List.not_mem_nil⟩⟩
set_option maxRecDepth 40000 in
theorem u334_0 (X : (Int → Int) × Int) (S : fx_S) (x1 : Int) (hS : fx_Sok S) (g1 : -2147483648 ≤ x1 ∧ x1 ≤ 2147483647) : fx_VC (fx_Mx X) 334 [x1] S (fx_p334.getD 0 ([], .inl (0, 0))) := fx_VCR_ok (show fx_VCR (fx_Mx X) 334 [x1] S _ from q334_0 S x1 hS g1)
set_option maxRecDepth 40000 in
theorem u334_1 (X : (Int → Int) × Int) (S : fx_S) (x1 : Int) (hS : fx_Sok S) (g1 : -2147483648 ≤ x1 ∧ x1 ≤ 2147483647) : fx_VC (fx_Mx X) 334 [x1] S (fx_p334.getD 1 ([], .inl (0, 0))) := fx_VCR_ok (show fx_VCR (fx_Mx X) 334 [x1] S _ from q334_1 S x1 hS g1)
set_option maxRecDepth 40000 in
theorem w334 (X : (Int → Int) × Int) (zs : List Int) (S : fx_S) (hS : fx_Sok S) (hz : zs.length = (fx_lv0 fx_t334.2.2.1 0).2) (rz : fx_rz fx_t334 zs S) : ∀ p ∈ fx_p334, fx_VC (fx_Mx X) 334 zs S p := by
  obtain ⟨x1, rfl⟩ := fx_len1 hz
  have g1 : -2147483648 ≤ x1 ∧ x1 ≤ 2147483647 := rz 1 _ rfl
  exact List.forall_mem_cons.mpr ⟨(u334_0 X S x1 hS g1), List.forall_mem_cons.mpr ⟨(u334_1 X S x1 hS g1), fun _ h => absurd h List.not_mem_nil⟩⟩
set_option maxRecDepth 40000 in
theorem u335_0 (X : (Int → Int) × Int) (S : fx_S) (x2 : Int) (hS : fx_Sok S) (g2 : -2147483648 ≤ x2 ∧ x2 ≤ 2147483647) : fx_VC (fx_Mx X) 335 [x2] S (fx_p335.getD 0 ([], .inl (0, 0))) := fx_VCR_ok (show fx_VCR (fx_Mx X) 335 [x2] S _ from q335_0 S x2 hS g2)
set_option maxRecDepth 40000 in
theorem u335_1 (X : (Int → Int) × Int) (S : fx_S) (x2 : Int) (hS : fx_Sok S) (g2 : -2147483648 ≤ x2 ∧ x2 ≤ 2147483647) : fx_VC (fx_Mx X) 335 [x2] S (fx_p335.getD 1 ([], .inl (0, 0))) := fx_VCR_ok (show fx_VCR (fx_Mx X) 335 [x2] S _ from q335_1 S x2 hS g2)
set_option maxRecDepth 40000 in
theorem w335 (X : (Int → Int) × Int) (zs : List Int) (S : fx_S) (hS : fx_Sok S) (hz : zs.length = (fx_lv0 fx_t335.2.2.1 0).2) (rz : fx_rz fx_t335 zs S) : ∀ p ∈ fx_p335, fx_VC (fx_Mx X) 335 zs S p := by
  obtain ⟨x2, rfl⟩ := fx_len1 hz
  have g2 : -2147483648 ≤ x2 ∧ x2 ≤ 2147483647 := rz 2 _ rfl
  exact List.forall_mem_cons.mpr ⟨(u335_0 X S x2 hS g2), List.forall_mem_cons.mpr ⟨(u335_1 X S x2 hS g2), fun _ h => absurd h List.not_mem_nil⟩⟩
set_option maxRecDepth 40000 in
theorem u336_0 (X : (Int → Int) × Int) (S : fx_S) (x2 x3 : Int) (hS : fx_Sok S) (g2 : -2147483648 ≤ x2 ∧ x2 ≤ 2147483647) (g3 : -2147483648 ≤ x3 ∧ x3 ≤ 2147483647) : fx_VC (fx_Mx X) 336 [x2, x3] S (fx_p336.getD 0 ([], .inl (0, 0))) := fx_VCR_ok (show fx_VCR (fx_Mx X) 336 [x2, x3] S _ from q336_0 S x2 x3 hS g2 g3)
set_option maxRecDepth 40000 in
theorem u336_1 (X : (Int → Int) × Int) (S : fx_S) (x2 x3 : Int) (hS : fx_Sok S) (g2 : -2147483648 ≤ x2 ∧ x2 ≤ 2147483647) (g3 : -2147483648 ≤ x3 ∧ x3 ≤ 2147483647) : fx_VC (fx_Mx X) 336 [x2, x3] S (fx_p336.getD 1 ([], .inl (0, 0))) := fx_VCR_ok (show fx_VCR (fx_Mx X) 336 [x2, x3] S _ from q336_1 S x2 x3 hS g2 g3)
set_option maxRecDepth 40000 in
theorem w336 (X : (Int → Int) × Int) (zs : List Int) (S : fx_S) (hS : fx_Sok S) (hz : zs.length = (fx_lv0 fx_t336.2.2.1 0).2) (rz : fx_rz fx_t336 zs S) : ∀ p ∈ fx_p336, fx_VC (fx_Mx X) 336 zs S p := by
  obtain ⟨x2, x3, rfl⟩ := fx_len2 hz
  have g2 : -2147483648 ≤ x2 ∧ x2 ≤ 2147483647 := rz 2 _ rfl
  have g3 : -2147483648 ≤ x3 ∧ x3 ≤ 2147483647 := rz 3 _ rfl
  exact List.forall_mem_cons.mpr ⟨(u336_0 X S x2 x3 hS g2 g3), List.forall_mem_cons.mpr ⟨(u336_1 X S x2 x3 hS g2 g3), fun _ h => absurd h List.not_mem_nil⟩⟩
set_option maxRecDepth 40000 in
theorem u337_0 (X : (Int → Int) × Int) (S : fx_S) (x1 x2 : Int) (hS : fx_Sok S) (g1 : -2147483648 ≤ x1 ∧ x1 ≤ 2147483647) (g2 : -2147483648 ≤ x2 ∧ x2 ≤ 2147483647) : fx_VC (fx_Mx X) 337 [x1, x2] S (fx_p337.getD 0 ([], .inl (0, 0))) := fx_VCR_ok (show fx_VCR (fx_Mx X) 337 [x1, x2] S _ from q337_0 S x1 x2 hS g1 g2)
set_option maxRecDepth 40000 in
theorem u337_1 (X : (Int → Int) × Int) (S : fx_S) (x1 x2 : Int) (hS : fx_Sok S) (g1 : -2147483648 ≤ x1 ∧ x1 ≤ 2147483647) (g2 : -2147483648 ≤ x2 ∧ x2 ≤ 2147483647) : fx_VC (fx_Mx X) 337 [x1, x2] S (fx_p337.getD 1 ([], .inl (0, 0))) := fx_VCR_ok (show fx_VCR (fx_Mx X) 337 [x1, x2] S _ from q337_1 S x1 x2 hS g1 g2)
set_option maxRecDepth 40000 in
theorem u337_2 (X : (Int → Int) × Int) (S : fx_S) (x1 x2 : Int) (hS : fx_Sok S) (g1 : -2147483648 ≤ x1 ∧ x1 ≤ 2147483647) (g2 : -2147483648 ≤ x2 ∧ x2 ≤ 2147483647) : fx_VC (fx_Mx X) 337 [x1, x2] S (fx_p337.getD 2 ([], .inl (0, 0))) := fx_VCR_ok (show fx_VCR (fx_Mx X) 337 [x1, x2] S _ from q337_2 S x1 x2 hS g1 g2)
set_option maxRecDepth 40000 in
theorem u337_3 (X : (Int → Int) × Int) (S : fx_S) (x1 x2 : Int) (hS : fx_Sok S) (g1 : -2147483648 ≤ x1 ∧ x1 ≤ 2147483647) (g2 : -2147483648 ≤ x2 ∧ x2 ≤ 2147483647) : fx_VC (fx_Mx X) 337 [x1, x2] S (fx_p337.getD 3 ([], .inl (0, 0))) := fx_VCR_ok (show fx_VCR (fx_Mx X) 337 [x1, x2] S _ from q337_3 S x1 x2 hS g1 g2)
set_option maxRecDepth 40000 in
theorem w337 (X : (Int → Int) × Int) (zs : List Int) (S : fx_S) (hS : fx_Sok S) (hz : zs.length = (fx_lv0 fx_t337.2.2.1 0).2) (rz : fx_rz fx_t337 zs S) : ∀ p ∈ fx_p337, fx_VC (fx_Mx X) 337 zs S p := by
  obtain ⟨x1, x2, rfl⟩ := fx_len2 hz
  have g1 : -2147483648 ≤ x1 ∧ x1 ≤ 2147483647 := rz 1 _ rfl
  have g2 : -2147483648 ≤ x2 ∧ x2 ≤ 2147483647 := rz 2 _ rfl
  exact List.forall_mem_cons.mpr ⟨(u337_0 X S x1 x2 hS g1 g2), List.forall_mem_cons.mpr ⟨(u337_1 X S x1 x2 hS g1 g2), List.forall_mem_cons.mpr ⟨(u337_2 X S x1 x2 hS g1 g2), List.forall_mem_cons.mpr ⟨(u337_3 X S x1 x2 hS g1 g2), fun _ h => absurd h List.not_mem_nil⟩⟩⟩⟩
set_option maxRecDepth 40000 in
theorem u338_0 (X : (Int → Int) × Int) (S : fx_S) (x0 x2 : Int) (hS : fx_Sok S) (g0 : 0 ≤ x0 ∧ x0 < S.2.2) (g2 : -2147483648 ≤ x2 ∧ x2 ≤ 2147483647) : fx_VC (fx_Mx X) 338 [x0, x2] S (fx_p338.getD 0 ([], .inl (0, 0))) := fx_VCR_ok (show fx_VCR (fx_Mx X) 338 [x0, x2] S _ from q338_0 S x0 x2 hS g0 g2)
set_option maxRecDepth 40000 in
theorem u338_1 (X : (Int → Int) × Int) (S : fx_S) (x0 x2 : Int) (hS : fx_Sok S) (g0 : 0 ≤ x0 ∧ x0 < S.2.2) (g2 : -2147483648 ≤ x2 ∧ x2 ≤ 2147483647) : fx_VC (fx_Mx X) 338 [x0, x2] S (fx_p338.getD 1 ([], .inl (0, 0))) := fx_VCR_ok (show fx_VCR (fx_Mx X) 338 [x0, x2] S _ from q338_1 S x0 x2 hS g0 g2)
set_option maxRecDepth 40000 in
theorem w338 (X : (Int → Int) × Int) (zs : List Int) (S : fx_S) (hS : fx_Sok S) (hz : zs.length = (fx_lv0 fx_t338.2.2.1 0).2) (rz : fx_rz fx_t338 zs S) : ∀ p ∈ fx_p338, fx_VC (fx_Mx X) 338 zs S p := by
  obtain ⟨x0, x2, rfl⟩ := fx_len2 hz
  have g0 : 0 ≤ x0 ∧ x0 < S.2.2 := rz 0 _ rfl
  have g2 : -2147483648 ≤ x2 ∧ x2 ≤ 2147483647 := rz 2 _ rfl
  exact List.forall_mem_cons.mpr ⟨(u338_0 X S x0 x2 hS g0 g2), List.forall_mem_cons.mpr ⟨(u338_1 X S x0 x2 hS g0 g2), fun _ h => absurd h List.not_mem_nil⟩⟩
set_option maxRecDepth 40000 in
theorem u339_0 (X : (Int → Int) × Int) (S : fx_S) (x1 x2 : Int) (hS : fx_Sok S) (g1 : 0 ≤ x1 ∧ x1 < S.2.2) (g2 : -2147483648 ≤ x2 ∧ x2 ≤ 2147483647) : fx_VC (fx_Mx X) 339 [x1, x2] S (fx_p339.getD 0 ([], .inl (0, 0))) := fx_VCR_ok (show fx_VCR (fx_Mx X) 339 [x1, x2] S _ from q339_0 S x1 x2 hS g1 g2)
set_option maxRecDepth 40000 in
theorem u339_1 (X : (Int → Int) × Int) (S : fx_S) (x1 x2 : Int) (hS : fx_Sok S) (g1 : 0 ≤ x1 ∧ x1 < S.2.2) (g2 : -2147483648 ≤ x2 ∧ x2 ≤ 2147483647) : fx_VC (fx_Mx X) 339 [x1, x2] S (fx_p339.getD 1 ([], .inl (0, 0))) := fx_VCR_ok (show fx_VCR (fx_Mx X) 339 [x1, x2] S _ from q339_1 S x1 x2 hS g1 g2)
set_option maxRecDepth 40000 in
theorem w339 (X : (Int → Int) × Int) (zs : List Int) (S : fx_S) (hS : fx_Sok S) (hz : zs.length = (fx_lv0 fx_t339.2.2.1 0).2) (rz : fx_rz fx_t339 zs S) : ∀ p ∈ fx_p339, fx_VC (fx_Mx X) 339 zs S p := by
  obtain ⟨x1, x2, rfl⟩ := fx_len2 hz
  have g1 : 0 ≤ x1 ∧ x1 < S.2.2 := rz 1 _ rfl
  have g2 : -2147483648 ≤ x2 ∧ x2 ≤ 2147483647 := rz 2 _ rfl
  exact List.forall_mem_cons.mpr ⟨(u339_0 X S x1 x2 hS g1 g2), List.forall_mem_cons.mpr ⟨(u339_1 X S x1 x2 hS g1 g2), fun _ h => absurd h List.not_mem_nil⟩⟩
set_option maxRecDepth 40000 in
theorem u340_0 (X : (Int → Int) × Int) (S : fx_S) (x0 : Int) (hS : fx_Sok S) (g0 : -2147483648 ≤ x0 ∧ x0 ≤ 2147483647) : fx_VC (fx_Mx X) 340 [x0] S (fx_p340.getD 0 ([], .inl (0, 0))) := fx_VCR_ok (show fx_VCR (fx_Mx X) 340 [x0] S _ from q340_0 S x0 hS g0)
set_option maxRecDepth 40000 in
theorem u340_1 (X : (Int → Int) × Int) (S : fx_S) (x0 : Int) (hS : fx_Sok S) (g0 : -2147483648 ≤ x0 ∧ x0 ≤ 2147483647) : fx_VC (fx_Mx X) 340 [x0] S (fx_p340.getD 1 ([], .inl (0, 0))) := fx_VCR_ok (show fx_VCR (fx_Mx X) 340 [x0] S _ from q340_1 S x0 hS g0)
set_option maxRecDepth 40000 in
theorem u340_2 (X : (Int → Int) × Int) (S : fx_S) (x0 : Int) (hS : fx_Sok S) (g0 : -2147483648 ≤ x0 ∧ x0 ≤ 2147483647) : fx_VC (fx_Mx X) 340 [x0] S (fx_p340.getD 2 ([], .inl (0, 0))) := fx_VCR_ok (show fx_VCR (fx_Mx X) 340 [x0] S _ from q340_2 S x0 hS g0)
set_option maxRecDepth 40000 in
theorem u340_3 (X : (Int → Int) × Int) (S : fx_S) (x0 : Int) (hS : fx_Sok S) (g0 : -2147483648 ≤ x0 ∧ x0 ≤ 2147483647) : fx_VC (fx_Mx X) 340 [x0] S (fx_p340.getD 3 ([], .inl (0, 0))) := fx_VCR_ok (show fx_VCR (fx_Mx X) 340 [x0] S _ from q340_3 S x0 hS g0)
set_option maxRecDepth 40000 in
theorem u340_4 (X : (Int → Int) × Int) (S : fx_S) (x0 : Int) (hS : fx_Sok S) (g0 : -2147483648 ≤ x0 ∧ x0 ≤ 2147483647) : fx_VC (fx_Mx X) 340 [x0] S (fx_p340.getD 4 ([], .inl (0, 0))) := fx_VCR_ok (show fx_VCR (fx_Mx X) 340 [x0] S _ from q340_4 S x0 hS g0)
set_option maxRecDepth 40000 in
theorem u340_5 (X : (Int → Int) × Int) (S : fx_S) (x0 : Int) (hS : fx_Sok S) (g0 : -2147483648 ≤ x0 ∧ x0 ≤ 2147483647) : fx_VC (fx_Mx X) 340 [x0] S (fx_p340.getD 5 ([], .inl (0, 0))) := fx_VCR_ok (show fx_VCR (fx_Mx X) 340 [x0] S _ from q340_5 S x0 hS g0)
set_option maxRecDepth 40000 in
theorem u340_6 (X : (Int → Int) × Int) (S : fx_S) (x0 : Int) (hS : fx_Sok S) (g0 : -2147483648 ≤ x0 ∧ x0 ≤ 2147483647) : fx_VC (fx_Mx X) 340 [x0] S (fx_p340.getD 6 ([], .inl (0, 0))) := fx_VCR_ok (show fx_VCR (fx_Mx X) 340 [x0] S _ from q340_6 S x0 hS g0)
set_option maxRecDepth 40000 in
theorem u340_7 (X : (Int → Int) × Int) (S : fx_S) (x0 : Int) (hS : fx_Sok S) (g0 : -2147483648 ≤ x0 ∧ x0 ≤ 2147483647) : fx_VC (fx_Mx X) 340 [x0] S (fx_p340.getD 7 ([], .inl (0, 0))) := fx_VCR_ok (show fx_VCR (fx_Mx X) 340 [x0] S _ from q340_7 S x0 hS g0)
set_option maxRecDepth 40000 in
theorem u340_8 (X : (Int → Int) × Int) (S : fx_S) (x0 : Int) (hS : fx_Sok S) (g0 : -2147483648 ≤ x0 ∧ x0 ≤ 2147483647) : fx_VC (fx_Mx X) 340 [x0] S (fx_p340.getD 8 ([], .inl (0, 0))) := fx_VCR_ok (show fx_VCR (fx_Mx X) 340 [x0] S _ from q340_8 S x0 hS g0)
set_option maxRecDepth 40000 in
theorem u340_9 (X : (Int → Int) × Int) (S : fx_S) (x0 : Int) (hS : fx_Sok S) (g0 : -2147483648 ≤ x0 ∧ x0 ≤ 2147483647) : fx_VC (fx_Mx X) 340 [x0] S (fx_p340.getD 9 ([], .inl (0, 0))) := fx_VCR_ok (show fx_VCR (fx_Mx X) 340 [x0] S _ from q340_9 S x0 hS g0)
set_option maxRecDepth 40000 in
theorem u340_10 (X : (Int → Int) × Int) (S : fx_S) (x0 : Int) (hS : fx_Sok S) (g0 : -2147483648 ≤ x0 ∧ x0 ≤ 2147483647) : fx_VC (fx_Mx X) 340 [x0] S (fx_p340.getD 10 ([], .inl (0, 0))) := fx_VCR_ok (show fx_VCR (fx_Mx X) 340 [x0] S _ from q340_10 S x0 hS g0)
set_option maxRecDepth 40000 in
theorem u340_11 (X : (Int → Int) × Int) (S : fx_S) (x0 : Int) (hS : fx_Sok S) (g0 : -2147483648 ≤ x0 ∧ x0 ≤ 2147483647) : fx_VC (fx_Mx X) 340 [x0] S (fx_p340.getD 11 ([], .inl (0, 0))) := fx_VCR_ok (show fx_VCR (fx_Mx X) 340 [x0] S _ from q340_11 S x0 hS g0)
set_option maxRecDepth 40000 in
theorem u340_12 (X : (Int → Int) × Int) (S : fx_S) (x0 : Int) (hS : fx_Sok S) (g0 : -2147483648 ≤ x0 ∧ x0 ≤ 2147483647) : fx_VC (fx_Mx X) 340 [x0] S (fx_p340.getD 12 ([], .inl (0, 0))) := fx_VCR_ok (show fx_VCR (fx_Mx X) 340 [x0] S _ from q340_12 S x0 hS g0)
set_option maxRecDepth 40000 in
theorem u340_13 (X : (Int → Int) × Int) (S : fx_S) (x0 : Int) (hS : fx_Sok S) (g0 : -2147483648 ≤ x0 ∧ x0 ≤ 2147483647) : fx_VC (fx_Mx X) 340 [x0] S (fx_p340.getD 13 ([], .inl (0, 0))) := fx_VCR_ok (show fx_VCR (fx_Mx X) 340 [x0] S _ from q340_13 S x0 hS g0)
set_option maxRecDepth 40000 in
theorem u340_14 (X : (Int → Int) × Int) (S : fx_S) (x0 : Int) (hS : fx_Sok S) (g0 : -2147483648 ≤ x0 ∧ x0 ≤ 2147483647) : fx_VC (fx_Mx X) 340 [x0] S (fx_p340.getD 14 ([], .inl (0, 0))) := fx_VCR_ok (show fx_VCR (fx_Mx X) 340 [x0] S _ from q340_14 S x0 hS g0)
set_option maxRecDepth 40000 in
theorem u340_15 (X : (Int → Int) × Int) (S : fx_S) (x0 : Int) (hS : fx_Sok S) (g0 : -2147483648 ≤ x0 ∧ x0 ≤ 2147483647) : fx_VC (fx_Mx X) 340 [x0] S (fx_p340.getD 15 ([], .inl (0, 0))) := fx_VCR_ok (show fx_VCR (fx_Mx X) 340 [x0] S _ from q340_15 S x0 hS g0)
set_option maxRecDepth 40000 in
theorem u340_16 (X : (Int → Int) × Int) (S : fx_S) (x0 : Int) (hS : fx_Sok S) (g0 : -2147483648 ≤ x0 ∧ x0 ≤ 2147483647) : fx_VC (fx_Mx X) 340 [x0] S (fx_p340.getD 16 ([], .inl (0, 0))) := fx_VCR_ok (show fx_VCR (fx_Mx X) 340 [x0] S _ from q340_16 S x0 hS g0)
set_option maxRecDepth 40000 in
theorem u340_17 (X : (Int → Int) × Int) (S : fx_S) (x0 : Int) (hS : fx_Sok S) (g0 : -2147483648 ≤ x0 ∧ x0 ≤ 2147483647) : fx_VC (fx_Mx X) 340 [x0] S (fx_p340.getD 17 ([], .inl (0, 0))) := fx_VCR_ok (show fx_VCR (fx_Mx X) 340 [x0] S _ from q340_17 S x0 hS g0)
set_option maxRecDepth 40000 in
theorem u340_18 (X : (Int → Int) × Int) (S : fx_S) (x0 : Int) (hS : fx_Sok S) (g0 : -2147483648 ≤ x0 ∧ x0 ≤ 2147483647) : fx_VC (fx_Mx X) 340 [x0] S (fx_p340.getD 18 ([], .inl (0, 0))) := fx_VCR_ok (show fx_VCR (fx_Mx X) 340 [x0] S _ from q340_18 S x0 hS g0)
set_option maxRecDepth 40000 in
theorem u340_19 (X : (Int → Int) × Int) (S : fx_S) (x0 : Int) (hS : fx_Sok S) (g0 : -2147483648 ≤ x0 ∧ x0 ≤ 2147483647) : fx_VC (fx_Mx X) 340 [x0] S (fx_p340.getD 19 ([], .inl (0, 0))) := fx_VCR_ok (show fx_VCR (fx_Mx X) 340 [x0] S _ from q340_19 S x0 hS g0)
set_option maxRecDepth 40000 in
theorem u340_20 (X : (Int → Int) × Int) (S : fx_S) (x0 : Int) (hS : fx_Sok S) (g0 : -2147483648 ≤ x0 ∧ x0 ≤ 2147483647) : fx_VC (fx_Mx X) 340 [x0] S (fx_p340.getD 20 ([], .inl (0, 0))) := fx_VCR_ok (show fx_VCR (fx_Mx X) 340 [x0] S _ from q340_20 S x0 hS g0)
set_option maxRecDepth 40000 in
theorem u340_21 (X : (Int → Int) × Int) (S : fx_S) (x0 : Int) (hS : fx_Sok S) (g0 : -2147483648 ≤ x0 ∧ x0 ≤ 2147483647) : fx_VC (fx_Mx X) 340 [x0] S (fx_p340.getD 21 ([], .inl (0, 0))) := fx_VCR_ok (show fx_VCR (fx_Mx X) 340 [x0] S _ from q340_21 S x0 hS g0)
set_option maxRecDepth 40000 in
theorem u340_22 (X : (Int → Int) × Int) (S : fx_S) (x0 : Int) (hS : fx_Sok S) (g0 : -2147483648 ≤ x0 ∧ x0 ≤ 2147483647) : fx_VC (fx_Mx X) 340 [x0] S (fx_p340.getD 22 ([], .inl (0, 0))) := fx_VCR_ok (show fx_VCR (fx_Mx X) 340 [x0] S _ from q340_22 S x0 hS g0)
set_option maxRecDepth 40000 in
theorem u340_23 (X : (Int → Int) × Int) (S : fx_S) (x0 : Int) (hS : fx_Sok S) (g0 : -2147483648 ≤ x0 ∧ x0 ≤ 2147483647) : fx_VC (fx_Mx X) 340 [x0] S (fx_p340.getD 23 ([], .inl (0, 0))) := fx_VCR_ok (show fx_VCR (fx_Mx X) 340 [x0] S _ from q340_23 S x0 hS g0)
set_option maxRecDepth 40000 in
theorem u340_24 (X : (Int → Int) × Int) (S : fx_S) (x0 : Int) (hS : fx_Sok S) (g0 : -2147483648 ≤ x0 ∧ x0 ≤ 2147483647) : fx_VC (fx_Mx X) 340 [x0] S (fx_p340.getD 24 ([], .inl (0, 0))) := fx_VCR_ok (show fx_VCR (fx_Mx X) 340 [x0] S _ from q340_24 S x0 hS g0)
set_option maxRecDepth 40000 in
theorem u340_25 (X : (Int → Int) × Int) (S : fx_S) (x0 : Int) (hS : fx_Sok S) (g0 : -2147483648 ≤ x0 ∧ x0 ≤ 2147483647) : fx_VC (fx_Mx X) 340 [x0] S (fx_p340.getD 25 ([], .inl (0, 0))) := fx_VCR_ok (show fx_VCR (fx_Mx X) 340 [x0] S _ from q340_25 S x0 hS g0)
set_option maxRecDepth 40000 in
theorem u340_26 (X : (Int → Int) × Int) (S : fx_S) (x0 : Int) (hS : fx_Sok S) (g0 : -2147483648 ≤ x0 ∧ x0 ≤ 2147483647) : fx_VC (fx_Mx X) 340 [x0] S (fx_p340.getD 26 ([], .inl (0, 0))) := fx_VCR_ok (show fx_VCR (fx_Mx X) 340 [x0] S _ from q340_26 S x0 hS g0)
set_option maxRecDepth 40000 in
theorem u340_27 (X : (Int → Int) × Int) (S : fx_S) (x0 : Int) (hS : fx_Sok S) (g0 : -2147483648 ≤ x0 ∧ x0 ≤ 2147483647) : fx_VC (fx_Mx X) 340 [x0] S (fx_p340.getD 27 ([], .inl (0, 0))) := fx_VCR_ok (show fx_VCR (fx_Mx X) 340 [x0] S _ from q340_27 S x0 hS g0)
set_option maxRecDepth 40000 in
theorem u340_28 (X : (Int → Int) × Int) (S : fx_S) (x0 : Int) (hS : fx_Sok S) (g0 : -2147483648 ≤ x0 ∧ x0 ≤ 2147483647) : fx_VC (fx_Mx X) 340 [x0] S (fx_p340.getD 28 ([], .inl (0, 0))) := fx_VCR_ok (show fx_VCR (fx_Mx X) 340 [x0] S _ from q340_28 S x0 hS g0)
set_option maxRecDepth 40000 in
theorem u340_29 (X : (Int → Int) × Int) (S : fx_S) (x0 : Int) (hS : fx_Sok S) (g0 : -2147483648 ≤ x0 ∧ x0 ≤ 2147483647) : fx_VC (fx_Mx X) 340 [x0] S (fx_p340.getD 29 ([], .inl (0, 0))) := fx_VCR_ok (show fx_VCR (fx_Mx X) 340 [x0] S _ from q340_29 S x0 hS g0)
set_option maxRecDepth 40000 in
theorem u340_30 (X : (Int → Int) × Int) (S : fx_S) (x0 : Int) (hS : fx_Sok S) (g0 : -2147483648 ≤ x0 ∧ x0 ≤ 2147483647) : fx_VC (fx_Mx X) 340 [x0] S (fx_p340.getD 30 ([], .inl (0, 0))) := fx_VCR_ok (show fx_VCR (fx_Mx X) 340 [x0] S _ from q340_30 S x0 hS g0)
set_option maxRecDepth 40000 in
theorem w340 (X : (Int → Int) × Int) (zs : List Int) (S : fx_S) (hS : fx_Sok S) (hz : zs.length = (fx_lv0 fx_t340.2.2.1 0).2) (rz : fx_rz fx_t340 zs S) : ∀ p ∈ fx_p340, fx_VC (fx_Mx X) 340 zs S p := by
  obtain ⟨x0, rfl⟩ := fx_len1 hz
  have g0 : -2147483648 ≤ x0 ∧ x0 ≤ 2147483647 := rz 0 _ rfl
  exact List.forall_mem_cons.mpr ⟨(u340_0 X S x0 hS g0), List.forall_mem_cons.mpr ⟨(u340_1 X S x0 hS g0), List.forall_mem_cons.mpr ⟨(u340_2 X S x0 hS g0), List.forall_mem_cons.mpr ⟨(u340_3 X S x0 hS g0), List.forall_mem_cons.mpr ⟨(u340_4 X S x0 hS g0), List.forall_mem_cons.mpr ⟨(u340_5 X S x0 hS g0), List.forall_mem_cons.mpr ⟨(u340_6 X S x0 hS g0), List.forall_mem_cons.mpr ⟨(u340_7 X S x0 hS g0), List.forall_mem_cons.mpr ⟨(u340_8 X S x0 hS g0), List.forall_mem_cons.mpr ⟨(u340_9 X S x0 hS g0), List.forall_mem_cons.mpr ⟨(u340_10 X S x0 hS g0), List.forall_mem_cons.mpr ⟨(u340_11 X S x0 hS g0), List.forall_mem_cons.mpr ⟨(u340_12 X S x0 hS g0), List.forall_mem_cons.mpr ⟨(u340_13 X S x0 hS g0), List.forall_mem_cons.mpr ⟨(u340_14 X S x0 hS g0), List.forall_mem_cons.mpr ⟨(u340_15 X S x0 hS g0), List.forall_mem_cons.mpr ⟨(u340_16 X S x0 hS g0), List.forall_mem_cons.mpr ⟨(u340_17 X S x0 hS g0), List.forall_mem_cons.mpr ⟨(u340_18 X S x0 hS g0), List.forall_mem_cons.mpr ⟨(u340_19 X S x0 hS g0), List.forall_mem_cons.mpr ⟨(u340_20 X S x0 hS g0), List.forall_mem_cons.mpr ⟨(u340_21 X S x0 hS g0), List.forall_mem_cons.mpr ⟨(u340_22 X S x0 hS g0), List.forall_mem_cons.mpr ⟨(u340_23 X S x0 hS g0), List.forall_mem_cons.mpr ⟨(u340_24 X S x0 hS g0), List.forall_mem_cons.mpr ⟨(u340_25 X S x0 hS g0), List.forall_mem_cons.mpr ⟨(u340_26 X S x0 hS g0), List.forall_mem_cons.mpr ⟨(u340_27 X S x0 hS g0), List.forall_mem_cons.mpr ⟨(u340_28 X S x0 hS g0), List.forall_mem_cons.mpr ⟨(u340_29 X S x0 hS g0), List.forall_mem_cons.mpr ⟨(u340_30 X S x0 hS g0), fun _ h => absurd h List.not_mem_nil⟩⟩⟩⟩⟩⟩⟩⟩⟩⟩⟩⟩⟩⟩⟩⟩⟩⟩⟩⟩⟩⟩⟩⟩⟩⟩⟩⟩⟩⟩⟩
set_option maxRecDepth 40000 in
theorem u341_0 (X : (Int → Int) × Int) (S : fx_S) (x1 : Int) (hS : fx_Sok S) (g1 : -2147483648 ≤ x1 ∧ x1 ≤ 2147483647) : fx_VC (fx_Mx X) 341 [x1] S (fx_p341.getD 0 ([], .inl (0, 0))) := fx_VCR_ok (show fx_VCR (fx_Mx X) 341 [x1] S _ from q341_0 S x1 hS g1)
set_option maxRecDepth 40000 in
theorem u341_1 (X : (Int → Int) × Int) (S : fx_S) (x1 : Int) (hS : fx_Sok S) (g1 : -2147483648 ≤ x1 ∧ x1 ≤ 2147483647) : fx_VC (fx_Mx X) 341 [x1] S (fx_p341.getD 1 ([], .inl (0, 0))) := fx_VCR_ok (show fx_VCR (fx_Mx X) 341 [x1] S _ from q341_1 S x1 hS g1)
set_option maxRecDepth 40000 in
theorem u341_2 (X : (Int → Int) × Int) (S : fx_S) (x1 : Int) (hS : fx_Sok S) (g1 : -2147483648 ≤ x1 ∧ x1 ≤ 2147483647) : fx_VC (fx_Mx X) 341 [x1] S (fx_p341.getD 2 ([], .inl (0, 0))) := fx_VCR_ok (show fx_VCR (fx_Mx X) 341 [x1] S _ from q341_2 S x1 hS g1)
set_option maxRecDepth 40000 in
theorem u341_3 (X : (Int → Int) × Int) (S : fx_S) (x1 : Int) (hS : fx_Sok S) (g1 : -2147483648 ≤ x1 ∧ x1 ≤ 2147483647) : fx_VC (fx_Mx X) 341 [x1] S (fx_p341.getD 3 ([], .inl (0, 0))) := fx_VCR_ok (show fx_VCR (fx_Mx X) 341 [x1] S _ from q341_3 S x1 hS g1)
set_option maxRecDepth 40000 in
theorem w341 (X : (Int → Int) × Int) (zs : List Int) (S : fx_S) (hS : fx_Sok S) (hz : zs.length = (fx_lv0 fx_t341.2.2.1 0).2) (rz : fx_rz fx_t341 zs S) : ∀ p ∈ fx_p341, fx_VC (fx_Mx X) 341 zs S p := by
  obtain ⟨x1, rfl⟩ := fx_len1 hz
  have g1 : -2147483648 ≤ x1 ∧ x1 ≤ 2147483647 := rz 1 _ rfl
  exact List.forall_mem_cons.mpr ⟨(u341_0 X S x1 hS g1), List.forall_mem_cons.mpr ⟨(u341_1 X S x1 hS g1), List.forall_mem_cons.mpr ⟨(u341_2 X S x1 hS g1), List.forall_mem_cons.mpr ⟨(u341_3 X S x1 hS g1), fun _ h => absurd h List.not_mem_nil⟩⟩⟩⟩
set_option maxRecDepth 40000 in
theorem u342_0 (X : (Int → Int) × Int) (S : fx_S) (hS : fx_Sok S) : fx_VC (fx_Mx X) 342 [] S (fx_p342.getD 0 ([], .inl (0, 0))) := fx_VCR_ok (show fx_VCR (fx_Mx X) 342 [] S _ from q342_0 S hS)
set_option maxRecDepth 40000 in
theorem u342_1 (X : (Int → Int) × Int) (S : fx_S) (hS : fx_Sok S) : fx_VC (fx_Mx X) 342 [] S (fx_p342.getD 1 ([], .inl (0, 0))) := fx_VCR_ok (show fx_VCR (fx_Mx X) 342 [] S _ from q342_1 S hS)
set_option maxRecDepth 40000 in
theorem u342_2 (X : (Int → Int) × Int) (S : fx_S) (hS : fx_Sok S) : fx_VC (fx_Mx X) 342 [] S (fx_p342.getD 2 ([], .inl (0, 0))) := fx_VCR_ok (show fx_VCR (fx_Mx X) 342 [] S _ from q342_2 S hS)
set_option maxRecDepth 40000 in
theorem u342_3 (X : (Int → Int) × Int) (S : fx_S) (hS : fx_Sok S) : fx_VC (fx_Mx X) 342 [] S (fx_p342.getD 3 ([], .inl (0, 0))) := fx_VCR_ok (show fx_VCR (fx_Mx X) 342 [] S _ from q342_3 S hS)
set_option maxRecDepth 40000 in
theorem u342_4 (X : (Int → Int) × Int) (S : fx_S) (hS : fx_Sok S) : fx_VC (fx_Mx X) 342 [] S (fx_p342.getD 4 ([], .inl (0, 0))) := fx_VCR_ok (show fx_VCR (fx_Mx X) 342 [] S _ from q342_4 S hS)
set_option maxRecDepth 40000 in
theorem u342_5 (X : (Int → Int) × Int) (S : fx_S) (hS : fx_Sok S) : fx_VC (fx_Mx X) 342 [] S (fx_p342.getD 5 ([], .inl (0, 0))) := fx_VCR_ok (show fx_VCR (fx_Mx X) 342 [] S _ from q342_5 S hS)
set_option maxRecDepth 40000 in
theorem w342 (X : (Int → Int) × Int) (zs : List Int) (S : fx_S) (hS : fx_Sok S) (hz : zs.length = (fx_lv0 fx_t342.2.2.1 0).2) (rz : fx_rz fx_t342 zs S) : ∀ p ∈ fx_p342, fx_VC (fx_Mx X) 342 zs S p := by
  obtain rfl := List.eq_nil_of_length_eq_zero hz
  exact List.forall_mem_cons.mpr ⟨(u342_0 X S hS), List.forall_mem_cons.mpr ⟨(u342_1 X S hS), List.forall_mem_cons.mpr ⟨(u342_2 X S hS), List.forall_mem_cons.mpr ⟨(u342_3 X S hS), List.forall_mem_cons.mpr ⟨(u342_4 X S hS), List.forall_mem_cons.mpr ⟨(u342_5 X S hS), fun _ h => absurd h List.not_mem_nil⟩⟩⟩⟩⟩⟩
set_option maxRecDepth 40000 in
theorem u343_0 (X : (Int → Int) × Int) (S : fx_S) (x1 : Int) (hS : fx_Sok S) : fx_VC (fx_Mx X) 343 [x1] S (fx_p343.getD 0 ([], .inl (0, 0))) := fx_VCR_ok (show fx_VCR (fx_Mx X) 343 [x1] S _ from q343_0 S x1 hS)
set_option maxRecDepth 40000 in
theorem u343_1 (X : (Int → Int) × Int) (S : fx_S) (x1 : Int) (hS : fx_Sok S) : fx_VC (fx_Mx X) 343 [x1] S (fx_p343.getD 1 ([], .inl (0, 0))) := fx_VCR_ok (show fx_VCR (fx_Mx X) 343 [x1] S _ from q343_1 S x1 hS)
set_option maxRecDepth 40000 in
theorem w343 (X : (Int → Int) × Int) (zs : List Int) (S : fx_S) (hS : fx_Sok S) (hz : zs.length = (fx_lv0 fx_t343.2.2.1 0).2) (rz : fx_rz fx_t343 zs S) : ∀ p ∈ fx_p343, fx_VC (fx_Mx X) 343 zs S p := by
  obtain ⟨x1, rfl⟩ := fx_len1 hz
  exact List.forall_mem_cons.mpr ⟨(u343_0 X S x1 hS), List.forall_mem_cons.mpr ⟨(u343_1 X S x1 hS), fun _ h => absurd h List.not_mem_nil⟩⟩
set_option maxRecDepth 40000 in
theorem u344_0 (X : (Int → Int) × Int) (S : fx_S) (x1 : Int) (hS : fx_Sok S) (g1 : 0 ≤ x1 ∧ x1 < S.2.2) : fx_VC (fx_Mx X) 344 [x1] S (fx_p344.getD 0 ([], .inl (0, 0))) := fx_VCR_ok (show fx_VCR (fx_Mx X) 344 [x1] S _ from q344_0 S x1 hS g1)
