/-! FX: the paths of the entries, all -/
set_option maxRecDepth 40000 in
theorem w86 (X : (Int → Int) × Int) (zs : List Int) (S : fx_S) (hS : fx_Sok S) (hz : zs.length = (fx_lv0 fx_t86.2.2.1 0).2) (rz : fx_rz fx_t86 zs S) : ∀ p ∈ fx_p86, fx_VC (fx_Mx X) 86 zs S p := by
  obtain ⟨x1, rfl⟩ := fx_len1 hz
  have g1 : -2147483648 ≤ x1 ∧ x1 ≤ 2147483647 := rz 1 _ rfl
  exact List.forall_mem_cons.mpr ⟨(u86_0 X S x1 hS g1), List.forall_mem_cons.mpr ⟨(u86_1 X S x1 hS g1), fun _ h => absurd h List.not_mem_nil⟩⟩
set_option maxRecDepth 40000 in
theorem u87_0 (X : (Int → Int) × Int) (S : fx_S) (x1 : Int) (hS : fx_Sok S) (g1 : -2147483648 ≤ x1 ∧ x1 ≤ 2147483647) : fx_VC (fx_Mx X) 87 [x1] S (fx_p87.getD 0 ([], .inl (0, 0))) := fx_VCR_ok (show fx_VCR (fx_Mx X) 87 [x1] S _ from q87_0 S x1 hS g1)
set_option maxRecDepth 40000 in
theorem w87 (X : (Int → Int) × Int) (zs : List Int) (S : fx_S) (hS : fx_Sok S) (hz : zs.length = (fx_lv0 fx_t87.2.2.1 0).2) (rz : fx_rz fx_t87 zs S) : ∀ p ∈ fx_p87, fx_VC (fx_Mx X) 87 zs S p := by
  obtain ⟨x1, rfl⟩ := fx_len1 hz
  have g1 : -2147483648 ≤ x1 ∧ x1 ≤ 2147483647 := rz 1 _ rfl
  exact List.forall_mem_cons.mpr ⟨(u87_0 X S x1 hS g1), fun _ h => absurd h List.not_mem_nil⟩
set_option maxRecDepth 40000 in
theorem u88_0 (X : (Int → Int) × Int) (S : fx_S) (x1 : Int) (hS : fx_Sok S) (g1 : -2147483648 ≤ x1 ∧ x1 ≤ 2147483647) : fx_VC (fx_Mx X) 88 [x1] S (fx_p88.getD 0 ([], .inl (0, 0))) := fx_VCR_ok (show fx_VCR (fx_Mx X) 88 [x1] S _ from q88_0 S x1 hS g1)
set_option maxRecDepth 40000 in
theorem w88 (X : (Int → Int) × Int) (zs : List Int) (S : fx_S) (hS : fx_Sok S) (hz : zs.length = (fx_lv0 fx_t88.2.2.1 0).2) (rz : fx_rz fx_t88 zs S) : ∀ p ∈ fx_p88, fx_VC (fx_Mx X) 88 zs S p := by
  obtain ⟨x1, rfl⟩ := fx_len1 hz
  have g1 : -2147483648 ≤ x1 ∧ x1 ≤ 2147483647 := rz 1 _ rfl
  exact List.forall_mem_cons.mpr ⟨(u88_0 X S x1 hS g1), fun _ h => absurd h List.not_mem_nil⟩
set_option maxRecDepth 40000 in
theorem u89_0 (X : (Int → Int) × Int) (S : fx_S) (x1 x2 x3 x4 : Int) (hS : fx_Sok S) (g1 : -2147483648 ≤ x1 ∧ x1 ≤ 2147483647) (g2 : -2147483648 ≤ x2 ∧ x2 ≤ 2147483647) (g3 : -2147483648 ≤ x3 ∧ x3 ≤ 2147483647) (g4 : -2147483648 ≤ x4 ∧ x4 ≤ 2147483647) : fx_VC (fx_Mx X) 89 [x1, x2, x3, x4] S (fx_p89.getD 0 ([], .inl (0, 0))) := fx_VCR_ok (show fx_VCR (fx_Mx X) 89 [x1, x2, x3, x4] S _ from q89_0 S x1 x2 x3 x4 hS g1 g2 g3 g4)
set_option maxRecDepth 40000 in
theorem u89_1 (X : (Int → Int) × Int) (S : fx_S) (x1 x2 x3 x4 : Int) (hS : fx_Sok S) (g1 : -2147483648 ≤ x1 ∧ x1 ≤ 2147483647) (g2 : -2147483648 ≤ x2 ∧ x2 ≤ 2147483647) (g3 : -2147483648 ≤ x3 ∧ x3 ≤ 2147483647) (g4 : -2147483648 ≤ x4 ∧ x4 ≤ 2147483647) : fx_VC (fx_Mx X) 89 [x1, x2, x3, x4] S (fx_p89.getD 1 ([], .inl (0, 0))) := fx_VCR_ok (show fx_VCR (fx_Mx X) 89 [x1, x2, x3, x4] S _ from q89_1 S x1 x2 x3 x4 hS g1 g2 g3 g4)
set_option maxRecDepth 40000 in
theorem u89_2 (X : (Int → Int) × Int) (S : fx_S) (x1 x2 x3 x4 : Int) (hS : fx_Sok S) (g1 : -2147483648 ≤ x1 ∧ x1 ≤ 2147483647) (g2 : -2147483648 ≤ x2 ∧ x2 ≤ 2147483647) (g3 : -2147483648 ≤ x3 ∧ x3 ≤ 2147483647) (g4 : -2147483648 ≤ x4 ∧ x4 ≤ 2147483647) : fx_VC (fx_Mx X) 89 [x1, x2, x3, x4] S (fx_p89.getD 2 ([], .inl (0, 0))) := fx_VCR_ok (show fx_VCR (fx_Mx X) 89 [x1, x2, x3, x4] S _ from q89_2 S x1 x2 x3 x4 hS g1 g2 g3 g4)
set_option maxRecDepth 40000 in
theorem u89_3 (X : (Int → Int) × Int) (S : fx_S) (x1 x2 x3 x4 : Int) (hS : fx_Sok S) (g1 : -2147483648 ≤ x1 ∧ x1 ≤ 2147483647) (g2 : -2147483648 ≤ x2 ∧ x2 ≤ 2147483647) (g3 : -2147483648 ≤ x3 ∧ x3 ≤ 2147483647) (g4 : -2147483648 ≤ x4 ∧ x4 ≤ 2147483647) : fx_VC (fx_Mx X) 89 [x1, x2, x3, x4] S (fx_p89.getD 3 ([], .inl (0, 0))) := fx_VCR_ok (show fx_VCR (fx_Mx X) 89 [x1, x2, x3, x4] S _ from q89_3 S x1 x2 x3 x4 hS g1 g2 g3 g4)
set_option maxRecDepth 40000 in
theorem u89_4 (X : (Int → Int) × Int) (S : fx_S) (x1 x2 x3 x4 : Int) (hS : fx_Sok S) (g1 : -2147483648 ≤ x1 ∧ x1 ≤ 2147483647) (g2 : -2147483648 ≤ x2 ∧ x2 ≤ 2147483647) (g3 : -2147483648 ≤ x3 ∧ x3 ≤ 2147483647) (g4 : -2147483648 ≤ x4 ∧ x4 ≤ 2147483647) : fx_VC (fx_Mx X) 89 [x1, x2, x3, x4] S (fx_p89.getD 4 ([], .inl (0, 0))) := fx_VCR_ok (show fx_VCR (fx_Mx X) 89 [x1, x2, x3, x4] S _ from q89_4 S x1 x2 x3 x4 hS g1 g2 g3 g4)
set_option maxRecDepth 40000 in
theorem w89 (X : (Int → Int) × Int) (zs : List Int) (S : fx_S) (hS : fx_Sok S) (hz : zs.length = (fx_lv0 fx_t89.2.2.1 0).2) (rz : fx_rz fx_t89 zs S) : ∀ p ∈ fx_p89, fx_VC (fx_Mx X) 89 zs S p := by
  obtain ⟨x1, x2, x3, x4, rfl⟩ := fx_len4 hz
  have g1 : -2147483648 ≤ x1 ∧ x1 ≤ 2147483647 := rz 1 _ rfl
  have g2 : -2147483648 ≤ x2 ∧ x2 ≤ 2147483647 := rz 2 _ rfl
  have g3 : -2147483648 ≤ x3 ∧ x3 ≤ 2147483647 := rz 3 _ rfl
  have g4 : -2147483648 ≤ x4 ∧ x4 ≤ 2147483647 := rz 4 _ rfl
  exact List.forall_mem_cons.mpr ⟨(u89_0 X S x1 x2 x3 x4 hS g1 g2 g3 g4), List.forall_mem_cons.mpr ⟨(u89_1 X S x1 x2 x3 x4 hS g1 g2 g3 g4), List.forall_mem_cons.mpr ⟨(u89_2 X S x1 x2 x3 x4 hS g1 g2 g3 g4), List.forall_mem_cons.mpr ⟨(u89_3 X S x1 x2 x3 x4 hS g1 g2 g3 g4), List.forall_mem_cons.mpr ⟨(u89_4 X S x1 x2 x3 x4 hS g1 g2 g3 g4), fun _ h => absurd h List.not_mem_nil⟩⟩⟩⟩⟩
set_option maxRecDepth 40000 in
theorem u90_0 (X : (Int → Int) × Int) (S : fx_S) (x1 x2 x3 x4 : Int) (hS : fx_Sok S) (g1 : -2147483648 ≤ x1 ∧ x1 ≤ 2147483647) (g2 : -2147483648 ≤ x2 ∧ x2 ≤ 2147483647) (g3 : -2147483648 ≤ x3 ∧ x3 ≤ 2147483647) (g4 : -2147483648 ≤ x4 ∧ x4 ≤ 2147483647) : fx_VC (fx_Mx X) 90 [x1, x2, x3, x4] S (fx_p90.getD 0 ([], .inl (0, 0))) := fx_VCR_ok (show fx_VCR (fx_Mx X) 90 [x1, x2, x3, x4] S _ from q90_0 S x1 x2 x3 x4 hS g1 g2 g3 g4)
set_option maxRecDepth 40000 in
theorem u90_1 (X : (Int → Int) × Int) (S : fx_S) (x1 x2 x3 x4 : Int) (hS : fx_Sok S) (g1 : -2147483648 ≤ x1 ∧ x1 ≤ 2147483647) (g2 : -2147483648 ≤ x2 ∧ x2 ≤ 2147483647) (g3 : -2147483648 ≤ x3 ∧ x3 ≤ 2147483647) (g4 : -2147483648 ≤ x4 ∧ x4 ≤ 2147483647) : fx_VC (fx_Mx X) 90 [x1, x2, x3, x4] S (fx_p90.getD 1 ([], .inl (0, 0))) := fx_VCR_ok (show fx_VCR (fx_Mx X) 90 [x1, x2, x3, x4] S _ from q90_1 S x1 x2 x3 x4 hS g1 g2 g3 g4)
set_option maxRecDepth 40000 in
theorem u90_2 (X : (Int → Int) × Int) (S : fx_S) (x1 x2 x3 x4 : Int) (hS : fx_Sok S) (g1 : -2147483648 ≤ x1 ∧ x1 ≤ 2147483647) (g2 : -2147483648 ≤ x2 ∧ x2 ≤ 2147483647) (g3 : -2147483648 ≤ x3 ∧ x3 ≤ 2147483647) (g4 : -2147483648 ≤ x4 ∧ x4 ≤ 2147483647) : fx_VC (fx_Mx X) 90 [x1, x2, x3, x4] S (fx_p90.getD 2 ([], .inl (0, 0))) := fx_VCR_ok (show fx_VCR (fx_Mx X) 90 [x1, x2, x3, x4] S _ from q90_2 S x1 x2 x3 x4 hS g1 g2 g3 g4)
set_option maxRecDepth 40000 in
theorem u90_3 (X : (Int → Int) × Int) (S : fx_S) (x1 x2 x3 x4 : Int) (hS : fx_Sok S) (g1 : -2147483648 ≤ x1 ∧ x1 ≤ 2147483647) (g2 : -2147483648 ≤ x2 ∧ x2 ≤ 2147483647) (g3 : -2147483648 ≤ x3 ∧ x3 ≤ 2147483647) (g4 : -2147483648 ≤ x4 ∧ x4 ≤ 2147483647) : fx_VC (fx_Mx X) 90 [x1, x2, x3, x4] S (fx_p90.getD 3 ([], .inl (0, 0))) := fx_VCR_ok (show fx_VCR (fx_Mx X) 90 [x1, x2, x3, x4] S _ from q90_3 S x1 x2 x3 x4 hS g1 g2 g3 g4)
set_option maxRecDepth 40000 in
theorem u90_4 (X : (Int → Int) × Int) (S : fx_S) (x1 x2 x3 x4 : Int) (hS : fx_Sok S) (g1 : -2147483648 ≤ x1 ∧ x1 ≤ 2147483647) (g2 : -2147483648 ≤ x2 ∧ x2 ≤ 2147483647) (g3 : -2147483648 ≤ x3 ∧ x3 ≤ 2147483647) (g4 : -2147483648 ≤ x4 ∧ x4 ≤ 2147483647) : fx_VC (fx_Mx X) 90 [x1, x2, x3, x4] S (fx_p90.getD 4 ([], .inl (0, 0))) := fx_VCR_ok (show fx_VCR (fx_Mx X) 90 [x1, x2, x3, x4] S _ from q90_4 S x1 x2 x3 x4 hS g1 g2 g3 g4)
set_option maxRecDepth 40000 in
theorem u90_5 (X : (Int → Int) × Int) (S : fx_S) (x1 x2 x3 x4 : Int) (hS : fx_Sok S) (g1 : -2147483648 ≤ x1 ∧ x1 ≤ 2147483647) (g2 : -2147483648 ≤ x2 ∧ x2 ≤ 2147483647) (g3 : -2147483648 ≤ x3 ∧ x3 ≤ 2147483647) (g4 : -2147483648 ≤ x4 ∧ x4 ≤ 2147483647) : fx_VC (fx_Mx X) 90 [x1, x2, x3, x4] S (fx_p90.getD 5 ([], .inl (0, 0))) := fx_VCR_ok (show fx_VCR (fx_Mx X) 90 [x1, x2, x3, x4] S _ from q90_5 S x1 x2 x3 x4 hS g1 g2 g3 g4)
set_option maxRecDepth 40000 in
theorem w90 (X : (Int → Int) × Int) (zs : List Int) (S : fx_S) (hS : fx_Sok S) (hz : zs.length = (fx_lv0 fx_t90.2.2.1 0).2) (rz : fx_rz fx_t90 zs S) : ∀ p ∈ fx_p90, fx_VC (fx_Mx X) 90 zs S p := by
  obtain ⟨x1, x2, x3, x4, rfl⟩ := fx_len4 hz
  have g1 : -2147483648 ≤ x1 ∧ x1 ≤ 2147483647 := rz 1 _ rfl
  have g2 : -2147483648 ≤ x2 ∧ x2 ≤ 2147483647 := rz 2 _ rfl
  have g3 : -2147483648 ≤ x3 ∧ x3 ≤ 2147483647 := rz 3 _ rfl
  have g4 : -2147483648 ≤ x4 ∧ x4 ≤ 2147483647 := rz 4 _ rfl
  exact List.forall_mem_cons.mpr ⟨(u90_0 X S x1 x2 x3 x4 hS g1 g2 g3 g4), List.forall_mem_cons.mpr ⟨(u90_1 X S x1 x2 x3 x4 hS g1 g2 g3 g4), List.forall_mem_cons.mpr ⟨(u90_2 X S x1 x2 x3 x4 hS g1 g2 g3 g4), List.forall_mem_cons.mpr ⟨(u90_3 X S x1 x2 x3 x4 hS g1 g2 g3 g4), List.forall_mem_cons.mpr ⟨(u90_4 X S x1 x2 x3 x4 hS g1 g2 g3 g4), List.forall_mem_cons.mpr ⟨(u90_5 X S x1 x2 x3 x4 hS g1 g2 g3 g4), fun _ h => absurd h List.not_mem_nil⟩⟩⟩⟩⟩⟩
set_option maxRecDepth 40000 in
theorem u91_0 (X : (Int → Int) × Int) (S : fx_S) (hS : fx_Sok S) : fx_VC (fx_Mx X) 91 [] S (fx_p91.getD 0 ([], .inl (0, 0))) := fx_VCR_ok (show fx_VCR (fx_Mx X) 91 [] S _ from q91_0 S hS)
set_option maxRecDepth 40000 in
theorem w91 (X : (Int → Int) × Int) (zs : List Int) (S : fx_S) (hS : fx_Sok S) (hz : zs.length = (fx_lv0 fx_t91.2.2.1 0).2) (rz : fx_rz fx_t91 zs S) : ∀ p ∈ fx_p91, fx_VC (fx_Mx X) 91 zs S p := by
  obtain rfl := List.eq_nil_of_length_eq_zero hz
  exact List.forall_mem_cons.mpr ⟨(u91_0 X S hS), fun _ h => absurd h List.not_mem_nil⟩
set_option maxRecDepth 40000 in
theorem u92_0 (X : (Int → Int) × Int) (S : fx_S) (hS : fx_Sok S) : fx_VC (fx_Mx X) 92 [] S (fx_p92.getD 0 ([], .inl (0, 0))) := fx_VCR_ok (show fx_VCR (fx_Mx X) 92 [] S _ from q92_0 S hS)
set_option maxRecDepth 40000 in
theorem w92 (X : (Int → Int) × Int) (zs : List Int) (S : fx_S) (hS : fx_Sok S) (hz : zs.length = (fx_lv0 fx_t92.2.2.1 0).2) (rz : fx_rz fx_t92 zs S) : ∀ p ∈ fx_p92, fx_VC (fx_Mx X) 92 zs S p := by
  obtain rfl := List.eq_nil_of_length_eq_zero hz
  exact List.forall_mem_cons.mpr ⟨(u92_0 X S hS), fun _ h => absurd h List.not_mem_nil⟩
set_option maxRecDepth 40000 in
theorem u93_0 (X : (Int → Int) × Int) (S : fx_S) (x1 : Int) (hS : fx_Sok S) (g1 : -2147483648 ≤ x1 ∧ x1 ≤ 2147483647) : fx_VC (fx_Mx X) 93 [x1] S (fx_p93.getD 0 ([], .inl (0, 0))) := fx_VCR_ok (show fx_VCR (fx_Mx X) 93 [x1] S _ from q93_0 S x1 hS g1)
set_option maxRecDepth 40000 in
theorem u93_1 (X : (Int → Int) × Int) (S : fx_S) (x1 : Int) (hS : fx_Sok S) (g1 : -2147483648 ≤ x1 ∧ x1 ≤ 2147483647) : fx_VC (fx_Mx X) 93 [x1] S (fx_p93.getD 1 ([], .inl (0, 0))) := fx_VCR_ok (show fx_VCR (fx_Mx X) 93 [x1] S _ from q93_1 S x1 hS g1)
set_option maxRecDepth 40000 in
theorem w93 (X : (Int → Int) × Int) (zs : List Int) (S : fx_S) (hS : fx_Sok S) (hz : zs.length = (fx_lv0 fx_t93.2.2.1 0).2) (rz : fx_rz fx_t93 zs S) : ∀ p ∈ fx_p93, fx_VC (fx_Mx X) 93 zs S p := by
  obtain ⟨x1, rfl⟩ := fx_len1 hz
  have g1 : -2147483648 ≤ x1 ∧ x1 ≤ 2147483647 := rz 1 _ rfl
  exact List.forall_mem_cons.mpr ⟨(u93_0 X S x1 hS g1), List.forall_mem_cons.mpr ⟨(u93_1 X S x1 hS g1), fun _ h => absurd h List.not_mem_nil⟩⟩
set_option maxRecDepth 40000 in
theorem u94_0 (X : (Int → Int) × Int) (S : fx_S) (x1 : Int) (hS : fx_Sok S) (g1 : -2147483648 ≤ x1 ∧ x1 ≤ 2147483647) : fx_VC (fx_Mx X) 94 [x1] S (fx_p94.getD 0 ([], .inl (0, 0))) := fx_VCR_ok (show fx_VCR (fx_Mx X) 94 [x1] S _ from q94_0 S x1 hS g1)
set_option maxRecDepth 40000 in
theorem u94_1 (X : (Int → Int) × Int) (S : fx_S) (x1 : Int) (hS : fx_Sok S) (g1 : -2147483648 ≤ x1 ∧ x1 ≤ 2147483647) : fx_VC (fx_Mx X) 94 [x1] S (fx_p94.getD 1 ([], .inl (0, 0))) := fx_VCR_ok (show fx_VCR (fx_Mx X) 94 [x1] S _ from q94_1 S x1 hS g1)
set_option maxRecDepth 40000 in
theorem w94 (X : (Int → Int) × Int) (zs : List Int) (S : fx_S) (hS : fx_Sok S) (hz : zs.length = (fx_lv0 fx_t94.2.2.1 0).2) (rz : fx_rz fx_t94 zs S) : ∀ p ∈ fx_p94, fx_VC (fx_Mx X) 94 zs S p := by
  obtain ⟨x1, rfl⟩ := fx_len1 hz
  have g1 : -2147483648 ≤ x1 ∧ x1 ≤ 2147483647 := rz 1 _ rfl
  exact List.forall_mem_cons.mpr ⟨(u94_0 X S x1 hS g1), List.forall_mem_cons.mpr ⟨(u94_1 X S x1 hS g1), fun _ h => absurd h List.not_mem_nil⟩⟩
set_option maxRecDepth 40000 in
theorem u95_0 (X : (Int → Int) × Int) (S : fx_S) (hS : fx_Sok S) : fx_VC (fx_Mx X) 95 [] S (fx_p95.getD 0 ([], .inl (0, 0))) := fx_VCR_ok (show fx_VCR (fx_Mx X) 95 [] S _ from q95_0 S hS)
set_option maxRecDepth 40000 in
theorem w95 (X : (Int → Int) × Int) (zs : List Int) (S : fx_S) (hS : fx_Sok S) (hz : zs.length = (fx_lv0 fx_t95.2.2.1 0).2) (rz : fx_rz fx_t95 zs S) : ∀ p ∈ fx_p95, fx_VC (fx_Mx X) 95 zs S p := by
  obtain rfl := List.eq_nil_of_length_eq_zero hz
  exact List.forall_mem_cons.mpr ⟨(u95_0 X S hS), fun _ h => absurd h List.not_mem_nil⟩
set_option maxRecDepth 40000 in
theorem u96_0 (X : (Int → Int) × Int) (S : fx_S) (hS : fx_Sok S) : fx_VC (fx_Mx X) 96 [] S (fx_p96.getD 0 ([], .inl (0, 0))) := fx_VCR_ok (show fx_VCR (fx_Mx X) 96 [] S _ from q96_0 S hS)
set_option maxRecDepth 40000 in
theorem w96 (X : (Int → Int) × Int) (zs : List Int) (S : fx_S) (hS : fx_Sok S) (hz : zs.length = (fx_lv0 fx_t96.2.2.1 0).2) (rz : fx_rz fx_t96 zs S) : ∀ p ∈ fx_p96, fx_VC (fx_Mx X) 96 zs S p := by
  obtain rfl := List.eq_nil_of_length_eq_zero hz
  exact List.forall_mem_cons.mpr ⟨(u96_0 X S hS), fun _ h => absurd h List.not_mem_nil⟩
set_option maxRecDepth 40000 in
theorem u97_0 (X : (Int → Int) × Int) (S : fx_S) (x1 : Int) (hS : fx_Sok S) (g1 : -2147483648 ≤ x1 ∧ x1 ≤ 2147483647) : fx_VC (fx_Mx X) 97 [x1] S (fx_p97.getD 0 ([], .inl (0, 0))) := fx_VCR_ok (show fx_VCR (fx_Mx X) 97 [x1] S _ from q97_0 S x1 hS g1)
set_option maxRecDepth 40000 in
theorem u97_1 (X : (Int → Int) × Int) (S : fx_S) (x1 : Int) (hS : fx_Sok S) (g1 : -2147483648 ≤ x1 ∧ x1 ≤ 2147483647) : fx_VC (fx_Mx X) 97 [x1] S (fx_p97.getD 1 ([], .inl (0, 0))) := fx_VCR_ok (show fx_VCR (fx_Mx X) 97 [x1] S _ from q97_1 S x1 hS g1)
set_option maxRecDepth 40000 in
theorem u97_2 (X : (Int → Int) × Int) (S : fx_S) (x1 : Int) (hS : fx_Sok S) (g1 : -2147483648 ≤ x1 ∧ x1 ≤ 2147483647) : fx_VC (fx_Mx X) 97 [x1] S (fx_p97.getD 2 ([], .inl (0, 0))) := fx_VCR_ok (show fx_VCR (fx_Mx X) 97 [x1] S _ from q97_2 S x1 hS g1)
set_option maxRecDepth 40000 in
theorem u97_3 (X : (Int → Int) × Int) (S : fx_S) (x1 : Int) (hS : fx_Sok S) (g1 : -2147483648 ≤ x1 ∧ x1 ≤ 2147483647) : fx_VC (fx_Mx X) 97 [x1] S (fx_p97.getD 3 ([], .inl (0, 0))) := fx_VCR_ok (show fx_VCR (fx_Mx X) 97 [x1] S _ from q97_3 S x1 hS g1)
set_option maxRecDepth 40000 in
theorem u97_4 (X : (Int → Int) × Int) (S : fx_S) (x1 : Int) (hS : fx_Sok S) (g1 : -2147483648 ≤ x1 ∧ x1 ≤ 2147483647) : fx_VC (fx_Mx X) 97 [x1] S (fx_p97.getD 4 ([], .inl (0, 0))) := fx_VCR_ok (show fx_VCR (fx_Mx X) 97 [x1] S _ from q97_4 S x1 hS g1)
set_option maxRecDepth 40000 in
theorem u97_5 (X : (Int → Int) × Int) (S : fx_S) (x1 : Int) (hS : fx_Sok S) (g1 : -2147483648 ≤ x1 ∧ x1 ≤ 2147483647) : fx_VC (fx_Mx X) 97 [x1] S (fx_p97.getD 5 ([], .inl (0, 0))) := fx_VCR_ok (show fx_VCR (fx_Mx X) 97 [x1] S _ from q97_5 S x1 hS g1)
set_option maxRecDepth 40000 in
theorem u97_6 (X : (Int → Int) × Int) (S : fx_S) (x1 : Int) (hS : fx_Sok S) (g1 : -2147483648 ≤ x1 ∧ x1 ≤ 2147483647) : fx_VC (fx_Mx X) 97 [x1] S (fx_p97.getD 6 ([], .inl (0, 0))) := fx_VCR_ok (show fx_VCR (fx_Mx X) 97 [x1] S _ from q97_6 S x1 hS g1)
set_option maxRecDepth 40000 in
theorem u97_7 (X : (Int → Int) × Int) (S : fx_S) (x1 : Int) (hS : fx_Sok S) (g1 : -2147483648 ≤ x1 ∧ x1 ≤ 2147483647) : fx_VC (fx_Mx X) 97 [x1] S (fx_p97.getD 7 ([], .inl (0, 0))) := fx_VCR_ok (show fx_VCR (fx_Mx X) 97 [x1] S _ from q97_7 S x1 hS g1)
set_option maxRecDepth 40000 in
theorem u97_8 (X : (Int → Int) × Int) (S : fx_S) (x1 : Int) (hS : fx_Sok S) (g1 : -2147483648 ≤ x1 ∧ x1 ≤ 2147483647) : fx_VC (fx_Mx X) 97 [x1] S (fx_p97.getD 8 ([], .inl (0, 0))) := fx_VCR_ok (show fx_VCR (fx_Mx X) 97 [x1] S _ from q97_8 S x1 hS g1)
set_option maxRecDepth 40000 in
theorem u97_9 (X : (Int → Int) × Int) (S : fx_S) (x1 : Int) (hS : fx_Sok S) (g1 : -2147483648 ≤ x1 ∧ x1 ≤ 2147483647) : fx_VC (fx_Mx X) 97 [x1] S (fx_p97.getD 9 ([], .inl (0, 0))) := fx_VCR_ok (show fx_VCR (fx_Mx X) 97 [x1] S _ from q97_9 S x1 hS g1)
set_option maxRecDepth 40000 in
theorem u97_10 (X : (Int → Int) × Int) (S : fx_S) (x1 : Int) (hS : fx_Sok S) (g1 : -2147483648 ≤ x1 ∧ x1 ≤ 2147483647) : fx_VC (fx_Mx X) 97 [x1] S (fx_p97.getD 10 ([], .inl (0, 0))) := fx_VCR_ok (show fx_VCR (fx_Mx X) 97 [x1] S _ from q97_10 S x1 hS g1)
set_option maxRecDepth 40000 in
theorem u97_11 (X : (Int → Int) × Int) (S : fx_S) (x1 : Int) (hS : fx_Sok S) (g1 : -2147483648 ≤ x1 ∧ x1 ≤ 2147483647) : fx_VC (fx_Mx X) 97 [x1] S (fx_p97.getD 11 ([], .inl (0, 0))) := fx_VCR_ok (show fx_VCR (fx_Mx X) 97 [x1] S _ from q97_11 S x1 hS g1)
set_option maxRecDepth 40000 in
theorem u97_12 (X : (Int → Int) × Int) (S : fx_S) (x1 : Int) (hS : fx_Sok S) (g1 : -2147483648 ≤ x1 ∧ x1 ≤ 2147483647) : fx_VC (fx_Mx X) 97 [x1] S (fx_p97.getD 12 ([], .inl (0, 0))) := fx_VCR_ok (show fx_VCR (fx_Mx X) 97 [x1] S _ from q97_12 S x1 hS g1)
set_option maxRecDepth 40000 in
theorem u97_13 (X : (Int → Int) × Int) (S : fx_S) (x1 : Int) (hS : fx_Sok S) (g1 : -2147483648 ≤ x1 ∧ x1 ≤ 2147483647) : fx_VC (fx_Mx X) 97 [x1] S (fx_p97.getD 13 ([], .inl (0, 0))) := fx_VCR_ok (show fx_VCR (fx_Mx X) 97 [x1] S _ from q97_13 S x1 hS g1)
set_option maxRecDepth 40000 in
theorem u97_14 (X : (Int → Int) × Int) (S : fx_S) (x1 : Int) (hS : fx_Sok S) (g1 : -2147483648 ≤ x1 ∧ x1 ≤ 2147483647) : fx_VC (fx_Mx X) 97 [x1] S (fx_p97.getD 14 ([], .inl (0, 0))) := fx_VCR_ok (show fx_VCR (fx_Mx X) 97 [x1] S _ from q97_14 S x1 hS g1)
set_option maxRecDepth 40000 in
theorem u97_15 (X : (Int → Int) × Int) (S : fx_S) (x1 : Int) (hS : fx_Sok S) (g1 : -2147483648 ≤ x1 ∧ x1 ≤ 2147483647) : fx_VC (fx_Mx X) 97 [x1] S (fx_p97.getD 15 ([], .inl (0, 0))) := fx_VCR_ok (show fx_VCR (fx_Mx X) 97 [x1] S _ from q97_15 S x1 hS g1)
set_option maxRecDepth 40000 in
theorem w97 (X : (Int → Int) × Int) (zs : List Int) (S : fx_S) (hS : fx_Sok S) (hz : zs.length = (fx_lv0 fx_t97.2.2.1 0).2) (rz : fx_rz fx_t97 zs S) : ∀ p ∈ fx_p97, fx_VC (fx_Mx X) 97 zs S p := by
  obtain ⟨x1, rfl⟩ := fx_len1 hz
  have g1 : -2147483648 ≤ x1 ∧ x1 ≤ 2147483647 := rz 1 _ rfl
  exact List.forall_mem_cons.mpr ⟨(u97_0 X S x1 hS g1), List.forall_mem_cons.mpr ⟨(u97_1 X S x1 hS g1), List.forall_mem_cons.mpr ⟨(u97_2 X S x1 hS g1), List.forall_mem_cons.mpr ⟨(u97_3 X S x1 hS g1), List.forall_mem_cons.mpr ⟨(u97_4 X S x1 hS g1), List.forall_mem_cons.mpr ⟨(u97_5 X S x1 hS g1), List.forall_mem_cons.mpr ⟨(u97_6 X S x1 hS g1), List.forall_mem_cons.mpr ⟨(u97_7 X S x1 hS g1), List.forall_mem_cons.mpr ⟨(u97_8 X S x1 hS g1), List.forall_mem_cons.mpr ⟨(u97_9 X S x1 hS g1), List.forall_mem_cons.mpr ⟨(u97_10 X S x1 hS g1), List.forall_mem_cons.mpr ⟨(u97_11 X S x1 hS g1), List.forall_mem_cons.mpr ⟨(u97_12 X S x1 hS g1), List.forall_mem_cons.mpr ⟨(u97_13 X S x1 hS g1), List.forall_mem_cons.mpr ⟨(u97_14 X S x1 hS g1), List.forall_mem_cons.mpr ⟨(u97_15 X S x1 hS g1), fun _ h => absurd h List.not_mem_nil⟩⟩⟩⟩⟩⟩⟩⟩⟩⟩⟩⟩⟩⟩⟩⟩
set_option maxRecDepth 40000 in
theorem u98_0 (X : (Int → Int) × Int) (S : fx_S) (x1 : Int) (hS : fx_Sok S) (g1 : -2147483648 ≤ x1 ∧ x1 ≤ 2147483647) : fx_VC (fx_Mx X) 98 [x1] S (fx_p98.getD 0 ([], .inl (0, 0))) := fx_VCR_ok (show fx_VCR (fx_Mx X) 98 [x1] S _ from q98_0 S x1 hS g1)
set_option maxRecDepth 40000 in
theorem u98_1 (X : (Int → Int) × Int) (S : fx_S) (x1 : Int) (hS : fx_Sok S) (g1 : -2147483648 ≤ x1 ∧ x1 ≤ 2147483647) : fx_VC (fx_Mx X) 98 [x1] S (fx_p98.getD 1 ([], .inl (0, 0))) := fx_VCR_ok (show fx_VCR (fx_Mx X) 98 [x1] S _ from q98_1 S x1 hS g1)
set_option maxRecDepth 40000 in
theorem u98_2 (X : (Int → Int) × Int) (S : fx_S) (x1 : Int) (hS : fx_Sok S) (g1 : -2147483648 ≤ x1 ∧ x1 ≤ 2147483647) : fx_VC (fx_Mx X) 98 [x1] S (fx_p98.getD 2 ([], .inl (0, 0))) := fx_VCR_ok (show fx_VCR (fx_Mx X) 98 [x1] S _ from q98_2 S x1 hS g1)
set_option maxRecDepth 40000 in
theorem u98_3 (X : (Int → Int) × Int) (S : fx_S) (x1 : Int) (hS : fx_Sok S) (g1 : -2147483648 ≤ x1 ∧ x1 ≤ 2147483647) : fx_VC (fx_Mx X) 98 [x1] S (fx_p98.getD 3 ([], .inl (0, 0))) := fx_VCR_ok (show fx_VCR (fx_Mx X) 98 [x1] S _ from q98_3 S x1 hS g1)
set_option maxRecDepth 40000 in
theorem u98_4 (X : (Int → Int) × Int) (S : fx_S) (x1 : Int) (hS : fx_Sok S) (g1 : -2147483648 ≤ x1 ∧ x1 ≤ 2147483647) : fx_VC (fx_Mx X) 98 [x1] S (fx_p98.getD 4 ([], .inl (0, 0))) := fx_VCR_ok (show fx_VCR (fx_Mx X) 98 [x1] S _ from q98_4 S x1 hS g1)
set_option maxRecDepth 40000 in
theorem u98_5 (X : (Int → Int) × Int) (S : fx_S) (x1 : Int) (hS : fx_Sok S) (g1 : -2147483648 ≤ x1 ∧ x1 ≤ 2147483647) : fx_VC (fx_Mx X) 98 [x1] S (fx_p98.getD 5 ([], .inl (0, 0))) := fx_VCR_ok (show fx_VCR (fx_Mx X) 98 [x1] S _ from q98_5 S x1 hS g1)
set_option maxRecDepth 40000 in
theorem u98_6 (X : (Int → Int) × Int) (S : fx_S) (x1 : Int) (hS : fx_Sok S) (g1 : -2147483648 ≤ x1 ∧ x1 ≤ 2147483647) : fx_VC (fx_Mx X) 98 [x1] S (fx_p98.getD 6 ([], .inl (0, 0))) := fx_VCR_ok (show fx_VCR (fx_Mx X) 98 [x1] S _ from q98_6 S x1 hS g1)
set_option maxRecDepth 40000 in
theorem u98_7 (X : (Int → Int) × Int) (S : fx_S) (x1 : Int) (hS : fx_Sok S) (g1 : -2147483648 ≤ x1 ∧ x1 ≤ 2147483647) : fx_VC (fx_Mx X) 98 [x1] S (fx_p98.getD 7 ([], .inl (0, 0))) := fx_VCR_ok (show fx_VCR (fx_Mx X) 98 [x1] S _ from q98_7 S x1 hS g1)
set_option maxRecDepth 40000 in
theorem u98_8 (X : (Int → Int) × Int) (S : fx_S) (x1 : Int) (hS : fx_Sok S) (g1 : -2147483648 ≤ x1 ∧ x1 ≤ 2147483647) : fx_VC (fx_Mx X) 98 [x1] S (fx_p98.getD 8 ([], .inl (0, 0))) := fx_VCR_ok (show fx_VCR (fx_Mx X) 98 [x1] S _ from q98_8 S x1 hS g1)
set_option maxRecDepth 40000 in
theorem u98_9 (X : (Int → Int) × Int) (S : fx_S) (x1 : Int) (hS : fx_Sok S) (g1 : -2147483648 ≤ x1 ∧ x1 ≤ 2147483647) : fx_VC (fx_Mx X) 98 [x1] S (fx_p98.getD 9 ([], .inl (0, 0))) := fx_VCR_ok (show fx_VCR (fx_Mx X) 98 [x1] S _ from q98_9 S x1 hS g1)
set_option maxRecDepth 40000 in
theorem u98_10 (X : (Int → Int) × Int) (S : fx_S) (x1 : Int) (hS : fx_Sok S) (g1 : -2147483648 ≤ x1 ∧ x1 ≤ 2147483647) : fx_VC (fx_Mx X) 98 [x1] S (fx_p98.getD 10 ([], .inl (0, 0))) := fx_VCR_ok (show fx_VCR (fx_Mx X) 98 [x1] S _ from q98_10 S x1 hS g1)
set_option maxRecDepth 40000 in
theorem u98_11 (X : (Int → Int) × Int) (S : fx_S) (x1 : Int) (hS : fx_Sok S) (g1 : -2147483648 ≤ x1 ∧ x1 ≤ 2147483647) : fx_VC (fx_Mx X) 98 [x1] S (fx_p98.getD 11 ([], .inl (0, 0))) := fx_VCR_ok (show fx_VCR (fx_Mx X) 98 [x1] S _ from q98_11 S x1 hS g1)
set_option maxRecDepth 40000 in
theorem u98_12 (X : (Int → Int) × Int) (S : fx_S) (x1 : Int) (hS : fx_Sok S) (g1 : -2147483648 ≤ x1 ∧ x1 ≤ 2147483647) : fx_VC (fx_Mx X) 98 [x1] S (fx_p98.getD 12 ([], .inl (0, 0))) := fx_VCR_ok (show fx_VCR (fx_Mx X) 98 [x1] S _ from q98_12 S x1 hS g1)
set_option maxRecDepth 40000 in
theorem u98_13 (X : (Int → Int) × Int) (S : fx_S) (x1 : Int) (hS : fx_Sok S) (g1 : -2147483648 ≤ x1 ∧ x1 ≤ 2147483647) : fx_VC (fx_Mx X) 98 [x1] S (fx_p98.getD 13 ([], .inl (0, 0))) := fx_VCR_ok (show fx_VCR (fx_Mx X) 98 [x1] S _ from q98_13 S x1 hS g1)
set_option maxRecDepth 40000 in
theorem u98_14 (X : (Int → Int) × Int) (S : fx_S) (x1 : Int) (hS : fx_Sok S) (g1 : -2147483648 ≤ x1 ∧ x1 ≤ 2147483647) : fx_VC (fx_Mx X) 98 [x1] S (fx_p98.getD 14 ([], .inl (0, 0))) := fx_VCR_ok (show fx_VCR (fx_Mx X) 98 [x1] S _ from q98_14 S x1 hS g1)
set_option maxRecDepth 40000 in
theorem u98_15 (X : (Int → Int) × Int) (S : fx_S) (x1 : Int) (hS : fx_Sok S) (g1 : -2147483648 ≤ x1 ∧ x1 ≤ 2147483647) : fx_VC (fx_Mx X) 98 [x1] S (fx_p98.getD 15 ([], .inl (0, 0))) := fx_VCR_ok (show fx_VCR (fx_Mx X) 98 [x1] S _ from q98_15 S x1 hS g1)
set_option maxRecDepth 40000 in
theorem w98 (X : (Int → Int) × Int) (zs : List Int) (S : fx_S) (hS : fx_Sok S) (hz : zs.length = (fx_lv0 fx_t98.2.2.1 0).2) (rz : fx_rz fx_t98 zs S) : ∀ p ∈ fx_p98, fx_VC (fx_Mx X) 98 zs S p := by
  obtain ⟨x1, rfl⟩ := fx_len1 hz
  have g1 : -2147483648 ≤ x1 ∧ x1 ≤ 2147483647 := rz 1 _ rfl
  exact List.forall_mem_cons.mpr ⟨(u98_0 X S x1 hS g1), List.forall_mem_cons.mpr ⟨(u98_1 X S x1 hS g1), List.forall_mem_cons.mpr ⟨(u98_2 X S x1 hS g1), List.forall_mem_cons.mpr ⟨(u98_3 X S x1 hS g1), List.forall_mem_cons.mpr ⟨(u98_4 X S x1 hS g1), List.forall_mem_cons.mpr ⟨(u98_5 X S x1 hS g1), List.forall_mem_cons.mpr ⟨(u98_6 X S x1 hS g1), List.forall_mem_cons.mpr ⟨(u98_7 X S x1 hS g1), List.forall_mem_cons.mpr ⟨(u98_8 X S x1 hS g1), List.forall_mem_cons.mpr ⟨(u98_9 X S x1 hS g1), List.forall_mem_cons.mpr ⟨(u98_10 X S x1 hS g1), List.forall_mem_cons.mpr ⟨(u98_11 X S x1 hS g1), List.forall_mem_cons.mpr ⟨(u98_12 X S x1 hS g1), List.forall_mem_cons.mpr ⟨(u98_13 X S x1 hS g1), List.forall_mem_cons.mpr ⟨(u98_14 X S x1 hS g1), List.forall_mem_cons.mpr ⟨(u98_15 X S x1 hS g1), fun _ h => absurd h List.not_mem_nil⟩⟩⟩⟩⟩⟩⟩⟩⟩⟩⟩⟩⟩⟩⟩⟩
set_option maxRecDepth 40000 in
theorem u99_0 (X : (Int → Int) × Int) (S : fx_S) (x1 : Int) (hS : fx_Sok S) (g1 : -2147483648 ≤ x1 ∧ x1 ≤ 2147483647) : fx_VC (fx_Mx X) 99 [x1] S (fx_p99.getD 0 ([], .inl (0, 0))) := fx_VCR_ok (show fx_VCR (fx_Mx X) 99 [x1] S _ from q99_0 S x1 hS g1)
set_option maxRecDepth 40000 in
theorem u99_1 (X : (Int → Int) × Int) (S : fx_S) (x1 : Int) (hS : fx_Sok S) (g1 : -2147483648 ≤ x1 ∧ x1 ≤ 2147483647) : fx_VC (fx_Mx X) 99 [x1] S (fx_p99.getD 1 ([], .inl (0, 0))) := fx_VCR_ok (show fx_VCR (fx_Mx X) 99 [x1] S _ from q99_1 S x1 hS g1)
set_option maxRecDepth 40000 in
theorem w99 (X : (Int → Int) × Int) (zs : List Int) (S : fx_S) (hS : fx_Sok S) (hz : zs.length = (fx_lv0 fx_t99.2.2.1 0).2) (rz : fx_rz fx_t99 zs S) : ∀ p ∈ fx_p99, fx_VC (fx_Mx X) 99 zs S p := by
  obtain ⟨x1, rfl⟩ := fx_len1 hz
  have g1 : -2147483648 ≤ x1 ∧ x1 ≤ 2147483647 := rz 1 _ rfl
  exact List.forall_mem_cons.mpr ⟨(u99_0 X S x1 hS g1), List.forall_mem_cons.mpr ⟨(u99_1 X S x1 hS g1), fun _ h => absurd h List.not_mem_nil⟩⟩
set_option maxRecDepth 40000 in
theorem u100_0 (X : (Int → Int) × Int) (S : fx_S) (x1 : Int) (hS : fx_Sok S) (g1 : -2147483648 ≤ x1 ∧ x1 ≤ 2147483647) : fx_VC (fx_Mx X) 100 [x1] S (fx_p100.getD 0 ([], .inl (0, 0))) := fx_VCR_ok (show fx_VCR (fx_Mx X) 100 [x1] S _ from q100_0 S x1 hS g1)
set_option maxRecDepth 40000 in
theorem u100_1 (X : (Int → Int) × Int) (S : fx_S) (x1 : Int) (hS : fx_Sok S) (g1 : -2147483648 ≤ x1 ∧ x1 ≤ 2147483647) : fx_VC (fx_Mx X) 100 [x1] S (fx_p100.getD 1 ([], .inl (0, 0))) := fx_VCR_ok (show fx_VCR (fx_Mx X) 100 [x1] S _ from q100_1 S x1 hS g1)
set_option maxRecDepth 40000 in
theorem w100 (X : (Int → Int) × Int) (zs : List Int) (S : fx_S) (hS : fx_Sok S) (hz : zs.length = (fx_lv0 fx_t100.2.2.1 0).2) (rz : fx_rz fx_t100 zs S) : ∀ p ∈ fx_p100, fx_VC (fx_Mx X) 100 zs S p := by
  obtain ⟨x1, rfl⟩ := fx_len1 hz
  have g1 : -2147483648 ≤ x1 ∧ x1 ≤ 2147483647 := rz 1 _ rfl
  exact List.forall_mem_cons.mpr ⟨(u100_0 X S x1 hS g1), List.forall_mem_cons.mpr ⟨(u100_1 X S x1 hS g1), fun _ h => absurd h List.not_mem_nil⟩⟩
set_option maxRecDepth 40000 in
theorem u101_0 (X : (Int → Int) × Int) (S : fx_S) (x1 : Int) (hS : fx_Sok S) (g1 : -2147483648 ≤ x1 ∧ x1 ≤ 2147483647) : fx_VC (fx_Mx X) 101 [x1] S (fx_p101.getD 0 ([], .inl (0, 0))) := fx_VCR_ok (show fx_VCR (fx_Mx X) 101 [x1] S _ from q101_0 S x1 hS g1)
set_option maxRecDepth 40000 in
theorem u101_1 (X : (Int → Int) × Int) (S : fx_S) (x1 : Int) (hS : fx_Sok S) (g1 : -2147483648 ≤ x1 ∧ x1 ≤ 2147483647) : fx_VC (fx_Mx X) 101 [x1] S (fx_p101.getD 1 ([], .inl (0, 0))) := fx_VCR_ok (show fx_VCR (fx_Mx X) 101 [x1] S _ from q101_1 S x1 hS g1)
set_option maxRecDepth 40000 in
theorem u101_2 (X : (Int → Int) × Int) (S : fx_S) (x1 : Int) (hS : fx_Sok S) (g1 : -2147483648 ≤ x1 ∧ x1 ≤ 2147483647) : fx_VC (fx_Mx X) 101 [x1] S (fx_p101.getD 2 ([], .inl (0, 0))) := fx_VCR_ok (show fx_VCR (fx_Mx X) 101 [x1] S _ from q101_2 S x1 hS g1)
set_option maxRecDepth 40000 in
theorem w101 (X : (Int → Int) × Int) (zs : List Int) (S : fx_S) (hS : fx_Sok S) (hz : zs.length = (fx_lv0 fx_t101.2.2.1 0).2) (rz : fx_rz fx_t101 zs S) : ∀ p ∈ fx_p101, fx_VC (fx_Mx X) 101 zs S p := by
  obtain ⟨x1, rfl⟩ := fx_len1 hz
  have g1 : -2147483648 ≤ x1 ∧ x1 ≤ 2147483647 := rz 1 _ rfl
  exact List.forall_mem_cons.mpr ⟨(u101_0 X S x1 hS g1), List.forall_mem_cons.mpr ⟨(u101_1 X S x1 hS g1), List.forall_mem_cons.mpr ⟨(u101_2 X S x1 hS g1), fun _ h => absurd h List.not_mem_nil⟩⟩⟩
set_option maxRecDepth 40000 in
theorem u102_0 (X : (Int → Int) × Int) (S : fx_S) (x1 : Int) (hS : fx_Sok S) (g1 : -2147483648 ≤ x1 ∧ x1 ≤ 2147483647) : fx_VC (fx_Mx X) 102 [x1] S (fx_p102.getD 0 ([], .inl (0, 0))) := fx_VCR_ok (show fx_VCR (fx_Mx X) 102 [x1] S _ from q102_0 S x1 hS g1)
set_option maxRecDepth 40000 in
theorem u102_1 (X : (Int → Int) × Int) (S : fx_S) (x1 : Int) (hS : fx_Sok S) (g1 : -2147483648 ≤ x1 ∧ x1 ≤ 2147483647) : fx_VC (fx_Mx X) 102 [x1] S (fx_p102.getD 1 ([], .inl (0, 0))) := fx_VCR_ok (show fx_VCR (fx_Mx X) 102 [x1] S _ from q102_1 S x1 hS g1)
set_option maxRecDepth 40000 in
theorem w102 (X : (Int → Int) × Int) (zs : List Int) (S : fx_S) (hS : fx_Sok S) (hz : zs.length = (fx_lv0 fx_t102.2.2.1 0).2) (rz : fx_rz fx_t102 zs S) : ∀ p ∈ fx_p102, fx_VC (fx_Mx X) 102 zs S p := by
  obtain ⟨x1, rfl⟩ := fx_len1 hz
  have g1 : -2147483648 ≤ x1 ∧ x1 ≤ 2147483647 := rz 1 _ rfl
  exact List.forall_mem_cons.mpr ⟨(u102_0 X S x1 hS g1), List.forall_mem_cons.mpr ⟨(u102_1 X S x1 hS g1), fun _ h => absurd h List.not_mem_nil⟩⟩
set_option maxRecDepth 40000 in
theorem u103_0 (X : (Int → Int) × Int) (S : fx_S) (x1 : Int) (hS : fx_Sok S) (g1 : -2147483648 ≤ x1 ∧ x1 ≤ 2147483647) : fx_VC (fx_Mx X) 103 [x1] S (fx_p103.getD 0 ([], .inl (0, 0))) := fx_VCR_ok (show fx_VCR (fx_Mx X) 103 [x1] S _ from q103_0 S x1 hS g1)
set_option maxRecDepth 40000 in
theorem u103_1 (X : (Int → Int) × Int) (S : fx_S) (x1 : Int) (hS : fx_Sok S) (g1 : -2147483648 ≤ x1 ∧ x1 ≤ 2147483647) : fx_VC (fx_Mx X) 103 [x1] S (fx_p103.getD 1 ([], .inl (0, 0))) := fx_VCR_ok (show fx_VCR (fx_Mx X) 103 [x1] S _ from q103_1 S x1 hS g1)
set_option maxRecDepth 40000 in
theorem u103_2 (X : (Int → Int) × Int) (S : fx_S) (x1 : Int) (hS : fx_Sok S) (g1 : -2147483648 ≤ x1 ∧ x1 ≤ 2147483647) : fx_VC (fx_Mx X) 103 [x1] S (fx_p103.getD 2 ([], .inl (0, 0))) := fx_VCR_ok (show fx_VCR (fx_Mx X) 103 [x1] S _ from q103_2 S x1 hS g1)
set_option maxRecDepth 40000 in
theorem w103 (X : (Int → Int) × Int) (zs : List Int) (S : fx_S) (hS : fx_Sok S) (hz : zs.length = (fx_lv0 fx_t103.2.2.1 0).2) (rz : fx_rz fx_t103 zs S) : ∀ p ∈ fx_p103, fx_VC (fx_Mx X) 103 zs S p := by
  obtain ⟨x1, rfl⟩ := fx_len1 hz
  have g1 : -2147483648 ≤ x1 ∧ x1 ≤ 2147483647 := rz 1 _ rfl
  exact List.forall_mem_cons.mpr ⟨(u103_0 X S x1 hS g1), List.forall_mem_cons.mpr ⟨(u103_1 X S x1 hS g1), List.forall_mem_cons.mpr ⟨(u103_2 X S x1 hS g1), fun _ h => absurd h List.not_mem_nil⟩⟩⟩
set_option maxRecDepth 40000 in
theorem u104_0 (X : (Int → Int) × Int) (S : fx_S) (x1 : Int) (hS : fx_Sok S) (g1 : -2147483648 ≤ x1 ∧ x1 ≤ 2147483647) : fx_VC (fx_Mx X) 104 [x1] S (fx_p104.getD 0 ([], .inl (0, 0))) := fx_VCR_ok (show fx_VCR (fx_Mx X) 104 [x1] S _ from q104_0 S x1 hS g1)
set_option maxRecDepth 40000 in
theorem u104_1 (X : (Int → Int) × Int) (S : fx_S) (x1 : Int) (hS : fx_Sok S) (g1 : -2147483648 ≤ x1 ∧ x1 ≤ 2147483647) : fx_VC (fx_Mx X) 104 [x1] S (fx_p104.getD 1 ([], .inl (0, 0))) := fx_VCR_ok (show fx_VCR (fx_Mx X) 104 [x1] S _ from q104_1 S x1 hS g1)
set_option maxRecDepth 40000 in
theorem u104_2 (X : (Int → Int) × Int) (S : fx_S) (x1 : Int) (hS : fx_Sok S) (g1 : -2147483648 ≤ x1 ∧ x1 ≤ 2147483647) : fx_VC (fx_Mx X) 104 [x1] S (fx_p104.getD 2 ([], .inl (0, 0))) := fx_VCR_ok (show fx_VCR (fx_Mx X) 104 [x1] S _ from q104_2 S x1 hS g1)
set_option maxRecDepth 40000 in
theorem w104 (X : (Int → Int) × Int) (zs : List Int) (S : fx_S) (hS : fx_Sok S) (hz : zs.length = (fx_lv0 fx_t104.2.2.1 0).2) (rz : fx_rz fx_t104 zs S) : ∀ p ∈ fx_p104, fx_VC (fx_Mx X) 104 zs S p := by
  obtain ⟨x1, rfl⟩ := fx_len1 hz
  have g1 : -2147483648 ≤ x1 ∧ x1 ≤ 2147483647 := rz 1 _ rfl
  exact List.forall_mem_cons.mpr ⟨(u104_0 X S x1 hS g1), List.forall_mem_cons.mpr ⟨(u104_1 X S x1 hS g1), List.forall_mem_cons.mpr ⟨(u104_2 X S x1 hS g1), fun _ h => absurd h List.not_mem_nil⟩⟩⟩
set_option maxRecDepth 40000 in
theorem u105_0 (X : (Int → Int) × Int) (S : fx_S) (x1 x2 x3 : Int) (hS : fx_Sok S) (g1 : -2147483648 ≤ x1 ∧ x1 ≤ 2147483647) (g2 : -2147483648 ≤ x2 ∧ x2 ≤ 2147483647) (g3 : -2147483648 ≤ x3 ∧ x3 ≤ 2147483647) : fx_VC (fx_Mx X) 105 [x1, x2, x3] S (fx_p105.getD 0 ([], .inl (0, 0))) := fx_VCR_ok (show fx_VCR (fx_Mx X) 105 [x1, x2, x3] S _ from q105_0 S x1 x2 x3 hS g1 g2 g3)
set_option maxRecDepth 40000 in
theorem u105_1 (X : (Int → Int) × Int) (S : fx_S) (x1 x2 x3 : Int) (hS : fx_Sok S) (g1 : -2147483648 ≤ x1 ∧ x1 ≤ 2147483647) (g2 : -2147483648 ≤ x2 ∧ x2 ≤ 2147483647) (g3 : -2147483648 ≤ x3 ∧ x3 ≤ 2147483647) : fx_VC (fx_Mx X) 105 [x1, x2, x3] S (fx_p105.getD 1 ([], .inl (0, 0))) := fx_VCR_ok (show fx_VCR (fx_Mx X) 105 [x1, x2, x3] S _ from q105_1 S x1 x2 x3 hS g1 g2 g3)
set_option maxRecDepth 40000 in
theorem u105_2 (X : (Int → Int) × Int) (S : fx_S) (x1 x2 x3 : Int) (hS : fx_Sok S) (g1 : -2147483648 ≤ x1 ∧ x1 ≤ 2147483647) (g2 : -2147483648 ≤ x2 ∧ x2 ≤ 2147483647) (g3 : -2147483648 ≤ x3 ∧ x3 ≤ 2147483647) : fx_VC (fx_Mx X) 105 [x1, x2, x3] S (fx_p105.getD 2 ([], .inl (0, 0))) := fx_VCR_ok (show fx_VCR (fx_Mx X) 105 [x1, x2, x3] S _ from q105_2 S x1 x2 x3 hS g1 g2 g3)
set_option maxRecDepth 40000 in
theorem u105_3 (X : (Int → Int) × Int) (S : fx_S) (x1 x2 x3 : Int) (hS : fx_Sok S) (g1 : -2147483648 ≤ x1 ∧ x1 ≤ 2147483647) (g2 : -2147483648 ≤ x2 ∧ x2 ≤ 2147483647) (g3 : -2147483648 ≤ x3 ∧ x3 ≤ 2147483647) : fx_VC (fx_Mx X) 105 [x1, x2, x3] S (fx_p105.getD 3 ([], .inl (0, 0))) := fx_VCR_ok (show fx_VCR (fx_Mx X) 105 [x1, x2, x3] S _ from q105_3 S x1 x2 x3 hS g1 g2 g3)
set_option maxRecDepth 40000 in
theorem u105_4 (X : (Int → Int) × Int) (S : fx_S) (x1 x2 x3 : Int) (hS : fx_Sok S) (g1 : -2147483648 ≤ x1 ∧ x1 ≤ 2147483647) (g2 : -2147483648 ≤ x2 ∧ x2 ≤ 2147483647) (g3 : -2147483648 ≤ x3 ∧ x3 ≤ 2147483647) : fx_VC (fx_Mx X) 105 [x1, x2, x3] S (fx_p105.getD 4 ([], .inl (0, 0))) := fx_VCR_ok (show fx_VCR (fx_Mx X) 105 [x1, x2, x3] S _ from q105_4 S x1 x2 x3 hS g1 g2 g3)
set_option maxRecDepth 40000 in
theorem u105_5 (X : (Int → Int) × Int) (S : fx_S) (x1 x2 x3 : Int) (hS : fx_Sok S) (g1 : -2147483648 ≤ x1 ∧ x1 ≤ 2147483647) (g2 : -2147483648 ≤ x2 ∧ x2 ≤ 2147483647) (g3 : -2147483648 ≤ x3 ∧ x3 ≤ 2147483647) : fx_VC (fx_Mx X) 105 [x1, x2, x3] S (fx_p105.getD 5 ([], .inl (0, 0))) := fx_VCR_ok (show fx_VCR (fx_Mx X) 105 [x1, x2, x3] S _ from q105_5 S x1 x2 x3 hS g1 g2 g3)
set_option maxRecDepth 40000 in
theorem w105 (X : (Int → Int) × Int) (zs : List Int) (S : fx_S) (hS : fx_Sok S) (hz : zs.length = (fx_lv0 fx_t105.2.2.1 0).2) (rz : fx_rz fx_t105 zs S) : ∀ p ∈ fx_p105, fx_VC (fx_Mx X) 105 zs S p := by
  obtain ⟨x1, x2, x3, rfl⟩ := fx_len3 hz
  have g1 : -2147483648 ≤ x1 ∧ x1 ≤ 2147483647 := rz 1 _ rfl
  have g2 : -2147483648 ≤ x2 ∧ x2 ≤ 2147483647 := rz 2 _ rfl
  have g3 : -2147483648 ≤ x3 ∧ x3 ≤ 2147483647 := rz 3 _ rfl
  exact List.forall_mem_cons.mpr ⟨(u105_0 X S x1 x2 x3 hS g1 g2 g3), List.forall_mem_cons.mpr ⟨(u105_1 X S x1 x2 x3 hS g1 g2 g3), List.forall_mem_cons.mpr ⟨(u105_2 X S x1 x2 x3 hS g1 g2 g3), List.forall_mem_cons.mpr ⟨(u105_3 X S x1 x2 x3 hS g1 g2 g3), List.forall_mem_cons.mpr ⟨(u105_4 X S x1 x2 x3 hS g1 g2 g3), List.forall_mem_cons.mpr ⟨(u105_5 X S x1 x2 x3 hS g1 g2 g3), fun _ h => absurd h List.not_mem_nil⟩⟩⟩⟩⟩⟩
set_option maxRecDepth 40000 in
theorem u106_0 (X : (Int → Int) × Int) (S : fx_S) (x1 x2 x3 : Int) (hS : fx_Sok S) (g1 : -2147483648 ≤ x1 ∧ x1 ≤ 2147483647) (g2 : -2147483648 ≤ x2 ∧ x2 ≤ 2147483647) (g3 : -2147483648 ≤ x3 ∧ x3 ≤ 2147483647) : fx_VC (fx_Mx X) 106 [x1, x2, x3] S (fx_p106.getD 0 ([], .inl (0, 0))) := fx_VCR_ok (show fx_VCR (fx_Mx X) 106 [x1, x2, x3] S _ from q106_0 S x1 x2 x3 hS g1 g2 g3)
set_option maxRecDepth 40000 in
theorem u106_1 (X : (Int → Int) × Int) (S : fx_S) (x1 x2 x3 : Int) (hS : fx_Sok S) (g1 : -2147483648 ≤ x1 ∧ x1 ≤ 2147483647) (g2 : -2147483648 ≤ x2 ∧ x2 ≤ 2147483647) (g3 : -2147483648 ≤ x3 ∧ x3 ≤ 2147483647) : fx_VC (fx_Mx X) 106 [x1, x2, x3] S (fx_p106.getD 1 ([], .inl (0, 0))) := fx_VCR_ok (show fx_VCR (fx_Mx X) 106 [x1, x2, x3] S _ from q106_1 S x1 x2 x3 hS g1 g2 g3)
set_option maxRecDepth 40000 in
theorem u106_2 (X : (Int → Int) × Int) (S : fx_S) (x1 x2 x3 : Int) (hS : fx_Sok S) (g1 : -2147483648 ≤ x1 ∧ x1 ≤ 2147483647) (g2 : -2147483648 ≤ x2 ∧ x2 ≤ 2147483647) (g3 : -2147483648 ≤ x3 ∧ x3 ≤ 2147483647) : fx_VC (fx_Mx X) 106 [x1, x2, x3] S (fx_p106.getD 2 ([], .inl (0, 0))) := fx_VCR_ok (show fx_VCR (fx_Mx X) 106 [x1, x2, x3] S _ from q106_2 S x1 x2 x3 hS g1 g2 g3)
set_option maxRecDepth 40000 in
theorem u106_3 (X : (Int → Int) × Int) (S : fx_S) (x1 x2 x3 : Int) (hS : fx_Sok S) (g1 : -2147483648 ≤ x1 ∧ x1 ≤ 2147483647) (g2 : -2147483648 ≤ x2 ∧ x2 ≤ 2147483647) (g3 : -2147483648 ≤ x3 ∧ x3 ≤ 2147483647) : fx_VC (fx_Mx X) 106 [x1, x2, x3] S (fx_p106.getD 3 ([], .inl (0, 0))) := fx_VCR_ok (show fx_VCR (fx_Mx X) 106 [x1, x2, x3] S _ from q106_3 S x1 x2 x3 hS g1 g2 g3)
set_option maxRecDepth 40000 in
theorem u106_4 (X : (Int → Int) × Int) (S : fx_S) (x1 x2 x3 : Int) (hS : fx_Sok S) (g1 : -2147483648 ≤ x1 ∧ x1 ≤ 2147483647) (g2 : -2147483648 ≤ x2 ∧ x2 ≤ 2147483647) (g3 : -2147483648 ≤ x3 ∧ x3 ≤ 2147483647) : fx_VC (fx_Mx X) 106 [x1, x2, x3] S (fx_p106.getD 4 ([], .inl (0, 0))) := fx_VCR_ok (show fx_VCR (fx_Mx X) 106 [x1, x2, x3] S _ from q106_4 S x1 x2 x3 hS g1 g2 g3)
set_option maxRecDepth 40000 in
theorem w106 (X : (Int → Int) × Int) (zs : List Int) (S : fx_S) (hS : fx_Sok S) (hz : zs.length = (fx_lv0 fx_t106.2.2.1 0).2) (rz : fx_rz fx_t106 zs S) : ∀ p ∈ fx_p106, fx_VC (fx_Mx X) 106 zs S p := by
  obtain ⟨x1, x2, x3, rfl⟩ := fx_len3 hz
  have g1 : -2147483648 ≤ x1 ∧ x1 ≤ 2147483647 := rz 1 _ rfl
  have g2 : -2147483648 ≤ x2 ∧ x2 ≤ 2147483647 := rz 2 _ rfl
  have g3 : -2147483648 ≤ x3 ∧ x3 ≤ 2147483647 := rz 3 _ rfl
  exact List.forall_mem_cons.mpr ⟨(u106_0 X S x1 x2 x3 hS g1 g2 g3), List.forall_mem_cons.mpr ⟨(u106_1 X S x1 x2 x3 hS g1 g2 g3), List.forall_mem_cons.mpr ⟨(u106_2 X S x1 x2 x3 hS g1 g2 g3), List.forall_mem_cons.mpr ⟨(u106_3 X S x1 x2 x3 hS g1 g2 g3), List.forall_mem_cons.mpr ⟨(u106_4 X S x1 x2 x3 hS g1 g2 g3), fun _ h => absurd h List.not_mem_nil⟩⟩⟩⟩⟩
set_option maxRecDepth 40000 in
theorem u107_0 (X : (Int → Int) × Int) (S : fx_S) (x1 x2 x3 : Int) (hS : fx_Sok S) (g1 : -2147483648 ≤ x1 ∧ x1 ≤ 2147483647) (g2 : -2147483648 ≤ x2 ∧ x2 ≤ 2147483647) (g3 : -9223372036854775808 ≤ x3 ∧ x3 ≤ 9223372036854775807) : fx_VC (fx_Mx X) 107 [x1, x2, x3] S (fx_p107.getD 0 ([], .inl (0, 0))) := fx_VCR_ok (show fx_VCR (fx_Mx X) 107 [x1, x2, x3] S _ from q107_0 S x1 x2 x3 hS g1 g2 g3)
set_option maxRecDepth 40000 in
theorem u107_1 (X : (Int → Int) × Int) (S : fx_S) (x1 x2 x3 : Int) (hS : fx_Sok S) (g1 : -2147483648 ≤ x1 ∧ x1 ≤ 2147483647) (g2 : -2147483648 ≤ x2 ∧ x2 ≤ 2147483647) (g3 : -9223372036854775808 ≤ x3 ∧ x3 ≤ 9223372036854775807) : fx_VC (fx_Mx X) 107 [x1, x2, x3] S (fx_p107.getD 1 ([], .inl (0, 0))) := fx_VCR_ok (show fx_VCR (fx_Mx X) 107 [x1, x2, x3] S _ from q107_1 S x1 x2 x3 hS g1 g2 g3)
set_option maxRecDepth 40000 in
theorem u107_2 (X : (Int → Int) × Int) (S : fx_S) (x1 x2 x3 : Int) (hS : fx_Sok S) (g1 : -2147483648 ≤ x1 ∧ x1 ≤ 2147483647) (g2 : -2147483648 ≤ x2 ∧ x2 ≤ 2147483647) (g3 : -9223372036854775808 ≤ x3 ∧ x3 ≤ 9223372036854775807) : fx_VC (fx_Mx X) 107 [x1, x2, x3] S (fx_p107.getD 2 ([], .inl (0, 0))) := fx_VCR_ok (show fx_VCR (fx_Mx X) 107 [x1, x2, x3] S _ from q107_2 S x1 x2 x3 hS g1 g2 g3)
set_option maxRecDepth 40000 in
theorem u107_3 (X : (Int → Int) × Int) (S : fx_S) (x1 x2 x3 : Int) (hS : fx_Sok S) (g1 : -2147483648 ≤ x1 ∧ x1 ≤ 2147483647) (g2 : -2147483648 ≤ x2 ∧ x2 ≤ 2147483647) (g3 : -9223372036854775808 ≤ x3 ∧ x3 ≤ 9223372036854775807) : fx_VC (fx_Mx X) 107 [x1, x2, x3] S (fx_p107.getD 3 ([], .inl (0, 0))) := fx_VCR_ok (show fx_VCR (fx_Mx X) 107 [x1, x2, x3] S _ from q107_3 S x1 x2 x3 hS g1 g2 g3)
set_option maxRecDepth 40000 in
theorem u107_4 (X : (Int → Int) × Int) (S : fx_S) (x1 x2 x3 : Int) (hS : fx_Sok S) (g1 : -2147483648 ≤ x1 ∧ x1 ≤ 2147483647) (g2 : -2147483648 ≤ x2 ∧ x2 ≤ 2147483647) (g3 : -9223372036854775808 ≤ x3 ∧ x3 ≤ 9223372036854775807) : fx_VC (fx_Mx X) 107 [x1, x2, x3] S (fx_p107.getD 4 ([], .inl (0, 0))) := fx_VCR_ok (show fx_VCR (fx_Mx X) 107 [x1, x2, x3] S _ from q107_4 S x1 x2 x3 hS g1 g2 g3)
set_option maxRecDepth 40000 in
theorem u107_5 (X : (Int → Int) × Int) (S : fx_S) (x1 x2 x3 : Int) (hS : fx_Sok S) (g1 : -2147483648 ≤ x1 ∧ x1 ≤ 2147483647) (g2 : -2147483648 ≤ x2 ∧ x2 ≤ 2147483647) (g3 : -9223372036854775808 ≤ x3 ∧ x3 ≤ 9223372036854775807) : fx_VC (fx_Mx X) 107 [x1, x2, x3] S (fx_p107.getD 5 ([], .inl (0, 0))) := fx_VCR_ok (show fx_VCR (fx_Mx X) 107 [x1, x2, x3] S _ from q107_5 S x1 x2 x3 hS g1 g2 g3)
