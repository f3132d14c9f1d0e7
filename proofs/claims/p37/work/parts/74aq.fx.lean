/-! FX: the paths of the entries, all -/
set_option maxRecDepth 40000 in
theorem u282_7 (X : (Int → Int) × Int) (S : fx_S) (x1 x2 x3 x4 : Int) (hS : fx_Sok S) (g1 : -2147483648 ≤ x1 ∧ x1 ≤ 2147483647) (g2 : -2147483648 ≤ x2 ∧ x2 ≤ 2147483647) (g3 : -2147483648 ≤ x3 ∧ x3 ≤ 2147483647) (g4 : -2147483648 ≤ x4 ∧ x4 ≤ 2147483647) : fx_VC (fx_Mx X) 282 [x1, x2, x3, x4] S (fx_p282.getD 7 ([], .inl (0, 0))) := fx_VCR_ok (show fx_VCR (fx_Mx X) 282 [x1, x2, x3, x4] S _ from q282_7 S x1 x2 x3 x4 hS g1 g2 g3 g4)
set_option maxRecDepth 40000 in
theorem u282_8 (X : (Int → Int) × Int) (S : fx_S) (x1 x2 x3 x4 : Int) (hS : fx_Sok S) (g1 : -2147483648 ≤ x1 ∧ x1 ≤ 2147483647) (g2 : -2147483648 ≤ x2 ∧ x2 ≤ 2147483647) (g3 : -2147483648 ≤ x3 ∧ x3 ≤ 2147483647) (g4 : -2147483648 ≤ x4 ∧ x4 ≤ 2147483647) : fx_VC (fx_Mx X) 282 [x1, x2, x3, x4] S (fx_p282.getD 8 ([], .inl (0, 0))) := fx_VCR_ok (show fx_VCR (fx_Mx X) 282 [x1, x2, x3, x4] S _ from q282_8 S x1 x2 x3 x4 hS g1 g2 g3 g4)
set_option maxRecDepth 40000 in
theorem u282_9 (X : (Int → Int) × Int) (S : fx_S) (x1 x2 x3 x4 : Int) (hS : fx_Sok S) (g1 : -2147483648 ≤ x1 ∧ x1 ≤ 2147483647) (g2 : -2147483648 ≤ x2 ∧ x2 ≤ 2147483647) (g3 : -2147483648 ≤ x3 ∧ x3 ≤ 2147483647) (g4 : -2147483648 ≤ x4 ∧ x4 ≤ 2147483647) : fx_VC (fx_Mx X) 282 [x1, x2, x3, x4] S (fx_p282.getD 9 ([], .inl (0, 0))) := fx_VCR_ok (show fx_VCR (fx_Mx X) 282 [x1, x2, x3, x4] S _ from q282_9 S x1 x2 x3 x4 hS g1 g2 g3 g4)
set_option maxRecDepth 40000 in
theorem w282 (X : (Int → Int) × Int) (zs : List Int) (S : fx_S) (hS : fx_Sok S) (hz : zs.length = (fx_lv0 fx_t282.2.2.1 0).2) (rz : fx_rz fx_t282 zs S) : ∀ p ∈ fx_p282, fx_VC (fx_Mx X) 282 zs S p := by
  obtain ⟨x1, x2, x3, x4, rfl⟩ := fx_len4 hz
  have g1 : -2147483648 ≤ x1 ∧ x1 ≤ 2147483647 := rz 1 _ rfl
  have g2 : -2147483648 ≤ x2 ∧ x2 ≤ 2147483647 := rz 2 _ rfl
  have g3 : -2147483648 ≤ x3 ∧ x3 ≤ 2147483647 := rz 3 _ rfl
  have g4 : -2147483648 ≤ x4 ∧ x4 ≤ 2147483647 := rz 4 _ rfl
  exact List.forall_mem_cons.mpr ⟨(u282_0 X S x1 x2 x3 x4 hS g1 g2 g3 g4), List.forall_mem_cons.mpr ⟨(u282_1 X S x1 x2 x3 x4 hS g1 g2 g3 g4), List.forall_mem_cons.mpr ⟨(u282_2 X S x1 x2 x3 x4 hS g1 g2 g3 g4), List.forall_mem_cons.mpr ⟨(u282_3 X S x1 x2 x3 x4 hS g1 g2 g3 g4), List.forall_mem_cons.mpr ⟨(u282_4 X S x1 x2 x3 x4 hS g1 g2 g3 g4), List.forall_mem_cons.mpr ⟨(u282_5 X S x1 x2 x3 x4 hS g1 g2 g3 g4), List.forall_mem_cons.mpr ⟨(u282_6 X S x1 x2 x3 x4 hS g1 g2 g3 g4), List.forall_mem_cons.mpr ⟨(u282_7 X S x1 x2 x3 x4 hS g1 g2 g3 g4), List.forall_mem_cons.mpr ⟨(u282_8 X S x1 x2 x3 x4 hS g1 g2 g3 g4), List.forall_mem_cons.mpr ⟨(u282_9 X S x1 x2 x3 x4 hS g1 g2 g3 g4), fun _ h => absurd h List.not_mem_nil⟩⟩⟩⟩⟩⟩⟩⟩⟩⟩
set_option maxRecDepth 40000 in
theorem u283_0 (X : (Int → Int) × Int) (S : fx_S) (x1 x2 x3 x4 : Int) (hS : fx_Sok S) (g1 : -2147483648 ≤ x1 ∧ x1 ≤ 2147483647) (g2 : -2147483648 ≤ x2 ∧ x2 ≤ 2147483647) (g3 : -2147483648 ≤ x3 ∧ x3 ≤ 2147483647) (g4 : -2147483648 ≤ x4 ∧ x4 ≤ 2147483647) : fx_VC (fx_Mx X) 283 [x1, x2, x3, x4] S (fx_p283.getD 0 ([], .inl (0, 0))) := fx_VCR_ok (show fx_VCR (fx_Mx X) 283 [x1, x2, x3, x4] S _ from q283_0 S x1 x2 x3 x4 hS g1 g2 g3 g4)
set_option maxRecDepth 40000 in
theorem u283_1 (X : (Int → Int) × Int) (S : fx_S) (x1 x2 x3 x4 : Int) (hS : fx_Sok S) (g1 : -2147483648 ≤ x1 ∧ x1 ≤ 2147483647) (g2 : -2147483648 ≤ x2 ∧ x2 ≤ 2147483647) (g3 : -2147483648 ≤ x3 ∧ x3 ≤ 2147483647) (g4 : -2147483648 ≤ x4 ∧ x4 ≤ 2147483647) : fx_VC (fx_Mx X) 283 [x1, x2, x3, x4] S (fx_p283.getD 1 ([], .inl (0, 0))) := fx_VCR_ok (show fx_VCR (fx_Mx X) 283 [x1, x2, x3, x4] S _ from q283_1 S x1 x2 x3 x4 hS g1 g2 g3 g4)
set_option maxRecDepth 40000 in
theorem u283_2 (X : (Int → Int) × Int) (S : fx_S) (x1 x2 x3 x4 : Int) (hS : fx_Sok S) (g1 : -2147483648 ≤ x1 ∧ x1 ≤ 2147483647) (g2 : -2147483648 ≤ x2 ∧ x2 ≤ 2147483647) (g3 : -2147483648 ≤ x3 ∧ x3 ≤ 2147483647) (g4 : -2147483648 ≤ x4 ∧ x4 ≤ 2147483647) : fx_VC (fx_Mx X) 283 [x1, x2, x3, x4] S (fx_p283.getD 2 ([], .inl (0, 0))) := fx_VCR_ok (show fx_VCR (fx_Mx X) 283 [x1, x2, x3, x4] S _ from q283_2 S x1 x2 x3 x4 hS g1 g2 g3 g4)
set_option maxRecDepth 40000 in
theorem u283_3 (X : (Int → Int) × Int) (S : fx_S) (x1 x2 x3 x4 : Int) (hS : fx_Sok S) (g1 : -2147483648 ≤ x1 ∧ x1 ≤ 2147483647) (g2 : -2147483648 ≤ x2 ∧ x2 ≤ 2147483647) (g3 : -2147483648 ≤ x3 ∧ x3 ≤ 2147483647) (g4 : -2147483648 ≤ x4 ∧ x4 ≤ 2147483647) : fx_VC (fx_Mx X) 283 [x1, x2, x3, x4] S (fx_p283.getD 3 ([], .inl (0, 0))) := fx_VCR_ok (show fx_VCR (fx_Mx X) 283 [x1, x2, x3, x4] S _ from q283_3 S x1 x2 x3 x4 hS g1 g2 g3 g4)
set_option maxRecDepth 40000 in
theorem u283_4 (X : (Int → Int) × Int) (S : fx_S) (x1 x2 x3 x4 : Int) (hS : fx_Sok S) (g1 : -2147483648 ≤ x1 ∧ x1 ≤ 2147483647) (g2 : -2147483648 ≤ x2 ∧ x2 ≤ 2147483647) (g3 : -2147483648 ≤ x3 ∧ x3 ≤ 2147483647) (g4 : -2147483648 ≤ x4 ∧ x4 ≤ 2147483647) : fx_VC (fx_Mx X) 283 [x1, x2, x3, x4] S (fx_p283.getD 4 ([], .inl (0, 0))) := fx_VCR_ok (show fx_VCR (fx_Mx X) 283 [x1, x2, x3, x4] S _ from q283_4 S x1 x2 x3 x4 hS g1 g2 g3 g4)
set_option maxRecDepth 40000 in
theorem u283_5 (X : (Int → Int) × Int) (S : fx_S) (x1 x2 x3 x4 : Int) (hS : fx_Sok S) (g1 : -2147483648 ≤ x1 ∧ x1 ≤ 2147483647) (g2 : -2147483648 ≤ x2 ∧ x2 ≤ 2147483647) (g3 : -2147483648 ≤ x3 ∧ x3 ≤ 2147483647) (g4 : -2147483648 ≤ x4 ∧ x4 ≤ 2147483647) : fx_VC (fx_Mx X) 283 [x1, x2, x3, x4] S (fx_p283.getD 5 ([], .inl (0, 0))) := fx_VCR_ok (show fx_VCR (fx_Mx X) 283 [x1, x2, x3, x4] S _ from q283_5 S x1 x2 x3 x4 hS g1 g2 g3 g4)
set_option maxRecDepth 40000 in
theorem u283_6 (X : (Int → Int) × Int) (S : fx_S) (x1 x2 x3 x4 : Int) (hS : fx_Sok S) (g1 : -2147483648 ≤ x1 ∧ x1 ≤ 2147483647) (g2 : -2147483648 ≤ x2 ∧ x2 ≤ 2147483647) (g3 : -2147483648 ≤ x3 ∧ x3 ≤ 2147483647) (g4 : -2147483648 ≤ x4 ∧ x4 ≤ 2147483647) : fx_VC (fx_Mx X) 283 [x1, x2, x3, x4] S (fx_p283.getD 6 ([], .inl (0, 0))) := fx_VCR_ok (show fx_VCR (fx_Mx X) 283 [x1, x2, x3, x4] S _ from q283_6 S x1 x2 x3 x4 hS g1 g2 g3 g4)
set_option maxRecDepth 40000 in
theorem u283_7 (X : (Int → Int) × Int) (S : fx_S) (x1 x2 x3 x4 : Int) (hS : fx_Sok S) (g1 : -2147483648 ≤ x1 ∧ x1 ≤ 2147483647) (g2 : -2147483648 ≤ x2 ∧ x2 ≤ 2147483647) (g3 : -2147483648 ≤ x3 ∧ x3 ≤ 2147483647) (g4 : -2147483648 ≤ x4 ∧ x4 ≤ 2147483647) : fx_VC (fx_Mx X) 283 [x1, x2, x3, x4] S (fx_p283.getD 7 ([], .inl (0, 0))) := fx_VCR_ok (show fx_VCR (fx_Mx X) 283 [x1, x2, x3, x4] S _ from q283_7 S x1 x2 x3 x4 hS g1 g2 g3 g4)
set_option maxRecDepth 40000 in
theorem w283 (X : (Int → Int) × Int) (zs : List Int) (S : fx_S) (hS : fx_Sok S) (hz : zs.length = (fx_lv0 fx_t283.2.2.1 0).2) (rz : fx_rz fx_t283 zs S) : ∀ p ∈ fx_p283, fx_VC (fx_Mx X) 283 zs S p := by
  obtain ⟨x1, x2, x3, x4, rfl⟩ := fx_len4 hz
  have g1 : -2147483648 ≤ x1 ∧ x1 ≤ 2147483647 := rz 1 _ rfl
  have g2 : -2147483648 ≤ x2 ∧ x2 ≤ 2147483647 := rz 2 _ rfl
  have g3 : -2147483648 ≤ x3 ∧ x3 ≤ 2147483647 := rz 3 _ rfl
  have g4 : -2147483648 ≤ x4 ∧ x4 ≤ 2147483647 := rz 4 _ rfl
  exact List.forall_mem_cons.mpr ⟨(u283_0 X S x1 x2 x3 x4 hS g1 g2 g3 g4), List.forall_mem_cons.mpr ⟨(u283_1 X S x1 x2 x3 x4 hS g1 g2 g3 g4), List.forall_mem_cons.mpr ⟨(u283_2 X S x1 x2 x3 x4 hS g1 g2 g3 g4), List.forall_mem_cons.mpr ⟨(u283_3 X S x1 x2 x3 x4 hS g1 g2 g3 g4), List.forall_mem_cons.mpr ⟨(u283_4 X S x1 x2 x3 x4 hS g1 g2 g3 g4), List.forall_mem_cons.mpr ⟨(u283_5 X S x1 x2 x3 x4 hS g1 g2 g3 g4), List.forall_mem_cons.mpr ⟨(u283_6 X S x1 x2 x3 x4 hS g1 g2 g3 g4), List.forall_mem_cons.mpr ⟨(u283_7 X S x1 x2 x3 x4 hS g1 g2 g3 g4), fun _ h => absurd h List.not_mem_nil⟩⟩⟩⟩⟩⟩⟩⟩
set_option maxRecDepth 40000 in
theorem u284_0 (X : (Int → Int) × Int) (S : fx_S) (x2 : Int) (hS : fx_Sok S) (g2 : -2147483648 ≤ x2 ∧ x2 ≤ 2147483647) : fx_VC (fx_Mx X) 284 [x2] S (fx_p284.getD 0 ([], .inl (0, 0))) := fx_VCR_ok (show fx_VCR (fx_Mx X) 284 [x2] S _ from q284_0 S x2 hS g2)
set_option maxRecDepth 40000 in
theorem u284_1 (X : (Int → Int) × Int) (S : fx_S) (x2 : Int) (hS : fx_Sok S) (g2 : -2147483648 ≤ x2 ∧ x2 ≤ 2147483647) : fx_VC (fx_Mx X) 284 [x2] S (fx_p284.getD 1 ([], .inl (0, 0))) := fx_VCR_ok (show fx_VCR (fx_Mx X) 284 [x2] S _ from q284_1 S x2 hS g2)
set_option maxRecDepth 40000 in
theorem w284 (X : (Int → Int) × Int) (zs : List Int) (S : fx_S) (hS : fx_Sok S) (hz : zs.length = (fx_lv0 fx_t284.2.2.1 0).2) (rz : fx_rz fx_t284 zs S) : ∀ p ∈ fx_p284, fx_VC (fx_Mx X) 284 zs S p := by
  obtain ⟨x2, rfl⟩ := fx_len1 hz
  have g2 : -2147483648 ≤ x2 ∧ x2 ≤ 2147483647 := rz 2 _ rfl
  exact List.forall_mem_cons.mpr ⟨(u284_0 X S x2 hS g2), List.forall_mem_cons.mpr ⟨(u284_1 X S x2 hS g2), fun _ h => absurd h List.not_mem_nil⟩⟩
set_option maxRecDepth 40000 in
theorem u285_0 (X : (Int → Int) × Int) (S : fx_S) (x1 x2 x3 x4 : Int) (hS : fx_Sok S) (g1 : -2147483648 ≤ x1 ∧ x1 ≤ 2147483647) (g2 : -2147483648 ≤ x2 ∧ x2 ≤ 2147483647) (g3 : -2147483648 ≤ x3 ∧ x3 ≤ 2147483647) (g4 : -2147483648 ≤ x4 ∧ x4 ≤ 2147483647) : fx_VC (fx_Mx X) 285 [x1, x2, x3, x4] S (fx_p285.getD 0 ([], .inl (0, 0))) := fx_VCR_ok (show fx_VCR (fx_Mx X) 285 [x1, x2, x3, x4] S _ from q285_0 S x1 x2 x3 x4 hS g1 g2 g3 g4)
set_option maxRecDepth 40000 in
theorem u285_1 (X : (Int → Int) × Int) (S : fx_S) (x1 x2 x3 x4 : Int) (hS : fx_Sok S) (g1 : -2147483648 ≤ x1 ∧ x1 ≤ 2147483647) (g2 : -2147483648 ≤ x2 ∧ x2 ≤ 2147483647) (g3 : -2147483648 ≤ x3 ∧ x3 ≤ 2147483647) (g4 : -2147483648 ≤ x4 ∧ x4 ≤ 2147483647) : fx_VC (fx_Mx X) 285 [x1, x2, x3, x4] S (fx_p285.getD 1 ([], .inl (0, 0))) := fx_VCR_ok (show fx_VCR (fx_Mx X) 285 [x1, x2, x3, x4] S _ from q285_1 S x1 x2 x3 x4 hS g1 g2 g3 g4)
set_option maxRecDepth 40000 in
theorem u285_2 (X : (Int → Int) × Int) (S : fx_S) (x1 x2 x3 x4 : Int) (hS : fx_Sok S) (g1 : -2147483648 ≤ x1 ∧ x1 ≤ 2147483647) (g2 : -2147483648 ≤ x2 ∧ x2 ≤ 2147483647) (g3 : -2147483648 ≤ x3 ∧ x3 ≤ 2147483647) (g4 : -2147483648 ≤ x4 ∧ x4 ≤ 2147483647) : fx_VC (fx_Mx X) 285 [x1, x2, x3, x4] S (fx_p285.getD 2 ([], .inl (0, 0))) := fx_VCR_ok (show fx_VCR (fx_Mx X) 285 [x1, x2, x3, x4] S _ from q285_2 S x1 x2 x3 x4 hS g1 g2 g3 g4)
set_option maxRecDepth 40000 in
theorem u285_3 (X : (Int → Int) × Int) (S : fx_S) (x1 x2 x3 x4 : Int) (hS : fx_Sok S) (g1 : -2147483648 ≤ x1 ∧ x1 ≤ 2147483647) (g2 : -2147483648 ≤ x2 ∧ x2 ≤ 2147483647) (g3 : -2147483648 ≤ x3 ∧ x3 ≤ 2147483647) (g4 : -2147483648 ≤ x4 ∧ x4 ≤ 2147483647) : fx_VC (fx_Mx X) 285 [x1, x2, x3, x4] S (fx_p285.getD 3 ([], .inl (0, 0))) := fx_VCR_ok (show fx_VCR (fx_Mx X) 285 [x1, x2, x3, x4] S _ from q285_3 S x1 x2 x3 x4 hS g1 g2 g3 g4)
set_option maxRecDepth 40000 in
theorem w285 (X : (Int → Int) × Int) (zs : List Int) (S : fx_S) (hS : fx_Sok S) (hz : zs.length = (fx_lv0 fx_t285.2.2.1 0).2) (rz : fx_rz fx_t285 zs S) : ∀ p ∈ fx_p285, fx_VC (fx_Mx X) 285 zs S p := by
  obtain ⟨x1, x2, x3, x4, rfl⟩ := fx_len4 hz
  have g1 : -2147483648 ≤ x1 ∧ x1 ≤ 2147483647 := rz 1 _ rfl
  have g2 : -2147483648 ≤ x2 ∧ x2 ≤ 2147483647 := rz 2 _ rfl
  have g3 : -2147483648 ≤ x3 ∧ x3 ≤ 2147483647 := rz 3 _ rfl
  have g4 : -2147483648 ≤ x4 ∧ x4 ≤ 2147483647 := rz 4 _ rfl
  exact List.forall_mem_cons.mpr ⟨(u285_0 X S x1 x2 x3 x4 hS g1 g2 g3 g4), List.forall_mem_cons.mpr ⟨(u285_1 X S x1 x2 x3 x4 hS g1 g2 g3 g4), List.forall_mem_cons.mpr ⟨(u285_2 X S x1 x2 x3 x4 hS g1 g2 g3 g4), List.forall_mem_cons.mpr ⟨(u285_3 X S x1 x2 x3 x4 hS g1 g2 g3 g4), fun _ h => absurd h List.not_mem_nil⟩⟩⟩⟩
set_option maxRecDepth 40000 in
theorem u286_0 (X : (Int → Int) × Int) (S : fx_S) (x4 : Int) (hS : fx_Sok S) (g4 : -2147483648 ≤ x4 ∧ x4 ≤ 2147483647) : fx_VC (fx_Mx X) 286 [x4] S (fx_p286.getD 0 ([], .inl (0, 0))) := fx_VCR_ok (show fx_VCR (fx_Mx X) 286 [x4] S _ from q286_0 S x4 hS g4)
set_option maxRecDepth 40000 in
theorem u286_1 (X : (Int → Int) × Int) (S : fx_S) (x4 : Int) (hS : fx_Sok S) (g4 : -2147483648 ≤ x4 ∧ x4 ≤ 2147483647) : fx_VC (fx_Mx X) 286 [x4] S (fx_p286.getD 1 ([], .inl (0, 0))) := fx_VCR_ok (show fx_VCR (fx_Mx X) 286 [x4] S _ from q286_1 S x4 hS g4)
set_option maxRecDepth 40000 in
theorem w286 (X : (Int → Int) × Int) (zs : List Int) (S : fx_S) (hS : fx_Sok S) (hz : zs.length = (fx_lv0 fx_t286.2.2.1 0).2) (rz : fx_rz fx_t286 zs S) : ∀ p ∈ fx_p286, fx_VC (fx_Mx X) 286 zs S p := by
  obtain ⟨x4, rfl⟩ := fx_len1 hz
  have g4 : -2147483648 ≤ x4 ∧ x4 ≤ 2147483647 := rz 4 _ rfl
  exact List.forall_mem_cons.mpr ⟨(u286_0 X S x4 hS g4), List.forall_mem_cons.mpr ⟨(u286_1 X S x4 hS g4), fun _ h => absurd h List.not_mem_nil⟩⟩
set_option maxRecDepth 40000 in
theorem u287_0 (X : (Int → Int) × Int) (S : fx_S) (x1 x2 : Int) (hS : fx_Sok S) (g1 : -2147483648 ≤ x1 ∧ x1 ≤ 2147483647) (g2 : -2147483648 ≤ x2 ∧ x2 ≤ 2147483647) : fx_VC (fx_Mx X) 287 [x1, x2] S (fx_p287.getD 0 ([], .inl (0, 0))) := fx_VCR_ok (show fx_VCR (fx_Mx X) 287 [x1, x2] S _ from q287_0 S x1 x2 hS g1 g2)
set_option maxRecDepth 40000 in
theorem u287_1 (X : (Int → Int) × Int) (S : fx_S) (x1 x2 : Int) (hS : fx_Sok S) (g1 : -2147483648 ≤ x1 ∧ x1 ≤ 2147483647) (g2 : -2147483648 ≤ x2 ∧ x2 ≤ 2147483647) : fx_VC (fx_Mx X) 287 [x1, x2] S (fx_p287.getD 1 ([], .inl (0, 0))) := fx_VCR_ok (show fx_VCR (fx_Mx X) 287 [x1, x2] S _ from q287_1 S x1 x2 hS g1 g2)
set_option maxRecDepth 40000 in
theorem u287_2 (X : (Int → Int) × Int) (S : fx_S) (x1 x2 : Int) (hS : fx_Sok S) (g1 : -2147483648 ≤ x1 ∧ x1 ≤ 2147483647) (g2 : -2147483648 ≤ x2 ∧ x2 ≤ 2147483647) : fx_VC (fx_Mx X) 287 [x1, x2] S (fx_p287.getD 2 ([], .inl (0, 0))) := fx_VCR_ok (show fx_VCR (fx_Mx X) 287 [x1, x2] S _ from q287_2 S x1 x2 hS g1 g2)
set_option maxRecDepth 40000 in
theorem w287 (X : (Int → Int) × Int) (zs : List Int) (S : fx_S) (hS : fx_Sok S) (hz : zs.length = (fx_lv0 fx_t287.2.2.1 0).2) (rz : fx_rz fx_t287 zs S) : ∀ p ∈ fx_p287, fx_VC (fx_Mx X) 287 zs S p := by
  obtain ⟨x1, x2, rfl⟩ := fx_len2 hz
  have g1 : -2147483648 ≤ x1 ∧ x1 ≤ 2147483647 := rz 1 _ rfl
  have g2 : -2147483648 ≤ x2 ∧ x2 ≤ 2147483647 := rz 2 _ rfl
  exact List.forall_mem_cons.mpr ⟨(u287_0 X S x1 x2 hS g1 g2), List.forall_mem_cons.mpr ⟨(u287_1 X S x1 x2 hS g1 g2), List.forall_mem_cons.mpr ⟨(u287_2 X S x1 x2 hS g1 g2), fun _ h => absurd h List.not_mem_nil⟩⟩⟩
set_option maxRecDepth 40000 in
theorem u288_0 (X : (Int → Int) × Int) (S : fx_S) (x0 : Int) (hS : fx_Sok S) (g0 : 0 ≤ x0 ∧ x0 < S.2.2) : fx_VC (fx_Mx X) 288 [x0] S (fx_p288.getD 0 ([], .inl (0, 0))) := fx_VCR_ok (show fx_VCR (fx_Mx X) 288 [x0] S _ from q288_0 S x0 hS g0)
set_option maxRecDepth 40000 in
theorem w288 (X : (Int → Int) × Int) (zs : List Int) (S : fx_S) (hS : fx_Sok S) (hz : zs.length = (fx_lv0 fx_t288.2.2.1 0).2) (rz : fx_rz fx_t288 zs S) : ∀ p ∈ fx_p288, fx_VC (fx_Mx X) 288 zs S p := by
  obtain ⟨x0, rfl⟩ := fx_len1 hz
  have g0 : 0 ≤ x0 ∧ x0 < S.2.2 := rz 0 _ rfl
  exact List.forall_mem_cons.mpr ⟨(u288_0 X S x0 hS g0), fun _ h => absurd h List.not_mem_nil⟩
set_option maxRecDepth 40000 in
theorem u289_0 (X : (Int → Int) × Int) (S : fx_S) (x0 : Int) (hS : fx_Sok S) (g0 : 0 ≤ x0 ∧ x0 < S.2.2) : fx_VC (fx_Mx X) 289 [x0] S (fx_p289.getD 0 ([], .inl (0, 0))) := fx_VCR_ok (show fx_VCR (fx_Mx X) 289 [x0] S _ from q289_0 S x0 hS g0)
set_option maxRecDepth 40000 in
theorem w289 (X : (Int → Int) × Int) (zs : List Int) (S : fx_S) (hS : fx_Sok S) (hz : zs.length = (fx_lv0 fx_t289.2.2.1 0).2) (rz : fx_rz fx_t289 zs S) : ∀ p ∈ fx_p289, fx_VC (fx_Mx X) 289 zs S p := by
  obtain ⟨x0, rfl⟩ := fx_len1 hz
  have g0 : 0 ≤ x0 ∧ x0 < S.2.2 := rz 0 _ rfl
  exact List.forall_mem_cons.mpr ⟨(u289_0 X S x0 hS g0), fun _ h => absurd h List.not_mem_nil⟩
set_option maxRecDepth 40000 in
theorem u290_0 (X : (Int → Int) × Int) (S : fx_S) (x0 : Int) (hS : fx_Sok S) (g0 : 0 ≤ x0 ∧ x0 < S.2.2) : fx_VC (fx_Mx X) 290 [x0] S (fx_p290.getD 0 ([], .inl (0, 0))) := fx_VCR_ok (show fx_VCR (fx_Mx X) 290 [x0] S _ from q290_0 S x0 hS g0)
set_option maxRecDepth 40000 in
theorem w290 (X : (Int → Int) × Int) (zs : List Int) (S : fx_S) (hS : fx_Sok S) (hz : zs.length = (fx_lv0 fx_t290.2.2.1 0).2) (rz : fx_rz fx_t290 zs S) : ∀ p ∈ fx_p290, fx_VC (fx_Mx X) 290 zs S p := by
  obtain ⟨x0, rfl⟩ := fx_len1 hz
  have g0 : 0 ≤ x0 ∧ x0 < S.2.2 := rz 0 _ rfl
  exact List.forall_mem_cons.mpr ⟨(u290_0 X S x0 hS g0), fun _ h => absurd h List.not_mem_nil⟩
set_option maxRecDepth 40000 in
theorem u291_0 (X : (Int → Int) × Int) (S : fx_S) (x0 : Int) (hS : fx_Sok S) (g0 : 0 ≤ x0 ∧ x0 < S.2.2) : fx_VC (fx_Mx X) 291 [x0] S (fx_p291.getD 0 ([], .inl (0, 0))) := fx_VCR_ok (show fx_VCR (fx_Mx X) 291 [x0] S _ from q291_0 S x0 hS g0)
set_option maxRecDepth 40000 in
theorem w291 (X : (Int → Int) × Int) (zs : List Int) (S : fx_S) (hS : fx_Sok S) (hz : zs.length = (fx_lv0 fx_t291.2.2.1 0).2) (rz : fx_rz fx_t291 zs S) : ∀ p ∈ fx_p291, fx_VC (fx_Mx X) 291 zs S p := by
  obtain ⟨x0, rfl⟩ := fx_len1 hz
  have g0 : 0 ≤ x0 ∧ x0 < S.2.2 := rz 0 _ rfl
  exact List.forall_mem_cons.mpr ⟨(u291_0 X S x0 hS g0), fun _ h => absurd h List.not_mem_nil⟩
set_option maxRecDepth 40000 in
theorem u292_0 (X : (Int → Int) × Int) (S : fx_S) (x0 : Int) (hS : fx_Sok S) (g0 : 0 ≤ x0 ∧ x0 < S.2.2) : fx_VC (fx_Mx X) 292 [x0] S (fx_p292.getD 0 ([], .inl (0, 0))) := fx_VCR_ok (show fx_VCR (fx_Mx X) 292 [x0] S _ from q292_0 S x0 hS g0)
set_option maxRecDepth 40000 in
theorem w292 (X : (Int → Int) × Int) (zs : List Int) (S : fx_S) (hS : fx_Sok S) (hz : zs.length = (fx_lv0 fx_t292.2.2.1 0).2) (rz : fx_rz fx_t292 zs S) : ∀ p ∈ fx_p292, fx_VC (fx_Mx X) 292 zs S p := by
  obtain ⟨x0, rfl⟩ := fx_len1 hz
  have g0 : 0 ≤ x0 ∧ x0 < S.2.2 := rz 0 _ rfl
  exact List.forall_mem_cons.mpr ⟨(u292_0 X S x0 hS g0), fun _ h => absurd h List.not_mem_nil⟩
set_option maxRecDepth 40000 in
theorem u293_0 (X : (Int → Int) × Int) (S : fx_S) (x0 : Int) (hS : fx_Sok S) (g0 : 0 ≤ x0 ∧ x0 < S.2.2) : fx_VC (fx_Mx X) 293 [x0] S (fx_p293.getD 0 ([], .inl (0, 0))) := fx_VCR_ok (show fx_VCR (fx_Mx X) 293 [x0] S _ from q293_0 S x0 hS g0)
set_option maxRecDepth 40000 in
theorem w293 (X : (Int → Int) × Int) (zs : List Int) (S : fx_S) (hS : fx_Sok S) (hz : zs.length = (fx_lv0 fx_t293.2.2.1 0).2) (rz : fx_rz fx_t293 zs S) : ∀ p ∈ fx_p293, fx_VC (fx_Mx X) 293 zs S p := by
  obtain ⟨x0, rfl⟩ := fx_len1 hz
  have g0 : 0 ≤ x0 ∧ x0 < S.2.2 := rz 0 _ rfl
  exact List.forall_mem_cons.mpr ⟨(u293_0 X S x0 hS g0), fun _ h => absurd h List.not_mem_nil⟩
set_option maxRecDepth 40000 in
theorem u294_0 (X : (Int → Int) × Int) (S : fx_S) (x1 : Int) (hS : fx_Sok S) (g1 : 0 ≤ x1 ∧ x1 < S.2.2) : fx_VC (fx_Mx X) 294 [x1] S (fx_p294.getD 0 ([], .inl (0, 0))) := fx_VCR_ok (show fx_VCR (fx_Mx X) 294 [x1] S _ from q294_0 S x1 hS g1)
set_option maxRecDepth 40000 in
theorem w294 (X : (Int → Int) × Int) (zs : List Int) (S : fx_S) (hS : fx_Sok S) (hz : zs.length = (fx_lv0 fx_t294.2.2.1 0).2) (rz : fx_rz fx_t294 zs S) : ∀ p ∈ fx_p294, fx_VC (fx_Mx X) 294 zs S p := by
  obtain ⟨x1, rfl⟩ := fx_len1 hz
  have g1 : 0 ≤ x1 ∧ x1 < S.2.2 := rz 1 _ rfl
  exact List.forall_mem_cons.mpr ⟨(u294_0 X S x1 hS g1), fun _ h => absurd h List.not_mem_nil⟩
set_option maxRecDepth 40000 in
theorem u295_0 (X : (Int → Int) × Int) (S : fx_S) (x1 : Int) (hS : fx_Sok S) (g1 : 0 ≤ x1 ∧ x1 < S.2.2) : fx_VC (fx_Mx X) 295 [x1] S (fx_p295.getD 0 ([], .inl (0, 0))) := fx_VCR_ok (show fx_VCR (fx_Mx X) 295 [x1] S _ from q295_0 S x1 hS g1)
set_option maxRecDepth 40000 in
theorem w295 (X : (Int → Int) × Int) (zs : List Int) (S : fx_S) (hS : fx_Sok S) (hz : zs.length = (fx_lv0 fx_t295.2.2.1 0).2) (rz : fx_rz fx_t295 zs S) : ∀ p ∈ fx_p295, fx_VC (fx_Mx X) 295 zs S p := by
  obtain ⟨x1, rfl⟩ := fx_len1 hz
  have g1 : 0 ≤ x1 ∧ x1 < S.2.2 := rz 1 _ rfl
  exact List.forall_mem_cons.mpr ⟨(u295_0 X S x1 hS g1), fun _ h => absurd h List.not_mem_nil⟩
set_option maxRecDepth 40000 in
theorem u296_0 (X : (Int → Int) × Int) (S : fx_S) (x1 : Int) (hS : fx_Sok S) (g1 : 0 ≤ x1 ∧ x1 < S.2.2) : fx_VC (fx_Mx X) 296 [x1] S (fx_p296.getD 0 ([], .inl (0, 0))) := fx_VCR_ok (show fx_VCR (fx_Mx X) 296 [x1] S _ from q296_0 S x1 hS g1)
set_option maxRecDepth 40000 in
theorem w296 (X : (Int → Int) × Int) (zs : List Int) (S : fx_S) (hS : fx_Sok S) (hz : zs.length = (fx_lv0 fx_t296.2.2.1 0).2) (rz : fx_rz fx_t296 zs S) : ∀ p ∈ fx_p296, fx_VC (fx_Mx X) 296 zs S p := by
  obtain ⟨x1, rfl⟩ := fx_len1 hz
  have g1 : 0 ≤ x1 ∧ x1 < S.2.2 := rz 1 _ rfl
  exact List.forall_mem_cons.mpr ⟨(u296_0 X S x1 hS g1), fun _ h => absurd h List.not_mem_nil⟩
set_option maxRecDepth 40000 in
theorem u297_0 (X : (Int → Int) × Int) (S : fx_S) (x1 : Int) (hS : fx_Sok S) (g1 : 0 ≤ x1 ∧ x1 < S.2.2) : fx_VC (fx_Mx X) 297 [x1] S (fx_p297.getD 0 ([], .inl (0, 0))) := fx_VCR_ok (show fx_VCR (fx_Mx X) 297 [x1] S _ from q297_0 S x1 hS g1)
set_option maxRecDepth 40000 in
theorem w297 (X : (Int → Int) × Int) (zs : List Int) (S : fx_S) (hS : fx_Sok S) (hz : zs.length = (fx_lv0 fx_t297.2.2.1 0).2) (rz : fx_rz fx_t297 zs S) : ∀ p ∈ fx_p297, fx_VC (fx_Mx X) 297 zs S p := by
  obtain ⟨x1, rfl⟩ := fx_len1 hz
  have g1 : 0 ≤ x1 ∧ x1 < S.2.2 := rz 1 _ rfl
  exact List.forall_mem_cons.mpr ⟨(u297_0 X S x1 hS g1), fun _ h => absurd h List.not_mem_nil⟩
set_option maxRecDepth 40000 in
theorem u298_0 (X : (Int → Int) × Int) (S : fx_S) (x1 : Int) (hS : fx_Sok S) (g1 : 0 ≤ x1 ∧ x1 < S.2.2) : fx_VC (fx_Mx X) 298 [x1] S (fx_p298.getD 0 ([], .inl (0, 0))) := fx_VCR_ok (show fx_VCR (fx_Mx X) 298 [x1] S _ from q298_0 S x1 hS g1)
set_option maxRecDepth 40000 in
theorem w298 (X : (Int → Int) × Int) (zs : List Int) (S : fx_S) (hS : fx_Sok S) (hz : zs.length = (fx_lv0 fx_t298.2.2.1 0).2) (rz : fx_rz fx_t298 zs S) : ∀ p ∈ fx_p298, fx_VC (fx_Mx X) 298 zs S p := by
  obtain ⟨x1, rfl⟩ := fx_len1 hz
  have g1 : 0 ≤ x1 ∧ x1 < S.2.2 := rz 1 _ rfl
  exact List.forall_mem_cons.mpr ⟨(u298_0 X S x1 hS g1), fun _ h => absurd h List.not_mem_nil⟩
set_option maxRecDepth 40000 in
theorem u299_0 (X : (Int → Int) × Int) (S : fx_S) (x1 : Int) (hS : fx_Sok S) (g1 : 0 ≤ x1 ∧ x1 < S.2.2) : fx_VC (fx_Mx X) 299 [x1] S (fx_p299.getD 0 ([], .inl (0, 0))) := fx_VCR_ok (show fx_VCR (fx_Mx X) 299 [x1] S _ from q299_0 S x1 hS g1)
set_option maxRecDepth 40000 in
theorem w299 (X : (Int → Int) × Int) (zs : List Int) (S : fx_S) (hS : fx_Sok S) (hz : zs.length = (fx_lv0 fx_t299.2.2.1 0).2) (rz : fx_rz fx_t299 zs S) : ∀ p ∈ fx_p299, fx_VC (fx_Mx X) 299 zs S p := by
  obtain ⟨x1, rfl⟩ := fx_len1 hz
  have g1 : 0 ≤ x1 ∧ x1 < S.2.2 := rz 1 _ rfl
  exact List.forall_mem_cons.mpr ⟨(u299_0 X S x1 hS g1), fun _ h => absurd h List.not_mem_nil⟩
set_option maxRecDepth 40000 in
theorem u300_0 (X : (Int → Int) × Int) (S : fx_S) (x1 x4 : Int) (hS : fx_Sok S) (g1 : -2147483648 ≤ x1 ∧ x1 ≤ 2147483647) (g4 : -2147483648 ≤ x4 ∧ x4 ≤ 2147483647) : fx_VC (fx_Mx X) 300 [x1, x4] S (fx_p300.getD 0 ([], .inl (0, 0))) := fx_VCR_ok (show fx_VCR (fx_Mx X) 300 [x1, x4] S _ from q300_0 S x1 x4 hS g1 g4)
set_option maxRecDepth 40000 in
theorem u300_1 (X : (Int → Int) × Int) (S : fx_S) (x1 x4 : Int) (hS : fx_Sok S) (g1 : -2147483648 ≤ x1 ∧ x1 ≤ 2147483647) (g4 : -2147483648 ≤ x4 ∧ x4 ≤ 2147483647) : fx_VC (fx_Mx X) 300 [x1, x4] S (fx_p300.getD 1 ([], .inl (0, 0))) := fx_VCR_ok (show fx_VCR (fx_Mx X) 300 [x1, x4] S _ from q300_1 S x1 x4 hS g1 g4)
set_option maxRecDepth 40000 in
theorem w300 (X : (Int → Int) × Int) (zs : List Int) (S : fx_S) (hS : fx_Sok S) (hz : zs.length = (fx_lv0 fx_t300.2.2.1 0).2) (rz : fx_rz fx_t300 zs S) : ∀ p ∈ fx_p300, fx_VC (fx_Mx X) 300 zs S p := by
  obtain ⟨x1, x4, rfl⟩ := fx_len2 hz
  have g1 : -2147483648 ≤ x1 ∧ x1 ≤ 2147483647 := rz 1 _ rfl
  have g4 : -2147483648 ≤ x4 ∧ x4 ≤ 2147483647 := rz 4 _ rfl
  exact List.forall_mem_cons.mpr ⟨(u300_0 X S x1 x4 hS g1 g4), List.forall_mem_cons.mpr ⟨(u300_1 X S x1 x4 hS g1 g4), fun _ h => absurd h List.not_mem_nil⟩⟩
set_option maxRecDepth 40000 in
theorem u301_0 (X : (Int → Int) × Int) (S : fx_S) (x3 x4 x5 x6 : Int) (hS : fx_Sok S) (g3 : -2147483648 ≤ x3 ∧ x3 ≤ 2147483647) (g4 : -2147483648 ≤ x4 ∧ x4 ≤ 2147483647) (g5 : -2147483648 ≤ x5 ∧ x5 ≤ 2147483647) (g6 : -2147483648 ≤ x6 ∧ x6 ≤ 2147483647) : fx_VC (fx_Mx X) 301 [x3, x4, x5, x6] S (fx_p301.getD 0 ([], .inl (0, 0))) := fx_VCR_ok (show fx_VCR (fx_Mx X) 301 [x3, x4, x5, x6] S _ from q301_0 S x3 x4 x5 x6 hS g3 g4 g5 g6)
set_option maxRecDepth 40000 in
theorem u301_1 (X : (Int → Int) × Int) (S : fx_S) (x3 x4 x5 x6 : Int) (hS : fx_Sok S) (g3 : -2147483648 ≤ x3 ∧ x3 ≤ 2147483647) (g4 : -2147483648 ≤ x4 ∧ x4 ≤ 2147483647) (g5 : -2147483648 ≤ x5 ∧ x5 ≤ 2147483647) (g6 : -2147483648 ≤ x6 ∧ x6 ≤ 2147483647) : fx_VC (fx_Mx X) 301 [x3, x4, x5, x6] S (fx_p301.getD 1 ([], .inl (0, 0))) := fx_VCR_ok (show fx_VCR (fx_Mx X) 301 [x3, x4, x5, x6] S _ from q301_1 S x3 x4 x5 x6 hS g3 g4 g5 g6)
set_option maxRecDepth 40000 in
theorem w301 (X : (Int → Int) × Int) (zs : List Int) (S : fx_S) (hS : fx_Sok S) (hz : zs.length = (fx_lv0 fx_t301.2.2.1 0).2) (rz : fx_rz fx_t301 zs S) : ∀ p ∈ fx_p301, fx_VC (fx_Mx X) 301 zs S p := by
  obtain ⟨x3, x4, x5, x6, rfl⟩ := fx_len4 hz
  have g3 : -2147483648 ≤ x3 ∧ x3 ≤ 2147483647 := rz 3 _ rfl
  have g4 : -2147483648 ≤ x4 ∧ x4 ≤ 2147483647 := rz 4 _ rfl
  have g5 : -2147483648 ≤ x5 ∧ x5 ≤ 2147483647 := rz 5 _ rfl
  have g6 : -2147483648 ≤ x6 ∧ x6 ≤ 2147483647 := rz 6 _ rfl
  exact List.forall_mem_cons.mpr ⟨(u301_0 X S x3 x4 x5 x6 hS g3 g4 g5 g6), List.forall_mem_cons.mpr ⟨(u301_1 X S x3 x4 x5 x6 hS g3 g4 g5 g6), fun _ h => absurd h List.not_mem_nil⟩⟩
set_option maxRecDepth 40000 in
theorem u302_0 (X : (Int → Int) × Int) (S : fx_S) (hS : fx_Sok S) : fx_VC (fx_Mx X) 302 [] S (fx_p302.getD 0 ([], .inl (0, 0))) := fx_VCR_ok (show fx_VCR (fx_Mx X) 302 [] S _ from q302_0 S hS)
set_option maxRecDepth 40000 in
theorem u302_1 (X : (Int → Int) × Int) (S : fx_S) (hS : fx_Sok S) : fx_VC (fx_Mx X) 302 [] S (fx_p302.getD 1 ([], .inl (0, 0))) := fx_VCR_ok (show fx_VCR (fx_Mx X) 302 [] S _ from q302_1 S hS)
set_option maxRecDepth 40000 in
theorem u302_2 (X : (Int → Int) × Int) (S : fx_S) (hS : fx_Sok S) : fx_VC (fx_Mx X) 302 [] S (fx_p302.getD 2 ([], .inl (0, 0))) := fx_VCR_ok (show fx_VCR (fx_Mx X) 302 [] S _ from q302_2 S hS)
set_option maxRecDepth 40000 in
theorem u302_3 (X : (Int → Int) × Int) (S : fx_S) (hS : fx_Sok S) : fx_VC (fx_Mx X) 302 [] S (fx_p302.getD 3 ([], .inl (0, 0))) := fx_VCR_ok (show fx_VCR (fx_Mx X) 302 [] S _ from q302_3 S hS)
set_option maxRecDepth 40000 in
theorem u302_4 (X : (Int → Int) × Int) (S : fx_S) (hS : fx_Sok S) : fx_VC (fx_Mx X) 302 [] S (fx_p302.getD 4 ([], .inl (0, 0))) := fx_VCR_ok (show fx_VCR (fx_Mx X) 302 [] S _ from q302_4 S hS)
set_option maxRecDepth 40000 in
theorem u302_5 (X : (Int → Int) × Int) (S : fx_S) (hS : fx_Sok S) : fx_VC (fx_Mx X) 302 [] S (fx_p302.getD 5 ([], .inl (0, 0))) := fx_VCR_ok (show fx_VCR (fx_Mx X) 302 [] S _ from q302_5 S hS)
set_option maxRecDepth 40000 in
theorem u302_6 (X : (Int → Int) × Int) (S : fx_S) (hS : fx_Sok S) : fx_VC (fx_Mx X) 302 [] S (fx_p302.getD 6 ([], .inl (0, 0))) := fx_VCR_ok (show fx_VCR (fx_Mx X) 302 [] S _ from q302_6 S hS)
set_option maxRecDepth 40000 in
theorem u302_7 (X : (Int → Int) × Int) (S : fx_S) (hS : fx_Sok S) : fx_VC (fx_Mx X) 302 [] S (fx_p302.getD 7 ([], .inl (0, 0))) := fx_VCR_ok (show fx_VCR (fx_Mx X) 302 [] S _ from q302_7 S hS)
set_option maxRecDepth 40000 in
theorem u302_8 (X : (Int → Int) × Int) (S : fx_S) (hS : fx_Sok S) : fx_VC (fx_Mx X) 302 [] S (fx_p302.getD 8 ([], .inl (0, 0))) := fx_VCR_ok (show fx_VCR (fx_Mx X) 302 [] S _ from q302_8 S hS)
set_option maxRecDepth 40000 in
theorem w302 (X : (Int → Int) × Int) (zs : List Int) (S : fx_S) (hS : fx_Sok S) (hz : zs.length = (fx_lv0 fx_t302.2.2.1 0).2) (rz : fx_rz fx_t302 zs S) : ∀ p ∈ fx_p302, fx_VC (fx_Mx X) 302 zs S p := by
  obtain rfl := List.eq_nil_of_length_eq_zero hz
  exact List.forall_mem_cons.mpr ⟨(u302_0 X S hS), List.forall_mem_cons.mpr ⟨(u302_1 X S hS), List.forall_mem_cons.mpr ⟨(u302_2 X S hS), List.forall_mem_cons.mpr ⟨(u302_3 X S hS), List.forall_mem_cons.mpr ⟨(u302_4 X S hS), List.forall_mem_cons.mpr ⟨(u302_5 X S hS), List.forall_mem_cons.mpr ⟨(u302_6 X S hS), List.forall_mem_cons.mpr ⟨(u302_7 X S hS), List.forall_mem_cons.mpr ⟨(u302_8 X S hS), fun _ h => absurd h List.not_mem_nil⟩⟩⟩⟩⟩⟩⟩⟩⟩
set_option maxRecDepth 40000 in
theorem u303_0 (X : (Int → Int) × Int) (S : fx_S) (x1 x3 : Int) (hS : fx_Sok S) (g1 : 0 ≤ x1 ∧ x1 < S.2.2) (g3 : -2147483648 ≤ x3 ∧ x3 ≤ 2147483647) : fx_VC (fx_Mx X) 303 [x1, x3] S (fx_p303.getD 0 ([], .inl (0, 0))) := fx_VCR_ok (show fx_VCR (fx_Mx X) 303 [x1, x3] S _ from q303_0 S x1 x3 hS g1 g3)
set_option maxRecDepth 40000 in
theorem u303_1 (X : (Int → Int) × Int) (S : fx_S) (x1 x3 : Int) (hS : fx_Sok S) (g1 : 0 ≤ x1 ∧ x1 < S.2.2) (g3 : -2147483648 ≤ x3 ∧ x3 ≤ 2147483647) : fx_VC (fx_Mx X) 303 [x1, x3] S (fx_p303.getD 1 ([], .inl (0, 0))) := fx_VCR_ok (show fx_VCR (fx_Mx X) 303 [x1, x3] S _ from q303_1 S x1 x3 hS g1 g3)
set_option maxRecDepth 40000 in
theorem u303_2 (X : (Int → Int) × Int) (S : fx_S) (x1 x3 : Int) (hS : fx_Sok S) (g1 : 0 ≤ x1 ∧ x1 < S.2.2) (g3 : -2147483648 ≤ x3 ∧ x3 ≤ 2147483647) : fx_VC (fx_Mx X) 303 [x1, x3] S (fx_p303.getD 2 ([], .inl (0, 0))) := fx_VCR_ok (show fx_VCR (fx_Mx X) 303 [x1, x3] S _ from q303_2 S x1 x3 hS g1 g3)
set_option maxRecDepth 40000 in
theorem u303_3 (X : (Int → Int) × Int) (S : fx_S) (x1 x3 : Int) (hS : fx_Sok S) (g1 : 0 ≤ x1 ∧ x1 < S.2.2) (g3 : -2147483648 ≤ x3 ∧ x3 ≤ 2147483647) : fx_VC (fx_Mx X) 303 [x1, x3] S (fx_p303.getD 3 ([], .inl (0, 0))) := fx_VCR_ok (show fx_VCR (fx_Mx X) 303 [x1, x3] S _ from q303_3 S x1 x3 hS g1 g3)
set_option maxRecDepth 40000 in
theorem u303_4 (X : (Int → Int) × Int) (S : fx_S) (x1 x3 : Int) (hS : fx_Sok S) (g1 : 0 ≤ x1 ∧ x1 < S.2.2) (g3 : -2147483648 ≤ x3 ∧ x3 ≤ 2147483647) : fx_VC (fx_Mx X) 303 [x1, x3] S (fx_p303.getD 4 ([], .inl (0, 0))) := fx_VCR_ok (show fx_VCR (fx_Mx X) 303 [x1, x3] S _ from q303_4 S x1 x3 hS g1 g3)
set_option maxRecDepth 40000 in
theorem u303_5 (X : (Int → Int) × Int) (S : fx_S) (x1 x3 : Int) (hS : fx_Sok S) (g1 : 0 ≤ x1 ∧ x1 < S.2.2) (g3 : -2147483648 ≤ x3 ∧ x3 ≤ 2147483647) : fx_VC (fx_Mx X) 303 [x1, x3] S (fx_p303.getD 5 ([], .inl (0, 0))) := fx_VCR_ok (show fx_VCR (fx_Mx X) 303 [x1, x3] S _ from q303_5 S x1 x3 hS g1 g3)
set_option maxRecDepth 40000 in
theorem u303_6 (X : (Int → Int) × Int) (S : fx_S) (x1 x3 : Int) (hS : fx_Sok S) (g1 : 0 ≤ x1 ∧ x1 < S.2.2) (g3 : -2147483648 ≤ x3 ∧ x3 ≤ 2147483647) : fx_VC (fx_Mx X) 303 [x1, x3] S (fx_p303.getD 6 ([], .inl (0, 0))) := fx_VCR_ok (show fx_VCR (fx_Mx X) 303 [x1, x3] S _ from q303_6 S x1 x3 hS g1 g3)
set_option maxRecDepth 40000 in
theorem w303 (X : (Int → Int) × Int) (zs : List Int) (S : fx_S) (hS : fx_Sok S) (hz : zs.length = (fx_lv0 fx_t303.2.2.1 0).2) (rz : fx_rz fx_t303 zs S) : ∀ p ∈ fx_p303, fx_VC (fx_Mx X) 303 zs S p := by
  obtain ⟨x1, x3, rfl⟩ := fx_len2 hz
  have g1 : 0 ≤ x1 ∧ x1 < S.2.2 := rz 1 _ rfl
  have g3 : -2147483648 ≤ x3 ∧ x3 ≤ 2147483647 := rz 3 _ rfl
  exact List.forall_mem_cons.mpr ⟨(u303_0 X S x1 x3 hS g1 g3), List.forall_mem_cons.mpr ⟨(u303_1 X S x1 x3 hS g1 g3), List.forall_mem_cons.mpr ⟨(u303_2 X S x1 x3 hS g1 g3), List.forall_mem_cons.mpr ⟨(u303_3 X S x1 x3 hS g1 g3), List.forall_mem_cons.mpr ⟨(u303_4 X S x1 x3 hS g1 g3), List.forall_mem_cons.mpr ⟨(u303_5 X S x1 x3 hS g1 g3), List.forall_mem_cons.mpr ⟨(u303_6 X S x1 x3 hS g1 g3), fun _ h => absurd h List.not_mem_nil⟩⟩⟩⟩⟩⟩⟩
set_option maxRecDepth 40000 in
theorem u304_0 (X : (Int → Int) × Int) (S : fx_S) (x1 : Int) (hS : fx_Sok S) : fx_VC (fx_Mx X) 304 [x1] S (fx_p304.getD 0 ([], .inl (0, 0))) := fx_VCR_ok (show fx_VCR (fx_Mx X) 304 [x1] S _ from q304_0 S x1 hS)
