/-! FX: the paths of the entries, all -/
set_option maxRecDepth 40000 in
theorem u393_47 (X : (Int → Int) × Int) (S : fx_S) (x1 : Int) (hS : fx_Sok S) (g1 : -2147483648 ≤ x1 ∧ x1 ≤ 2147483647) : fx_VC (fx_Mx X) 393 [x1] S (fx_p393.getD 47 ([], .inl (0, 0))) := fx_VCR_ok (show fx_VCR (fx_Mx X) 393 [x1] S _ from q393_47 S x1 hS g1)
set_option maxRecDepth 40000 in
theorem u393_48 (X : (Int → Int) × Int) (S : fx_S) (x1 : Int) (hS : fx_Sok S) (g1 : -2147483648 ≤ x1 ∧ x1 ≤ 2147483647) : fx_VC (fx_Mx X) 393 [x1] S (fx_p393.getD 48 ([], .inl (0, 0))) := fx_VCR_ok (show fx_VCR (fx_Mx X) 393 [x1] S _ from q393_48 S x1 hS g1)
set_option maxRecDepth 40000 in
theorem u393_49 (X : (Int → Int) × Int) (S : fx_S) (x1 : Int) (hS : fx_Sok S) (g1 : -2147483648 ≤ x1 ∧ x1 ≤ 2147483647) : fx_VC (fx_Mx X) 393 [x1] S (fx_p393.getD 49 ([], .inl (0, 0))) := fx_VCR_ok (show fx_VCR (fx_Mx X) 393 [x1] S _ from q393_49 S x1 hS g1)
set_option maxRecDepth 40000 in
theorem u393_50 (X : (Int → Int) × Int) (S : fx_S) (x1 : Int) (hS : fx_Sok S) (g1 : -2147483648 ≤ x1 ∧ x1 ≤ 2147483647) : fx_VC (fx_Mx X) 393 [x1] S (fx_p393.getD 50 ([], .inl (0, 0))) := fx_VCR_ok (show fx_VCR (fx_Mx X) 393 [x1] S _ from q393_50 S x1 hS g1)
set_option maxRecDepth 40000 in
theorem w393 (X : (Int → Int) × Int) (zs : List Int) (S : fx_S) (hS : fx_Sok S) (hz : zs.length = (fx_lv0 fx_t393.2.2.1 0).2) (rz : fx_rz fx_t393 zs S) : ∀ p ∈ fx_p393, fx_VC (fx_Mx X) 393 zs S p := by
  obtain ⟨x1, rfl⟩ := fx_len1 hz
  have g1 : -2147483648 ≤ x1 ∧ x1 ≤ 2147483647 := rz 1 _ rfl
  exact List.forall_mem_cons.mpr ⟨(u393_0 X S x1 hS g1), List.forall_mem_cons.mpr ⟨(u393_1 X S x1 hS g1), List.forall_mem_cons.mpr ⟨(u393_2 X S x1 hS g1), List.forall_mem_cons.mpr ⟨(u393_3 X S x1 hS g1), List.forall_mem_cons.mpr ⟨(u393_4 X S x1 hS g1), List.forall_mem_cons.mpr ⟨(u393_5 X S x1 hS g1), List.forall_mem_cons.mpr ⟨(u393_6 X S x1 hS g1), List.forall_mem_cons.mpr ⟨(u393_7 X S x1 hS g1), List.forall_mem_cons.mpr ⟨(u393_8 X S x1 hS g1), List.forall_mem_cons.mpr ⟨(u393_9 X S x1 hS g1), List.forall_mem_cons.mpr ⟨(u393_10 X S x1 hS g1), List.forall_mem_cons.mpr ⟨(u393_11 X S x1 hS g1), List.forall_mem_cons.mpr ⟨(u393_12 X S x1 hS g1), List.forall_mem_cons.mpr ⟨(u393_13 X S x1 hS g1), List.forall_mem_cons.mpr ⟨(u393_14 X S x1 hS g1), List.forall_mem_cons.mpr ⟨(u393_15 X S x1 hS g1), List.forall_mem_cons.mpr ⟨(u393_16 X S x1 hS g1), List.forall_mem_cons.mpr ⟨(u393_17 X S x1 hS g1), List.forall_mem_cons.mpr ⟨(u393_18 X S x1 hS g1), List.forall_mem_cons.mpr ⟨(u393_19 X S x1 hS g1), List.forall_mem_cons.mpr ⟨(u393_20 X S x1 hS g1), List.forall_mem_cons.mpr ⟨(u393_21 X S x1 hS g1), List.forall_mem_cons.mpr ⟨(u393_22 X S x1 hS g1), List.forall_mem_cons.mpr ⟨(u393_23 X S x1 hS g1), List.forall_mem_cons.mpr ⟨(u393_24 X S x1 hS g1), List.forall_mem_cons.mpr ⟨(u393_25 X S x1 hS g1), List.forall_mem_cons.mpr ⟨(u393_26 X S x1 hS g1), List.forall_mem_cons.mpr ⟨(u393_27 X S x1 hS g1), List.forall_mem_cons.mpr ⟨(u393_28 X S x1 hS g1), List.forall_mem_cons.mpr ⟨(u393_29 X S x1 hS g1), List.forall_mem_cons.mpr ⟨(u393_30 X S x1 hS g1), List.forall_mem_cons.mpr ⟨(u393_31 X S x1 hS g1), List.forall_mem_cons.mpr ⟨(u393_32 X S x1 hS g1), List.forall_mem_cons.mpr ⟨(u393_33 X S x1 hS g1), List.forall_mem_cons.mpr ⟨(u393_34 X S x1 hS g1), List.forall_mem_cons.mpr ⟨(u393_35 X S x1 hS g1), List.forall_mem_cons.mpr ⟨(u393_36 X S x1 hS g1), List.forall_mem_cons.mpr ⟨(u393_37 X S x1 hS g1), List.forall_mem_cons.mpr ⟨(u393_38 X S x1 hS g1), List.forall_mem_cons.mpr ⟨(u393_39 X S x1 hS g1), List.forall_mem_cons.mpr ⟨(u393_40 X S x1 hS g1), List.forall_mem_cons.mpr ⟨(u393_41 X S x1 hS g1), List.forall_mem_cons.mpr ⟨(u393_42 X S x1 hS g1), List.forall_mem_cons.mpr ⟨(u393_43 X S x1 hS g1), List.forall_mem_cons.mpr ⟨(u393_44 X S x1 hS g1), List.forall_mem_cons.mpr ⟨(u393_45 X S x1 hS g1), List.forall_mem_cons.mpr ⟨(u393_46 X S x1 hS g1), List.forall_mem_cons.mpr ⟨(u393_47 X S x1 hS g1), List.forall_mem_cons.mpr ⟨(u393_48 X S x1 hS g1), List.forall_mem_cons.mpr ⟨(u393_49 X S x1 hS g1), List.forall_mem_cons.mpr ⟨(u393_50 X S x1 hS g1), fun _ h => absurd h List.not_mem_nil⟩⟩⟩⟩⟩⟩⟩⟩⟩⟩⟩⟩⟩⟩⟩⟩⟩⟩⟩⟩⟩⟩⟩⟩⟩⟩⟩⟩⟩⟩⟩⟩⟩⟩⟩⟩⟩⟩⟩⟩⟩⟩⟩⟩⟩⟩⟩⟩⟩⟩⟩
set_option maxRecDepth 40000 in
theorem u394_0 (X : (Int → Int) × Int) (S : fx_S) (x0 x1 x2 x3 x4 : Int) (hS : fx_Sok S) (g0 : -1 ≤ x0 ∧ x0 < S.2.2) (g1 : -2147483648 ≤ x1 ∧ x1 ≤ 2147483647) (g2 : -2147483648 ≤ x2 ∧ x2 ≤ 2147483647) (g3 : -2147483648 ≤ x3 ∧ x3 ≤ 2147483647) (g4 : -2147483648 ≤ x4 ∧ x4 ≤ 2147483647) : fx_VC (fx_Mx X) 394 [x0, x1, x2, x3, x4] S (fx_p394.getD 0 ([], .inl (0, 0))) := fx_VCR_ok (show fx_VCR (fx_Mx X) 394 [x0, x1, x2, x3, x4] S _ from q394_0 S x0 x1 x2 x3 x4 hS g0 g1 g2 g3 g4)
set_option maxRecDepth 40000 in
theorem u394_1 (X : (Int → Int) × Int) (S : fx_S) (x0 x1 x2 x3 x4 : Int) (hS : fx_Sok S) (g0 : -1 ≤ x0 ∧ x0 < S.2.2) (g1 : -2147483648 ≤ x1 ∧ x1 ≤ 2147483647) (g2 : -2147483648 ≤ x2 ∧ x2 ≤ 2147483647) (g3 : -2147483648 ≤ x3 ∧ x3 ≤ 2147483647) (g4 : -2147483648 ≤ x4 ∧ x4 ≤ 2147483647) : fx_VC (fx_Mx X) 394 [x0, x1, x2, x3, x4] S (fx_p394.getD 1 ([], .inl (0, 0))) := fx_VCR_ok (show fx_VCR (fx_Mx X) 394 [x0, x1, x2, x3, x4] S _ from q394_1 S x0 x1 x2 x3 x4 hS g0 g1 g2 g3 g4)
set_option maxRecDepth 40000 in
theorem u394_2 (X : (Int → Int) × Int) (S : fx_S) (x0 x1 x2 x3 x4 : Int) (hS : fx_Sok S) (g0 : -1 ≤ x0 ∧ x0 < S.2.2) (g1 : -2147483648 ≤ x1 ∧ x1 ≤ 2147483647) (g2 : -2147483648 ≤ x2 ∧ x2 ≤ 2147483647) (g3 : -2147483648 ≤ x3 ∧ x3 ≤ 2147483647) (g4 : -2147483648 ≤ x4 ∧ x4 ≤ 2147483647) : fx_VC (fx_Mx X) 394 [x0, x1, x2, x3, x4] S (fx_p394.getD 2 ([], .inl (0, 0))) := fx_VCR_ok (show fx_VCR (fx_Mx X) 394 [x0, x1, x2, x3, x4] S _ from q394_2 S x0 x1 x2 x3 x4 hS g0 g1 g2 g3 g4)
set_option maxRecDepth 40000 in
theorem u394_3 (X : (Int → Int) × Int) (S : fx_S) (x0 x1 x2 x3 x4 : Int) (hS : fx_Sok S) (g0 : -1 ≤ x0 ∧ x0 < S.2.2) (g1 : -2147483648 ≤ x1 ∧ x1 ≤ 2147483647) (g2 : -2147483648 ≤ x2 ∧ x2 ≤ 2147483647) (g3 : -2147483648 ≤ x3 ∧ x3 ≤ 2147483647) (g4 : -2147483648 ≤ x4 ∧ x4 ≤ 2147483647) : fx_VC (fx_Mx X) 394 [x0, x1, x2, x3, x4] S (fx_p394.getD 3 ([], .inl (0, 0))) := fx_VCR_ok (show fx_VCR (fx_Mx X) 394 [x0, x1, x2, x3, x4] S _ from q394_3 S x0 x1 x2 x3 x4 hS g0 g1 g2 g3 g4)
set_option maxRecDepth 40000 in
theorem u394_4 (X : (Int → Int) × Int) (S : fx_S) (x0 x1 x2 x3 x4 : Int) (hS : fx_Sok S) (g0 : -1 ≤ x0 ∧ x0 < S.2.2) (g1 : -2147483648 ≤ x1 ∧ x1 ≤ 2147483647) (g2 : -2147483648 ≤ x2 ∧ x2 ≤ 2147483647) (g3 : -2147483648 ≤ x3 ∧ x3 ≤ 2147483647) (g4 : -2147483648 ≤ x4 ∧ x4 ≤ 2147483647) : fx_VC (fx_Mx X) 394 [x0, x1, x2, x3, x4] S (fx_p394.getD 4 ([], .inl (0, 0))) := fx_VCR_ok (show fx_VCR (fx_Mx X) 394 [x0, x1, x2, x3, x4] S _ from q394_4 S x0 x1 x2 x3 x4 hS g0 g1 g2 g3 g4)
set_option maxRecDepth 40000 in
theorem w394 (X : (Int → Int) × Int) (zs : List Int) (S : fx_S) (hS : fx_Sok S) (hz : zs.length = (fx_lv0 fx_t394.2.2.1 0).2) (rz : fx_rz fx_t394 zs S) : ∀ p ∈ fx_p394, fx_VC (fx_Mx X) 394 zs S p := by
  obtain ⟨x0, x1, x2, x3, x4, rfl⟩ := fx_len5 hz
  have g0 : -1 ≤ x0 ∧ x0 < S.2.2 := rz 0 _ rfl
  have g1 : -2147483648 ≤ x1 ∧ x1 ≤ 2147483647 := rz 1 _ rfl
  have g2 : -2147483648 ≤ x2 ∧ x2 ≤ 2147483647 := rz 2 _ rfl
  have g3 : -2147483648 ≤ x3 ∧ x3 ≤ 2147483647 := rz 3 _ rfl
  have g4 : -2147483648 ≤ x4 ∧ x4 ≤ 2147483647 := rz 4 _ rfl
  exact List.forall_mem_cons.mpr ⟨(u394_0 X S x0 x1 x2 x3 x4 hS g0 g1 g2 g3 g4), List.forall_mem_cons.mpr ⟨(u394_1 X S x0 x1 x2 x3 x4 hS g0 g1 g2 g3 g4), List.forall_mem_cons.mpr ⟨(u394_2 X S x0 x1 x2 x3 x4 hS g0 g1 g2 g3 g4), List.forall_mem_cons.mpr ⟨(u394_3 X S x0 x1 x2 x3 x4 hS g0 g1 g2 g3 g4), List.forall_mem_cons.mpr ⟨(u394_4 X S x0 x1 x2 x3 x4 hS g0 g1 g2 g3 g4), fun _ h => absurd h List.not_mem_nil⟩⟩⟩⟩⟩
set_option maxRecDepth 40000 in
theorem u395_0 (X : (Int → Int) × Int) (S : fx_S) (x0 x1 x2 : Int) (hS : fx_Sok S) (g0 : -2147483648 ≤ x0 ∧ x0 ≤ 2147483647) (g1 : -2147483648 ≤ x1 ∧ x1 ≤ 2147483647) (g2 : -2147483648 ≤ x2 ∧ x2 ≤ 2147483647) : fx_VC (fx_Mx X) 395 [x0, x1, x2] S (fx_p395.getD 0 ([], .inl (0, 0))) := fx_VCR_ok (show fx_VCR (fx_Mx X) 395 [x0, x1, x2] S _ from q395_0 S x0 x1 x2 hS g0 g1 g2)
set_option maxRecDepth 40000 in
theorem u395_1 (X : (Int → Int) × Int) (S : fx_S) (x0 x1 x2 : Int) (hS : fx_Sok S) (g0 : -2147483648 ≤ x0 ∧ x0 ≤ 2147483647) (g1 : -2147483648 ≤ x1 ∧ x1 ≤ 2147483647) (g2 : -2147483648 ≤ x2 ∧ x2 ≤ 2147483647) : fx_VC (fx_Mx X) 395 [x0, x1, x2] S (fx_p395.getD 1 ([], .inl (0, 0))) := fx_VCR_ok (show fx_VCR (fx_Mx X) 395 [x0, x1, x2] S _ from q395_1 S x0 x1 x2 hS g0 g1 g2)
set_option maxRecDepth 40000 in
theorem u395_2 (X : (Int → Int) × Int) (S : fx_S) (x0 x1 x2 : Int) (hS : fx_Sok S) (g0 : -2147483648 ≤ x0 ∧ x0 ≤ 2147483647) (g1 : -2147483648 ≤ x1 ∧ x1 ≤ 2147483647) (g2 : -2147483648 ≤ x2 ∧ x2 ≤ 2147483647) : fx_VC (fx_Mx X) 395 [x0, x1, x2] S (fx_p395.getD 2 ([], .inl (0, 0))) := fx_VCR_ok (show fx_VCR (fx_Mx X) 395 [x0, x1, x2] S _ from q395_2 S x0 x1 x2 hS g0 g1 g2)
set_option maxRecDepth 40000 in
theorem u395_3 (X : (Int → Int) × Int) (S : fx_S) (x0 x1 x2 : Int) (hS : fx_Sok S) (g0 : -2147483648 ≤ x0 ∧ x0 ≤ 2147483647) (g1 : -2147483648 ≤ x1 ∧ x1 ≤ 2147483647) (g2 : -2147483648 ≤ x2 ∧ x2 ≤ 2147483647) : fx_VC (fx_Mx X) 395 [x0, x1, x2] S (fx_p395.getD 3 ([], .inl (0, 0))) := fx_VCR_ok (show fx_VCR (fx_Mx X) 395 [x0, x1, x2] S _ from q395_3 S x0 x1 x2 hS g0 g1 g2)
set_option maxRecDepth 40000 in
theorem u395_4 (X : (Int → Int) × Int) (S : fx_S) (x0 x1 x2 : Int) (hS : fx_Sok S) (g0 : -2147483648 ≤ x0 ∧ x0 ≤ 2147483647) (g1 : -2147483648 ≤ x1 ∧ x1 ≤ 2147483647) (g2 : -2147483648 ≤ x2 ∧ x2 ≤ 2147483647) : fx_VC (fx_Mx X) 395 [x0, x1, x2] S (fx_p395.getD 4 ([], .inl (0, 0))) := fx_VCR_ok (show fx_VCR (fx_Mx X) 395 [x0, x1, x2] S _ from q395_4 S x0 x1 x2 hS g0 g1 g2)
set_option maxRecDepth 40000 in
theorem u395_5 (X : (Int → Int) × Int) (S : fx_S) (x0 x1 x2 : Int) (hS : fx_Sok S) (g0 : -2147483648 ≤ x0 ∧ x0 ≤ 2147483647) (g1 : -2147483648 ≤ x1 ∧ x1 ≤ 2147483647) (g2 : -2147483648 ≤ x2 ∧ x2 ≤ 2147483647) : fx_VC (fx_Mx X) 395 [x0, x1, x2] S (fx_p395.getD 5 ([], .inl (0, 0))) := fx_VCR_ok (show fx_VCR (fx_Mx X) 395 [x0, x1, x2] S _ from q395_5 S x0 x1 x2 hS g0 g1 g2)
set_option maxRecDepth 40000 in
theorem w395 (X : (Int → Int) × Int) (zs : List Int) (S : fx_S) (hS : fx_Sok S) (hz : zs.length = (fx_lv0 fx_t395.2.2.1 0).2) (rz : fx_rz fx_t395 zs S) : ∀ p ∈ fx_p395, fx_VC (fx_Mx X) 395 zs S p := by
  obtain ⟨x0, x1, x2, rfl⟩ := fx_len3 hz
  have g0 : -2147483648 ≤ x0 ∧ x0 ≤ 2147483647 := rz 0 _ rfl
  have g1 : -2147483648 ≤ x1 ∧ x1 ≤ 2147483647 := rz 1 _ rfl
  have g2 : -2147483648 ≤ x2 ∧ x2 ≤ 2147483647 := rz 2 _ rfl
  exact List.forall_mem_cons.mpr ⟨(u395_0 X S x0 x1 x2 hS g0 g1 g2), List.forall_mem_cons.mpr ⟨(u395_1 X S x0 x1 x2 hS g0 g1 g2), List.forall_mem_cons.mpr ⟨(u395_2 X S x0 x1 x2 hS g0 g1 g2), List.forall_mem_cons.mpr ⟨(u395_3 X S x0 x1 x2 hS g0 g1 g2), List.forall_mem_cons.mpr ⟨(u395_4 X S x0 x1 x2 hS g0 g1 g2), List.forall_mem_cons.mpr ⟨(u395_5 X S x0 x1 x2 hS g0 g1 g2), fun _ h => absurd h List.not_mem_nil⟩⟩⟩⟩⟩⟩
set_option maxRecDepth 40000 in
theorem u396_0 (X : (Int → Int) × Int) (S : fx_S) (x1 x2 x3 : Int) (hS : fx_Sok S) (g1 : -2147483648 ≤ x1 ∧ x1 ≤ 2147483647) (g2 : -2147483648 ≤ x2 ∧ x2 ≤ 2147483647) (g3 : -2147483648 ≤ x3 ∧ x3 ≤ 2147483647) : fx_VC (fx_Mx X) 396 [x1, x2, x3] S (fx_p396.getD 0 ([], .inl (0, 0))) := fx_VCR_ok (show fx_VCR (fx_Mx X) 396 [x1, x2, x3] S _ from q396_0 S x1 x2 x3 hS g1 g2 g3)
set_option maxRecDepth 40000 in
theorem u396_1 (X : (Int → Int) × Int) (S : fx_S) (x1 x2 x3 : Int) (hS : fx_Sok S) (g1 : -2147483648 ≤ x1 ∧ x1 ≤ 2147483647) (g2 : -2147483648 ≤ x2 ∧ x2 ≤ 2147483647) (g3 : -2147483648 ≤ x3 ∧ x3 ≤ 2147483647) : fx_VC (fx_Mx X) 396 [x1, x2, x3] S (fx_p396.getD 1 ([], .inl (0, 0))) := fx_VCR_ok (show fx_VCR (fx_Mx X) 396 [x1, x2, x3] S _ from q396_1 S x1 x2 x3 hS g1 g2 g3)
set_option maxRecDepth 40000 in
theorem w396 (X : (Int → Int) × Int) (zs : List Int) (S : fx_S) (hS : fx_Sok S) (hz : zs.length = (fx_lv0 fx_t396.2.2.1 0).2) (rz : fx_rz fx_t396 zs S) : ∀ p ∈ fx_p396, fx_VC (fx_Mx X) 396 zs S p := by
  obtain ⟨x1, x2, x3, rfl⟩ := fx_len3 hz
  have g1 : -2147483648 ≤ x1 ∧ x1 ≤ 2147483647 := rz 1 _ rfl
  have g2 : -2147483648 ≤ x2 ∧ x2 ≤ 2147483647 := rz 2 _ rfl
  have g3 : -2147483648 ≤ x3 ∧ x3 ≤ 2147483647 := rz 3 _ rfl
  exact List.forall_mem_cons.mpr ⟨(u396_0 X S x1 x2 x3 hS g1 g2 g3), List.forall_mem_cons.mpr ⟨(u396_1 X S x1 x2 x3 hS g1 g2 g3), fun _ h => absurd h List.not_mem_nil⟩⟩
set_option maxRecDepth 40000 in
theorem u397_0 (X : (Int → Int) × Int) (S : fx_S) (x1 x2 x3 x4 : Int) (hS : fx_Sok S) (g1 : -2147483648 ≤ x1 ∧ x1 ≤ 2147483647) (g2 : -2147483648 ≤ x2 ∧ x2 ≤ 2147483647) (g3 : -2147483648 ≤ x3 ∧ x3 ≤ 2147483647) (g4 : -2147483648 ≤ x4 ∧ x4 ≤ 2147483647) : fx_VC (fx_Mx X) 397 [x1, x2, x3, x4] S (fx_p397.getD 0 ([], .inl (0, 0))) := fx_VCR_ok (show fx_VCR (fx_Mx X) 397 [x1, x2, x3, x4] S _ from q397_0 S x1 x2 x3 x4 hS g1 g2 g3 g4)
set_option maxRecDepth 40000 in
theorem u397_1 (X : (Int → Int) × Int) (S : fx_S) (x1 x2 x3 x4 : Int) (hS : fx_Sok S) (g1 : -2147483648 ≤ x1 ∧ x1 ≤ 2147483647) (g2 : -2147483648 ≤ x2 ∧ x2 ≤ 2147483647) (g3 : -2147483648 ≤ x3 ∧ x3 ≤ 2147483647) (g4 : -2147483648 ≤ x4 ∧ x4 ≤ 2147483647) : fx_VC (fx_Mx X) 397 [x1, x2, x3, x4] S (fx_p397.getD 1 ([], .inl (0, 0))) := fx_VCR_ok (show fx_VCR (fx_Mx X) 397 [x1, x2, x3, x4] S _ from q397_1 S x1 x2 x3 x4 hS g1 g2 g3 g4)
set_option maxRecDepth 40000 in
theorem u397_2 (X : (Int → Int) × Int) (S : fx_S) (x1 x2 x3 x4 : Int) (hS : fx_Sok S) (g1 : -2147483648 ≤ x1 ∧ x1 ≤ 2147483647) (g2 : -2147483648 ≤ x2 ∧ x2 ≤ 2147483647) (g3 : -2147483648 ≤ x3 ∧ x3 ≤ 2147483647) (g4 : -2147483648 ≤ x4 ∧ x4 ≤ 2147483647) : fx_VC (fx_Mx X) 397 [x1, x2, x3, x4] S (fx_p397.getD 2 ([], .inl (0, 0))) := fx_VCR_ok (show fx_VCR (fx_Mx X) 397 [x1, x2, x3, x4] S _ from q397_2 S x1 x2 x3 x4 hS g1 g2 g3 g4)
set_option maxRecDepth 40000 in
theorem w397 (X : (Int → Int) × Int) (zs : List Int) (S : fx_S) (hS : fx_Sok S) (hz : zs.length = (fx_lv0 fx_t397.2.2.1 0).2) (rz : fx_rz fx_t397 zs S) : ∀ p ∈ fx_p397, fx_VC (fx_Mx X) 397 zs S p := by
  obtain ⟨x1, x2, x3, x4, rfl⟩ := fx_len4 hz
  have g1 : -2147483648 ≤ x1 ∧ x1 ≤ 2147483647 := rz 1 _ rfl
  have g2 : -2147483648 ≤ x2 ∧ x2 ≤ 2147483647 := rz 2 _ rfl
  have g3 : -2147483648 ≤ x3 ∧ x3 ≤ 2147483647 := rz 3 _ rfl
  have g4 : -2147483648 ≤ x4 ∧ x4 ≤ 2147483647 := rz 4 _ rfl
  exact List.forall_mem_cons.mpr ⟨(u397_0 X S x1 x2 x3 x4 hS g1 g2 g3 g4), List.forall_mem_cons.mpr ⟨(u397_1 X S x1 x2 x3 x4 hS g1 g2 g3 g4), List.forall_mem_cons.mpr ⟨(u397_2 X S x1 x2 x3 x4 hS g1 g2 g3 g4), fun _ h => absurd h List.not_mem_nil⟩⟩⟩
set_option maxRecDepth 40000 in
theorem u398_0 (X : (Int → Int) × Int) (S : fx_S) (x1 : Int) (hS : fx_Sok S) (g1 : -2147483648 ≤ x1 ∧ x1 ≤ 2147483647) : fx_VC (fx_Mx X) 398 [x1] S (fx_p398.getD 0 ([], .inl (0, 0))) := fx_VCR_ok (show fx_VCR (fx_Mx X) 398 [x1] S _ from q398_0 S x1 hS g1)
set_option maxRecDepth 40000 in
theorem u398_1 (X : (Int → Int) × Int) (S : fx_S) (x1 : Int) (hS : fx_Sok S) (g1 : -2147483648 ≤ x1 ∧ x1 ≤ 2147483647) : fx_VC (fx_Mx X) 398 [x1] S (fx_p398.getD 1 ([], .inl (0, 0))) := fx_VCR_ok (show fx_VCR (fx_Mx X) 398 [x1] S _ from q398_1 S x1 hS g1)
set_option maxRecDepth 40000 in
theorem w398 (X : (Int → Int) × Int) (zs : List Int) (S : fx_S) (hS : fx_Sok S) (hz : zs.length = (fx_lv0 fx_t398.2.2.1 0).2) (rz : fx_rz fx_t398 zs S) : ∀ p ∈ fx_p398, fx_VC (fx_Mx X) 398 zs S p := by
  obtain ⟨x1, rfl⟩ := fx_len1 hz
  have g1 : -2147483648 ≤ x1 ∧ x1 ≤ 2147483647 := rz 1 _ rfl
  exact List.forall_mem_cons.mpr ⟨(u398_0 X S x1 hS g1), List.forall_mem_cons.mpr ⟨(u398_1 X S x1 hS g1), fun _ h => absurd h List.not_mem_nil⟩⟩
set_option maxRecDepth 40000 in
theorem u399_0 (X : (Int → Int) × Int) (S : fx_S) (x2 x3 : Int) (hS : fx_Sok S) (g2 : -2147483648 ≤ x2 ∧ x2 ≤ 2147483647) (g3 : -2147483648 ≤ x3 ∧ x3 ≤ 2147483647) : fx_VC (fx_Mx X) 399 [x2, x3] S (fx_p399.getD 0 ([], .inl (0, 0))) := fx_VCR_ok (show fx_VCR (fx_Mx X) 399 [x2, x3] S _ from q399_0 S x2 x3 hS g2 g3)
set_option maxRecDepth 40000 in
theorem u399_1 (X : (Int → Int) × Int) (S : fx_S) (x2 x3 : Int) (hS : fx_Sok S) (g2 : -2147483648 ≤ x2 ∧ x2 ≤ 2147483647) (g3 : -2147483648 ≤ x3 ∧ x3 ≤ 2147483647) : fx_VC (fx_Mx X) 399 [x2, x3] S (fx_p399.getD 1 ([], .inl (0, 0))) := fx_VCR_ok (show fx_VCR (fx_Mx X) 399 [x2, x3] S _ from q399_1 S x2 x3 hS g2 g3)
set_option maxRecDepth 40000 in
theorem u399_2 (X : (Int → Int) × Int) (S : fx_S) (x2 x3 : Int) (hS : fx_Sok S) (g2 : -2147483648 ≤ x2 ∧ x2 ≤ 2147483647) (g3 : -2147483648 ≤ x3 ∧ x3 ≤ 2147483647) : fx_VC (fx_Mx X) 399 [x2, x3] S (fx_p399.getD 2 ([], .inl (0, 0))) := fx_VCR_ok (show fx_VCR (fx_Mx X) 399 [x2, x3] S _ from q399_2 S x2 x3 hS g2 g3)
set_option maxRecDepth 40000 in
theorem w399 (X : (Int → Int) × Int) (zs : List Int) (S : fx_S) (hS : fx_Sok S) (hz : zs.length = (fx_lv0 fx_t399.2.2.1 0).2) (rz : fx_rz fx_t399 zs S) : ∀ p ∈ fx_p399, fx_VC (fx_Mx X) 399 zs S p := by
  obtain ⟨x2, x3, rfl⟩ := fx_len2 hz
  have g2 : -2147483648 ≤ x2 ∧ x2 ≤ 2147483647 := rz 2 _ rfl
  have g3 : -2147483648 ≤ x3 ∧ x3 ≤ 2147483647 := rz 3 _ rfl
  exact List.forall_mem_cons.mpr ⟨(u399_0 X S x2 x3 hS g2 g3), List.forall_mem_cons.mpr ⟨(u399_1 X S x2 x3 hS g2 g3), List.forall_mem_cons.mpr ⟨(u399_2 X S x2 x3 hS g2 g3), fun _ h => absurd h List.not_mem_nil⟩⟩⟩
set_option maxRecDepth 40000 in
theorem u400_0 (X : (Int → Int) × Int) (S : fx_S) (x1 : Int) (hS : fx_Sok S) (g1 : -2147483648 ≤ x1 ∧ x1 ≤ 2147483647) : fx_VC (fx_Mx X) 400 [x1] S (fx_p400.getD 0 ([], .inl (0, 0))) := fx_VCR_ok (show fx_VCR (fx_Mx X) 400 [x1] S _ from q400_0 S x1 hS g1)
set_option maxRecDepth 40000 in
theorem w400 (X : (Int → Int) × Int) (zs : List Int) (S : fx_S) (hS : fx_Sok S) (hz : zs.length = (fx_lv0 fx_t400.2.2.1 0).2) (rz : fx_rz fx_t400 zs S) : ∀ p ∈ fx_p400, fx_VC (fx_Mx X) 400 zs S p := by
  obtain ⟨x1, rfl⟩ := fx_len1 hz
  have g1 : -2147483648 ≤ x1 ∧ x1 ≤ 2147483647 := rz 1 _ rfl
  exact List.forall_mem_cons.mpr ⟨(u400_0 X S x1 hS g1), fun _ h => absurd h List.not_mem_nil⟩
set_option maxRecDepth 40000 in
theorem u401_0 (X : (Int → Int) × Int) (S : fx_S) (x1 x2 : Int) (hS : fx_Sok S) (g1 : -2147483648 ≤ x1 ∧ x1 ≤ 2147483647) (g2 : -2147483648 ≤ x2 ∧ x2 ≤ 2147483647) : fx_VC (fx_Mx X) 401 [x1, x2] S (fx_p401.getD 0 ([], .inl (0, 0))) := fx_VCR_ok (show fx_VCR (fx_Mx X) 401 [x1, x2] S _ from q401_0 S x1 x2 hS g1 g2)
set_option maxRecDepth 40000 in
theorem u401_1 (X : (Int → Int) × Int) (S : fx_S) (x1 x2 : Int) (hS : fx_Sok S) (g1 : -2147483648 ≤ x1 ∧ x1 ≤ 2147483647) (g2 : -2147483648 ≤ x2 ∧ x2 ≤ 2147483647) : fx_VC (fx_Mx X) 401 [x1, x2] S (fx_p401.getD 1 ([], .inl (0, 0))) := fx_VCR_ok (show fx_VCR (fx_Mx X) 401 [x1, x2] S _ from q401_1 S x1 x2 hS g1 g2)
set_option maxRecDepth 40000 in
theorem u401_2 (X : (Int → Int) × Int) (S : fx_S) (x1 x2 : Int) (hS : fx_Sok S) (g1 : -2147483648 ≤ x1 ∧ x1 ≤ 2147483647) (g2 : -2147483648 ≤ x2 ∧ x2 ≤ 2147483647) : fx_VC (fx_Mx X) 401 [x1, x2] S (fx_p401.getD 2 ([], .inl (0, 0))) := fx_VCR_ok (show fx_VCR (fx_Mx X) 401 [x1, x2] S _ from q401_2 S x1 x2 hS g1 g2)
set_option maxRecDepth 40000 in
theorem w401 (X : (Int → Int) × Int) (zs : List Int) (S : fx_S) (hS : fx_Sok S) (hz : zs.length = (fx_lv0 fx_t401.2.2.1 0).2) (rz : fx_rz fx_t401 zs S) : ∀ p ∈ fx_p401, fx_VC (fx_Mx X) 401 zs S p := by
  obtain ⟨x1, x2, rfl⟩ := fx_len2 hz
  have g1 : -2147483648 ≤ x1 ∧ x1 ≤ 2147483647 := rz 1 _ rfl
  have g2 : -2147483648 ≤ x2 ∧ x2 ≤ 2147483647 := rz 2 _ rfl
  exact List.forall_mem_cons.mpr ⟨(u401_0 X S x1 x2 hS g1 g2), List.forall_mem_cons.mpr ⟨(u401_1 X S x1 x2 hS g1 g2), List.forall_mem_cons.mpr ⟨(u401_2 X S x1 x2 hS g1 g2), fun _ h => absurd h List.not_mem_nil⟩⟩⟩
set_option maxRecDepth 40000 in
theorem u402_0 (X : (Int → Int) × Int) (S : fx_S) (x1 x2 : Int) (hS : fx_Sok S) (g1 : -2147483648 ≤ x1 ∧ x1 ≤ 2147483647) (g2 : -2147483648 ≤ x2 ∧ x2 ≤ 2147483647) : fx_VC (fx_Mx X) 402 [x1, x2] S (fx_p402.getD 0 ([], .inl (0, 0))) := fx_VCR_ok (show fx_VCR (fx_Mx X) 402 [x1, x2] S _ from q402_0 S x1 x2 hS g1 g2)
set_option maxRecDepth 40000 in
theorem w402 (X : (Int → Int) × Int) (zs : List Int) (S : fx_S) (hS : fx_Sok S) (hz : zs.length = (fx_lv0 fx_t402.2.2.1 0).2) (rz : fx_rz fx_t402 zs S) : ∀ p ∈ fx_p402, fx_VC (fx_Mx X) 402 zs S p := by
  obtain ⟨x1, x2, rfl⟩ := fx_len2 hz
  have g1 : -2147483648 ≤ x1 ∧ x1 ≤ 2147483647 := rz 1 _ rfl
  have g2 : -2147483648 ≤ x2 ∧ x2 ≤ 2147483647 := rz 2 _ rfl
  exact List.forall_mem_cons.mpr ⟨(u402_0 X S x1 x2 hS g1 g2), fun _ h => absurd h List.not_mem_nil⟩
set_option maxRecDepth 40000 in
theorem u403_0 (X : (Int → Int) × Int) (S : fx_S) (x0 x1 x2 x3 x4 : Int) (hS : fx_Sok S) (g0 : 0 ≤ x0 ∧ x0 < S.2.2) (g1 : -2147483648 ≤ x1 ∧ x1 ≤ 2147483647) (g2 : -2147483648 ≤ x2 ∧ x2 ≤ 2147483647) (g3 : -2147483648 ≤ x3 ∧ x3 ≤ 2147483647) (g4 : -2147483648 ≤ x4 ∧ x4 ≤ 2147483647) : fx_VC (fx_Mx X) 403 [x0, x1, x2, x3, x4] S (fx_p403.getD 0 ([], .inl (0, 0))) := fx_VCR_ok (show fx_VCR (fx_Mx X) 403 [x0, x1, x2, x3, x4] S _ from q403_0 S x0 x1 x2 x3 x4 hS g0 g1 g2 g3 g4)
set_option maxRecDepth 40000 in
theorem u403_1 (X : (Int → Int) × Int) (S : fx_S) (x0 x1 x2 x3 x4 : Int) (hS : fx_Sok S) (g0 : 0 ≤ x0 ∧ x0 < S.2.2) (g1 : -2147483648 ≤ x1 ∧ x1 ≤ 2147483647) (g2 : -2147483648 ≤ x2 ∧ x2 ≤ 2147483647) (g3 : -2147483648 ≤ x3 ∧ x3 ≤ 2147483647) (g4 : -2147483648 ≤ x4 ∧ x4 ≤ 2147483647) : fx_VC (fx_Mx X) 403 [x0, x1, x2, x3, x4] S (fx_p403.getD 1 ([], .inl (0, 0))) := fx_VCR_ok (show fx_VCR (fx_Mx X) 403 [x0, x1, x2, x3, x4] S _ from q403_1 S x0 x1 x2 x3 x4 hS g0 g1 g2 g3 g4)
set_option maxRecDepth 40000 in
theorem w403 (X : (Int → Int) × Int) (zs : List Int) (S : fx_S) (hS : fx_Sok S) (hz : zs.length = (fx_lv0 fx_t403.2.2.1 0).2) (rz : fx_rz fx_t403 zs S) : ∀ p ∈ fx_p403, fx_VC (fx_Mx X) 403 zs S p := by
  obtain ⟨x0, x1, x2, x3, x4, rfl⟩ := fx_len5 hz
  have g0 : 0 ≤ x0 ∧ x0 < S.2.2 := rz 0 _ rfl
  have g1 : -2147483648 ≤ x1 ∧ x1 ≤ 2147483647 := rz 1 _ rfl
  have g2 : -2147483648 ≤ x2 ∧ x2 ≤ 2147483647 := rz 2 _ rfl
  have g3 : -2147483648 ≤ x3 ∧ x3 ≤ 2147483647 := rz 3 _ rfl
  have g4 : -2147483648 ≤ x4 ∧ x4 ≤ 2147483647 := rz 4 _ rfl
  exact List.forall_mem_cons.mpr ⟨(u403_0 X S x0 x1 x2 x3 x4 hS g0 g1 g2 g3 g4), List.forall_mem_cons.mpr ⟨(u403_1 X S x0 x1 x2 x3 x4 hS g0 g1 g2 g3 g4), fun _ h => absurd h List.not_mem_nil⟩⟩
set_option maxRecDepth 40000 in
theorem u404_0 (X : (Int → Int) × Int) (S : fx_S) (hS : fx_Sok S) : fx_VC (fx_Mx X) 404 [] S (fx_p404.getD 0 ([], .inl (0, 0))) := fx_VCR_ok (show fx_VCR (fx_Mx X) 404 [] S _ from q404_0 S hS)
set_option maxRecDepth 40000 in
theorem u404_1 (X : (Int → Int) × Int) (S : fx_S) (hS : fx_Sok S) : fx_VC (fx_Mx X) 404 [] S (fx_p404.getD 1 ([], .inl (0, 0))) := fx_VCR_ok (show fx_VCR (fx_Mx X) 404 [] S _ from q404_1 S hS)
set_option maxRecDepth 40000 in
theorem u404_2 (X : (Int → Int) × Int) (S : fx_S) (hS : fx_Sok S) : fx_VC (fx_Mx X) 404 [] S (fx_p404.getD 2 ([], .inl (0, 0))) := fx_VCR_ok (show fx_VCR (fx_Mx X) 404 [] S _ from q404_2 S hS)
set_option maxRecDepth 40000 in
theorem w404 (X : (Int → Int) × Int) (zs : List Int) (S : fx_S) (hS : fx_Sok S) (hz : zs.length = (fx_lv0 fx_t404.2.2.1 0).2) (rz : fx_rz fx_t404 zs S) : ∀ p ∈ fx_p404, fx_VC (fx_Mx X) 404 zs S p := by
  obtain rfl := List.eq_nil_of_length_eq_zero hz
  exact List.forall_mem_cons.mpr ⟨(u404_0 X S hS), List.forall_mem_cons.mpr ⟨(u404_1 X S hS), List.forall_mem_cons.mpr ⟨(u404_2 X S hS), fun _ h => absurd h List.not_mem_nil⟩⟩⟩
set_option maxRecDepth 40000 in
theorem u405_0 (X : (Int → Int) × Int) (S : fx_S) (x0 x1 x2 x3 x4 : Int) (hS : fx_Sok S) (g0 : 0 ≤ x0 ∧ x0 < S.2.2) (g1 : -2147483648 ≤ x1 ∧ x1 ≤ 2147483647) (g2 : -2147483648 ≤ x2 ∧ x2 ≤ 2147483647) (g3 : -2147483648 ≤ x3 ∧ x3 ≤ 2147483647) (g4 : -2147483648 ≤ x4 ∧ x4 ≤ 2147483647) : fx_VC (fx_Mx X) 405 [x0, x1, x2, x3, x4] S (fx_p405.getD 0 ([], .inl (0, 0))) := fx_VCR_ok (show fx_VCR (fx_Mx X) 405 [x0, x1, x2, x3, x4] S _ from q405_0 S x0 x1 x2 x3 x4 hS g0 g1 g2 g3 g4)
set_option maxRecDepth 40000 in
theorem u405_1 (X : (Int → Int) × Int) (S : fx_S) (x0 x1 x2 x3 x4 : Int) (hS : fx_Sok S) (g0 : 0 ≤ x0 ∧ x0 < S.2.2) (g1 : -2147483648 ≤ x1 ∧ x1 ≤ 2147483647) (g2 : -2147483648 ≤ x2 ∧ x2 ≤ 2147483647) (g3 : -2147483648 ≤ x3 ∧ x3 ≤ 2147483647) (g4 : -2147483648 ≤ x4 ∧ x4 ≤ 2147483647) : fx_VC (fx_Mx X) 405 [x0, x1, x2, x3, x4] S (fx_p405.getD 1 ([], .inl (0, 0))) := fx_VCR_ok (show fx_VCR (fx_Mx X) 405 [x0, x1, x2, x3, x4] S _ from q405_1 S x0 x1 x2 x3 x4 hS g0 g1 g2 g3 g4)
set_option maxRecDepth 40000 in
theorem u405_2 (X : (Int → Int) × Int) (S : fx_S) (x0 x1 x2 x3 x4 : Int) (hS : fx_Sok S) (g0 : 0 ≤ x0 ∧ x0 < S.2.2) (g1 : -2147483648 ≤ x1 ∧ x1 ≤ 2147483647) (g2 : -2147483648 ≤ x2 ∧ x2 ≤ 2147483647) (g3 : -2147483648 ≤ x3 ∧ x3 ≤ 2147483647) (g4 : -2147483648 ≤ x4 ∧ x4 ≤ 2147483647) : fx_VC (fx_Mx X) 405 [x0, x1, x2, x3, x4] S (fx_p405.getD 2 ([], .inl (0, 0))) := fx_VCR_ok (show fx_VCR (fx_Mx X) 405 [x0, x1, x2, x3, x4] S _ from q405_2 S x0 x1 x2 x3 x4 hS g0 g1 g2 g3 g4)
set_option maxRecDepth 40000 in
theorem w405 (X : (Int → Int) × Int) (zs : List Int) (S : fx_S) (hS : fx_Sok S) (hz : zs.length = (fx_lv0 fx_t405.2.2.1 0).2) (rz : fx_rz fx_t405 zs S) : ∀ p ∈ fx_p405, fx_VC (fx_Mx X) 405 zs S p := by
  obtain ⟨x0, x1, x2, x3, x4, rfl⟩ := fx_len5 hz
  have g0 : 0 ≤ x0 ∧ x0 < S.2.2 := rz 0 _ rfl
  have g1 : -2147483648 ≤ x1 ∧ x1 ≤ 2147483647 := rz 1 _ rfl
  have g2 : -2147483648 ≤ x2 ∧ x2 ≤ 2147483647 := rz 2 _ rfl
  have g3 : -2147483648 ≤ x3 ∧ x3 ≤ 2147483647 := rz 3 _ rfl
  have g4 : -2147483648 ≤ x4 ∧ x4 ≤ 2147483647 := rz 4 _ rfl
  exact List.forall_mem_cons.mpr ⟨(u405_0 X S x0 x1 x2 x3 x4 hS g0 g1 g2 g3 g4), List.forall_mem_cons.mpr ⟨(u405_1 X S x0 x1 x2 x3 x4 hS g0 g1 g2 g3 g4), List.forall_mem_cons.mpr ⟨(u405_2 X S x0 x1 x2 x3 x4 hS g0 g1 g2 g3 g4), fun _ h => absurd h List.not_mem_nil⟩⟩⟩
set_option maxRecDepth 40000 in
theorem u406_0 (X : (Int → Int) × Int) (S : fx_S) (hS : fx_Sok S) : fx_VC (fx_Mx X) 406 [] S (fx_p406.getD 0 ([], .inl (0, 0))) := fx_VCR_ok (show fx_VCR (fx_Mx X) 406 [] S _ from q406_0 S hS)
set_option maxRecDepth 40000 in
theorem u406_1 (X : (Int → Int) × Int) (S : fx_S) (hS : fx_Sok S) : fx_VC (fx_Mx X) 406 [] S (fx_p406.getD 1 ([], .inl (0, 0))) := fx_VCR_ok (show fx_VCR (fx_Mx X) 406 [] S _ from q406_1 S hS)
set_option maxRecDepth 40000 in
theorem u406_2 (X : (Int → Int) × Int) (S : fx_S) (hS : fx_Sok S) : fx_VC (fx_Mx X) 406 [] S (fx_p406.getD 2 ([], .inl (0, 0))) := fx_VCR_ok (show fx_VCR (fx_Mx X) 406 [] S _ from q406_2 S hS)
set_option maxRecDepth 40000 in
theorem u406_3 (X : (Int → Int) × Int) (S : fx_S) (hS : fx_Sok S) : fx_VC (fx_Mx X) 406 [] S (fx_p406.getD 3 ([], .inl (0, 0))) := fx_VCR_ok (show fx_VCR (fx_Mx X) 406 [] S _ from q406_3 S hS)
set_option maxRecDepth 40000 in
theorem u406_4 (X : (Int → Int) × Int) (S : fx_S) (hS : fx_Sok S) : fx_VC (fx_Mx X) 406 [] S (fx_p406.getD 4 ([], .inl (0, 0))) := fx_VCR_ok (show fx_VCR (fx_Mx X) 406 [] S _ from q406_4 S hS)
set_option maxRecDepth 40000 in
theorem w406 (X : (Int → Int) × Int) (zs : List Int) (S : fx_S) (hS : fx_Sok S) (hz : zs.length = (fx_lv0 fx_t406.2.2.1 0).2) (rz : fx_rz fx_t406 zs S) : ∀ p ∈ fx_p406, fx_VC (fx_Mx X) 406 zs S p := by
  obtain rfl := List.eq_nil_of_length_eq_zero hz
  exact List.forall_mem_cons.mpr ⟨(u406_0 X S hS), List.forall_mem_cons.mpr ⟨(u406_1 X S hS), List.forall_mem_cons.mpr ⟨(u406_2 X S hS), List.forall_mem_cons.mpr ⟨(u406_3 X S hS), List.forall_mem_cons.mpr ⟨(u406_4 X S hS), fun _ h => absurd h List.not_mem_nil⟩⟩⟩⟩⟩
set_option maxRecDepth 40000 in
theorem u407_0 (X : (Int → Int) × Int) (S : fx_S) (hS : fx_Sok S) : fx_VC (fx_Mx X) 407 [] S (fx_p407.getD 0 ([], .inl (0, 0))) := fx_VCR_ok (show fx_VCR (fx_Mx X) 407 [] S _ from q407_0 S hS)
set_option maxRecDepth 40000 in
theorem u407_1 (X : (Int → Int) × Int) (S : fx_S) (hS : fx_Sok S) : fx_VC (fx_Mx X) 407 [] S (fx_p407.getD 1 ([], .inl (0, 0))) := fx_VCR_ok (show fx_VCR (fx_Mx X) 407 [] S _ from q407_1 S hS)
set_option maxRecDepth 40000 in
theorem u407_2 (X : (Int → Int) × Int) (S : fx_S) (hS : fx_Sok S) : fx_VC (fx_Mx X) 407 [] S (fx_p407.getD 2 ([], .inl (0, 0))) := fx_VCR_ok (show fx_VCR (fx_Mx X) 407 [] S _ from q407_2 S hS)
set_option maxRecDepth 40000 in
theorem u407_3 (X : (Int → Int) × Int) (S : fx_S) (hS : fx_Sok S) : fx_VC (fx_Mx X) 407 [] S (fx_p407.getD 3 ([], .inl (0, 0))) := fx_VCR_ok (show fx_VCR (fx_Mx X) 407 [] S _ from q407_3 S hS)
set_option maxRecDepth 40000 in
theorem u407_4 (X : (Int → Int) × Int) (S : fx_S) (hS : fx_Sok S) : fx_VC (fx_Mx X) 407 [] S (fx_p407.getD 4 ([], .inl (0, 0))) := fx_VCR_ok (show fx_VCR (fx_Mx X) 407 [] S _ from q407_4 S hS)
set_option maxRecDepth 40000 in
theorem w407 (X : (Int → Int) × Int) (zs : List Int) (S : fx_S) (hS : fx_Sok S) (hz : zs.length = (fx_lv0 fx_t407.2.2.1 0).2) (rz : fx_rz fx_t407 zs S) : ∀ p ∈ fx_p407, fx_VC (fx_Mx X) 407 zs S p := by
  obtain rfl := List.eq_nil_of_length_eq_zero hz
  exact List.forall_mem_cons.mpr ⟨(u407_0 X S hS), List.forall_mem_cons.mpr ⟨(u407_1 X S hS), List.forall_mem_cons.mpr ⟨(u407_2 X S hS), List.forall_mem_cons.mpr ⟨(u407_3 X S hS), List.forall_mem_cons.mpr ⟨(u407_4 X S hS), fun _ h => absurd h List.not_mem_nil⟩⟩⟩⟩⟩
set_option maxRecDepth 40000 in
theorem u408_0 (X : (Int → Int) × Int) (S : fx_S) (x1 x2 : Int) (hS : fx_Sok S) (g1 : -2147483648 ≤ x1 ∧ x1 ≤ 2147483647) (g2 : -2147483648 ≤ x2 ∧ x2 ≤ 2147483647) : fx_VC (fx_Mx X) 408 [x1, x2] S (fx_p408.getD 0 ([], .inl (0, 0))) := fx_VCR_ok (show fx_VCR (fx_Mx X) 408 [x1, x2] S _ from q408_0 S x1 x2 hS g1 g2)
set_option maxRecDepth 40000 in
theorem w408 (X : (Int → Int) × Int) (zs : List Int) (S : fx_S) (hS : fx_Sok S) (hz : zs.length = (fx_lv0 fx_t408.2.2.1 0).2) (rz : fx_rz fx_t408 zs S) : ∀ p ∈ fx_p408, fx_VC (fx_Mx X) 408 zs S p := by
  obtain ⟨x1, x2, rfl⟩ := fx_len2 hz
  have g1 : -2147483648 ≤ x1 ∧ x1 ≤ 2147483647 := rz 1 _ rfl
  have g2 : -2147483648 ≤ x2 ∧ x2 ≤ 2147483647 := rz 2 _ rfl
  exact List.forall_mem_cons.mpr ⟨(u408_0 X S x1 x2 hS g1 g2), fun _ h => absurd h List.not_mem_nil⟩
set_option maxRecDepth 40000 in
theorem u409_0 (X : (Int → Int) × Int) (S : fx_S) (x1 x2 x3 : Int) (hS : fx_Sok S) (g1 : -2147483648 ≤ x1 ∧ x1 ≤ 2147483647) (g2 : -2147483648 ≤ x2 ∧ x2 ≤ 2147483647) (g3 : -2147483648 ≤ x3 ∧ x3 ≤ 2147483647) : fx_VC (fx_Mx X) 409 [x1, x2, x3] S (fx_p409.getD 0 ([], .inl (0, 0))) := fx_VCR_ok (show fx_VCR (fx_Mx X) 409 [x1, x2, x3] S _ from q409_0 S x1 x2 x3 hS g1 g2 g3)
set_option maxRecDepth 40000 in
theorem u409_1 (X : (Int → Int) × Int) (S : fx_S) (x1 x2 x3 : Int) (hS : fx_Sok S) (g1 : -2147483648 ≤ x1 ∧ x1 ≤ 2147483647) (g2 : -2147483648 ≤ x2 ∧ x2 ≤ 2147483647) (g3 : -2147483648 ≤ x3 ∧ x3 ≤ 2147483647) : fx_VC (fx_Mx X) 409 [x1, x2, x3] S (fx_p409.getD 1 ([], .inl (0, 0))) := fx_VCR_ok (show fx_VCR (fx_Mx X) 409 [x1, x2, x3] S _ from q409_1 S x1 x2 x3 hS g1 g2 g3)
set_option maxRecDepth 40000 in
theorem w409 (X : (Int → Int) × Int) (zs : List Int) (S : fx_S) (hS : fx_Sok S) (hz : zs.length = (fx_lv0 fx_t409.2.2.1 0).2) (rz : fx_rz fx_t409 zs S) : ∀ p ∈ fx_p409, fx_VC (fx_Mx X) 409 zs S p := by
  obtain ⟨x1, x2, x3, rfl⟩ := fx_len3 hz
  have g1 : -2147483648 ≤ x1 ∧ x1 ≤ 2147483647 := rz 1 _ rfl
  have g2 : -2147483648 ≤ x2 ∧ x2 ≤ 2147483647 := rz 2 _ rfl
  have g3 : -2147483648 ≤ x3 ∧ x3 ≤ 2147483647 := rz 3 _ rfl
  exact List.forall_mem_cons.mpr ⟨(u409_0 X S x1 x2 x3 hS g1 g2 g3), List.forall_mem_cons.mpr ⟨(u409_1 X S x1 x2 x3 hS g1 g2 g3), fun _ h => absurd h List.not_mem_nil⟩⟩
set_option maxRecDepth 40000 in
theorem u410_0 (X : (Int → Int) × Int) (S : fx_S) (x1 x2 : Int) (hS : fx_Sok S) (g1 : -2147483648 ≤ x1 ∧ x1 ≤ 2147483647) (g2 : -2147483648 ≤ x2 ∧ x2 ≤ 2147483647) : fx_VC (fx_Mx X) 410 [x1, x2] S (fx_p410.getD 0 ([], .inl (0, 0))) := fx_VCR_ok (show fx_VCR (fx_Mx X) 410 [x1, x2] S _ from q410_0 S x1 x2 hS g1 g2)
set_option maxRecDepth 40000 in
theorem w410 (X : (Int → Int) × Int) (zs : List Int) (S : fx_S) (hS : fx_Sok S) (hz : zs.length = (fx_lv0 fx_t410.2.2.1 0).2) (rz : fx_rz fx_t410 zs S) : ∀ p ∈ fx_p410, fx_VC (fx_Mx X) 410 zs S p := by
  obtain ⟨x1, x2, rfl⟩ := fx_len2 hz
  have g1 : -2147483648 ≤ x1 ∧ x1 ≤ 2147483647 := rz 1 _ rfl
  have g2 : -2147483648 ≤ x2 ∧ x2 ≤ 2147483647 := rz 2 _ rfl
  exact List.forall_mem_cons.mpr ⟨(u410_0 X S x1 x2 hS g1 g2), fun _ h => absurd h List.not_mem_nil⟩
set_option maxRecDepth 40000 in
theorem u411_0 (X : (Int → Int) × Int) (S : fx_S) (x1 x2 x4 x5 x6 : Int) (hS : fx_Sok S) (g1 : -2147483648 ≤ x1 ∧ x1 ≤ 2147483647) (g2 : -2147483648 ≤ x2 ∧ x2 ≤ 2147483647) (g4 : -2147483648 ≤ x4 ∧ x4 ≤ 2147483647) (g5 : -2147483648 ≤ x5 ∧ x5 ≤ 2147483647) (g6 : -2147483648 ≤ x6 ∧ x6 ≤ 2147483647) : fx_VC (fx_Mx X) 411 [x1, x2, x4, x5, x6] S (fx_p411.getD 0 ([], .inl (0, 0))) := fx_VCR_ok (show fx_VCR (fx_Mx X) 411 [x1, x2, x4, x5, x6] S _ from q411_0 S x1 x2 x4 x5 x6 hS g1 g2 g4 g5 g6)
set_option maxRecDepth 40000 in
theorem u411_1 (X : (Int → Int) × Int) (S : fx_S) (x1 x2 x4 x5 x6 : Int) (hS : fx_Sok S) (g1 : -2147483648 ≤ x1 ∧ x1 ≤ 2147483647) (g2 : -2147483648 ≤ x2 ∧ x2 ≤ 2147483647) (g4 : -2147483648 ≤ x4 ∧ x4 ≤ 2147483647) (g5 : -2147483648 ≤ x5 ∧ x5 ≤ 2147483647) (g6 : -2147483648 ≤ x6 ∧ x6 ≤ 2147483647) : fx_VC (fx_Mx X) 411 [x1, x2, x4, x5, x6] S (fx_p411.getD 1 ([], .inl (0, 0))) := fx_VCR_ok (show fx_VCR (fx_Mx X) 411 [x1, x2, x4, x5, x6] S _ from q411_1 S x1 x2 x4 x5 x6 hS g1 g2 g4 g5 g6)
set_option maxRecDepth 40000 in
theorem u411_2 (X : (Int → Int) × Int) (S : fx_S) (x1 x2 x4 x5 x6 : Int) (hS : fx_Sok S) (g1 : -2147483648 ≤ x1 ∧ x1 ≤ 2147483647) (g2 : -2147483648 ≤ x2 ∧ x2 ≤ 2147483647) (g4 : -2147483648 ≤ x4 ∧ x4 ≤ 2147483647) (g5 : -2147483648 ≤ x5 ∧ x5 ≤ 2147483647) (g6 : -2147483648 ≤ x6 ∧ x6 ≤ 2147483647) : fx_VC (fx_Mx X) 411 [x1, x2, x4, x5, x6] S (fx_p411.getD 2 ([], .inl (0, 0))) := fx_VCR_ok (show fx_VCR (fx_Mx X) 411 [x1, x2, x4, x5, x6] S _ from q411_2 S x1 x2 x4 x5 x6 hS g1 g2 g4 g5 g6)
set_option maxRecDepth 40000 in
theorem u411_3 (X : (Int → Int) × Int) (S : fx_S) (x1 x2 x4 x5 x6 : Int) (hS : fx_Sok S) (g1 : -2147483648 ≤ x1 ∧ x1 ≤ 2147483647) (g2 : -2147483648 ≤ x2 ∧ x2 ≤ 2147483647) (g4 : -2147483648 ≤ x4 ∧ x4 ≤ 2147483647) (g5 : -2147483648 ≤ x5 ∧ x5 ≤ 2147483647) (g6 : -2147483648 ≤ x6 ∧ x6 ≤ 2147483647) : fx_VC (fx_Mx X) 411 [x1, x2, x4, x5, x6] S (fx_p411.getD 3 ([], .inl (0, 0))) := fx_VCR_ok (show fx_VCR (fx_Mx X) 411 [x1, x2, x4, x5, x6] S _ from q411_3 S x1 x2 x4 x5 x6 hS g1 g2 g4 g5 g6)
set_option maxRecDepth 40000 in
theorem u411_4 (X : (Int → Int) × Int) (S : fx_S) (x1 x2 x4 x5 x6 : Int) (hS : fx_Sok S) (g1 : -2147483648 ≤ x1 ∧ x1 ≤ 2147483647) (g2 : -2147483648 ≤ x2 ∧ x2 ≤ 2147483647) (g4 : -2147483648 ≤ x4 ∧ x4 ≤ 2147483647) (g5 : -2147483648 ≤ x5 ∧ x5 ≤ 2147483647) (g6 : -2147483648 ≤ x6 ∧ x6 ≤ 2147483647) : fx_VC (fx_Mx X) 411 [x1, x2, x4, x5, x6] S (fx_p411.getD 4 ([], .inl (0, 0))) := fx_VCR_ok (show fx_VCR (fx_Mx X) 411 [x1, x2, x4, x5, x6] S _ from q411_4 S x1 x2 x4 x5 x6 hS g1 g2 g4 g5 g6)
set_option maxRecDepth 40000 in
theorem w411 (X : (Int → Int) × Int) (zs : List Int) (S : fx_S) (hS : fx_Sok S) (hz : zs.length = (fx_lv0 fx_t411.2.2.1 0).2) (rz : fx_rz fx_t411 zs S) : ∀ p ∈ fx_p411, fx_VC (fx_Mx X) 411 zs S p := by
  obtain ⟨x1, x2, x4, x5, x6, rfl⟩ := fx_len5 hz
  have g1 : -2147483648 ≤ x1 ∧ x1 ≤ 2147483647 := rz 1 _ rfl
  have g2 : -2147483648 ≤ x2 ∧ x2 ≤ 2147483647 := rz 2 _ rfl
  have g4 : -2147483648 ≤ x4 ∧ x4 ≤ 2147483647 := rz 4 _ rfl
  have g5 : -2147483648 ≤ x5 ∧ x5 ≤ 2147483647 := rz 5 _ rfl
  have g6 : -2147483648 ≤ x6 ∧ x6 ≤ 2147483647 := rz 6 _ rfl
  exact List.forall_mem_cons.mpr ⟨(u411_0 X S x1 x2 x4 x5 x6 hS g1 g2 g4 g5 g6), List.forall_mem_cons.mpr ⟨(u411_1 X S x1 x2 x4 x5 x6 hS g1 g2 g4 g5 g6), List.forall_mem_cons.mpr ⟨(u411_2 X S x1 x2 x4 x5 x6 hS g1 g2 g4 g5 g6), List.forall_mem_cons.mpr ⟨(u411_3 X S x1 x2 x4 x5 x6 hS g1 g2 g4 g5 g6), List.forall_mem_cons.mpr ⟨(u411_4 X S x1 x2 x4 x5 x6 hS g1 g2 g4 g5 g6), fun _ h => absurd h List.not_mem_nil⟩⟩⟩⟩⟩
set_option maxRecDepth 40000 in
theorem u412_0 (X : (Int → Int) × Int) (S : fx_S) (x1 x2 x3 x4 : Int) (hS : fx_Sok S) (g1 : -2147483648 ≤ x1 ∧ x1 ≤ 2147483647) (g2 : -2147483648 ≤ x2 ∧ x2 ≤ 2147483647) (g3 : -2147483648 ≤ x3 ∧ x3 ≤ 2147483647) (g4 : -2147483648 ≤ x4 ∧ x4 ≤ 2147483647) : fx_VC (fx_Mx X) 412 [x1, x2, x3, x4] S (fx_p412.getD 0 ([], .inl (0, 0))) := fx_VCR_ok (show fx_VCR (fx_Mx X) 412 [x1, x2, x3, x4] S _ from q412_0 S x1 x2 x3 x4 hS g1 g2 g3 g4)
set_option maxRecDepth 40000 in
theorem u412_1 (X : (Int → Int) × Int) (S : fx_S) (x1 x2 x3 x4 : Int) (hS : fx_Sok S) (g1 : -2147483648 ≤ x1 ∧ x1 ≤ 2147483647) (g2 : -2147483648 ≤ x2 ∧ x2 ≤ 2147483647) (g3 : -2147483648 ≤ x3 ∧ x3 ≤ 2147483647) (g4 : -2147483648 ≤ x4 ∧ x4 ≤ 2147483647) : fx_VC (fx_Mx X) 412 [x1, x2, x3, x4] S (fx_p412.getD 1 ([], .inl (0, 0))) := fx_VCR_ok (show fx_VCR (fx_Mx X) 412 [x1, x2, x3, x4] S _ from q412_1 S x1 x2 x3 x4 hS g1 g2 g3 g4)
set_option maxRecDepth 40000 in
theorem u412_2 (X : (Int → Int) × Int) (S : fx_S) (x1 x2 x3 x4 : Int) (hS : fx_Sok S) (g1 : -2147483648 ≤ x1 ∧ x1 ≤ 2147483647) (g2 : -2147483648 ≤ x2 ∧ x2 ≤ 2147483647) (g3 : -2147483648 ≤ x3 ∧ x3 ≤ 2147483647) (g4 : -2147483648 ≤ x4 ∧ x4 ≤ 2147483647) : fx_VC (fx_Mx X) 412 [x1, x2, x3, x4] S (fx_p412.getD 2 ([], .inl (0, 0))) := fx_VCR_ok (show fx_VCR (fx_Mx X) 412 [x1, x2, x3, x4] S _ from q412_2 S x1 x2 x3 x4 hS g1 g2 g3 g4)
set_option maxRecDepth 40000 in
theorem u412_3 (X : (Int → Int) × Int) (S : fx_S) (x1 x2 x3 x4 : Int) (hS : fx_Sok S) (g1 : -2147483648 ≤ x1 ∧ x1 ≤ 2147483647) (g2 : -2147483648 ≤ x2 ∧ x2 ≤ 2147483647) (g3 : -2147483648 ≤ x3 ∧ x3 ≤ 2147483647) (g4 : -2147483648 ≤ x4 ∧ x4 ≤ 2147483647) : fx_VC (fx_Mx X) 412 [x1, x2, x3, x4] S (fx_p412.getD 3 ([], .inl (0, 0))) := fx_VCR_ok (show fx_VCR (fx_Mx X) 412 [x1, x2, x3, x4] S _ from q412_3 S x1 x2 x3 x4 hS g1 g2 g3 g4)
