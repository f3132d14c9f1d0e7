/-! FX: the paths of the entries, all -/
set_option maxRecDepth 40000 in
theorem u356_10 (X : (Int → Int) × Int) (S : fx_S) (x1 x2 x3 : Int) (hS : fx_Sok S) (g1 : -2147483648 ≤ x1 ∧ x1 ≤ 2147483647) (g2 : -2147483648 ≤ x2 ∧ x2 ≤ 2147483647) (g3 : -2147483648 ≤ x3 ∧ x3 ≤ 2147483647) : fx_VC (fx_Mx X) 356 [x1, x2, x3] S (fx_p356.getD 10 ([], .inl (0, 0))) := fx_VCR_ok (show fx_VCR (fx_Mx X) 356 [x1, x2, x3] S _ from q356_10 S x1 x2 x3 hS g1 g2 g3)
set_option maxRecDepth 40000 in
theorem u356_11 (X : (Int → Int) × Int) (S : fx_S) (x1 x2 x3 : Int) (hS : fx_Sok S) (g1 : -2147483648 ≤ x1 ∧ x1 ≤ 2147483647) (g2 : -2147483648 ≤ x2 ∧ x2 ≤ 2147483647) (g3 : -2147483648 ≤ x3 ∧ x3 ≤ 2147483647) : fx_VC (fx_Mx X) 356 [x1, x2, x3] S (fx_p356.getD 11 ([], .inl (0, 0))) := fx_VCR_ok (show fx_VCR (fx_Mx X) 356 [x1, x2, x3] S _ from q356_11 S x1 x2 x3 hS g1 g2 g3)
set_option maxRecDepth 40000 in
theorem u356_12 (X : (Int → Int) × Int) (S : fx_S) (x1 x2 x3 : Int) (hS : fx_Sok S) (g1 : -2147483648 ≤ x1 ∧ x1 ≤ 2147483647) (g2 : -2147483648 ≤ x2 ∧ x2 ≤ 2147483647) (g3 : -2147483648 ≤ x3 ∧ x3 ≤ 2147483647) : fx_VC (fx_Mx X) 356 [x1, x2, x3] S (fx_p356.getD 12 ([], .inl (0, 0))) := fx_VCR_ok (show fx_VCR (fx_Mx X) 356 [x1, x2, x3] S _ from q356_12 S x1 x2 x3 hS g1 g2 g3)
set_option maxRecDepth 40000 in
theorem u356_13 (X : (Int → Int) × Int) (S : fx_S) (x1 x2 x3 : Int) (hS : fx_Sok S) (g1 : -2147483648 ≤ x1 ∧ x1 ≤ 2147483647) (g2 : -2147483648 ≤ x2 ∧ x2 ≤ 2147483647) (g3 : -2147483648 ≤ x3 ∧ x3 ≤ 2147483647) : fx_VC (fx_Mx X) 356 [x1, x2, x3] S (fx_p356.getD 13 ([], .inl (0, 0))) := fx_VCR_ok (show fx_VCR (fx_Mx X) 356 [x1, x2, x3] S _ from q356_13 S x1 x2 x3 hS g1 g2 g3)
set_option maxRecDepth 40000 in
theorem u356_14 (X : (Int → Int) × Int) (S : fx_S) (x1 x2 x3 : Int) (hS : fx_Sok S) (g1 : -2147483648 ≤ x1 ∧ x1 ≤ 2147483647) (g2 : -2147483648 ≤ x2 ∧ x2 ≤ 2147483647) (g3 : -2147483648 ≤ x3 ∧ x3 ≤ 2147483647) : fx_VC (fx_Mx X) 356 [x1, x2, x3] S (fx_p356.getD 14 ([], .inl (0, 0))) := fx_VCR_ok (show fx_VCR (fx_Mx X) 356 [x1, x2, x3] S _ from q356_14 S x1 x2 x3 hS g1 g2 g3)
set_option maxRecDepth 40000 in
theorem u356_15 (X : (Int → Int) × Int) (S : fx_S) (x1 x2 x3 : Int) (hS : fx_Sok S) (g1 : -2147483648 ≤ x1 ∧ x1 ≤ 2147483647) (g2 : -2147483648 ≤ x2 ∧ x2 ≤ 2147483647) (g3 : -2147483648 ≤ x3 ∧ x3 ≤ 2147483647) : fx_VC (fx_Mx X) 356 [x1, x2, x3] S (fx_p356.getD 15 ([], .inl (0, 0))) := fx_VCR_ok (show fx_VCR (fx_Mx X) 356 [x1, x2, x3] S _ from q356_15 S x1 x2 x3 hS g1 g2 g3)
set_option maxRecDepth 40000 in
theorem u356_16 (X : (Int → Int) × Int) (S : fx_S) (x1 x2 x3 : Int) (hS : fx_Sok S) (g1 : -2147483648 ≤ x1 ∧ x1 ≤ 2147483647) (g2 : -2147483648 ≤ x2 ∧ x2 ≤ 2147483647) (g3 : -2147483648 ≤ x3 ∧ x3 ≤ 2147483647) : fx_VC (fx_Mx X) 356 [x1, x2, x3] S (fx_p356.getD 16 ([], .inl (0, 0))) := fx_VCR_ok (show fx_VCR (fx_Mx X) 356 [x1, x2, x3] S _ from q356_16 S x1 x2 x3 hS g1 g2 g3)
set_option maxRecDepth 40000 in
theorem u356_17 (X : (Int → Int) × Int) (S : fx_S) (x1 x2 x3 : Int) (hS : fx_Sok S) (g1 : -2147483648 ≤ x1 ∧ x1 ≤ 2147483647) (g2 : -2147483648 ≤ x2 ∧ x2 ≤ 2147483647) (g3 : -2147483648 ≤ x3 ∧ x3 ≤ 2147483647) : fx_VC (fx_Mx X) 356 [x1, x2, x3] S (fx_p356.getD 17 ([], .inl (0, 0))) := fx_VCR_ok (show fx_VCR (fx_Mx X) 356 [x1, x2, x3] S _ from q356_17 S x1 x2 x3 hS g1 g2 g3)
set_option maxRecDepth 40000 in
theorem u356_18 (X : (Int → Int) × Int) (S : fx_S) (x1 x2 x3 : Int) (hS : fx_Sok S) (g1 : -2147483648 ≤ x1 ∧ x1 ≤ 2147483647) (g2 : -2147483648 ≤ x2 ∧ x2 ≤ 2147483647) (g3 : -2147483648 ≤ x3 ∧ x3 ≤ 2147483647) : fx_VC (fx_Mx X) 356 [x1, x2, x3] S (fx_p356.getD 18 ([], .inl (0, 0))) := fx_VCR_ok (show fx_VCR (fx_Mx X) 356 [x1, x2, x3] S _ from q356_18 S x1 x2 x3 hS g1 g2 g3)
set_option maxRecDepth 40000 in
theorem u356_19 (X : (Int → Int) × Int) (S : fx_S) (x1 x2 x3 : Int) (hS : fx_Sok S) (g1 : -2147483648 ≤ x1 ∧ x1 ≤ 2147483647) (g2 : -2147483648 ≤ x2 ∧ x2 ≤ 2147483647) (g3 : -2147483648 ≤ x3 ∧ x3 ≤ 2147483647) : fx_VC (fx_Mx X) 356 [x1, x2, x3] S (fx_p356.getD 19 ([], .inl (0, 0))) := fx_VCR_ok (show fx_VCR (fx_Mx X) 356 [x1, x2, x3] S _ from q356_19 S x1 x2 x3 hS g1 g2 g3)
set_option maxRecDepth 40000 in
theorem u356_20 (X : (Int → Int) × Int) (S : fx_S) (x1 x2 x3 : Int) (hS : fx_Sok S) (g1 : -2147483648 ≤ x1 ∧ x1 ≤ 2147483647) (g2 : -2147483648 ≤ x2 ∧ x2 ≤ 2147483647) (g3 : -2147483648 ≤ x3 ∧ x3 ≤ 2147483647) : fx_VC (fx_Mx X) 356 [x1, x2, x3] S (fx_p356.getD 20 ([], .inl (0, 0))) := fx_VCR_ok (show fx_VCR (fx_Mx X) 356 [x1, x2, x3] S _ from q356_20 S x1 x2 x3 hS g1 g2 g3)
set_option maxRecDepth 40000 in
theorem u356_21 (X : (Int → Int) × Int) (S : fx_S) (x1 x2 x3 : Int) (hS : fx_Sok S) (g1 : -2147483648 ≤ x1 ∧ x1 ≤ 2147483647) (g2 : -2147483648 ≤ x2 ∧ x2 ≤ 2147483647) (g3 : -2147483648 ≤ x3 ∧ x3 ≤ 2147483647) : fx_VC (fx_Mx X) 356 [x1, x2, x3] S (fx_p356.getD 21 ([], .inl (0, 0))) := fx_VCR_ok (show fx_VCR (fx_Mx X) 356 [x1, x2, x3] S _ from q356_21 S x1 x2 x3 hS g1 g2 g3)
set_option maxRecDepth 40000 in
theorem u356_22 (X : (Int → Int) × Int) (S : fx_S) (x1 x2 x3 : Int) (hS : fx_Sok S) (g1 : -2147483648 ≤ x1 ∧ x1 ≤ 2147483647) (g2 : -2147483648 ≤ x2 ∧ x2 ≤ 2147483647) (g3 : -2147483648 ≤ x3 ∧ x3 ≤ 2147483647) : fx_VC (fx_Mx X) 356 [x1, x2, x3] S (fx_p356.getD 22 ([], .inl (0, 0))) := fx_VCR_ok (show fx_VCR (fx_Mx X) 356 [x1, x2, x3] S _ from q356_22 S x1 x2 x3 hS g1 g2 g3)
set_option maxRecDepth 40000 in
theorem u356_23 (X : (Int → Int) × Int) (S : fx_S) (x1 x2 x3 : Int) (hS : fx_Sok S) (g1 : -2147483648 ≤ x1 ∧ x1 ≤ 2147483647) (g2 : -2147483648 ≤ x2 ∧ x2 ≤ 2147483647) (g3 : -2147483648 ≤ x3 ∧ x3 ≤ 2147483647) : fx_VC (fx_Mx X) 356 [x1, x2, x3] S (fx_p356.getD 23 ([], .inl (0, 0))) := fx_VCR_ok (show fx_VCR (fx_Mx X) 356 [x1, x2, x3] S _ from q356_23 S x1 x2 x3 hS g1 g2 g3)
set_option maxRecDepth 40000 in
theorem u356_24 (X : (Int → Int) × Int) (S : fx_S) (x1 x2 x3 : Int) (hS : fx_Sok S) (g1 : -2147483648 ≤ x1 ∧ x1 ≤ 2147483647) (g2 : -2147483648 ≤ x2 ∧ x2 ≤ 2147483647) (g3 : -2147483648 ≤ x3 ∧ x3 ≤ 2147483647) : fx_VC (fx_Mx X) 356 [x1, x2, x3] S (fx_p356.getD 24 ([], .inl (0, 0))) := fx_VCR_ok (show fx_VCR (fx_Mx X) 356 [x1, x2, x3] S _ from q356_24 S x1 x2 x3 hS g1 g2 g3)
set_option maxRecDepth 40000 in
theorem u356_25 (X : (Int → Int) × Int) (S : fx_S) (x1 x2 x3 : Int) (hS : fx_Sok S) (g1 : -2147483648 ≤ x1 ∧ x1 ≤ 2147483647) (g2 : -2147483648 ≤ x2 ∧ x2 ≤ 2147483647) (g3 : -2147483648 ≤ x3 ∧ x3 ≤ 2147483647) : fx_VC (fx_Mx X) 356 [x1, x2, x3] S (fx_p356.getD 25 ([], .inl (0, 0))) := fx_VCR_ok (show fx_VCR (fx_Mx X) 356 [x1, x2, x3] S _ from q356_25 S x1 x2 x3 hS g1 g2 g3)
set_option maxRecDepth 40000 in
theorem u356_26 (X : (Int → Int) × Int) (S : fx_S) (x1 x2 x3 : Int) (hS : fx_Sok S) (g1 : -2147483648 ≤ x1 ∧ x1 ≤ 2147483647) (g2 : -2147483648 ≤ x2 ∧ x2 ≤ 2147483647) (g3 : -2147483648 ≤ x3 ∧ x3 ≤ 2147483647) : fx_VC (fx_Mx X) 356 [x1, x2, x3] S (fx_p356.getD 26 ([], .inl (0, 0))) := fx_VCR_ok (show fx_VCR (fx_Mx X) 356 [x1, x2, x3] S _ from q356_26 S x1 x2 x3 hS g1 g2 g3)
set_option maxRecDepth 40000 in
theorem u356_27 (X : (Int → Int) × Int) (S : fx_S) (x1 x2 x3 : Int) (hS : fx_Sok S) (g1 : -2147483648 ≤ x1 ∧ x1 ≤ 2147483647) (g2 : -2147483648 ≤ x2 ∧ x2 ≤ 2147483647) (g3 : -2147483648 ≤ x3 ∧ x3 ≤ 2147483647) : fx_VC (fx_Mx X) 356 [x1, x2, x3] S (fx_p356.getD 27 ([], .inl (0, 0))) := fx_VCR_ok (show fx_VCR (fx_Mx X) 356 [x1, x2, x3] S _ from q356_27 S x1 x2 x3 hS g1 g2 g3)
set_option maxRecDepth 40000 in
theorem w356 (X : (Int → Int) × Int) (zs : List Int) (S : fx_S) (hS : fx_Sok S) (hz : zs.length = (fx_lv0 fx_t356.2.2.1 0).2) (rz : fx_rz fx_t356 zs S) : ∀ p ∈ fx_p356, fx_VC (fx_Mx X) 356 zs S p := by
  obtain ⟨x1, x2, x3, rfl⟩ := fx_len3 hz
  have g1 : -2147483648 ≤ x1 ∧ x1 ≤ 2147483647 := rz 1 _ rfl
  have g2 : -2147483648 ≤ x2 ∧ x2 ≤ 2147483647 := rz 2 _ rfl
  have g3 : -2147483648 ≤ x3 ∧ x3 ≤ 2147483647 := rz 3 _ rfl
  exact List.forall_mem_cons.mpr ⟨(u356_0 X S x1 x2 x3 hS g1 g2 g3), List.forall_mem_cons.mpr ⟨(u356_1 X S x1 x2 x3 hS g1 g2 g3), List.forall_mem_cons.mpr ⟨(u356_2 X S x1 x2 x3 hS g1 g2 g3), List.forall_mem_cons.mpr ⟨(u356_3 X S x1 x2 x3 hS g1 g2 g3), List.forall_mem_cons.mpr ⟨(u356_4 X S x1 x2 x3 hS g1 g2 g3), List.forall_mem_cons.mpr ⟨(u356_5 X S x1 x2 x3 hS g1 g2 g3), List.forall_mem_cons.mpr ⟨(u356_6 X S x1 x2 x3 hS g1 g2 g3), List.forall_mem_cons.mpr ⟨(u356_7 X S x1 x2 x3 hS g1 g2 g3), List.forall_mem_cons.mpr ⟨(u356_8 X S x1 x2 x3 hS g1 g2 g3), List.forall_mem_cons.mpr ⟨(u356_9 X S x1 x2 x3 hS g1 g2 g3), List.forall_mem_cons.mpr ⟨(u356_10 X S x1 x2 x3 hS g1 g2 g3), List.forall_mem_cons.mpr ⟨(u356_11 X S x1 x2 x3 hS g1 g2 g3), List.forall_mem_cons.mpr ⟨(u356_12 X S x1 x2 x3 hS g1 g2 g3), List.forall_mem_cons.mpr ⟨(u356_13 X S x1 x2 x3 hS g1 g2 g3), List.forall_mem_cons.mpr ⟨(u356_14 X S x1 x2 x3 hS g1 g2 g3), List.forall_mem_cons.mpr ⟨(u356_15 X S x1 x2 x3 hS g1 g2 g3), List.forall_mem_cons.mpr ⟨(u356_16 X S x1 x2 x3 hS g1 g2 g3), List.forall_mem_cons.mpr ⟨(u356_17 X S x1 x2 x3 hS g1 g2 g3), List.forall_mem_cons.mpr ⟨(u356_18 X S x1 x2 x3 hS g1 g2 g3), List.forall_mem_cons.mpr ⟨(u356_19 X S x1 x2 x3 hS g1 g2 g3), List.forall_mem_cons.mpr ⟨(u356_20 X S x1 x2 x3 hS g1 g2 g3), List.forall_mem_cons.mpr ⟨(u356_21 X S x1 x2 x3 hS g1 g2 g3), List.forall_mem_cons.mpr ⟨(u356_22 X S x1 x2 x3 hS g1 g2 g3), List.forall_mem_cons.mpr ⟨(u356_23 X S x1 x2 x3 hS g1 g2 g3), List.forall_mem_cons.mpr ⟨(u356_24 X S x1 x2 x3 hS g1 g2 g3), List.forall_mem_cons.mpr ⟨(u356_25 X S x1 x2 x3 hS g1 g2 g3), List.forall_mem_cons.mpr ⟨(u356_26 X S x1 x2 x3 hS g1 g2 g3), List.forall_mem_cons.mpr ⟨(u356_27 X S x1 x2 x3 hS g1 g2 g3), fun _ h => absurd h List.not_mem_nil⟩⟩⟩⟩⟩⟩⟩⟩⟩⟩⟩⟩⟩⟩⟩⟩⟩⟩⟩⟩⟩⟩⟩⟩⟩⟩⟩⟩
set_option maxRecDepth 40000 in
theorem u357_0 (X : (Int → Int) × Int) (S : fx_S) (hS : fx_Sok S) : fx_VC (fx_Mx X) 357 [] S (fx_p357.getD 0 ([], .inl (0, 0))) := fx_VCR_ok (show fx_VCR (fx_Mx X) 357 [] S _ from q357_0 S hS)
set_option maxRecDepth 40000 in
theorem w357 (X : (Int → Int) × Int) (zs : List Int) (S : fx_S) (hS : fx_Sok S) (hz : zs.length = (fx_lv0 fx_t357.2.2.1 0).2) (rz : fx_rz fx_t357 zs S) : ∀ p ∈ fx_p357, fx_VC (fx_Mx X) 357 zs S p := by
  obtain rfl := List.eq_nil_of_length_eq_zero hz
  exact List.forall_mem_cons.mpr ⟨(u357_0 X S hS), fun _ h => absurd h List.not_mem_nil⟩
set_option maxRecDepth 40000 in
theorem u358_0 (X : (Int → Int) × Int) (S : fx_S) (x1 x4 : Int) (hS : fx_Sok S) (g1 : -2147483648 ≤ x1 ∧ x1 ≤ 2147483647) (g4 : -2147483648 ≤ x4 ∧ x4 ≤ 2147483647) : fx_VC (fx_Mx X) 358 [x1, x4] S (fx_p358.getD 0 ([], .inl (0, 0))) := fx_VCR_ok (show fx_VCR (fx_Mx X) 358 [x1, x4] S _ from q358_0 S x1 x4 hS g1 g4)
set_option maxRecDepth 40000 in
theorem u358_1 (X : (Int → Int) × Int) (S : fx_S) (x1 x4 : Int) (hS : fx_Sok S) (g1 : -2147483648 ≤ x1 ∧ x1 ≤ 2147483647) (g4 : -2147483648 ≤ x4 ∧ x4 ≤ 2147483647) : fx_VC (fx_Mx X) 358 [x1, x4] S (fx_p358.getD 1 ([], .inl (0, 0))) := fx_VCR_ok (show fx_VCR (fx_Mx X) 358 [x1, x4] S _ from q358_1 S x1 x4 hS g1 g4)
set_option maxRecDepth 40000 in
theorem u358_2 (X : (Int → Int) × Int) (S : fx_S) (x1 x4 : Int) (hS : fx_Sok S) (g1 : -2147483648 ≤ x1 ∧ x1 ≤ 2147483647) (g4 : -2147483648 ≤ x4 ∧ x4 ≤ 2147483647) : fx_VC (fx_Mx X) 358 [x1, x4] S (fx_p358.getD 2 ([], .inl (0, 0))) := fx_VCR_ok (show fx_VCR (fx_Mx X) 358 [x1, x4] S _ from q358_2 S x1 x4 hS g1 g4)
set_option maxRecDepth 40000 in
theorem w358 (X : (Int → Int) × Int) (zs : List Int) (S : fx_S) (hS : fx_Sok S) (hz : zs.length = (fx_lv0 fx_t358.2.2.1 0).2) (rz : fx_rz fx_t358 zs S) : ∀ p ∈ fx_p358, fx_VC (fx_Mx X) 358 zs S p := by
  obtain ⟨x1, x4, rfl⟩ := fx_len2 hz
  have g1 : -2147483648 ≤ x1 ∧ x1 ≤ 2147483647 := rz 1 _ rfl
  have g4 : -2147483648 ≤ x4 ∧ x4 ≤ 2147483647 := rz 4 _ rfl
  exact List.forall_mem_cons.mpr ⟨(u358_0 X S x1 x4 hS g1 g4), List.forall_mem_cons.mpr ⟨(u358_1 X S x1 x4 hS g1 g4), List.forall_mem_cons.mpr ⟨(u358_2 X S x1 x4 hS g1 g4), fun _ h => absurd h List.not_mem_nil⟩⟩⟩
set_option maxRecDepth 40000 in
theorem u359_0 (X : (Int → Int) × Int) (S : fx_S) (x1 x2 x3 x4 x5 : Int) (hS : fx_Sok S) (g1 : -2147483648 ≤ x1 ∧ x1 ≤ 2147483647) (g2 : -2147483648 ≤ x2 ∧ x2 ≤ 2147483647) (g3 : -2147483648 ≤ x3 ∧ x3 ≤ 2147483647) (g4 : -2147483648 ≤ x4 ∧ x4 ≤ 2147483647) (g5 : -2147483648 ≤ x5 ∧ x5 ≤ 2147483647) : fx_VC (fx_Mx X) 359 [x1, x2, x3, x4, x5] S (fx_p359.getD 0 ([], .inl (0, 0))) := fx_VCR_ok (show fx_VCR (fx_Mx X) 359 [x1, x2, x3, x4, x5] S _ from fun c1 c2 c3 S1 d1 c4 c5 v5 e5 b5 v6 e6 c6 c7 S2 d2 v7 e7 z Z kz bz pz => q359_0 S x1 x2 x3 x4 x5 hS g1 g2 g3 g4 g5 c1 c2 c3 S1 d1 c4 c5 v5 e5 b5 v6 e6 c6 c7 S2 d2 v7 (e7.trans (fx_bq0 _ _)) z Z kz bz pz)
set_option maxRecDepth 40000 in
theorem u359_1 (X : (Int → Int) × Int) (S : fx_S) (x1 x2 x3 x4 x5 : Int) (hS : fx_Sok S) (g1 : -2147483648 ≤ x1 ∧ x1 ≤ 2147483647) (g2 : -2147483648 ≤ x2 ∧ x2 ≤ 2147483647) (g3 : -2147483648 ≤ x3 ∧ x3 ≤ 2147483647) (g4 : -2147483648 ≤ x4 ∧ x4 ≤ 2147483647) (g5 : -2147483648 ≤ x5 ∧ x5 ≤ 2147483647) : fx_VC (fx_Mx X) 359 [x1, x2, x3, x4, x5] S (fx_p359.getD 1 ([], .inl (0, 0))) := fx_VCR_ok (show fx_VCR (fx_Mx X) 359 [x1, x2, x3, x4, x5] S _ from q359_1 S x1 x2 x3 x4 x5 hS g1 g2 g3 g4 g5)
set_option maxRecDepth 40000 in
theorem u359_2 (X : (Int → Int) × Int) (S : fx_S) (x1 x2 x3 x4 x5 : Int) (hS : fx_Sok S) (g1 : -2147483648 ≤ x1 ∧ x1 ≤ 2147483647) (g2 : -2147483648 ≤ x2 ∧ x2 ≤ 2147483647) (g3 : -2147483648 ≤ x3 ∧ x3 ≤ 2147483647) (g4 : -2147483648 ≤ x4 ∧ x4 ≤ 2147483647) (g5 : -2147483648 ≤ x5 ∧ x5 ≤ 2147483647) : fx_VC (fx_Mx X) 359 [x1, x2, x3, x4, x5] S (fx_p359.getD 2 ([], .inl (0, 0))) := fx_VCR_ok (show fx_VCR (fx_Mx X) 359 [x1, x2, x3, x4, x5] S _ from q359_2 S x1 x2 x3 x4 x5 hS g1 g2 g3 g4 g5)
set_option maxRecDepth 40000 in
theorem u359_3 (X : (Int → Int) × Int) (S : fx_S) (x1 x2 x3 x4 x5 : Int) (hS : fx_Sok S) (g1 : -2147483648 ≤ x1 ∧ x1 ≤ 2147483647) (g2 : -2147483648 ≤ x2 ∧ x2 ≤ 2147483647) (g3 : -2147483648 ≤ x3 ∧ x3 ≤ 2147483647) (g4 : -2147483648 ≤ x4 ∧ x4 ≤ 2147483647) (g5 : -2147483648 ≤ x5 ∧ x5 ≤ 2147483647) : fx_VC (fx_Mx X) 359 [x1, x2, x3, x4, x5] S (fx_p359.getD 3 ([], .inl (0, 0))) := fx_VCR_ok (show fx_VCR (fx_Mx X) 359 [x1, x2, x3, x4, x5] S _ from q359_3 S x1 x2 x3 x4 x5 hS g1 g2 g3 g4 g5)
set_option maxRecDepth 40000 in
theorem u359_4 (X : (Int → Int) × Int) (S : fx_S) (x1 x2 x3 x4 x5 : Int) (hS : fx_Sok S) (g1 : -2147483648 ≤ x1 ∧ x1 ≤ 2147483647) (g2 : -2147483648 ≤ x2 ∧ x2 ≤ 2147483647) (g3 : -2147483648 ≤ x3 ∧ x3 ≤ 2147483647) (g4 : -2147483648 ≤ x4 ∧ x4 ≤ 2147483647) (g5 : -2147483648 ≤ x5 ∧ x5 ≤ 2147483647) : fx_VC (fx_Mx X) 359 [x1, x2, x3, x4, x5] S (fx_p359.getD 4 ([], .inl (0, 0))) := fx_VCR_ok (show fx_VCR (fx_Mx X) 359 [x1, x2, x3, x4, x5] S _ from q359_4 S x1 x2 x3 x4 x5 hS g1 g2 g3 g4 g5)
set_option maxRecDepth 40000 in
theorem w359 (X : (Int → Int) × Int) (zs : List Int) (S : fx_S) (hS : fx_Sok S) (hz : zs.length = (fx_lv0 fx_t359.2.2.1 0).2) (rz : fx_rz fx_t359 zs S) : ∀ p ∈ fx_p359, fx_VC (fx_Mx X) 359 zs S p := by
  obtain ⟨x1, x2, x3, x4, x5, rfl⟩ := fx_len5 hz
  have g1 : -2147483648 ≤ x1 ∧ x1 ≤ 2147483647 := rz 1 _ rfl
  have g2 : -2147483648 ≤ x2 ∧ x2 ≤ 2147483647 := rz 2 _ rfl
  have g3 : -2147483648 ≤ x3 ∧ x3 ≤ 2147483647 := rz 3 _ rfl
  have g4 : -2147483648 ≤ x4 ∧ x4 ≤ 2147483647 := rz 4 _ rfl
  have g5 : -2147483648 ≤ x5 ∧ x5 ≤ 2147483647 := rz 5 _ rfl
  exact List.forall_mem_cons.mpr ⟨(u359_0 X S x1 x2 x3 x4 x5 hS g1 g2 g3 g4 g5), List.forall_mem_cons.mpr ⟨(u359_1 X S x1 x2 x3 x4 x5 hS g1 g2 g3 g4 g5), List.forall_mem_cons.mpr ⟨(u359_2 X S x1 x2 x3 x4 x5 hS g1 g2 g3 g4 g5), List.forall_mem_cons.mpr ⟨(u359_3 X S x1 x2 x3 x4 x5 hS g1 g2 g3 g4 g5), List.forall_mem_cons.mpr ⟨(u359_4 X S x1 x2 x3 x4 x5 hS g1 g2 g3 g4 g5), fun _ h => absurd h List.not_mem_nil⟩⟩⟩⟩⟩
set_option maxRecDepth 40000 in
theorem u360_0 (X : (Int → Int) × Int) (S : fx_S) (x2 x3 x4 x5 x6 x7 x8 : Int) (hS : fx_Sok S) (g2 : -2147483648 ≤ x2 ∧ x2 ≤ 2147483647) (g3 : -2147483648 ≤ x3 ∧ x3 ≤ 2147483647) (g4 : -2147483648 ≤ x4 ∧ x4 ≤ 2147483647) (g5 : -2147483648 ≤ x5 ∧ x5 ≤ 2147483647) (g6 : -2147483648 ≤ x6 ∧ x6 ≤ 2147483647) (g7 : -2147483648 ≤ x7 ∧ x7 ≤ 2147483647) (g8 : -2147483648 ≤ x8 ∧ x8 ≤ 2147483647) : fx_VC (fx_Mx X) 360 [x2, x3, x4, x5, x6, x7, x8] S (fx_p360.getD 0 ([], .inl (0, 0))) := fx_VCR_ok (show fx_VCR (fx_Mx X) 360 [x2, x3, x4, x5, x6, x7, x8] S _ from q360_0 S x2 x3 x4 x5 x6 x7 x8 hS g2 g3 g4 g5 g6 g7 g8)
set_option maxRecDepth 40000 in
theorem u360_1 (X : (Int → Int) × Int) (S : fx_S) (x2 x3 x4 x5 x6 x7 x8 : Int) (hS : fx_Sok S) (g2 : -2147483648 ≤ x2 ∧ x2 ≤ 2147483647) (g3 : -2147483648 ≤ x3 ∧ x3 ≤ 2147483647) (g4 : -2147483648 ≤ x4 ∧ x4 ≤ 2147483647) (g5 : -2147483648 ≤ x5 ∧ x5 ≤ 2147483647) (g6 : -2147483648 ≤ x6 ∧ x6 ≤ 2147483647) (g7 : -2147483648 ≤ x7 ∧ x7 ≤ 2147483647) (g8 : -2147483648 ≤ x8 ∧ x8 ≤ 2147483647) : fx_VC (fx_Mx X) 360 [x2, x3, x4, x5, x6, x7, x8] S (fx_p360.getD 1 ([], .inl (0, 0))) := fx_VCR_ok (show fx_VCR (fx_Mx X) 360 [x2, x3, x4, x5, x6, x7, x8] S _ from q360_1 S x2 x3 x4 x5 x6 x7 x8 hS g2 g3 g4 g5 g6 g7 g8)
set_option maxRecDepth 40000 in
theorem u360_2 (X : (Int → Int) × Int) (S : fx_S) (x2 x3 x4 x5 x6 x7 x8 : Int) (hS : fx_Sok S) (g2 : -2147483648 ≤ x2 ∧ x2 ≤ 2147483647) (g3 : -2147483648 ≤ x3 ∧ x3 ≤ 2147483647) (g4 : -2147483648 ≤ x4 ∧ x4 ≤ 2147483647) (g5 : -2147483648 ≤ x5 ∧ x5 ≤ 2147483647) (g6 : -2147483648 ≤ x6 ∧ x6 ≤ 2147483647) (g7 : -2147483648 ≤ x7 ∧ x7 ≤ 2147483647) (g8 : -2147483648 ≤ x8 ∧ x8 ≤ 2147483647) : fx_VC (fx_Mx X) 360 [x2, x3, x4, x5, x6, x7, x8] S (fx_p360.getD 2 ([], .inl (0, 0))) := fx_VCR_ok (show fx_VCR (fx_Mx X) 360 [x2, x3, x4, x5, x6, x7, x8] S _ from q360_2 S x2 x3 x4 x5 x6 x7 x8 hS g2 g3 g4 g5 g6 g7 g8)
set_option maxRecDepth 40000 in
theorem u360_3 (X : (Int → Int) × Int) (S : fx_S) (x2 x3 x4 x5 x6 x7 x8 : Int) (hS : fx_Sok S) (g2 : -2147483648 ≤ x2 ∧ x2 ≤ 2147483647) (g3 : -2147483648 ≤ x3 ∧ x3 ≤ 2147483647) (g4 : -2147483648 ≤ x4 ∧ x4 ≤ 2147483647) (g5 : -2147483648 ≤ x5 ∧ x5 ≤ 2147483647) (g6 : -2147483648 ≤ x6 ∧ x6 ≤ 2147483647) (g7 : -2147483648 ≤ x7 ∧ x7 ≤ 2147483647) (g8 : -2147483648 ≤ x8 ∧ x8 ≤ 2147483647) : fx_VC (fx_Mx X) 360 [x2, x3, x4, x5, x6, x7, x8] S (fx_p360.getD 3 ([], .inl (0, 0))) := fx_VCR_ok (show fx_VCR (fx_Mx X) 360 [x2, x3, x4, x5, x6, x7, x8] S _ from q360_3 S x2 x3 x4 x5 x6 x7 x8 hS g2 g3 g4 g5 g6 g7 g8)
set_option maxRecDepth 40000 in
theorem u360_4 (X : (Int → Int) × Int) (S : fx_S) (x2 x3 x4 x5 x6 x7 x8 : Int) (hS : fx_Sok S) (g2 : -2147483648 ≤ x2 ∧ x2 ≤ 2147483647) (g3 : -2147483648 ≤ x3 ∧ x3 ≤ 2147483647) (g4 : -2147483648 ≤ x4 ∧ x4 ≤ 2147483647) (g5 : -2147483648 ≤ x5 ∧ x5 ≤ 2147483647) (g6 : -2147483648 ≤ x6 ∧ x6 ≤ 2147483647) (g7 : -2147483648 ≤ x7 ∧ x7 ≤ 2147483647) (g8 : -2147483648 ≤ x8 ∧ x8 ≤ 2147483647) : fx_VC (fx_Mx X) 360 [x2, x3, x4, x5, x6, x7, x8] S (fx_p360.getD 4 ([], .inl (0, 0))) := fx_VCR_ok (show fx_VCR (fx_Mx X) 360 [x2, x3, x4, x5, x6, x7, x8] S _ from q360_4 S x2 x3 x4 x5 x6 x7 x8 hS g2 g3 g4 g5 g6 g7 g8)
set_option maxRecDepth 40000 in
theorem w360 (X : (Int → Int) × Int) (zs : List Int) (S : fx_S) (hS : fx_Sok S) (hz : zs.length = (fx_lv0 fx_t360.2.2.1 0).2) (rz : fx_rz fx_t360 zs S) : ∀ p ∈ fx_p360, fx_VC (fx_Mx X) 360 zs S p := by
  obtain ⟨x2, x3, x4, x5, x6, x7, x8, rfl⟩ := fx_len7 hz
  have g2 : -2147483648 ≤ x2 ∧ x2 ≤ 2147483647 := rz 2 _ rfl
  have g3 : -2147483648 ≤ x3 ∧ x3 ≤ 2147483647 := rz 3 _ rfl
  have g4 : -2147483648 ≤ x4 ∧ x4 ≤ 2147483647 := rz 4 _ rfl
  have g5 : -2147483648 ≤ x5 ∧ x5 ≤ 2147483647 := rz 5 _ rfl
  have g6 : -2147483648 ≤ x6 ∧ x6 ≤ 2147483647 := rz 6 _ rfl
  have g7 : -2147483648 ≤ x7 ∧ x7 ≤ 2147483647 := rz 7 _ rfl
  have g8 : -2147483648 ≤ x8 ∧ x8 ≤ 2147483647 := rz 8 _ rfl
  exact List.forall_mem_cons.mpr ⟨(u360_0 X S x2 x3 x4 x5 x6 x7 x8 hS g2 g3 g4 g5 g6 g7 g8), List.forall_mem_cons.mpr ⟨(u360_1 X S x2 x3 x4 x5 x6 x7 x8 hS g2 g3 g4 g5 g6 g7 g8), List.forall_mem_cons.mpr ⟨(u360_2 X S x2 x3 x4 x5 x6 x7 x8 hS g2 g3 g4 g5 g6 g7 g8), List.forall_mem_cons.mpr ⟨(u360_3 X S x2 x3 x4 x5 x6 x7 x8 hS g2 g3 g4 g5 g6 g7 g8), List.forall_mem_cons.mpr ⟨(u360_4 X S x2 x3 x4 x5 x6 x7 x8 hS g2 g3 g4 g5 g6 g7 g8), fun _ h => absurd h List.not_mem_nil⟩⟩⟩⟩⟩
set_option maxRecDepth 40000 in
theorem u361_0 (X : (Int → Int) × Int) (S : fx_S) (x1 x2 x3 : Int) (hS : fx_Sok S) (g1 : -2147483648 ≤ x1 ∧ x1 ≤ 2147483647) (g2 : -2147483648 ≤ x2 ∧ x2 ≤ 2147483647) (g3 : -2147483648 ≤ x3 ∧ x3 ≤ 2147483647) : fx_VC (fx_Mx X) 361 [x1, x2, x3] S (fx_p361.getD 0 ([], .inl (0, 0))) := fx_VCR_ok (show fx_VCR (fx_Mx X) 361 [x1, x2, x3] S _ from q361_0 S x1 x2 x3 hS g1 g2 g3)
set_option maxRecDepth 40000 in
theorem w361 (X : (Int → Int) × Int) (zs : List Int) (S : fx_S) (hS : fx_Sok S) (hz : zs.length = (fx_lv0 fx_t361.2.2.1 0).2) (rz : fx_rz fx_t361 zs S) : ∀ p ∈ fx_p361, fx_VC (fx_Mx X) 361 zs S p := by
  obtain ⟨x1, x2, x3, rfl⟩ := fx_len3 hz
  have g1 : -2147483648 ≤ x1 ∧ x1 ≤ 2147483647 := rz 1 _ rfl
  have g2 : -2147483648 ≤ x2 ∧ x2 ≤ 2147483647 := rz 2 _ rfl
  have g3 : -2147483648 ≤ x3 ∧ x3 ≤ 2147483647 := rz 3 _ rfl
  exact List.forall_mem_cons.mpr ⟨(u361_0 X S x1 x2 x3 hS g1 g2 g3), fun _ h => absurd h List.not_mem_nil⟩
set_option maxRecDepth 40000 in
theorem u362_0 (X : (Int → Int) × Int) (S : fx_S) (x1 x2 x3 : Int) (hS : fx_Sok S) (g1 : -2147483648 ≤ x1 ∧ x1 ≤ 2147483647) (g2 : -2147483648 ≤ x2 ∧ x2 ≤ 2147483647) (g3 : -2147483648 ≤ x3 ∧ x3 ≤ 2147483647) : fx_VC (fx_Mx X) 362 [x1, x2, x3] S (fx_p362.getD 0 ([], .inl (0, 0))) := fx_VCR_ok (show fx_VCR (fx_Mx X) 362 [x1, x2, x3] S _ from q362_0 S x1 x2 x3 hS g1 g2 g3)
set_option maxRecDepth 40000 in
theorem u362_1 (X : (Int → Int) × Int) (S : fx_S) (x1 x2 x3 : Int) (hS : fx_Sok S) (g1 : -2147483648 ≤ x1 ∧ x1 ≤ 2147483647) (g2 : -2147483648 ≤ x2 ∧ x2 ≤ 2147483647) (g3 : -2147483648 ≤ x3 ∧ x3 ≤ 2147483647) : fx_VC (fx_Mx X) 362 [x1, x2, x3] S (fx_p362.getD 1 ([], .inl (0, 0))) := fx_VCR_ok (show fx_VCR (fx_Mx X) 362 [x1, x2, x3] S _ from q362_1 S x1 x2 x3 hS g1 g2 g3)
set_option maxRecDepth 40000 in
theorem u362_2 (X : (Int → Int) × Int) (S : fx_S) (x1 x2 x3 : Int) (hS : fx_Sok S) (g1 : -2147483648 ≤ x1 ∧ x1 ≤ 2147483647) (g2 : -2147483648 ≤ x2 ∧ x2 ≤ 2147483647) (g3 : -2147483648 ≤ x3 ∧ x3 ≤ 2147483647) : fx_VC (fx_Mx X) 362 [x1, x2, x3] S (fx_p362.getD 2 ([], .inl (0, 0))) := fx_VCR_ok (show fx_VCR (fx_Mx X) 362 [x1, x2, x3] S _ from q362_2 S x1 x2 x3 hS g1 g2 g3)
set_option maxRecDepth 40000 in
theorem u362_3 (X : (Int → Int) × Int) (S : fx_S) (x1 x2 x3 : Int) (hS : fx_Sok S) (g1 : -2147483648 ≤ x1 ∧ x1 ≤ 2147483647) (g2 : -2147483648 ≤ x2 ∧ x2 ≤ 2147483647) (g3 : -2147483648 ≤ x3 ∧ x3 ≤ 2147483647) : fx_VC (fx_Mx X) 362 [x1, x2, x3] S (fx_p362.getD 3 ([], .inl (0, 0))) := fx_VCR_ok (show fx_VCR (fx_Mx X) 362 [x1, x2, x3] S _ from q362_3 S x1 x2 x3 hS g1 g2 g3)
set_option maxRecDepth 40000 in
theorem u362_4 (X : (Int → Int) × Int) (S : fx_S) (x1 x2 x3 : Int) (hS : fx_Sok S) (g1 : -2147483648 ≤ x1 ∧ x1 ≤ 2147483647) (g2 : -2147483648 ≤ x2 ∧ x2 ≤ 2147483647) (g3 : -2147483648 ≤ x3 ∧ x3 ≤ 2147483647) : fx_VC (fx_Mx X) 362 [x1, x2, x3] S (fx_p362.getD 4 ([], .inl (0, 0))) := fx_VCR_ok (show fx_VCR (fx_Mx X) 362 [x1, x2, x3] S _ from q362_4 S x1 x2 x3 hS g1 g2 g3)
set_option maxRecDepth 40000 in
theorem u362_5 (X : (Int → Int) × Int) (S : fx_S) (x1 x2 x3 : Int) (hS : fx_Sok S) (g1 : -2147483648 ≤ x1 ∧ x1 ≤ 2147483647) (g2 : -2147483648 ≤ x2 ∧ x2 ≤ 2147483647) (g3 : -2147483648 ≤ x3 ∧ x3 ≤ 2147483647) : fx_VC (fx_Mx X) 362 [x1, x2, x3] S (fx_p362.getD 5 ([], .inl (0, 0))) := fx_VCR_ok (show fx_VCR (fx_Mx X) 362 [x1, x2, x3] S _ from q362_5 S x1 x2 x3 hS g1 g2 g3)
set_option maxRecDepth 40000 in
theorem w362 (X : (Int → Int) × Int) (zs : List Int) (S : fx_S) (hS : fx_Sok S) (hz : zs.length = (fx_lv0 fx_t362.2.2.1 0).2) (rz : fx_rz fx_t362 zs S) : ∀ p ∈ fx_p362, fx_VC (fx_Mx X) 362 zs S p := by
  obtain ⟨x1, x2, x3, rfl⟩ := fx_len3 hz
  have g1 : -2147483648 ≤ x1 ∧ x1 ≤ 2147483647 := rz 1 _ rfl
  have g2 : -2147483648 ≤ x2 ∧ x2 ≤ 2147483647 := rz 2 _ rfl
  have g3 : -2147483648 ≤ x3 ∧ x3 ≤ 2147483647 := rz 3 _ rfl
  exact List.forall_mem_cons.mpr ⟨(u362_0 X S x1 x2 x3 hS g1 g2 g3), List.forall_mem_cons.mpr ⟨(u362_1 X S x1 x2 x3 hS g1 g2 g3), List.forall_mem_cons.mpr ⟨(u362_2 X S x1 x2 x3 hS g1 g2 g3), List.forall_mem_cons.mpr ⟨(u362_3 X S x1 x2 x3 hS g1 g2 g3), List.forall_mem_cons.mpr ⟨(u362_4 X S x1 x2 x3 hS g1 g2 g3), List.forall_mem_cons.mpr ⟨(u362_5 X S x1 x2 x3 hS g1 g2 g3), fun _ h => absurd h List.not_mem_nil⟩⟩⟩⟩⟩⟩
set_option maxRecDepth 40000 in
theorem u363_0 (X : (Int → Int) × Int) (S : fx_S) (x1 x2 x3 : Int) (hS : fx_Sok S) (g1 : -2147483648 ≤ x1 ∧ x1 ≤ 2147483647) (g2 : -2147483648 ≤ x2 ∧ x2 ≤ 2147483647) (g3 : -2147483648 ≤ x3 ∧ x3 ≤ 2147483647) : fx_VC (fx_Mx X) 363 [x1, x2, x3] S (fx_p363.getD 0 ([], .inl (0, 0))) := fx_VCR_ok (show fx_VCR (fx_Mx X) 363 [x1, x2, x3] S _ from q363_0 S x1 x2 x3 hS g1 g2 g3)
set_option maxRecDepth 40000 in
theorem u363_1 (X : (Int → Int) × Int) (S : fx_S) (x1 x2 x3 : Int) (hS : fx_Sok S) (g1 : -2147483648 ≤ x1 ∧ x1 ≤ 2147483647) (g2 : -2147483648 ≤ x2 ∧ x2 ≤ 2147483647) (g3 : -2147483648 ≤ x3 ∧ x3 ≤ 2147483647) : fx_VC (fx_Mx X) 363 [x1, x2, x3] S (fx_p363.getD 1 ([], .inl (0, 0))) := fx_VCR_ok (show fx_VCR (fx_Mx X) 363 [x1, x2, x3] S _ from q363_1 S x1 x2 x3 hS g1 g2 g3)
set_option maxRecDepth 40000 in
theorem w363 (X : (Int → Int) × Int) (zs : List Int) (S : fx_S) (hS : fx_Sok S) (hz : zs.length = (fx_lv0 fx_t363.2.2.1 0).2) (rz : fx_rz fx_t363 zs S) : ∀ p ∈ fx_p363, fx_VC (fx_Mx X) 363 zs S p := by
  obtain ⟨x1, x2, x3, rfl⟩ := fx_len3 hz
  have g1 : -2147483648 ≤ x1 ∧ x1 ≤ 2147483647 := rz 1 _ rfl
  have g2 : -2147483648 ≤ x2 ∧ x2 ≤ 2147483647 := rz 2 _ rfl
  have g3 : -2147483648 ≤ x3 ∧ x3 ≤ 2147483647 := rz 3 _ rfl
  exact List.forall_mem_cons.mpr ⟨(u363_0 X S x1 x2 x3 hS g1 g2 g3), List.forall_mem_cons.mpr ⟨(u363_1 X S x1 x2 x3 hS g1 g2 g3), fun _ h => absurd h List.not_mem_nil⟩⟩
set_option maxRecDepth 40000 in
theorem u364_0 (X : (Int → Int) × Int) (S : fx_S) (x1 x2 x3 : Int) (hS : fx_Sok S) (g1 : -2147483648 ≤ x1 ∧ x1 ≤ 2147483647) (g2 : -2147483648 ≤ x2 ∧ x2 ≤ 2147483647) (g3 : -2147483648 ≤ x3 ∧ x3 ≤ 2147483647) : fx_VC (fx_Mx X) 364 [x1, x2, x3] S (fx_p364.getD 0 ([], .inl (0, 0))) := fx_VCR_ok (show fx_VCR (fx_Mx X) 364 [x1, x2, x3] S _ from q364_0 S x1 x2 x3 hS g1 g2 g3)
set_option maxRecDepth 40000 in
theorem u364_1 (X : (Int → Int) × Int) (S : fx_S) (x1 x2 x3 : Int) (hS : fx_Sok S) (g1 : -2147483648 ≤ x1 ∧ x1 ≤ 2147483647) (g2 : -2147483648 ≤ x2 ∧ x2 ≤ 2147483647) (g3 : -2147483648 ≤ x3 ∧ x3 ≤ 2147483647) : fx_VC (fx_Mx X) 364 [x1, x2, x3] S (fx_p364.getD 1 ([], .inl (0, 0))) := fx_VCR_ok (show fx_VCR (fx_Mx X) 364 [x1, x2, x3] S _ from q364_1 S x1 x2 x3 hS g1 g2 g3)
