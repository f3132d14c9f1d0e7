/-! FX: the paths of the entries, all -/
set_option maxRecDepth 40000 in
theorem u305_33 (X : (Int → Int) × Int) (S : fx_S) (x1 x2 x3 : Int) (hS : fx_Sok S) (g1 : -2147483648 ≤ x1 ∧ x1 ≤ 2147483647) (g2 : -2147483648 ≤ x2 ∧ x2 ≤ 2147483647) (g3 : -2147483648 ≤ x3 ∧ x3 ≤ 2147483647) : fx_VC (fx_Mx X) 305 [x1, x2, x3] S (fx_p305.getD 33 ([], .inl (0, 0))) := fx_VCR_ok (show fx_VCR (fx_Mx X) 305 [x1, x2, x3] S _ from q305_33 S x1 x2 x3 hS g1 g2 g3)
set_option maxRecDepth 40000 in
theorem u305_34 (X : (Int → Int) × Int) (S : fx_S) (x1 x2 x3 : Int) (hS : fx_Sok S) (g1 : -2147483648 ≤ x1 ∧ x1 ≤ 2147483647) (g2 : -2147483648 ≤ x2 ∧ x2 ≤ 2147483647) (g3 : -2147483648 ≤ x3 ∧ x3 ≤ 2147483647) : fx_VC (fx_Mx X) 305 [x1, x2, x3] S (fx_p305.getD 34 ([], .inl (0, 0))) := fx_VCR_ok (show fx_VCR (fx_Mx X) 305 [x1, x2, x3] S _ from q305_34 S x1 x2 x3 hS g1 g2 g3)
set_option maxRecDepth 40000 in
theorem u305_35 (X : (Int → Int) × Int) (S : fx_S) (x1 x2 x3 : Int) (hS : fx_Sok S) (g1 : -2147483648 ≤ x1 ∧ x1 ≤ 2147483647) (g2 : -2147483648 ≤ x2 ∧ x2 ≤ 2147483647) (g3 : -2147483648 ≤ x3 ∧ x3 ≤ 2147483647) : fx_VC (fx_Mx X) 305 [x1, x2, x3] S (fx_p305.getD 35 ([], .inl (0, 0))) := fx_VCR_ok (show fx_VCR (fx_Mx X) 305 [x1, x2, x3] S _ from q305_35 S x1 x2 x3 hS g1 g2 g3)
set_option maxRecDepth 40000 in
theorem u305_36 (X : (Int → Int) × Int) (S : fx_S) (x1 x2 x3 : Int) (hS : fx_Sok S) (g1 : -2147483648 ≤ x1 ∧ x1 ≤ 2147483647) (g2 : -2147483648 ≤ x2 ∧ x2 ≤ 2147483647) (g3 : -2147483648 ≤ x3 ∧ x3 ≤ 2147483647) : fx_VC (fx_Mx X) 305 [x1, x2, x3] S (fx_p305.getD 36 ([], .inl (0, 0))) := fx_VCR_ok (show fx_VCR (fx_Mx X) 305 [x1, x2, x3] S _ from q305_36 S x1 x2 x3 hS g1 g2 g3)
set_option maxRecDepth 40000 in
theorem u305_37 (X : (Int → Int) × Int) (S : fx_S) (x1 x2 x3 : Int) (hS : fx_Sok S) (g1 : -2147483648 ≤ x1 ∧ x1 ≤ 2147483647) (g2 : -2147483648 ≤ x2 ∧ x2 ≤ 2147483647) (g3 : -2147483648 ≤ x3 ∧ x3 ≤ 2147483647) : fx_VC (fx_Mx X) 305 [x1, x2, x3] S (fx_p305.getD 37 ([], .inl (0, 0))) := fx_VCR_ok (show fx_VCR (fx_Mx X) 305 [x1, x2, x3] S _ from q305_37 S x1 x2 x3 hS g1 g2 g3)
set_option maxRecDepth 40000 in
theorem u305_38 (X : (Int → Int) × Int) (S : fx_S) (x1 x2 x3 : Int) (hS : fx_Sok S) (g1 : -2147483648 ≤ x1 ∧ x1 ≤ 2147483647) (g2 : -2147483648 ≤ x2 ∧ x2 ≤ 2147483647) (g3 : -2147483648 ≤ x3 ∧ x3 ≤ 2147483647) : fx_VC (fx_Mx X) 305 [x1, x2, x3] S (fx_p305.getD 38 ([], .inl (0, 0))) := fx_VCR_ok (show fx_VCR (fx_Mx X) 305 [x1, x2, x3] S _ from q305_38 S x1 x2 x3 hS g1 g2 g3)
set_option maxRecDepth 40000 in
theorem u305_39 (X : (Int → Int) × Int) (S : fx_S) (x1 x2 x3 : Int) (hS : fx_Sok S) (g1 : -2147483648 ≤ x1 ∧ x1 ≤ 2147483647) (g2 : -2147483648 ≤ x2 ∧ x2 ≤ 2147483647) (g3 : -2147483648 ≤ x3 ∧ x3 ≤ 2147483647) : fx_VC (fx_Mx X) 305 [x1, x2, x3] S (fx_p305.getD 39 ([], .inl (0, 0))) := fx_VCR_ok (show fx_VCR (fx_Mx X) 305 [x1, x2, x3] S _ from q305_39 S x1 x2 x3 hS g1 g2 g3)
set_option maxRecDepth 40000 in
theorem u305_40 (X : (Int → Int) × Int) (S : fx_S) (x1 x2 x3 : Int) (hS : fx_Sok S) (g1 : -2147483648 ≤ x1 ∧ x1 ≤ 2147483647) (g2 : -2147483648 ≤ x2 ∧ x2 ≤ 2147483647) (g3 : -2147483648 ≤ x3 ∧ x3 ≤ 2147483647) : fx_VC (fx_Mx X) 305 [x1, x2, x3] S (fx_p305.getD 40 ([], .inl (0, 0))) := fx_VCR_ok (show fx_VCR (fx_Mx X) 305 [x1, x2, x3] S _ from q305_40 S x1 x2 x3 hS g1 g2 g3)
set_option maxRecDepth 40000 in
theorem w305 (X : (Int → Int) × Int) (zs : List Int) (S : fx_S) (hS : fx_Sok S) (hz : zs.length = (fx_lv0 fx_t305.2.2.1 0).2) (rz : fx_rz fx_t305 zs S) : ∀ p ∈ fx_p305, fx_VC (fx_Mx X) 305 zs S p := by
  obtain ⟨x1, x2, x3, rfl⟩ := fx_len3 hz
  have g1 : -2147483648 ≤ x1 ∧ x1 ≤ 2147483647 := rz 1 _ rfl
  have g2 : -2147483648 ≤ x2 ∧ x2 ≤ 2147483647 := rz 2 _ rfl
  have g3 : -2147483648 ≤ x3 ∧ x3 ≤ 2147483647 := rz 3 _ rfl
  exact List.forall_mem_cons.mpr ⟨(u305_0 X S x1 x2 x3 hS g1 g2 g3), List.forall_mem_cons.mpr ⟨(u305_1 X S x1 x2 x3 hS g1 g2 g3), List.forall_mem_cons.mpr ⟨(u305_2 X S x1 x2 x3 hS g1 g2 g3), List.forall_mem_cons.mpr ⟨(u305_3 X S x1 x2 x3 hS g1 g2 g3), List.forall_mem_cons.mpr ⟨(u305_4 X S x1 x2 x3 hS g1 g2 g3), List.forall_mem_cons.mpr ⟨(u305_5 X S x1 x2 x3 hS g1 g2 g3), List.forall_mem_cons.mpr ⟨(u305_6 X S x1 x2 x3 hS g1 g2 g3), List.forall_mem_cons.mpr ⟨(u305_7 X S x1 x2 x3 hS g1 g2 g3), List.forall_mem_cons.mpr ⟨(u305_8 X S x1 x2 x3 hS g1 g2 g3), List.forall_mem_cons.mpr ⟨(u305_9 X S x1 x2 x3 hS g1 g2 g3), List.forall_mem_cons.mpr ⟨(u305_10 X S x1 x2 x3 hS g1 g2 g3), List.forall_mem_cons.mpr ⟨(u305_11 X S x1 x2 x3 hS g1 g2 g3), List.forall_mem_cons.mpr ⟨(u305_12 X S x1 x2 x3 hS g1 g2 g3), List.forall_mem_cons.mpr ⟨(u305_13 X S x1 x2 x3 hS g1 g2 g3), List.forall_mem_cons.mpr ⟨(u305_14 X S x1 x2 x3 hS g1 g2 g3), List.forall_mem_cons.mpr ⟨(u305_15 X S x1 x2 x3 hS g1 g2 g3), List.forall_mem_cons.mpr ⟨(u305_16 X S x1 x2 x3 hS g1 g2 g3), List.forall_mem_cons.mpr ⟨(u305_17 X S x1 x2 x3 hS g1 g2 g3), List.forall_mem_cons.mpr ⟨(u305_18 X S x1 x2 x3 hS g1 g2 g3), List.forall_mem_cons.mpr ⟨(u305_19 X S x1 x2 x3 hS g1 g2 g3), List.forall_mem_cons.mpr ⟨(u305_20 X S x1 x2 x3 hS g1 g2 g3), List.forall_mem_cons.mpr ⟨(u305_21 X S x1 x2 x3 hS g1 g2 g3), List.forall_mem_cons.mpr ⟨(u305_22 X S x1 x2 x3 hS g1 g2 g3), List.forall_mem_cons.mpr ⟨(u305_23 X S x1 x2 x3 hS g1 g2 g3), List.forall_mem_cons.mpr ⟨(u305_24 X S x1 x2 x3 hS g1 g2 g3), List.forall_mem_cons.mpr ⟨(u305_25 X S x1 x2 x3 hS g1 g2 g3), List.forall_mem_cons.mpr ⟨(u305_26 X S x1 x2 x3 hS g1 g2 g3), List.forall_mem_cons.mpr ⟨(u305_27 X S x1 x2 x3 hS g1 g2 g3), List.forall_mem_cons.mpr ⟨(u305_28 X S x1 x2 x3 hS g1 g2 g3), List.forall_mem_cons.mpr ⟨(u305_29 X S x1 x2 x3 hS g1 g2 g3), List.forall_mem_cons.mpr ⟨(u305_30 X S x1 x2 x3 hS g1 g2 g3), List.forall_mem_cons.mpr ⟨(u305_31 X S x1 x2 x3 hS g1 g2 g3), List.forall_mem_cons.mpr ⟨(u305_32 X S x1 x2 x3 hS g1 g2 g3), List.forall_mem_cons.mpr ⟨(u305_33 X S x1 x2 x3 hS g1 g2 g3), List.forall_mem_cons.mpr ⟨(u305_34 X S x1 x2 x3 hS g1 g2 g3), List.forall_mem_cons.mpr ⟨(u305_35 X S x1 x2 x3 hS g1 g2 g3), List.forall_mem_cons.mpr ⟨(u305_36 X S x1 x2 x3 hS g1 g2 g3), List.forall_mem_cons.mpr ⟨(u305_37 X S x1 x2 x3 hS g1 g2 g3), List.forall_mem_cons.mpr ⟨(u305_38 X S x1 x2 x3 hS g1 g2 g3), List.forall_mem_cons.mpr ⟨(u305_39 X S x1 x2 x3 hS g1 g2 g3), List.forall_mem_cons.mpr ⟨(u305_40 X S x1 x2 x3 hS g1 g2 g3), fun _ h => absurd h List.not_mem_nil⟩⟩⟩⟩⟩⟩⟩⟩⟩⟩⟩⟩⟩⟩⟩⟩⟩⟩⟩⟩⟩⟩⟩⟩⟩⟩⟩⟩⟩⟩⟩⟩⟩⟩⟩⟩⟩⟩⟩⟩⟩
set_option maxRecDepth 40000 in
theorem u306_0 (X : (Int → Int) × Int) (S : fx_S) (x0 x1 x2 x3 x4 x5 : Int) (hS : fx_Sok S) (g0 : -1 ≤ x0 ∧ x0 < S.2.2) (g1 : -2147483648 ≤ x1 ∧ x1 ≤ 2147483647) (g2 : -2147483648 ≤ x2 ∧ x2 ≤ 2147483647) (g3 : -2147483648 ≤ x3 ∧ x3 ≤ 2147483647) (g4 : -2147483648 ≤ x4 ∧ x4 ≤ 2147483647) (g5 : -2147483648 ≤ x5 ∧ x5 ≤ 2147483647) : fx_VC (fx_Mx X) 306 [x0, x1, x2, x3, x4, x5] S (fx_p306.getD 0 ([], .inl (0, 0))) := fx_VCR_ok (show fx_VCR (fx_Mx X) 306 [x0, x1, x2, x3, x4, x5] S _ from q306_0 S x0 x1 x2 x3 x4 x5 hS g0 g1 g2 g3 g4 g5)
set_option maxRecDepth 40000 in
theorem u306_1 (X : (Int → Int) × Int) (S : fx_S) (x0 x1 x2 x3 x4 x5 : Int) (hS : fx_Sok S) (g0 : -1 ≤ x0 ∧ x0 < S.2.2) (g1 : -2147483648 ≤ x1 ∧ x1 ≤ 2147483647) (g2 : -2147483648 ≤ x2 ∧ x2 ≤ 2147483647) (g3 : -2147483648 ≤ x3 ∧ x3 ≤ 2147483647) (g4 : -2147483648 ≤ x4 ∧ x4 ≤ 2147483647) (g5 : -2147483648 ≤ x5 ∧ x5 ≤ 2147483647) : fx_VC (fx_Mx X) 306 [x0, x1, x2, x3, x4, x5] S (fx_p306.getD 1 ([], .inl (0, 0))) := fx_VCR_ok (show fx_VCR (fx_Mx X) 306 [x0, x1, x2, x3, x4, x5] S _ from q306_1 S x0 x1 x2 x3 x4 x5 hS g0 g1 g2 g3 g4 g5)
set_option maxRecDepth 40000 in
theorem u306_2 (X : (Int → Int) × Int) (S : fx_S) (x0 x1 x2 x3 x4 x5 : Int) (hS : fx_Sok S) (g0 : -1 ≤ x0 ∧ x0 < S.2.2) (g1 : -2147483648 ≤ x1 ∧ x1 ≤ 2147483647) (g2 : -2147483648 ≤ x2 ∧ x2 ≤ 2147483647) (g3 : -2147483648 ≤ x3 ∧ x3 ≤ 2147483647) (g4 : -2147483648 ≤ x4 ∧ x4 ≤ 2147483647) (g5 : -2147483648 ≤ x5 ∧ x5 ≤ 2147483647) : fx_VC (fx_Mx X) 306 [x0, x1, x2, x3, x4, x5] S (fx_p306.getD 2 ([], .inl (0, 0))) := fx_VCR_ok (show fx_VCR (fx_Mx X) 306 [x0, x1, x2, x3, x4, x5] S _ from q306_2 S x0 x1 x2 x3 x4 x5 hS g0 g1 g2 g3 g4 g5)
set_option maxRecDepth 40000 in
theorem w306 (X : (Int → Int) × Int) (zs : List Int) (S : fx_S) (hS : fx_Sok S) (hz : zs.length = (fx_lv0 fx_t306.2.2.1 0).2) (rz : fx_rz fx_t306 zs S) : ∀ p ∈ fx_p306, fx_VC (fx_Mx X) 306 zs S p := by
  obtain ⟨x0, x1, x2, x3, x4, x5, rfl⟩ := fx_len6 hz
  have g0 : -1 ≤ x0 ∧ x0 < S.2.2 := rz 0 _ rfl
  have g1 : -2147483648 ≤ x1 ∧ x1 ≤ 2147483647 := rz 1 _ rfl
  have g2 : -2147483648 ≤ x2 ∧ x2 ≤ 2147483647 := rz 2 _ rfl
  have g3 : -2147483648 ≤ x3 ∧ x3 ≤ 2147483647 := rz 3 _ rfl
  have g4 : -2147483648 ≤ x4 ∧ x4 ≤ 2147483647 := rz 4 _ rfl
  have g5 : -2147483648 ≤ x5 ∧ x5 ≤ 2147483647 := rz 5 _ rfl
  exact List.forall_mem_cons.mpr ⟨(u306_0 X S x0 x1 x2 x3 x4 x5 hS g0 g1 g2 g3 g4 g5), List.forall_mem_cons.mpr ⟨(u306_1 X S x0 x1 x2 x3 x4 x5 hS g0 g1 g2 g3 g4 g5), List.forall_mem_cons.mpr ⟨(u306_2 X S x0 x1 x2 x3 x4 x5 hS g0 g1 g2 g3 g4 g5), fun _ h => absurd h List.not_mem_nil⟩⟩⟩
set_option maxRecDepth 40000 in
theorem u307_0 (X : (Int → Int) × Int) (S : fx_S) (x1 x2 x3 x4 x5 x6 x7 x8 : Int) (hS : fx_Sok S) (g1 : -2147483648 ≤ x1 ∧ x1 ≤ 2147483647) (g2 : -2147483648 ≤ x2 ∧ x2 ≤ 2147483647) (g3 : -2147483648 ≤ x3 ∧ x3 ≤ 2147483647) (g4 : -2147483648 ≤ x4 ∧ x4 ≤ 2147483647) (g5 : -2147483648 ≤ x5 ∧ x5 ≤ 2147483647) (g6 : -2147483648 ≤ x6 ∧ x6 ≤ 2147483647) (g7 : -2147483648 ≤ x7 ∧ x7 ≤ 2147483647) (g8 : -2147483648 ≤ x8 ∧ x8 ≤ 2147483647) : fx_VC (fx_Mx X) 307 [x1, x2, x3, x4, x5, x6, x7, x8] S (fx_p307.getD 0 ([], .inl (0, 0))) := fx_VCR_ok (show fx_VCR (fx_Mx X) 307 [x1, x2, x3, x4, x5, x6, x7, x8] S _ from q307_0 S x1 x2 x3 x4 x5 x6 x7 x8 hS g1 g2 g3 g4 g5 g6 g7 g8)
set_option maxRecDepth 40000 in
theorem u307_1 (X : (Int → Int) × Int) (S : fx_S) (x1 x2 x3 x4 x5 x6 x7 x8 : Int) (hS : fx_Sok S) (g1 : -2147483648 ≤ x1 ∧ x1 ≤ 2147483647) (g2 : -2147483648 ≤ x2 ∧ x2 ≤ 2147483647) (g3 : -2147483648 ≤ x3 ∧ x3 ≤ 2147483647) (g4 : -2147483648 ≤ x4 ∧ x4 ≤ 2147483647) (g5 : -2147483648 ≤ x5 ∧ x5 ≤ 2147483647) (g6 : -2147483648 ≤ x6 ∧ x6 ≤ 2147483647) (g7 : -2147483648 ≤ x7 ∧ x7 ≤ 2147483647) (g8 : -2147483648 ≤ x8 ∧ x8 ≤ 2147483647) : fx_VC (fx_Mx X) 307 [x1, x2, x3, x4, x5, x6, x7, x8] S (fx_p307.getD 1 ([], .inl (0, 0))) := fx_VCR_ok (show fx_VCR (fx_Mx X) 307 [x1, x2, x3, x4, x5, x6, x7, x8] S _ from q307_1 S x1 x2 x3 x4 x5 x6 x7 x8 hS g1 g2 g3 g4 g5 g6 g7 g8)
set_option maxRecDepth 40000 in
theorem u307_2 (X : (Int → Int) × Int) (S : fx_S) (x1 x2 x3 x4 x5 x6 x7 x8 : Int) (hS : fx_Sok S) (g1 : -2147483648 ≤ x1 ∧ x1 ≤ 2147483647) (g2 : -2147483648 ≤ x2 ∧ x2 ≤ 2147483647) (g3 : -2147483648 ≤ x3 ∧ x3 ≤ 2147483647) (g4 : -2147483648 ≤ x4 ∧ x4 ≤ 2147483647) (g5 : -2147483648 ≤ x5 ∧ x5 ≤ 2147483647) (g6 : -2147483648 ≤ x6 ∧ x6 ≤ 2147483647) (g7 : -2147483648 ≤ x7 ∧ x7 ≤ 2147483647) (g8 : -2147483648 ≤ x8 ∧ x8 ≤ 2147483647) : fx_VC (fx_Mx X) 307 [x1, x2, x3, x4, x5, x6, x7, x8] S (fx_p307.getD 2 ([], .inl (0, 0))) := fx_VCR_ok (show fx_VCR (fx_Mx X) 307 [x1, x2, x3, x4, x5, x6, x7, x8] S _ from q307_2 S x1 x2 x3 x4 x5 x6 x7 x8 hS g1 g2 g3 g4 g5 g6 g7 g8)
set_option maxRecDepth 40000 in
theorem u307_3 (X : (Int → Int) × Int) (S : fx_S) (x1 x2 x3 x4 x5 x6 x7 x8 : Int) (hS : fx_Sok S) (g1 : -2147483648 ≤ x1 ∧ x1 ≤ 2147483647) (g2 : -2147483648 ≤ x2 ∧ x2 ≤ 2147483647) (g3 : -2147483648 ≤ x3 ∧ x3 ≤ 2147483647) (g4 : -2147483648 ≤ x4 ∧ x4 ≤ 2147483647) (g5 : -2147483648 ≤ x5 ∧ x5 ≤ 2147483647) (g6 : -2147483648 ≤ x6 ∧ x6 ≤ 2147483647) (g7 : -2147483648 ≤ x7 ∧ x7 ≤ 2147483647) (g8 : -2147483648 ≤ x8 ∧ x8 ≤ 2147483647) : fx_VC (fx_Mx X) 307 [x1, x2, x3, x4, x5, x6, x7, x8] S (fx_p307.getD 3 ([], .inl (0, 0))) := fx_VCR_ok (show fx_VCR (fx_Mx X) 307 [x1, x2, x3, x4, x5, x6, x7, x8] S _ from q307_3 S x1 x2 x3 x4 x5 x6 x7 x8 hS g1 g2 g3 g4 g5 g6 g7 g8)
set_option maxRecDepth 40000 in
theorem u307_4 (X : (Int → Int) × Int) (S : fx_S) (x1 x2 x3 x4 x5 x6 x7 x8 : Int) (hS : fx_Sok S) (g1 : -2147483648 ≤ x1 ∧ x1 ≤ 2147483647) (g2 : -2147483648 ≤ x2 ∧ x2 ≤ 2147483647) (g3 : -2147483648 ≤ x3 ∧ x3 ≤ 2147483647) (g4 : -2147483648 ≤ x4 ∧ x4 ≤ 2147483647) (g5 : -2147483648 ≤ x5 ∧ x5 ≤ 2147483647) (g6 : -2147483648 ≤ x6 ∧ x6 ≤ 2147483647) (g7 : -2147483648 ≤ x7 ∧ x7 ≤ 2147483647) (g8 : -2147483648 ≤ x8 ∧ x8 ≤ 2147483647) : fx_VC (fx_Mx X) 307 [x1, x2, x3, x4, x5, x6, x7, x8] S (fx_p307.getD 4 ([], .inl (0, 0))) := fx_VCR_ok (show fx_VCR (fx_Mx X) 307 [x1, x2, x3, x4, x5, x6, x7, x8] S _ from q307_4 S x1 x2 x3 x4 x5 x6 x7 x8 hS g1 g2 g3 g4 g5 g6 g7 g8)
set_option maxRecDepth 40000 in
theorem u307_5 (X : (Int → Int) × Int) (S : fx_S) (x1 x2 x3 x4 x5 x6 x7 x8 : Int) (hS : fx_Sok S) (g1 : -2147483648 ≤ x1 ∧ x1 ≤ 2147483647) (g2 : -2147483648 ≤ x2 ∧ x2 ≤ 2147483647) (g3 : -2147483648 ≤ x3 ∧ x3 ≤ 2147483647) (g4 : -2147483648 ≤ x4 ∧ x4 ≤ 2147483647) (g5 : -2147483648 ≤ x5 ∧ x5 ≤ 2147483647) (g6 : -2147483648 ≤ x6 ∧ x6 ≤ 2147483647) (g7 : -2147483648 ≤ x7 ∧ x7 ≤ 2147483647) (g8 : -2147483648 ≤ x8 ∧ x8 ≤ 2147483647) : fx_VC (fx_Mx X) 307 [x1, x2, x3, x4, x5, x6, x7, x8] S (fx_p307.getD 5 ([], .inl (0, 0))) := fx_VCR_ok (show fx_VCR (fx_Mx X) 307 [x1, x2, x3, x4, x5, x6, x7, x8] S _ from q307_5 S x1 x2 x3 x4 x5 x6 x7 x8 hS g1 g2 g3 g4 g5 g6 g7 g8)
set_option maxRecDepth 40000 in
theorem u307_6 (X : (Int → Int) × Int) (S : fx_S) (x1 x2 x3 x4 x5 x6 x7 x8 : Int) (hS : fx_Sok S) (g1 : -2147483648 ≤ x1 ∧ x1 ≤ 2147483647) (g2 : -2147483648 ≤ x2 ∧ x2 ≤ 2147483647) (g3 : -2147483648 ≤ x3 ∧ x3 ≤ 2147483647) (g4 : -2147483648 ≤ x4 ∧ x4 ≤ 2147483647) (g5 : -2147483648 ≤ x5 ∧ x5 ≤ 2147483647) (g6 : -2147483648 ≤ x6 ∧ x6 ≤ 2147483647) (g7 : -2147483648 ≤ x7 ∧ x7 ≤ 2147483647) (g8 : -2147483648 ≤ x8 ∧ x8 ≤ 2147483647) : fx_VC (fx_Mx X) 307 [x1, x2, x3, x4, x5, x6, x7, x8] S (fx_p307.getD 6 ([], .inl (0, 0))) := fx_VCR_ok (show fx_VCR (fx_Mx X) 307 [x1, x2, x3, x4, x5, x6, x7, x8] S _ from q307_6 S x1 x2 x3 x4 x5 x6 x7 x8 hS g1 g2 g3 g4 g5 g6 g7 g8)
set_option maxRecDepth 40000 in
theorem w307 (X : (Int → Int) × Int) (zs : List Int) (S : fx_S) (hS : fx_Sok S) (hz : zs.length = (fx_lv0 fx_t307.2.2.1 0).2) (rz : fx_rz fx_t307 zs S) : ∀ p ∈ fx_p307, fx_VC (fx_Mx X) 307 zs S p := by
  obtain ⟨x1, x2, x3, x4, x5, x6, x7, x8, rfl⟩ := fx_len8 hz
  have g1 : -2147483648 ≤ x1 ∧ x1 ≤ 2147483647 := rz 1 _ rfl
  have g2 : -2147483648 ≤ x2 ∧ x2 ≤ 2147483647 := rz 2 _ rfl
  have g3 : -2147483648 ≤ x3 ∧ x3 ≤ 2147483647 := rz 3 _ rfl
  have g4 : -2147483648 ≤ x4 ∧ x4 ≤ 2147483647 := rz 4 _ rfl
  have g5 : -2147483648 ≤ x5 ∧ x5 ≤ 2147483647 := rz 5 _ rfl
  have g6 : -2147483648 ≤ x6 ∧ x6 ≤ 2147483647 := rz 6 _ rfl
  have g7 : -2147483648 ≤ x7 ∧ x7 ≤ 2147483647 := rz 7 _ rfl
  have g8 : -2147483648 ≤ x8 ∧ x8 ≤ 2147483647 := rz 8 _ rfl
  exact List.forall_mem_cons.mpr ⟨(u307_0 X S x1 x2 x3 x4 x5 x6 x7 x8 hS g1 g2 g3 g4 g5 g6 g7 g8), List.forall_mem_cons.mpr ⟨(u307_1 X S x1 x2 x3 x4 x5 x6 x7 x8 hS g1 g2 g3 g4 g5 g6 g7 g8), List.forall_mem_cons.mpr ⟨(u307_2 X S x1 x2 x3 x4 x5 x6 x7 x8 hS g1 g2 g3 g4 g5 g6 g7 g8), List.forall_mem_cons.mpr ⟨(u307_3 X S x1 x2 x3 x4 x5 x6 x7 x8 hS g1 g2 g3 g4 g5 g6 g7 g8), List.forall_mem_cons.mpr ⟨(u307_4 X S x1 x2 x3 x4 x5 x6 x7 x8 hS g1 g2 g3 g4 g5 g6 g7 g8), List.forall_mem_cons.mpr ⟨(u307_5 X S x1 x2 x3 x4 x5 x6 x7 x8 hS g1 g2 g3 g4 g5 g6 g7 g8), List.forall_mem_cons.mpr ⟨(u307_6 X S x1 x2 x3 x4 x5 x6 x7 x8 hS g1 g2 g3 g4 g5 g6 g7 g8), fun _ h => absurd h List.not_mem_nil⟩⟩⟩⟩⟩⟩⟩
set_option maxRecDepth 40000 in
theorem u308_0 (X : (Int → Int) × Int) (S : fx_S) (x0 x1 x2 x3 x4 : Int) (hS : fx_Sok S) (g0 : -1 ≤ x0 ∧ x0 < S.2.2) (g1 : -2147483648 ≤ x1 ∧ x1 ≤ 2147483647) (g2 : -2147483648 ≤ x2 ∧ x2 ≤ 2147483647) (g3 : -2147483648 ≤ x3 ∧ x3 ≤ 2147483647) (g4 : -2147483648 ≤ x4 ∧ x4 ≤ 2147483647) : fx_VC (fx_Mx X) 308 [x0, x1, x2, x3, x4] S (fx_p308.getD 0 ([], .inl (0, 0))) := fx_VCR_ok (show fx_VCR (fx_Mx X) 308 [x0, x1, x2, x3, x4] S _ from q308_0 S x0 x1 x2 x3 x4 hS g0 g1 g2 g3 g4)
set_option maxRecDepth 40000 in
theorem u308_1 (X : (Int → Int) × Int) (S : fx_S) (x0 x1 x2 x3 x4 : Int) (hS : fx_Sok S) (g0 : -1 ≤ x0 ∧ x0 < S.2.2) (g1 : -2147483648 ≤ x1 ∧ x1 ≤ 2147483647) (g2 : -2147483648 ≤ x2 ∧ x2 ≤ 2147483647) (g3 : -2147483648 ≤ x3 ∧ x3 ≤ 2147483647) (g4 : -2147483648 ≤ x4 ∧ x4 ≤ 2147483647) : fx_VC (fx_Mx X) 308 [x0, x1, x2, x3, x4] S (fx_p308.getD 1 ([], .inl (0, 0))) := fx_VCR_ok (show fx_VCR (fx_Mx X) 308 [x0, x1, x2, x3, x4] S _ from q308_1 S x0 x1 x2 x3 x4 hS g0 g1 g2 g3 g4)
set_option maxRecDepth 40000 in
theorem u308_2 (X : (Int → Int) × Int) (S : fx_S) (x0 x1 x2 x3 x4 : Int) (hS : fx_Sok S) (g0 : -1 ≤ x0 ∧ x0 < S.2.2) (g1 : -2147483648 ≤ x1 ∧ x1 ≤ 2147483647) (g2 : -2147483648 ≤ x2 ∧ x2 ≤ 2147483647) (g3 : -2147483648 ≤ x3 ∧ x3 ≤ 2147483647) (g4 : -2147483648 ≤ x4 ∧ x4 ≤ 2147483647) : fx_VC (fx_Mx X) 308 [x0, x1, x2, x3, x4] S (fx_p308.getD 2 ([], .inl (0, 0))) := fx_VCR_ok (show fx_VCR (fx_Mx X) 308 [x0, x1, x2, x3, x4] S _ from q308_2 S x0 x1 x2 x3 x4 hS g0 g1 g2 g3 g4)
set_option maxRecDepth 40000 in
theorem w308 (X : (Int → Int) × Int) (zs : List Int) (S : fx_S) (hS : fx_Sok S) (hz : zs.length = (fx_lv0 fx_t308.2.2.1 0).2) (rz : fx_rz fx_t308 zs S) : ∀ p ∈ fx_p308, fx_VC (fx_Mx X) 308 zs S p := by
  obtain ⟨x0, x1, x2, x3, x4, rfl⟩ := fx_len5 hz
  have g0 : -1 ≤ x0 ∧ x0 < S.2.2 := rz 0 _ rfl
  have g1 : -2147483648 ≤ x1 ∧ x1 ≤ 2147483647 := rz 1 _ rfl
  have g2 : -2147483648 ≤ x2 ∧ x2 ≤ 2147483647 := rz 2 _ rfl
  have g3 : -2147483648 ≤ x3 ∧ x3 ≤ 2147483647 := rz 3 _ rfl
  have g4 : -2147483648 ≤ x4 ∧ x4 ≤ 2147483647 := rz 4 _ rfl
  exact List.forall_mem_cons.mpr ⟨(u308_0 X S x0 x1 x2 x3 x4 hS g0 g1 g2 g3 g4), List.forall_mem_cons.mpr ⟨(u308_1 X S x0 x1 x2 x3 x4 hS g0 g1 g2 g3 g4), List.forall_mem_cons.mpr ⟨(u308_2 X S x0 x1 x2 x3 x4 hS g0 g1 g2 g3 g4), fun _ h => absurd h List.not_mem_nil⟩⟩⟩
set_option maxRecDepth 40000 in
theorem u309_0 (X : (Int → Int) × Int) (S : fx_S) (x1 x2 x3 : Int) (hS : fx_Sok S) (g1 : -2147483648 ≤ x1 ∧ x1 ≤ 2147483647) (g2 : -2147483648 ≤ x2 ∧ x2 ≤ 2147483647) (g3 : -2147483648 ≤ x3 ∧ x3 ≤ 2147483647) : fx_VC (fx_Mx X) 309 [x1, x2, x3] S (fx_p309.getD 0 ([], .inl (0, 0))) := fx_VCR_ok (show fx_VCR (fx_Mx X) 309 [x1, x2, x3] S _ from q309_0 S x1 x2 x3 hS g1 g2 g3)
set_option maxRecDepth 40000 in
theorem u309_1 (X : (Int → Int) × Int) (S : fx_S) (x1 x2 x3 : Int) (hS : fx_Sok S) (g1 : -2147483648 ≤ x1 ∧ x1 ≤ 2147483647) (g2 : -2147483648 ≤ x2 ∧ x2 ≤ 2147483647) (g3 : -2147483648 ≤ x3 ∧ x3 ≤ 2147483647) : fx_VC (fx_Mx X) 309 [x1, x2, x3] S (fx_p309.getD 1 ([], .inl (0, 0))) := fx_VCR_ok (show fx_VCR (fx_Mx X) 309 [x1, x2, x3] S _ from q309_1 S x1 x2 x3 hS g1 g2 g3)
set_option maxRecDepth 40000 in
theorem w309 (X : (Int → Int) × Int) (zs : List Int) (S : fx_S) (hS : fx_Sok S) (hz : zs.length = (fx_lv0 fx_t309.2.2.1 0).2) (rz : fx_rz fx_t309 zs S) : ∀ p ∈ fx_p309, fx_VC (fx_Mx X) 309 zs S p := by
  obtain ⟨x1, x2, x3, rfl⟩ := fx_len3 hz
  have g1 : -2147483648 ≤ x1 ∧ x1 ≤ 2147483647 := rz 1 _ rfl
  have g2 : -2147483648 ≤ x2 ∧ x2 ≤ 2147483647 := rz 2 _ rfl
  have g3 : -2147483648 ≤ x3 ∧ x3 ≤ 2147483647 := rz 3 _ rfl
  exact List.forall_mem_cons.mpr ⟨(u309_0 X S x1 x2 x3 hS g1 g2 g3), List.forall_mem_cons.mpr ⟨(u309_1 X S x1 x2 x3 hS g1 g2 g3), fun _ h => absurd h List.not_mem_nil⟩⟩
set_option maxRecDepth 40000 in
theorem u310_0 (X : (Int → Int) × Int) (S : fx_S) (x4 x5 : Int) (hS : fx_Sok S) (g4 : -2147483648 ≤ x4 ∧ x4 ≤ 2147483647) (g5 : -2147483648 ≤ x5 ∧ x5 ≤ 2147483647) : fx_VC (fx_Mx X) 310 [x4, x5] S (fx_p310.getD 0 ([], .inl (0, 0))) := fx_VCR_ok (show fx_VCR (fx_Mx X) 310 [x4, x5] S _ from q310_0 S x4 x5 hS g4 g5)
set_option maxRecDepth 40000 in
theorem u310_1 (X : (Int → Int) × Int) (S : fx_S) (x4 x5 : Int) (hS : fx_Sok S) (g4 : -2147483648 ≤ x4 ∧ x4 ≤ 2147483647) (g5 : -2147483648 ≤ x5 ∧ x5 ≤ 2147483647) : fx_VC (fx_Mx X) 310 [x4, x5] S (fx_p310.getD 1 ([], .inl (0, 0))) := fx_VCR_ok (show fx_VCR (fx_Mx X) 310 [x4, x5] S _ from q310_1 S x4 x5 hS g4 g5)
set_option maxRecDepth 40000 in
theorem u310_2 (X : (Int → Int) × Int) (S : fx_S) (x4 x5 : Int) (hS : fx_Sok S) (g4 : -2147483648 ≤ x4 ∧ x4 ≤ 2147483647) (g5 : -2147483648 ≤ x5 ∧ x5 ≤ 2147483647) : fx_VC (fx_Mx X) 310 [x4, x5] S (fx_p310.getD 2 ([], .inl (0, 0))) := fx_VCR_ok (show fx_VCR (fx_Mx X) 310 [x4, x5] S _ from fun c1 c2 v2 S1 k1 b2 p1 c3 c4 v3 e3 b3 v4 e4 c5 c6 S2 d2 c7 c8 S3 d3 v5 e5 v6 e6 z Z kz bz pz => q310_2 S x4 x5 hS g4 g5 c1 c2 v2 S1 k1 b2 p1 c3 c4 v3 e3 b3 v4 e4 c5 c6 S2 d2 c7 c8 S3 d3 v5 (e5.trans (fx_bq0 _ _)) v6 e6 z Z kz bz pz)
set_option maxRecDepth 40000 in
theorem w310 (X : (Int → Int) × Int) (zs : List Int) (S : fx_S) (hS : fx_Sok S) (hz : zs.length = (fx_lv0 fx_t310.2.2.1 0).2) (rz : fx_rz fx_t310 zs S) : ∀ p ∈ fx_p310, fx_VC (fx_Mx X) 310 zs S p := by
  obtain ⟨x4, x5, rfl⟩ := fx_len2 hz
  have g4 : -2147483648 ≤ x4 ∧ x4 ≤ 2147483647 := rz 4 _ rfl
  have g5 : -2147483648 ≤ x5 ∧ x5 ≤ 2147483647 := rz 5 _ rfl
  exact List.forall_mem_cons.mpr ⟨(u310_0 X S x4 x5 hS g4 g5), List.forall_mem_cons.mpr ⟨(u310_1 X S x4 x5 hS g4 g5), List.forall_mem_cons.mpr ⟨(u310_2 X S x4 x5 hS g4 g5), fun _ h => absurd h List.not_mem_nil⟩⟩⟩
set_option maxRecDepth 40000 in
theorem u311_0 (X : (Int → Int) × Int) (S : fx_S) (x1 x2 x3 : Int) (hS : fx_Sok S) (g1 : -2147483648 ≤ x1 ∧ x1 ≤ 2147483647) (g2 : -2147483648 ≤ x2 ∧ x2 ≤ 2147483647) (g3 : -2147483648 ≤ x3 ∧ x3 ≤ 2147483647) : fx_VC (fx_Mx X) 311 [x1, x2, x3] S (fx_p311.getD 0 ([], .inl (0, 0))) := fx_VCR_ok (show fx_VCR (fx_Mx X) 311 [x1, x2, x3] S _ from q311_0 S x1 x2 x3 hS g1 g2 g3)
set_option maxRecDepth 40000 in
theorem u311_1 (X : (Int → Int) × Int) (S : fx_S) (x1 x2 x3 : Int) (hS : fx_Sok S) (g1 : -2147483648 ≤ x1 ∧ x1 ≤ 2147483647) (g2 : -2147483648 ≤ x2 ∧ x2 ≤ 2147483647) (g3 : -2147483648 ≤ x3 ∧ x3 ≤ 2147483647) : fx_VC (fx_Mx X) 311 [x1, x2, x3] S (fx_p311.getD 1 ([], .inl (0, 0))) := fx_VCR_ok (show fx_VCR (fx_Mx X) 311 [x1, x2, x3] S _ from q311_1 S x1 x2 x3 hS g1 g2 g3)
set_option maxRecDepth 40000 in
theorem w311 (X : (Int → Int) × Int) (zs : List Int) (S : fx_S) (hS : fx_Sok S) (hz : zs.length = (fx_lv0 fx_t311.2.2.1 0).2) (rz : fx_rz fx_t311 zs S) : ∀ p ∈ fx_p311, fx_VC (fx_Mx X) 311 zs S p := by
  obtain ⟨x1, x2, x3, rfl⟩ := fx_len3 hz
  have g1 : -2147483648 ≤ x1 ∧ x1 ≤ 2147483647 := rz 1 _ rfl
  have g2 : -2147483648 ≤ x2 ∧ x2 ≤ 2147483647 := rz 2 _ rfl
  have g3 : -2147483648 ≤ x3 ∧ x3 ≤ 2147483647 := rz 3 _ rfl
  exact List.forall_mem_cons.mpr ⟨(u311_0 X S x1 x2 x3 hS g1 g2 g3), List.forall_mem_cons.mpr ⟨(u311_1 X S x1 x2 x3 hS g1 g2 g3), fun _ h => absurd h List.not_mem_nil⟩⟩
set_option maxRecDepth 40000 in
theorem u312_0 (X : (Int → Int) × Int) (S : fx_S) (x2 : Int) (hS : fx_Sok S) (g2 : -2147483648 ≤ x2 ∧ x2 ≤ 2147483647) : fx_VC (fx_Mx X) 312 [x2] S (fx_p312.getD 0 ([], .inl (0, 0))) := fx_VCR_ok (show fx_VCR (fx_Mx X) 312 [x2] S _ from q312_0 S x2 hS g2)
set_option maxRecDepth 40000 in
theorem u312_1 (X : (Int → Int) × Int) (S : fx_S) (x2 : Int) (hS : fx_Sok S) (g2 : -2147483648 ≤ x2 ∧ x2 ≤ 2147483647) : fx_VC (fx_Mx X) 312 [x2] S (fx_p312.getD 1 ([], .inl (0, 0))) := fx_VCR_ok (show fx_VCR (fx_Mx X) 312 [x2] S _ from q312_1 S x2 hS g2)
set_option maxRecDepth 40000 in
theorem w312 (X : (Int → Int) × Int) (zs : List Int) (S : fx_S) (hS : fx_Sok S) (hz : zs.length = (fx_lv0 fx_t312.2.2.1 0).2) (rz : fx_rz fx_t312 zs S) : ∀ p ∈ fx_p312, fx_VC (fx_Mx X) 312 zs S p := by
  obtain ⟨x2, rfl⟩ := fx_len1 hz
  have g2 : -2147483648 ≤ x2 ∧ x2 ≤ 2147483647 := rz 2 _ rfl
  exact List.forall_mem_cons.mpr ⟨(u312_0 X S x2 hS g2), List.forall_mem_cons.mpr ⟨(u312_1 X S x2 hS g2), fun _ h => absurd h List.not_mem_nil⟩⟩
set_option maxRecDepth 40000 in
theorem u313_0 (X : (Int → Int) × Int) (S : fx_S) (x1 x2 : Int) (hS : fx_Sok S) (g1 : -2147483648 ≤ x1 ∧ x1 ≤ 2147483647) (g2 : -2147483648 ≤ x2 ∧ x2 ≤ 2147483647) : fx_VC (fx_Mx X) 313 [x1, x2] S (fx_p313.getD 0 ([], .inl (0, 0))) := fx_VCR_ok (show fx_VCR (fx_Mx X) 313 [x1, x2] S _ from q313_0 S x1 x2 hS g1 g2)
set_option maxRecDepth 40000 in
theorem u313_1 (X : (Int → Int) × Int) (S : fx_S) (x1 x2 : Int) (hS : fx_Sok S) (g1 : -2147483648 ≤ x1 ∧ x1 ≤ 2147483647) (g2 : -2147483648 ≤ x2 ∧ x2 ≤ 2147483647) : fx_VC (fx_Mx X) 313 [x1, x2] S (fx_p313.getD 1 ([], .inl (0, 0))) := fx_VCR_ok (show fx_VCR (fx_Mx X) 313 [x1, x2] S _ from q313_1 S x1 x2 hS g1 g2)
set_option maxRecDepth 40000 in
theorem w313 (X : (Int → Int) × Int) (zs : List Int) (S : fx_S) (hS : fx_Sok S) (hz : zs.length = (fx_lv0 fx_t313.2.2.1 0).2) (rz : fx_rz fx_t313 zs S) : ∀ p ∈ fx_p313, fx_VC (fx_Mx X) 313 zs S p := by
  obtain ⟨x1, x2, rfl⟩ := fx_len2 hz
  have g1 : -2147483648 ≤ x1 ∧ x1 ≤ 2147483647 := rz 1 _ rfl
  have g2 : -2147483648 ≤ x2 ∧ x2 ≤ 2147483647 := rz 2 _ rfl
  exact List.forall_mem_cons.mpr ⟨(u313_0 X S x1 x2 hS g1 g2), List.forall_mem_cons.mpr ⟨(u313_1 X S x1 x2 hS g1 g2), fun _ h => absurd h List.not_mem_nil⟩⟩
set_option maxRecDepth 40000 in
theorem u314_0 (X : (Int → Int) × Int) (S : fx_S) (x1 x2 x3 : Int) (hS : fx_Sok S) (g1 : -2147483648 ≤ x1 ∧ x1 ≤ 2147483647) (g2 : -2147483648 ≤ x2 ∧ x2 ≤ 2147483647) (g3 : -2147483648 ≤ x3 ∧ x3 ≤ 2147483647) : fx_VC (fx_Mx X) 314 [x1, x2, x3] S (fx_p314.getD 0 ([], .inl (0, 0))) := fx_VCR_ok (show fx_VCR (fx_Mx X) 314 [x1, x2, x3] S _ from q314_0 S x1 x2 x3 hS g1 g2 g3)
set_option maxRecDepth 40000 in
theorem u314_1 (X : (Int → Int) × Int) (S : fx_S) (x1 x2 x3 : Int) (hS : fx_Sok S) (g1 : -2147483648 ≤ x1 ∧ x1 ≤ 2147483647) (g2 : -2147483648 ≤ x2 ∧ x2 ≤ 2147483647) (g3 : -2147483648 ≤ x3 ∧ x3 ≤ 2147483647) : fx_VC (fx_Mx X) 314 [x1, x2, x3] S (fx_p314.getD 1 ([], .inl (0, 0))) := fx_VCR_ok (show fx_VCR (fx_Mx X) 314 [x1, x2, x3] S _ from q314_1 S x1 x2 x3 hS g1 g2 g3)
set_option maxRecDepth 40000 in
theorem u314_2 (X : (Int → Int) × Int) (S : fx_S) (x1 x2 x3 : Int) (hS : fx_Sok S) (g1 : -2147483648 ≤ x1 ∧ x1 ≤ 2147483647) (g2 : -2147483648 ≤ x2 ∧ x2 ≤ 2147483647) (g3 : -2147483648 ≤ x3 ∧ x3 ≤ 2147483647) : fx_VC (fx_Mx X) 314 [x1, x2, x3] S (fx_p314.getD 2 ([], .inl (0, 0))) := fx_VCR_ok (show fx_VCR (fx_Mx X) 314 [x1, x2, x3] S _ from q314_2 S x1 x2 x3 hS g1 g2 g3)
set_option maxRecDepth 40000 in
theorem u314_3 (X : (Int → Int) × Int) (S : fx_S) (x1 x2 x3 : Int) (hS : fx_Sok S) (g1 : -2147483648 ≤ x1 ∧ x1 ≤ 2147483647) (g2 : -2147483648 ≤ x2 ∧ x2 ≤ 2147483647) (g3 : -2147483648 ≤ x3 ∧ x3 ≤ 2147483647) : fx_VC (fx_Mx X) 314 [x1, x2, x3] S (fx_p314.getD 3 ([], .inl (0, 0))) := fx_VCR_ok (show fx_VCR (fx_Mx X) 314 [x1, x2, x3] S _ from q314_3 S x1 x2 x3 hS g1 g2 g3)
set_option maxRecDepth 40000 in
theorem u314_4 (X : (Int → Int) × Int) (S : fx_S) (x1 x2 x3 : Int) (hS : fx_Sok S) (g1 : -2147483648 ≤ x1 ∧ x1 ≤ 2147483647) (g2 : -2147483648 ≤ x2 ∧ x2 ≤ 2147483647) (g3 : -2147483648 ≤ x3 ∧ x3 ≤ 2147483647) : fx_VC (fx_Mx X) 314 [x1, x2, x3] S (fx_p314.getD 4 ([], .inl (0, 0))) := fx_VCR_ok (show fx_VCR (fx_Mx X) 314 [x1, x2, x3] S _ from q314_4 S x1 x2 x3 hS g1 g2 g3)
set_option maxRecDepth 40000 in
theorem u314_5 (X : (Int → Int) × Int) (S : fx_S) (x1 x2 x3 : Int) (hS : fx_Sok S) (g1 : -2147483648 ≤ x1 ∧ x1 ≤ 2147483647) (g2 : -2147483648 ≤ x2 ∧ x2 ≤ 2147483647) (g3 : -2147483648 ≤ x3 ∧ x3 ≤ 2147483647) : fx_VC (fx_Mx X) 314 [x1, x2, x3] S (fx_p314.getD 5 ([], .inl (0, 0))) := fx_VCR_ok (show fx_VCR (fx_Mx X) 314 [x1, x2, x3] S _ from q314_5 S x1 x2 x3 hS g1 g2 g3)
set_option maxRecDepth 40000 in
theorem u314_6 (X : (Int → Int) × Int) (S : fx_S) (x1 x2 x3 : Int) (hS : fx_Sok S) (g1 : -2147483648 ≤ x1 ∧ x1 ≤ 2147483647) (g2 : -2147483648 ≤ x2 ∧ x2 ≤ 2147483647) (g3 : -2147483648 ≤ x3 ∧ x3 ≤ 2147483647) : fx_VC (fx_Mx X) 314 [x1, x2, x3] S (fx_p314.getD 6 ([], .inl (0, 0))) := fx_VCR_ok (show fx_VCR (fx_Mx X) 314 [x1, x2, x3] S _ from q314_6 S x1 x2 x3 hS g1 g2 g3)
set_option maxRecDepth 40000 in
theorem u314_7 (X : (Int → Int) × Int) (S : fx_S) (x1 x2 x3 : Int) (hS : fx_Sok S) (g1 : -2147483648 ≤ x1 ∧ x1 ≤ 2147483647) (g2 : -2147483648 ≤ x2 ∧ x2 ≤ 2147483647) (g3 : -2147483648 ≤ x3 ∧ x3 ≤ 2147483647) : fx_VC (fx_Mx X) 314 [x1, x2, x3] S (fx_p314.getD 7 ([], .inl (0, 0))) := fx_VCR_ok (show fx_VCR (fx_Mx X) 314 [x1, x2, x3] S _ from q314_7 S x1 x2 x3 hS g1 g2 g3)
set_option maxRecDepth 40000 in
theorem u314_8 (X : (Int → Int) × Int) (S : fx_S) (x1 x2 x3 : Int) (hS : fx_Sok S) (g1 : -2147483648 ≤ x1 ∧ x1 ≤ 2147483647) (g2 : -2147483648 ≤ x2 ∧ x2 ≤ 2147483647) (g3 : -2147483648 ≤ x3 ∧ x3 ≤ 2147483647) : fx_VC (fx_Mx X) 314 [x1, x2, x3] S (fx_p314.getD 8 ([], .inl (0, 0))) := fx_VCR_ok (show fx_VCR (fx_Mx X) 314 [x1, x2, x3] S _ from q314_8 S x1 x2 x3 hS g1 g2 g3)
set_option maxRecDepth 40000 in
theorem w314 (X : (Int → Int) × Int) (zs : List Int) (S : fx_S) (hS : fx_Sok S) (hz : zs.length = (fx_lv0 fx_t314.2.2.1 0).2) (rz : fx_rz fx_t314 zs S) : ∀ p ∈ fx_p314, fx_VC (fx_Mx X) 314 zs S p := by
  obtain ⟨x1, x2, x3, rfl⟩ := fx_len3 hz
  have g1 : -2147483648 ≤ x1 ∧ x1 ≤ 2147483647 := rz 1 _ rfl
  have g2 : -2147483648 ≤ x2 ∧ x2 ≤ 2147483647 := rz 2 _ rfl
  have g3 : -2147483648 ≤ x3 ∧ x3 ≤ 2147483647 := rz 3 _ rfl
  exact List.forall_mem_cons.mpr ⟨(u314_0 X S x1 x2 x3 hS g1 g2 g3), List.forall_mem_cons.mpr ⟨(u314_1 X S x1 x2 x3 hS g1 g2 g3), List.forall_mem_cons.mpr ⟨(u314_2 X S x1 x2 x3 hS g1 g2 g3), List.forall_mem_cons.mpr ⟨(u314_3 X S x1 x2 x3 hS g1 g2 g3), List.forall_mem_cons.mpr ⟨(u314_4 X S x1 x2 x3 hS g1 g2 g3), List.forall_mem_cons.mpr ⟨(u314_5 X S x1 x2 x3 hS g1 g2 g3), List.forall_mem_cons.mpr ⟨(u314_6 X S x1 x2 x3 hS g1 g2 g3), List.forall_mem_cons.mpr ⟨(u314_7 X S x1 x2 x3 hS g1 g2 g3), List.forall_mem_cons.mpr ⟨(u314_8 X S x1 x2 x3 hS g1 g2 g3), fun _ h => absurd h List.not_mem_nil⟩⟩⟩⟩⟩⟩⟩⟩⟩
set_option maxRecDepth 40000 in
theorem u315_0 (X : (Int → Int) × Int) (S : fx_S) (x0 : Int) (hS : fx_Sok S) (g0 : -2147483648 ≤ x0 ∧ x0 ≤ 2147483647) : fx_VC (fx_Mx X) 315 [x0] S (fx_p315.getD 0 ([], .inl (0, 0))) := fx_VCR_ok (show fx_VCR (fx_Mx X) 315 [x0] S _ from q315_0 S x0 hS g0)
set_option maxRecDepth 40000 in
theorem w315 (X : (Int → Int) × Int) (zs : List Int) (S : fx_S) (hS : fx_Sok S) (hz : zs.length = (fx_lv0 fx_t315.2.2.1 0).2) (rz : fx_rz fx_t315 zs S) : ∀ p ∈ fx_p315, fx_VC (fx_Mx X) 315 zs S p := by
  obtain ⟨x0, rfl⟩ := fx_len1 hz
  have g0 : -2147483648 ≤ x0 ∧ x0 ≤ 2147483647 := rz 0 _ rfl
  exact List.forall_mem_cons.mpr ⟨(u315_0 X S x0 hS g0), fun _ h => absurd h List.not_mem_nil⟩
set_option maxRecDepth 40000 in
theorem u316_0 (X : (Int → Int) × Int) (S : fx_S) (x1 x2 x3 : Int) (hS : fx_Sok S) (g1 : -2147483648 ≤ x1 ∧ x1 ≤ 2147483647) (g2 : -2147483648 ≤ x2 ∧ x2 ≤ 2147483647) (g3 : -2147483648 ≤ x3 ∧ x3 ≤ 2147483647) : fx_VC (fx_Mx X) 316 [x1, x2, x3] S (fx_p316.getD 0 ([], .inl (0, 0))) := fx_VCR_ok (show fx_VCR (fx_Mx X) 316 [x1, x2, x3] S _ from q316_0 S x1 x2 x3 hS g1 g2 g3)
set_option maxRecDepth 40000 in
theorem u316_1 (X : (Int → Int) × Int) (S : fx_S) (x1 x2 x3 : Int) (hS : fx_Sok S) (g1 : -2147483648 ≤ x1 ∧ x1 ≤ 2147483647) (g2 : -2147483648 ≤ x2 ∧ x2 ≤ 2147483647) (g3 : -2147483648 ≤ x3 ∧ x3 ≤ 2147483647) : fx_VC (fx_Mx X) 316 [x1, x2, x3] S (fx_p316.getD 1 ([], .inl (0, 0))) := fx_VCR_ok (show fx_VCR (fx_Mx X) 316 [x1, x2, x3] S _ from q316_1 S x1 x2 x3 hS g1 g2 g3)
set_option maxRecDepth 40000 in
theorem u316_2 (X : (Int → Int) × Int) (S : fx_S) (x1 x2 x3 : Int) (hS : fx_Sok S) (g1 : -2147483648 ≤ x1 ∧ x1 ≤ 2147483647) (g2 : -2147483648 ≤ x2 ∧ x2 ≤ 2147483647) (g3 : -2147483648 ≤ x3 ∧ x3 ≤ 2147483647) : fx_VC (fx_Mx X) 316 [x1, x2, x3] S (fx_p316.getD 2 ([], .inl (0, 0))) := fx_VCR_ok (show fx_VCR (fx_Mx X) 316 [x1, x2, x3] S _ from q316_2 S x1 x2 x3 hS g1 g2 g3)
set_option maxRecDepth 40000 in
theorem u316_3 (X : (Int → Int) × Int) (S : fx_S) (x1 x2 x3 : Int) (hS : fx_Sok S) (g1 : -2147483648 ≤ x1 ∧ x1 ≤ 2147483647) (g2 : -2147483648 ≤ x2 ∧ x2 ≤ 2147483647) (g3 : -2147483648 ≤ x3 ∧ x3 ≤ 2147483647) : fx_VC (fx_Mx X) 316 [x1, x2, x3] S (fx_p316.getD 3 ([], .inl (0, 0))) := fx_VCR_ok (show fx_VCR (fx_Mx X) 316 [x1, x2, x3] S _ from q316_3 S x1 x2 x3 hS g1 g2 g3)
set_option maxRecDepth 40000 in
theorem u316_4 (X : (Int → Int) × Int) (S : fx_S) (x1 x2 x3 : Int) (hS : fx_Sok S) (g1 : -2147483648 ≤ x1 ∧ x1 ≤ 2147483647) (g2 : -2147483648 ≤ x2 ∧ x2 ≤ 2147483647) (g3 : -2147483648 ≤ x3 ∧ x3 ≤ 2147483647) : fx_VC (fx_Mx X) 316 [x1, x2, x3] S (fx_p316.getD 4 ([], .inl (0, 0))) := fx_VCR_ok (show fx_VCR (fx_Mx X) 316 [x1, x2, x3] S _ from q316_4 S x1 x2 x3 hS g1 g2 g3)
set_option maxRecDepth 40000 in
theorem u316_5 (X : (Int → Int) × Int) (S : fx_S) (x1 x2 x3 : Int) (hS : fx_Sok S) (g1 : -2147483648 ≤ x1 ∧ x1 ≤ 2147483647) (g2 : -2147483648 ≤ x2 ∧ x2 ≤ 2147483647) (g3 : -2147483648 ≤ x3 ∧ x3 ≤ 2147483647) : fx_VC (fx_Mx X) 316 [x1, x2, x3] S (fx_p316.getD 5 ([], .inl (0, 0))) := fx_VCR_ok (show fx_VCR (fx_Mx X) 316 [x1, x2, x3] S _ from q316_5 S x1 x2 x3 hS g1 g2 g3)
set_option maxRecDepth 40000 in
theorem u316_6 (X : (Int → Int) × Int) (S : fx_S) (x1 x2 x3 : Int) (hS : fx_Sok S) (g1 : -2147483648 ≤ x1 ∧ x1 ≤ 2147483647) (g2 : -2147483648 ≤ x2 ∧ x2 ≤ 2147483647) (g3 : -2147483648 ≤ x3 ∧ x3 ≤ 2147483647) : fx_VC (fx_Mx X) 316 [x1, x2, x3] S (fx_p316.getD 6 ([], .inl (0, 0))) := fx_VCR_ok (show fx_VCR (fx_Mx X) 316 [x1, x2, x3] S _ from q316_6 S x1 x2 x3 hS g1 g2 g3)
set_option maxRecDepth 40000 in
theorem u316_7 (X : (Int → Int) × Int) (S : fx_S) (x1 x2 x3 : Int) (hS : fx_Sok S) (g1 : -2147483648 ≤ x1 ∧ x1 ≤ 2147483647) (g2 : -2147483648 ≤ x2 ∧ x2 ≤ 2147483647) (g3 : -2147483648 ≤ x3 ∧ x3 ≤ 2147483647) : fx_VC (fx_Mx X) 316 [x1, x2, x3] S (fx_p316.getD 7 ([], .inl (0, 0))) := fx_VCR_ok (show fx_VCR (fx_Mx X) 316 [x1, x2, x3] S _ from q316_7 S x1 x2 x3 hS g1 g2 g3)
set_option maxRecDepth 40000 in
theorem w316 (X : (Int → Int) × Int) (zs : List Int) (S : fx_S) (hS : fx_Sok S) (hz : zs.length = (fx_lv0 fx_t316.2.2.1 0).2) (rz : fx_rz fx_t316 zs S) : ∀ p ∈ fx_p316, fx_VC (fx_Mx X) 316 zs S p := by
  obtain ⟨x1, x2, x3, rfl⟩ := fx_len3 hz
  have g1 : -2147483648 ≤ x1 ∧ x1 ≤ 2147483647 := rz 1 _ rfl
  have g2 : -2147483648 ≤ x2 ∧ x2 ≤ 2147483647 := rz 2 _ rfl
  have g3 : -2147483648 ≤ x3 ∧ x3 ≤ 2147483647 := rz 3 _ rfl
  exact List.forall_mem_cons.mpr ⟨(u316_0 X S x1 x2 x3 hS g1 g2 g3), List.forall_mem_cons.mpr ⟨(u316_1 X S x1 x2 x3 hS g1 g2 g3), List.forall_mem_cons.mpr ⟨(u316_2 X S x1 x2 x3 hS g1 g2 g3), List.forall_mem_cons.mpr ⟨(u316_3 X S x1 x2 x3 hS g1 g2 g3), List.forall_mem_cons.mpr ⟨(u316_4 X S x1 x2 x3 hS g1 g2 g3), List.forall_mem_cons.mpr ⟨(u316_5 X S x1 x2 x3 hS g1 g2 g3), List.forall_mem_cons.mpr ⟨(u316_6 X S x1 x2 x3 hS g1 g2 g3), List.forall_mem_cons.mpr ⟨(u316_7 X S x1 x2 x3 hS g1 g2 g3), fun _ h => absurd h List.not_mem_nil⟩⟩⟩⟩⟩⟩⟩⟩
set_option maxRecDepth 40000 in
theorem u317_0 (X : (Int → Int) × Int) (S : fx_S) (x2 x3 x4 : Int) (hS : fx_Sok S) (g2 : -2147483648 ≤ x2 ∧ x2 ≤ 2147483647) (g3 : -2147483648 ≤ x3 ∧ x3 ≤ 2147483647) (g4 : -2147483648 ≤ x4 ∧ x4 ≤ 2147483647) : fx_VC (fx_Mx X) 317 [x2, x3, x4] S (fx_p317.getD 0 ([], .inl (0, 0))) := fx_VCR_ok (show fx_VCR (fx_Mx X) 317 [x2, x3, x4] S _ from q317_0 S x2 x3 x4 hS g2 g3 g4)
set_option maxRecDepth 40000 in
theorem u317_1 (X : (Int → Int) × Int) (S : fx_S) (x2 x3 x4 : Int) (hS : fx_Sok S) (g2 : -2147483648 ≤ x2 ∧ x2 ≤ 2147483647) (g3 : -2147483648 ≤ x3 ∧ x3 ≤ 2147483647) (g4 : -2147483648 ≤ x4 ∧ x4 ≤ 2147483647) : fx_VC (fx_Mx X) 317 [x2, x3, x4] S (fx_p317.getD 1 ([], .inl (0, 0))) := fx_VCR_ok (show fx_VCR (fx_Mx X) 317 [x2, x3, x4] S _ from q317_1 S x2 x3 x4 hS g2 g3 g4)
set_option maxRecDepth 40000 in
theorem u317_2 (X : (Int → Int) × Int) (S : fx_S) (x2 x3 x4 : Int) (hS : fx_Sok S) (g2 : -2147483648 ≤ x2 ∧ x2 ≤ 2147483647) (g3 : -2147483648 ≤ x3 ∧ x3 ≤ 2147483647) (g4 : -2147483648 ≤ x4 ∧ x4 ≤ 2147483647) : fx_VC (fx_Mx X) 317 [x2, x3, x4] S (fx_p317.getD 2 ([], .inl (0, 0))) := fx_VCR_ok (show fx_VCR (fx_Mx X) 317 [x2, x3, x4] S _ from q317_2 S x2 x3 x4 hS g2 g3 g4)
set_option maxRecDepth 40000 in
theorem w317 (X : (Int → Int) × Int) (zs : List Int) (S : fx_S) (hS : fx_Sok S) (hz : zs.length = (fx_lv0 fx_t317.2.2.1 0).2) (rz : fx_rz fx_t317 zs S) : ∀ p ∈ fx_p317, fx_VC (fx_Mx X) 317 zs S p := by
  obtain ⟨x2, x3, x4, rfl⟩ := fx_len3 hz
  have g2 : -2147483648 ≤ x2 ∧ x2 ≤ 2147483647 := rz 2 _ rfl
  have g3 : -2147483648 ≤ x3 ∧ x3 ≤ 2147483647 := rz 3 _ rfl
  have g4 : -2147483648 ≤ x4 ∧ x4 ≤ 2147483647 := rz 4 _ rfl
  exact List.forall_mem_cons.mpr ⟨(u317_0 X S x2 x3 x4 hS g2 g3 g4), List.forall_mem_cons.mpr ⟨(u317_1 X S x2 x3 x4 hS g2 g3 g4), List.forall_mem_cons.mpr ⟨(u317_2 X S x2 x3 x4 hS g2 g3 g4), fun _ h => absurd h List.not_mem_nil⟩⟩⟩
set_option maxRecDepth 40000 in
theorem u318_0 (X : (Int → Int) × Int) (S : fx_S) (x1 x2 x3 x4 : Int) (hS : fx_Sok S) (g1 : -2147483648 ≤ x1 ∧ x1 ≤ 2147483647) (g2 : -2147483648 ≤ x2 ∧ x2 ≤ 2147483647) (g3 : -2147483648 ≤ x3 ∧ x3 ≤ 2147483647) (g4 : -2147483648 ≤ x4 ∧ x4 ≤ 2147483647) : fx_VC (fx_Mx X) 318 [x1, x2, x3, x4] S (fx_p318.getD 0 ([], .inl (0, 0))) := fx_VCR_ok (show fx_VCR (fx_Mx X) 318 [x1, x2, x3, x4] S _ from q318_0 S x1 x2 x3 x4 hS g1 g2 g3 g4)
