/-! FX: the paths of the entries, all -/
set_option maxRecDepth 40000 in
theorem u304_1 (X : (Int → Int) × Int) (S : fx_S) (x1 : Int) (hS : fx_Sok S) : fx_VC (fx_Mx X) 304 [x1] S (fx_p304.getD 1 ([], .inl (0, 0))) := fx_VCR_ok (show fx_VCR (fx_Mx X) 304 [x1] S _ from q304_1 S x1 hS)
set_option maxRecDepth 40000 in
theorem u304_2 (X : (Int → Int) × Int) (S : fx_S) (x1 : Int) (hS : fx_Sok S) : fx_VC (fx_Mx X) 304 [x1] S (fx_p304.getD 2 ([], .inl (0, 0))) := fx_VCR_ok (show fx_VCR (fx_Mx X) 304 [x1] S _ from q304_2 S x1 hS)
set_option maxRecDepth 40000 in
theorem u304_3 (X : (Int → Int) × Int) (S : fx_S) (x1 : Int) (hS : fx_Sok S) : fx_VC (fx_Mx X) 304 [x1] S (fx_p304.getD 3 ([], .inl (0, 0))) := fx_VCR_ok (show fx_VCR (fx_Mx X) 304 [x1] S _ from q304_3 S x1 hS)
set_option maxRecDepth 40000 in
theorem w304 (X : (Int → Int) × Int) (zs : List Int) (S : fx_S) (hS : fx_Sok S) (hz : zs.length = (fx_lv0 fx_t304.2.2.1 0).2) (rz : fx_rz fx_t304 zs S) : ∀ p ∈ fx_p304, fx_VC (fx_Mx X) 304 zs S p := by
  obtain ⟨x1, rfl⟩ := fx_len1 hz
  exact List.forall_mem_cons.mpr ⟨(u304_0 X S x1 hS), List.forall_mem_cons.mpr ⟨(u304_1 X S x1 hS), List.forall_mem_cons.mpr ⟨(u304_2 X S x1 hS), List.forall_mem_cons.mpr ⟨(u304_3 X S x1 hS), fun _ h => absurd h List.not_mem_nil⟩⟩⟩⟩
set_option maxRecDepth 40000 in
theorem u305_0 (X : (Int → Int) × Int) (S : fx_S) (x1 x2 x3 : Int) (hS : fx_Sok S) (g1 : -2147483648 ≤ x1 ∧ x1 ≤ 2147483647) (g2 : -2147483648 ≤ x2 ∧ x2 ≤ 2147483647) (g3 : -2147483648 ≤ x3 ∧ x3 ≤ 2147483647) : fx_VC (fx_Mx X) 305 [x1, x2, x3] S (fx_p305.getD 0 ([], .inl (0, 0))) := fx_VCR_ok (show fx_VCR (fx_Mx X) 305 [x1, x2, x3] S _ from q305_0 S x1 x2 x3 hS g1 g2 g3)
set_option maxRecDepth 40000 in
theorem u305_1 (X : (Int → Int) × Int) (S : fx_S) (x1 x2 x3 : Int) (hS : fx_Sok S) (g1 : -2147483648 ≤ x1 ∧ x1 ≤ 2147483647) (g2 : -2147483648 ≤ x2 ∧ x2 ≤ 2147483647) (g3 : -2147483648 ≤ x3 ∧ x3 ≤ 2147483647) : fx_VC (fx_Mx X) 305 [x1, x2, x3] S (fx_p305.getD 1 ([], .inl (0, 0))) := fx_VCR_ok (show fx_VCR (fx_Mx X) 305 [x1, x2, x3] S _ from q305_1 S x1 x2 x3 hS g1 g2 g3)
set_option maxRecDepth 40000 in
theorem u305_2 (X : (Int → Int) × Int) (S : fx_S) (x1 x2 x3 : Int) (hS : fx_Sok S) (g1 : -2147483648 ≤ x1 ∧ x1 ≤ 2147483647) (g2 : -2147483648 ≤ x2 ∧ x2 ≤ 2147483647) (g3 : -2147483648 ≤ x3 ∧ x3 ≤ 2147483647) : fx_VC (fx_Mx X) 305 [x1, x2, x3] S (fx_p305.getD 2 ([], .inl (0, 0))) := fx_VCR_ok (show fx_VCR (fx_Mx X) 305 [x1, x2, x3] S _ from q305_2 S x1 x2 x3 hS g1 g2 g3)
set_option maxRecDepth 40000 in
theorem u305_3 (X : (Int → Int) × Int) (S : fx_S) (x1 x2 x3 : Int) (hS : fx_Sok S) (g1 : -2147483648 ≤ x1 ∧ x1 ≤ 2147483647) (g2 : -2147483648 ≤ x2 ∧ x2 ≤ 2147483647) (g3 : -2147483648 ≤ x3 ∧ x3 ≤ 2147483647) : fx_VC (fx_Mx X) 305 [x1, x2, x3] S (fx_p305.getD 3 ([], .inl (0, 0))) := fx_VCR_ok (show fx_VCR (fx_Mx X) 305 [x1, x2, x3] S _ from q305_3 S x1 x2 x3 hS g1 g2 g3)
set_option maxRecDepth 40000 in
theorem u305_4 (X : (Int → Int) × Int) (S : fx_S) (x1 x2 x3 : Int) (hS : fx_Sok S) (g1 : -2147483648 ≤ x1 ∧ x1 ≤ 2147483647) (g2 : -2147483648 ≤ x2 ∧ x2 ≤ 2147483647) (g3 : -2147483648 ≤ x3 ∧ x3 ≤ 2147483647) : fx_VC (fx_Mx X) 305 [x1, x2, x3] S (fx_p305.getD 4 ([], .inl (0, 0))) := fx_VCR_ok (show fx_VCR (fx_Mx X) 305 [x1, x2, x3] S _ from q305_4 S x1 x2 x3 hS g1 g2 g3)
set_option maxRecDepth 40000 in
theorem u305_5 (X : (Int → Int) × Int) (S : fx_S) (x1 x2 x3 : Int) (hS : fx_Sok S) (g1 : -2147483648 ≤ x1 ∧ x1 ≤ 2147483647) (g2 : -2147483648 ≤ x2 ∧ x2 ≤ 2147483647) (g3 : -2147483648 ≤ x3 ∧ x3 ≤ 2147483647) : fx_VC (fx_Mx X) 305 [x1, x2, x3] S (fx_p305.getD 5 ([], .inl (0, 0))) := fx_VCR_ok (show fx_VCR (fx_Mx X) 305 [x1, x2, x3] S _ from q305_5 S x1 x2 x3 hS g1 g2 g3)
set_option maxRecDepth 40000 in
theorem u305_6 (X : (Int → Int) × Int) (S : fx_S) (x1 x2 x3 : Int) (hS : fx_Sok S) (g1 : -2147483648 ≤ x1 ∧ x1 ≤ 2147483647) (g2 : -2147483648 ≤ x2 ∧ x2 ≤ 2147483647) (g3 : -2147483648 ≤ x3 ∧ x3 ≤ 2147483647) : fx_VC (fx_Mx X) 305 [x1, x2, x3] S (fx_p305.getD 6 ([], .inl (0, 0))) := fx_VCR_ok (show fx_VCR (fx_Mx X) 305 [x1, x2, x3] S _ from q305_6 S x1 x2 x3 hS g1 g2 g3)
set_option maxRecDepth 40000 in
theorem u305_7 (X : (Int → Int) × Int) (S : fx_S) (x1 x2 x3 : Int) (hS : fx_Sok S) (g1 : -2147483648 ≤ x1 ∧ x1 ≤ 2147483647) (g2 : -2147483648 ≤ x2 ∧ x2 ≤ 2147483647) (g3 : -2147483648 ≤ x3 ∧ x3 ≤ 2147483647) : fx_VC (fx_Mx X) 305 [x1, x2, x3] S (fx_p305.getD 7 ([], .inl (0, 0))) := fx_VCR_ok (show fx_VCR (fx_Mx X) 305 [x1, x2, x3] S _ from q305_7 S x1 x2 x3 hS g1 g2 g3)
set_option maxRecDepth 40000 in
theorem u305_8 (X : (Int → Int) × Int) (S : fx_S) (x1 x2 x3 : Int) (hS : fx_Sok S) (g1 : -2147483648 ≤ x1 ∧ x1 ≤ 2147483647) (g2 : -2147483648 ≤ x2 ∧ x2 ≤ 2147483647) (g3 : -2147483648 ≤ x3 ∧ x3 ≤ 2147483647) : fx_VC (fx_Mx X) 305 [x1, x2, x3] S (fx_p305.getD 8 ([], .inl (0, 0))) := fx_VCR_ok (show fx_VCR (fx_Mx X) 305 [x1, x2, x3] S _ from q305_8 S x1 x2 x3 hS g1 g2 g3)
set_option maxRecDepth 40000 in
theorem u305_9 (X : (Int → Int) × Int) (S : fx_S) (x1 x2 x3 : Int) (hS : fx_Sok S) (g1 : -2147483648 ≤ x1 ∧ x1 ≤ 2147483647) (g2 : -2147483648 ≤ x2 ∧ x2 ≤ 2147483647) (g3 : -2147483648 ≤ x3 ∧ x3 ≤ 2147483647) : fx_VC (fx_Mx X) 305 [x1, x2, x3] S (fx_p305.getD 9 ([], .inl (0, 0))) := fx_VCR_ok (show fx_VCR (fx_Mx X) 305 [x1, x2, x3] S _ from q305_9 S x1 x2 x3 hS g1 g2 g3)
set_option maxRecDepth 40000 in
theorem u305_10 (X : (Int → Int) × Int) (S : fx_S) (x1 x2 x3 : Int) (hS : fx_Sok S) (g1 : -2147483648 ≤ x1 ∧ x1 ≤ 2147483647) (g2 : -2147483648 ≤ x2 ∧ x2 ≤ 2147483647) (g3 : -2147483648 ≤ x3 ∧ x3 ≤ 2147483647) : fx_VC (fx_Mx X) 305 [x1, x2, x3] S (fx_p305.getD 10 ([], .inl (0, 0))) := fx_VCR_ok (show fx_VCR (fx_Mx X) 305 [x1, x2, x3] S _ from q305_10 S x1 x2 x3 hS g1 g2 g3)
set_option maxRecDepth 40000 in
theorem u305_11 (X : (Int → Int) × Int) (S : fx_S) (x1 x2 x3 : Int) (hS : fx_Sok S) (g1 : -2147483648 ≤ x1 ∧ x1 ≤ 2147483647) (g2 : -2147483648 ≤ x2 ∧ x2 ≤ 2147483647) (g3 : -2147483648 ≤ x3 ∧ x3 ≤ 2147483647) : fx_VC (fx_Mx X) 305 [x1, x2, x3] S (fx_p305.getD 11 ([], .inl (0, 0))) := fx_VCR_ok (show fx_VCR (fx_Mx X) 305 [x1, x2, x3] S _ from q305_11 S x1 x2 x3 hS g1 g2 g3)
set_option maxRecDepth 40000 in
theorem u305_12 (X : (Int → Int) × Int) (S : fx_S) (x1 x2 x3 : Int) (hS : fx_Sok S) (g1 : -2147483648 ≤ x1 ∧ x1 ≤ 2147483647) (g2 : -2147483648 ≤ x2 ∧ x2 ≤ 2147483647) (g3 : -2147483648 ≤ x3 ∧ x3 ≤ 2147483647) : fx_VC (fx_Mx X) 305 [x1, x2, x3] S (fx_p305.getD 12 ([], .inl (0, 0))) := fx_VCR_ok (show fx_VCR (fx_Mx X) 305 [x1, x2, x3] S _ from q305_12 S x1 x2 x3 hS g1 g2 g3)
set_option maxRecDepth 40000 in
theorem u305_13 (X : (Int → Int) × Int) (S : fx_S) (x1 x2 x3 : Int) (hS : fx_Sok S) (g1 : -2147483648 ≤ x1 ∧ x1 ≤ 2147483647) (g2 : -2147483648 ≤ x2 ∧ x2 ≤ 2147483647) (g3 : -2147483648 ≤ x3 ∧ x3 ≤ 2147483647) : fx_VC (fx_Mx X) 305 [x1, x2, x3] S (fx_p305.getD 13 ([], .inl (0, 0))) := fx_VCR_ok (show fx_VCR (fx_Mx X) 305 [x1, x2, x3] S _ from q305_13 S x1 x2 x3 hS g1 g2 g3)
set_option maxRecDepth 40000 in
theorem u305_14 (X : (Int → Int) × Int) (S : fx_S) (x1 x2 x3 : Int) (hS : fx_Sok S) (g1 : -2147483648 ≤ x1 ∧ x1 ≤ 2147483647) (g2 : -2147483648 ≤ x2 ∧ x2 ≤ 2147483647) (g3 : -2147483648 ≤ x3 ∧ x3 ≤ 2147483647) : fx_VC (fx_Mx X) 305 [x1, x2, x3] S (fx_p305.getD 14 ([], .inl (0, 0))) := fx_VCR_ok (show fx_VCR (fx_Mx X) 305 [x1, x2, x3] S _ from q305_14 S x1 x2 x3 hS g1 g2 g3)
set_option maxRecDepth 40000 in
theorem u305_15 (X : (Int → Int) × Int) (S : fx_S) (x1 x2 x3 : Int) (hS : fx_Sok S) (g1 : -2147483648 ≤ x1 ∧ x1 ≤ 2147483647) (g2 : -2147483648 ≤ x2 ∧ x2 ≤ 2147483647) (g3 : -2147483648 ≤ x3 ∧ x3 ≤ 2147483647) : fx_VC (fx_Mx X) 305 [x1, x2, x3] S (fx_p305.getD 15 ([], .inl (0, 0))) := fx_VCR_ok (show fx_VCR (fx_Mx X) 305 [x1, x2, x3] S _ from q305_15 S x1 x2 x3 hS g1 g2 g3)
set_option maxRecDepth 40000 in
theorem u305_16 (X : (Int → Int) × Int) (S : fx_S) (x1 x2 x3 : Int) (hS : fx_Sok S) (g1 : -2147483648 ≤ x1 ∧ x1 ≤ 2147483647) (g2 : -2147483648 ≤ x2 ∧ x2 ≤ 2147483647) (g3 : -2147483648 ≤ x3 ∧ x3 ≤ 2147483647) : fx_VC (fx_Mx X) 305 [x1, x2, x3] S (fx_p305.getD 16 ([], .inl (0, 0))) := fx_VCR_ok (show fx_VCR (fx_Mx X) 305 [x1, x2, x3] S _ from q305_16 S x1 x2 x3 hS g1 g2 g3)
set_option maxRecDepth 40000 in
theorem u305_17 (X : (Int → Int) × Int) (S : fx_S) (x1 x2 x3 : Int) (hS : fx_Sok S) (g1 : -2147483648 ≤ x1 ∧ x1 ≤ 2147483647) (g2 : -2147483648 ≤ x2 ∧ x2 ≤ 2147483647) (g3 : -2147483648 ≤ x3 ∧ x3 ≤ 2147483647) : fx_VC (fx_Mx X) 305 [x1, x2, x3] S (fx_p305.getD 17 ([], .inl (0, 0))) := fx_VCR_ok (show fx_VCR (fx_Mx X) 305 [x1, x2, x3] S _ from q305_17 S x1 x2 x3 hS g1 g2 g3)
set_option maxRecDepth 40000 in
theorem u305_18 (X : (Int → Int) × Int) (S : fx_S) (x1 x2 x3 : Int) (hS : fx_Sok S) (g1 : -2147483648 ≤ x1 ∧ x1 ≤ 2147483647) (g2 : -2147483648 ≤ x2 ∧ x2 ≤ 2147483647) (g3 : -2147483648 ≤ x3 ∧ x3 ≤ 2147483647) : fx_VC (fx_Mx X) 305 [x1, x2, x3] S (fx_p305.getD 18 ([], .inl (0, 0))) := fx_VCR_ok (show fx_VCR (fx_Mx X) 305 [x1, x2, x3] S _ from q305_18 S x1 x2 x3 hS g1 g2 g3)
set_option maxRecDepth 40000 in
theorem u305_19 (X : (Int → Int) × Int) (S : fx_S) (x1 x2 x3 : Int) (hS : fx_Sok S) (g1 : -2147483648 ≤ x1 ∧ x1 ≤ 2147483647) (g2 : -2147483648 ≤ x2 ∧ x2 ≤ 2147483647) (g3 : -2147483648 ≤ x3 ∧ x3 ≤ 2147483647) : fx_VC (fx_Mx X) 305 [x1, x2, x3] S (fx_p305.getD 19 ([], .inl (0, 0))) := fx_VCR_ok (show fx_VCR (fx_Mx X) 305 [x1, x2, x3] S _ from q305_19 S x1 x2 x3 hS g1 g2 g3)
set_option maxRecDepth 40000 in
theorem u305_20 (X : (Int → Int) × Int) (S : fx_S) (x1 x2 x3 : Int) (hS : fx_Sok S) (g1 : -2147483648 ≤ x1 ∧ x1 ≤ 2147483647) (g2 : -2147483648 ≤ x2 ∧ x2 ≤ 2147483647) (g3 : -2147483648 ≤ x3 ∧ x3 ≤ 2147483647) : fx_VC (fx_Mx X) 305 [x1, x2, x3] S (fx_p305.getD 20 ([], .inl (0, 0))) := fx_VCR_ok (show fx_VCR (fx_Mx X) 305 [x1, x2, x3] S _ from q305_20 S x1 x2 x3 hS g1 g2 g3)
set_option maxRecDepth 40000 in
theorem u305_21 (X : (Int → Int) × Int) (S : fx_S) (x1 x2 x3 : Int) (hS : fx_Sok S) (g1 : -2147483648 ≤ x1 ∧ x1 ≤ 2147483647) (g2 : -2147483648 ≤ x2 ∧ x2 ≤ 2147483647) (g3 : -2147483648 ≤ x3 ∧ x3 ≤ 2147483647) : fx_VC (fx_Mx X) 305 [x1, x2, x3] S (fx_p305.getD 21 ([], .inl (0, 0))) := fx_VCR_ok (show fx_VCR (fx_Mx X) 305 [x1, x2, x3] S _ from q305_21 S x1 x2 x3 hS g1 g2 g3)
set_option maxRecDepth 40000 in
theorem u305_22 (X : (Int → Int) × Int) (S : fx_S) (x1 x2 x3 : Int) (hS : fx_Sok S) (g1 : -2147483648 ≤ x1 ∧ x1 ≤ 2147483647) (g2 : -2147483648 ≤ x2 ∧ x2 ≤ 2147483647) (g3 : -2147483648 ≤ x3 ∧ x3 ≤ 2147483647) : fx_VC (fx_Mx X) 305 [x1, x2, x3] S (fx_p305.getD 22 ([], .inl (0, 0))) := fx_VCR_ok (show fx_VCR (fx_Mx X) 305 [x1, x2, x3] S _ from q305_22 S x1 x2 x3 hS g1 g2 g3)
set_option maxRecDepth 40000 in
theorem u305_23 (X : (Int → Int) × Int) (S : fx_S) (x1 x2 x3 : Int) (hS : fx_Sok S) (g1 : -2147483648 ≤ x1 ∧ x1 ≤ 2147483647) (g2 : -2147483648 ≤ x2 ∧ x2 ≤ 2147483647) (g3 : -2147483648 ≤ x3 ∧ x3 ≤ 2147483647) : fx_VC (fx_Mx X) 305 [x1, x2, x3] S (fx_p305.getD 23 ([], .inl (0, 0))) := fx_VCR_ok (show fx_VCR (fx_Mx X) 305 [x1, x2, x3] S _ from q305_23 S x1 x2 x3 hS g1 g2 g3)
set_option maxRecDepth 40000 in
theorem u305_24 (X : (Int → Int) × Int) (S : fx_S) (x1 x2 x3 : Int) (hS : fx_Sok S) (g1 : -2147483648 ≤ x1 ∧ x1 ≤ 2147483647) (g2 : -2147483648 ≤ x2 ∧ x2 ≤ 2147483647) (g3 : -2147483648 ≤ x3 ∧ x3 ≤ 2147483647) : fx_VC (fx_Mx X) 305 [x1, x2, x3] S (fx_p305.getD 24 ([], .inl (0, 0))) := fx_VCR_ok (show fx_VCR (fx_Mx X) 305 [x1, x2, x3] S _ from q305_24 S x1 x2 x3 hS g1 g2 g3)
set_option maxRecDepth 40000 in
theorem u305_25 (X : (Int → Int) × Int) (S : fx_S) (x1 x2 x3 : Int) (hS : fx_Sok S) (g1 : -2147483648 ≤ x1 ∧ x1 ≤ 2147483647) (g2 : -2147483648 ≤ x2 ∧ x2 ≤ 2147483647) (g3 : -2147483648 ≤ x3 ∧ x3 ≤ 2147483647) : fx_VC (fx_Mx X) 305 [x1, x2, x3] S (fx_p305.getD 25 ([], .inl (0, 0))) := fx_VCR_ok (show fx_VCR (fx_Mx X) 305 [x1, x2, x3] S _ from q305_25 S x1 x2 x3 hS g1 g2 g3)
set_option maxRecDepth 40000 in
theorem u305_26 (X : (Int → Int) × Int) (S : fx_S) (x1 x2 x3 : Int) (hS : fx_Sok S) (g1 : -2147483648 ≤ x1 ∧ x1 ≤ 2147483647) (g2 : -2147483648 ≤ x2 ∧ x2 ≤ 2147483647) (g3 : -2147483648 ≤ x3 ∧ x3 ≤ 2147483647) : fx_VC (fx_Mx X) 305 [x1, x2, x3] S (fx_p305.getD 26 ([], .inl (0, 0))) := fx_VCR_ok (show fx_VCR (fx_Mx X) 305 [x1, x2, x3] S _ from q305_26 S x1 x2 x3 hS g1 g2 g3)
set_option maxRecDepth 40000 in
theorem u305_27 (X : (Int → Int) × Int) (S : fx_S) (x1 x2 x3 : Int) (hS : fx_Sok S) (g1 : -2147483648 ≤ x1 ∧ x1 ≤ 2147483647) (g2 : -2147483648 ≤ x2 ∧ x2 ≤ 2147483647) (g3 : -2147483648 ≤ x3 ∧ x3 ≤ 2147483647) : fx_VC (fx_Mx X) 305 [x1, x2, x3] S (fx_p305.getD 27 ([], .inl (0, 0))) := fx_VCR_ok (show fx_VCR (fx_Mx X) 305 [x1, x2, x3] S _ from q305_27 S x1 x2 x3 hS g1 g2 g3)
set_option maxRecDepth 40000 in
theorem u305_28 (X : (Int → Int) × Int) (S : fx_S) (x1 x2 x3 : Int) (hS : fx_Sok S) (g1 : -2147483648 ≤ x1 ∧ x1 ≤ 2147483647) (g2 : -2147483648 ≤ x2 ∧ x2 ≤ 2147483647) (g3 : -2147483648 ≤ x3 ∧ x3 ≤ 2147483647) : fx_VC (fx_Mx X) 305 [x1, x2, x3] S (fx_p305.getD 28 ([], .inl (0, 0))) := fx_VCR_ok (show fx_VCR (fx_Mx X) 305 [x1, x2, x3] S _ from q305_28 S x1 x2 x3 hS g1 g2 g3)
set_option maxRecDepth 40000 in
theorem u305_29 (X : (Int → Int) × Int) (S : fx_S) (x1 x2 x3 : Int) (hS : fx_Sok S) (g1 : -2147483648 ≤ x1 ∧ x1 ≤ 2147483647) (g2 : -2147483648 ≤ x2 ∧ x2 ≤ 2147483647) (g3 : -2147483648 ≤ x3 ∧ x3 ≤ 2147483647) : fx_VC (fx_Mx X) 305 [x1, x2, x3] S (fx_p305.getD 29 ([], .inl (0, 0))) := fx_VCR_ok (show fx_VCR (fx_Mx X) 305 [x1, x2, x3] S _ from q305_29 S x1 x2 x3 hS g1 g2 g3)
set_option maxRecDepth 40000 in
theorem u305_30 (X : (Int → Int) × Int) (S : fx_S) (x1 x2 x3 : Int) (hS : fx_Sok S) (g1 : -2147483648 ≤ x1 ∧ x1 ≤ 2147483647) (g2 : -2147483648 ≤ x2 ∧ x2 ≤ 2147483647) (g3 : -2147483648 ≤ x3 ∧ x3 ≤ 2147483647) : fx_VC (fx_Mx X) 305 [x1, x2, x3] S (fx_p305.getD 30 ([], .inl (0, 0))) := fx_VCR_ok (show fx_VCR (fx_Mx X) 305 [x1, x2, x3] S _ from q305_30 S x1 x2 x3 hS g1 g2 g3)
set_option maxRecDepth 40000 in
theorem u305_31 (X : (Int → Int) × Int) (S : fx_S) (x1 x2 x3 : Int) (hS : fx_Sok S) (g1 : -2147483648 ≤ x1 ∧ x1 ≤ 2147483647) (g2 : -2147483648 ≤ x2 ∧ x2 ≤ 2147483647) (g3 : -2147483648 ≤ x3 ∧ x3 ≤ 2147483647) : fx_VC (fx_Mx X) 305 [x1, x2, x3] S (fx_p305.getD 31 ([], .inl (0, 0))) := fx_VCR_ok (show fx_VCR (fx_Mx X) 305 [x1, x2, x3] S _ from q305_31 S x1 x2 x3 hS g1 g2 g3)
set_option maxRecDepth 40000 in
theorem u305_32 (X : (Int → Int) × Int) (S : fx_S) (x1 x2 x3 : Int) (hS : fx_Sok S) (g1 : -2147483648 ≤ x1 ∧ x1 ≤ 2147483647) (g2 : -2147483648 ≤ x2 ∧ x2 ≤ 2147483647) (g3 : -2147483648 ≤ x3 ∧ x3 ≤ 2147483647) : fx_VC (fx_Mx X) 305 [x1, x2, x3] S (fx_p305.getD 32 ([], .inl (0, 0))) := fx_VCR_ok (show fx_VCR (fx_Mx X) 305 [x1, x2, x3] S _ from q305_32 S x1 x2 x3 hS g1 g2 g3)
