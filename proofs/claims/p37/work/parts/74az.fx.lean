/-! FX: the paths of the entries, all -/
set_option maxRecDepth 40000 in
theorem u392_2 (X : (Int → Int) × Int) (S : fx_S) (x1 x3 : Int) (hS : fx_Sok S) (g1 : 0 ≤ x1 ∧ x1 < S.2.2) (g3 : -2147483648 ≤ x3 ∧ x3 ≤ 2147483647) : fx_VC (fx_Mx X) 392 [x1, x3] S (fx_p392.getD 2 ([], .inl (0, 0))) := fx_VCR_ok (show fx_VCR (fx_Mx X) 392 [x1, x3] S _ from q392_2 S x1 x3 hS g1 g3)
set_option maxRecDepth 40000 in
theorem u392_3 (X : (Int → Int) × Int) (S : fx_S) (x1 x3 : Int) (hS : fx_Sok S) (g1 : 0 ≤ x1 ∧ x1 < S.2.2) (g3 : -2147483648 ≤ x3 ∧ x3 ≤ 2147483647) : fx_VC (fx_Mx X) 392 [x1, x3] S (fx_p392.getD 3 ([], .inl (0, 0))) := fx_VCR_ok (show fx_VCR (fx_Mx X) 392 [x1, x3] S _ from q392_3 S x1 x3 hS g1 g3)
set_option maxRecDepth 40000 in
theorem u392_4 (X : (Int → Int) × Int) (S : fx_S) (x1 x3 : Int) (hS : fx_Sok S) (g1 : 0 ≤ x1 ∧ x1 < S.2.2) (g3 : -2147483648 ≤ x3 ∧ x3 ≤ 2147483647) : fx_VC (fx_Mx X) 392 [x1, x3] S (fx_p392.getD 4 ([], .inl (0, 0))) := fx_VCR_ok (show fx_VCR (fx_Mx X) 392 [x1, x3] S _ from q392_4 S x1 x3 hS g1 g3)
set_option maxRecDepth 40000 in
theorem u392_5 (X : (Int → Int) × Int) (S : fx_S) (x1 x3 : Int) (hS : fx_Sok S) (g1 : 0 ≤ x1 ∧ x1 < S.2.2) (g3 : -2147483648 ≤ x3 ∧ x3 ≤ 2147483647) : fx_VC (fx_Mx X) 392 [x1, x3] S (fx_p392.getD 5 ([], .inl (0, 0))) := fx_VCR_ok (show fx_VCR (fx_Mx X) 392 [x1, x3] S _ from q392_5 S x1 x3 hS g1 g3)
set_option maxRecDepth 40000 in
theorem u392_6 (X : (Int → Int) × Int) (S : fx_S) (x1 x3 : Int) (hS : fx_Sok S) (g1 : 0 ≤ x1 ∧ x1 < S.2.2) (g3 : -2147483648 ≤ x3 ∧ x3 ≤ 2147483647) : fx_VC (fx_Mx X) 392 [x1, x3] S (fx_p392.getD 6 ([], .inl (0, 0))) := fx_VCR_ok (show fx_VCR (fx_Mx X) 392 [x1, x3] S _ from q392_6 S x1 x3 hS g1 g3)
set_option maxRecDepth 40000 in
theorem u392_7 (X : (Int → Int) × Int) (S : fx_S) (x1 x3 : Int) (hS : fx_Sok S) (g1 : 0 ≤ x1 ∧ x1 < S.2.2) (g3 : -2147483648 ≤ x3 ∧ x3 ≤ 2147483647) : fx_VC (fx_Mx X) 392 [x1, x3] S (fx_p392.getD 7 ([], .inl (0, 0))) := fx_VCR_ok (show fx_VCR (fx_Mx X) 392 [x1, x3] S _ from q392_7 S x1 x3 hS g1 g3)
set_option maxRecDepth 40000 in
theorem u392_8 (X : (Int → Int) × Int) (S : fx_S) (x1 x3 : Int) (hS : fx_Sok S) (g1 : 0 ≤ x1 ∧ x1 < S.2.2) (g3 : -2147483648 ≤ x3 ∧ x3 ≤ 2147483647) : fx_VC (fx_Mx X) 392 [x1, x3] S (fx_p392.getD 8 ([], .inl (0, 0))) := fx_VCR_ok (show fx_VCR (fx_Mx X) 392 [x1, x3] S _ from q392_8 S x1 x3 hS g1 g3)
set_option maxRecDepth 40000 in
theorem u392_9 (X : (Int → Int) × Int) (S : fx_S) (x1 x3 : Int) (hS : fx_Sok S) (g1 : 0 ≤ x1 ∧ x1 < S.2.2) (g3 : -2147483648 ≤ x3 ∧ x3 ≤ 2147483647) : fx_VC (fx_Mx X) 392 [x1, x3] S (fx_p392.getD 9 ([], .inl (0, 0))) := fx_VCR_ok (show fx_VCR (fx_Mx X) 392 [x1, x3] S _ from q392_9 S x1 x3 hS g1 g3)
set_option maxRecDepth 40000 in
theorem u392_10 (X : (Int → Int) × Int) (S : fx_S) (x1 x3 : Int) (hS : fx_Sok S) (g1 : 0 ≤ x1 ∧ x1 < S.2.2) (g3 : -2147483648 ≤ x3 ∧ x3 ≤ 2147483647) : fx_VC (fx_Mx X) 392 [x1, x3] S (fx_p392.getD 10 ([], .inl (0, 0))) := fx_VCR_ok (show fx_VCR (fx_Mx X) 392 [x1, x3] S _ from q392_10 S x1 x3 hS g1 g3)
set_option maxRecDepth 40000 in
theorem u392_11 (X : (Int → Int) × Int) (S : fx_S) (x1 x3 : Int) (hS : fx_Sok S) (g1 : 0 ≤ x1 ∧ x1 < S.2.2) (g3 : -2147483648 ≤ x3 ∧ x3 ≤ 2147483647) : fx_VC (fx_Mx X) 392 [x1, x3] S (fx_p392.getD 11 ([], .inl (0, 0))) := fx_VCR_ok (show fx_VCR (fx_Mx X) 392 [x1, x3] S _ from q392_11 S x1 x3 hS g1 g3)
set_option maxRecDepth 40000 in
theorem u392_12 (X : (Int → Int) × Int) (S : fx_S) (x1 x3 : Int) (hS : fx_Sok S) (g1 : 0 ≤ x1 ∧ x1 < S.2.2) (g3 : -2147483648 ≤ x3 ∧ x3 ≤ 2147483647) : fx_VC (fx_Mx X) 392 [x1, x3] S (fx_p392.getD 12 ([], .inl (0, 0))) := fx_VCR_ok (show fx_VCR (fx_Mx X) 392 [x1, x3] S _ from q392_12 S x1 x3 hS g1 g3)
set_option maxRecDepth 40000 in
theorem u392_13 (X : (Int → Int) × Int) (S : fx_S) (x1 x3 : Int) (hS : fx_Sok S) (g1 : 0 ≤ x1 ∧ x1 < S.2.2) (g3 : -2147483648 ≤ x3 ∧ x3 ≤ 2147483647) : fx_VC (fx_Mx X) 392 [x1, x3] S (fx_p392.getD 13 ([], .inl (0, 0))) := fx_VCR_ok (show fx_VCR (fx_Mx X) 392 [x1, x3] S _ from q392_13 S x1 x3 hS g1 g3)
set_option maxRecDepth 40000 in
theorem u392_14 (X : (Int → Int) × Int) (S : fx_S) (x1 x3 : Int) (hS : fx_Sok S) (g1 : 0 ≤ x1 ∧ x1 < S.2.2) (g3 : -2147483648 ≤ x3 ∧ x3 ≤ 2147483647) : fx_VC (fx_Mx X) 392 [x1, x3] S (fx_p392.getD 14 ([], .inl (0, 0))) := fx_VCR_ok (show fx_VCR (fx_Mx X) 392 [x1, x3] S _ from q392_14 S x1 x3 hS g1 g3)
set_option maxRecDepth 40000 in
theorem u392_15 (X : (Int → Int) × Int) (S : fx_S) (x1 x3 : Int) (hS : fx_Sok S) (g1 : 0 ≤ x1 ∧ x1 < S.2.2) (g3 : -2147483648 ≤ x3 ∧ x3 ≤ 2147483647) : fx_VC (fx_Mx X) 392 [x1, x3] S (fx_p392.getD 15 ([], .inl (0, 0))) := fx_VCR_ok (show fx_VCR (fx_Mx X) 392 [x1, x3] S _ from q392_15 S x1 x3 hS g1 g3)
set_option maxRecDepth 40000 in
theorem u392_16 (X : (Int → Int) × Int) (S : fx_S) (x1 x3 : Int) (hS : fx_Sok S) (g1 : 0 ≤ x1 ∧ x1 < S.2.2) (g3 : -2147483648 ≤ x3 ∧ x3 ≤ 2147483647) : fx_VC (fx_Mx X) 392 [x1, x3] S (fx_p392.getD 16 ([], .inl (0, 0))) := fx_VCR_ok (show fx_VCR (fx_Mx X) 392 [x1, x3] S _ from q392_16 S x1 x3 hS g1 g3)
set_option maxRecDepth 40000 in
theorem u392_17 (X : (Int → Int) × Int) (S : fx_S) (x1 x3 : Int) (hS : fx_Sok S) (g1 : 0 ≤ x1 ∧ x1 < S.2.2) (g3 : -2147483648 ≤ x3 ∧ x3 ≤ 2147483647) : fx_VC (fx_Mx X) 392 [x1, x3] S (fx_p392.getD 17 ([], .inl (0, 0))) := fx_VCR_ok (show fx_VCR (fx_Mx X) 392 [x1, x3] S _ from q392_17 S x1 x3 hS g1 g3)
set_option maxRecDepth 40000 in
theorem u392_18 (X : (Int → Int) × Int) (S : fx_S) (x1 x3 : Int) (hS : fx_Sok S) (g1 : 0 ≤ x1 ∧ x1 < S.2.2) (g3 : -2147483648 ≤ x3 ∧ x3 ≤ 2147483647) : fx_VC (fx_Mx X) 392 [x1, x3] S (fx_p392.getD 18 ([], .inl (0, 0))) := fx_VCR_ok (show fx_VCR (fx_Mx X) 392 [x1, x3] S _ from q392_18 S x1 x3 hS g1 g3)
set_option maxRecDepth 40000 in
theorem u392_19 (X : (Int → Int) × Int) (S : fx_S) (x1 x3 : Int) (hS : fx_Sok S) (g1 : 0 ≤ x1 ∧ x1 < S.2.2) (g3 : -2147483648 ≤ x3 ∧ x3 ≤ 2147483647) : fx_VC (fx_Mx X) 392 [x1, x3] S (fx_p392.getD 19 ([], .inl (0, 0))) := fx_VCR_ok (show fx_VCR (fx_Mx X) 392 [x1, x3] S _ from q392_19 S x1 x3 hS g1 g3)
set_option maxRecDepth 40000 in
theorem u392_20 (X : (Int → Int) × Int) (S : fx_S) (x1 x3 : Int) (hS : fx_Sok S) (g1 : 0 ≤ x1 ∧ x1 < S.2.2) (g3 : -2147483648 ≤ x3 ∧ x3 ≤ 2147483647) : fx_VC (fx_Mx X) 392 [x1, x3] S (fx_p392.getD 20 ([], .inl (0, 0))) := fx_VCR_ok (show fx_VCR (fx_Mx X) 392 [x1, x3] S _ from q392_20 S x1 x3 hS g1 g3)
set_option maxRecDepth 40000 in
theorem u392_21 (X : (Int → Int) × Int) (S : fx_S) (x1 x3 : Int) (hS : fx_Sok S) (g1 : 0 ≤ x1 ∧ x1 < S.2.2) (g3 : -2147483648 ≤ x3 ∧ x3 ≤ 2147483647) : fx_VC (fx_Mx X) 392 [x1, x3] S (fx_p392.getD 21 ([], .inl (0, 0))) := fx_VCR_ok (show fx_VCR (fx_Mx X) 392 [x1, x3] S _ from q392_21 S x1 x3 hS g1 g3)
set_option maxRecDepth 40000 in
theorem u392_22 (X : (Int → Int) × Int) (S : fx_S) (x1 x3 : Int) (hS : fx_Sok S) (g1 : 0 ≤ x1 ∧ x1 < S.2.2) (g3 : -2147483648 ≤ x3 ∧ x3 ≤ 2147483647) : fx_VC (fx_Mx X) 392 [x1, x3] S (fx_p392.getD 22 ([], .inl (0, 0))) := fx_VCR_ok (show fx_VCR (fx_Mx X) 392 [x1, x3] S _ from q392_22 S x1 x3 hS g1 g3)
set_option maxRecDepth 40000 in
theorem u392_23 (X : (Int → Int) × Int) (S : fx_S) (x1 x3 : Int) (hS : fx_Sok S) (g1 : 0 ≤ x1 ∧ x1 < S.2.2) (g3 : -2147483648 ≤ x3 ∧ x3 ≤ 2147483647) : fx_VC (fx_Mx X) 392 [x1, x3] S (fx_p392.getD 23 ([], .inl (0, 0))) := fx_VCR_ok (show fx_VCR (fx_Mx X) 392 [x1, x3] S _ from q392_23 S x1 x3 hS g1 g3)
set_option maxRecDepth 40000 in
theorem u392_24 (X : (Int → Int) × Int) (S : fx_S) (x1 x3 : Int) (hS : fx_Sok S) (g1 : 0 ≤ x1 ∧ x1 < S.2.2) (g3 : -2147483648 ≤ x3 ∧ x3 ≤ 2147483647) : fx_VC (fx_Mx X) 392 [x1, x3] S (fx_p392.getD 24 ([], .inl (0, 0))) := fx_VCR_ok (show fx_VCR (fx_Mx X) 392 [x1, x3] S _ from q392_24 S x1 x3 hS g1 g3)
set_option maxRecDepth 40000 in
theorem w392 (X : (Int → Int) × Int) (zs : List Int) (S : fx_S) (hS : fx_Sok S) (hz : zs.length = (fx_lv0 fx_t392.2.2.1 0).2) (rz : fx_rz fx_t392 zs S) : ∀ p ∈ fx_p392, fx_VC (fx_Mx X) 392 zs S p := by
  obtain ⟨x1, x3, rfl⟩ := fx_len2 hz
  have g1 : 0 ≤ x1 ∧ x1 < S.2.2 := rz 1 _ rfl
  have g3 : -2147483648 ≤ x3 ∧ x3 ≤ 2147483647 := rz 3 _ rfl
  exact List.forall_mem_cons.mpr ⟨(u392_0 X S x1 x3 hS g1 g3), List.forall_mem_cons.mpr ⟨(u392_1 X S x1 x3 hS g1 g3), List.forall_mem_cons.mpr ⟨(u392_2 X S x1 x3 hS g1 g3), List.forall_mem_cons.mpr ⟨(u392_3 X S x1 x3 hS g1 g3), List.forall_mem_cons.mpr ⟨(u392_4 X S x1 x3 hS g1 g3), List.forall_mem_cons.mpr ⟨(u392_5 X S x1 x3 hS g1 g3), List.forall_mem_cons.mpr ⟨(u392_6 X S x1 x3 hS g1 g3), List.forall_mem_cons.mpr ⟨(u392_7 X S x1 x3 hS g1 g3), List.forall_mem_cons.mpr ⟨(u392_8 X S x1 x3 hS g1 g3), List.forall_mem_cons.mpr ⟨(u392_9 X S x1 x3 hS g1 g3), List.forall_mem_cons.mpr ⟨(u392_10 X S x1 x3 hS g1 g3), List.forall_mem_cons.mpr ⟨(u392_11 X S x1 x3 hS g1 g3), List.forall_mem_cons.mpr ⟨(u392_12 X S x1 x3 hS g1 g3), List.forall_mem_cons.mpr ⟨(u392_13 X S x1 x3 hS g1 g3), List.forall_mem_cons.mpr ⟨(u392_14 X S x1 x3 hS g1 g3), List.forall_mem_cons.mpr ⟨(u392_15 X S x1 x3 hS g1 g3), List.forall_mem_cons.mpr ⟨(u392_16 X S x1 x3 hS g1 g3), List.forall_mem_cons.mpr ⟨(u392_17 X S x1 x3 hS g1 g3), List.forall_mem_cons.mpr ⟨(u392_18 X S x1 x3 hS g1 g3), List.forall_mem_cons.mpr ⟨(u392_19 X S x1 x3 hS g1 g3), List.forall_mem_cons.mpr ⟨(u392_20 X S x1 x3 hS g1 g3), List.forall_mem_cons.mpr ⟨(u392_21 X S x1 x3 hS g1 g3), List.forall_mem_cons.mpr ⟨(u392_22 X S x1 x3 hS g1 g3), List.forall_mem_cons.mpr ⟨(u392_23 X S x1 x3 hS g1 g3), List.forall_mem_cons.mpr ⟨(u392_24 X S x1 x3 hS g1 g3), fun _ h => absurd h List.not_mem_nil⟩⟩⟩⟩⟩⟩⟩⟩⟩⟩⟩⟩⟩⟩⟩⟩⟩⟩⟩⟩⟩⟩⟩⟩⟩
set_option maxRecDepth 40000 in
theorem u393_0 (X : (Int → Int) × Int) (S : fx_S) (x1 : Int) (hS : fx_Sok S) (g1 : -2147483648 ≤ x1 ∧ x1 ≤ 2147483647) : fx_VC (fx_Mx X) 393 [x1] S (fx_p393.getD 0 ([], .inl (0, 0))) := fx_VCR_ok (show fx_VCR (fx_Mx X) 393 [x1] S _ from q393_0 S x1 hS g1)
set_option maxRecDepth 40000 in
theorem u393_1 (X : (Int → Int) × Int) (S : fx_S) (x1 : Int) (hS : fx_Sok S) (g1 : -2147483648 ≤ x1 ∧ x1 ≤ 2147483647) : fx_VC (fx_Mx X) 393 [x1] S (fx_p393.getD 1 ([], .inl (0, 0))) := fx_VCR_ok (show fx_VCR (fx_Mx X) 393 [x1] S _ from q393_1 S x1 hS g1)
set_option maxRecDepth 40000 in
theorem u393_2 (X : (Int → Int) × Int) (S : fx_S) (x1 : Int) (hS : fx_Sok S) (g1 : -2147483648 ≤ x1 ∧ x1 ≤ 2147483647) : fx_VC (fx_Mx X) 393 [x1] S (fx_p393.getD 2 ([], .inl (0, 0))) := fx_VCR_ok (show fx_VCR (fx_Mx X) 393 [x1] S _ from q393_2 S x1 hS g1)
set_option maxRecDepth 40000 in
theorem u393_3 (X : (Int → Int) × Int) (S : fx_S) (x1 : Int) (hS : fx_Sok S) (g1 : -2147483648 ≤ x1 ∧ x1 ≤ 2147483647) : fx_VC (fx_Mx X) 393 [x1] S (fx_p393.getD 3 ([], .inl (0, 0))) := fx_VCR_ok (show fx_VCR (fx_Mx X) 393 [x1] S _ from q393_3 S x1 hS g1)
set_option maxRecDepth 40000 in
theorem u393_4 (X : (Int → Int) × Int) (S : fx_S) (x1 : Int) (hS : fx_Sok S) (g1 : -2147483648 ≤ x1 ∧ x1 ≤ 2147483647) : fx_VC (fx_Mx X) 393 [x1] S (fx_p393.getD 4 ([], .inl (0, 0))) := fx_VCR_ok (show fx_VCR (fx_Mx X) 393 [x1] S _ from q393_4 S x1 hS g1)
set_option maxRecDepth 40000 in
theorem u393_5 (X : (Int → Int) × Int) (S : fx_S) (x1 : Int) (hS : fx_Sok S) (g1 : -2147483648 ≤ x1 ∧ x1 ≤ 2147483647) : fx_VC (fx_Mx X) 393 [x1] S (fx_p393.getD 5 ([], .inl (0, 0))) := fx_VCR_ok (show fx_VCR (fx_Mx X) 393 [x1] S _ from q393_5 S x1 hS g1)
set_option maxRecDepth 40000 in
theorem u393_6 (X : (Int → Int) × Int) (S : fx_S) (x1 : Int) (hS : fx_Sok S) (g1 : -2147483648 ≤ x1 ∧ x1 ≤ 2147483647) : fx_VC (fx_Mx X) 393 [x1] S (fx_p393.getD 6 ([], .inl (0, 0))) := fx_VCR_ok (show fx_VCR (fx_Mx X) 393 [x1] S _ from q393_6 S x1 hS g1)
set_option maxRecDepth 40000 in
theorem u393_7 (X : (Int → Int) × Int) (S : fx_S) (x1 : Int) (hS : fx_Sok S) (g1 : -2147483648 ≤ x1 ∧ x1 ≤ 2147483647) : fx_VC (fx_Mx X) 393 [x1] S (fx_p393.getD 7 ([], .inl (0, 0))) := fx_VCR_ok (show fx_VCR (fx_Mx X) 393 [x1] S _ from q393_7 S x1 hS g1)
set_option maxRecDepth 40000 in
theorem u393_8 (X : (Int → Int) × Int) (S : fx_S) (x1 : Int) (hS : fx_Sok S) (g1 : -2147483648 ≤ x1 ∧ x1 ≤ 2147483647) : fx_VC (fx_Mx X) 393 [x1] S (fx_p393.getD 8 ([], .inl (0, 0))) := fx_VCR_ok (show fx_VCR (fx_Mx X) 393 [x1] S _ from q393_8 S x1 hS g1)
