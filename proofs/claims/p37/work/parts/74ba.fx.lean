/-! FX: the paths of the entries, all -/
set_option maxRecDepth 40000 in
theorem u393_9 (X : (Int → Int) × Int) (S : fx_S) (x1 : Int) (hS : fx_Sok S) (g1 : -2147483648 ≤ x1 ∧ x1 ≤ 2147483647) : fx_VC (fx_Mx X) 393 [x1] S (fx_p393.getD 9 ([], .inl (0, 0))) := fx_VCR_ok (show fx_VCR (fx_Mx X) 393 [x1] S _ from q393_9 S x1 hS g1)
set_option maxRecDepth 40000 in
theorem u393_10 (X : (Int → Int) × Int) (S : fx_S) (x1 : Int) (hS : fx_Sok S) (g1 : -2147483648 ≤ x1 ∧ x1 ≤ 2147483647) : fx_VC (fx_Mx X) 393 [x1] S (fx_p393.getD 10 ([], .inl (0, 0))) := fx_VCR_ok (show fx_VCR (fx_Mx X) 393 [x1] S _ from q393_10 S x1 hS g1)
set_option maxRecDepth 40000 in
theorem u393_11 (X : (Int → Int) × Int) (S : fx_S) (x1 : Int) (hS : fx_Sok S) (g1 : -2147483648 ≤ x1 ∧ x1 ≤ 2147483647) : fx_VC (fx_Mx X) 393 [x1] S (fx_p393.getD 11 ([], .inl (0, 0))) := fx_VCR_ok (show fx_VCR (fx_Mx X) 393 [x1] S _ from q393_11 S x1 hS g1)
set_option maxRecDepth 40000 in
theorem u393_12 (X : (Int → Int) × Int) (S : fx_S) (x1 : Int) (hS : fx_Sok S) (g1 : -2147483648 ≤ x1 ∧ x1 ≤ 2147483647) : fx_VC (fx_Mx X) 393 [x1] S (fx_p393.getD 12 ([], .inl (0, 0))) := fx_VCR_ok (show fx_VCR (fx_Mx X) 393 [x1] S _ from q393_12 S x1 hS g1)
set_option maxRecDepth 40000 in
theorem u393_13 (X : (Int → Int) × Int) (S : fx_S) (x1 : Int) (hS : fx_Sok S) (g1 : -2147483648 ≤ x1 ∧ x1 ≤ 2147483647) : fx_VC (fx_Mx X) 393 [x1] S (fx_p393.getD 13 ([], .inl (0, 0))) := fx_VCR_ok (show fx_VCR (fx_Mx X) 393 [x1] S _ from q393_13 S x1 hS g1)
set_option maxRecDepth 40000 in
theorem u393_14 (X : (Int → Int) × Int) (S : fx_S) (x1 : Int) (hS : fx_Sok S) (g1 : -2147483648 ≤ x1 ∧ x1 ≤ 2147483647) : fx_VC (fx_Mx X) 393 [x1] S (fx_p393.getD 14 ([], .inl (0, 0))) := fx_VCR_ok (show fx_VCR (fx_Mx X) 393 [x1] S _ from q393_14 S x1 hS g1)
set_option maxRecDepth 40000 in
theorem u393_15 (X : (Int → Int) × Int) (S : fx_S) (x1 : Int) (hS : fx_Sok S) (g1 : -2147483648 ≤ x1 ∧ x1 ≤ 2147483647) : fx_VC (fx_Mx X) 393 [x1] S (fx_p393.getD 15 ([], .inl (0, 0))) := fx_VCR_ok (show fx_VCR (fx_Mx X) 393 [x1] S _ from q393_15 S x1 hS g1)
set_option maxRecDepth 40000 in
theorem u393_16 (X : (Int → Int) × Int) (S : fx_S) (x1 : Int) (hS : fx_Sok S) (g1 : -2147483648 ≤ x1 ∧ x1 ≤ 2147483647) : fx_VC (fx_Mx X) 393 [x1] S (fx_p393.getD 16 ([], .inl (0, 0))) := fx_VCR_ok (show fx_VCR (fx_Mx X) 393 [x1] S _ from q393_16 S x1 hS g1)
set_option maxRecDepth 40000 in
theorem u393_17 (X : (Int → Int) × Int) (S : fx_S) (x1 : Int) (hS : fx_Sok S) (g1 : -2147483648 ≤ x1 ∧ x1 ≤ 2147483647) : fx_VC (fx_Mx X) 393 [x1] S (fx_p393.getD 17 ([], .inl (0, 0))) := fx_VCR_ok (show fx_VCR (fx_Mx X) 393 [x1] S _ from q393_17 S x1 hS g1)
set_option maxRecDepth 40000 in
theorem u393_18 (X : (Int → Int) × Int) (S : fx_S) (x1 : Int) (hS : fx_Sok S) (g1 : -2147483648 ≤ x1 ∧ x1 ≤ 2147483647) : fx_VC (fx_Mx X) 393 [x1] S (fx_p393.getD 18 ([], .inl (0, 0))) := fx_VCR_ok (show fx_VCR (fx_Mx X) 393 [x1] S _ from q393_18 S x1 hS g1)
set_option maxRecDepth 40000 in
theorem u393_19 (X : (Int → Int) × Int) (S : fx_S) (x1 : Int) (hS : fx_Sok S) (g1 : -2147483648 ≤ x1 ∧ x1 ≤ 2147483647) : fx_VC (fx_Mx X) 393 [x1] S (fx_p393.getD 19 ([], .inl (0, 0))) := fx_VCR_ok (show fx_VCR (fx_Mx X) 393 [x1] S _ from q393_19 S x1 hS g1)
set_option maxRecDepth 40000 in
theorem u393_20 (X : (Int → Int) × Int) (S : fx_S) (x1 : Int) (hS : fx_Sok S) (g1 : -2147483648 ≤ x1 ∧ x1 ≤ 2147483647) : fx_VC (fx_Mx X) 393 [x1] S (fx_p393.getD 20 ([], .inl (0, 0))) := fx_VCR_ok (show fx_VCR (fx_Mx X) 393 [x1] S _ from q393_20 S x1 hS g1)
set_option maxRecDepth 40000 in
theorem u393_21 (X : (Int → Int) × Int) (S : fx_S) (x1 : Int) (hS : fx_Sok S) (g1 : -2147483648 ≤ x1 ∧ x1 ≤ 2147483647) : fx_VC (fx_Mx X) 393 [x1] S (fx_p393.getD 21 ([], .inl (0, 0))) := fx_VCR_ok (show fx_VCR (fx_Mx X) 393 [x1] S _ from q393_21 S x1 hS g1)
set_option maxRecDepth 40000 in
theorem u393_22 (X : (Int → Int) × Int) (S : fx_S) (x1 : Int) (hS : fx_Sok S) (g1 : -2147483648 ≤ x1 ∧ x1 ≤ 2147483647) : fx_VC (fx_Mx X) 393 [x1] S (fx_p393.getD 22 ([], .inl (0, 0))) := fx_VCR_ok (show fx_VCR (fx_Mx X) 393 [x1] S _ from q393_22 S x1 hS g1)
set_option maxRecDepth 40000 in
theorem u393_23 (X : (Int → Int) × Int) (S : fx_S) (x1 : Int) (hS : fx_Sok S) (g1 : -2147483648 ≤ x1 ∧ x1 ≤ 2147483647) : fx_VC (fx_Mx X) 393 [x1] S (fx_p393.getD 23 ([], .inl (0, 0))) := fx_VCR_ok (show fx_VCR (fx_Mx X) 393 [x1] S _ from q393_23 S x1 hS g1)
set_option maxRecDepth 40000 in
theorem u393_24 (X : (Int → Int) × Int) (S : fx_S) (x1 : Int) (hS : fx_Sok S) (g1 : -2147483648 ≤ x1 ∧ x1 ≤ 2147483647) : fx_VC (fx_Mx X) 393 [x1] S (fx_p393.getD 24 ([], .inl (0, 0))) := fx_VCR_ok (show fx_VCR (fx_Mx X) 393 [x1] S _ from q393_24 S x1 hS g1)
set_option maxRecDepth 40000 in
theorem u393_25 (X : (Int → Int) × Int) (S : fx_S) (x1 : Int) (hS : fx_Sok S) (g1 : -2147483648 ≤ x1 ∧ x1 ≤ 2147483647) : fx_VC (fx_Mx X) 393 [x1] S (fx_p393.getD 25 ([], .inl (0, 0))) := fx_VCR_ok (show fx_VCR (fx_Mx X) 393 [x1] S _ from q393_25 S x1 hS g1)
set_option maxRecDepth 40000 in
theorem u393_26 (X : (Int → Int) × Int) (S : fx_S) (x1 : Int) (hS : fx_Sok S) (g1 : -2147483648 ≤ x1 ∧ x1 ≤ 2147483647) : fx_VC (fx_Mx X) 393 [x1] S (fx_p393.getD 26 ([], .inl (0, 0))) := fx_VCR_ok (show fx_VCR (fx_Mx X) 393 [x1] S _ from q393_26 S x1 hS g1)
set_option maxRecDepth 40000 in
theorem u393_27 (X : (Int → Int) × Int) (S : fx_S) (x1 : Int) (hS : fx_Sok S) (g1 : -2147483648 ≤ x1 ∧ x1 ≤ 2147483647) : fx_VC (fx_Mx X) 393 [x1] S (fx_p393.getD 27 ([], .inl (0, 0))) := fx_VCR_ok (show fx_VCR (fx_Mx X) 393 [x1] S _ from q393_27 S x1 hS g1)
