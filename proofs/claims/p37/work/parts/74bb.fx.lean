/-! FX: the paths of the entries, all -/
set_option maxRecDepth 40000 in
theorem u393_28 (X : (Int → Int) × Int) (S : fx_S) (x1 : Int) (hS : fx_Sok S) (g1 : -2147483648 ≤ x1 ∧ x1 ≤ 2147483647) : fx_VC (fx_Mx X) 393 [x1] S (fx_p393.getD 28 ([], .inl (0, 0))) := fx_VCR_ok (show fx_VCR (fx_Mx X) 393 [x1] S _ from q393_28 S x1 hS g1)
set_option maxRecDepth 40000 in
theorem u393_29 (X : (Int → Int) × Int) (S : fx_S) (x1 : Int) (hS : fx_Sok S) (g1 : -2147483648 ≤ x1 ∧ x1 ≤ 2147483647) : fx_VC (fx_Mx X) 393 [x1] S (fx_p393.getD 29 ([], .inl (0, 0))) := fx_VCR_ok (show fx_VCR (fx_Mx X) 393 [x1] S _ from q393_29 S x1 hS g1)
set_option maxRecDepth 40000 in
theorem u393_30 (X : (Int → Int) × Int) (S : fx_S) (x1 : Int) (hS : fx_Sok S) (g1 : -2147483648 ≤ x1 ∧ x1 ≤ 2147483647) : fx_VC (fx_Mx X) 393 [x1] S (fx_p393.getD 30 ([], .inl (0, 0))) := fx_VCR_ok (show fx_VCR (fx_Mx X) 393 [x1] S _ from q393_30 S x1 hS g1)
set_option maxRecDepth 40000 in
theorem u393_31 (X : (Int → Int) × Int) (S : fx_S) (x1 : Int) (hS : fx_Sok S) (g1 : -2147483648 ≤ x1 ∧ x1 ≤ 2147483647) : fx_VC (fx_Mx X) 393 [x1] S (fx_p393.getD 31 ([], .inl (0, 0))) := fx_VCR_ok (show fx_VCR (fx_Mx X) 393 [x1] S _ from q393_31 S x1 hS g1)
set_option maxRecDepth 40000 in
theorem u393_32 (X : (Int → Int) × Int) (S : fx_S) (x1 : Int) (hS : fx_Sok S) (g1 : -2147483648 ≤ x1 ∧ x1 ≤ 2147483647) : fx_VC (fx_Mx X) 393 [x1] S (fx_p393.getD 32 ([], .inl (0, 0))) := fx_VCR_ok (show fx_VCR (fx_Mx X) 393 [x1] S _ from q393_32 S x1 hS g1)
set_option maxRecDepth 40000 in
theorem u393_33 (X : (Int → Int) × Int) (S : fx_S) (x1 : Int) (hS : fx_Sok S) (g1 : -2147483648 ≤ x1 ∧ x1 ≤ 2147483647) : fx_VC (fx_Mx X) 393 [x1] S (fx_p393.getD 33 ([], .inl (0, 0))) := fx_VCR_ok (show fx_VCR (fx_Mx X) 393 [x1] S _ from q393_33 S x1 hS g1)
set_option maxRecDepth 40000 in
theorem u393_34 (X : (Int → Int) × Int) (S : fx_S) (x1 : Int) (hS : fx_Sok S) (g1 : -2147483648 ≤ x1 ∧ x1 ≤ 2147483647) : fx_VC (fx_Mx X) 393 [x1] S (fx_p393.getD 34 ([], .inl (0, 0))) := fx_VCR_ok (show fx_VCR (fx_Mx X) 393 [x1] S _ from q393_34 S x1 hS g1)
set_option maxRecDepth 40000 in
theorem u393_35 (X : (Int → Int) × Int) (S : fx_S) (x1 : Int) (hS : fx_Sok S) (g1 : -2147483648 ≤ x1 ∧ x1 ≤ 2147483647) : fx_VC (fx_Mx X) 393 [x1] S (fx_p393.getD 35 ([], .inl (0, 0))) := fx_VCR_ok (show fx_VCR (fx_Mx X) 393 [x1] S _ from q393_35 S x1 hS g1)
set_option maxRecDepth 40000 in
theorem u393_36 (X : (Int → Int) × Int) (S : fx_S) (x1 : Int) (hS : fx_Sok S) (g1 : -2147483648 ≤ x1 ∧ x1 ≤ 2147483647) : fx_VC (fx_Mx X) 393 [x1] S (fx_p393.getD 36 ([], .inl (0, 0))) := fx_VCR_ok (show fx_VCR (fx_Mx X) 393 [x1] S _ from q393_36 S x1 hS g1)
set_option maxRecDepth 40000 in
theorem u393_37 (X : (Int → Int) × Int) (S : fx_S) (x1 : Int) (hS : fx_Sok S) (g1 : -2147483648 ≤ x1 ∧ x1 ≤ 2147483647) : fx_VC (fx_Mx X) 393 [x1] S (fx_p393.getD 37 ([], .inl (0, 0))) := fx_VCR_ok (show fx_VCR (fx_Mx X) 393 [x1] S _ from q393_37 S x1 hS g1)
set_option maxRecDepth 40000 in
theorem u393_38 (X : (Int → Int) × Int) (S : fx_S) (x1 : Int) (hS : fx_Sok S) (g1 : -2147483648 ≤ x1 ∧ x1 ≤ 2147483647) : fx_VC (fx_Mx X) 393 [x1] S (fx_p393.getD 38 ([], .inl (0, 0))) := fx_VCR_ok (show fx_VCR (fx_Mx X) 393 [x1] S _ from q393_38 S x1 hS g1)
set_option maxRecDepth 40000 in
theorem u393_39 (X : (Int → Int) × Int) (S : fx_S) (x1 : Int) (hS : fx_Sok S) (g1 : -2147483648 ≤ x1 ∧ x1 ≤ 2147483647) : fx_VC (fx_Mx X) 393 [x1] S (fx_p393.getD 39 ([], .inl (0, 0))) := fx_VCR_ok (show fx_VCR (fx_Mx X) 393 [x1] S _ from q393_39 S x1 hS g1)
set_option maxRecDepth 40000 in
theorem u393_40 (X : (Int → Int) × Int) (S : fx_S) (x1 : Int) (hS : fx_Sok S) (g1 : -2147483648 ≤ x1 ∧ x1 ≤ 2147483647) : fx_VC (fx_Mx X) 393 [x1] S (fx_p393.getD 40 ([], .inl (0, 0))) := fx_VCR_ok (show fx_VCR (fx_Mx X) 393 [x1] S _ from q393_40 S x1 hS g1)
set_option maxRecDepth 40000 in
theorem u393_41 (X : (Int → Int) × Int) (S : fx_S) (x1 : Int) (hS : fx_Sok S) (g1 : -2147483648 ≤ x1 ∧ x1 ≤ 2147483647) : fx_VC (fx_Mx X) 393 [x1] S (fx_p393.getD 41 ([], .inl (0, 0))) := fx_VCR_ok (show fx_VCR (fx_Mx X) 393 [x1] S _ from q393_41 S x1 hS g1)
set_option maxRecDepth 40000 in
theorem u393_42 (X : (Int → Int) × Int) (S : fx_S) (x1 : Int) (hS : fx_Sok S) (g1 : -2147483648 ≤ x1 ∧ x1 ≤ 2147483647) : fx_VC (fx_Mx X) 393 [x1] S (fx_p393.getD 42 ([], .inl (0, 0))) := fx_VCR_ok (show fx_VCR (fx_Mx X) 393 [x1] S _ from q393_42 S x1 hS g1)
set_option maxRecDepth 40000 in
theorem u393_43 (X : (Int → Int) × Int) (S : fx_S) (x1 : Int) (hS : fx_Sok S) (g1 : -2147483648 ≤ x1 ∧ x1 ≤ 2147483647) : fx_VC (fx_Mx X) 393 [x1] S (fx_p393.getD 43 ([], .inl (0, 0))) := fx_VCR_ok (show fx_VCR (fx_Mx X) 393 [x1] S _ from q393_43 S x1 hS g1)
set_option maxRecDepth 40000 in
theorem u393_44 (X : (Int → Int) × Int) (S : fx_S) (x1 : Int) (hS : fx_Sok S) (g1 : -2147483648 ≤ x1 ∧ x1 ≤ 2147483647) : fx_VC (fx_Mx X) 393 [x1] S (fx_p393.getD 44 ([], .inl (0, 0))) := fx_VCR_ok (show fx_VCR (fx_Mx X) 393 [x1] S _ from q393_44 S x1 hS g1)
set_option maxRecDepth 40000 in
theorem u393_45 (X : (Int → Int) × Int) (S : fx_S) (x1 : Int) (hS : fx_Sok S) (g1 : -2147483648 ≤ x1 ∧ x1 ≤ 2147483647) : fx_VC (fx_Mx X) 393 [x1] S (fx_p393.getD 45 ([], .inl (0, 0))) := fx_VCR_ok (show fx_VCR (fx_Mx X) 393 [x1] S _ from q393_45 S x1 hS g1)
set_option maxRecDepth 40000 in
theorem u393_46 (X : (Int → Int) × Int) (S : fx_S) (x1 : Int) (hS : fx_Sok S) (g1 : -2147483648 ≤ x1 ∧ x1 ≤ 2147483647) : fx_VC (fx_Mx X) 393 [x1] S (fx_p393.getD 46 ([], .inl (0, 0))) := fx_VCR_ok (show fx_VCR (fx_Mx X) 393 [x1] S _ from q393_46 S x1 hS g1)
