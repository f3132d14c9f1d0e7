/-! FX: the paths of the entries, all -/
set_option maxRecDepth 40000 in
theorem u222_1 (X : (Int → Int) × Int) (S : fx_S) (hS : fx_Sok S) : fx_VC (fx_Mx X) 222 [] S (fx_p222.getD 1 ([], .inl (0, 0))) := fx_VCR_ok (show fx_VCR (fx_Mx X) 222 [] S _ from q222_1 S hS)
set_option maxRecDepth 40000 in
theorem w222 (X : (Int → Int) × Int) (zs : List Int) (S : fx_S) (hS : fx_Sok S) (hz : zs.length = (fx_lv0 fx_t222.2.2.1 0).2) (rz : fx_rz fx_t222 zs S) : ∀ p ∈ fx_p222, fx_VC (fx_Mx X) 222 zs S p := by
  obtain rfl := List.eq_nil_of_length_eq_zero hz
  exact List.forall_mem_cons.mpr ⟨(u222_0 X S hS), List.forall_mem_cons.mpr ⟨(u222_1 X S hS), fun _ h => absurd h List.not_mem_nil⟩⟩
set_option maxRecDepth 40000 in
theorem u223_0 (X : (Int → Int) × Int) (S : fx_S) (x3 x4 : Int) (hS : fx_Sok S) (g3 : -2147483648 ≤ x3 ∧ x3 ≤ 2147483647) (g4 : -2147483648 ≤ x4 ∧ x4 ≤ 2147483647) : fx_VC (fx_Mx X) 223 [x3, x4] S (fx_p223.getD 0 ([], .inl (0, 0))) := fx_VCR_ok (show fx_VCR (fx_Mx X) 223 [x3, x4] S _ from q223_0 S x3 x4 hS g3 g4)
set_option maxRecDepth 40000 in
theorem u223_1 (X : (Int → Int) × Int) (S : fx_S) (x3 x4 : Int) (hS : fx_Sok S) (g3 : -2147483648 ≤ x3 ∧ x3 ≤ 2147483647) (g4 : -2147483648 ≤ x4 ∧ x4 ≤ 2147483647) : fx_VC (fx_Mx X) 223 [x3, x4] S (fx_p223.getD 1 ([], .inl (0, 0))) := fx_VCR_ok (show fx_VCR (fx_Mx X) 223 [x3, x4] S _ from q223_1 S x3 x4 hS g3 g4)
set_option maxRecDepth 40000 in
theorem w223 (X : (Int → Int) × Int) (zs : List Int) (S : fx_S) (hS : fx_Sok S) (hz : zs.length = (fx_lv0 fx_t223.2.2.1 0).2) (rz : fx_rz fx_t223 zs S) : ∀ p ∈ fx_p223, fx_VC (fx_Mx X) 223 zs S p := by
  obtain ⟨x3, x4, rfl⟩ := fx_len2 hz
  have g3 : -2147483648 ≤ x3 ∧ x3 ≤ 2147483647 := rz 3 _ rfl
  have g4 : -2147483648 ≤ x4 ∧ x4 ≤ 2147483647 := rz 4 _ rfl
  exact List.forall_mem_cons.mpr ⟨(u223_0 X S x3 x4 hS g3 g4), List.forall_mem_cons.mpr ⟨(u223_1 X S x3 x4 hS g3 g4), fun _ h => absurd h List.not_mem_nil⟩⟩
set_option maxRecDepth 40000 in
theorem u224_0 (X : (Int → Int) × Int) (S : fx_S) (hS : fx_Sok S) : fx_VC (fx_Mx X) 224 [] S (fx_p224.getD 0 ([], .inl (0, 0))) := fx_VCR_ok (show fx_VCR (fx_Mx X) 224 [] S _ from q224_0 S hS)
set_option maxRecDepth 40000 in
theorem u224_1 (X : (Int → Int) × Int) (S : fx_S) (hS : fx_Sok S) : fx_VC (fx_Mx X) 224 [] S (fx_p224.getD 1 ([], .inl (0, 0))) := fx_VCR_ok (show fx_VCR (fx_Mx X) 224 [] S _ from q224_1 S hS)
set_option maxRecDepth 40000 in
theorem u224_2 (X : (Int → Int) × Int) (S : fx_S) (hS : fx_Sok S) : fx_VC (fx_Mx X) 224 [] S (fx_p224.getD 2 ([], .inl (0, 0))) := fx_VCR_ok (show fx_VCR (fx_Mx X) 224 [] S _ from q224_2 S hS)
set_option maxRecDepth 40000 in
theorem u224_3 (X : (Int → Int) × Int) (S : fx_S) (hS : fx_Sok S) : fx_VC (fx_Mx X) 224 [] S (fx_p224.getD 3 ([], .inl (0, 0))) := fx_VCR_ok (show fx_VCR (fx_Mx X) 224 [] S _ from q224_3 S hS)
set_option maxRecDepth 40000 in
theorem u224_4 (X : (Int → Int) × Int) (S : fx_S) (hS : fx_Sok S) : fx_VC (fx_Mx X) 224 [] S (fx_p224.getD 4 ([], .inl (0, 0))) := fx_VCR_ok (show fx_VCR (fx_Mx X) 224 [] S _ from q224_4 S hS)
set_option maxRecDepth 40000 in
theorem u224_5 (X : (Int → Int) × Int) (S : fx_S) (hS : fx_Sok S) : fx_VC (fx_Mx X) 224 [] S (fx_p224.getD 5 ([], .inl (0, 0))) := fx_VCR_ok (show fx_VCR (fx_Mx X) 224 [] S _ from q224_5 S hS)
set_option maxRecDepth 40000 in
theorem w224 (X : (Int → Int) × Int) (zs : List Int) (S : fx_S) (hS : fx_Sok S) (hz : zs.length = (fx_lv0 fx_t224.2.2.1 0).2) (rz : fx_rz fx_t224 zs S) : ∀ p ∈ fx_p224, fx_VC (fx_Mx X) 224 zs S p := by
  obtain rfl := List.eq_nil_of_length_eq_zero hz
  exact List.forall_mem_cons.mpr ⟨(u224_0 X S hS), List.forall_mem_cons.mpr ⟨(u224_1 X S hS), List.forall_mem_cons.mpr ⟨(u224_2 X S hS), List.forall_mem_cons.mpr ⟨(u224_3 X S hS), List.forall_mem_cons.mpr ⟨(u224_4 X S hS), List.forall_mem_cons.mpr ⟨(u224_5 X S hS), fun _ h => absurd h List.not_mem_nil⟩⟩⟩⟩⟩⟩
set_option maxRecDepth 40000 in
theorem u225_0 (X : (Int → Int) × Int) (S : fx_S) (x1 : Int) (hS : fx_Sok S) (g1 : -2147483648 ≤ x1 ∧ x1 ≤ 2147483647) : fx_VC (fx_Mx X) 225 [x1] S (fx_p225.getD 0 ([], .inl (0, 0))) := fx_VCR_ok (show fx_VCR (fx_Mx X) 225 [x1] S _ from q225_0 S x1 hS g1)
set_option maxRecDepth 40000 in
theorem w225 (X : (Int → Int) × Int) (zs : List Int) (S : fx_S) (hS : fx_Sok S) (hz : zs.length = (fx_lv0 fx_t225.2.2.1 0).2) (rz : fx_rz fx_t225 zs S) : ∀ p ∈ fx_p225, fx_VC (fx_Mx X) 225 zs S p := by
  obtain ⟨x1, rfl⟩ := fx_len1 hz
  have g1 : -2147483648 ≤ x1 ∧ x1 ≤ 2147483647 := rz 1 _ rfl
  exact List.forall_mem_cons.mpr ⟨(u225_0 X S x1 hS g1), fun _ h => absurd h List.not_mem_nil⟩
set_option maxRecDepth 40000 in
theorem u226_0 (X : (Int → Int) × Int) (S : fx_S) (x1 : Int) (hS : fx_Sok S) (g1 : -2147483648 ≤ x1 ∧ x1 ≤ 2147483647) : fx_VC (fx_Mx X) 226 [x1] S (fx_p226.getD 0 ([], .inl (0, 0))) := fx_VCR_ok (show fx_VCR (fx_Mx X) 226 [x1] S _ from q226_0 S x1 hS g1)
set_option maxRecDepth 40000 in
theorem u226_1 (X : (Int → Int) × Int) (S : fx_S) (x1 : Int) (hS : fx_Sok S) (g1 : -2147483648 ≤ x1 ∧ x1 ≤ 2147483647) : fx_VC (fx_Mx X) 226 [x1] S (fx_p226.getD 1 ([], .inl (0, 0))) := fx_VCR_ok (show fx_VCR (fx_Mx X) 226 [x1] S _ from q226_1 S x1 hS g1)
set_option maxRecDepth 40000 in
theorem w226 (X : (Int → Int) × Int) (zs : List Int) (S : fx_S) (hS : fx_Sok S) (hz : zs.length = (fx_lv0 fx_t226.2.2.1 0).2) (rz : fx_rz fx_t226 zs S) : ∀ p ∈ fx_p226, fx_VC (fx_Mx X) 226 zs S p := by
  obtain ⟨x1, rfl⟩ := fx_len1 hz
  have g1 : -2147483648 ≤ x1 ∧ x1 ≤ 2147483647 := rz 1 _ rfl
  exact List.forall_mem_cons.mpr ⟨(u226_0 X S x1 hS g1), List.forall_mem_cons.mpr ⟨(u226_1 X S x1 hS g1), fun _ h => absurd h List.not_mem_nil⟩⟩
set_option maxRecDepth 40000 in
theorem u227_0 (X : (Int → Int) × Int) (S : fx_S) (x1 x2 x3 : Int) (hS : fx_Sok S) (g1 : -2147483648 ≤ x1 ∧ x1 ≤ 2147483647) (g2 : -2147483648 ≤ x2 ∧ x2 ≤ 2147483647) (g3 : -2147483648 ≤ x3 ∧ x3 ≤ 2147483647) : fx_VC (fx_Mx X) 227 [x1, x2, x3] S (fx_p227.getD 0 ([], .inl (0, 0))) := fx_VCR_ok (show fx_VCR (fx_Mx X) 227 [x1, x2, x3] S _ from q227_0 S x1 x2 x3 hS g1 g2 g3)
set_option maxRecDepth 40000 in
theorem u227_1 (X : (Int → Int) × Int) (S : fx_S) (x1 x2 x3 : Int) (hS : fx_Sok S) (g1 : -2147483648 ≤ x1 ∧ x1 ≤ 2147483647) (g2 : -2147483648 ≤ x2 ∧ x2 ≤ 2147483647) (g3 : -2147483648 ≤ x3 ∧ x3 ≤ 2147483647) : fx_VC (fx_Mx X) 227 [x1, x2, x3] S (fx_p227.getD 1 ([], .inl (0, 0))) := fx_VCR_ok (show fx_VCR (fx_Mx X) 227 [x1, x2, x3] S _ from fun c1 c2 c3 v3 e3 b3 c4 v4 e4 z Z kz bz pz => q227_1 S x1 x2 x3 hS g1 g2 g3 c1 c2 c3 v3 e3 b3 c4 v4 (e4.trans (fx_bq0 _ _)) z Z kz bz pz)
set_option maxRecDepth 40000 in
theorem u227_2 (X : (Int → Int) × Int) (S : fx_S) (x1 x2 x3 : Int) (hS : fx_Sok S) (g1 : -2147483648 ≤ x1 ∧ x1 ≤ 2147483647) (g2 : -2147483648 ≤ x2 ∧ x2 ≤ 2147483647) (g3 : -2147483648 ≤ x3 ∧ x3 ≤ 2147483647) : fx_VC (fx_Mx X) 227 [x1, x2, x3] S (fx_p227.getD 2 ([], .inl (0, 0))) := fx_VCR_ok (show fx_VCR (fx_Mx X) 227 [x1, x2, x3] S _ from fun c1 c2 c3 v3 e3 b3 c4 c5 c6 v4 e4 b4 c7 v5 e5 z Z kz bz pz => q227_2 S x1 x2 x3 hS g1 g2 g3 c1 c2 c3 v3 e3 b3 c4 c5 c6 v4 e4 b4 c7 v5 (e5.trans (fx_bq0 _ _)) z Z kz bz pz)
set_option maxRecDepth 40000 in
theorem u227_3 (X : (Int → Int) × Int) (S : fx_S) (x1 x2 x3 : Int) (hS : fx_Sok S) (g1 : -2147483648 ≤ x1 ∧ x1 ≤ 2147483647) (g2 : -2147483648 ≤ x2 ∧ x2 ≤ 2147483647) (g3 : -2147483648 ≤ x3 ∧ x3 ≤ 2147483647) : fx_VC (fx_Mx X) 227 [x1, x2, x3] S (fx_p227.getD 3 ([], .inl (0, 0))) := fx_VCR_ok (show fx_VCR (fx_Mx X) 227 [x1, x2, x3] S _ from fun c1 c2 c3 v3 e3 b3 c4 c5 c6 v4 e4 b4 c7 c8 c9 v5 e5 b5 c10 v6 e6 z Z kz bz pz => q227_3 S x1 x2 x3 hS g1 g2 g3 c1 c2 c3 v3 e3 b3 c4 c5 c6 v4 e4 b4 c7 c8 c9 v5 e5 b5 c10 v6 (e6.trans (fx_bq0 _ _)) z Z kz bz pz)
set_option maxRecDepth 40000 in
theorem u227_4 (X : (Int → Int) × Int) (S : fx_S) (x1 x2 x3 : Int) (hS : fx_Sok S) (g1 : -2147483648 ≤ x1 ∧ x1 ≤ 2147483647) (g2 : -2147483648 ≤ x2 ∧ x2 ≤ 2147483647) (g3 : -2147483648 ≤ x3 ∧ x3 ≤ 2147483647) : fx_VC (fx_Mx X) 227 [x1, x2, x3] S (fx_p227.getD 4 ([], .inl (0, 0))) := fx_VCR_ok (show fx_VCR (fx_Mx X) 227 [x1, x2, x3] S _ from q227_4 S x1 x2 x3 hS g1 g2 g3)
set_option maxRecDepth 40000 in
theorem w227 (X : (Int → Int) × Int) (zs : List Int) (S : fx_S) (hS : fx_Sok S) (hz : zs.length = (fx_lv0 fx_t227.2.2.1 0).2) (rz : fx_rz fx_t227 zs S) : ∀ p ∈ fx_p227, fx_VC (fx_Mx X) 227 zs S p := by
  obtain ⟨x1, x2, x3, rfl⟩ := fx_len3 hz
  have g1 : -2147483648 ≤ x1 ∧ x1 ≤ 2147483647 := rz 1 _ rfl
  have g2 : -2147483648 ≤ x2 ∧ x2 ≤ 2147483647 := rz 2 _ rfl
  have g3 : -2147483648 ≤ x3 ∧ x3 ≤ 2147483647 := rz 3 _ rfl
  exact List.forall_mem_cons.mpr ⟨(u227_0 X S x1 x2 x3 hS g1 g2 g3), List.forall_mem_cons.mpr ⟨(u227_1 X S x1 x2 x3 hS g1 g2 g3), List.forall_mem_cons.mpr ⟨(u227_2 X S x1 x2 x3 hS g1 g2 g3), List.forall_mem_cons.mpr ⟨(u227_3 X S x1 x2 x3 hS g1 g2 g3), List.forall_mem_cons.mpr ⟨(u227_4 X S x1 x2 x3 hS g1 g2 g3), fun _ h => absurd h List.not_mem_nil⟩⟩⟩⟩⟩
set_option maxRecDepth 40000 in
theorem u228_0 (X : (Int → Int) × Int) (S : fx_S) (x1 x2 x3 x4 : Int) (hS : fx_Sok S) (g1 : -2147483648 ≤ x1 ∧ x1 ≤ 2147483647) (g2 : -2147483648 ≤ x2 ∧ x2 ≤ 2147483647) (g3 : -2147483648 ≤ x3 ∧ x3 ≤ 2147483647) (g4 : -2147483648 ≤ x4 ∧ x4 ≤ 2147483647) : fx_VC (fx_Mx X) 228 [x1, x2, x3, x4] S (fx_p228.getD 0 ([], .inl (0, 0))) := fx_VCR_ok (show fx_VCR (fx_Mx X) 228 [x1, x2, x3, x4] S _ from q228_0 S x1 x2 x3 x4 hS g1 g2 g3 g4)
set_option maxRecDepth 40000 in
theorem u228_1 (X : (Int → Int) × Int) (S : fx_S) (x1 x2 x3 x4 : Int) (hS : fx_Sok S) (g1 : -2147483648 ≤ x1 ∧ x1 ≤ 2147483647) (g2 : -2147483648 ≤ x2 ∧ x2 ≤ 2147483647) (g3 : -2147483648 ≤ x3 ∧ x3 ≤ 2147483647) (g4 : -2147483648 ≤ x4 ∧ x4 ≤ 2147483647) : fx_VC (fx_Mx X) 228 [x1, x2, x3, x4] S (fx_p228.getD 1 ([], .inl (0, 0))) := fx_VCR_ok (show fx_VCR (fx_Mx X) 228 [x1, x2, x3, x4] S _ from q228_1 S x1 x2 x3 x4 hS g1 g2 g3 g4)
set_option maxRecDepth 40000 in
theorem u228_2 (X : (Int → Int) × Int) (S : fx_S) (x1 x2 x3 x4 : Int) (hS : fx_Sok S) (g1 : -2147483648 ≤ x1 ∧ x1 ≤ 2147483647) (g2 : -2147483648 ≤ x2 ∧ x2 ≤ 2147483647) (g3 : -2147483648 ≤ x3 ∧ x3 ≤ 2147483647) (g4 : -2147483648 ≤ x4 ∧ x4 ≤ 2147483647) : fx_VC (fx_Mx X) 228 [x1, x2, x3, x4] S (fx_p228.getD 2 ([], .inl (0, 0))) := fx_VCR_ok (show fx_VCR (fx_Mx X) 228 [x1, x2, x3, x4] S _ from q228_2 S x1 x2 x3 x4 hS g1 g2 g3 g4)
set_option maxRecDepth 40000 in
theorem u228_3 (X : (Int → Int) × Int) (S : fx_S) (x1 x2 x3 x4 : Int) (hS : fx_Sok S) (g1 : -2147483648 ≤ x1 ∧ x1 ≤ 2147483647) (g2 : -2147483648 ≤ x2 ∧ x2 ≤ 2147483647) (g3 : -2147483648 ≤ x3 ∧ x3 ≤ 2147483647) (g4 : -2147483648 ≤ x4 ∧ x4 ≤ 2147483647) : fx_VC (fx_Mx X) 228 [x1, x2, x3, x4] S (fx_p228.getD 3 ([], .inl (0, 0))) := fx_VCR_ok (show fx_VCR (fx_Mx X) 228 [x1, x2, x3, x4] S _ from q228_3 S x1 x2 x3 x4 hS g1 g2 g3 g4)
set_option maxRecDepth 40000 in
theorem u228_4 (X : (Int → Int) × Int) (S : fx_S) (x1 x2 x3 x4 : Int) (hS : fx_Sok S) (g1 : -2147483648 ≤ x1 ∧ x1 ≤ 2147483647) (g2 : -2147483648 ≤ x2 ∧ x2 ≤ 2147483647) (g3 : -2147483648 ≤ x3 ∧ x3 ≤ 2147483647) (g4 : -2147483648 ≤ x4 ∧ x4 ≤ 2147483647) : fx_VC (fx_Mx X) 228 [x1, x2, x3, x4] S (fx_p228.getD 4 ([], .inl (0, 0))) := fx_VCR_ok (show fx_VCR (fx_Mx X) 228 [x1, x2, x3, x4] S _ from q228_4 S x1 x2 x3 x4 hS g1 g2 g3 g4)
set_option maxRecDepth 40000 in
theorem w228 (X : (Int → Int) × Int) (zs : List Int) (S : fx_S) (hS : fx_Sok S) (hz : zs.length = (fx_lv0 fx_t228.2.2.1 0).2) (rz : fx_rz fx_t228 zs S) : ∀ p ∈ fx_p228, fx_VC (fx_Mx X) 228 zs S p := by
  obtain ⟨x1, x2, x3, x4, rfl⟩ := fx_len4 hz
  have g1 : -2147483648 ≤ x1 ∧ x1 ≤ 2147483647 := rz 1 _ rfl
  have g2 : -2147483648 ≤ x2 ∧ x2 ≤ 2147483647 := rz 2 _ rfl
  have g3 : -2147483648 ≤ x3 ∧ x3 ≤ 2147483647 := rz 3 _ rfl
  have g4 : -2147483648 ≤ x4 ∧ x4 ≤ 2147483647 := rz 4 _ rfl
  exact List.forall_mem_cons.mpr ⟨(u228_0 X S x1 x2 x3 x4 hS g1 g2 g3 g4), List.forall_mem_cons.mpr ⟨(u228_1 X S x1 x2 x3 x4 hS g1 g2 g3 g4), List.forall_mem_cons.mpr ⟨(u228_2 X S x1 x2 x3 x4 hS g1 g2 g3 g4), List.forall_mem_cons.mpr ⟨(u228_3 X S x1 x2 x3 x4 hS g1 g2 g3 g4), List.forall_mem_cons.mpr ⟨(u228_4 X S x1 x2 x3 x4 hS g1 g2 g3 g4), fun _ h => absurd h List.not_mem_nil⟩⟩⟩⟩⟩
set_option maxRecDepth 40000 in
theorem u229_0 (X : (Int → Int) × Int) (S : fx_S) (x0 x1 x2 x3 : Int) (hS : fx_Sok S) (g0 : -1 ≤ x0 ∧ x0 < S.2.2) (g1 : -2147483648 ≤ x1 ∧ x1 ≤ 2147483647) (g2 : -2147483648 ≤ x2 ∧ x2 ≤ 2147483647) (g3 : -2147483648 ≤ x3 ∧ x3 ≤ 2147483647) : fx_VC (fx_Mx X) 229 [x0, x1, x2, x3] S (fx_p229.getD 0 ([], .inl (0, 0))) := fx_VCR_ok (show fx_VCR (fx_Mx X) 229 [x0, x1, x2, x3] S _ from q229_0 S x0 x1 x2 x3 hS g0 g1 g2 g3)
set_option maxRecDepth 40000 in
theorem w229 (X : (Int → Int) × Int) (zs : List Int) (S : fx_S) (hS : fx_Sok S) (hz : zs.length = (fx_lv0 fx_t229.2.2.1 0).2) (rz : fx_rz fx_t229 zs S) : ∀ p ∈ fx_p229, fx_VC (fx_Mx X) 229 zs S p := by
  obtain ⟨x0, x1, x2, x3, rfl⟩ := fx_len4 hz
  have g0 : -1 ≤ x0 ∧ x0 < S.2.2 := rz 0 _ rfl
  have g1 : -2147483648 ≤ x1 ∧ x1 ≤ 2147483647 := rz 1 _ rfl
  have g2 : -2147483648 ≤ x2 ∧ x2 ≤ 2147483647 := rz 2 _ rfl
  have g3 : -2147483648 ≤ x3 ∧ x3 ≤ 2147483647 := rz 3 _ rfl
  exact List.forall_mem_cons.mpr ⟨(u229_0 X S x0 x1 x2 x3 hS g0 g1 g2 g3), fun _ h => absurd h List.not_mem_nil⟩
set_option maxRecDepth 40000 in
theorem u230_0 (X : (Int → Int) × Int) (S : fx_S) (x1 x2 x3 x4 : Int) (hS : fx_Sok S) (g1 : -2147483648 ≤ x1 ∧ x1 ≤ 2147483647) (g2 : -2147483648 ≤ x2 ∧ x2 ≤ 2147483647) (g3 : -2147483648 ≤ x3 ∧ x3 ≤ 2147483647) (g4 : -2147483648 ≤ x4 ∧ x4 ≤ 2147483647) : fx_VC (fx_Mx X) 230 [x1, x2, x3, x4] S (fx_p230.getD 0 ([], .inl (0, 0))) := fx_VCR_ok (show fx_VCR (fx_Mx X) 230 [x1, x2, x3, x4] S _ from q230_0 S x1 x2 x3 x4 hS g1 g2 g3 g4)
set_option maxRecDepth 40000 in
theorem u230_1 (X : (Int → Int) × Int) (S : fx_S) (x1 x2 x3 x4 : Int) (hS : fx_Sok S) (g1 : -2147483648 ≤ x1 ∧ x1 ≤ 2147483647) (g2 : -2147483648 ≤ x2 ∧ x2 ≤ 2147483647) (g3 : -2147483648 ≤ x3 ∧ x3 ≤ 2147483647) (g4 : -2147483648 ≤ x4 ∧ x4 ≤ 2147483647) : fx_VC (fx_Mx X) 230 [x1, x2, x3, x4] S (fx_p230.getD 1 ([], .inl (0, 0))) := fx_VCR_ok (show fx_VCR (fx_Mx X) 230 [x1, x2, x3, x4] S _ from q230_1 S x1 x2 x3 x4 hS g1 g2 g3 g4)
set_option maxRecDepth 40000 in
theorem u230_2 (X : (Int → Int) × Int) (S : fx_S) (x1 x2 x3 x4 : Int) (hS : fx_Sok S) (g1 : -2147483648 ≤ x1 ∧ x1 ≤ 2147483647) (g2 : -2147483648 ≤ x2 ∧ x2 ≤ 2147483647) (g3 : -2147483648 ≤ x3 ∧ x3 ≤ 2147483647) (g4 : -2147483648 ≤ x4 ∧ x4 ≤ 2147483647) : fx_VC (fx_Mx X) 230 [x1, x2, x3, x4] S (fx_p230.getD 2 ([], .inl (0, 0))) := fx_VCR_ok (show fx_VCR (fx_Mx X) 230 [x1, x2, x3, x4] S _ from q230_2 S x1 x2 x3 x4 hS g1 g2 g3 g4)
set_option maxRecDepth 40000 in
theorem u230_3 (X : (Int → Int) × Int) (S : fx_S) (x1 x2 x3 x4 : Int) (hS : fx_Sok S) (g1 : -2147483648 ≤ x1 ∧ x1 ≤ 2147483647) (g2 : -2147483648 ≤ x2 ∧ x2 ≤ 2147483647) (g3 : -2147483648 ≤ x3 ∧ x3 ≤ 2147483647) (g4 : -2147483648 ≤ x4 ∧ x4 ≤ 2147483647) : fx_VC (fx_Mx X) 230 [x1, x2, x3, x4] S (fx_p230.getD 3 ([], .inl (0, 0))) := fx_VCR_ok (show fx_VCR (fx_Mx X) 230 [x1, x2, x3, x4] S _ from q230_3 S x1 x2 x3 x4 hS g1 g2 g3 g4)
set_option maxRecDepth 40000 in
theorem w230 (X : (Int → Int) × Int) (zs : List Int) (S : fx_S) (hS : fx_Sok S) (hz : zs.length = (fx_lv0 fx_t230.2.2.1 0).2) (rz : fx_rz fx_t230 zs S) : ∀ p ∈ fx_p230, fx_VC (fx_Mx X) 230 zs S p := by
  obtain ⟨x1, x2, x3, x4, rfl⟩ := fx_len4 hz
  have g1 : -2147483648 ≤ x1 ∧ x1 ≤ 2147483647 := rz 1 _ rfl
  have g2 : -2147483648 ≤ x2 ∧ x2 ≤ 2147483647 := rz 2 _ rfl
  have g3 : -2147483648 ≤ x3 ∧ x3 ≤ 2147483647 := rz 3 _ rfl
  have g4 : -2147483648 ≤ x4 ∧ x4 ≤ 2147483647 := rz 4 _ rfl
  exact List.forall_mem_cons.mpr ⟨(u230_0 X S x1 x2 x3 x4 hS g1 g2 g3 g4), List.forall_mem_cons.mpr ⟨(u230_1 X S x1 x2 x3 x4 hS g1 g2 g3 g4), List.forall_mem_cons.mpr ⟨(u230_2 X S x1 x2 x3 x4 hS g1 g2 g3 g4), List.forall_mem_cons.mpr ⟨(u230_3 X S x1 x2 x3 x4 hS g1 g2 g3 g4), fun _ h => absurd h List.not_mem_nil⟩⟩⟩⟩
set_option maxRecDepth 40000 in
theorem u231_0 (X : (Int → Int) × Int) (S : fx_S) (x1 x2 x3 x4 x5 : Int) (hS : fx_Sok S) (g1 : -2147483648 ≤ x1 ∧ x1 ≤ 2147483647) (g2 : -2147483648 ≤ x2 ∧ x2 ≤ 2147483647) (g3 : -2147483648 ≤ x3 ∧ x3 ≤ 2147483647) (g4 : -2147483648 ≤ x4 ∧ x4 ≤ 2147483647) (g5 : -2147483648 ≤ x5 ∧ x5 ≤ 2147483647) : fx_VC (fx_Mx X) 231 [x1, x2, x3, x4, x5] S (fx_p231.getD 0 ([], .inl (0, 0))) := fx_VCR_ok (show fx_VCR (fx_Mx X) 231 [x1, x2, x3, x4, x5] S _ from q231_0 S x1 x2 x3 x4 x5 hS g1 g2 g3 g4 g5)
set_option maxRecDepth 40000 in
theorem u231_1 (X : (Int → Int) × Int) (S : fx_S) (x1 x2 x3 x4 x5 : Int) (hS : fx_Sok S) (g1 : -2147483648 ≤ x1 ∧ x1 ≤ 2147483647) (g2 : -2147483648 ≤ x2 ∧ x2 ≤ 2147483647) (g3 : -2147483648 ≤ x3 ∧ x3 ≤ 2147483647) (g4 : -2147483648 ≤ x4 ∧ x4 ≤ 2147483647) (g5 : -2147483648 ≤ x5 ∧ x5 ≤ 2147483647) : fx_VC (fx_Mx X) 231 [x1, x2, x3, x4, x5] S (fx_p231.getD 1 ([], .inl (0, 0))) := fx_VCR_ok (show fx_VCR (fx_Mx X) 231 [x1, x2, x3, x4, x5] S _ from q231_1 S x1 x2 x3 x4 x5 hS g1 g2 g3 g4 g5)
set_option maxRecDepth 40000 in
theorem u231_2 (X : (Int → Int) × Int) (S : fx_S) (x1 x2 x3 x4 x5 : Int) (hS : fx_Sok S) (g1 : -2147483648 ≤ x1 ∧ x1 ≤ 2147483647) (g2 : -2147483648 ≤ x2 ∧ x2 ≤ 2147483647) (g3 : -2147483648 ≤ x3 ∧ x3 ≤ 2147483647) (g4 : -2147483648 ≤ x4 ∧ x4 ≤ 2147483647) (g5 : -2147483648 ≤ x5 ∧ x5 ≤ 2147483647) : fx_VC (fx_Mx X) 231 [x1, x2, x3, x4, x5] S (fx_p231.getD 2 ([], .inl (0, 0))) := fx_VCR_ok (show fx_VCR (fx_Mx X) 231 [x1, x2, x3, x4, x5] S _ from q231_2 S x1 x2 x3 x4 x5 hS g1 g2 g3 g4 g5)
set_option maxRecDepth 40000 in
theorem u231_3 (X : (Int → Int) × Int) (S : fx_S) (x1 x2 x3 x4 x5 : Int) (hS : fx_Sok S) (g1 : -2147483648 ≤ x1 ∧ x1 ≤ 2147483647) (g2 : -2147483648 ≤ x2 ∧ x2 ≤ 2147483647) (g3 : -2147483648 ≤ x3 ∧ x3 ≤ 2147483647) (g4 : -2147483648 ≤ x4 ∧ x4 ≤ 2147483647) (g5 : -2147483648 ≤ x5 ∧ x5 ≤ 2147483647) : fx_VC (fx_Mx X) 231 [x1, x2, x3, x4, x5] S (fx_p231.getD 3 ([], .inl (0, 0))) := fx_VCR_ok (show fx_VCR (fx_Mx X) 231 [x1, x2, x3, x4, x5] S _ from q231_3 S x1 x2 x3 x4 x5 hS g1 g2 g3 g4 g5)
set_option maxRecDepth 40000 in
theorem w231 (X : (Int → Int) × Int) (zs : List Int) (S : fx_S) (hS : fx_Sok S) (hz : zs.length = (fx_lv0 fx_t231.2.2.1 0).2) (rz : fx_rz fx_t231 zs S) : ∀ p ∈ fx_p231, fx_VC (fx_Mx X) 231 zs S p := by
  obtain ⟨x1, x2, x3, x4, x5, rfl⟩ := fx_len5 hz
  have g1 : -2147483648 ≤ x1 ∧ x1 ≤ 2147483647 := rz 1 _ rfl
  have g2 : -2147483648 ≤ x2 ∧ x2 ≤ 2147483647 := rz 2 _ rfl
  have g3 : -2147483648 ≤ x3 ∧ x3 ≤ 2147483647 := rz 3 _ rfl
  have g4 : -2147483648 ≤ x4 ∧ x4 ≤ 2147483647 := rz 4 _ rfl
  have g5 : -2147483648 ≤ x5 ∧ x5 ≤ 2147483647 := rz 5 _ rfl
  exact List.forall_mem_cons.mpr ⟨(u231_0 X S x1 x2 x3 x4 x5 hS g1 g2 g3 g4 g5), List.forall_mem_cons.mpr ⟨(u231_1 X S x1 x2 x3 x4 x5 hS g1 g2 g3 g4 g5), List.forall_mem_cons.mpr ⟨(u231_2 X S x1 x2 x3 x4 x5 hS g1 g2 g3 g4 g5), List.forall_mem_cons.mpr ⟨(u231_3 X S x1 x2 x3 x4 x5 hS g1 g2 g3 g4 g5), fun _ h => absurd h List.not_mem_nil⟩⟩⟩⟩
set_option maxRecDepth 40000 in
theorem u232_0 (X : (Int → Int) × Int) (S : fx_S) (x1 x2 x3 : Int) (hS : fx_Sok S) (g1 : -2147483648 ≤ x1 ∧ x1 ≤ 2147483647) (g2 : -2147483648 ≤ x2 ∧ x2 ≤ 2147483647) (g3 : -2147483648 ≤ x3 ∧ x3 ≤ 2147483647) : fx_VC (fx_Mx X) 232 [x1, x2, x3] S (fx_p232.getD 0 ([], .inl (0, 0))) := fx_VCR_ok (show fx_VCR (fx_Mx X) 232 [x1, x2, x3] S _ from q232_0 S x1 x2 x3 hS g1 g2 g3)
set_option maxRecDepth 40000 in
theorem u232_1 (X : (Int → Int) × Int) (S : fx_S) (x1 x2 x3 : Int) (hS : fx_Sok S) (g1 : -2147483648 ≤ x1 ∧ x1 ≤ 2147483647) (g2 : -2147483648 ≤ x2 ∧ x2 ≤ 2147483647) (g3 : -2147483648 ≤ x3 ∧ x3 ≤ 2147483647) : fx_VC (fx_Mx X) 232 [x1, x2, x3] S (fx_p232.getD 1 ([], .inl (0, 0))) := fx_VCR_ok (show fx_VCR (fx_Mx X) 232 [x1, x2, x3] S _ from fun c1 c2 c3 v3 e3 b3 c4 v4 e4 z Z kz bz pz => q232_1 S x1 x2 x3 hS g1 g2 g3 c1 c2 c3 v3 e3 b3 c4 v4 (e4.trans (fx_bq0 _ _)) z Z kz bz pz)
set_option maxRecDepth 40000 in
theorem u232_2 (X : (Int → Int) × Int) (S : fx_S) (x1 x2 x3 : Int) (hS : fx_Sok S) (g1 : -2147483648 ≤ x1 ∧ x1 ≤ 2147483647) (g2 : -2147483648 ≤ x2 ∧ x2 ≤ 2147483647) (g3 : -2147483648 ≤ x3 ∧ x3 ≤ 2147483647) : fx_VC (fx_Mx X) 232 [x1, x2, x3] S (fx_p232.getD 2 ([], .inl (0, 0))) := fx_VCR_ok (show fx_VCR (fx_Mx X) 232 [x1, x2, x3] S _ from fun c1 c2 c3 v3 e3 b3 c4 c5 c6 v4 e4 b4 c7 v5 e5 z Z kz bz pz => q232_2 S x1 x2 x3 hS g1 g2 g3 c1 c2 c3 v3 e3 b3 c4 c5 c6 v4 e4 b4 c7 v5 (e5.trans (fx_bq0 _ _)) z Z kz bz pz)
set_option maxRecDepth 40000 in
theorem u232_3 (X : (Int → Int) × Int) (S : fx_S) (x1 x2 x3 : Int) (hS : fx_Sok S) (g1 : -2147483648 ≤ x1 ∧ x1 ≤ 2147483647) (g2 : -2147483648 ≤ x2 ∧ x2 ≤ 2147483647) (g3 : -2147483648 ≤ x3 ∧ x3 ≤ 2147483647) : fx_VC (fx_Mx X) 232 [x1, x2, x3] S (fx_p232.getD 3 ([], .inl (0, 0))) := fx_VCR_ok (show fx_VCR (fx_Mx X) 232 [x1, x2, x3] S _ from q232_3 S x1 x2 x3 hS g1 g2 g3)
set_option maxRecDepth 40000 in
theorem w232 (X : (Int → Int) × Int) (zs : List Int) (S : fx_S) (hS : fx_Sok S) (hz : zs.length = (fx_lv0 fx_t232.2.2.1 0).2) (rz : fx_rz fx_t232 zs S) : ∀ p ∈ fx_p232, fx_VC (fx_Mx X) 232 zs S p := by
  obtain ⟨x1, x2, x3, rfl⟩ := fx_len3 hz
  have g1 : -2147483648 ≤ x1 ∧ x1 ≤ 2147483647 := rz 1 _ rfl
  have g2 : -2147483648 ≤ x2 ∧ x2 ≤ 2147483647 := rz 2 _ rfl
  have g3 : -2147483648 ≤ x3 ∧ x3 ≤ 2147483647 := rz 3 _ rfl
  exact List.forall_mem_cons.mpr ⟨(u232_0 X S x1 x2 x3 hS g1 g2 g3), List.forall_mem_cons.mpr ⟨(u232_1 X S x1 x2 x3 hS g1 g2 g3), List.forall_mem_cons.mpr ⟨(u232_2 X S x1 x2 x3 hS g1 g2 g3), List.forall_mem_cons.mpr ⟨(u232_3 X S x1 x2 x3 hS g1 g2 g3), fun _ h => absurd h List.not_mem_nil⟩⟩⟩⟩
set_option maxRecDepth 40000 in
theorem u233_0 (X : (Int → Int) × Int) (S : fx_S) (x0 x1 x2 x3 : Int) (hS : fx_Sok S) (g0 : -1 ≤ x0 ∧ x0 < S.2.2) (g1 : -2147483648 ≤ x1 ∧ x1 ≤ 2147483647) (g2 : -2147483648 ≤ x2 ∧ x2 ≤ 2147483647) (g3 : -2147483648 ≤ x3 ∧ x3 ≤ 2147483647) : fx_VC (fx_Mx X) 233 [x0, x1, x2, x3] S (fx_p233.getD 0 ([], .inl (0, 0))) := fx_VCR_ok (show fx_VCR (fx_Mx X) 233 [x0, x1, x2, x3] S _ from q233_0 S x0 x1 x2 x3 hS g0 g1 g2 g3)
set_option maxRecDepth 40000 in
theorem w233 (X : (Int → Int) × Int) (zs : List Int) (S : fx_S) (hS : fx_Sok S) (hz : zs.length = (fx_lv0 fx_t233.2.2.1 0).2) (rz : fx_rz fx_t233 zs S) : ∀ p ∈ fx_p233, fx_VC (fx_Mx X) 233 zs S p := by
  obtain ⟨x0, x1, x2, x3, rfl⟩ := fx_len4 hz
  have g0 : -1 ≤ x0 ∧ x0 < S.2.2 := rz 0 _ rfl
  have g1 : -2147483648 ≤ x1 ∧ x1 ≤ 2147483647 := rz 1 _ rfl
  have g2 : -2147483648 ≤ x2 ∧ x2 ≤ 2147483647 := rz 2 _ rfl
  have g3 : -2147483648 ≤ x3 ∧ x3 ≤ 2147483647 := rz 3 _ rfl
  exact List.forall_mem_cons.mpr ⟨(u233_0 X S x0 x1 x2 x3 hS g0 g1 g2 g3), fun _ h => absurd h List.not_mem_nil⟩
set_option maxRecDepth 40000 in
theorem u234_0 (X : (Int → Int) × Int) (S : fx_S) (x1 x2 : Int) (hS : fx_Sok S) (g1 : -2147483648 ≤ x1 ∧ x1 ≤ 2147483647) (g2 : -2147483648 ≤ x2 ∧ x2 ≤ 2147483647) : fx_VC (fx_Mx X) 234 [x1, x2] S (fx_p234.getD 0 ([], .inl (0, 0))) := fx_VCR_ok (show fx_VCR (fx_Mx X) 234 [x1, x2] S _ from q234_0 S x1 x2 hS g1 g2)
set_option maxRecDepth 40000 in
theorem u234_1 (X : (Int → Int) × Int) (S : fx_S) (x1 x2 : Int) (hS : fx_Sok S) (g1 : -2147483648 ≤ x1 ∧ x1 ≤ 2147483647) (g2 : -2147483648 ≤ x2 ∧ x2 ≤ 2147483647) : fx_VC (fx_Mx X) 234 [x1, x2] S (fx_p234.getD 1 ([], .inl (0, 0))) := fx_VCR_ok (show fx_VCR (fx_Mx X) 234 [x1, x2] S _ from q234_1 S x1 x2 hS g1 g2)
set_option maxRecDepth 40000 in
theorem u234_2 (X : (Int → Int) × Int) (S : fx_S) (x1 x2 : Int) (hS : fx_Sok S) (g1 : -2147483648 ≤ x1 ∧ x1 ≤ 2147483647) (g2 : -2147483648 ≤ x2 ∧ x2 ≤ 2147483647) : fx_VC (fx_Mx X) 234 [x1, x2] S (fx_p234.getD 2 ([], .inl (0, 0))) := fx_VCR_ok (show fx_VCR (fx_Mx X) 234 [x1, x2] S _ from q234_2 S x1 x2 hS g1 g2)
set_option maxRecDepth 40000 in
theorem w234 (X : (Int → Int) × Int) (zs : List Int) (S : fx_S) (hS : fx_Sok S) (hz : zs.length = (fx_lv0 fx_t234.2.2.1 0).2) (rz : fx_rz fx_t234 zs S) : ∀ p ∈ fx_p234, fx_VC (fx_Mx X) 234 zs S p := by
  obtain ⟨x1, x2, rfl⟩ := fx_len2 hz
  have g1 : -2147483648 ≤ x1 ∧ x1 ≤ 2147483647 := rz 1 _ rfl
  have g2 : -2147483648 ≤ x2 ∧ x2 ≤ 2147483647 := rz 2 _ rfl
  exact List.forall_mem_cons.mpr ⟨(u234_0 X S x1 x2 hS g1 g2), List.forall_mem_cons.mpr ⟨(u234_1 X S x1 x2 hS g1 g2), List.forall_mem_cons.mpr ⟨(u234_2 X S x1 x2 hS g1 g2), fun _ h => absurd h List.not_mem_nil⟩⟩⟩
set_option maxRecDepth 40000 in
theorem u235_0 (X : (Int → Int) × Int) (S : fx_S) (x1 x2 x3 : Int) (hS : fx_Sok S) (g1 : -2147483648 ≤ x1 ∧ x1 ≤ 2147483647) (g2 : -2147483648 ≤ x2 ∧ x2 ≤ 2147483647) (g3 : -2147483648 ≤ x3 ∧ x3 ≤ 2147483647) : fx_VC (fx_Mx X) 235 [x1, x2, x3] S (fx_p235.getD 0 ([], .inl (0, 0))) := fx_VCR_ok (show fx_VCR (fx_Mx X) 235 [x1, x2, x3] S _ from q235_0 S x1 x2 x3 hS g1 g2 g3)
set_option maxRecDepth 40000 in
theorem w235 (X : (Int → Int) × Int) (zs : List Int) (S : fx_S) (hS : fx_Sok S) (hz : zs.length = (fx_lv0 fx_t235.2.2.1 0).2) (rz : fx_rz fx_t235 zs S) : ∀ p ∈ fx_p235, fx_VC (fx_Mx X) 235 zs S p := by
  obtain ⟨x1, x2, x3, rfl⟩ := fx_len3 hz
  have g1 : -2147483648 ≤ x1 ∧ x1 ≤ 2147483647 := rz 1 _ rfl
  have g2 : -2147483648 ≤ x2 ∧ x2 ≤ 2147483647 := rz 2 _ rfl
  have g3 : -2147483648 ≤ x3 ∧ x3 ≤ 2147483647 := rz 3 _ rfl
  exact List.forall_mem_cons.mpr ⟨(u235_0 X S x1 x2 x3 hS g1 g2 g3), fun _ h => absurd h List.not_mem_nil⟩
set_option maxRecDepth 40000 in
theorem u236_0 (X : (Int → Int) × Int) (S : fx_S) (x1 x2 x3 x4 x5 : Int) (hS : fx_Sok S) (g1 : -2147483648 ≤ x1 ∧ x1 ≤ 2147483647) (g2 : -2147483648 ≤ x2 ∧ x2 ≤ 2147483647) (g3 : -2147483648 ≤ x3 ∧ x3 ≤ 2147483647) (g4 : -2147483648 ≤ x4 ∧ x4 ≤ 2147483647) (g5 : -2147483648 ≤ x5 ∧ x5 ≤ 2147483647) : fx_VC (fx_Mx X) 236 [x1, x2, x3, x4, x5] S (fx_p236.getD 0 ([], .inl (0, 0))) := fx_VCR_ok (show fx_VCR (fx_Mx X) 236 [x1, x2, x3, x4, x5] S _ from q236_0 S x1 x2 x3 x4 x5 hS g1 g2 g3 g4 g5)
set_option maxRecDepth 40000 in
theorem u236_1 (X : (Int → Int) × Int) (S : fx_S) (x1 x2 x3 x4 x5 : Int) (hS : fx_Sok S) (g1 : -2147483648 ≤ x1 ∧ x1 ≤ 2147483647) (g2 : -2147483648 ≤ x2 ∧ x2 ≤ 2147483647) (g3 : -2147483648 ≤ x3 ∧ x3 ≤ 2147483647) (g4 : -2147483648 ≤ x4 ∧ x4 ≤ 2147483647) (g5 : -2147483648 ≤ x5 ∧ x5 ≤ 2147483647) : fx_VC (fx_Mx X) 236 [x1, x2, x3, x4, x5] S (fx_p236.getD 1 ([], .inl (0, 0))) := fx_VCR_ok (show fx_VCR (fx_Mx X) 236 [x1, x2, x3, x4, x5] S _ from q236_1 S x1 x2 x3 x4 x5 hS g1 g2 g3 g4 g5)
set_option maxRecDepth 40000 in
theorem u236_2 (X : (Int → Int) × Int) (S : fx_S) (x1 x2 x3 x4 x5 : Int) (hS : fx_Sok S) (g1 : -2147483648 ≤ x1 ∧ x1 ≤ 2147483647) (g2 : -2147483648 ≤ x2 ∧ x2 ≤ 2147483647) (g3 : -2147483648 ≤ x3 ∧ x3 ≤ 2147483647) (g4 : -2147483648 ≤ x4 ∧ x4 ≤ 2147483647) (g5 : -2147483648 ≤ x5 ∧ x5 ≤ 2147483647) : fx_VC (fx_Mx X) 236 [x1, x2, x3, x4, x5] S (fx_p236.getD 2 ([], .inl (0, 0))) := fx_VCR_ok (show fx_VCR (fx_Mx X) 236 [x1, x2, x3, x4, x5] S _ from q236_2 S x1 x2 x3 x4 x5 hS g1 g2 g3 g4 g5)
set_option maxRecDepth 40000 in
theorem u236_3 (X : (Int → Int) × Int) (S : fx_S) (x1 x2 x3 x4 x5 : Int) (hS : fx_Sok S) (g1 : -2147483648 ≤ x1 ∧ x1 ≤ 2147483647) (g2 : -2147483648 ≤ x2 ∧ x2 ≤ 2147483647) (g3 : -2147483648 ≤ x3 ∧ x3 ≤ 2147483647) (g4 : -2147483648 ≤ x4 ∧ x4 ≤ 2147483647) (g5 : -2147483648 ≤ x5 ∧ x5 ≤ 2147483647) : fx_VC (fx_Mx X) 236 [x1, x2, x3, x4, x5] S (fx_p236.getD 3 ([], .inl (0, 0))) := fx_VCR_ok (show fx_VCR (fx_Mx X) 236 [x1, x2, x3, x4, x5] S _ from q236_3 S x1 x2 x3 x4 x5 hS g1 g2 g3 g4 g5)
set_option maxRecDepth 40000 in
theorem u236_4 (X : (Int → Int) × Int) (S : fx_S) (x1 x2 x3 x4 x5 : Int) (hS : fx_Sok S) (g1 : -2147483648 ≤ x1 ∧ x1 ≤ 2147483647) (g2 : -2147483648 ≤ x2 ∧ x2 ≤ 2147483647) (g3 : -2147483648 ≤ x3 ∧ x3 ≤ 2147483647) (g4 : -2147483648 ≤ x4 ∧ x4 ≤ 2147483647) (g5 : -2147483648 ≤ x5 ∧ x5 ≤ 2147483647) : fx_VC (fx_Mx X) 236 [x1, x2, x3, x4, x5] S (fx_p236.getD 4 ([], .inl (0, 0))) := fx_VCR_ok (show fx_VCR (fx_Mx X) 236 [x1, x2, x3, x4, x5] S _ from q236_4 S x1 x2 x3 x4 x5 hS g1 g2 g3 g4 g5)
set_option maxRecDepth 40000 in
theorem u236_5 (X : (Int → Int) × Int) (S : fx_S) (x1 x2 x3 x4 x5 : Int) (hS : fx_Sok S) (g1 : -2147483648 ≤ x1 ∧ x1 ≤ 2147483647) (g2 : -2147483648 ≤ x2 ∧ x2 ≤ 2147483647) (g3 : -2147483648 ≤ x3 ∧ x3 ≤ 2147483647) (g4 : -2147483648 ≤ x4 ∧ x4 ≤ 2147483647) (g5 : -2147483648 ≤ x5 ∧ x5 ≤ 2147483647) : fx_VC (fx_Mx X) 236 [x1, x2, x3, x4, x5] S (fx_p236.getD 5 ([], .inl (0, 0))) := fx_VCR_ok (show fx_VCR (fx_Mx X) 236 [x1, x2, x3, x4, x5] S _ from q236_5 S x1 x2 x3 x4 x5 hS g1 g2 g3 g4 g5)
set_option maxRecDepth 40000 in
theorem w236 (X : (Int → Int) × Int) (zs : List Int) (S : fx_S) (hS : fx_Sok S) (hz : zs.length = (fx_lv0 fx_t236.2.2.1 0).2) (rz : fx_rz fx_t236 zs S) : ∀ p ∈ fx_p236, fx_VC (fx_Mx X) 236 zs S p := by
  obtain ⟨x1, x2, x3, x4, x5, rfl⟩ := fx_len5 hz
  have g1 : -2147483648 ≤ x1 ∧ x1 ≤ 2147483647 := rz 1 _ rfl
  have g2 : -2147483648 ≤ x2 ∧ x2 ≤ 2147483647 := rz 2 _ rfl
  have g3 : -2147483648 ≤ x3 ∧ x3 ≤ 2147483647 := rz 3 _ rfl
  have g4 : -2147483648 ≤ x4 ∧ x4 ≤ 2147483647 := rz 4 _ rfl
  have g5 : -2147483648 ≤ x5 ∧ x5 ≤ 2147483647 := rz 5 _ rfl
  exact List.forall_mem_cons.mpr ⟨(u236_0 X S x1 x2 x3 x4 x5 hS g1 g2 g3 g4 g5), List.forall_mem_cons.mpr ⟨(u236_1 X S x1 x2 x3 x4 x5 hS g1 g2 g3 g4 g5), List.forall_mem_cons.mpr ⟨(u236_2 X S x1 x2 x3 x4 x5 hS g1 g2 g3 g4 g5), List.forall_mem_cons.mpr ⟨(u236_3 X S x1 x2 x3 x4 x5 hS g1 g2 g3 g4 g5), List.forall_mem_cons.mpr ⟨(u236_4 X S x1 x2 x3 x4 x5 hS g1 g2 g3 g4 g5), List.forall_mem_cons.mpr ⟨(u236_5 X S x1 x2 x3 x4 x5 hS g1 g2 g3 g4 g5), fun _ h => absurd h List.not_mem_nil⟩⟩⟩⟩⟩⟩
set_option maxRecDepth 40000 in
theorem u237_0 (X : (Int → Int) × Int) (S : fx_S) (x1 x2 x3 x4 x5 : Int) (hS : fx_Sok S) (g1 : -2147483648 ≤ x1 ∧ x1 ≤ 2147483647) (g2 : -2147483648 ≤ x2 ∧ x2 ≤ 2147483647) (g3 : -2147483648 ≤ x3 ∧ x3 ≤ 2147483647) (g4 : -2147483648 ≤ x4 ∧ x4 ≤ 2147483647) (g5 : -2147483648 ≤ x5 ∧ x5 ≤ 2147483647) : fx_VC (fx_Mx X) 237 [x1, x2, x3, x4, x5] S (fx_p237.getD 0 ([], .inl (0, 0))) := fx_VCR_ok (show fx_VCR (fx_Mx X) 237 [x1, x2, x3, x4, x5] S _ from q237_0 S x1 x2 x3 x4 x5 hS g1 g2 g3 g4 g5)
set_option maxRecDepth 40000 in
theorem u237_1 (X : (Int → Int) × Int) (S : fx_S) (x1 x2 x3 x4 x5 : Int) (hS : fx_Sok S) (g1 : -2147483648 ≤ x1 ∧ x1 ≤ 2147483647) (g2 : -2147483648 ≤ x2 ∧ x2 ≤ 2147483647) (g3 : -2147483648 ≤ x3 ∧ x3 ≤ 2147483647) (g4 : -2147483648 ≤ x4 ∧ x4 ≤ 2147483647) (g5 : -2147483648 ≤ x5 ∧ x5 ≤ 2147483647) : fx_VC (fx_Mx X) 237 [x1, x2, x3, x4, x5] S (fx_p237.getD 1 ([], .inl (0, 0))) := fx_VCR_ok (show fx_VCR (fx_Mx X) 237 [x1, x2, x3, x4, x5] S _ from q237_1 S x1 x2 x3 x4 x5 hS g1 g2 g3 g4 g5)
set_option maxRecDepth 40000 in
theorem u237_2 (X : (Int → Int) × Int) (S : fx_S) (x1 x2 x3 x4 x5 : Int) (hS : fx_Sok S) (g1 : -2147483648 ≤ x1 ∧ x1 ≤ 2147483647) (g2 : -2147483648 ≤ x2 ∧ x2 ≤ 2147483647) (g3 : -2147483648 ≤ x3 ∧ x3 ≤ 2147483647) (g4 : -2147483648 ≤ x4 ∧ x4 ≤ 2147483647) (g5 : -2147483648 ≤ x5 ∧ x5 ≤ 2147483647) : fx_VC (fx_Mx X) 237 [x1, x2, x3, x4, x5] S (fx_p237.getD 2 ([], .inl (0, 0))) := fx_VCR_ok (show fx_VCR (fx_Mx X) 237 [x1, x2, x3, x4, x5] S _ from q237_2 S x1 x2 x3 x4 x5 hS g1 g2 g3 g4 g5)
set_option maxRecDepth 40000 in
theorem w237 (X : (Int → Int) × Int) (zs : List Int) (S : fx_S) (hS : fx_Sok S) (hz : zs.length = (fx_lv0 fx_t237.2.2.1 0).2) (rz : fx_rz fx_t237 zs S) : ∀ p ∈ fx_p237, fx_VC (fx_Mx X) 237 zs S p := by
  obtain ⟨x1, x2, x3, x4, x5, rfl⟩ := fx_len5 hz
  have g1 : -2147483648 ≤ x1 ∧ x1 ≤ 2147483647 := rz 1 _ rfl
  have g2 : -2147483648 ≤ x2 ∧ x2 ≤ 2147483647 := rz 2 _ rfl
  have g3 : -2147483648 ≤ x3 ∧ x3 ≤ 2147483647 := rz 3 _ rfl
  have g4 : -2147483648 ≤ x4 ∧ x4 ≤ 2147483647 := rz 4 _ rfl
  have g5 : -2147483648 ≤ x5 ∧ x5 ≤ 2147483647 := rz 5 _ rfl
  exact List.forall_mem_cons.mpr ⟨(u237_0 X S x1 x2 x3 x4 x5 hS g1 g2 g3 g4 g5), List.forall_mem_cons.mpr ⟨(u237_1 X S x1 x2 x3 x4 x5 hS g1 g2 g3 g4 g5), List.forall_mem_cons.mpr ⟨(u237_2 X S x1 x2 x3 x4 x5 hS g1 g2 g3 g4 g5), fun _ h => absurd h List.not_mem_nil⟩⟩⟩
set_option maxRecDepth 40000 in
theorem u238_0 (X : (Int → Int) × Int) (S : fx_S) (x1 x2 x3 x4 : Int) (hS : fx_Sok S) (g1 : -2147483648 ≤ x1 ∧ x1 ≤ 2147483647) (g2 : -2147483648 ≤ x2 ∧ x2 ≤ 2147483647) (g3 : -2147483648 ≤ x3 ∧ x3 ≤ 2147483647) (g4 : -2147483648 ≤ x4 ∧ x4 ≤ 2147483647) : fx_VC (fx_Mx X) 238 [x1, x2, x3, x4] S (fx_p238.getD 0 ([], .inl (0, 0))) := fx_VCR_ok (show fx_VCR (fx_Mx X) 238 [x1, x2, x3, x4] S _ from q238_0 S x1 x2 x3 x4 hS g1 g2 g3 g4)
set_option maxRecDepth 40000 in
theorem u238_1 (X : (Int → Int) × Int) (S : fx_S) (x1 x2 x3 x4 : Int) (hS : fx_Sok S) (g1 : -2147483648 ≤ x1 ∧ x1 ≤ 2147483647) (g2 : -2147483648 ≤ x2 ∧ x2 ≤ 2147483647) (g3 : -2147483648 ≤ x3 ∧ x3 ≤ 2147483647) (g4 : -2147483648 ≤ x4 ∧ x4 ≤ 2147483647) : fx_VC (fx_Mx X) 238 [x1, x2, x3, x4] S (fx_p238.getD 1 ([], .inl (0, 0))) := fx_VCR_ok (show fx_VCR (fx_Mx X) 238 [x1, x2, x3, x4] S _ from q238_1 S x1 x2 x3 x4 hS g1 g2 g3 g4)
set_option maxRecDepth 40000 in
theorem u238_2 (X : (Int → Int) × Int) (S : fx_S) (x1 x2 x3 x4 : Int) (hS : fx_Sok S) (g1 : -2147483648 ≤ x1 ∧ x1 ≤ 2147483647) (g2 : -2147483648 ≤ x2 ∧ x2 ≤ 2147483647) (g3 : -2147483648 ≤ x3 ∧ x3 ≤ 2147483647) (g4 : -2147483648 ≤ x4 ∧ x4 ≤ 2147483647) : fx_VC (fx_Mx X) 238 [x1, x2, x3, x4] S (fx_p238.getD 2 ([], .inl (0, 0))) := fx_VCR_ok (show fx_VCR (fx_Mx X) 238 [x1, x2, x3, x4] S _ from q238_2 S x1 x2 x3 x4 hS g1 g2 g3 g4)
set_option maxRecDepth 40000 in
theorem u238_3 (X : (Int → Int) × Int) (S : fx_S) (x1 x2 x3 x4 : Int) (hS : fx_Sok S) (g1 : -2147483648 ≤ x1 ∧ x1 ≤ 2147483647) (g2 : -2147483648 ≤ x2 ∧ x2 ≤ 2147483647) (g3 : -2147483648 ≤ x3 ∧ x3 ≤ 2147483647) (g4 : -2147483648 ≤ x4 ∧ x4 ≤ 2147483647) : fx_VC (fx_Mx X) 238 [x1, x2, x3, x4] S (fx_p238.getD 3 ([], .inl (0, 0))) := fx_VCR_ok (show fx_VCR (fx_Mx X) 238 [x1, x2, x3, x4] S _ from q238_3 S x1 x2 x3 x4 hS g1 g2 g3 g4)
set_option maxRecDepth 40000 in
theorem w238 (X : (Int → Int) × Int) (zs : List Int) (S : fx_S) (hS : fx_Sok S) (hz : zs.length = (fx_lv0 fx_t238.2.2.1 0).2) (rz : fx_rz fx_t238 zs S) : ∀ p ∈ fx_p238, fx_VC (fx_Mx X) 238 zs S p := by
  obtain ⟨x1, x2, x3, x4, rfl⟩ := fx_len4 hz
  have g1 : -2147483648 ≤ x1 ∧ x1 ≤ 2147483647 := rz 1 _ rfl
  have g2 : -2147483648 ≤ x2 ∧ x2 ≤ 2147483647 := rz 2 _ rfl
  have g3 : -2147483648 ≤ x3 ∧ x3 ≤ 2147483647 := rz 3 _ rfl
  have g4 : -2147483648 ≤ x4 ∧ x4 ≤ 2147483647 := rz 4 _ rfl
  exact List.forall_mem_cons.mpr ⟨(u238_0 X S x1 x2 x3 x4 hS g1 g2 g3 g4), List.forall_mem_cons.mpr ⟨(u238_1 X S x1 x2 x3 x4 hS g1 g2 g3 g4), List.forall_mem_cons.mpr ⟨(u238_2 X S x1 x2 x3 x4 hS g1 g2 g3 g4), List.forall_mem_cons.mpr ⟨(u238_3 X S x1 x2 x3 x4 hS g1 g2 g3 g4), fun _ h => absurd h List.not_mem_nil⟩⟩⟩⟩
set_option maxRecDepth 40000 in
theorem u239_0 (X : (Int → Int) × Int) (S : fx_S) (x1 : Int) (hS : fx_Sok S) (g1 : -2147483648 ≤ x1 ∧ x1 ≤ 2147483647) : fx_VC (fx_Mx X) 239 [x1] S (fx_p239.getD 0 ([], .inl (0, 0))) := fx_VCR_ok (show fx_VCR (fx_Mx X) 239 [x1] S _ from q239_0 S x1 hS g1)
set_option maxRecDepth 40000 in
theorem w239 (X : (Int → Int) × Int) (zs : List Int) (S : fx_S) (hS : fx_Sok S) (hz : zs.length = (fx_lv0 fx_t239.2.2.1 0).2) (rz : fx_rz fx_t239 zs S) : ∀ p ∈ fx_p239, fx_VC (fx_Mx X) 239 zs S p := by
  obtain ⟨x1, rfl⟩ := fx_len1 hz
  have g1 : -2147483648 ≤ x1 ∧ x1 ≤ 2147483647 := rz 1 _ rfl
  exact List.forall_mem_cons.mpr ⟨(u239_0 X S x1 hS g1), fun _ h => absurd h List.not_mem_nil⟩
set_option maxRecDepth 40000 in
theorem u240_0 (X : (Int → Int) × Int) (S : fx_S) (x1 x2 : Int) (hS : fx_Sok S) (g1 : -2147483648 ≤ x1 ∧ x1 ≤ 2147483647) (g2 : -2147483648 ≤ x2 ∧ x2 ≤ 2147483647) : fx_VC (fx_Mx X) 240 [x1, x2] S (fx_p240.getD 0 ([], .inl (0, 0))) := fx_VCR_ok (show fx_VCR (fx_Mx X) 240 [x1, x2] S _ from q240_0 S x1 x2 hS g1 g2)
set_option maxRecDepth 40000 in
theorem u240_1 (X : (Int → Int) × Int) (S : fx_S) (x1 x2 : Int) (hS : fx_Sok S) (g1 : -2147483648 ≤ x1 ∧ x1 ≤ 2147483647) (g2 : -2147483648 ≤ x2 ∧ x2 ≤ 2147483647) : fx_VC (fx_Mx X) 240 [x1, x2] S (fx_p240.getD 1 ([], .inl (0, 0))) := fx_VCR_ok (show fx_VCR (fx_Mx X) 240 [x1, x2] S _ from q240_1 S x1 x2 hS g1 g2)
set_option maxRecDepth 40000 in
theorem u240_2 (X : (Int → Int) × Int) (S : fx_S) (x1 x2 : Int) (hS : fx_Sok S) (g1 : -2147483648 ≤ x1 ∧ x1 ≤ 2147483647) (g2 : -2147483648 ≤ x2 ∧ x2 ≤ 2147483647) : fx_VC (fx_Mx X) 240 [x1, x2] S (fx_p240.getD 2 ([], .inl (0, 0))) := fx_VCR_ok (show fx_VCR (fx_Mx X) 240 [x1, x2] S _ from q240_2 S x1 x2 hS g1 g2)
set_option maxRecDepth 40000 in
theorem u240_3 (X : (Int → Int) × Int) (S : fx_S) (x1 x2 : Int) (hS : fx_Sok S) (g1 : -2147483648 ≤ x1 ∧ x1 ≤ 2147483647) (g2 : -2147483648 ≤ x2 ∧ x2 ≤ 2147483647) : fx_VC (fx_Mx X) 240 [x1, x2] S (fx_p240.getD 3 ([], .inl (0, 0))) := fx_VCR_ok (show fx_VCR (fx_Mx X) 240 [x1, x2] S _ from q240_3 S x1 x2 hS g1 g2)
set_option maxRecDepth 40000 in
theorem w240 (X : (Int → Int) × Int) (zs : List Int) (S : fx_S) (hS : fx_Sok S) (hz : zs.length = (fx_lv0 fx_t240.2.2.1 0).2) (rz : fx_rz fx_t240 zs S) : ∀ p ∈ fx_p240, fx_VC (fx_Mx X) 240 zs S p := by
  obtain ⟨x1, x2, rfl⟩ := fx_len2 hz
  have g1 : -2147483648 ≤ x1 ∧ x1 ≤ 2147483647 := rz 1 _ rfl
  have g2 : -2147483648 ≤ x2 ∧ x2 ≤ 2147483647 := rz 2 _ rfl
  exact List.forall_mem_cons.mpr ⟨(u240_0 X S x1 x2 hS g1 g2), List.forall_mem_cons.mpr ⟨(u240_1 X S x1 x2 hS g1 g2), List.forall_mem_cons.mpr ⟨(u240_2 X S x1 x2 hS g1 g2), List.forall_mem_cons.mpr ⟨(u240_3 X S x1 x2 hS g1 g2), fun _ h => absurd h List.not_mem_nil⟩⟩⟩⟩
set_option maxRecDepth 40000 in
theorem u241_0 (X : (Int → Int) × Int) (S : fx_S) (x1 x3 x4 x5 : Int) (hS : fx_Sok S) (g1 : -2147483648 ≤ x1 ∧ x1 ≤ 2147483647) (g3 : -2147483648 ≤ x3 ∧ x3 ≤ 2147483647) (g4 : -2147483648 ≤ x4 ∧ x4 ≤ 2147483647) (g5 : -2147483648 ≤ x5 ∧ x5 ≤ 2147483647) : fx_VC (fx_Mx X) 241 [x1, x3, x4, x5] S (fx_p241.getD 0 ([], .inl (0, 0))) := fx_VCR_ok (show fx_VCR (fx_Mx X) 241 [x1, x3, x4, x5] S _ from q241_0 S x1 x3 x4 x5 hS g1 g3 g4 g5)
set_option maxRecDepth 40000 in
theorem u241_1 (X : (Int → Int) × Int) (S : fx_S) (x1 x3 x4 x5 : Int) (hS : fx_Sok S) (g1 : -2147483648 ≤ x1 ∧ x1 ≤ 2147483647) (g3 : -2147483648 ≤ x3 ∧ x3 ≤ 2147483647) (g4 : -2147483648 ≤ x4 ∧ x4 ≤ 2147483647) (g5 : -2147483648 ≤ x5 ∧ x5 ≤ 2147483647) : fx_VC (fx_Mx X) 241 [x1, x3, x4, x5] S (fx_p241.getD 1 ([], .inl (0, 0))) := fx_VCR_ok (show fx_VCR (fx_Mx X) 241 [x1, x3, x4, x5] S _ from q241_1 S x1 x3 x4 x5 hS g1 g3 g4 g5)
set_option maxRecDepth 40000 in
theorem u241_2 (X : (Int → Int) × Int) (S : fx_S) (x1 x3 x4 x5 : Int) (hS : fx_Sok S) (g1 : -2147483648 ≤ x1 ∧ x1 ≤ 2147483647) (g3 : -2147483648 ≤ x3 ∧ x3 ≤ 2147483647) (g4 : -2147483648 ≤ x4 ∧ x4 ≤ 2147483647) (g5 : -2147483648 ≤ x5 ∧ x5 ≤ 2147483647) : fx_VC (fx_Mx X) 241 [x1, x3, x4, x5] S (fx_p241.getD 2 ([], .inl (0, 0))) := fx_VCR_ok (show fx_VCR (fx_Mx X) 241 [x1, x3, x4, x5] S _ from q241_2 S x1 x3 x4 x5 hS g1 g3 g4 g5)
