/-! FX: the paths of the entries, all -/
theorem fx_bq0 (x y : Int) : fx_b 0 x y = fx_add x y := rfl
theorem fx_bq1 (x y : Int) : fx_b 1 x y = fx_sub x y := rfl
theorem fx_bq2 (x y : Int) : fx_b 2 x y = fx_mul x y := rfl
theorem fx_bq3 (x y : Int) : fx_b 3 x y = fx_div x y := rfl
theorem fx_bq5 (x y : Int) : fx_b 5 x y = fx_and x y := rfl
theorem fx_bq19 (x y : Int) : fx_b 19 x y = fx_lcm x y := rfl
set_option maxRecDepth 40000 in
theorem u187_1 (X : (Int → Int) × Int) (S : fx_S) (x1 : Int) (hS : fx_Sok S) (g1 : -2147483648 ≤ x1 ∧ x1 ≤ 2147483647) : fx_VC (fx_Mx X) 187 [x1] S (fx_p187.getD 1 ([], .inl (0, 0))) := fx_VCR_ok (show fx_VCR (fx_Mx X) 187 [x1] S _ from q187_1 S x1 hS g1)
set_option maxRecDepth 40000 in
theorem w187 (X : (Int → Int) × Int) (zs : List Int) (S : fx_S) (hS : fx_Sok S) (hz : zs.length = (fx_lv0 fx_t187.2.2.1 0).2) (rz : fx_rz fx_t187 zs S) : ∀ p ∈ fx_p187, fx_VC (fx_Mx X) 187 zs S p := by
  obtain ⟨x1, rfl⟩ := fx_len1 hz
  have g1 : -2147483648 ≤ x1 ∧ x1 ≤ 2147483647 := rz 1 _ rfl
  exact List.forall_mem_cons.mpr ⟨(u187_0 X S x1 hS g1), List.forall_mem_cons.mpr ⟨(u187_1 X S x1 hS g1), fun _ h => absurd h List.not_mem_nil⟩⟩
set_option maxRecDepth 40000 in
theorem u188_0 (X : (Int → Int) × Int) (S : fx_S) (x0 x1 : Int) (hS : fx_Sok S) (g0 : -2147483648 ≤ x0 ∧ x0 ≤ 2147483647) (g1 : -2147483648 ≤ x1 ∧ x1 ≤ 2147483647) : fx_VC (fx_Mx X) 188 [x0, x1] S (fx_p188.getD 0 ([], .inl (0, 0))) := fx_VCR_ok (show fx_VCR (fx_Mx X) 188 [x0, x1] S _ from q188_0 S x0 x1 hS g0 g1)
set_option maxRecDepth 40000 in
theorem u188_1 (X : (Int → Int) × Int) (S : fx_S) (x0 x1 : Int) (hS : fx_Sok S) (g0 : -2147483648 ≤ x0 ∧ x0 ≤ 2147483647) (g1 : -2147483648 ≤ x1 ∧ x1 ≤ 2147483647) : fx_VC (fx_Mx X) 188 [x0, x1] S (fx_p188.getD 1 ([], .inl (0, 0))) := fx_VCR_ok (show fx_VCR (fx_Mx X) 188 [x0, x1] S _ from q188_1 S x0 x1 hS g0 g1)
set_option maxRecDepth 40000 in
theorem w188 (X : (Int → Int) × Int) (zs : List Int) (S : fx_S) (hS : fx_Sok S) (hz : zs.length = (fx_lv0 fx_t188.2.2.1 0).2) (rz : fx_rz fx_t188 zs S) : ∀ p ∈ fx_p188, fx_VC (fx_Mx X) 188 zs S p := by
  obtain ⟨x0, x1, rfl⟩ := fx_len2 hz
  have g0 : -2147483648 ≤ x0 ∧ x0 ≤ 2147483647 := rz 0 _ rfl
  have g1 : -2147483648 ≤ x1 ∧ x1 ≤ 2147483647 := rz 1 _ rfl
  exact List.forall_mem_cons.mpr ⟨(u188_0 X S x0 x1 hS g0 g1), List.forall_mem_cons.mpr ⟨(u188_1 X S x0 x1 hS g0 g1), fun _ h => absurd h List.not_mem_nil⟩⟩
set_option maxRecDepth 40000 in
theorem u189_0 (X : (Int → Int) × Int) (S : fx_S) (x1 x2 : Int) (hS : fx_Sok S) (g1 : -2147483648 ≤ x1 ∧ x1 ≤ 2147483647) (g2 : -2147483648 ≤ x2 ∧ x2 ≤ 2147483647) : fx_VC (fx_Mx X) 189 [x1, x2] S (fx_p189.getD 0 ([], .inl (0, 0))) := fx_VCR_ok (show fx_VCR (fx_Mx X) 189 [x1, x2] S _ from q189_0 S x1 x2 hS g1 g2)
set_option maxRecDepth 40000 in
theorem w189 (X : (Int → Int) × Int) (zs : List Int) (S : fx_S) (hS : fx_Sok S) (hz : zs.length = (fx_lv0 fx_t189.2.2.1 0).2) (rz : fx_rz fx_t189 zs S) : ∀ p ∈ fx_p189, fx_VC (fx_Mx X) 189 zs S p := by
  obtain ⟨x1, x2, rfl⟩ := fx_len2 hz
  have g1 : -2147483648 ≤ x1 ∧ x1 ≤ 2147483647 := rz 1 _ rfl
  have g2 : -2147483648 ≤ x2 ∧ x2 ≤ 2147483647 := rz 2 _ rfl
  exact List.forall_mem_cons.mpr ⟨(u189_0 X S x1 x2 hS g1 g2), fun _ h => absurd h List.not_mem_nil⟩
set_option maxRecDepth 40000 in
theorem u190_0 (X : (Int → Int) × Int) (S : fx_S) (x2 x3 x4 : Int) (hS : fx_Sok S) (g2 : -2147483648 ≤ x2 ∧ x2 ≤ 2147483647) (g3 : -2147483648 ≤ x3 ∧ x3 ≤ 2147483647) (g4 : -2147483648 ≤ x4 ∧ x4 ≤ 2147483647) : fx_VC (fx_Mx X) 190 [x2, x3, x4] S (fx_p190.getD 0 ([], .inl (0, 0))) := fx_VCR_ok (show fx_VCR (fx_Mx X) 190 [x2, x3, x4] S _ from q190_0 S x2 x3 x4 hS g2 g3 g4)
set_option maxRecDepth 40000 in
theorem u190_1 (X : (Int → Int) × Int) (S : fx_S) (x2 x3 x4 : Int) (hS : fx_Sok S) (g2 : -2147483648 ≤ x2 ∧ x2 ≤ 2147483647) (g3 : -2147483648 ≤ x3 ∧ x3 ≤ 2147483647) (g4 : -2147483648 ≤ x4 ∧ x4 ≤ 2147483647) : fx_VC (fx_Mx X) 190 [x2, x3, x4] S (fx_p190.getD 1 ([], .inl (0, 0))) := fx_VCR_ok (show fx_VCR (fx_Mx X) 190 [x2, x3, x4] S _ from q190_1 S x2 x3 x4 hS g2 g3 g4)
set_option maxRecDepth 40000 in
theorem u190_2 (X : (Int → Int) × Int) (S : fx_S) (x2 x3 x4 : Int) (hS : fx_Sok S) (g2 : -2147483648 ≤ x2 ∧ x2 ≤ 2147483647) (g3 : -2147483648 ≤ x3 ∧ x3 ≤ 2147483647) (g4 : -2147483648 ≤ x4 ∧ x4 ≤ 2147483647) : fx_VC (fx_Mx X) 190 [x2, x3, x4] S (fx_p190.getD 2 ([], .inl (0, 0))) := fx_VCR_ok (show fx_VCR (fx_Mx X) 190 [x2, x3, x4] S _ from q190_2 S x2 x3 x4 hS g2 g3 g4)
set_option maxRecDepth 40000 in
theorem u190_3 (X : (Int → Int) × Int) (S : fx_S) (x2 x3 x4 : Int) (hS : fx_Sok S) (g2 : -2147483648 ≤ x2 ∧ x2 ≤ 2147483647) (g3 : -2147483648 ≤ x3 ∧ x3 ≤ 2147483647) (g4 : -2147483648 ≤ x4 ∧ x4 ≤ 2147483647) : fx_VC (fx_Mx X) 190 [x2, x3, x4] S (fx_p190.getD 3 ([], .inl (0, 0))) := fx_VCR_ok (show fx_VCR (fx_Mx X) 190 [x2, x3, x4] S _ from q190_3 S x2 x3 x4 hS g2 g3 g4)
set_option maxRecDepth 40000 in
theorem w190 (X : (Int → Int) × Int) (zs : List Int) (S : fx_S) (hS : fx_Sok S) (hz : zs.length = (fx_lv0 fx_t190.2.2.1 0).2) (rz : fx_rz fx_t190 zs S) : ∀ p ∈ fx_p190, fx_VC (fx_Mx X) 190 zs S p := by
  obtain ⟨x2, x3, x4, rfl⟩ := fx_len3 hz
  have g2 : -2147483648 ≤ x2 ∧ x2 ≤ 2147483647 := rz 2 _ rfl
  have g3 : -2147483648 ≤ x3 ∧ x3 ≤ 2147483647 := rz 3 _ rfl
  have g4 : -2147483648 ≤ x4 ∧ x4 ≤ 2147483647 := rz 4 _ rfl
  exact List.forall_mem_cons.mpr ⟨(u190_0 X S x2 x3 x4 hS g2 g3 g4), List.forall_mem_cons.mpr ⟨(u190_1 X S x2 x3 x4 hS g2 g3 g4), List.forall_mem_cons.mpr ⟨(u190_2 X S x2 x3 x4 hS g2 g3 g4), List.forall_mem_cons.mpr ⟨(u190_3 X S x2 x3 x4 hS g2 g3 g4), fun _ h => absurd h List.not_mem_nil⟩⟩⟩⟩
set_option maxRecDepth 40000 in
theorem u191_0 (X : (Int → Int) × Int) (S : fx_S) (x1 : Int) (hS : fx_Sok S) (g1 : -2147483648 ≤ x1 ∧ x1 ≤ 2147483647) : fx_VC (fx_Mx X) 191 [x1] S (fx_p191.getD 0 ([], .inl (0, 0))) := fx_VCR_ok (show fx_VCR (fx_Mx X) 191 [x1] S _ from q191_0 S x1 hS g1)
set_option maxRecDepth 40000 in
theorem w191 (X : (Int → Int) × Int) (zs : List Int) (S : fx_S) (hS : fx_Sok S) (hz : zs.length = (fx_lv0 fx_t191.2.2.1 0).2) (rz : fx_rz fx_t191 zs S) : ∀ p ∈ fx_p191, fx_VC (fx_Mx X) 191 zs S p := by
  obtain ⟨x1, rfl⟩ := fx_len1 hz
  have g1 : -2147483648 ≤ x1 ∧ x1 ≤ 2147483647 := rz 1 _ rfl
  exact List.forall_mem_cons.mpr ⟨(u191_0 X S x1 hS g1), fun _ h => absurd h List.not_mem_nil⟩
set_option maxRecDepth 40000 in
theorem u192_0 (X : (Int → Int) × Int) (S : fx_S) (x1 x2 : Int) (hS : fx_Sok S) (g1 : -2147483648 ≤ x1 ∧ x1 ≤ 2147483647) (g2 : -2147483648 ≤ x2 ∧ x2 ≤ 2147483647) : fx_VC (fx_Mx X) 192 [x1, x2] S (fx_p192.getD 0 ([], .inl (0, 0))) := fx_VCR_ok (show fx_VCR (fx_Mx X) 192 [x1, x2] S _ from q192_0 S x1 x2 hS g1 g2)
set_option maxRecDepth 40000 in
theorem u192_1 (X : (Int → Int) × Int) (S : fx_S) (x1 x2 : Int) (hS : fx_Sok S) (g1 : -2147483648 ≤ x1 ∧ x1 ≤ 2147483647) (g2 : -2147483648 ≤ x2 ∧ x2 ≤ 2147483647) : fx_VC (fx_Mx X) 192 [x1, x2] S (fx_p192.getD 1 ([], .inl (0, 0))) := fx_VCR_ok (show fx_VCR (fx_Mx X) 192 [x1, x2] S _ from fun c1 v2 S1 k1 b2 p1 v3 e3 v4 e4 z Z kz bz pz => q192_1 S x1 x2 hS g1 g2 c1 v2 S1 k1 b2 p1 v3 e3 v4 (e4.trans (fx_bq0 _ _)) z Z kz bz pz)
set_option maxRecDepth 40000 in
theorem w192 (X : (Int → Int) × Int) (zs : List Int) (S : fx_S) (hS : fx_Sok S) (hz : zs.length = (fx_lv0 fx_t192.2.2.1 0).2) (rz : fx_rz fx_t192 zs S) : ∀ p ∈ fx_p192, fx_VC (fx_Mx X) 192 zs S p := by
  obtain ⟨x1, x2, rfl⟩ := fx_len2 hz
  have g1 : -2147483648 ≤ x1 ∧ x1 ≤ 2147483647 := rz 1 _ rfl
  have g2 : -2147483648 ≤ x2 ∧ x2 ≤ 2147483647 := rz 2 _ rfl
  exact List.forall_mem_cons.mpr ⟨(u192_0 X S x1 x2 hS g1 g2), List.forall_mem_cons.mpr ⟨(u192_1 X S x1 x2 hS g1 g2), fun _ h => absurd h List.not_mem_nil⟩⟩
set_option maxRecDepth 40000 in
theorem u193_0 (X : (Int → Int) × Int) (S : fx_S) (x1 x2 : Int) (hS : fx_Sok S) (g1 : -2147483648 ≤ x1 ∧ x1 ≤ 2147483647) (g2 : -2147483648 ≤ x2 ∧ x2 ≤ 2147483647) : fx_VC (fx_Mx X) 193 [x1, x2] S (fx_p193.getD 0 ([], .inl (0, 0))) := fx_VCR_ok (show fx_VCR (fx_Mx X) 193 [x1, x2] S _ from q193_0 S x1 x2 hS g1 g2)
set_option maxRecDepth 40000 in
theorem u193_1 (X : (Int → Int) × Int) (S : fx_S) (x1 x2 : Int) (hS : fx_Sok S) (g1 : -2147483648 ≤ x1 ∧ x1 ≤ 2147483647) (g2 : -2147483648 ≤ x2 ∧ x2 ≤ 2147483647) : fx_VC (fx_Mx X) 193 [x1, x2] S (fx_p193.getD 1 ([], .inl (0, 0))) := fx_VCR_ok (show fx_VCR (fx_Mx X) 193 [x1, x2] S _ from q193_1 S x1 x2 hS g1 g2)
set_option maxRecDepth 40000 in
theorem w193 (X : (Int → Int) × Int) (zs : List Int) (S : fx_S) (hS : fx_Sok S) (hz : zs.length = (fx_lv0 fx_t193.2.2.1 0).2) (rz : fx_rz fx_t193 zs S) : ∀ p ∈ fx_p193, fx_VC (fx_Mx X) 193 zs S p := by
  obtain ⟨x1, x2, rfl⟩ := fx_len2 hz
  have g1 : -2147483648 ≤ x1 ∧ x1 ≤ 2147483647 := rz 1 _ rfl
  have g2 : -2147483648 ≤ x2 ∧ x2 ≤ 2147483647 := rz 2 _ rfl
  exact List.forall_mem_cons.mpr ⟨(u193_0 X S x1 x2 hS g1 g2), List.forall_mem_cons.mpr ⟨(u193_1 X S x1 x2 hS g1 g2), fun _ h => absurd h List.not_mem_nil⟩⟩
set_option maxRecDepth 40000 in
theorem u194_0 (X : (Int → Int) × Int) (S : fx_S) (hS : fx_Sok S) : fx_VC (fx_Mx X) 194 [] S (fx_p194.getD 0 ([], .inl (0, 0))) := fx_VCR_ok (show fx_VCR (fx_Mx X) 194 [] S _ from q194_0 S hS)
set_option maxRecDepth 40000 in
theorem w194 (X : (Int → Int) × Int) (zs : List Int) (S : fx_S) (hS : fx_Sok S) (hz : zs.length = (fx_lv0 fx_t194.2.2.1 0).2) (rz : fx_rz fx_t194 zs S) : ∀ p ∈ fx_p194, fx_VC (fx_Mx X) 194 zs S p := by
  obtain rfl := List.eq_nil_of_length_eq_zero hz
  exact List.forall_mem_cons.mpr ⟨(u194_0 X S hS), fun _ h => absurd h List.not_mem_nil⟩
set_option maxRecDepth 40000 in
theorem u195_0 (X : (Int → Int) × Int) (S : fx_S) (hS : fx_Sok S) : fx_VC (fx_Mx X) 195 [] S (fx_p195.getD 0 ([], .inl (0, 0))) := fx_VCR_ok (show fx_VCR (fx_Mx X) 195 [] S _ from q195_0 S hS)
set_option maxRecDepth 40000 in
theorem w195 (X : (Int → Int) × Int) (zs : List Int) (S : fx_S) (hS : fx_Sok S) (hz : zs.length = (fx_lv0 fx_t195.2.2.1 0).2) (rz : fx_rz fx_t195 zs S) : ∀ p ∈ fx_p195, fx_VC (fx_Mx X) 195 zs S p := by
  obtain rfl := List.eq_nil_of_length_eq_zero hz
  exact List.forall_mem_cons.mpr ⟨(u195_0 X S hS), fun _ h => absurd h List.not_mem_nil⟩
set_option maxRecDepth 40000 in
theorem u196_0 (X : (Int → Int) × Int) (S : fx_S) (hS : fx_Sok S) : fx_VC (fx_Mx X) 196 [] S (fx_p196.getD 0 ([], .inl (0, 0))) := fx_VCR_ok (show fx_VCR (fx_Mx X) 196 [] S _ from q196_0 S hS)
set_option maxRecDepth 40000 in
theorem w196 (X : (Int → Int) × Int) (zs : List Int) (S : fx_S) (hS : fx_Sok S) (hz : zs.length = (fx_lv0 fx_t196.2.2.1 0).2) (rz : fx_rz fx_t196 zs S) : ∀ p ∈ fx_p196, fx_VC (fx_Mx X) 196 zs S p := by
  obtain rfl := List.eq_nil_of_length_eq_zero hz
  exact List.forall_mem_cons.mpr ⟨(u196_0 X S hS), fun _ h => absurd h List.not_mem_nil⟩
set_option maxRecDepth 40000 in
theorem u197_0 (X : (Int → Int) × Int) (S : fx_S) (hS : fx_Sok S) : fx_VC (fx_Mx X) 197 [] S (fx_p197.getD 0 ([], .inl (0, 0))) := fx_VCR_ok (show fx_VCR (fx_Mx X) 197 [] S _ from q197_0 S hS)
set_option maxRecDepth 40000 in
theorem w197 (X : (Int → Int) × Int) (zs : List Int) (S : fx_S) (hS : fx_Sok S) (hz : zs.length = (fx_lv0 fx_t197.2.2.1 0).2) (rz : fx_rz fx_t197 zs S) : ∀ p ∈ fx_p197, fx_VC (fx_Mx X) 197 zs S p := by
  obtain rfl := List.eq_nil_of_length_eq_zero hz
  exact List.forall_mem_cons.mpr ⟨(u197_0 X S hS), fun _ h => absurd h List.not_mem_nil⟩
set_option maxRecDepth 40000 in
theorem u198_0 (X : (Int → Int) × Int) (S : fx_S) (x1 x2 : Int) (hS : fx_Sok S) (g1 : -2147483648 ≤ x1 ∧ x1 ≤ 2147483647) (g2 : -2147483648 ≤ x2 ∧ x2 ≤ 2147483647) : fx_VC (fx_Mx X) 198 [x1, x2] S (fx_p198.getD 0 ([], .inl (0, 0))) := fx_VCR_ok (show fx_VCR (fx_Mx X) 198 [x1, x2] S _ from q198_0 S x1 x2 hS g1 g2)
set_option maxRecDepth 40000 in
theorem u198_1 (X : (Int → Int) × Int) (S : fx_S) (x1 x2 : Int) (hS : fx_Sok S) (g1 : -2147483648 ≤ x1 ∧ x1 ≤ 2147483647) (g2 : -2147483648 ≤ x2 ∧ x2 ≤ 2147483647) : fx_VC (fx_Mx X) 198 [x1, x2] S (fx_p198.getD 1 ([], .inl (0, 0))) := fx_VCR_ok (show fx_VCR (fx_Mx X) 198 [x1, x2] S _ from q198_1 S x1 x2 hS g1 g2)
set_option maxRecDepth 40000 in
theorem u198_2 (X : (Int → Int) × Int) (S : fx_S) (x1 x2 : Int) (hS : fx_Sok S) (g1 : -2147483648 ≤ x1 ∧ x1 ≤ 2147483647) (g2 : -2147483648 ≤ x2 ∧ x2 ≤ 2147483647) : fx_VC (fx_Mx X) 198 [x1, x2] S (fx_p198.getD 2 ([], .inl (0, 0))) := fx_VCR_ok (show fx_VCR (fx_Mx X) 198 [x1, x2] S _ from q198_2 S x1 x2 hS g1 g2)
set_option maxRecDepth 40000 in
theorem u198_3 (X : (Int → Int) × Int) (S : fx_S) (x1 x2 : Int) (hS : fx_Sok S) (g1 : -2147483648 ≤ x1 ∧ x1 ≤ 2147483647) (g2 : -2147483648 ≤ x2 ∧ x2 ≤ 2147483647) : fx_VC (fx_Mx X) 198 [x1, x2] S (fx_p198.getD 3 ([], .inl (0, 0))) := fx_VCR_ok (show fx_VCR (fx_Mx X) 198 [x1, x2] S _ from q198_3 S x1 x2 hS g1 g2)
set_option maxRecDepth 40000 in
theorem u198_4 (X : (Int → Int) × Int) (S : fx_S) (x1 x2 : Int) (hS : fx_Sok S) (g1 : -2147483648 ≤ x1 ∧ x1 ≤ 2147483647) (g2 : -2147483648 ≤ x2 ∧ x2 ≤ 2147483647) : fx_VC (fx_Mx X) 198 [x1, x2] S (fx_p198.getD 4 ([], .inl (0, 0))) := fx_VCR_ok (show fx_VCR (fx_Mx X) 198 [x1, x2] S _ from q198_4 S x1 x2 hS g1 g2)
set_option maxRecDepth 40000 in
theorem w198 (X : (Int → Int) × Int) (zs : List Int) (S : fx_S) (hS : fx_Sok S) (hz : zs.length = (fx_lv0 fx_t198.2.2.1 0).2) (rz : fx_rz fx_t198 zs S) : ∀ p ∈ fx_p198, fx_VC (fx_Mx X) 198 zs S p := by
  obtain ⟨x1, x2, rfl⟩ := fx_len2 hz
  have g1 : -2147483648 ≤ x1 ∧ x1 ≤ 2147483647 := rz 1 _ rfl
  have g2 : -2147483648 ≤ x2 ∧ x2 ≤ 2147483647 := rz 2 _ rfl
  exact List.forall_mem_cons.mpr ⟨(u198_0 X S x1 x2 hS g1 g2), List.forall_mem_cons.mpr ⟨(u198_1 X S x1 x2 hS g1 g2), List.forall_mem_cons.mpr ⟨(u198_2 X S x1 x2 hS g1 g2), List.forall_mem_cons.mpr ⟨(u198_3 X S x1 x2 hS g1 g2), List.forall_mem_cons.mpr ⟨(u198_4 X S x1 x2 hS g1 g2), fun _ h => absurd h List.not_mem_nil⟩⟩⟩⟩⟩
set_option maxRecDepth 40000 in
theorem u199_0 (X : (Int → Int) × Int) (S : fx_S) (x1 x2 x3 : Int) (hS : fx_Sok S) (g1 : -2147483648 ≤ x1 ∧ x1 ≤ 2147483647) (g2 : -2147483648 ≤ x2 ∧ x2 ≤ 2147483647) (g3 : -2147483648 ≤ x3 ∧ x3 ≤ 2147483647) : fx_VC (fx_Mx X) 199 [x1, x2, x3] S (fx_p199.getD 0 ([], .inl (0, 0))) := fx_VCR_ok (show fx_VCR (fx_Mx X) 199 [x1, x2, x3] S _ from q199_0 S x1 x2 x3 hS g1 g2 g3)
set_option maxRecDepth 40000 in
theorem u199_1 (X : (Int → Int) × Int) (S : fx_S) (x1 x2 x3 : Int) (hS : fx_Sok S) (g1 : -2147483648 ≤ x1 ∧ x1 ≤ 2147483647) (g2 : -2147483648 ≤ x2 ∧ x2 ≤ 2147483647) (g3 : -2147483648 ≤ x3 ∧ x3 ≤ 2147483647) : fx_VC (fx_Mx X) 199 [x1, x2, x3] S (fx_p199.getD 1 ([], .inl (0, 0))) := fx_VCR_ok (show fx_VCR (fx_Mx X) 199 [x1, x2, x3] S _ from q199_1 S x1 x2 x3 hS g1 g2 g3)
set_option maxRecDepth 40000 in
theorem u199_2 (X : (Int → Int) × Int) (S : fx_S) (x1 x2 x3 : Int) (hS : fx_Sok S) (g1 : -2147483648 ≤ x1 ∧ x1 ≤ 2147483647) (g2 : -2147483648 ≤ x2 ∧ x2 ≤ 2147483647) (g3 : -2147483648 ≤ x3 ∧ x3 ≤ 2147483647) : fx_VC (fx_Mx X) 199 [x1, x2, x3] S (fx_p199.getD 2 ([], .inl (0, 0))) := fx_VCR_ok (show fx_VCR (fx_Mx X) 199 [x1, x2, x3] S _ from q199_2 S x1 x2 x3 hS g1 g2 g3)
set_option maxRecDepth 40000 in
theorem u199_3 (X : (Int → Int) × Int) (S : fx_S) (x1 x2 x3 : Int) (hS : fx_Sok S) (g1 : -2147483648 ≤ x1 ∧ x1 ≤ 2147483647) (g2 : -2147483648 ≤ x2 ∧ x2 ≤ 2147483647) (g3 : -2147483648 ≤ x3 ∧ x3 ≤ 2147483647) : fx_VC (fx_Mx X) 199 [x1, x2, x3] S (fx_p199.getD 3 ([], .inl (0, 0))) := fx_VCR_ok (show fx_VCR (fx_Mx X) 199 [x1, x2, x3] S _ from q199_3 S x1 x2 x3 hS g1 g2 g3)
set_option maxRecDepth 40000 in
theorem u199_4 (X : (Int → Int) × Int) (S : fx_S) (x1 x2 x3 : Int) (hS : fx_Sok S) (g1 : -2147483648 ≤ x1 ∧ x1 ≤ 2147483647) (g2 : -2147483648 ≤ x2 ∧ x2 ≤ 2147483647) (g3 : -2147483648 ≤ x3 ∧ x3 ≤ 2147483647) : fx_VC (fx_Mx X) 199 [x1, x2, x3] S (fx_p199.getD 4 ([], .inl (0, 0))) := fx_VCR_ok (show fx_VCR (fx_Mx X) 199 [x1, x2, x3] S _ from q199_4 S x1 x2 x3 hS g1 g2 g3)
set_option maxRecDepth 40000 in
theorem w199 (X : (Int → Int) × Int) (zs : List Int) (S : fx_S) (hS : fx_Sok S) (hz : zs.length = (fx_lv0 fx_t199.2.2.1 0).2) (rz : fx_rz fx_t199 zs S) : ∀ p ∈ fx_p199, fx_VC (fx_Mx X) 199 zs S p := by
  obtain ⟨x1, x2, x3, rfl⟩ := fx_len3 hz
  have g1 : -2147483648 ≤ x1 ∧ x1 ≤ 2147483647 := rz 1 _ rfl
  have g2 : -2147483648 ≤ x2 ∧ x2 ≤ 2147483647 := rz 2 _ rfl
  have g3 : -2147483648 ≤ x3 ∧ x3 ≤ 2147483647 := rz 3 _ rfl
  exact List.forall_mem_cons.mpr ⟨(u199_0 X S x1 x2 x3 hS g1 g2 g3), List.forall_mem_cons.mpr ⟨(u199_1 X S x1 x2 x3 hS g1 g2 g3), List.forall_mem_cons.mpr ⟨(u199_2 X S x1 x2 x3 hS g1 g2 g3), List.forall_mem_cons.mpr ⟨(u199_3 X S x1 x2 x3 hS g1 g2 g3), List.forall_mem_cons.mpr ⟨(u199_4 X S x1 x2 x3 hS g1 g2 g3), fun _ h => absurd h List.not_mem_nil⟩⟩⟩⟩⟩
set_option maxRecDepth 40000 in
theorem u200_0 (X : (Int → Int) × Int) (S : fx_S) (x1 x2 x3 x4 : Int) (hS : fx_Sok S) (g1 : -2147483648 ≤ x1 ∧ x1 ≤ 2147483647) (g2 : -2147483648 ≤ x2 ∧ x2 ≤ 2147483647) (g3 : -2147483648 ≤ x3 ∧ x3 ≤ 2147483647) (g4 : -2147483648 ≤ x4 ∧ x4 ≤ 2147483647) : fx_VC (fx_Mx X) 200 [x1, x2, x3, x4] S (fx_p200.getD 0 ([], .inl (0, 0))) := fx_VCR_ok (show fx_VCR (fx_Mx X) 200 [x1, x2, x3, x4] S _ from q200_0 S x1 x2 x3 x4 hS g1 g2 g3 g4)
set_option maxRecDepth 40000 in
theorem u200_1 (X : (Int → Int) × Int) (S : fx_S) (x1 x2 x3 x4 : Int) (hS : fx_Sok S) (g1 : -2147483648 ≤ x1 ∧ x1 ≤ 2147483647) (g2 : -2147483648 ≤ x2 ∧ x2 ≤ 2147483647) (g3 : -2147483648 ≤ x3 ∧ x3 ≤ 2147483647) (g4 : -2147483648 ≤ x4 ∧ x4 ≤ 2147483647) : fx_VC (fx_Mx X) 200 [x1, x2, x3, x4] S (fx_p200.getD 1 ([], .inl (0, 0))) := fx_VCR_ok (show fx_VCR (fx_Mx X) 200 [x1, x2, x3, x4] S _ from q200_1 S x1 x2 x3 x4 hS g1 g2 g3 g4)
set_option maxRecDepth 40000 in
theorem w200 (X : (Int → Int) × Int) (zs : List Int) (S : fx_S) (hS : fx_Sok S) (hz : zs.length = (fx_lv0 fx_t200.2.2.1 0).2) (rz : fx_rz fx_t200 zs S) : ∀ p ∈ fx_p200, fx_VC (fx_Mx X) 200 zs S p := by
  obtain ⟨x1, x2, x3, x4, rfl⟩ := fx_len4 hz
  have g1 : -2147483648 ≤ x1 ∧ x1 ≤ 2147483647 := rz 1 _ rfl
  have g2 : -2147483648 ≤ x2 ∧ x2 ≤ 2147483647 := rz 2 _ rfl
  have g3 : -2147483648 ≤ x3 ∧ x3 ≤ 2147483647 := rz 3 _ rfl
  have g4 : -2147483648 ≤ x4 ∧ x4 ≤ 2147483647 := rz 4 _ rfl
  exact List.forall_mem_cons.mpr ⟨(u200_0 X S x1 x2 x3 x4 hS g1 g2 g3 g4), List.forall_mem_cons.mpr ⟨(u200_1 X S x1 x2 x3 x4 hS g1 g2 g3 g4), fun _ h => absurd h List.not_mem_nil⟩⟩
set_option maxRecDepth 40000 in
theorem u201_0 (X : (Int → Int) × Int) (S : fx_S) (hS : fx_Sok S) : fx_VC (fx_Mx X) 201 [] S (fx_p201.getD 0 ([], .inl (0, 0))) := fx_VCR_ok (show fx_VCR (fx_Mx X) 201 [] S _ from q201_0 S hS)
set_option maxRecDepth 40000 in
theorem w201 (X : (Int → Int) × Int) (zs : List Int) (S : fx_S) (hS : fx_Sok S) (hz : zs.length = (fx_lv0 fx_t201.2.2.1 0).2) (rz : fx_rz fx_t201 zs S) : ∀ p ∈ fx_p201, fx_VC (fx_Mx X) 201 zs S p := by
  obtain rfl := List.eq_nil_of_length_eq_zero hz
  exact List.forall_mem_cons.mpr ⟨(u201_0 X S hS), fun _ h => absurd h List.not_mem_nil⟩
set_option maxRecDepth 40000 in
theorem u202_0 (X : (Int → Int) × Int) (S : fx_S) (x1 x2 x3 : Int) (hS : fx_Sok S) (g1 : -2147483648 ≤ x1 ∧ x1 ≤ 2147483647) (g2 : -2147483648 ≤ x2 ∧ x2 ≤ 2147483647) (g3 : -2147483648 ≤ x3 ∧ x3 ≤ 2147483647) : fx_VC (fx_Mx X) 202 [x1, x2, x3] S (fx_p202.getD 0 ([], .inl (0, 0))) := fx_VCR_ok (show fx_VCR (fx_Mx X) 202 [x1, x2, x3] S _ from q202_0 S x1 x2 x3 hS g1 g2 g3)
set_option maxRecDepth 40000 in
theorem u202_1 (X : (Int → Int) × Int) (S : fx_S) (x1 x2 x3 : Int) (hS : fx_Sok S) (g1 : -2147483648 ≤ x1 ∧ x1 ≤ 2147483647) (g2 : -2147483648 ≤ x2 ∧ x2 ≤ 2147483647) (g3 : -2147483648 ≤ x3 ∧ x3 ≤ 2147483647) : fx_VC (fx_Mx X) 202 [x1, x2, x3] S (fx_p202.getD 1 ([], .inl (0, 0))) := fx_VCR_ok (show fx_VCR (fx_Mx X) 202 [x1, x2, x3] S _ from q202_1 S x1 x2 x3 hS g1 g2 g3)
set_option maxRecDepth 40000 in
theorem u202_2 (X : (Int → Int) × Int) (S : fx_S) (x1 x2 x3 : Int) (hS : fx_Sok S) (g1 : -2147483648 ≤ x1 ∧ x1 ≤ 2147483647) (g2 : -2147483648 ≤ x2 ∧ x2 ≤ 2147483647) (g3 : -2147483648 ≤ x3 ∧ x3 ≤ 2147483647) : fx_VC (fx_Mx X) 202 [x1, x2, x3] S (fx_p202.getD 2 ([], .inl (0, 0))) := fx_VCR_ok (show fx_VCR (fx_Mx X) 202 [x1, x2, x3] S _ from q202_2 S x1 x2 x3 hS g1 g2 g3)
set_option maxRecDepth 40000 in
theorem u202_3 (X : (Int → Int) × Int) (S : fx_S) (x1 x2 x3 : Int) (hS : fx_Sok S) (g1 : -2147483648 ≤ x1 ∧ x1 ≤ 2147483647) (g2 : -2147483648 ≤ x2 ∧ x2 ≤ 2147483647) (g3 : -2147483648 ≤ x3 ∧ x3 ≤ 2147483647) : fx_VC (fx_Mx X) 202 [x1, x2, x3] S (fx_p202.getD 3 ([], .inl (0, 0))) := fx_VCR_ok (show fx_VCR (fx_Mx X) 202 [x1, x2, x3] S _ from q202_3 S x1 x2 x3 hS g1 g2 g3)
set_option maxRecDepth 40000 in
theorem u202_4 (X : (Int → Int) × Int) (S : fx_S) (x1 x2 x3 : Int) (hS : fx_Sok S) (g1 : -2147483648 ≤ x1 ∧ x1 ≤ 2147483647) (g2 : -2147483648 ≤ x2 ∧ x2 ≤ 2147483647) (g3 : -2147483648 ≤ x3 ∧ x3 ≤ 2147483647) : fx_VC (fx_Mx X) 202 [x1, x2, x3] S (fx_p202.getD 4 ([], .inl (0, 0))) := fx_VCR_ok (show fx_VCR (fx_Mx X) 202 [x1, x2, x3] S _ from q202_4 S x1 x2 x3 hS g1 g2 g3)
set_option maxRecDepth 40000 in
theorem w202 (X : (Int → Int) × Int) (zs : List Int) (S : fx_S) (hS : fx_Sok S) (hz : zs.length = (fx_lv0 fx_t202.2.2.1 0).2) (rz : fx_rz fx_t202 zs S) : ∀ p ∈ fx_p202, fx_VC (fx_Mx X) 202 zs S p := by
  obtain ⟨x1, x2, x3, rfl⟩ := fx_len3 hz
  have g1 : -2147483648 ≤ x1 ∧ x1 ≤ 2147483647 := rz 1 _ rfl
  have g2 : -2147483648 ≤ x2 ∧ x2 ≤ 2147483647 := rz 2 _ rfl
  have g3 : -2147483648 ≤ x3 ∧ x3 ≤ 2147483647 := rz 3 _ rfl
  exact List.forall_mem_cons.mpr ⟨(u202_0 X S x1 x2 x3 hS g1 g2 g3), List.forall_mem_cons.mpr ⟨(u202_1 X S x1 x2 x3 hS g1 g2 g3), List.forall_mem_cons.mpr ⟨(u202_2 X S x1 x2 x3 hS g1 g2 g3), List.forall_mem_cons.mpr ⟨(u202_3 X S x1 x2 x3 hS g1 g2 g3), List.forall_mem_cons.mpr ⟨(u202_4 X S x1 x2 x3 hS g1 g2 g3), fun _ h => absurd h List.not_mem_nil⟩⟩⟩⟩⟩
set_option maxRecDepth 40000 in
theorem u203_0 (X : (Int → Int) × Int) (S : fx_S) (hS : fx_Sok S) : fx_VC (fx_Mx X) 203 [] S (fx_p203.getD 0 ([], .inl (0, 0))) := fx_VCR_ok (show fx_VCR (fx_Mx X) 203 [] S _ from q203_0 S hS)
set_option maxRecDepth 40000 in
theorem w203 (X : (Int → Int) × Int) (zs : List Int) (S : fx_S) (hS : fx_Sok S) (hz : zs.length = (fx_lv0 fx_t203.2.2.1 0).2) (rz : fx_rz fx_t203 zs S) : ∀ p ∈ fx_p203, fx_VC (fx_Mx X) 203 zs S p := by
  obtain rfl := List.eq_nil_of_length_eq_zero hz
  exact List.forall_mem_cons.mpr ⟨(u203_0 X S hS), fun _ h => absurd h List.not_mem_nil⟩
set_option maxRecDepth 40000 in
theorem u204_0 (X : (Int → Int) × Int) (S : fx_S) (hS : fx_Sok S) : fx_VC (fx_Mx X) 204 [] S (fx_p204.getD 0 ([], .inl (0, 0))) := fx_VCR_ok (show fx_VCR (fx_Mx X) 204 [] S _ from q204_0 S hS)
set_option maxRecDepth 40000 in
theorem w204 (X : (Int → Int) × Int) (zs : List Int) (S : fx_S) (hS : fx_Sok S) (hz : zs.length = (fx_lv0 fx_t204.2.2.1 0).2) (rz : fx_rz fx_t204 zs S) : ∀ p ∈ fx_p204, fx_VC (fx_Mx X) 204 zs S p := by
  obtain rfl := List.eq_nil_of_length_eq_zero hz
  exact List.forall_mem_cons.mpr ⟨(u204_0 X S hS), fun _ h => absurd h List.not_mem_nil⟩
set_option maxRecDepth 40000 in
theorem u205_0 (X : (Int → Int) × Int) (S : fx_S) (x2 x3 : Int) (hS : fx_Sok S) (g2 : -2147483648 ≤ x2 ∧ x2 ≤ 2147483647) (g3 : -2147483648 ≤ x3 ∧ x3 ≤ 2147483647) : fx_VC (fx_Mx X) 205 [x2, x3] S (fx_p205.getD 0 ([], .inl (0, 0))) := fx_VCR_ok (show fx_VCR (fx_Mx X) 205 [x2, x3] S _ from q205_0 S x2 x3 hS g2 g3)
set_option maxRecDepth 40000 in
theorem u205_1 (X : (Int → Int) × Int) (S : fx_S) (x2 x3 : Int) (hS : fx_Sok S) (g2 : -2147483648 ≤ x2 ∧ x2 ≤ 2147483647) (g3 : -2147483648 ≤ x3 ∧ x3 ≤ 2147483647) : fx_VC (fx_Mx X) 205 [x2, x3] S (fx_p205.getD 1 ([], .inl (0, 0))) := fx_VCR_ok (show fx_VCR (fx_Mx X) 205 [x2, x3] S _ from q205_1 S x2 x3 hS g2 g3)
set_option maxRecDepth 40000 in
theorem u205_2 (X : (Int → Int) × Int) (S : fx_S) (x2 x3 : Int) (hS : fx_Sok S) (g2 : -2147483648 ≤ x2 ∧ x2 ≤ 2147483647) (g3 : -2147483648 ≤ x3 ∧ x3 ≤ 2147483647) : fx_VC (fx_Mx X) 205 [x2, x3] S (fx_p205.getD 2 ([], .inl (0, 0))) := fx_VCR_ok (show fx_VCR (fx_Mx X) 205 [x2, x3] S _ from q205_2 S x2 x3 hS g2 g3)
set_option maxRecDepth 40000 in
theorem w205 (X : (Int → Int) × Int) (zs : List Int) (S : fx_S) (hS : fx_Sok S) (hz : zs.length = (fx_lv0 fx_t205.2.2.1 0).2) (rz : fx_rz fx_t205 zs S) : ∀ p ∈ fx_p205, fx_VC (fx_Mx X) 205 zs S p := by
  obtain ⟨x2, x3, rfl⟩ := fx_len2 hz
  have g2 : -2147483648 ≤ x2 ∧ x2 ≤ 2147483647 := rz 2 _ rfl
  have g3 : -2147483648 ≤ x3 ∧ x3 ≤ 2147483647 := rz 3 _ rfl
  exact List.forall_mem_cons.mpr ⟨(u205_0 X S x2 x3 hS g2 g3), List.forall_mem_cons.mpr ⟨(u205_1 X S x2 x3 hS g2 g3), List.forall_mem_cons.mpr ⟨(u205_2 X S x2 x3 hS g2 g3), fun _ h => absurd h List.not_mem_nil⟩⟩⟩
set_option maxRecDepth 40000 in
theorem u206_0 (X : (Int → Int) × Int) (S : fx_S) (x0 : Int) (hS : fx_Sok S) (g0 : 0 ≤ x0 ∧ x0 < S.2.2) : fx_VC (fx_Mx X) 206 [x0] S (fx_p206.getD 0 ([], .inl (0, 0))) := fx_VCR_ok (show fx_VCR (fx_Mx X) 206 [x0] S _ from q206_0 S x0 hS g0)
set_option maxRecDepth 40000 in
theorem w206 (X : (Int → Int) × Int) (zs : List Int) (S : fx_S) (hS : fx_Sok S) (hz : zs.length = (fx_lv0 fx_t206.2.2.1 0).2) (rz : fx_rz fx_t206 zs S) : ∀ p ∈ fx_p206, fx_VC (fx_Mx X) 206 zs S p := by
  obtain ⟨x0, rfl⟩ := fx_len1 hz
  have g0 : 0 ≤ x0 ∧ x0 < S.2.2 := rz 0 _ rfl
  exact List.forall_mem_cons.mpr ⟨(u206_0 X S x0 hS g0), fun _ h => absurd h List.not_mem_nil⟩
set_option maxRecDepth 40000 in
theorem u207_0 (X : (Int → Int) × Int) (S : fx_S) (x0 : Int) (hS : fx_Sok S) (g0 : -1 ≤ x0 ∧ x0 < S.2.2) : fx_VC (fx_Mx X) 207 [x0] S (fx_p207.getD 0 ([], .inl (0, 0))) := fx_VCR_ok (show fx_VCR (fx_Mx X) 207 [x0] S _ from q207_0 S x0 hS g0)
set_option maxRecDepth 40000 in
theorem w207 (X : (Int → Int) × Int) (zs : List Int) (S : fx_S) (hS : fx_Sok S) (hz : zs.length = (fx_lv0 fx_t207.2.2.1 0).2) (rz : fx_rz fx_t207 zs S) : ∀ p ∈ fx_p207, fx_VC (fx_Mx X) 207 zs S p := by
  obtain ⟨x0, rfl⟩ := fx_len1 hz
  have g0 : -1 ≤ x0 ∧ x0 < S.2.2 := rz 0 _ rfl
  exact List.forall_mem_cons.mpr ⟨(u207_0 X S x0 hS g0), fun _ h => absurd h List.not_mem_nil⟩
set_option maxRecDepth 40000 in
theorem u208_0 (X : (Int → Int) × Int) (S : fx_S) (x1 x2 : Int) (hS : fx_Sok S) (g1 : -2147483648 ≤ x1 ∧ x1 ≤ 2147483647) (g2 : -2147483648 ≤ x2 ∧ x2 ≤ 2147483647) : fx_VC (fx_Mx X) 208 [x1, x2] S (fx_p208.getD 0 ([], .inl (0, 0))) := fx_VCR_ok (show fx_VCR (fx_Mx X) 208 [x1, x2] S _ from q208_0 S x1 x2 hS g1 g2)
set_option maxRecDepth 40000 in
theorem u208_1 (X : (Int → Int) × Int) (S : fx_S) (x1 x2 : Int) (hS : fx_Sok S) (g1 : -2147483648 ≤ x1 ∧ x1 ≤ 2147483647) (g2 : -2147483648 ≤ x2 ∧ x2 ≤ 2147483647) : fx_VC (fx_Mx X) 208 [x1, x2] S (fx_p208.getD 1 ([], .inl (0, 0))) := fx_VCR_ok (show fx_VCR (fx_Mx X) 208 [x1, x2] S _ from q208_1 S x1 x2 hS g1 g2)
set_option maxRecDepth 40000 in
theorem w208 (X : (Int → Int) × Int) (zs : List Int) (S : fx_S) (hS : fx_Sok S) (hz : zs.length = (fx_lv0 fx_t208.2.2.1 0).2) (rz : fx_rz fx_t208 zs S) : ∀ p ∈ fx_p208, fx_VC (fx_Mx X) 208 zs S p := by
  obtain ⟨x1, x2, rfl⟩ := fx_len2 hz
  have g1 : -2147483648 ≤ x1 ∧ x1 ≤ 2147483647 := rz 1 _ rfl
  have g2 : -2147483648 ≤ x2 ∧ x2 ≤ 2147483647 := rz 2 _ rfl
  exact List.forall_mem_cons.mpr ⟨(u208_0 X S x1 x2 hS g1 g2), List.forall_mem_cons.mpr ⟨(u208_1 X S x1 x2 hS g1 g2), fun _ h => absurd h List.not_mem_nil⟩⟩
set_option maxRecDepth 40000 in
theorem u209_0 (X : (Int → Int) × Int) (S : fx_S) (x1 : Int) (hS : fx_Sok S) (g1 : -1 ≤ x1 ∧ x1 < S.2.2) : fx_VC (fx_Mx X) 209 [x1] S (fx_p209.getD 0 ([], .inl (0, 0))) := fx_VCR_ok (show fx_VCR (fx_Mx X) 209 [x1] S _ from q209_0 S x1 hS g1)
set_option maxRecDepth 40000 in
theorem w209 (X : (Int → Int) × Int) (zs : List Int) (S : fx_S) (hS : fx_Sok S) (hz : zs.length = (fx_lv0 fx_t209.2.2.1 0).2) (rz : fx_rz fx_t209 zs S) : ∀ p ∈ fx_p209, fx_VC (fx_Mx X) 209 zs S p := by
  obtain ⟨x1, rfl⟩ := fx_len1 hz
  have g1 : -1 ≤ x1 ∧ x1 < S.2.2 := rz 1 _ rfl
  exact List.forall_mem_cons.mpr ⟨(u209_0 X S x1 hS g1), fun _ h => absurd h List.not_mem_nil⟩
set_option maxRecDepth 40000 in
theorem u210_0 (X : (Int → Int) × Int) (S : fx_S) (x1 x2 : Int) (hS : fx_Sok S) (g1 : -2147483648 ≤ x1 ∧ x1 ≤ 2147483647) (g2 : -2147483648 ≤ x2 ∧ x2 ≤ 2147483647) : fx_VC (fx_Mx X) 210 [x1, x2] S (fx_p210.getD 0 ([], .inl (0, 0))) := fx_VCR_ok (show fx_VCR (fx_Mx X) 210 [x1, x2] S _ from q210_0 S x1 x2 hS g1 g2)
set_option maxRecDepth 40000 in
theorem u210_1 (X : (Int → Int) × Int) (S : fx_S) (x1 x2 : Int) (hS : fx_Sok S) (g1 : -2147483648 ≤ x1 ∧ x1 ≤ 2147483647) (g2 : -2147483648 ≤ x2 ∧ x2 ≤ 2147483647) : fx_VC (fx_Mx X) 210 [x1, x2] S (fx_p210.getD 1 ([], .inl (0, 0))) := fx_VCR_ok (show fx_VCR (fx_Mx X) 210 [x1, x2] S _ from q210_1 S x1 x2 hS g1 g2)
set_option maxRecDepth 40000 in
theorem w210 (X : (Int → Int) × Int) (zs : List Int) (S : fx_S) (hS : fx_Sok S) (hz : zs.length = (fx_lv0 fx_t210.2.2.1 0).2) (rz : fx_rz fx_t210 zs S) : ∀ p ∈ fx_p210, fx_VC (fx_Mx X) 210 zs S p := by
  obtain ⟨x1, x2, rfl⟩ := fx_len2 hz
  have g1 : -2147483648 ≤ x1 ∧ x1 ≤ 2147483647 := rz 1 _ rfl
  have g2 : -2147483648 ≤ x2 ∧ x2 ≤ 2147483647 := rz 2 _ rfl
  exact List.forall_mem_cons.mpr ⟨(u210_0 X S x1 x2 hS g1 g2), List.forall_mem_cons.mpr ⟨(u210_1 X S x1 x2 hS g1 g2), fun _ h => absurd h List.not_mem_nil⟩⟩
set_option maxRecDepth 40000 in
theorem u211_0 (X : (Int → Int) × Int) (S : fx_S) (x1 x2 x3 : Int) (hS : fx_Sok S) (g1 : -2147483648 ≤ x1 ∧ x1 ≤ 2147483647) (g2 : -2147483648 ≤ x2 ∧ x2 ≤ 2147483647) (g3 : -2147483648 ≤ x3 ∧ x3 ≤ 2147483647) : fx_VC (fx_Mx X) 211 [x1, x2, x3] S (fx_p211.getD 0 ([], .inl (0, 0))) := fx_VCR_ok (show fx_VCR (fx_Mx X) 211 [x1, x2, x3] S _ from q211_0 S x1 x2 x3 hS g1 g2 g3)
set_option maxRecDepth 40000 in
theorem w211 (X : (Int → Int) × Int) (zs : List Int) (S : fx_S) (hS : fx_Sok S) (hz : zs.length = (fx_lv0 fx_t211.2.2.1 0).2) (rz : fx_rz fx_t211 zs S) : ∀ p ∈ fx_p211, fx_VC (fx_Mx X) 211 zs S p := by
  obtain ⟨x1, x2, x3, rfl⟩ := fx_len3 hz
  have g1 : -2147483648 ≤ x1 ∧ x1 ≤ 2147483647 := rz 1 _ rfl
  have g2 : -2147483648 ≤ x2 ∧ x2 ≤ 2147483647 := rz 2 _ rfl
  have g3 : -2147483648 ≤ x3 ∧ x3 ≤ 2147483647 := rz 3 _ rfl
  exact List.forall_mem_cons.mpr ⟨(u211_0 X S x1 x2 x3 hS g1 g2 g3), fun _ h => absurd h List.not_mem_nil⟩
set_option maxRecDepth 40000 in
theorem u212_0 (X : (Int → Int) × Int) (S : fx_S) (x1 x4 : Int) (hS : fx_Sok S) (g1 : -2147483648 ≤ x1 ∧ x1 ≤ 2147483647) (g4 : -2147483648 ≤ x4 ∧ x4 ≤ 2147483647) : fx_VC (fx_Mx X) 212 [x1, x4] S (fx_p212.getD 0 ([], .inl (0, 0))) := fx_VCR_ok (show fx_VCR (fx_Mx X) 212 [x1, x4] S _ from q212_0 S x1 x4 hS g1 g4)
set_option maxRecDepth 40000 in
theorem u212_1 (X : (Int → Int) × Int) (S : fx_S) (x1 x4 : Int) (hS : fx_Sok S) (g1 : -2147483648 ≤ x1 ∧ x1 ≤ 2147483647) (g4 : -2147483648 ≤ x4 ∧ x4 ≤ 2147483647) : fx_VC (fx_Mx X) 212 [x1, x4] S (fx_p212.getD 1 ([], .inl (0, 0))) := fx_VCR_ok (show fx_VCR (fx_Mx X) 212 [x1, x4] S _ from q212_1 S x1 x4 hS g1 g4)
set_option maxRecDepth 40000 in
theorem w212 (X : (Int → Int) × Int) (zs : List Int) (S : fx_S) (hS : fx_Sok S) (hz : zs.length = (fx_lv0 fx_t212.2.2.1 0).2) (rz : fx_rz fx_t212 zs S) : ∀ p ∈ fx_p212, fx_VC (fx_Mx X) 212 zs S p := by
  obtain ⟨x1, x4, rfl⟩ := fx_len2 hz
  have g1 : -2147483648 ≤ x1 ∧ x1 ≤ 2147483647 := rz 1 _ rfl
  have g4 : -2147483648 ≤ x4 ∧ x4 ≤ 2147483647 := rz 4 _ rfl
  exact List.forall_mem_cons.mpr ⟨(u212_0 X S x1 x4 hS g1 g4), List.forall_mem_cons.mpr ⟨(u212_1 X S x1 x4 hS g1 g4), fun _ h => absurd h List.not_mem_nil⟩⟩
set_option maxRecDepth 40000 in
theorem u213_0 (X : (Int → Int) × Int) (S : fx_S) (x1 x2 x3 : Int) (hS : fx_Sok S) (g1 : -2147483648 ≤ x1 ∧ x1 ≤ 2147483647) (g2 : -2147483648 ≤ x2 ∧ x2 ≤ 2147483647) (g3 : -9223372036854775808 ≤ x3 ∧ x3 ≤ 9223372036854775807) : fx_VC (fx_Mx X) 213 [x1, x2, x3] S (fx_p213.getD 0 ([], .inl (0, 0))) := fx_VCR_ok (show fx_VCR (fx_Mx X) 213 [x1, x2, x3] S _ from q213_0 S x1 x2 x3 hS g1 g2 g3)
set_option maxRecDepth 40000 in
theorem w213 (X : (Int → Int) × Int) (zs : List Int) (S : fx_S) (hS : fx_Sok S) (hz : zs.length = (fx_lv0 fx_t213.2.2.1 0).2) (rz : fx_rz fx_t213 zs S) : ∀ p ∈ fx_p213, fx_VC (fx_Mx X) 213 zs S p := by
  obtain ⟨x1, x2, x3, rfl⟩ := fx_len3 hz
  have g1 : -2147483648 ≤ x1 ∧ x1 ≤ 2147483647 := rz 1 _ rfl
  have g2 : -2147483648 ≤ x2 ∧ x2 ≤ 2147483647 := rz 2 _ rfl
  have g3 : -9223372036854775808 ≤ x3 ∧ x3 ≤ 9223372036854775807 := rz 3 _ rfl
  exact List.forall_mem_cons.mpr ⟨(u213_0 X S x1 x2 x3 hS g1 g2 g3), fun _ h => absurd h List.not_mem_nil⟩
set_option maxRecDepth 40000 in
theorem u214_0 (X : (Int → Int) × Int) (S : fx_S) (x1 x2 x3 : Int) (hS : fx_Sok S) (g1 : -2147483648 ≤ x1 ∧ x1 ≤ 2147483647) (g2 : -2147483648 ≤ x2 ∧ x2 ≤ 2147483647) (g3 : -2147483648 ≤ x3 ∧ x3 ≤ 2147483647) : fx_VC (fx_Mx X) 214 [x1, x2, x3] S (fx_p214.getD 0 ([], .inl (0, 0))) := fx_VCR_ok (show fx_VCR (fx_Mx X) 214 [x1, x2, x3] S _ from q214_0 S x1 x2 x3 hS g1 g2 g3)
set_option maxRecDepth 40000 in
theorem u214_1 (X : (Int → Int) × Int) (S : fx_S) (x1 x2 x3 : Int) (hS : fx_Sok S) (g1 : -2147483648 ≤ x1 ∧ x1 ≤ 2147483647) (g2 : -2147483648 ≤ x2 ∧ x2 ≤ 2147483647) (g3 : -2147483648 ≤ x3 ∧ x3 ≤ 2147483647) : fx_VC (fx_Mx X) 214 [x1, x2, x3] S (fx_p214.getD 1 ([], .inl (0, 0))) := fx_VCR_ok (show fx_VCR (fx_Mx X) 214 [x1, x2, x3] S _ from q214_1 S x1 x2 x3 hS g1 g2 g3)
set_option maxRecDepth 40000 in
theorem u214_2 (X : (Int → Int) × Int) (S : fx_S) (x1 x2 x3 : Int) (hS : fx_Sok S) (g1 : -2147483648 ≤ x1 ∧ x1 ≤ 2147483647) (g2 : -2147483648 ≤ x2 ∧ x2 ≤ 2147483647) (g3 : -2147483648 ≤ x3 ∧ x3 ≤ 2147483647) : fx_VC (fx_Mx X) 214 [x1, x2, x3] S (fx_p214.getD 2 ([], .inl (0, 0))) := fx_VCR_ok (show fx_VCR (fx_Mx X) 214 [x1, x2, x3] S _ from q214_2 S x1 x2 x3 hS g1 g2 g3)
set_option maxRecDepth 40000 in
theorem u214_3 (X : (Int → Int) × Int) (S : fx_S) (x1 x2 x3 : Int) (hS : fx_Sok S) (g1 : -2147483648 ≤ x1 ∧ x1 ≤ 2147483647) (g2 : -2147483648 ≤ x2 ∧ x2 ≤ 2147483647) (g3 : -2147483648 ≤ x3 ∧ x3 ≤ 2147483647) : fx_VC (fx_Mx X) 214 [x1, x2, x3] S (fx_p214.getD 3 ([], .inl (0, 0))) := fx_VCR_ok (show fx_VCR (fx_Mx X) 214 [x1, x2, x3] S _ from q214_3 S x1 x2 x3 hS g1 g2 g3)
set_option maxRecDepth 40000 in
theorem u214_4 (X : (Int → Int) × Int) (S : fx_S) (x1 x2 x3 : Int) (hS : fx_Sok S) (g1 : -2147483648 ≤ x1 ∧ x1 ≤ 2147483647) (g2 : -2147483648 ≤ x2 ∧ x2 ≤ 2147483647) (g3 : -2147483648 ≤ x3 ∧ x3 ≤ 2147483647) : fx_VC (fx_Mx X) 214 [x1, x2, x3] S (fx_p214.getD 4 ([], .inl (0, 0))) := fx_VCR_ok (show fx_VCR (fx_Mx X) 214 [x1, x2, x3] S _ from q214_4 S x1 x2 x3 hS g1 g2 g3)
set_option maxRecDepth 40000 in
theorem w214 (X : (Int → Int) × Int) (zs : List Int) (S : fx_S) (hS : fx_Sok S) (hz : zs.length = (fx_lv0 fx_t214.2.2.1 0).2) (rz : fx_rz fx_t214 zs S) : ∀ p ∈ fx_p214, fx_VC (fx_Mx X) 214 zs S p := by
  obtain ⟨x1, x2, x3, rfl⟩ := fx_len3 hz
  have g1 : -2147483648 ≤ x1 ∧ x1 ≤ 2147483647 := rz 1 _ rfl
  have g2 : -2147483648 ≤ x2 ∧ x2 ≤ 2147483647 := rz 2 _ rfl
  have g3 : -2147483648 ≤ x3 ∧ x3 ≤ 2147483647 := rz 3 _ rfl
  exact List.forall_mem_cons.mpr ⟨(u214_0 X S x1 x2 x3 hS g1 g2 g3), List.forall_mem_cons.mpr ⟨(u214_1 X S x1 x2 x3 hS g1 g2 g3), List.forall_mem_cons.mpr ⟨(u214_2 X S x1 x2 x3 hS g1 g2 g3), List.forall_mem_cons.mpr ⟨(u214_3 X S x1 x2 x3 hS g1 g2 g3), List.forall_mem_cons.mpr ⟨(u214_4 X S x1 x2 x3 hS g1 g2 g3), fun _ h => absurd h List.not_mem_nil⟩⟩⟩⟩⟩
set_option maxRecDepth 40000 in
theorem u215_0 (X : (Int → Int) × Int) (S : fx_S) (x1 x2 x3 x4 x5 : Int) (hS : fx_Sok S) (g1 : -2147483648 ≤ x1 ∧ x1 ≤ 2147483647) (g2 : -2147483648 ≤ x2 ∧ x2 ≤ 2147483647) (g3 : -2147483648 ≤ x3 ∧ x3 ≤ 2147483647) (g4 : -2147483648 ≤ x4 ∧ x4 ≤ 2147483647) (g5 : -2147483648 ≤ x5 ∧ x5 ≤ 2147483647) : fx_VC (fx_Mx X) 215 [x1, x2, x3, x4, x5] S (fx_p215.getD 0 ([], .inl (0, 0))) := fx_VCR_ok (show fx_VCR (fx_Mx X) 215 [x1, x2, x3, x4, x5] S _ from q215_0 S x1 x2 x3 x4 x5 hS g1 g2 g3 g4 g5)
set_option maxRecDepth 40000 in
theorem w215 (X : (Int → Int) × Int) (zs : List Int) (S : fx_S) (hS : fx_Sok S) (hz : zs.length = (fx_lv0 fx_t215.2.2.1 0).2) (rz : fx_rz fx_t215 zs S) : ∀ p ∈ fx_p215, fx_VC (fx_Mx X) 215 zs S p := by
  obtain ⟨x1, x2, x3, x4, x5, rfl⟩ := fx_len5 hz
  have g1 : -2147483648 ≤ x1 ∧ x1 ≤ 2147483647 := rz 1 _ rfl
  have g2 : -2147483648 ≤ x2 ∧ x2 ≤ 2147483647 := rz 2 _ rfl
  have g3 : -2147483648 ≤ x3 ∧ x3 ≤ 2147483647 := rz 3 _ rfl
  have g4 : -2147483648 ≤ x4 ∧ x4 ≤ 2147483647 := rz 4 _ rfl
  have g5 : -2147483648 ≤ x5 ∧ x5 ≤ 2147483647 := rz 5 _ rfl
  exact List.forall_mem_cons.mpr ⟨(u215_0 X S x1 x2 x3 x4 x5 hS g1 g2 g3 g4 g5), fun _ h => absurd h List.not_mem_nil⟩
set_option maxRecDepth 40000 in
theorem u216_0 (X : (Int → Int) × Int) (S : fx_S) (x1 x2 x3 x4 x5 x6 : Int) (hS : fx_Sok S) (g1 : -2147483648 ≤ x1 ∧ x1 ≤ 2147483647) (g2 : -2147483648 ≤ x2 ∧ x2 ≤ 2147483647) (g3 : -2147483648 ≤ x3 ∧ x3 ≤ 2147483647) (g4 : -2147483648 ≤ x4 ∧ x4 ≤ 2147483647) (g5 : -2147483648 ≤ x5 ∧ x5 ≤ 2147483647) (g6 : -2147483648 ≤ x6 ∧ x6 ≤ 2147483647) : fx_VC (fx_Mx X) 216 [x1, x2, x3, x4, x5, x6] S (fx_p216.getD 0 ([], .inl (0, 0))) := fx_VCR_ok (show fx_VCR (fx_Mx X) 216 [x1, x2, x3, x4, x5, x6] S _ from q216_0 S x1 x2 x3 x4 x5 x6 hS g1 g2 g3 g4 g5 g6)
set_option maxRecDepth 40000 in
theorem u216_1 (X : (Int → Int) × Int) (S : fx_S) (x1 x2 x3 x4 x5 x6 : Int) (hS : fx_Sok S) (g1 : -2147483648 ≤ x1 ∧ x1 ≤ 2147483647) (g2 : -2147483648 ≤ x2 ∧ x2 ≤ 2147483647) (g3 : -2147483648 ≤ x3 ∧ x3 ≤ 2147483647) (g4 : -2147483648 ≤ x4 ∧ x4 ≤ 2147483647) (g5 : -2147483648 ≤ x5 ∧ x5 ≤ 2147483647) (g6 : -2147483648 ≤ x6 ∧ x6 ≤ 2147483647) : fx_VC (fx_Mx X) 216 [x1, x2, x3, x4, x5, x6] S (fx_p216.getD 1 ([], .inl (0, 0))) := fx_VCR_ok (show fx_VCR (fx_Mx X) 216 [x1, x2, x3, x4, x5, x6] S _ from q216_1 S x1 x2 x3 x4 x5 x6 hS g1 g2 g3 g4 g5 g6)
set_option maxRecDepth 40000 in
theorem w216 (X : (Int → Int) × Int) (zs : List Int) (S : fx_S) (hS : fx_Sok S) (hz : zs.length = (fx_lv0 fx_t216.2.2.1 0).2) (rz : fx_rz fx_t216 zs S) : ∀ p ∈ fx_p216, fx_VC (fx_Mx X) 216 zs S p := by
  obtain ⟨x1, x2, x3, x4, x5, x6, rfl⟩ := fx_len6 hz
  have g1 : -2147483648 ≤ x1 ∧ x1 ≤ 2147483647 := rz 1 _ rfl
  have g2 : -2147483648 ≤ x2 ∧ x2 ≤ 2147483647 := rz 2 _ rfl
  have g3 : -2147483648 ≤ x3 ∧ x3 ≤ 2147483647 := rz 3 _ rfl
  have g4 : -2147483648 ≤ x4 ∧ x4 ≤ 2147483647 := rz 4 _ rfl
  have g5 : -2147483648 ≤ x5 ∧ x5 ≤ 2147483647 := rz 5 _ rfl
  have g6 : -2147483648 ≤ x6 ∧ x6 ≤ 2147483647 := rz 6 _ rfl
  exact List.forall_mem_cons.mpr ⟨(u216_0 X S x1 x2 x3 x4 x5 x6 hS g1 g2 g3 g4 g5 g6), List.forall_mem_cons.mpr ⟨(u216_1 X S x1 x2 x3 x4 x5 x6 hS g1 g2 g3 g4 g5 g6), fun _ h => absurd h List.not_mem_nil⟩⟩
set_option maxRecDepth 40000 in
theorem u217_0 (X : (Int → Int) × Int) (S : fx_S) (x1 x2 : Int) (hS : fx_Sok S) (g1 : -2147483648 ≤ x1 ∧ x1 ≤ 2147483647) (g2 : -2147483648 ≤ x2 ∧ x2 ≤ 2147483647) : fx_VC (fx_Mx X) 217 [x1, x2] S (fx_p217.getD 0 ([], .inl (0, 0))) := fx_VCR_ok (show fx_VCR (fx_Mx X) 217 [x1, x2] S _ from q217_0 S x1 x2 hS g1 g2)
set_option maxRecDepth 40000 in
theorem u217_1 (X : (Int → Int) × Int) (S : fx_S) (x1 x2 : Int) (hS : fx_Sok S) (g1 : -2147483648 ≤ x1 ∧ x1 ≤ 2147483647) (g2 : -2147483648 ≤ x2 ∧ x2 ≤ 2147483647) : fx_VC (fx_Mx X) 217 [x1, x2] S (fx_p217.getD 1 ([], .inl (0, 0))) := fx_VCR_ok (show fx_VCR (fx_Mx X) 217 [x1, x2] S _ from q217_1 S x1 x2 hS g1 g2)
set_option maxRecDepth 40000 in
theorem u217_2 (X : (Int → Int) × Int) (S : fx_S) (x1 x2 : Int) (hS : fx_Sok S) (g1 : -2147483648 ≤ x1 ∧ x1 ≤ 2147483647) (g2 : -2147483648 ≤ x2 ∧ x2 ≤ 2147483647) : fx_VC (fx_Mx X) 217 [x1, x2] S (fx_p217.getD 2 ([], .inl (0, 0))) := fx_VCR_ok (show fx_VCR (fx_Mx X) 217 [x1, x2] S _ from fun c1 v2 e2 b2 c2 v3 e3 b3 v4 e4 v5 e5 v6 e6 c3 c4 S1 d1 v7 e7 b7 v8 e8 S2 d2 v9 e9 z Z kz bz pz => q217_2 S x1 x2 hS g1 g2 c1 v2 e2 b2 c2 v3 e3 b3 v4 e4 v5 e5 v6 e6 c3 c4 S1 d1 v7 e7 b7 v8 e8 S2 d2 v9 (e9.trans (fx_bq0 _ _)) z Z kz bz pz)
set_option maxRecDepth 40000 in
theorem w217 (X : (Int → Int) × Int) (zs : List Int) (S : fx_S) (hS : fx_Sok S) (hz : zs.length = (fx_lv0 fx_t217.2.2.1 0).2) (rz : fx_rz fx_t217 zs S) : ∀ p ∈ fx_p217, fx_VC (fx_Mx X) 217 zs S p := by
  obtain ⟨x1, x2, rfl⟩ := fx_len2 hz
  have g1 : -2147483648 ≤ x1 ∧ x1 ≤ 2147483647 := rz 1 _ rfl
  have g2 : -2147483648 ≤ x2 ∧ x2 ≤ 2147483647 := rz 2 _ rfl
  exact List.forall_mem_cons.mpr ⟨(u217_0 X S x1 x2 hS g1 g2), List.forall_mem_cons.mpr ⟨(u217_1 X S x1 x2 hS g1 g2), List.forall_mem_cons.mpr ⟨(u217_2 X S x1 x2 hS g1 g2), fun _ h => absurd h List.not_mem_nil⟩⟩⟩
set_option maxRecDepth 40000 in
theorem u218_0 (X : (Int → Int) × Int) (S : fx_S) (hS : fx_Sok S) : fx_VC (fx_Mx X) 218 [] S (fx_p218.getD 0 ([], .inl (0, 0))) := fx_VCR_ok (show fx_VCR (fx_Mx X) 218 [] S _ from q218_0 S hS)
set_option maxRecDepth 40000 in
theorem u218_1 (X : (Int → Int) × Int) (S : fx_S) (hS : fx_Sok S) : fx_VC (fx_Mx X) 218 [] S (fx_p218.getD 1 ([], .inl (0, 0))) := fx_VCR_ok (show fx_VCR (fx_Mx X) 218 [] S _ from q218_1 S hS)
set_option maxRecDepth 40000 in
theorem w218 (X : (Int → Int) × Int) (zs : List Int) (S : fx_S) (hS : fx_Sok S) (hz : zs.length = (fx_lv0 fx_t218.2.2.1 0).2) (rz : fx_rz fx_t218 zs S) : ∀ p ∈ fx_p218, fx_VC (fx_Mx X) 218 zs S p := by
  obtain rfl := List.eq_nil_of_length_eq_zero hz
  exact List.forall_mem_cons.mpr ⟨(u218_0 X S hS), List.forall_mem_cons.mpr ⟨(u218_1 X S hS), fun _ h => absurd h List.not_mem_nil⟩⟩
set_option maxRecDepth 40000 in
theorem u219_0 (X : (Int → Int) × Int) (S : fx_S) (x2 x3 : Int) (hS : fx_Sok S) (g2 : 0 ≤ x2 ∧ x2 < S.2.2) (g3 : -2147483648 ≤ x3 ∧ x3 ≤ 2147483647) : fx_VC (fx_Mx X) 219 [x2, x3] S (fx_p219.getD 0 ([], .inl (0, 0))) := fx_VCR_ok (show fx_VCR (fx_Mx X) 219 [x2, x3] S _ from q219_0 S x2 x3 hS g2 g3)
set_option maxRecDepth 40000 in
theorem u219_1 (X : (Int → Int) × Int) (S : fx_S) (x2 x3 : Int) (hS : fx_Sok S) (g2 : 0 ≤ x2 ∧ x2 < S.2.2) (g3 : -2147483648 ≤ x3 ∧ x3 ≤ 2147483647) : fx_VC (fx_Mx X) 219 [x2, x3] S (fx_p219.getD 1 ([], .inl (0, 0))) := fx_VCR_ok (show fx_VCR (fx_Mx X) 219 [x2, x3] S _ from q219_1 S x2 x3 hS g2 g3)
set_option maxRecDepth 40000 in
theorem u219_2 (X : (Int → Int) × Int) (S : fx_S) (x2 x3 : Int) (hS : fx_Sok S) (g2 : 0 ≤ x2 ∧ x2 < S.2.2) (g3 : -2147483648 ≤ x3 ∧ x3 ≤ 2147483647) : fx_VC (fx_Mx X) 219 [x2, x3] S (fx_p219.getD 2 ([], .inl (0, 0))) := fx_VCR_ok (show fx_VCR (fx_Mx X) 219 [x2, x3] S _ from q219_2 S x2 x3 hS g2 g3)
set_option maxRecDepth 40000 in
theorem u219_3 (X : (Int → Int) × Int) (S : fx_S) (x2 x3 : Int) (hS : fx_Sok S) (g2 : 0 ≤ x2 ∧ x2 < S.2.2) (g3 : -2147483648 ≤ x3 ∧ x3 ≤ 2147483647) : fx_VC (fx_Mx X) 219 [x2, x3] S (fx_p219.getD 3 ([], .inl (0, 0))) := fx_VCR_ok (show fx_VCR (fx_Mx X) 219 [x2, x3] S _ from q219_3 S x2 x3 hS g2 g3)
set_option maxRecDepth 40000 in
theorem w219 (X : (Int → Int) × Int) (zs : List Int) (S : fx_S) (hS : fx_Sok S) (hz : zs.length = (fx_lv0 fx_t219.2.2.1 0).2) (rz : fx_rz fx_t219 zs S) : ∀ p ∈ fx_p219, fx_VC (fx_Mx X) 219 zs S p := by
  obtain ⟨x2, x3, rfl⟩ := fx_len2 hz
  have g2 : 0 ≤ x2 ∧ x2 < S.2.2 := rz 2 _ rfl
  have g3 : -2147483648 ≤ x3 ∧ x3 ≤ 2147483647 := rz 3 _ rfl
  exact List.forall_mem_cons.mpr ⟨(u219_0 X S x2 x3 hS g2 g3), List.forall_mem_cons.mpr ⟨(u219_1 X S x2 x3 hS g2 g3), List.forall_mem_cons.mpr ⟨(u219_2 X S x2 x3 hS g2 g3), List.forall_mem_cons.mpr ⟨(u219_3 X S x2 x3 hS g2 g3), fun _ h => absurd h List.not_mem_nil⟩⟩⟩⟩
set_option maxRecDepth 40000 in
theorem u220_0 (X : (Int → Int) × Int) (S : fx_S) (x1 : Int) (hS : fx_Sok S) (g1 : -2147483648 ≤ x1 ∧ x1 ≤ 2147483647) : fx_VC (fx_Mx X) 220 [x1] S (fx_p220.getD 0 ([], .inl (0, 0))) := fx_VCR_ok (show fx_VCR (fx_Mx X) 220 [x1] S _ from q220_0 S x1 hS g1)
set_option maxRecDepth 40000 in
theorem u220_1 (X : (Int → Int) × Int) (S : fx_S) (x1 : Int) (hS : fx_Sok S) (g1 : -2147483648 ≤ x1 ∧ x1 ≤ 2147483647) : fx_VC (fx_Mx X) 220 [x1] S (fx_p220.getD 1 ([], .inl (0, 0))) := fx_VCR_ok (show fx_VCR (fx_Mx X) 220 [x1] S _ from q220_1 S x1 hS g1)
set_option maxRecDepth 40000 in
theorem w220 (X : (Int → Int) × Int) (zs : List Int) (S : fx_S) (hS : fx_Sok S) (hz : zs.length = (fx_lv0 fx_t220.2.2.1 0).2) (rz : fx_rz fx_t220 zs S) : ∀ p ∈ fx_p220, fx_VC (fx_Mx X) 220 zs S p := by
  obtain ⟨x1, rfl⟩ := fx_len1 hz
  have g1 : -2147483648 ≤ x1 ∧ x1 ≤ 2147483647 := rz 1 _ rfl
  exact List.forall_mem_cons.mpr ⟨(u220_0 X S x1 hS g1), List.forall_mem_cons.mpr ⟨(u220_1 X S x1 hS g1), fun _ h => absurd h List.not_mem_nil⟩⟩
set_option maxRecDepth 40000 in
theorem u221_0 (X : (Int → Int) × Int) (S : fx_S) (hS : fx_Sok S) : fx_VC (fx_Mx X) 221 [] S (fx_p221.getD 0 ([], .inl (0, 0))) := fx_VCR_ok (show fx_VCR (fx_Mx X) 221 [] S _ from q221_0 S hS)
set_option maxRecDepth 40000 in
theorem u221_1 (X : (Int → Int) × Int) (S : fx_S) (hS : fx_Sok S) : fx_VC (fx_Mx X) 221 [] S (fx_p221.getD 1 ([], .inl (0, 0))) := fx_VCR_ok (show fx_VCR (fx_Mx X) 221 [] S _ from q221_1 S hS)
set_option maxRecDepth 40000 in
theorem w221 (X : (Int → Int) × Int) (zs : List Int) (S : fx_S) (hS : fx_Sok S) (hz : zs.length = (fx_lv0 fx_t221.2.2.1 0).2) (rz : fx_rz fx_t221 zs S) : ∀ p ∈ fx_p221, fx_VC (fx_Mx X) 221 zs S p := by
  obtain rfl := List.eq_nil_of_length_eq_zero hz
  exact List.forall_mem_cons.mpr ⟨(u221_0 X S hS), List.forall_mem_cons.mpr ⟨(u221_1 X S hS), fun _ h => absurd h List.not_mem_nil⟩⟩
set_option maxRecDepth 40000 in
theorem u222_0 (X : (Int → Int) × Int) (S : fx_S) (hS : fx_Sok S) : fx_VC (fx_Mx X) 222 [] S (fx_p222.getD 0 ([], .inl (0, 0))) := fx_VCR_ok (show fx_VCR (fx_Mx X) 222 [] S _ from q222_0 S hS)
