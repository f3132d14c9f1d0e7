/-! FX: the paths of the entries, all -/
set_option maxRecDepth 40000 in
theorem u364_2 (X : (Int → Int) × Int) (S : fx_S) (x1 x2 x3 : Int) (hS : fx_Sok S) (g1 : -2147483648 ≤ x1 ∧ x1 ≤ 2147483647) (g2 : -2147483648 ≤ x2 ∧ x2 ≤ 2147483647) (g3 : -2147483648 ≤ x3 ∧ x3 ≤ 2147483647) : fx_VC (fx_Mx X) 364 [x1, x2, x3] S (fx_p364.getD 2 ([], .inl (0, 0))) := fx_VCR_ok (show fx_VCR (fx_Mx X) 364 [x1, x2, x3] S _ from q364_2 S x1 x2 x3 hS g1 g2 g3)
set_option maxRecDepth 40000 in
theorem u364_3 (X : (Int → Int) × Int) (S : fx_S) (x1 x2 x3 : Int) (hS : fx_Sok S) (g1 : -2147483648 ≤ x1 ∧ x1 ≤ 2147483647) (g2 : -2147483648 ≤ x2 ∧ x2 ≤ 2147483647) (g3 : -2147483648 ≤ x3 ∧ x3 ≤ 2147483647) : fx_VC (fx_Mx X) 364 [x1, x2, x3] S (fx_p364.getD 3 ([], .inl (0, 0))) := fx_VCR_ok (show fx_VCR (fx_Mx X) 364 [x1, x2, x3] S _ from q364_3 S x1 x2 x3 hS g1 g2 g3)
set_option maxRecDepth 40000 in
theorem u364_4 (X : (Int → Int) × Int) (S : fx_S) (x1 x2 x3 : Int) (hS : fx_Sok S) (g1 : -2147483648 ≤ x1 ∧ x1 ≤ 2147483647) (g2 : -2147483648 ≤ x2 ∧ x2 ≤ 2147483647) (g3 : -2147483648 ≤ x3 ∧ x3 ≤ 2147483647) : fx_VC (fx_Mx X) 364 [x1, x2, x3] S (fx_p364.getD 4 ([], .inl (0, 0))) := fx_VCR_ok (show fx_VCR (fx_Mx X) 364 [x1, x2, x3] S _ from q364_4 S x1 x2 x3 hS g1 g2 g3)
set_option maxRecDepth 40000 in
theorem u364_5 (X : (Int → Int) × Int) (S : fx_S) (x1 x2 x3 : Int) (hS : fx_Sok S) (g1 : -2147483648 ≤ x1 ∧ x1 ≤ 2147483647) (g2 : -2147483648 ≤ x2 ∧ x2 ≤ 2147483647) (g3 : -2147483648 ≤ x3 ∧ x3 ≤ 2147483647) : fx_VC (fx_Mx X) 364 [x1, x2, x3] S (fx_p364.getD 5 ([], .inl (0, 0))) := fx_VCR_ok (show fx_VCR (fx_Mx X) 364 [x1, x2, x3] S _ from q364_5 S x1 x2 x3 hS g1 g2 g3)
set_option maxRecDepth 40000 in
theorem u364_6 (X : (Int → Int) × Int) (S : fx_S) (x1 x2 x3 : Int) (hS : fx_Sok S) (g1 : -2147483648 ≤ x1 ∧ x1 ≤ 2147483647) (g2 : -2147483648 ≤ x2 ∧ x2 ≤ 2147483647) (g3 : -2147483648 ≤ x3 ∧ x3 ≤ 2147483647) : fx_VC (fx_Mx X) 364 [x1, x2, x3] S (fx_p364.getD 6 ([], .inl (0, 0))) := fx_VCR_ok (show fx_VCR (fx_Mx X) 364 [x1, x2, x3] S _ from q364_6 S x1 x2 x3 hS g1 g2 g3)
set_option maxRecDepth 40000 in
theorem w364 (X : (Int → Int) × Int) (zs : List Int) (S : fx_S) (hS : fx_Sok S) (hz : zs.length = (fx_lv0 fx_t364.2.2.1 0).2) (rz : fx_rz fx_t364 zs S) : ∀ p ∈ fx_p364, fx_VC (fx_Mx X) 364 zs S p := by
  obtain ⟨x1, x2, x3, rfl⟩ := fx_len3 hz
  have g1 : -2147483648 ≤ x1 ∧ x1 ≤ 2147483647 := rz 1 _ rfl
  have g2 : -2147483648 ≤ x2 ∧ x2 ≤ 2147483647 := rz 2 _ rfl
  have g3 : -2147483648 ≤ x3 ∧ x3 ≤ 2147483647 := rz 3 _ rfl
  exact List.forall_mem_cons.mpr ⟨(u364_0 X S x1 x2 x3 hS g1 g2 g3), List.forall_mem_cons.mpr ⟨(u364_1 X S x1 x2 x3 hS g1 g2 g3), List.forall_mem_cons.mpr ⟨(u364_2 X S x1 x2 x3 hS g1 g2 g3), List.forall_mem_cons.mpr ⟨(u364_3 X S x1 x2 x3 hS g1 g2 g3), List.forall_mem_cons.mpr ⟨(u364_4 X S x1 x2 x3 hS g1 g2 g3), List.forall_mem_cons.mpr ⟨(u364_5 X S x1 x2 x3 hS g1 g2 g3), List.forall_mem_cons.mpr ⟨(u364_6 X S x1 x2 x3 hS g1 g2 g3), fun _ h => absurd h List.not_mem_nil⟩⟩⟩⟩⟩⟩⟩
set_option maxRecDepth 40000 in
theorem u365_0 (X : (Int → Int) × Int) (S : fx_S) (x1 x2 x3 : Int) (hS : fx_Sok S) (g1 : -2147483648 ≤ x1 ∧ x1 ≤ 2147483647) (g2 : -2147483648 ≤ x2 ∧ x2 ≤ 2147483647) (g3 : -2147483648 ≤ x3 ∧ x3 ≤ 2147483647) : fx_VC (fx_Mx X) 365 [x1, x2, x3] S (fx_p365.getD 0 ([], .inl (0, 0))) := fx_VCR_ok (show fx_VCR (fx_Mx X) 365 [x1, x2, x3] S _ from q365_0 S x1 x2 x3 hS g1 g2 g3)
set_option maxRecDepth 40000 in
theorem u365_1 (X : (Int → Int) × Int) (S : fx_S) (x1 x2 x3 : Int) (hS : fx_Sok S) (g1 : -2147483648 ≤ x1 ∧ x1 ≤ 2147483647) (g2 : -2147483648 ≤ x2 ∧ x2 ≤ 2147483647) (g3 : -2147483648 ≤ x3 ∧ x3 ≤ 2147483647) : fx_VC (fx_Mx X) 365 [x1, x2, x3] S (fx_p365.getD 1 ([], .inl (0, 0))) := fx_VCR_ok (show fx_VCR (fx_Mx X) 365 [x1, x2, x3] S _ from q365_1 S x1 x2 x3 hS g1 g2 g3)
set_option maxRecDepth 40000 in
theorem u365_2 (X : (Int → Int) × Int) (S : fx_S) (x1 x2 x3 : Int) (hS : fx_Sok S) (g1 : -2147483648 ≤ x1 ∧ x1 ≤ 2147483647) (g2 : -2147483648 ≤ x2 ∧ x2 ≤ 2147483647) (g3 : -2147483648 ≤ x3 ∧ x3 ≤ 2147483647) : fx_VC (fx_Mx X) 365 [x1, x2, x3] S (fx_p365.getD 2 ([], .inl (0, 0))) := fx_VCR_ok (show fx_VCR (fx_Mx X) 365 [x1, x2, x3] S _ from q365_2 S x1 x2 x3 hS g1 g2 g3)
set_option maxRecDepth 40000 in
theorem u365_3 (X : (Int → Int) × Int) (S : fx_S) (x1 x2 x3 : Int) (hS : fx_Sok S) (g1 : -2147483648 ≤ x1 ∧ x1 ≤ 2147483647) (g2 : -2147483648 ≤ x2 ∧ x2 ≤ 2147483647) (g3 : -2147483648 ≤ x3 ∧ x3 ≤ 2147483647) : fx_VC (fx_Mx X) 365 [x1, x2, x3] S (fx_p365.getD 3 ([], .inl (0, 0))) := fx_VCR_ok (show fx_VCR (fx_Mx X) 365 [x1, x2, x3] S _ from q365_3 S x1 x2 x3 hS g1 g2 g3)
set_option maxRecDepth 40000 in
theorem u365_4 (X : (Int → Int) × Int) (S : fx_S) (x1 x2 x3 : Int) (hS : fx_Sok S) (g1 : -2147483648 ≤ x1 ∧ x1 ≤ 2147483647) (g2 : -2147483648 ≤ x2 ∧ x2 ≤ 2147483647) (g3 : -2147483648 ≤ x3 ∧ x3 ≤ 2147483647) : fx_VC (fx_Mx X) 365 [x1, x2, x3] S (fx_p365.getD 4 ([], .inl (0, 0))) := fx_VCR_ok (show fx_VCR (fx_Mx X) 365 [x1, x2, x3] S _ from q365_4 S x1 x2 x3 hS g1 g2 g3)
set_option maxRecDepth 40000 in
theorem w365 (X : (Int → Int) × Int) (zs : List Int) (S : fx_S) (hS : fx_Sok S) (hz : zs.length = (fx_lv0 fx_t365.2.2.1 0).2) (rz : fx_rz fx_t365 zs S) : ∀ p ∈ fx_p365, fx_VC (fx_Mx X) 365 zs S p := by
  obtain ⟨x1, x2, x3, rfl⟩ := fx_len3 hz
  have g1 : -2147483648 ≤ x1 ∧ x1 ≤ 2147483647 := rz 1 _ rfl
  have g2 : -2147483648 ≤ x2 ∧ x2 ≤ 2147483647 := rz 2 _ rfl
  have g3 : -2147483648 ≤ x3 ∧ x3 ≤ 2147483647 := rz 3 _ rfl
  exact List.forall_mem_cons.mpr ⟨(u365_0 X S x1 x2 x3 hS g1 g2 g3), List.forall_mem_cons.mpr ⟨(u365_1 X S x1 x2 x3 hS g1 g2 g3), List.forall_mem_cons.mpr ⟨(u365_2 X S x1 x2 x3 hS g1 g2 g3), List.forall_mem_cons.mpr ⟨(u365_3 X S x1 x2 x3 hS g1 g2 g3), List.forall_mem_cons.mpr ⟨(u365_4 X S x1 x2 x3 hS g1 g2 g3), fun _ h => absurd h List.not_mem_nil⟩⟩⟩⟩⟩
set_option maxRecDepth 40000 in
theorem u366_0 (X : (Int → Int) × Int) (S : fx_S) (x1 x2 x3 : Int) (hS : fx_Sok S) (g1 : -2147483648 ≤ x1 ∧ x1 ≤ 2147483647) (g2 : -2147483648 ≤ x2 ∧ x2 ≤ 2147483647) (g3 : -2147483648 ≤ x3 ∧ x3 ≤ 2147483647) : fx_VC (fx_Mx X) 366 [x1, x2, x3] S (fx_p366.getD 0 ([], .inl (0, 0))) := fx_VCR_ok (show fx_VCR (fx_Mx X) 366 [x1, x2, x3] S _ from q366_0 S x1 x2 x3 hS g1 g2 g3)
set_option maxRecDepth 40000 in
theorem u366_1 (X : (Int → Int) × Int) (S : fx_S) (x1 x2 x3 : Int) (hS : fx_Sok S) (g1 : -2147483648 ≤ x1 ∧ x1 ≤ 2147483647) (g2 : -2147483648 ≤ x2 ∧ x2 ≤ 2147483647) (g3 : -2147483648 ≤ x3 ∧ x3 ≤ 2147483647) : fx_VC (fx_Mx X) 366 [x1, x2, x3] S (fx_p366.getD 1 ([], .inl (0, 0))) := fx_VCR_ok (show fx_VCR (fx_Mx X) 366 [x1, x2, x3] S _ from q366_1 S x1 x2 x3 hS g1 g2 g3)
set_option maxRecDepth 40000 in
theorem u366_2 (X : (Int → Int) × Int) (S : fx_S) (x1 x2 x3 : Int) (hS : fx_Sok S) (g1 : -2147483648 ≤ x1 ∧ x1 ≤ 2147483647) (g2 : -2147483648 ≤ x2 ∧ x2 ≤ 2147483647) (g3 : -2147483648 ≤ x3 ∧ x3 ≤ 2147483647) : fx_VC (fx_Mx X) 366 [x1, x2, x3] S (fx_p366.getD 2 ([], .inl (0, 0))) := fx_VCR_ok (show fx_VCR (fx_Mx X) 366 [x1, x2, x3] S _ from q366_2 S x1 x2 x3 hS g1 g2 g3)
set_option maxRecDepth 40000 in
theorem w366 (X : (Int → Int) × Int) (zs : List Int) (S : fx_S) (hS : fx_Sok S) (hz : zs.length = (fx_lv0 fx_t366.2.2.1 0).2) (rz : fx_rz fx_t366 zs S) : ∀ p ∈ fx_p366, fx_VC (fx_Mx X) 366 zs S p := by
  obtain ⟨x1, x2, x3, rfl⟩ := fx_len3 hz
  have g1 : -2147483648 ≤ x1 ∧ x1 ≤ 2147483647 := rz 1 _ rfl
  have g2 : -2147483648 ≤ x2 ∧ x2 ≤ 2147483647 := rz 2 _ rfl
  have g3 : -2147483648 ≤ x3 ∧ x3 ≤ 2147483647 := rz 3 _ rfl
  exact List.forall_mem_cons.mpr ⟨(u366_0 X S x1 x2 x3 hS g1 g2 g3), List.forall_mem_cons.mpr ⟨(u366_1 X S x1 x2 x3 hS g1 g2 g3), List.forall_mem_cons.mpr ⟨(u366_2 X S x1 x2 x3 hS g1 g2 g3), fun _ h => absurd h List.not_mem_nil⟩⟩⟩
set_option maxRecDepth 40000 in
theorem u367_0 (X : (Int → Int) × Int) (S : fx_S) (x1 : Int) (hS : fx_Sok S) (g1 : -2147483648 ≤ x1 ∧ x1 ≤ 2147483647) : fx_VC (fx_Mx X) 367 [x1] S (fx_p367.getD 0 ([], .inl (0, 0))) := fx_VCR_ok (show fx_VCR (fx_Mx X) 367 [x1] S _ from q367_0 S x1 hS g1)
set_option maxRecDepth 40000 in
theorem w367 (X : (Int → Int) × Int) (zs : List Int) (S : fx_S) (hS : fx_Sok S) (hz : zs.length = (fx_lv0 fx_t367.2.2.1 0).2) (rz : fx_rz fx_t367 zs S) : ∀ p ∈ fx_p367, fx_VC (fx_Mx X) 367 zs S p := by
  obtain ⟨x1, rfl⟩ := fx_len1 hz
  have g1 : -2147483648 ≤ x1 ∧ x1 ≤ 2147483647 := rz 1 _ rfl
  exact List.forall_mem_cons.mpr ⟨(u367_0 X S x1 hS g1), fun _ h => absurd h List.not_mem_nil⟩
set_option maxRecDepth 40000 in
theorem u368_0 (X : (Int → Int) × Int) (S : fx_S) (x1 x2 x3 : Int) (hS : fx_Sok S) (g1 : -2147483648 ≤ x1 ∧ x1 ≤ 2147483647) (g2 : -2147483648 ≤ x2 ∧ x2 ≤ 2147483647) (g3 : -2147483648 ≤ x3 ∧ x3 ≤ 2147483647) : fx_VC (fx_Mx X) 368 [x1, x2, x3] S (fx_p368.getD 0 ([], .inl (0, 0))) := fx_VCR_ok (show fx_VCR (fx_Mx X) 368 [x1, x2, x3] S _ from fun v3 e3 b3 c1 v4 e4 z Z kz bz pz => q368_0 S x1 x2 x3 hS g1 g2 g3 v3 e3 b3 c1 v4 (e4.trans (fx_bq0 _ _)) z Z kz bz pz)
set_option maxRecDepth 40000 in
theorem u368_1 (X : (Int → Int) × Int) (S : fx_S) (x1 x2 x3 : Int) (hS : fx_Sok S) (g1 : -2147483648 ≤ x1 ∧ x1 ≤ 2147483647) (g2 : -2147483648 ≤ x2 ∧ x2 ≤ 2147483647) (g3 : -2147483648 ≤ x3 ∧ x3 ≤ 2147483647) : fx_VC (fx_Mx X) 368 [x1, x2, x3] S (fx_p368.getD 1 ([], .inl (0, 0))) := fx_VCR_ok (show fx_VCR (fx_Mx X) 368 [x1, x2, x3] S _ from q368_1 S x1 x2 x3 hS g1 g2 g3)
set_option maxRecDepth 40000 in
theorem u368_2 (X : (Int → Int) × Int) (S : fx_S) (x1 x2 x3 : Int) (hS : fx_Sok S) (g1 : -2147483648 ≤ x1 ∧ x1 ≤ 2147483647) (g2 : -2147483648 ≤ x2 ∧ x2 ≤ 2147483647) (g3 : -2147483648 ≤ x3 ∧ x3 ≤ 2147483647) : fx_VC (fx_Mx X) 368 [x1, x2, x3] S (fx_p368.getD 2 ([], .inl (0, 0))) := fx_VCR_ok (show fx_VCR (fx_Mx X) 368 [x1, x2, x3] S _ from q368_2 S x1 x2 x3 hS g1 g2 g3)
set_option maxRecDepth 40000 in
theorem u368_3 (X : (Int → Int) × Int) (S : fx_S) (x1 x2 x3 : Int) (hS : fx_Sok S) (g1 : -2147483648 ≤ x1 ∧ x1 ≤ 2147483647) (g2 : -2147483648 ≤ x2 ∧ x2 ≤ 2147483647) (g3 : -2147483648 ≤ x3 ∧ x3 ≤ 2147483647) : fx_VC (fx_Mx X) 368 [x1, x2, x3] S (fx_p368.getD 3 ([], .inl (0, 0))) := fx_VCR_ok (show fx_VCR (fx_Mx X) 368 [x1, x2, x3] S _ from q368_3 S x1 x2 x3 hS g1 g2 g3)
set_option maxRecDepth 40000 in
theorem u368_4 (X : (Int → Int) × Int) (S : fx_S) (x1 x2 x3 : Int) (hS : fx_Sok S) (g1 : -2147483648 ≤ x1 ∧ x1 ≤ 2147483647) (g2 : -2147483648 ≤ x2 ∧ x2 ≤ 2147483647) (g3 : -2147483648 ≤ x3 ∧ x3 ≤ 2147483647) : fx_VC (fx_Mx X) 368 [x1, x2, x3] S (fx_p368.getD 4 ([], .inl (0, 0))) := fx_VCR_ok (show fx_VCR (fx_Mx X) 368 [x1, x2, x3] S _ from q368_4 S x1 x2 x3 hS g1 g2 g3)
set_option maxRecDepth 40000 in
theorem w368 (X : (Int → Int) × Int) (zs : List Int) (S : fx_S) (hS : fx_Sok S) (hz : zs.length = (fx_lv0 fx_t368.2.2.1 0).2) (rz : fx_rz fx_t368 zs S) : ∀ p ∈ fx_p368, fx_VC (fx_Mx X) 368 zs S p := by
  obtain ⟨x1, x2, x3, rfl⟩ := fx_len3 hz
  have g1 : -2147483648 ≤ x1 ∧ x1 ≤ 2147483647 := rz 1 _ rfl
  have g2 : -2147483648 ≤ x2 ∧ x2 ≤ 2147483647 := rz 2 _ rfl
  have g3 : -2147483648 ≤ x3 ∧ x3 ≤ 2147483647 := rz 3 _ rfl
  exact List.forall_mem_cons.mpr ⟨(u368_0 X S x1 x2 x3 hS g1 g2 g3), List.forall_mem_cons.mpr ⟨(u368_1 X S x1 x2 x3 hS g1 g2 g3), List.forall_mem_cons.mpr ⟨(u368_2 X S x1 x2 x3 hS g1 g2 g3), List.forall_mem_cons.mpr ⟨(u368_3 X S x1 x2 x3 hS g1 g2 g3), List.forall_mem_cons.mpr ⟨(u368_4 X S x1 x2 x3 hS g1 g2 g3), fun _ h => absurd h List.not_mem_nil⟩⟩⟩⟩⟩
set_option maxRecDepth 40000 in
theorem u369_0 (X : (Int → Int) × Int) (S : fx_S) (x1 x2 x3 x4 : Int) (hS : fx_Sok S) (g1 : -2147483648 ≤ x1 ∧ x1 ≤ 2147483647) (g2 : -2147483648 ≤ x2 ∧ x2 ≤ 2147483647) (g3 : -2147483648 ≤ x3 ∧ x3 ≤ 2147483647) (g4 : -2147483648 ≤ x4 ∧ x4 ≤ 2147483647) : fx_VC (fx_Mx X) 369 [x1, x2, x3, x4] S (fx_p369.getD 0 ([], .inl (0, 0))) := fx_VCR_ok (show fx_VCR (fx_Mx X) 369 [x1, x2, x3, x4] S _ from q369_0 S x1 x2 x3 x4 hS g1 g2 g3 g4)
set_option maxRecDepth 40000 in
theorem u369_1 (X : (Int → Int) × Int) (S : fx_S) (x1 x2 x3 x4 : Int) (hS : fx_Sok S) (g1 : -2147483648 ≤ x1 ∧ x1 ≤ 2147483647) (g2 : -2147483648 ≤ x2 ∧ x2 ≤ 2147483647) (g3 : -2147483648 ≤ x3 ∧ x3 ≤ 2147483647) (g4 : -2147483648 ≤ x4 ∧ x4 ≤ 2147483647) : fx_VC (fx_Mx X) 369 [x1, x2, x3, x4] S (fx_p369.getD 1 ([], .inl (0, 0))) := fx_VCR_ok (show fx_VCR (fx_Mx X) 369 [x1, x2, x3, x4] S _ from q369_1 S x1 x2 x3 x4 hS g1 g2 g3 g4)
set_option maxRecDepth 40000 in
theorem u369_2 (X : (Int → Int) × Int) (S : fx_S) (x1 x2 x3 x4 : Int) (hS : fx_Sok S) (g1 : -2147483648 ≤ x1 ∧ x1 ≤ 2147483647) (g2 : -2147483648 ≤ x2 ∧ x2 ≤ 2147483647) (g3 : -2147483648 ≤ x3 ∧ x3 ≤ 2147483647) (g4 : -2147483648 ≤ x4 ∧ x4 ≤ 2147483647) : fx_VC (fx_Mx X) 369 [x1, x2, x3, x4] S (fx_p369.getD 2 ([], .inl (0, 0))) := fx_VCR_ok (show fx_VCR (fx_Mx X) 369 [x1, x2, x3, x4] S _ from q369_2 S x1 x2 x3 x4 hS g1 g2 g3 g4)
set_option maxRecDepth 40000 in
theorem u369_3 (X : (Int → Int) × Int) (S : fx_S) (x1 x2 x3 x4 : Int) (hS : fx_Sok S) (g1 : -2147483648 ≤ x1 ∧ x1 ≤ 2147483647) (g2 : -2147483648 ≤ x2 ∧ x2 ≤ 2147483647) (g3 : -2147483648 ≤ x3 ∧ x3 ≤ 2147483647) (g4 : -2147483648 ≤ x4 ∧ x4 ≤ 2147483647) : fx_VC (fx_Mx X) 369 [x1, x2, x3, x4] S (fx_p369.getD 3 ([], .inl (0, 0))) := fx_VCR_ok (show fx_VCR (fx_Mx X) 369 [x1, x2, x3, x4] S _ from q369_3 S x1 x2 x3 x4 hS g1 g2 g3 g4)
set_option maxRecDepth 40000 in
theorem u369_4 (X : (Int → Int) × Int) (S : fx_S) (x1 x2 x3 x4 : Int) (hS : fx_Sok S) (g1 : -2147483648 ≤ x1 ∧ x1 ≤ 2147483647) (g2 : -2147483648 ≤ x2 ∧ x2 ≤ 2147483647) (g3 : -2147483648 ≤ x3 ∧ x3 ≤ 2147483647) (g4 : -2147483648 ≤ x4 ∧ x4 ≤ 2147483647) : fx_VC (fx_Mx X) 369 [x1, x2, x3, x4] S (fx_p369.getD 4 ([], .inl (0, 0))) := fx_VCR_ok (show fx_VCR (fx_Mx X) 369 [x1, x2, x3, x4] S _ from q369_4 S x1 x2 x3 x4 hS g1 g2 g3 g4)
set_option maxRecDepth 40000 in
theorem u369_5 (X : (Int → Int) × Int) (S : fx_S) (x1 x2 x3 x4 : Int) (hS : fx_Sok S) (g1 : -2147483648 ≤ x1 ∧ x1 ≤ 2147483647) (g2 : -2147483648 ≤ x2 ∧ x2 ≤ 2147483647) (g3 : -2147483648 ≤ x3 ∧ x3 ≤ 2147483647) (g4 : -2147483648 ≤ x4 ∧ x4 ≤ 2147483647) : fx_VC (fx_Mx X) 369 [x1, x2, x3, x4] S (fx_p369.getD 5 ([], .inl (0, 0))) := fx_VCR_ok (show fx_VCR (fx_Mx X) 369 [x1, x2, x3, x4] S _ from q369_5 S x1 x2 x3 x4 hS g1 g2 g3 g4)
set_option maxRecDepth 40000 in
theorem u369_6 (X : (Int → Int) × Int) (S : fx_S) (x1 x2 x3 x4 : Int) (hS : fx_Sok S) (g1 : -2147483648 ≤ x1 ∧ x1 ≤ 2147483647) (g2 : -2147483648 ≤ x2 ∧ x2 ≤ 2147483647) (g3 : -2147483648 ≤ x3 ∧ x3 ≤ 2147483647) (g4 : -2147483648 ≤ x4 ∧ x4 ≤ 2147483647) : fx_VC (fx_Mx X) 369 [x1, x2, x3, x4] S (fx_p369.getD 6 ([], .inl (0, 0))) := fx_VCR_ok (show fx_VCR (fx_Mx X) 369 [x1, x2, x3, x4] S _ from q369_6 S x1 x2 x3 x4 hS g1 g2 g3 g4)
set_option maxRecDepth 40000 in
theorem w369 (X : (Int → Int) × Int) (zs : List Int) (S : fx_S) (hS : fx_Sok S) (hz : zs.length = (fx_lv0 fx_t369.2.2.1 0).2) (rz : fx_rz fx_t369 zs S) : ∀ p ∈ fx_p369, fx_VC (fx_Mx X) 369 zs S p := by
  obtain ⟨x1, x2, x3, x4, rfl⟩ := fx_len4 hz
  have g1 : -2147483648 ≤ x1 ∧ x1 ≤ 2147483647 := rz 1 _ rfl
  have g2 : -2147483648 ≤ x2 ∧ x2 ≤ 2147483647 := rz 2 _ rfl
  have g3 : -2147483648 ≤ x3 ∧ x3 ≤ 2147483647 := rz 3 _ rfl
  have g4 : -2147483648 ≤ x4 ∧ x4 ≤ 2147483647 := rz 4 _ rfl
  exact List.forall_mem_cons.mpr ⟨(u369_0 X S x1 x2 x3 x4 hS g1 g2 g3 g4), List.forall_mem_cons.mpr ⟨(u369_1 X S x1 x2 x3 x4 hS g1 g2 g3 g4), List.forall_mem_cons.mpr ⟨(u369_2 X S x1 x2 x3 x4 hS g1 g2 g3 g4), List.forall_mem_cons.mpr ⟨(u369_3 X S x1 x2 x3 x4 hS g1 g2 g3 g4), List.forall_mem_cons.mpr ⟨(u369_4 X S x1 x2 x3 x4 hS g1 g2 g3 g4), List.forall_mem_cons.mpr ⟨(u369_5 X S x1 x2 x3 x4 hS g1 g2 g3 g4), List.forall_mem_cons.mpr ⟨(u369_6 X S x1 x2 x3 x4 hS g1 g2 g3 g4), fun _ h => absurd h List.not_mem_nil⟩⟩⟩⟩⟩⟩⟩
set_option maxRecDepth 40000 in
theorem u370_0 (X : (Int → Int) × Int) (S : fx_S) (x1 x2 x3 : Int) (hS : fx_Sok S) (g1 : -2147483648 ≤ x1 ∧ x1 ≤ 2147483647) (g2 : -2147483648 ≤ x2 ∧ x2 ≤ 2147483647) (g3 : -2147483648 ≤ x3 ∧ x3 ≤ 2147483647) : fx_VC (fx_Mx X) 370 [x1, x2, x3] S (fx_p370.getD 0 ([], .inl (0, 0))) := fx_VCR_ok (show fx_VCR (fx_Mx X) 370 [x1, x2, x3] S _ from q370_0 S x1 x2 x3 hS g1 g2 g3)
set_option maxRecDepth 40000 in
theorem u370_1 (X : (Int → Int) × Int) (S : fx_S) (x1 x2 x3 : Int) (hS : fx_Sok S) (g1 : -2147483648 ≤ x1 ∧ x1 ≤ 2147483647) (g2 : -2147483648 ≤ x2 ∧ x2 ≤ 2147483647) (g3 : -2147483648 ≤ x3 ∧ x3 ≤ 2147483647) : fx_VC (fx_Mx X) 370 [x1, x2, x3] S (fx_p370.getD 1 ([], .inl (0, 0))) := fx_VCR_ok (show fx_VCR (fx_Mx X) 370 [x1, x2, x3] S _ from q370_1 S x1 x2 x3 hS g1 g2 g3)
set_option maxRecDepth 40000 in
theorem u370_2 (X : (Int → Int) × Int) (S : fx_S) (x1 x2 x3 : Int) (hS : fx_Sok S) (g1 : -2147483648 ≤ x1 ∧ x1 ≤ 2147483647) (g2 : -2147483648 ≤ x2 ∧ x2 ≤ 2147483647) (g3 : -2147483648 ≤ x3 ∧ x3 ≤ 2147483647) : fx_VC (fx_Mx X) 370 [x1, x2, x3] S (fx_p370.getD 2 ([], .inl (0, 0))) := fx_VCR_ok (show fx_VCR (fx_Mx X) 370 [x1, x2, x3] S _ from q370_2 S x1 x2 x3 hS g1 g2 g3)
set_option maxRecDepth 40000 in
theorem u370_3 (X : (Int → Int) × Int) (S : fx_S) (x1 x2 x3 : Int) (hS : fx_Sok S) (g1 : -2147483648 ≤ x1 ∧ x1 ≤ 2147483647) (g2 : -2147483648 ≤ x2 ∧ x2 ≤ 2147483647) (g3 : -2147483648 ≤ x3 ∧ x3 ≤ 2147483647) : fx_VC (fx_Mx X) 370 [x1, x2, x3] S (fx_p370.getD 3 ([], .inl (0, 0))) := fx_VCR_ok (show fx_VCR (fx_Mx X) 370 [x1, x2, x3] S _ from q370_3 S x1 x2 x3 hS g1 g2 g3)
set_option maxRecDepth 40000 in
theorem u370_4 (X : (Int → Int) × Int) (S : fx_S) (x1 x2 x3 : Int) (hS : fx_Sok S) (g1 : -2147483648 ≤ x1 ∧ x1 ≤ 2147483647) (g2 : -2147483648 ≤ x2 ∧ x2 ≤ 2147483647) (g3 : -2147483648 ≤ x3 ∧ x3 ≤ 2147483647) : fx_VC (fx_Mx X) 370 [x1, x2, x3] S (fx_p370.getD 4 ([], .inl (0, 0))) := fx_VCR_ok (show fx_VCR (fx_Mx X) 370 [x1, x2, x3] S _ from q370_4 S x1 x2 x3 hS g1 g2 g3)
set_option maxRecDepth 40000 in
theorem u370_5 (X : (Int → Int) × Int) (S : fx_S) (x1 x2 x3 : Int) (hS : fx_Sok S) (g1 : -2147483648 ≤ x1 ∧ x1 ≤ 2147483647) (g2 : -2147483648 ≤ x2 ∧ x2 ≤ 2147483647) (g3 : -2147483648 ≤ x3 ∧ x3 ≤ 2147483647) : fx_VC (fx_Mx X) 370 [x1, x2, x3] S (fx_p370.getD 5 ([], .inl (0, 0))) := fx_VCR_ok (show fx_VCR (fx_Mx X) 370 [x1, x2, x3] S _ from q370_5 S x1 x2 x3 hS g1 g2 g3)
set_option maxRecDepth 40000 in
theorem w370 (X : (Int → Int) × Int) (zs : List Int) (S : fx_S) (hS : fx_Sok S) (hz : zs.length = (fx_lv0 fx_t370.2.2.1 0).2) (rz : fx_rz fx_t370 zs S) : ∀ p ∈ fx_p370, fx_VC (fx_Mx X) 370 zs S p := by
  obtain ⟨x1, x2, x3, rfl⟩ := fx_len3 hz
  have g1 : -2147483648 ≤ x1 ∧ x1 ≤ 2147483647 := rz 1 _ rfl
  have g2 : -2147483648 ≤ x2 ∧ x2 ≤ 2147483647 := rz 2 _ rfl
  have g3 : -2147483648 ≤ x3 ∧ x3 ≤ 2147483647 := rz 3 _ rfl
  exact List.forall_mem_cons.mpr ⟨(u370_0 X S x1 x2 x3 hS g1 g2 g3), List.forall_mem_cons.mpr ⟨(u370_1 X S x1 x2 x3 hS g1 g2 g3), List.forall_mem_cons.mpr ⟨(u370_2 X S x1 x2 x3 hS g1 g2 g3), List.forall_mem_cons.mpr ⟨(u370_3 X S x1 x2 x3 hS g1 g2 g3), List.forall_mem_cons.mpr ⟨(u370_4 X S x1 x2 x3 hS g1 g2 g3), List.forall_mem_cons.mpr ⟨(u370_5 X S x1 x2 x3 hS g1 g2 g3), fun _ h => absurd h List.not_mem_nil⟩⟩⟩⟩⟩⟩
set_option maxRecDepth 40000 in
theorem u371_0 (X : (Int → Int) × Int) (S : fx_S) (x2 x3 : Int) (hS : fx_Sok S) (g2 : -2147483648 ≤ x2 ∧ x2 ≤ 2147483647) (g3 : -2147483648 ≤ x3 ∧ x3 ≤ 2147483647) : fx_VC (fx_Mx X) 371 [x2, x3] S (fx_p371.getD 0 ([], .inl (0, 0))) := fx_VCR_ok (show fx_VCR (fx_Mx X) 371 [x2, x3] S _ from q371_0 S x2 x3 hS g2 g3)
set_option maxRecDepth 40000 in
theorem u371_1 (X : (Int → Int) × Int) (S : fx_S) (x2 x3 : Int) (hS : fx_Sok S) (g2 : -2147483648 ≤ x2 ∧ x2 ≤ 2147483647) (g3 : -2147483648 ≤ x3 ∧ x3 ≤ 2147483647) : fx_VC (fx_Mx X) 371 [x2, x3] S (fx_p371.getD 1 ([], .inl (0, 0))) := fx_VCR_ok (show fx_VCR (fx_Mx X) 371 [x2, x3] S _ from q371_1 S x2 x3 hS g2 g3)
set_option maxRecDepth 40000 in
theorem u371_2 (X : (Int → Int) × Int) (S : fx_S) (x2 x3 : Int) (hS : fx_Sok S) (g2 : -2147483648 ≤ x2 ∧ x2 ≤ 2147483647) (g3 : -2147483648 ≤ x3 ∧ x3 ≤ 2147483647) : fx_VC (fx_Mx X) 371 [x2, x3] S (fx_p371.getD 2 ([], .inl (0, 0))) := fx_VCR_ok (show fx_VCR (fx_Mx X) 371 [x2, x3] S _ from q371_2 S x2 x3 hS g2 g3)
set_option maxRecDepth 40000 in
theorem u371_3 (X : (Int → Int) × Int) (S : fx_S) (x2 x3 : Int) (hS : fx_Sok S) (g2 : -2147483648 ≤ x2 ∧ x2 ≤ 2147483647) (g3 : -2147483648 ≤ x3 ∧ x3 ≤ 2147483647) : fx_VC (fx_Mx X) 371 [x2, x3] S (fx_p371.getD 3 ([], .inl (0, 0))) := fx_VCR_ok (show fx_VCR (fx_Mx X) 371 [x2, x3] S _ from q371_3 S x2 x3 hS g2 g3)
set_option maxRecDepth 40000 in
theorem u371_4 (X : (Int → Int) × Int) (S : fx_S) (x2 x3 : Int) (hS : fx_Sok S) (g2 : -2147483648 ≤ x2 ∧ x2 ≤ 2147483647) (g3 : -2147483648 ≤ x3 ∧ x3 ≤ 2147483647) : fx_VC (fx_Mx X) 371 [x2, x3] S (fx_p371.getD 4 ([], .inl (0, 0))) := fx_VCR_ok (show fx_VCR (fx_Mx X) 371 [x2, x3] S _ from q371_4 S x2 x3 hS g2 g3)
set_option maxRecDepth 40000 in
theorem u371_5 (X : (Int → Int) × Int) (S : fx_S) (x2 x3 : Int) (hS : fx_Sok S) (g2 : -2147483648 ≤ x2 ∧ x2 ≤ 2147483647) (g3 : -2147483648 ≤ x3 ∧ x3 ≤ 2147483647) : fx_VC (fx_Mx X) 371 [x2, x3] S (fx_p371.getD 5 ([], .inl (0, 0))) := fx_VCR_ok (show fx_VCR (fx_Mx X) 371 [x2, x3] S _ from q371_5 S x2 x3 hS g2 g3)
set_option maxRecDepth 40000 in
theorem w371 (X : (Int → Int) × Int) (zs : List Int) (S : fx_S) (hS : fx_Sok S) (hz : zs.length = (fx_lv0 fx_t371.2.2.1 0).2) (rz : fx_rz fx_t371 zs S) : ∀ p ∈ fx_p371, fx_VC (fx_Mx X) 371 zs S p := by
  obtain ⟨x2, x3, rfl⟩ := fx_len2 hz
  have g2 : -2147483648 ≤ x2 ∧ x2 ≤ 2147483647 := rz 2 _ rfl
  have g3 : -2147483648 ≤ x3 ∧ x3 ≤ 2147483647 := rz 3 _ rfl
  exact List.forall_mem_cons.mpr ⟨(u371_0 X S x2 x3 hS g2 g3), List.forall_mem_cons.mpr ⟨(u371_1 X S x2 x3 hS g2 g3), List.forall_mem_cons.mpr ⟨(u371_2 X S x2 x3 hS g2 g3), List.forall_mem_cons.mpr ⟨(u371_3 X S x2 x3 hS g2 g3), List.forall_mem_cons.mpr ⟨(u371_4 X S x2 x3 hS g2 g3), List.forall_mem_cons.mpr ⟨(u371_5 X S x2 x3 hS g2 g3), fun _ h => absurd h List.not_mem_nil⟩⟩⟩⟩⟩⟩
set_option maxRecDepth 40000 in
theorem u372_0 (X : (Int → Int) × Int) (S : fx_S) (x2 x3 : Int) (hS : fx_Sok S) (g2 : -2147483648 ≤ x2 ∧ x2 ≤ 2147483647) (g3 : -2147483648 ≤ x3 ∧ x3 ≤ 2147483647) : fx_VC (fx_Mx X) 372 [x2, x3] S (fx_p372.getD 0 ([], .inl (0, 0))) := fx_VCR_ok (show fx_VCR (fx_Mx X) 372 [x2, x3] S _ from q372_0 S x2 x3 hS g2 g3)
set_option maxRecDepth 40000 in
theorem u372_1 (X : (Int → Int) × Int) (S : fx_S) (x2 x3 : Int) (hS : fx_Sok S) (g2 : -2147483648 ≤ x2 ∧ x2 ≤ 2147483647) (g3 : -2147483648 ≤ x3 ∧ x3 ≤ 2147483647) : fx_VC (fx_Mx X) 372 [x2, x3] S (fx_p372.getD 1 ([], .inl (0, 0))) := fx_VCR_ok (show fx_VCR (fx_Mx X) 372 [x2, x3] S _ from q372_1 S x2 x3 hS g2 g3)
set_option maxRecDepth 40000 in
theorem u372_2 (X : (Int → Int) × Int) (S : fx_S) (x2 x3 : Int) (hS : fx_Sok S) (g2 : -2147483648 ≤ x2 ∧ x2 ≤ 2147483647) (g3 : -2147483648 ≤ x3 ∧ x3 ≤ 2147483647) : fx_VC (fx_Mx X) 372 [x2, x3] S (fx_p372.getD 2 ([], .inl (0, 0))) := fx_VCR_ok (show fx_VCR (fx_Mx X) 372 [x2, x3] S _ from q372_2 S x2 x3 hS g2 g3)
set_option maxRecDepth 40000 in
theorem u372_3 (X : (Int → Int) × Int) (S : fx_S) (x2 x3 : Int) (hS : fx_Sok S) (g2 : -2147483648 ≤ x2 ∧ x2 ≤ 2147483647) (g3 : -2147483648 ≤ x3 ∧ x3 ≤ 2147483647) : fx_VC (fx_Mx X) 372 [x2, x3] S (fx_p372.getD 3 ([], .inl (0, 0))) := fx_VCR_ok (show fx_VCR (fx_Mx X) 372 [x2, x3] S _ from q372_3 S x2 x3 hS g2 g3)
set_option maxRecDepth 40000 in
theorem u372_4 (X : (Int → Int) × Int) (S : fx_S) (x2 x3 : Int) (hS : fx_Sok S) (g2 : -2147483648 ≤ x2 ∧ x2 ≤ 2147483647) (g3 : -2147483648 ≤ x3 ∧ x3 ≤ 2147483647) : fx_VC (fx_Mx X) 372 [x2, x3] S (fx_p372.getD 4 ([], .inl (0, 0))) := fx_VCR_ok (show fx_VCR (fx_Mx X) 372 [x2, x3] S _ from q372_4 S x2 x3 hS g2 g3)
set_option maxRecDepth 40000 in
theorem u372_5 (X : (Int → Int) × Int) (S : fx_S) (x2 x3 : Int) (hS : fx_Sok S) (g2 : -2147483648 ≤ x2 ∧ x2 ≤ 2147483647) (g3 : -2147483648 ≤ x3 ∧ x3 ≤ 2147483647) : fx_VC (fx_Mx X) 372 [x2, x3] S (fx_p372.getD 5 ([], .inl (0, 0))) := fx_VCR_ok (show fx_VCR (fx_Mx X) 372 [x2, x3] S _ from q372_5 S x2 x3 hS g2 g3)
set_option maxRecDepth 40000 in
theorem u372_6 (X : (Int → Int) × Int) (S : fx_S) (x2 x3 : Int) (hS : fx_Sok S) (g2 : -2147483648 ≤ x2 ∧ x2 ≤ 2147483647) (g3 : -2147483648 ≤ x3 ∧ x3 ≤ 2147483647) : fx_VC (fx_Mx X) 372 [x2, x3] S (fx_p372.getD 6 ([], .inl (0, 0))) := fx_VCR_ok (show fx_VCR (fx_Mx X) 372 [x2, x3] S _ from q372_6 S x2 x3 hS g2 g3)
set_option maxRecDepth 40000 in
theorem w372 (X : (Int → Int) × Int) (zs : List Int) (S : fx_S) (hS : fx_Sok S) (hz : zs.length = (fx_lv0 fx_t372.2.2.1 0).2) (rz : fx_rz fx_t372 zs S) : ∀ p ∈ fx_p372, fx_VC (fx_Mx X) 372 zs S p := by
  obtain ⟨x2, x3, rfl⟩ := fx_len2 hz
  have g2 : -2147483648 ≤ x2 ∧ x2 ≤ 2147483647 := rz 2 _ rfl
  have g3 : -2147483648 ≤ x3 ∧ x3 ≤ 2147483647 := rz 3 _ rfl
  exact List.forall_mem_cons.mpr ⟨(u372_0 X S x2 x3 hS g2 g3), List.forall_mem_cons.mpr ⟨(u372_1 X S x2 x3 hS g2 g3), List.forall_mem_cons.mpr ⟨(u372_2 X S x2 x3 hS g2 g3), List.forall_mem_cons.mpr ⟨(u372_3 X S x2 x3 hS g2 g3), List.forall_mem_cons.mpr ⟨(u372_4 X S x2 x3 hS g2 g3), List.forall_mem_cons.mpr ⟨(u372_5 X S x2 x3 hS g2 g3), List.forall_mem_cons.mpr ⟨(u372_6 X S x2 x3 hS g2 g3), fun _ h => absurd h List.not_mem_nil⟩⟩⟩⟩⟩⟩⟩
set_option maxRecDepth 40000 in
theorem u373_0 (X : (Int → Int) × Int) (S : fx_S) (x2 : Int) (hS : fx_Sok S) (g2 : -2147483648 ≤ x2 ∧ x2 ≤ 2147483647) : fx_VC (fx_Mx X) 373 [x2] S (fx_p373.getD 0 ([], .inl (0, 0))) := fx_VCR_ok (show fx_VCR (fx_Mx X) 373 [x2] S _ from q373_0 S x2 hS g2)
