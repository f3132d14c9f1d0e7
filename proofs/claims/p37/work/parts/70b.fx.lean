/-! FX: what the entries mean -/
/-- Law.law@18 -/
def s0 (S : fx_S) (x3 : Int) (z : Int) (Z : fx_S) : Prop := fx_RI S → z = 1
/-- x.feed -/
def s1 (S : fx_S) (x1 x2 x3 x4 x5 : Int) (z : Int) (Z : fx_S) : Prop := Z.2 = S.2 ∧ (∀ p i : Int, ¬ (p = 51 ∨ (p = 50 ∧ i = 1)) → Z.1 p i = S.1 p i)
/-- m.feed -/
def s2 (S : fx_S) (x1 x2 x3 x4 x5 : Int) (z : Int) (Z : fx_S) : Prop := Z.2 = S.2 ∧ (∀ p i : Int, ¬ (p = 70 ∨ (p = 66 ∧ i = 5) ∨ (p = 71 ∧ i = 0) ∨ (p = 71 ∧ i = 1) ∨ (p = 71 ∧ i = 2) ∨ (p = 71 ∧ i = 3) ∨ (p = 71 ∧ i = 4)) → Z.1 p i = S.1 p i)
/-- x.end -/
def s3 (S : fx_S) (x1 : Int) (z : Int) (Z : fx_S) : Prop := Z.2 = S.2 ∧ (∀ p i : Int, ¬ ((p = 50 ∧ i = 1)) → Z.1 p i = S.1 p i)
/-- m.end -/
def s4 (S : fx_S) (x1 : Int) (z : Int) (Z : fx_S) : Prop := Z.2 = S.2 ∧ (∀ p i : Int, ¬ ((p = 66 ∧ i = 5)) → Z.1 p i = S.1 p i)
/-- x.next -/
def s5 (S : fx_S) (x1 : Int) (z : Int) (Z : fx_S) : Prop := Z.2 = S.2 ∧ (∀ p i : Int, ¬ ((p = 1 ∧ i = 0)) → Z.1 p i = S.1 p i) ∧ (0 ≤ S.1 1 0 → S.1 1 0 ≤ 3599 → if 0 ≤ x1 ∧ S.1 1 0 + x1 ≤ 3599 then z = S.1 1 0 + x1 ∧ Z.1 1 0 = S.1 1 0 + x1 else z = -1 ∧ Z = S)
/-- m.next -/
def s6 (S : fx_S) (x1 : Int) (z : Int) (Z : fx_S) : Prop := fx_WB S → Z.2 = S.2 ∧ (∀ p i : Int, ¬ ((p = 67 ∧ i = 0)) → Z.1 p i = S.1 p i) ∧ fx_WB Z ∧ (0 ≤ S.1 67 0 → S.1 67 0 ≤ 3599 → if 0 ≤ x1 ∧ S.1 67 0 + x1 ≤ 3599 then z = S.1 67 0 + x1 ∧ Z.1 67 0 = S.1 67 0 + x1 else z = -1 ∧ Z = S)
/-- x.village -/
def s7 (S : fx_S) (x1 x2 x3 : Int) (z : Int) (Z : fx_S) : Prop := Z.2 = S.2 ∧ (∀ p i : Int, ¬ (p = 3 ∨ p = 4 ∨ p = 5 ∨ (p = 2 ∧ i = 0)) → Z.1 p i = S.1 p i) ∧ ((z = -2 ∧ ¬ (0 ≤ x1 ∧ x1 ≤ 99 ∧ 0 ≤ x2 ∧ x2 ≤ 99 ∧ 0 ≤ x3 ∧ x3 ≤ 9) ∧ Z = S) ∨ ((0 ≤ x1 ∧ x1 ≤ 99 ∧ 0 ≤ x2 ∧ x2 ≤ 99 ∧ 0 ≤ x3 ∧ x3 ≤ 9) ∧ ((z = -3 ∧ 40 ≤ S.1 2 0 ∧ Z = S) ∨ (S.1 2 0 < 40 ∧ z = S.1 2 0 ∧ Z.1 2 0 = S.1 2 0 + 1 ∧ ∀ i : Int, Z.1 3 i = (if i = S.1 2 0 then x1 else S.1 3 i) ∧ Z.1 4 i = (if i = S.1 2 0 then x2 else S.1 4 i) ∧ Z.1 5 i = (if i = S.1 2 0 then x3 else S.1 5 i)))))
/-- m.village -/
def s8 (S : fx_S) (x1 x2 x3 : Int) (z : Int) (Z : fx_S) : Prop := fx_WB S → Z.2 = S.2 ∧ (∀ p i : Int, ¬ ((p = 67 ∧ (i = 1 ∨ (20 ≤ i ∧ i < 180)))) → Z.1 p i = S.1 p i) ∧ fx_WB Z ∧ ((z = -2 ∧ ¬ (0 ≤ x1 ∧ x1 ≤ 99 ∧ 0 ≤ x2 ∧ x2 ≤ 99 ∧ 0 ≤ x3 ∧ x3 ≤ 9) ∧ Z = S) ∨ ((0 ≤ x1 ∧ x1 ≤ 99 ∧ 0 ≤ x2 ∧ x2 ≤ 99 ∧ 0 ≤ x3 ∧ x3 ≤ 9) ∧ ((z = -3 ∧ S.1 67 1 = 40 ∧ Z = S) ∨ (S.1 67 1 < 40 ∧ z = S.1 67 1 ∧ ∀ i : Int, Z.1 67 i = fx_viw (S.1 67) x1 x2 x3 i))))
/-- x.moved -/
def s9 (S : fx_S) (x1 x2 : Int) (z : Int) (Z : fx_S) : Prop := Z.2 = S.2 ∧ (∀ p i : Int, ¬ (p = 6 ∨ p = 7 ∨ p = 8 ∨ (p = 2 ∧ i = 4)) → Z.1 p i = S.1 p i) ∧ (0 ≤ S.1 2 0 → (z = -2 ∧ ¬ (0 ≤ x1 ∧ x1 < S.1 2 0 ∧ 0 ≤ x2 ∧ x2 ≤ 9) ∧ Z = S) ∨ ((0 ≤ x1 ∧ x1 < S.1 2 0 ∧ 0 ≤ x2 ∧ x2 ≤ 9) ∧ ((z = -3 ∧ 40 ≤ S.1 2 4 ∧ Z = S) ∨ (S.1 2 4 < 40 ∧ z = 0 ∧ Z.1 2 4 = S.1 2 4 + 1 ∧ ∀ i : Int, Z.1 6 i = (if i = S.1 2 4 then x1 else S.1 6 i) ∧ Z.1 7 i = (if i = S.1 2 4 then x2 else S.1 7 i) ∧ Z.1 8 i = (if i = S.1 2 4 then S.1 1 0 else S.1 8 i)))))
/-- m.moved -/
def s10 (S : fx_S) (x1 x2 : Int) (z : Int) (Z : fx_S) : Prop := fx_WB S → Z.2 = S.2 ∧ (∀ p i : Int, ¬ ((p = 67 ∧ (i = 6 ∨ (180 ≤ i ∧ i < 300)))) → Z.1 p i = S.1 p i) ∧ fx_WB Z ∧ ((z = -2 ∧ ¬ (0 ≤ x1 ∧ x1 < S.1 67 1 ∧ 0 ≤ x2 ∧ x2 ≤ 9) ∧ Z = S) ∨ ((0 ≤ x1 ∧ x1 < S.1 67 1 ∧ 0 ≤ x2 ∧ x2 ≤ 9) ∧ ((z = -3 ∧ S.1 67 6 = 40 ∧ Z = S) ∨ (S.1 67 6 < 40 ∧ z = 0 ∧ ∀ i : Int, Z.1 67 i = fx_mow (S.1 67) x1 x2 i))))
/-- x.statute -/
def s11 (S : fx_S) (x1 : Int) (z : Int) (Z : fx_S) : Prop := S.2.2 ≤ Z.2.2 ∧ (∀ p i : Int, ¬ (p = 9) → Z.2.1 p i = S.2.1 p i) ∧ (∀ p i : Int, ¬ (p = 10 ∨ p = 11 ∨ p = 12 ∨ (p = 2 ∧ i = 8) ∨ (p = 50 ∧ i = 1) ∨ (p = 50 ∧ i = 2) ∨ (p = 50 ∧ i = 3) ∨ (p = 50 ∧ i = 4) ∨ (p = 50 ∧ i = 5) ∨ (p = 50 ∧ i = 6) ∨ S.2.2 ≤ p) → Z.1 p i = S.1 p i)
/-- m.statute -/
def s12 (S : fx_S) (x1 : Int) (z : Int) (Z : fx_S) : Prop := fx_WB S → Z.2 = S.2 ∧ (∀ p i : Int, ¬ ((p = 67 ∧ (i = 3 ∨ (1100 ≤ i ∧ i < 3700))) ∨ p = 72 ∨ (p = 66 ∧ i = 10) ∨ (p = 66 ∧ i = 11) ∨ (p = 66 ∧ i = 12) ∨ (p = 66 ∧ i = 13) ∨ (p = 66 ∧ i = 5) ∨ (p = 66 ∧ i = 7) ∨ (p = 66 ∧ i = 8) ∨ (p = 66 ∧ i = 9)) → Z.1 p i = S.1 p i) ∧ fx_WB Z
/-- x.fault -/
def s13 (S : fx_S) (x1 : Int) (z : Int) (Z : fx_S) : Prop := S = Z
/-- m.fault -/
def s14 (S : fx_S) (x1 : Int) (z : Int) (Z : fx_S) : Prop := S = Z
/-- x.force -/
def s15 (S : fx_S) (x1 x2 : Int) (z : Int) (Z : fx_S) : Prop := S = Z
/-- m.force -/
def s16 (S : fx_S) (x1 x2 : Int) (z : Int) (Z : fx_S) : Prop := S = Z
/-- x.claims -/
def s17 (S : fx_S) (x1 x2 x3 : Int) (z : Int) (Z : fx_S) : Prop := S = Z
/-- m.claims -/
def s18 (S : fx_S) (x1 x2 x3 : Int) (z : Int) (Z : fx_S) : Prop := Z.2 = S.2 ∧ (∀ p i : Int, ¬ ((p = 66 ∧ i = 15)) → Z.1 p i = S.1 p i)
/-- x.nation -/
def s19 (S : fx_S) (x1 x2 x3 : Int) (z : Int) (Z : fx_S) : Prop := S = Z
/-- m.nation -/
def s20 (S : fx_S) (x1 x2 x3 : Int) (z : Int) (Z : fx_S) : Prop := Z.2 = S.2 ∧ (∀ p i : Int, ¬ ((p = 66 ∧ i = 15)) → Z.1 p i = S.1 p i)
/-- x.sways -/
def s21 (S : fx_S) (x1 : Int) (z : Int) (Z : fx_S) : Prop := S = Z
/-- m.sways -/
def s22 (S : fx_S) (x1 : Int) (z : Int) (Z : fx_S) : Prop := Z.2 = S.2 ∧ (∀ p i : Int, ¬ ((p = 66 ∧ i = 15)) → Z.1 p i = S.1 p i)
/-- x.oath -/
def s23 (S : fx_S) (x1 x2 : Int) (z : Int) (Z : fx_S) : Prop := Z.2 = S.2 ∧ (∀ p i : Int, ¬ (p = 14 ∨ p = 15 ∨ p = 16 ∨ p = 17 ∨ p = 18 ∨ p = 19 ∨ (p = 13 ∧ i = 0)) → Z.1 p i = S.1 p i) ∧ (0 ≤ S.1 2 0 → (z = -2 ∧ ¬ (0 ≤ x1 ∧ x1 < S.1 2 0 ∧ 0 ≤ x2 ∧ x2 ≤ 3) ∧ Z = S) ∨ ((0 ≤ x1 ∧ x1 < S.1 2 0 ∧ 0 ≤ x2 ∧ x2 ≤ 3) ∧ ((z = -3 ∧ 80 ≤ S.1 13 0 ∧ Z = S) ∨ (S.1 13 0 < 80 ∧ z = S.1 13 0 ∧ Z.1 13 0 = S.1 13 0 + 1 ∧ ∀ i : Int, Z.1 14 i = (if i = S.1 13 0 then x1 else S.1 14 i) ∧ Z.1 15 i = (if i = S.1 13 0 then x2 else S.1 15 i) ∧ Z.1 16 i = (if i = S.1 13 0 then S.1 1 0 else S.1 16 i) ∧ Z.1 17 i = (if i = S.1 13 0 then 3600 else S.1 17 i) ∧ Z.1 18 i = (if i = S.1 13 0 then 99 else S.1 18 i) ∧ Z.1 19 i = (if i = S.1 13 0 then 0 else S.1 19 i)))))
/-- m.oath -/
def s24 (S : fx_S) (x1 x2 : Int) (z : Int) (Z : fx_S) : Prop := fx_WB S → Z.2 = S.2 ∧ (∀ p i : Int, ¬ ((p = 67 ∧ (i = 2 ∨ (300 ≤ i ∧ i < 1100)))) → Z.1 p i = S.1 p i) ∧ fx_WB Z ∧ ((z = -2 ∧ ¬ (0 ≤ x1 ∧ x1 < S.1 67 1 ∧ 0 ≤ x2 ∧ x2 ≤ 3) ∧ Z = S) ∨ ((0 ≤ x1 ∧ x1 < S.1 67 1 ∧ 0 ≤ x2 ∧ x2 ≤ 3) ∧ ((z = -3 ∧ S.1 67 2 = 80 ∧ Z = S) ∨ (S.1 67 2 < 80 ∧ z = S.1 67 2 ∧ ∀ i : Int, Z.1 67 i = fx_addw (S.1 67) x1 x2 i))))
/-- x.oaths -/
def s25 (S : fx_S) (x1 : Int) (z : Int) (Z : fx_S) : Prop := Z.2 = S.2 ∧ (∀ p i : Int, ¬ (p = 14 ∨ p = 15 ∨ p = 16 ∨ p = 17 ∨ p = 18 ∨ p = 19 ∨ (p = 13 ∧ i = 0)) → Z.1 p i = S.1 p i) ∧ (∀ w : Int → Int, fx_WBf w → fx_Rd S.1 1 w → S.1 2 0 = w 1 → fx_Rp S.1 1 w → (0 ≤ x1 → x1 < 4 → -1 ≤ S.1 54 x1 ∧ S.1 54 x1 ≤ 60) → if 0 ≤ x1 ∧ x1 < 4 then (if S.1 54 x1 = -1 then z = -6 ∧ fx_Rp Z.1 1 w else z = (fx_oat (fun i => S.1 55 (60 * x1 + i)) (S.1 54 x1) 31 0 0 w).1 ∧ fx_Rp Z.1 1 (fx_oat (fun i => S.1 55 (60 * x1 + i)) (S.1 54 x1) 31 0 0 w).2) else z = -2 ∧ fx_Rp Z.1 1 w)
/-- m.oaths -/
def s26 (S : fx_S) (x1 : Int) (z : Int) (Z : fx_S) : Prop := fx_WB S → Z.2 = S.2 ∧ (∀ p i : Int, ¬ ((p = 67 ∧ (i = 2 ∨ (300 ≤ i ∧ i < 1100)))) → Z.1 p i = S.1 p i) ∧ fx_WB Z ∧ ((0 ≤ x1 → x1 < 4 → -1 ≤ S.1 87 x1 ∧ S.1 87 x1 ≤ 60) → if 0 ≤ x1 ∧ x1 < 4 then (if S.1 87 x1 = -1 then z = -6 ∧ Z = S else z = (fx_oat (fun i => S.1 89 (60 * x1 + i)) (S.1 87 x1) 31 0 0 (S.1 67)).1 ∧ ∀ i : Int, Z.1 67 i = (fx_oat (fun i => S.1 89 (60 * x1 + i)) (S.1 87 x1) 31 0 0 (S.1 67)).2 i) else z = -2 ∧ Z = S)
/-- x.leave -/
def s27 (S : fx_S) (x1 : Int) (z : Int) (Z : fx_S) : Prop := Z.2 = S.2 ∧ (∀ p i : Int, ¬ (p = 17) → Z.1 p i = S.1 p i) ∧ (0 ≤ S.1 13 0 → if (0 ≤ x1 ∧ x1 < S.1 13 0) ∧ S.1 16 x1 ≤ S.1 1 0 ∧ S.1 1 0 < S.1 17 x1 then z = 0 ∧ ∀ i : Int, Z.1 17 i = if i = x1 then S.1 1 0 else S.1 17 i else z = -2 ∧ Z = S)
/-- m.leave -/
def s28 (S : fx_S) (x1 : Int) (z : Int) (Z : fx_S) : Prop := fx_WB S → Z.2 = S.2 ∧ (∀ p i : Int, ¬ ((p = 67 ∧ (300 ≤ i ∧ i < 1100))) → Z.1 p i = S.1 p i) ∧ fx_WB Z ∧ (if 0 ≤ x1 ∧ x1 < S.1 67 2 ∧ S.1 67 (303 + 10 * x1) = -1 then z = 0 ∧ ∀ i : Int, Z.1 67 i = if i = 303 + 10 * x1 then S.1 67 0 else S.1 67 i else z = -2 ∧ Z = S)
/-- x.personOf -/
def s29 (S : fx_S) (x1 x2 : Int) (z : Int) (Z : fx_S) : Prop := S = Z ∧ (0 ≤ S.1 13 0 → z = if 0 ≤ x1 ∧ x1 < S.1 13 0 then (if x2 = 0 then S.1 14 x1 else if x2 = 1 then S.1 15 x1 else if x2 = 2 then S.1 16 x1 else if x2 = 3 then (if S.1 17 x1 = 3600 then -1 else S.1 17 x1) else -2000000000) else -2000000000)
/-- m.personOf -/
def s30 (S : fx_S) (x1 x2 : Int) (z : Int) (Z : fx_S) : Prop := S = Z ∧ (fx_WB S → z = if 0 ≤ x1 ∧ x1 < S.1 67 2 ∧ 0 ≤ x2 ∧ x2 ≤ 3 then S.1 67 (300 + 10 * x1 + x2) else -2000000000)
/-- x.of -/
def s31 (S : fx_S) (x1 x2 : Int) (z : Int) (Z : fx_S) : Prop := S = Z
/-- m.of -/
def s32 (S : fx_S) (x1 x2 : Int) (z : Int) (Z : fx_S) : Prop := Z.2 = S.2 ∧ (∀ p i : Int, ¬ ((p = 66 ∧ i = 15)) → Z.1 p i = S.1 p i)
/-- x.heads -/
def s33 (S : fx_S) (x1 x2 x3 : Int) (z : Int) (Z : fx_S) : Prop := S = Z
/-- m.heads -/
def s34 (S : fx_S) (x1 x2 x3 : Int) (z : Int) (Z : fx_S) : Prop := Z.2 = S.2 ∧ (∀ p i : Int, ¬ ((p = 66 ∧ i = 15)) → Z.1 p i = S.1 p i)
/-- x.sorted -/
def s35 (S : fx_S) (x1 x2 x3 : Int) (z : Int) (Z : fx_S) : Prop := S = Z
/-- m.sorted -/
def s36 (S : fx_S) (x1 x2 x3 : Int) (z : Int) (Z : fx_S) : Prop := Z.2 = S.2 ∧ (∀ p i : Int, ¬ ((p = 66 ∧ i = 15)) → Z.1 p i = S.1 p i)
/-- x.fees -/
def s37 (S : fx_S) (x1 x2 x3 : Int) (z : Int) (Z : fx_S) : Prop := S = Z
/-- m.fees -/
def s38 (S : fx_S) (x1 x2 x3 : Int) (z : Int) (Z : fx_S) : Prop := S = Z
/-- x.pay -/
def s39 (S : fx_S) (x1 x2 : Int) (z : Int) (Z : fx_S) : Prop := Z.2 = S.2 ∧ (∀ p i : Int, ¬ (p = 22 ∨ p = 24 ∨ p = 25 ∨ p = 26 ∨ (p = 21 ∧ i = 2)) → Z.1 p i = S.1 p i)
/-- m.pay -/
def s40 (S : fx_S) (x1 x2 : Int) (z : Int) (Z : fx_S) : Prop := fx_WB S → Z.2 = S.2 ∧ (∀ p i : Int, ¬ ((p = 67 ∧ (i = 7 ∨ (12 ≤ i ∧ i < 16) ∨ (7148 ≤ i ∧ i < 8048))) ∨ (p = 66 ∧ i = 15)) → Z.1 p i = S.1 p i) ∧ fx_WB Z
/-- x.feast -/
def s41 (S : fx_S) (x1 x2 : Int) (z : Int) (Z : fx_S) : Prop := Z.2 = S.2 ∧ (∀ p i : Int, ¬ (p = 22 ∨ (p = 21 ∧ i = 6)) → Z.1 p i = S.1 p i)
/-- m.feast -/
def s42 (S : fx_S) (x1 x2 : Int) (z : Int) (Z : fx_S) : Prop := fx_WB S → Z.2 = S.2 ∧ (∀ p i : Int, ¬ ((p = 67 ∧ (i = 8 ∨ (12 ≤ i ∧ i < 16)))) → Z.1 p i = S.1 p i) ∧ fx_WB Z
/-- x.even -/
def s43 (S : fx_S) (x1 x2 : Int) (z : Int) (Z : fx_S) : Prop := S = Z
/-- m.even -/
def s44 (S : fx_S) (x1 x2 : Int) (z : Int) (Z : fx_S) : Prop := S = Z
/-- x.masters -/
def s45 (S : fx_S) (x1 : Int) (z : Int) (Z : fx_S) : Prop := Z.2 = S.2 ∧ (∀ p i : Int, ¬ (p = 22 ∨ p = 23 ∨ p = 27 ∨ p = 28 ∨ p = 63 ∨ (p = 21 ∧ i = 7)) → Z.1 p i = S.1 p i)
/-- m.masters -/
def s46 (S : fx_S) (x1 : Int) (z : Int) (Z : fx_S) : Prop := fx_WB S → Z.2 = S.2 ∧ (∀ p i : Int, ¬ ((p = 67 ∧ (i = 9 ∨ (12 ≤ i ∧ i < 20))) ∨ p = 73 ∨ p = 74 ∨ p = 75 ∨ (p = 66 ∧ i = 15)) → Z.1 p i = S.1 p i) ∧ fx_WB Z
/-- x.part -/
def s47 (S : fx_S) (x1 : Int) (z : Int) (Z : fx_S) : Prop := S = Z
/-- m.part -/
def s48 (S : fx_S) (x1 : Int) (z : Int) (Z : fx_S) : Prop := S = Z
/-- x.call -/
def s49 (S : fx_S) (z : Int) (Z : fx_S) : Prop := Z.2 = S.2 ∧ (∀ p i : Int, ¬ (p = 30 ∨ p = 31 ∨ p = 32 ∨ p = 33 ∨ p = 34 ∨ (p = 29 ∧ i = 0)) → Z.1 p i = S.1 p i)
/-- m.call -/
def s50 (S : fx_S) (z : Int) (Z : fx_S) : Prop := fx_WB S → Z.2 = S.2 ∧ (∀ p i : Int, ¬ ((p = 67 ∧ (i = 4 ∨ (3700 ≤ i ∧ i < 7100)))) → Z.1 p i = S.1 p i) ∧ fx_WB Z
/-- x.vote -/
def s51 (S : fx_S) (x1 x2 x3 : Int) (z : Int) (Z : fx_S) : Prop := Z.2 = S.2 ∧ (∀ p i : Int, ¬ (p = 34) → Z.1 p i = S.1 p i)
/-- m.vote -/
def s52 (S : fx_S) (x1 x2 x3 : Int) (z : Int) (Z : fx_S) : Prop := fx_WB S → Z.2 = S.2 ∧ (∀ p i : Int, ¬ ((p = 67 ∧ (3700 ≤ i ∧ i < 7100))) → Z.1 p i = S.1 p i) ∧ fx_WB Z
/-- x.close -/
def s53 (S : fx_S) (x1 : Int) (z : Int) (Z : fx_S) : Prop := Z.2 = S.2 ∧ (∀ p i : Int, ¬ (p = 31 ∨ p = 32 ∨ p = 34 ∨ p = 35 ∨ p = 36) → Z.1 p i = S.1 p i)
/-- m.close -/
def s54 (S : fx_S) (x1 : Int) (z : Int) (Z : fx_S) : Prop := fx_WB S → Z.2 = S.2 ∧ (∀ p i : Int, ¬ ((p = 67 ∧ (3700 ≤ i ∧ i < 7100)) ∨ p = 76 ∨ p = 77 ∨ (p = 66 ∧ i = 15)) → Z.1 p i = S.1 p i) ∧ fx_WB Z
/-- x.electionOf -/
def s55 (S : fx_S) (x1 x2 : Int) (z : Int) (Z : fx_S) : Prop := S = Z
/-- m.electionOf -/
def s56 (S : fx_S) (x1 x2 : Int) (z : Int) (Z : fx_S) : Prop := Z.2 = S.2 ∧ (∀ p i : Int, ¬ (p = 76 ∨ p = 77 ∨ (p = 66 ∧ i = 15)) → Z.1 p i = S.1 p i)
/-- x.under -/
def s57 (S : fx_S) (x1 x2 : Int) (z : Int) (Z : fx_S) : Prop := Z.2 = S.2 ∧ (∀ p i : Int, ¬ (p = 35 ∨ p = 36) → Z.1 p i = S.1 p i)
/-- m.under -/
def s58 (S : fx_S) (x1 x2 : Int) (z : Int) (Z : fx_S) : Prop := Z.2 = S.2 ∧ (∀ p i : Int, ¬ (p = 76 ∨ p = 77 ∨ (p = 66 ∧ i = 15)) → Z.1 p i = S.1 p i)
/-- x.swing -/
def s59 (S : fx_S) (x1 : Int) (z : Int) (Z : fx_S) : Prop := Z.2 = S.2 ∧ (∀ p i : Int, ¬ (p = 37) → Z.1 p i = S.1 p i)
/-- m.swing -/
def s60 (S : fx_S) (x1 : Int) (z : Int) (Z : fx_S) : Prop := Z.2 = S.2 ∧ (∀ p i : Int, ¬ (p = 76 ∨ p = 77 ∨ p = 78 ∨ p = 79 ∨ (p = 66 ∧ i = 15)) → Z.1 p i = S.1 p i)
/-- x.undo -/
def s61 (S : fx_S) (x1 : Int) (z : Int) (Z : fx_S) : Prop := Z.2 = S.2 ∧ (∀ p i : Int, ¬ (p = 12 ∨ p = 33) → Z.1 p i = S.1 p i)
/-- m.undo -/
def s62 (S : fx_S) (x1 : Int) (z : Int) (Z : fx_S) : Prop := fx_WB S → Z.2 = S.2 ∧ (∀ p i : Int, ¬ ((p = 67 ∧ (1100 ≤ i ∧ i < 7100))) → Z.1 p i = S.1 p i) ∧ fx_WB Z
/-- x.rector -/
def s63 (S : fx_S) (x1 x2 : Int) (z : Int) (Z : fx_S) : Prop := Z.2 = S.2 ∧ (∀ p i : Int, ¬ (p = 62) → Z.1 p i = S.1 p i)
/-- m.rector -/
def s64 (S : fx_S) (x1 x2 : Int) (z : Int) (Z : fx_S) : Prop := Z.2 = S.2 ∧ (∀ p i : Int, ¬ (p = 80 ∨ (p = 66 ∧ i = 15)) → Z.1 p i = S.1 p i)
/-- x.turn -/
def s65 (S : fx_S) (x1 x2 : Int) (z : Int) (Z : fx_S) : Prop := Z.2 = S.2 ∧ (∀ p i : Int, ¬ (p = 62) → Z.1 p i = S.1 p i)
/-- m.turn -/
def s66 (S : fx_S) (x1 x2 : Int) (z : Int) (Z : fx_S) : Prop := Z.2 = S.2 ∧ (∀ p i : Int, ¬ (p = 80 ∨ (p = 66 ∧ i = 15)) → Z.1 p i = S.1 p i)
/-- x.house -/
def s67 (S : fx_S) (x1 x2 x3 : Int) (z : Int) (Z : fx_S) : Prop := Z.2 = S.2 ∧ (∀ p i : Int, ¬ (p = 39 ∨ p = 40 ∨ p = 41 ∨ p = 42 ∨ (p = 38 ∧ i = 0)) → Z.1 p i = S.1 p i) ∧ ((z = -2 ∧ ¬ (1 ≤ x1 ∧ x1 ≤ 9 ∧ 0 ≤ x2 ∧ x2 ≤ 999 ∧ 0 ≤ x3 ∧ x3 ≤ 999) ∧ Z = S) ∨ (z = -3 ∧ (1 ≤ x1 ∧ x1 ≤ 9 ∧ 0 ≤ x2 ∧ x2 ≤ 999 ∧ 0 ≤ x3 ∧ x3 ≤ 999) ∧ 12 ≤ S.1 38 0 ∧ Z = S) ∨ ((1 ≤ x1 ∧ x1 ≤ 9 ∧ 0 ≤ x2 ∧ x2 ≤ 999 ∧ 0 ≤ x3 ∧ x3 ≤ 999) ∧ S.1 38 0 < 12 ∧ z = S.1 38 0 ∧ Z.1 38 0 = S.1 38 0 + 1 ∧ ∀ i : Int, Z.1 39 i = (if i = S.1 38 0 then x1 else S.1 39 i) ∧ Z.1 40 i = (if i = S.1 38 0 then x2 else S.1 40 i) ∧ Z.1 41 i = (if i = S.1 38 0 then x3 else S.1 41 i) ∧ Z.1 42 i = (if i = S.1 38 0 then -1 else S.1 42 i)))
/-- m.house -/
def s68 (S : fx_S) (x1 x2 x3 : Int) (z : Int) (Z : fx_S) : Prop := fx_WB S → Z.2 = S.2 ∧ (∀ p i : Int, ¬ ((p = 67 ∧ (i = 5 ∨ (7100 ≤ i ∧ i < 7148)))) → Z.1 p i = S.1 p i) ∧ fx_WB Z ∧ ((z = -2 ∧ ¬ (1 ≤ x1 ∧ x1 ≤ 9 ∧ 0 ≤ x2 ∧ x2 ≤ 999 ∧ 0 ≤ x3 ∧ x3 ≤ 999) ∧ Z = S) ∨ (z = -3 ∧ (1 ≤ x1 ∧ x1 ≤ 9 ∧ 0 ≤ x2 ∧ x2 ≤ 999 ∧ 0 ≤ x3 ∧ x3 ≤ 999) ∧ S.1 67 5 = 12 ∧ Z = S) ∨ ((1 ≤ x1 ∧ x1 ≤ 9 ∧ 0 ≤ x2 ∧ x2 ≤ 999 ∧ 0 ≤ x3 ∧ x3 ≤ 999) ∧ S.1 67 5 < 12 ∧ z = S.1 67 5 ∧ Z.1 67 5 = S.1 67 5 + 1 ∧ Z.1 67 (7100 + 4 * S.1 67 5) = x1 ∧ Z.1 67 (7101 + 4 * S.1 67 5) = x2 ∧ Z.1 67 (7102 + 4 * S.1 67 5) = x3 ∧ Z.1 67 (7103 + 4 * S.1 67 5) = -1 ∧ ∀ i : Int, 7100 ≤ i → i < 7148 → ¬ (7100 + 4 * S.1 67 5 ≤ i ∧ i < 7104 + 4 * S.1 67 5) → Z.1 67 i = S.1 67 i))
/-- x.appeal -/
def s69 (S : fx_S) (x1 x2 : Int) (z : Int) (Z : fx_S) : Prop := Z.2 = S.2 ∧ (∀ p i : Int, ¬ (p = 42) → Z.1 p i = S.1 p i) ∧ (0 ≤ S.1 38 0 → (z = -2 ∧ ¬ (0 ≤ x1 ∧ x1 < S.1 38 0 ∧ 0 ≤ x2 ∧ x2 ≤ 999) ∧ Z = S) ∨ ((0 ≤ x1 ∧ x1 < S.1 38 0 ∧ 0 ≤ x2 ∧ x2 ≤ 999) ∧ z = fx_rent (S.1 40 x1) (S.1 41 x1) x2 ∧ ∀ i : Int, Z.1 42 i = if i = x1 then x2 else S.1 42 i))
/-- m.appeal -/
def s70 (S : fx_S) (x1 x2 : Int) (z : Int) (Z : fx_S) : Prop := fx_WB S → Z.2 = S.2 ∧ (∀ p i : Int, ¬ ((p = 67 ∧ (7100 ≤ i ∧ i < 7148))) → Z.1 p i = S.1 p i) ∧ fx_WB Z ∧ ((z = -2 ∧ ¬ (0 ≤ x1 ∧ x1 < S.1 67 5 ∧ 0 ≤ x2 ∧ x2 ≤ 999) ∧ Z = S) ∨ ((0 ≤ x1 ∧ x1 < S.1 67 5 ∧ 0 ≤ x2 ∧ x2 ≤ 999) ∧ z = fx_rent (S.1 67 (7101 + 4 * x1)) (S.1 67 (7102 + 4 * x1)) x2 ∧ Z.1 67 (7103 + 4 * x1) = x2 ∧ ∀ i : Int, 7100 ≤ i → i < 7148 → i ≠ 7103 + 4 * x1 → Z.1 67 i = S.1 67 i))
/-- x.rent -/
def s71 (S : fx_S) (x1 : Int) (z : Int) (Z : fx_S) : Prop := S = Z ∧ (0 ≤ S.1 38 0 → z = if 0 ≤ x1 ∧ x1 < S.1 38 0 then fx_rent (S.1 40 x1) (S.1 41 x1) (S.1 42 x1) else -2)
/-- m.rent -/
def s72 (S : fx_S) (x1 : Int) (z : Int) (Z : fx_S) : Prop := S = Z ∧ (fx_WB S → z = if 0 ≤ x1 ∧ x1 < S.1 67 5 then fx_rent (S.1 67 (7101 + 4 * x1)) (S.1 67 (7102 + 4 * x1)) (S.1 67 (7103 + 4 * x1)) else -2)
/-- x.wish -/
def s73 (S : fx_S) (x1 x2 : Int) (z : Int) (Z : fx_S) : Prop := Z.2 = S.2 ∧ (∀ p i : Int, ¬ (p = 19 ∨ p = 20) → Z.1 p i = S.1 p i) ∧ (0 ≤ S.1 13 0 → 0 ≤ S.1 38 0 → (∀ q : Int, 0 ≤ q → q < S.1 13 0 → 0 ≤ S.1 19 q ∧ S.1 19 q ≤ 4) → (z = -2 ∧ ¬ (0 ≤ x1 ∧ x1 < S.1 13 0 ∧ 0 ≤ x2 ∧ x2 < S.1 38 0) ∧ Z = S) ∨ ((0 ≤ x1 ∧ x1 < S.1 13 0 ∧ 0 ≤ x2 ∧ x2 < S.1 38 0) ∧ ((z = -2 ∧ fx_exw (fun k => S.1 20 (4 * x1 + k) = x2) (0) (S.1 19 x1) ∧ Z = S) ∨ ((∀ k : Int, 0 ≤ k → k < S.1 19 x1 → ¬ S.1 20 (4 * x1 + k) = x2) ∧ ((z = -3 ∧ S.1 19 x1 = 4 ∧ Z = S) ∨ (S.1 19 x1 < 4 ∧ z = S.1 19 x1 + 1 ∧ (∀ i : Int, Z.1 19 i = if i = x1 then S.1 19 x1 + 1 else S.1 19 i) ∧ ∀ i : Int, Z.1 20 i = if i = 4 * x1 + S.1 19 x1 then x2 else S.1 20 i))))))
/-- m.wish -/
def s74 (S : fx_S) (x1 x2 : Int) (z : Int) (Z : fx_S) : Prop := fx_WB S → Z.2 = S.2 ∧ (∀ p i : Int, ¬ ((p = 67 ∧ (300 ≤ i ∧ i < 1100))) → Z.1 p i = S.1 p i) ∧ fx_WB Z ∧ ((z = -2 ∧ ¬ (0 ≤ x1 ∧ x1 < S.1 67 2 ∧ 0 ≤ x2 ∧ x2 < S.1 67 5) ∧ Z = S) ∨ ((0 ≤ x1 ∧ x1 < S.1 67 2 ∧ 0 ≤ x2 ∧ x2 < S.1 67 5) ∧ ((z = -2 ∧ fx_exw (fun k => S.1 67 (305 + 10 * x1 + 1 + k) = x2) (0) (S.1 67 (305 + 10 * x1)) ∧ Z = S) ∨ ((∀ k : Int, 0 ≤ k → k < S.1 67 (305 + 10 * x1) → ¬ S.1 67 (305 + 10 * x1 + 1 + k) = x2) ∧ ((z = -3 ∧ S.1 67 (305 + 10 * x1) = 4 ∧ Z = S) ∨ (S.1 67 (305 + 10 * x1) < 4 ∧ z = S.1 67 (305 + 10 * x1) + 1 ∧ ∀ i : Int, Z.1 67 i = if i = 305 + 10 * x1 then S.1 67 (305 + 10 * x1) + 1 else if i = 305 + 10 * x1 + 1 + S.1 67 (305 + 10 * x1) then x2 else S.1 67 i))))))
/-- x.lodge -/
def s75 (S : fx_S) (z : Int) (Z : fx_S) : Prop := Z.2 = S.2 ∧ (∀ p i : Int, ¬ (p = 43 ∨ p = 61) → Z.1 p i = S.1 p i)
/-- m.lodge -/
def s76 (S : fx_S) (z : Int) (Z : fx_S) : Prop := Z.2 = S.2 ∧ (∀ p i : Int, ¬ (p = 81 ∨ p = 82 ∨ (p = 66 ∧ i = 25)) → Z.1 p i = S.1 p i)
/-- x.lodged -/
def s77 (S : fx_S) (x1 : Int) (z : Int) (Z : fx_S) : Prop := S = Z
/-- m.lodged -/
def s78 (S : fx_S) (x1 : Int) (z : Int) (Z : fx_S) : Prop := S = Z
/-- x.worth -/
def s79 (S : fx_S) (x1 x2 : Int) (z : Int) (Z : fx_S) : Prop := Z.2 = S.2 ∧ (∀ p i : Int, ¬ (p = 18) → Z.1 p i = S.1 p i) ∧ (0 ≤ S.1 13 0 → if 0 ≤ x1 ∧ x1 < S.1 13 0 ∧ 0 ≤ x2 ∧ x2 ≤ 99 then z = S.1 18 x1 ∧ ∀ i : Int, Z.1 18 i = if i = x1 then x2 else S.1 18 i else z = -2 ∧ Z = S)
/-- m.worth -/
def s80 (S : fx_S) (x1 x2 : Int) (z : Int) (Z : fx_S) : Prop := fx_WB S → Z.2 = S.2 ∧ (∀ p i : Int, ¬ ((p = 67 ∧ (300 ≤ i ∧ i < 1100))) → Z.1 p i = S.1 p i) ∧ fx_WB Z ∧ (if 0 ≤ x1 ∧ x1 < S.1 67 2 ∧ 0 ≤ x2 ∧ x2 ≤ 99 then z = S.1 67 (304 + 10 * x1) ∧ ∀ i : Int, Z.1 67 i = if i = 304 + 10 * x1 then x2 else S.1 67 i else z = -2 ∧ Z = S)
/-- x.exodus -/
def s81 (S : fx_S) (x1 : Int) (z : Int) (Z : fx_S) : Prop := Z.2 = S.2 ∧ (∀ p i : Int, ¬ (p = 64 ∨ p = 65 ∨ (p = 0 ∧ i = 10)) → Z.1 p i = S.1 p i)
/-- m.exodus -/
def s82 (S : fx_S) (x1 : Int) (z : Int) (Z : fx_S) : Prop := Z.2 = S.2 ∧ (∀ p i : Int, ¬ (p = 83 ∨ p = 84 ∨ (p = 66 ∧ i = 29) ∨ (p = 66 ∧ i = 30)) → Z.1 p i = S.1 p i)
/-- x.goes -/
def s83 (S : fx_S) (x1 x2 : Int) (z : Int) (Z : fx_S) : Prop := Z.2 = S.2 ∧ (∀ p i : Int, ¬ (p = 64 ∨ p = 65 ∨ (p = 0 ∧ i = 10)) → Z.1 p i = S.1 p i)
/-- m.goes -/
def s84 (S : fx_S) (x1 x2 : Int) (z : Int) (Z : fx_S) : Prop := Z.2 = S.2 ∧ (∀ p i : Int, ¬ (p = 83 ∨ p = 84 ∨ (p = 66 ∧ i = 29) ∨ (p = 66 ∧ i = 30)) → Z.1 p i = S.1 p i)
/-- x.returns -/
def s85 (S : fx_S) (x1 : Int) (z : Int) (Z : fx_S) : Prop := Z.2 = S.2 ∧ (∀ p i : Int, ¬ (p = 64 ∨ p = 65 ∨ (p = 0 ∧ i = 10)) → Z.1 p i = S.1 p i)
/-- m.returns -/
def s86 (S : fx_S) (x1 : Int) (z : Int) (Z : fx_S) : Prop := Z.2 = S.2 ∧ (∀ p i : Int, ¬ (p = 83 ∨ p = 84 ∨ (p = 66 ∧ i = 29) ∨ (p = 66 ∧ i = 30)) → Z.1 p i = S.1 p i)
/-- x.judge -/
def s87 (S : fx_S) (x1 : Int) (z : Int) (Z : fx_S) : Prop := S = Z
/-- m.judge -/
def s88 (S : fx_S) (x1 : Int) (z : Int) (Z : fx_S) : Prop := S = Z
/-- x.entry -/
def s89 (S : fx_S) (x1 x2 x3 x4 : Int) (z : Int) (Z : fx_S) : Prop := Z.2 = S.2 ∧ (∀ p i : Int, ¬ (p = 45 ∨ p = 46 ∨ p = 47 ∨ p = 48) → Z.1 p i = S.1 p i)
/-- m.entry -/
def s90 (S : fx_S) (x1 x2 x3 x4 : Int) (z : Int) (Z : fx_S) : Prop := fx_WB S → Z.2 = S.2 ∧ (∀ p i : Int, ¬ ((p = 67 ∧ (i = 10 ∨ i = 11 ∨ (8048 ≤ i ∧ i < 8090)))) → Z.1 p i = S.1 p i) ∧ fx_WB Z
/-- x.join -/
def s91 (S : fx_S) (z : Int) (Z : fx_S) : Prop := Z.2 = S.2 ∧ (∀ p i : Int, ¬ (p = 57 ∨ p = 58 ∨ p = 59 ∨ p = 60 ∨ (p = 56 ∧ i = 1) ∨ (p = 56 ∧ i = 2) ∨ (p = 56 ∧ i = 3)) → Z.1 p i = S.1 p i)
/-- m.join -/
def s92 (S : fx_S) (z : Int) (Z : fx_S) : Prop := Z.2 = S.2 ∧ (∀ p i : Int, ¬ (p = 85 ∨ p = 86 ∨ (p = 66 ∧ i = 33) ∨ (p = 66 ∧ i = 34) ∨ (p = 66 ∧ i = 35)) → Z.1 p i = S.1 p i)
/-- x.joined -/
def s93 (S : fx_S) (x1 : Int) (z : Int) (Z : fx_S) : Prop := S = Z
/-- m.joined -/
def s94 (S : fx_S) (x1 : Int) (z : Int) (Z : fx_S) : Prop := S = Z
/-- x.rivals -/
def s95 (S : fx_S) (z : Int) (Z : fx_S) : Prop := S = Z
/-- m.rivals -/
def s96 (S : fx_S) (z : Int) (Z : fx_S) : Prop := S = Z
/-- x.count -/
def s97 (S : fx_S) (x1 : Int) (z : Int) (Z : fx_S) : Prop := S = Z
/-- m.count -/
def s98 (S : fx_S) (x1 : Int) (z : Int) (Z : fx_S) : Prop := S = Z
/-- x.purse -/
def s99 (S : fx_S) (x1 : Int) (z : Int) (Z : fx_S) : Prop := S = Z
/-- m.purse -/
def s100 (S : fx_S) (x1 : Int) (z : Int) (Z : fx_S) : Prop := S = Z
/-- x.keep -/
def s101 (S : fx_S) (x1 : Int) (z : Int) (Z : fx_S) : Prop := 91 ≤ S.2.2 → (∀ k : Int, 0 ≤ k → k < 3 → S.2.1 49 k = -1 ∨ 91 ≤ S.2.1 49 k) → (z = -2 ∧ ¬ (0 ≤ x1 ∧ x1 < 3) ∧ Z = S) ∨ (z = 0 ∧ 0 ≤ x1 ∧ x1 < 3 ∧ ∃ v : Int, ((S.2.1 49 x1 = -1 ∧ v = S.2.2 ∧ Z.2.2 = S.2.2 + 48) ∨ (¬ S.2.1 49 x1 = -1 ∧ v = S.2.1 49 x1 ∧ Z.2.2 = S.2.2)) ∧ (∀ k : Int, Z.2.1 49 k = if k = x1 then v else S.2.1 49 k) ∧ (∀ p i : Int, ¬ (v ≤ p ∧ p < v + 48) → Z.1 p i = S.1 p i) ∧ ∀ j i : Int, fx_tb j i → Z.1 (v + j) i = S.1 (1 + j) i)
/-- m.keep -/
def s102 (S : fx_S) (x1 : Int) (z : Int) (Z : fx_S) : Prop := Z.2 = S.2 ∧ (∀ p i : Int, ¬ (p = 68 ∨ p = 69) → Z.1 p i = S.1 p i) ∧ ((z = -2 ∧ ¬ (0 ≤ x1 ∧ x1 < 3) ∧ Z = S) ∨ (z = 0 ∧ 0 ≤ x1 ∧ x1 < 3 ∧ (∀ k : Int, Z.1 69 k = if k = x1 then 1 else S.1 69 k) ∧ ∀ i : Int, Z.1 68 i = if 8090 * x1 ≤ i ∧ i < 8090 * x1 + 8090 then S.1 67 (i - 8090 * x1) else S.1 68 i))
/-- x.back -/
def s103 (S : fx_S) (x1 : Int) (z : Int) (Z : fx_S) : Prop := (∀ k : Int, 0 ≤ k → k < 3 → S.2.1 49 k = -1 ∨ 91 ≤ S.2.1 49 k) → (z = -2 ∧ ¬ (0 ≤ x1 ∧ x1 < 3) ∧ Z = S) ∨ (z = -6 ∧ 0 ≤ x1 ∧ x1 < 3 ∧ S.2.1 49 x1 = -1 ∧ Z = S) ∨ (z = 0 ∧ 0 ≤ x1 ∧ x1 < 3 ∧ ¬ S.2.1 49 x1 = -1 ∧ (∀ k : Int, Z.2.1 49 k = S.2.1 49 k) ∧ Z.2.2 = S.2.2 ∧ (∀ p i : Int, ¬ (1 ≤ p ∧ p < 49) → Z.1 p i = S.1 p i) ∧ ∀ j i : Int, fx_tb j i → Z.1 (1 + j) i = S.1 (S.2.1 49 x1 + j) i)
/-- m.back -/
def s104 (S : fx_S) (x1 : Int) (z : Int) (Z : fx_S) : Prop := Z.2 = S.2 ∧ (∀ p i : Int, ¬ (p = 67) → Z.1 p i = S.1 p i) ∧ ((z = -2 ∧ ¬ (0 ≤ x1 ∧ x1 < 3) ∧ Z = S) ∨ (z = -6 ∧ 0 ≤ x1 ∧ x1 < 3 ∧ S.1 69 x1 = 0 ∧ Z = S) ∨ (z = 0 ∧ 0 ≤ x1 ∧ x1 < 3 ∧ ¬ S.1 69 x1 = 0 ∧ ∀ i : Int, Z.1 67 i = if 0 ≤ i ∧ i < 8090 then S.1 68 (8090 * x1 + i) else S.1 67 i))
/-- x.row -/
def s105 (S : fx_S) (x1 x2 x3 : Int) (z : Int) (Z : fx_S) : Prop := Z.2 = S.2 ∧ (∀ p i : Int, ¬ (p = 53 ∨ p = 54 ∨ p = 55) → Z.1 p i = S.1 p i) ∧ ((z = -2 ∧ ¬ ((0 ≤ x1 ∧ x1 < 4) ∧ (0 ≤ x2 ∧ x2 ≤ 3) ∧ x3 ≤ 60) ∧ Z = S) ∨ (((0 ≤ x1 ∧ x1 < 4) ∧ (0 ≤ x2 ∧ x2 ≤ 3) ∧ x3 ≤ 60) ∧ ((z = -3 ∧ x3 < 0 ∧ Z = S) ∨ (0 ≤ x3 ∧ z = 0 ∧ (∀ s : Int, Z.1 54 s = if s = x1 then x3 else S.1 54 s) ∧ (∀ s : Int, Z.1 53 s = if s = x1 then x2 else S.1 53 s) ∧ ∀ i : Int, Z.1 55 i = if 60 * x1 ≤ i ∧ i < 60 * x1 + 60 then 0 else S.1 55 i))))
/-- m.row -/
def s106 (S : fx_S) (x1 x2 x3 : Int) (z : Int) (Z : fx_S) : Prop := Z.2 = S.2 ∧ (∀ p i : Int, ¬ (p = 87 ∨ p = 88 ∨ p = 89) → Z.1 p i = S.1 p i) ∧ ((z = -2 ∧ ¬ ((0 ≤ x1 ∧ x1 < 4) ∧ (0 ≤ x2 ∧ x2 ≤ 3) ∧ x3 ≤ 60) ∧ Z = S) ∨ (((0 ≤ x1 ∧ x1 < 4) ∧ (0 ≤ x2 ∧ x2 ≤ 3) ∧ x3 ≤ 60) ∧ ((z = -3 ∧ x3 < 0 ∧ Z = S) ∨ (0 ≤ x3 ∧ z = 0 ∧ (∀ s : Int, Z.1 87 s = if s = x1 then x3 else S.1 87 s) ∧ (∀ s : Int, Z.1 88 s = if s = x1 then x2 else S.1 88 s) ∧ ∀ i : Int, Z.1 89 i = if 60 * x1 ≤ i ∧ i < 60 * x1 + 60 then 0 else S.1 89 i))))
/-- x.write -/
def s107 (S : fx_S) (x1 x2 x3 : Int) (z : Int) (Z : fx_S) : Prop := Z.2 = S.2 ∧ (∀ p i : Int, ¬ (p = 55) → Z.1 p i = S.1 p i) ∧ ((0 ≤ x1 → x1 < 4 → -1 ≤ S.1 54 x1 ∧ S.1 54 x1 ≤ 60) → if 0 ≤ x1 ∧ x1 < 4 then (if S.1 54 x1 = -1 then z = -6 ∧ Z = S else if 0 ≤ x2 ∧ x2 < S.1 54 x1 then z = 0 ∧ ∀ i : Int, Z.1 55 i = if i = 60 * x1 + x2 then (fx_cut x3 (S.1 53 x1)) else S.1 55 i else z = -7 ∧ Z = S) else z = -2 ∧ Z = S)
/-- m.write -/
def s108 (S : fx_S) (x1 x2 x3 : Int) (z : Int) (Z : fx_S) : Prop := Z.2 = S.2 ∧ (∀ p i : Int, ¬ (p = 89) → Z.1 p i = S.1 p i) ∧ ((0 ≤ x1 → x1 < 4 → -1 ≤ S.1 87 x1 ∧ S.1 87 x1 ≤ 60) → if 0 ≤ x1 ∧ x1 < 4 then (if S.1 87 x1 = -1 then z = -6 ∧ Z = S else if 0 ≤ x2 ∧ x2 < S.1 87 x1 then z = 0 ∧ ∀ i : Int, Z.1 89 i = if i = 60 * x1 + x2 then (fx_cut x3 (S.1 88 x1)) else S.1 89 i else z = -7 ∧ Z = S) else z = -2 ∧ Z = S)
/-- x.paste -/
def s109 (S : fx_S) (x1 x2 x3 x4 x5 : Int) (z : Int) (Z : fx_S) : Prop := Z.2 = S.2 ∧ (∀ p i : Int, ¬ (p = 55) → Z.1 p i = S.1 p i) ∧ ((0 ≤ x1 → x1 < 4 → -1 ≤ S.1 54 x1 ∧ S.1 54 x1 ≤ 60) → (0 ≤ x3 → x3 < 4 → -1 ≤ S.1 54 x3 ∧ S.1 54 x3 ≤ 60) → if (0 ≤ x1 ∧ x1 < 4) ∧ 0 ≤ x3 ∧ x3 < 4 then (if S.1 54 x1 = -1 ∨ S.1 54 x3 = -1 then z = -6 ∧ Z = S else if S.1 53 x1 = S.1 53 x3 then (if (0 ≤ x2 ∧ 0 ≤ x4 ∧ 0 ≤ x5 ∧ x2 + x5 ≤ S.1 54 x1 ∧ x4 + x5 ≤ S.1 54 x3) then z = 0 ∧ ∀ i : Int, Z.1 55 i = if 60 * x3 + x4 ≤ i ∧ i < 60 * x3 + x4 + x5 then S.1 55 (60 * x1 + x2 + (i - (60 * x3 + x4))) else S.1 55 i else z = -7 ∧ Z = S) else z = -8 ∧ Z = S) else z = -2 ∧ Z = S)
/-- m.paste -/
def s110 (S : fx_S) (x1 x2 x3 x4 x5 : Int) (z : Int) (Z : fx_S) : Prop := Z.2 = S.2 ∧ (∀ p i : Int, ¬ (p = 89 ∨ p = 90) → Z.1 p i = S.1 p i) ∧ ((0 ≤ x1 → x1 < 4 → -1 ≤ S.1 87 x1 ∧ S.1 87 x1 ≤ 60) → (0 ≤ x3 → x3 < 4 → -1 ≤ S.1 87 x3 ∧ S.1 87 x3 ≤ 60) → if (0 ≤ x1 ∧ x1 < 4) ∧ 0 ≤ x3 ∧ x3 < 4 then (if S.1 87 x1 = -1 ∨ S.1 87 x3 = -1 then z = -6 ∧ Z = S else if S.1 88 x1 = S.1 88 x3 then (if (0 ≤ x2 ∧ 0 ≤ x4 ∧ 0 ≤ x5 ∧ x2 + x5 ≤ S.1 87 x1 ∧ x4 + x5 ≤ S.1 87 x3) then z = 0 ∧ ∀ i : Int, Z.1 89 i = if 60 * x3 + x4 ≤ i ∧ i < 60 * x3 + x4 + x5 then S.1 89 (60 * x1 + x2 + (i - (60 * x3 + x4))) else S.1 89 i else z = -7 ∧ Z = S) else z = -8 ∧ Z = S) else z = -2 ∧ Z = S)
/-- Reader.append -/
def s111 (S : fx_S) (x1 : Int) (z : Int) (Z : fx_S) : Prop := Z.2 = S.2 ∧ (∀ p i : Int, ¬ (p = 51 ∨ (p = 50 ∧ i = 1)) → Z.1 p i = S.1 p i)
/-- m.feed@55 -/
def s112 (S : fx_S) (x6 : Int) (z : Int) (Z : fx_S) : Prop := Z.2 = S.2 ∧ (∀ p i : Int, ¬ (p = 70 ∨ (p = 66 ∧ i = 5)) → Z.1 p i = S.1 p i)
/-- m.in -/
def s113 (S : fx_S) (x0 x2 x4 : Int) (z : Int) (Z : fx_S) : Prop := S = Z ∧ (z = if x2 ≤ x0 ∧ x0 ≤ x4 then 1 else 0)
/-- x.within -/
def s114 (S : fx_S) (x0 x1 x2 : Int) (z : Int) (Z : fx_S) : Prop := S = Z ∧ (z = if x1 ≤ x0 ∧ x0 ≤ x2 then 1 else 0)
/-- Country.addVillage -/
def s115 (S : fx_S) (x1 x2 x3 : Int) (z : Int) (Z : fx_S) : Prop := Z.2 = S.2 ∧ (∀ p i : Int, ¬ (p = 3 ∨ p = 4 ∨ p = 5 ∨ (p = 2 ∧ i = 0)) → Z.1 p i = S.1 p i) ∧ ((z = -3 ∧ 40 ≤ S.1 2 0 ∧ Z = S) ∨ (S.1 2 0 < 40 ∧ z = S.1 2 0 ∧ Z.1 2 0 = S.1 2 0 + 1 ∧ ∀ i : Int, Z.1 3 i = (if i = S.1 2 0 then x1 else S.1 3 i) ∧ Z.1 4 i = (if i = S.1 2 0 then x2 else S.1 4 i) ∧ Z.1 5 i = (if i = S.1 2 0 then x3 else S.1 5 i)))
/-- Country.addWord -/
def s116 (S : fx_S) (x1 x2 x3 : Int) (z : Int) (Z : fx_S) : Prop := Z.2 = S.2 ∧ (∀ p i : Int, ¬ (p = 6 ∨ p = 7 ∨ p = 8 ∨ (p = 2 ∧ i = 4)) → Z.1 p i = S.1 p i) ∧ ((z = -3 ∧ 40 ≤ S.1 2 4 ∧ Z = S) ∨ (S.1 2 4 < 40 ∧ z = 0 ∧ Z.1 2 4 = S.1 2 4 + 1 ∧ ∀ i : Int, Z.1 6 i = (if i = S.1 2 4 then x1 else S.1 6 i) ∧ Z.1 7 i = (if i = S.1 2 4 then x2 else S.1 7 i) ∧ Z.1 8 i = (if i = S.1 2 4 then x3 else S.1 8 i)))
/-- Reader.read -/
def s117 (S : fx_S) (z : Int) (Z : fx_S) : Prop := S.2.2 ≤ Z.2.2 ∧ (∀ p i : Int, ¬ (False) → Z.2.1 p i = S.2.1 p i) ∧ (∀ p i : Int, ¬ ((p = 50 ∧ i = 1) ∨ (p = 50 ∧ i = 2) ∨ (p = 50 ∧ i = 3) ∨ (p = 50 ∧ i = 4) ∨ (p = 50 ∧ i = 5) ∨ (p = 50 ∧ i = 6) ∨ S.2.2 ≤ p) → Z.1 p i = S.1 p i)
/-- Country.addStatute -/
def s118 (S : fx_S) (x1 x2 x3 : Int) (z : Int) (Z : fx_S) : Prop := S.2.2 ≤ Z.2.2 ∧ (∀ p i : Int, ¬ (p = 9) → Z.2.1 p i = S.2.1 p i) ∧ (∀ p i : Int, ¬ (p = 10 ∨ p = 11 ∨ p = 12 ∨ (p = 2 ∧ i = 8)) → Z.1 p i = S.1 p i)
/-- x.canPassStatutes -/
def s119 (S : fx_S) (x1 : Int) (z : Int) (Z : fx_S) : Prop := S = Z
/-- m.step -/
def s120 (S : fx_S) (z : Int) (Z : fx_S) : Prop := Z.2 = S.2 ∧ (∀ p i : Int, ¬ ((p = 66 ∧ i = 10) ∨ (p = 66 ∧ i = 11) ∨ (p = 66 ∧ i = 8) ∨ (p = 66 ∧ i = 9)) → Z.1 p i = S.1 p i)
/-- m.statute@64 -/
def s121 (S : fx_S) (x1 x2 : Int) (z : Int) (Z : fx_S) : Prop := fx_WB S → (0 ≤ x2 ∧ x2 ≤ 16 ∧ S.1 67 3 < 10 ∧ (∀ l : Int, 0 ≤ l → l < x2 → S.1 72 (4 + 16 * l) = 0 → 0 ≤ S.1 72 (5 + 16 * l) ∧ S.1 72 (5 + 16 * l) ≤ 3)) → Z.2 = S.2 ∧ (∀ p i : Int, ¬ ((p = 67 ∧ (i = 3 ∨ (1100 ≤ i ∧ i < 3700))) ∨ p = 72 ∨ (p = 66 ∧ i = 10) ∨ (p = 66 ∧ i = 11) ∨ (p = 66 ∧ i = 12) ∨ (p = 66 ∧ i = 13) ∨ (p = 66 ∧ i = 8) ∨ (p = 66 ∧ i = 9)) → Z.1 p i = S.1 p i) ∧ fx_WB Z
/-- m.mayPass -/
def s122 (S : fx_S) (x1 : Int) (z : Int) (Z : fx_S) : Prop := S = Z
/-- Country.inForce -/
def s123 (S : fx_S) (x1 x2 : Int) (z : Int) (Z : fx_S) : Prop := S = Z ∧ (0 ≤ S.1 2 8 → S.1 2 8 ≤ 10 → fx_isl (fun i : Int => S.1 10 i ≤ x1 ∧ S.1 10 i ≤ x2 ∧ x2 < S.1 12 i) (S.1 2 8) z)
/-- m.forceOf -/
def s124 (S : fx_S) (x1 x2 : Int) (z : Int) (Z : fx_S) : Prop := S = Z ∧ (fx_WB S → -1 ≤ z ∧ z < S.1 67 3)
/-- Math.min -/
def s125 (S : fx_S) (x0 x1 : Int) (z : Int) (Z : fx_S) : Prop := S = Z ∧ (z = if x0 ≤ x1 then x0 else x1)
/-- Country.claimsBy -/
def s126 (S : fx_S) (x1 x2 x3 : Int) (z : Int) (Z : fx_S) : Prop := S = Z
/-- m.landOf -/
def s127 (S : fx_S) (x1 x2 : Int) (z : Int) (Z : fx_S) : Prop := S = Z
/-- m.claimsBy -/
def s128 (S : fx_S) (x1 x2 x3 : Int) (z : Int) (Z : fx_S) : Prop := Z.2 = S.2 ∧ (∀ p i : Int, ¬ ((p = 66 ∧ i = 15)) → Z.1 p i = S.1 p i) ∧ (fx_WB S → (x1 = -1 ∨ (0 ≤ x1 ∧ x1 < S.1 67 3)) → -1 ≤ Z.1 66 15 ∧ Z.1 66 15 ≤ 3)
/-- Country.landOn -/
def s129 (S : fx_S) (x1 x2 : Int) (z : Int) (Z : fx_S) : Prop := S = Z
/-- Country.nationIfOf -/
def s130 (S : fx_S) (x1 x2 x3 : Int) (z : Int) (Z : fx_S) : Prop := S = Z
/-- x.sways@59 -/
def s131 (S : fx_S) (x1 x3 x4 x5 x6 : Int) (z : Int) (Z : fx_S) : Prop := S = Z
/-- m.sways@46 -/
def s132 (S : fx_S) (x1 x2 x3 x4 x5 : Int) (z : Int) (Z : fx_S) : Prop := Z.2 = S.2 ∧ (∀ p i : Int, ¬ ((p = 66 ∧ i = 15)) → Z.1 p i = S.1 p i)
/-- People.add -/
def s133 (S : fx_S) (x1 x2 x3 : Int) (z : Int) (Z : fx_S) : Prop := Z.2 = S.2 ∧ (∀ p i : Int, ¬ (p = 14 ∨ p = 15 ∨ p = 16 ∨ p = 17 ∨ p = 18 ∨ p = 19 ∨ (p = 13 ∧ i = 0)) → Z.1 p i = S.1 p i) ∧ ((z = -3 ∧ 80 ≤ S.1 13 0 ∧ Z = S) ∨ (S.1 13 0 < 80 ∧ z = S.1 13 0 ∧ Z.1 13 0 = S.1 13 0 + 1 ∧ ∀ i : Int, Z.1 14 i = (if i = S.1 13 0 then x1 else S.1 14 i) ∧ Z.1 15 i = (if i = S.1 13 0 then x2 else S.1 15 i) ∧ Z.1 16 i = (if i = S.1 13 0 then x3 else S.1 16 i) ∧ Z.1 17 i = (if i = S.1 13 0 then 3600 else S.1 17 i) ∧ Z.1 18 i = (if i = S.1 13 0 then 99 else S.1 18 i) ∧ Z.1 19 i = (if i = S.1 13 0 then 0 else S.1 19 i)))
/-- x.oaths@32 -/
def s134 (S : fx_S) (x1 x2 x3 : Int) (z : Int) (Z : fx_S) : Prop := Z.2 = S.2 ∧ (∀ p i : Int, ¬ (p = 14 ∨ p = 15 ∨ p = 16 ∨ p = 17 ∨ p = 18 ∨ p = 19 ∨ (p = 13 ∧ i = 0)) → Z.1 p i = S.1 p i) ∧ (∀ (w : Int → Int) (k : Nat), fx_WBf w → fx_Rd S.1 1 w → S.1 2 0 = w 1 → fx_Rp S.1 1 w → 0 ≤ x3 → (x3 ≤ 62 ∧ x2 ≤ x3) → S.1 54 x1 ≤ 60 → S.1 54 x1 < x3 + 2 * k + 2 → z = (fx_oat (fun i => S.1 55 (60 * x1 + i)) (S.1 54 x1) k x3 x2 w).1 ∧ fx_Rp Z.1 1 (fx_oat (fun i => S.1 55 (60 * x1 + i)) (S.1 54 x1) k x3 x2 w).2)
/-- m.oaths@30 -/
def s135 (S : fx_S) (x1 x2 x3 : Int) (z : Int) (Z : fx_S) : Prop := fx_WB S → Z.2 = S.2 ∧ (∀ p i : Int, ¬ ((p = 67 ∧ (i = 2 ∨ (300 ≤ i ∧ i < 1100)))) → Z.1 p i = S.1 p i) ∧ fx_WB Z ∧ (0 ≤ x1 → x1 < 4 → 60 * x1 ≤ x3 → (x3 ≤ 60 * x1 + 62 ∧ x2 ≤ x3 - 60 * x1 ∧ -1 ≤ S.1 87 x1 ∧ S.1 87 x1 ≤ 60) → ∀ k : Nat, 60 * x1 + S.1 87 x1 < x3 + 2 * k + 2 → z = (fx_oat (fun i => S.1 89 (60 * x1 + i)) (S.1 87 x1) k (x3 - 60 * x1) x2 (S.1 67)).1 ∧ ∀ i : Int, Z.1 67 i = (fx_oat (fun i => S.1 89 (60 * x1 + i)) (S.1 87 x1) k (x3 - 60 * x1) x2 (S.1 67)).2 i)
/-- x.isThere -/
def s136 (S : fx_S) (x1 : Int) (z : Int) (Z : fx_S) : Prop := S = Z ∧ (0 ≤ S.1 13 0 → z = if (0 ≤ x1 ∧ x1 < S.1 13 0) ∧ S.1 16 x1 ≤ S.1 1 0 ∧ S.1 1 0 < S.1 17 x1 then 1 else 0)
/-- Told.nationUnder -/
def s137 (S : fx_S) (x1 x2 x3 : Int) (z : Int) (Z : fx_S) : Prop := S = Z
/-- m.nationOf -/
def s138 (S : fx_S) (x1 x2 : Int) (z : Int) (Z : fx_S) : Prop := Z.2 = S.2 ∧ (∀ p i : Int, ¬ ((p = 66 ∧ i = 15)) → Z.1 p i = S.1 p i) ∧ (fx_WB S → -1 ≤ z ∧ z ≤ 3)
/-- x.heads@35 -/
def s139 (S : fx_S) (x1 x2 x3 x4 x5 : Int) (z : Int) (Z : fx_S) : Prop := S = Z
/-- m.heads@37 -/
def s140 (S : fx_S) (x1 x2 x3 x4 x5 : Int) (z : Int) (Z : fx_S) : Prop := Z.2 = S.2 ∧ (∀ p i : Int, ¬ ((p = 66 ∧ i = 15)) → Z.1 p i = S.1 p i)
/-- x.sorted@31 -/
def s141 (S : fx_S) (x1 x2 x3 x4 x5 : Int) (z : Int) (Z : fx_S) : Prop := S = Z
/-- m.sorted@38 -/
def s142 (S : fx_S) (x1 x2 x3 x4 x5 : Int) (z : Int) (Z : fx_S) : Prop := Z.2 = S.2 ∧ (∀ p i : Int, ¬ ((p = 66 ∧ i = 15)) → Z.1 p i = S.1 p i)
/-- Told.feesOwed -/
def s143 (S : fx_S) (x1 x2 x3 : Int) (z : Int) (Z : fx_S) : Prop := S = Z
/-- m.feesOf -/
def s144 (S : fx_S) (x1 x2 x3 : Int) (z : Int) (Z : fx_S) : Prop := S = Z
/-- Purses.addPayment -/
def s145 (S : fx_S) (x1 x2 x3 : Int) (z : Int) (Z : fx_S) : Prop := Z.2 = S.2 ∧ (∀ p i : Int, ¬ (p = 24 ∨ p = 25 ∨ p = 26 ∨ (p = 21 ∧ i = 2)) → Z.1 p i = S.1 p i)
/-- Purses.paidBy -/
def s146 (S : fx_S) (x1 x2 : Int) (z : Int) (Z : fx_S) : Prop := S = Z
/-- m.even@36 -/
def s147 (S : fx_S) (x1 x2 x3 x4 : Int) (z : Int) (Z : fx_S) : Prop := S = Z
/-- x.countHeadsOfEach -/
def s148 (S : fx_S) (z : Int) (Z : fx_S) : Prop := Z.2 = S.2 ∧ (∀ p i : Int, ¬ (p = 63) → Z.1 p i = S.1 p i)
/-- Purses.share -/
def s149 (S : fx_S) (x1 x3 : Int) (z : Int) (Z : fx_S) : Prop := Z.2 = S.2 ∧ (∀ p i : Int, ¬ (p = 27 ∨ p = 28) → Z.1 p i = S.1 p i)
/-- Purses.coverShares -/
def s150 (S : fx_S) (z : Int) (Z : fx_S) : Prop := S = Z
/-- Purses.payShares -/
def s151 (S : fx_S) (x1 : Int) (z : Int) (Z : fx_S) : Prop := Z.2 = S.2 ∧ (∀ p i : Int, ¬ (p = 22 ∨ p = 23 ∨ (p = 21 ∧ i = 7)) → Z.1 p i = S.1 p i)
/-- Purses.sum -/
def s152 (S : fx_S) (z : Int) (Z : fx_S) : Prop := S = Z
/-- m.masters@19 -/
def s153 (S : fx_S) (x1 x2 x3 : Int) (z : Int) (Z : fx_S) : Prop := fx_WB S → Z.2 = S.2 ∧ (∀ p i : Int, ¬ ((p = 67 ∧ (i = 9 ∨ (12 ≤ i ∧ i < 20))) ∨ p = 73 ∨ p = 74 ∨ p = 75 ∨ (p = 66 ∧ i = 15)) → Z.1 p i = S.1 p i) ∧ fx_WB Z
/-- Elections.open -/
def s154 (S : fx_S) (x1 : Int) (z : Int) (Z : fx_S) : Prop := Z.2 = S.2 ∧ (∀ p i : Int, ¬ (p = 30 ∨ p = 31 ∨ p = 32 ∨ p = 33 ∨ p = 34 ∨ (p = 29 ∧ i = 0)) → Z.1 p i = S.1 p i)
/-- m.call@2 -/
def s155 (S : fx_S) (x1 : Int) (z : Int) (Z : fx_S) : Prop := fx_WB S → Z.2 = S.2 ∧ (∀ p i : Int, ¬ ((p = 67 ∧ (i = 4 ∨ (3700 ≤ i ∧ i < 7100)))) → Z.1 p i = S.1 p i) ∧ fx_WB Z
/-- m.isThere -/
def s156 (S : fx_S) (x1 x2 : Int) (z : Int) (Z : fx_S) : Prop := S = Z ∧ (0 ≤ x1 → x1 ≤ 80 → z = if S.1 67 (302 + 10 * x1) ≤ x2 ∧ (S.1 67 (303 + 10 * x1) = -1 ∨ x2 < S.1 67 (303 + 10 * x1)) then 1 else 0)
/-- x.tallyAsCounted -/
def s157 (S : fx_S) (x1 : Int) (z : Int) (Z : fx_S) : Prop := Z.2 = S.2 ∧ (∀ p i : Int, ¬ (p = 34 ∨ p = 35 ∨ p = 36) → Z.1 p i = S.1 p i)
/-- Told.isCarried -/
def s158 (S : fx_S) (x1 : Int) (z : Int) (Z : fx_S) : Prop := S = Z
/-- m.close@29 -/
def s159 (S : fx_S) (x1 x2 x3 : Int) (z : Int) (Z : fx_S) : Prop := fx_WB S → (3700 ≤ x2 ∧ x2 + 170 ≤ 7100 ∧ 0 ≤ x3) → Z.2 = S.2 ∧ (∀ p i : Int, ¬ ((p = 67 ∧ (3700 ≤ i ∧ i < 7100)) ∨ p = 76 ∨ p = 77 ∨ (p = 66 ∧ i = 15)) → Z.1 p i = S.1 p i) ∧ fx_WB Z
/-- Country.partOf -/
def s160 (S : fx_S) (x1 : Int) (z : Int) (Z : fx_S) : Prop := S = Z
/-- Elections.isCarriedByHeads -/
def s161 (S : fx_S) (x1 x2 : Int) (z : Int) (Z : fx_S) : Prop := S = Z
/-- Elections.nationsOfSign -/
def s162 (S : fx_S) (x1 x2 : Int) (z : Int) (Z : fx_S) : Prop := S = Z
/-- Elections.sumOf -/
def s163 (S : fx_S) (x1 : Int) (z : Int) (Z : fx_S) : Prop := S = Z
/-- Elections.sumOf#2 -/
def s164 (S : fx_S) (x1 : Int) (z : Int) (Z : fx_S) : Prop := S = Z
/-- m.byNations -/
def s165 (S : fx_S) (x1 x2 : Int) (z : Int) (Z : fx_S) : Prop := Z.2 = S.2 ∧ (∀ p i : Int, ¬ (p = 76 ∨ p = 77 ∨ (p = 66 ∧ i = 15)) → Z.1 p i = S.1 p i)
/-- m.cast -/
def s166 (S : fx_S) (x1 x2 : Int) (z : Int) (Z : fx_S) : Prop := S = Z
/-- m.byHeads -/
def s167 (S : fx_S) (x1 x2 x3 : Int) (z : Int) (Z : fx_S) : Prop := S = Z
/-- m.nationsThat -/
def s168 (S : fx_S) (x1 : Int) (z : Int) (Z : fx_S) : Prop := S = Z
/-- x.tallyUnder -/
def s169 (S : fx_S) (x1 x2 : Int) (z : Int) (Z : fx_S) : Prop := Z.2 = S.2 ∧ (∀ p i : Int, ¬ (p = 35 ∨ p = 36) → Z.1 p i = S.1 p i)
/-- Country.votesByNations -/
def s170 (S : fx_S) (x1 : Int) (z : Int) (Z : fx_S) : Prop := S = Z
/-- Elections.isCarriedByNations -/
def s171 (S : fx_S) (x1 : Int) (z : Int) (Z : fx_S) : Prop := S = Z
/-- m.isCarried -/
def s172 (S : fx_S) (x1 x2 : Int) (z : Int) (Z : fx_S) : Prop := S = Z
/-- Elections.swingByHeads -/
def s173 (S : fx_S) (x1 x2 : Int) (z : Int) (Z : fx_S) : Prop := S = Z
/-- Elections.swingByNations -/
def s174 (S : fx_S) (x1 : Int) (z : Int) (Z : fx_S) : Prop := Z.2 = S.2 ∧ (∀ p i : Int, ¬ (p = 37) → Z.1 p i = S.1 p i)
/-- m.termOf -/
def s175 (S : fx_S) (x1 x2 x3 x4 : Int) (z : Int) (Z : fx_S) : Prop := S = Z
/-- m.swing@87 -/
def s176 (S : fx_S) (x2 x3 x4 x5 x6 : Int) (z : Int) (Z : fx_S) : Prop := S = Z
/-- m.swingByNations -/
def s177 (S : fx_S) (x1 : Int) (z : Int) (Z : fx_S) : Prop := Z.2 = S.2 ∧ (∀ p i : Int, ¬ (p = 78 ∨ p = 79) → Z.1 p i = S.1 p i)
/-- x.undo@48 -/
def s178 (S : fx_S) (x3 x4 : Int) (z : Int) (Z : fx_S) : Prop := Z.2 = S.2 ∧ (∀ p i : Int, ¬ (p = 12 ∨ p = 33) → Z.1 p i = S.1 p i)
/-- m.spreads -/
def s179 (S : fx_S) (z : Int) (Z : fx_S) : Prop := fx_WB S → Z.2 = S.2 ∧ (∀ p i : Int, ¬ ((p = 67 ∧ (1100 ≤ i ∧ i < 7100))) → Z.1 p i = S.1 p i) ∧ fx_WB Z
/-- x.findNationOfEach -/
def s180 (S : fx_S) (x1 : Int) (z : Int) (Z : fx_S) : Prop := Z.2 = S.2 ∧ (∀ p i : Int, ¬ (p = 62) → Z.1 p i = S.1 p i)
/-- x.rectorOn -/
def s181 (S : fx_S) (x1 x2 : Int) (z : Int) (Z : fx_S) : Prop := S = Z
/-- m.sorts -/
def s182 (S : fx_S) (x1 : Int) (z : Int) (Z : fx_S) : Prop := Z.2 = S.2 ∧ (∀ p i : Int, ¬ (p = 80 ∨ (p = 66 ∧ i = 15)) → Z.1 p i = S.1 p i)
/-- m.rectorOn -/
def s183 (S : fx_S) (x1 x2 : Int) (z : Int) (Z : fx_S) : Prop := S = Z
/-- x.turn@33 -/
def s184 (S : fx_S) (x1 x3 x4 : Int) (z : Int) (Z : fx_S) : Prop := S = Z
/-- m.turn@27 -/
def s185 (S : fx_S) (x1 x3 : Int) (z : Int) (Z : fx_S) : Prop := S = Z
/-- Houses.add -/
def s186 (S : fx_S) (x1 x2 x3 : Int) (z : Int) (Z : fx_S) : Prop := Z.2 = S.2 ∧ (∀ p i : Int, ¬ (p = 39 ∨ p = 40 ∨ p = 41 ∨ p = 42 ∨ (p = 38 ∧ i = 0)) → Z.1 p i = S.1 p i) ∧ ((z = -3 ∧ 12 ≤ S.1 38 0 ∧ Z = S) ∨ (S.1 38 0 < 12 ∧ z = S.1 38 0 ∧ Z.1 38 0 = S.1 38 0 + 1 ∧ ∀ i : Int, Z.1 39 i = (if i = S.1 38 0 then x1 else S.1 39 i) ∧ Z.1 40 i = (if i = S.1 38 0 then x2 else S.1 40 i) ∧ Z.1 41 i = (if i = S.1 38 0 then x3 else S.1 41 i) ∧ Z.1 42 i = (if i = S.1 38 0 then -1 else S.1 42 i)))
/-- Houses.rentOf -/
def s187 (S : fx_S) (x1 : Int) (z : Int) (Z : fx_S) : Prop := S = Z ∧ (z = fx_rent (S.1 40 x1) (S.1 41 x1) (S.1 42 x1))
/-- Math.max -/
def s188 (S : fx_S) (x0 x1 : Int) (z : Int) (Z : fx_S) : Prop := S = Z ∧ (z = if x0 ≤ x1 then x1 else x0)
/-- People.addWish -/
def s189 (S : fx_S) (x1 x2 : Int) (z : Int) (Z : fx_S) : Prop := Z.2 = S.2 ∧ (∀ p i : Int, ¬ (p = 19 ∨ p = 20) → Z.1 p i = S.1 p i) ∧ (0 ≤ S.1 19 x1 → S.1 19 x1 ≤ 4 → (z = -2 ∧ fx_exw (fun k => S.1 20 (4 * x1 + k) = x2) (0) (S.1 19 x1) ∧ Z = S) ∨ ((∀ k : Int, 0 ≤ k → k < S.1 19 x1 → ¬ S.1 20 (4 * x1 + k) = x2) ∧ ((z = -3 ∧ S.1 19 x1 = 4 ∧ Z = S) ∨ (S.1 19 x1 < 4 ∧ z = S.1 19 x1 + 1 ∧ (∀ i : Int, Z.1 19 i = if i = x1 then S.1 19 x1 + 1 else S.1 19 i) ∧ ∀ i : Int, Z.1 20 i = if i = 4 * x1 + S.1 19 x1 then x2 else S.1 20 i))))
/-- m.wish@33 -/
def s190 (S : fx_S) (x2 x3 x4 : Int) (z : Int) (Z : fx_S) : Prop := fx_WB S → (305 ≤ x3 ∧ (x3 - 305) % 10 = 0 ∧ x3 < 305 + 10 * S.1 67 2 ∧ 0 ≤ x4) → Z.2 = S.2 ∧ (∀ p i : Int, ¬ ((p = 67 ∧ (300 ≤ i ∧ i < 1100))) → Z.1 p i = S.1 p i) ∧ fx_WB Z ∧ ((z = -2 ∧ fx_exw (fun k => S.1 67 (x3 + 1 + k) = x2) (x4) (S.1 67 (x3)) ∧ Z = S) ∨ ((∀ k : Int, x4 ≤ k → k < S.1 67 (x3) → ¬ S.1 67 (x3 + 1 + k) = x2) ∧ ((z = -3 ∧ S.1 67 (x3) = 4 ∧ Z = S) ∨ (S.1 67 (x3) < 4 ∧ z = S.1 67 (x3) + 1 ∧ ∀ i : Int, Z.1 67 i = if i = x3 then S.1 67 (x3) + 1 else if i = x3 + 1 + S.1 67 (x3) then x2 else S.1 67 i))))
/-- Arrays.fill -/
def s191 (S : fx_S) (x1 : Int) (z : Int) (Z : fx_S) : Prop := Z.2 = S.2 ∧ (∀ p i : Int, ¬ (p = 61) → Z.1 p i = S.1 p i)
/-- x.lodge@22 -/
def s192 (S : fx_S) (x1 x2 : Int) (z : Int) (Z : fx_S) : Prop := Z.2 = S.2 ∧ (∀ p i : Int, ¬ (p = 43 ∨ p = 61) → Z.1 p i = S.1 p i)
/-- m.lodge@9 -/
def s193 (S : fx_S) (x1 x2 : Int) (z : Int) (Z : fx_S) : Prop := Z.2 = S.2 ∧ (∀ p i : Int, ¬ (p = 81 ∨ p = 82) → Z.1 p i = S.1 p i)
/-- x.sendTheMost -/
def s194 (S : fx_S) (z : Int) (Z : fx_S) : Prop := Z.2 = S.2 ∧ (∀ p i : Int, ¬ (p = 64 ∨ p = 65 ∨ (p = 0 ∧ i = 10)) → Z.1 p i = S.1 p i)
/-- x.sendTheFewest -/
def s195 (S : fx_S) (z : Int) (Z : fx_S) : Prop := Z.2 = S.2 ∧ (∀ p i : Int, ¬ (p = 64) → Z.1 p i = S.1 p i)
/-- m.fewest -/
def s196 (S : fx_S) (z : Int) (Z : fx_S) : Prop := Z.2 = S.2 ∧ (∀ p i : Int, ¬ (p = 83 ∨ (p = 66 ∧ i = 29)) → Z.1 p i = S.1 p i)
/-- m.most -/
def s197 (S : fx_S) (z : Int) (Z : fx_S) : Prop := Z.2 = S.2 ∧ (∀ p i : Int, ¬ (p = 83 ∨ p = 84 ∨ (p = 66 ∧ i = 29) ∨ (p = 66 ∧ i = 30)) → Z.1 p i = S.1 p i)
/-- x.judge@2 -/
def s198 (S : fx_S) (x1 x2 : Int) (z : Int) (Z : fx_S) : Prop := S = Z
/-- m.judge@4 -/
def s199 (S : fx_S) (x1 x2 x3 : Int) (z : Int) (Z : fx_S) : Prop := S = Z
/-- Books.add -/
def s200 (S : fx_S) (x1 x2 x3 x4 : Int) (z : Int) (Z : fx_S) : Prop := Z.2 = S.2 ∧ (∀ p i : Int, ¬ (p = 45 ∨ p = 46 ∨ p = 47 ∨ p = 48) → Z.1 p i = S.1 p i)
/-- Joining.solve -/
def s201 (S : fx_S) (z : Int) (Z : fx_S) : Prop := Z.2 = S.2 ∧ (∀ p i : Int, ¬ (p = 57 ∨ p = 58 ∨ p = 59 ∨ p = 60 ∨ (p = 56 ∧ i = 1) ∨ (p = 56 ∧ i = 2) ∨ (p = 56 ∧ i = 3)) → Z.1 p i = S.1 p i)
/-- m.joins -/
def s202 (S : fx_S) (x1 x2 x3 : Int) (z : Int) (Z : fx_S) : Prop := Z.2 = S.2 ∧ (∀ p i : Int, ¬ (p = 85 ∨ p = 86 ∨ (p = 66 ∧ i = 33) ∨ (p = 66 ∧ i = 34)) → Z.1 p i = S.1 p i)
/-- Slots.rows -/
def s203 (S : fx_S) (z : Int) (Z : fx_S) : Prop := S = Z
/-- m.allPurses -/
def s204 (S : fx_S) (z : Int) (Z : fx_S) : Prop := S = Z
/-- m.count@156 -/
def s205 (S : fx_S) (x2 x3 : Int) (z : Int) (Z : fx_S) : Prop := S = Z
/-- Told.copyFrom -/
def s206 (S : fx_S) (x0 : Int) (z : Int) (Z : fx_S) : Prop := 91 ≤ x0 → Z.2.2 = S.2.2 ∧ (∀ p i : Int, Z.2.1 p i = if p = x0 + 8 ∧ 0 ≤ i ∧ i < 10 then S.2.1 9 i else S.2.1 p i) ∧ (∀ p i : Int, ¬ (x0 ≤ p ∧ p < x0 + 48) → Z.1 p i = S.1 p i) ∧ ∀ j i : Int, fx_tb j i → Z.1 (x0 + j) i = S.1 (1 + j) i
/-- Told.copyFrom#2 -/
def s207 (S : fx_S) (x0 : Int) (z : Int) (Z : fx_S) : Prop := 91 ≤ x0 → Z.2.2 = S.2.2 ∧ (∀ p i : Int, Z.2.1 p i = if p = x0 + 8 ∧ 0 ≤ i ∧ i < 10 then S.2.1 9 i else S.2.1 p i) ∧ (∀ p i : Int, ¬ (x0 ≤ p ∧ p < x0 + 48) → Z.1 p i = S.1 p i) ∧ ∀ j i : Int, fx_tb j i → Z.1 (x0 + j) i = S.1 (1 + j) i
/-- m.keep@17 -/
def s208 (S : fx_S) (x1 x2 : Int) (z : Int) (Z : fx_S) : Prop := Z.2 = S.2 ∧ (∀ p i : Int, ¬ (p = 68 ∨ p = 69) → Z.1 p i = S.1 p i) ∧ (0 ≤ x1 → x1 < 3 → 0 ≤ x2 → x2 ≤ 8090 → z = 0 ∧ (∀ k : Int, Z.1 69 k = if k = x1 then 1 else S.1 69 k) ∧ ∀ i : Int, Z.1 68 i = if 8090 * x1 + x2 ≤ i ∧ i < 8090 * x1 + 8090 then S.1 67 (i - 8090 * x1) else S.1 68 i)
/-- Told.copyFrom#3 -/
def s209 (S : fx_S) (x1 : Int) (z : Int) (Z : fx_S) : Prop := 91 ≤ x1 → Z.2.2 = S.2.2 ∧ (∀ p i : Int, Z.2.1 p i = if p = 9 ∧ 0 ≤ i ∧ i < 10 then S.2.1 (x1 + 8) i else S.2.1 p i) ∧ (∀ p i : Int, ¬ (1 ≤ p ∧ p < 49) → Z.1 p i = S.1 p i) ∧ ∀ j i : Int, fx_tb j i → Z.1 (1 + j) i = S.1 (x1 + j) i
/-- m.back@29 -/
def s210 (S : fx_S) (x1 x2 : Int) (z : Int) (Z : fx_S) : Prop := Z.2 = S.2 ∧ (∀ p i : Int, ¬ (p = 67) → Z.1 p i = S.1 p i) ∧ (0 ≤ x1 → x1 < 3 → 0 ≤ x2 → x2 ≤ 8090 → z = 0 ∧ ∀ i : Int, Z.1 67 i = if x2 ≤ i ∧ i < 8090 then S.1 68 (8090 * x1 + i) else S.1 67 i)
/-- Slots.lay -/
def s211 (S : fx_S) (x1 x2 x3 : Int) (z : Int) (Z : fx_S) : Prop := Z.2 = S.2 ∧ (∀ p i : Int, ¬ (p = 53 ∨ p = 54 ∨ p = 55) → Z.1 p i = S.1 p i) ∧ (0 ≤ x1 → x1 < 4 → (∀ s : Int, Z.1 54 s = if s = x1 then x3 else S.1 54 s) ∧ (∀ s : Int, Z.1 53 s = if s = x1 then x2 else S.1 53 s) ∧ ∀ i : Int, Z.1 55 i = if 60 * x1 ≤ i ∧ i < 60 * x1 + 60 then 0 else S.1 55 i)
/-- m.row@52 -/
def s212 (S : fx_S) (x1 x4 : Int) (z : Int) (Z : fx_S) : Prop := Z.2 = S.2 ∧ (∀ p i : Int, ¬ (p = 89) → Z.1 p i = S.1 p i) ∧ (0 ≤ x4 → 0 ≤ x1 → x1 < 4 → z = 0 ∧ ∀ i : Int, Z.1 89 i = if 60 * x1 + x4 ≤ i ∧ i < 60 * x1 + 60 then 0 else S.1 89 i)
/-- Slots.put -/
def s213 (S : fx_S) (x1 x2 x3 : Int) (z : Int) (Z : fx_S) : Prop := Z.2 = S.2 ∧ (∀ p i : Int, ¬ (p = 55) → Z.1 p i = S.1 p i) ∧ (0 ≤ x2 → x2 ≤ 60 → ∀ i : Int, Z.1 55 i = if i = 60 * x1 + x2 then (fx_cut x3 (S.1 53 x1)) else S.1 55 i)
/-- Slots.covers -/
def s214 (S : fx_S) (x1 x2 x3 : Int) (z : Int) (Z : fx_S) : Prop := S = Z ∧ ((0 ≤ x1 → x1 < 4 → -1 ≤ S.1 54 x1 ∧ S.1 54 x1 ≤ 60) → z = if 0 ≤ x2 ∧ 0 ≤ x3 ∧ x2 + x3 ≤ S.1 54 x1 then 1 else 0)
/-- Slots.copy -/
def s215 (S : fx_S) (x1 x2 x3 x4 x5 : Int) (z : Int) (Z : fx_S) : Prop := Z.2 = S.2 ∧ (∀ p i : Int, ¬ (p = 55) → Z.1 p i = S.1 p i) ∧ ((0 ≤ x1 ∧ x1 < 4 ∧ 0 ≤ x2 ∧ x2 ≤ 60) → (0 ≤ x3 ∧ x3 < 4 ∧ 0 ≤ x4 ∧ x4 ≤ 60 ∧ x5 ≤ 60) → ∀ i : Int, Z.1 55 i = if 60 * x3 + x4 ≤ i ∧ i < 60 * x3 + x4 + x5 then S.1 55 (60 * x1 + x2 + (i - (60 * x3 + x4))) else S.1 55 i)
/-- m.paste@113 -/
def s216 (S : fx_S) (x1 x2 x3 x4 x5 x6 : Int) (z : Int) (Z : fx_S) : Prop := Z.2 = S.2 ∧ (∀ p i : Int, ¬ (p = 89 ∨ p = 90) → Z.1 p i = S.1 p i) ∧ ((0 ≤ x1 ∧ x1 < 4 ∧ 0 ≤ x2 ∧ x2 ≤ 60) → (0 ≤ x3 ∧ x3 < 4 ∧ 0 ≤ x4 ∧ x4 ≤ 60 ∧ x5 ≤ 60) → 0 ≤ x6 → z = 0 ∧ ∀ i : Int, Z.1 89 i = if 60 * x3 + x4 ≤ i ∧ i < 60 * x3 + x4 + x5 then (if x6 ≤ i - (60 * x3 + x4) then S.1 89 (60 * x1 + x2 + (i - (60 * x3 + x4))) else S.1 90 (i - (60 * x3 + x4))) else S.1 89 i)
/-- Reader.append@3 -/
def s217 (S : fx_S) (x1 x2 : Int) (z : Int) (Z : fx_S) : Prop := Z.2 = S.2 ∧ (∀ p i : Int, ¬ (p = 51 ∨ (p = 50 ∧ i = 1)) → Z.1 p i = S.1 p i)
/-- Reader.advance -/
def s218 (S : fx_S) (z : Int) (Z : fx_S) : Prop := Z.2 = S.2 ∧ (∀ p i : Int, ¬ ((p = 50 ∧ i = 4) ∨ (p = 50 ∧ i = 5) ∨ (p = 50 ∧ i = 6)) → Z.1 p i = S.1 p i)
/-- Reader.read@29 -/
def s219 (S : fx_S) (x2 x3 : Int) (z : Int) (Z : fx_S) : Prop := Z.2 = S.2 ∧ (∀ p i : Int, ¬ ((p = 50 ∧ i = 1) ∨ (p = 50 ∧ i = 2) ∨ (p = 50 ∧ i = 3) ∨ (p = 50 ∧ i = 4) ∨ (p = 50 ∧ i = 5) ∨ (p = 50 ∧ i = 6) ∨ (x2 + 0 ≤ p ∧ p ≤ x2 + 9)) → Z.1 p i = S.1 p i)
/-- m.see -/
def s220 (S : fx_S) (x1 : Int) (z : Int) (Z : fx_S) : Prop := S = Z
/-- m.step@144 -/
def s221 (S : fx_S) (z : Int) (Z : fx_S) : Prop := Z.2 = S.2 ∧ (∀ p i : Int, ¬ ((p = 66 ∧ i = 10) ∨ (p = 66 ∧ i = 11) ∨ (p = 66 ∧ i = 8)) → Z.1 p i = S.1 p i)
/-- m.step@83 -/
def s222 (S : fx_S) (z : Int) (Z : fx_S) : Prop := Z.2 = S.2 ∧ (∀ p i : Int, ¬ ((p = 66 ∧ i = 10) ∨ (p = 66 ∧ i = 8)) → Z.1 p i = S.1 p i)
/-- m.statute@185 -/
def s223 (S : fx_S) (x3 x4 : Int) (z : Int) (Z : fx_S) : Prop := 0 ≤ x4 → 1100 ≤ x3 → x3 + 260 ≤ 3700 → 0 ≤ S.1 67 3 → S.1 67 3 < 10 → Z.2 = S.2 ∧ (∀ p i : Int, p ≠ 67 → Z.1 p i = S.1 p i) ∧ ∀ i : Int, Z.1 67 i = if i = 3 then S.1 67 3 + 1 else if x3 + x4 ≤ i ∧ i < x3 + 260 then S.1 72 (i - x3) else S.1 67 i
/-- m.sortHere -/
def s224 (S : fx_S) (z : Int) (Z : fx_S) : Prop := S = Z
/-- m.line -/
def s225 (S : fx_S) (x1 : Int) (z : Int) (Z : fx_S) : Prop := Z.2 = S.2 ∧ (∀ p i : Int, ¬ (p = 72 ∨ (p = 66 ∧ i = 10) ∨ (p = 66 ∧ i = 11) ∨ (p = 66 ∧ i = 12) ∨ (p = 66 ∧ i = 13) ∨ (p = 66 ∧ i = 8) ∨ (p = 66 ∧ i = 9)) → Z.1 p i = S.1 p i) ∧ ((0 ≤ x1 ∧ x1 ≤ 244) → (Z.1 72 x1 = 0 → 0 ≤ Z.1 72 (x1 + 1) ∧ Z.1 72 (x1 + 1) ≤ 3) ∧ ∀ i : Int, ¬ (x1 ≤ i ∧ i < x1 + 16) → Z.1 72 i = S.1 72 i)
/-- m.wrong -/
def s226 (S : fx_S) (x1 : Int) (z : Int) (Z : fx_S) : Prop := Z.2 = S.2 ∧ (∀ p i : Int, ¬ ((p = 66 ∧ i = 12) ∨ (p = 66 ∧ i = 13)) → Z.1 p i = S.1 p i) ∧ (x1 ≠ 0 → Z.1 66 12 ≠ 0)
/-- Country.inForce@7 -/
def s227 (S : fx_S) (x1 x2 x3 : Int) (z : Int) (Z : fx_S) : Prop := S = Z ∧ (-1 ≤ x3 → x3 < 10 → fx_isl (fun i : Int => S.1 10 i ≤ x1 ∧ S.1 10 i ≤ x2 ∧ x2 < S.1 12 i) (x3 + 1) z)
/-- m.forceOf@5 -/
def s228 (S : fx_S) (x1 x2 x3 x4 : Int) (z : Int) (Z : fx_S) : Prop := S = Z ∧ (fx_WB S → -1 ≤ x3 → x3 < S.1 67 3 → 0 ≤ x4 → -1 ≤ z ∧ z < S.1 67 3)
/-- Statute.claimsAt -/
def s229 (S : fx_S) (x0 x1 x2 x3 : Int) (z : Int) (Z : fx_S) : Prop := S = Z
/-- m.landOf@19 -/
def s230 (S : fx_S) (x1 x2 x3 x4 : Int) (z : Int) (Z : fx_S) : Prop := S = Z
/-- m.claimsBy@11 -/
def s231 (S : fx_S) (x1 x2 x3 x4 x5 : Int) (z : Int) (Z : fx_S) : Prop := Z.2 = S.2 ∧ (∀ p i : Int, ¬ ((p = 66 ∧ i = 15)) → Z.1 p i = S.1 p i) ∧ (fx_WB S → (x1 = -1 ∨ (0 ≤ x1 ∧ x1 < S.1 67 3)) → 0 ≤ x5 → -1 ≤ S.1 66 15 → S.1 66 15 ≤ 3 → -1 ≤ Z.1 66 15 ∧ Z.1 66 15 ≤ 3)
/-- Country.landOn@7 -/
def s232 (S : fx_S) (x1 x2 x3 : Int) (z : Int) (Z : fx_S) : Prop := S = Z
/-- Statute.nationAt -/
def s233 (S : fx_S) (x0 x1 x2 x3 : Int) (z : Int) (Z : fx_S) : Prop := S = Z
/-- People.isThereOn -/
def s234 (S : fx_S) (x1 x2 : Int) (z : Int) (Z : fx_S) : Prop := S = Z ∧ (z = if S.1 16 x1 ≤ x2 ∧ x2 < S.1 17 x1 then 1 else 0)
/-- m.sortedBy -/
def s235 (S : fx_S) (x1 x2 x3 : Int) (z : Int) (Z : fx_S) : Prop := Z.2 = S.2 ∧ (∀ p i : Int, ¬ ((p = 66 ∧ i = 15)) → Z.1 p i = S.1 p i)
/-- Told.feesOwed@14 -/
def s236 (S : fx_S) (x1 x2 x3 x4 x5 : Int) (z : Int) (Z : fx_S) : Prop := S = Z
/-- m.feesOf@11 -/
def s237 (S : fx_S) (x1 x2 x3 x4 x5 : Int) (z : Int) (Z : fx_S) : Prop := S = Z
/-- Purses.paidBy@5 -/
def s238 (S : fx_S) (x1 x2 x3 x4 : Int) (z : Int) (Z : fx_S) : Prop := S = Z
/-- Arrays.fill#2 -/
def s239 (S : fx_S) (x1 : Int) (z : Int) (Z : fx_S) : Prop := Z.2 = S.2 ∧ (∀ p i : Int, ¬ (p = 63) → Z.1 p i = S.1 p i)
/-- x.countHeadsOfEach@12 -/
def s240 (S : fx_S) (x1 x2 : Int) (z : Int) (Z : fx_S) : Prop := Z.2 = S.2 ∧ (∀ p i : Int, ¬ (p = 63) → Z.1 p i = S.1 p i)
/-- Purses.share@6 -/
def s241 (S : fx_S) (x1 x3 x4 x5 : Int) (z : Int) (Z : fx_S) : Prop := Z.2 = S.2 ∧ (∀ p i : Int, ¬ (p = 27 ∨ p = 28) → Z.1 p i = S.1 p i)
/-- Purses.coverShares@2 -/
def s242 (S : fx_S) (x1 : Int) (z : Int) (Z : fx_S) : Prop := S = Z
/-- Purses.payShares@2 -/
def s243 (S : fx_S) (x1 x2 : Int) (z : Int) (Z : fx_S) : Prop := Z.2 = S.2 ∧ (∀ p i : Int, ¬ (p = 22 ∨ p = 23 ∨ (p = 21 ∧ i = 7)) → Z.1 p i = S.1 p i)
/-- Purses.sum@4 -/
def s244 (S : fx_S) (x1 x2 : Int) (z : Int) (Z : fx_S) : Prop := S = Z
/-- m.masters@77 -/
def s245 (S : fx_S) (x1 x2 x3 x4 : Int) (z : Int) (Z : fx_S) : Prop := fx_WB S → Z.2 = S.2 ∧ (∀ p i : Int, ¬ ((p = 67 ∧ (i = 9 ∨ (12 ≤ i ∧ i < 20))) ∨ p = 74 ∨ p = 75) → Z.1 p i = S.1 p i) ∧ fx_WB Z
/-- Elections.open@2 -/
def s246 (S : fx_S) (x1 x2 : Int) (z : Int) (Z : fx_S) : Prop := Z.2 = S.2 ∧ (∀ p i : Int, ¬ (p = 30 ∨ p = 31 ∨ p = 32 ∨ p = 33 ∨ p = 34 ∨ (p = 29 ∧ i = 0)) → Z.1 p i = S.1 p i)
/-- m.call@70 -/
def s247 (S : fx_S) (x1 x2 : Int) (z : Int) (Z : fx_S) : Prop := fx_WB S → (0 ≤ x1 ∧ x1 < 20 ∧ 0 ≤ x2 ∧ x1 = S.1 67 4) → Z.2 = S.2 ∧ (∀ p i : Int, ¬ ((p = 67 ∧ (i = 4 ∨ (3700 ≤ i ∧ i < 7100)))) → Z.1 p i = S.1 p i) ∧ fx_WB Z
/-- Elections.clearTally -/
def s248 (S : fx_S) (x1 : Int) (z : Int) (Z : fx_S) : Prop := Z.2 = S.2 ∧ (∀ p i : Int, ¬ (p = 35 ∨ p = 36) → Z.1 p i = S.1 p i)
/-- x.tallyAsCounted@15 -/
def s249 (S : fx_S) (x1 x3 : Int) (z : Int) (Z : fx_S) : Prop := Z.2 = S.2 ∧ (∀ p i : Int, ¬ (p = 34 ∨ p = 35 ∨ p = 36) → Z.1 p i = S.1 p i)
/-- Elections.isMore -/
def s250 (S : fx_S) (x0 x1 x2 : Int) (z : Int) (Z : fx_S) : Prop := S = Z
/-- Elections.nationsOfSign@5 -/
def s251 (S : fx_S) (x1 x2 x3 x4 : Int) (z : Int) (Z : fx_S) : Prop := S = Z
/-- Elections.sumOf@4 -/
def s252 (S : fx_S) (x1 x2 x3 : Int) (z : Int) (Z : fx_S) : Prop := S = Z
/-- Elections.sumOf@4#2 -/
def s253 (S : fx_S) (x1 x2 x3 : Int) (z : Int) (Z : fx_S) : Prop := S = Z
/-- m.byNations@2 -/
def s254 (S : fx_S) (x1 x2 x3 : Int) (z : Int) (Z : fx_S) : Prop := Z.2 = S.2 ∧ (∀ p i : Int, ¬ (p = 76 ∨ p = 77 ∨ (p = 66 ∧ i = 15)) → Z.1 p i = S.1 p i)
/-- m.cast@5 -/
def s255 (S : fx_S) (x1 x2 x3 x4 : Int) (z : Int) (Z : fx_S) : Prop := S = Z
/-- m.nationsThat@4 -/
def s256 (S : fx_S) (x1 x2 x3 : Int) (z : Int) (Z : fx_S) : Prop := S = Z
/-- x.tallyUnder@25 -/
def s257 (S : fx_S) (x1 x2 x4 x5 : Int) (z : Int) (Z : fx_S) : Prop := Z.2 = S.2 ∧ (∀ p i : Int, ¬ (p = 35 ∨ p = 36) → Z.1 p i = S.1 p i)
/-- Integer.bitCount -/
def s258 (S : fx_S) (x0 : Int) (z : Int) (Z : fx_S) : Prop := S = Z
/-- m.bits -/
def s259 (S : fx_S) (x0 : Int) (z : Int) (Z : fx_S) : Prop := S = Z
/-- Elections.swingByHeads@44 -/
def s260 (S : fx_S) (x2 x3 x5 x6 x7 x8 : Int) (z : Int) (Z : fx_S) : Prop := S = Z
/-- Elections.swingByNations@8 -/
def s261 (S : fx_S) (x1 x2 x3 : Int) (z : Int) (Z : fx_S) : Prop := Z.2 = S.2 ∧ (∀ p i : Int, ¬ (p = 37) → Z.1 p i = S.1 p i)
/-- m.termOf@7 -/
def s262 (S : fx_S) (x1 x2 x3 x5 x6 : Int) (z : Int) (Z : fx_S) : Prop := S = Z
/-- m.swingByNations@2 -/
def s263 (S : fx_S) (x1 x2 : Int) (z : Int) (Z : fx_S) : Prop := Z.2 = S.2 ∧ (∀ p i : Int, ¬ (p = 78 ∨ p = 79) → Z.1 p i = S.1 p i)
/-- x.voidHangingStatutes -/
def s264 (S : fx_S) (z : Int) (Z : fx_S) : Prop := Z.2 = S.2 ∧ (∀ p i : Int, ¬ (p = 12) → Z.1 p i = S.1 p i)
/-- x.voidHangingElections -/
def s265 (S : fx_S) (z : Int) (Z : fx_S) : Prop := Z.2 = S.2 ∧ (∀ p i : Int, ¬ (p = 33) → Z.1 p i = S.1 p i)
/-- m.spreads@4 -/
def s266 (S : fx_S) (x1 x2 : Int) (z : Int) (Z : fx_S) : Prop := fx_WB S → Z.2 = S.2 ∧ (∀ p i : Int, ¬ ((p = 67 ∧ (1100 ≤ i ∧ i < 7100))) → Z.1 p i = S.1 p i) ∧ fx_WB Z
/-- x.findNationOfEach@2 -/
def s267 (S : fx_S) (x1 x2 : Int) (z : Int) (Z : fx_S) : Prop := Z.2 = S.2 ∧ (∀ p i : Int, ¬ (p = 62) → Z.1 p i = S.1 p i)
/-- x.rectorOn@5 -/
def s268 (S : fx_S) (x1 x2 x3 x4 : Int) (z : Int) (Z : fx_S) : Prop := S = Z
/-- m.sorts@2 -/
def s269 (S : fx_S) (x1 x2 : Int) (z : Int) (Z : fx_S) : Prop := Z.2 = S.2 ∧ (∀ p i : Int, ¬ (p = 80 ∨ (p = 66 ∧ i = 15)) → Z.1 p i = S.1 p i)
/-- m.rectorOn@25 -/
def s270 (S : fx_S) (x1 x4 x5 : Int) (z : Int) (Z : fx_S) : Prop := S = Z
/-- x.nextChangeOfRector -/
def s271 (S : fx_S) (x1 : Int) (z : Int) (Z : fx_S) : Prop := S = Z
/-- People.addWish@2 -/
def s272 (S : fx_S) (x1 x2 x3 : Int) (z : Int) (Z : fx_S) : Prop := Z.2 = S.2 ∧ (∀ p i : Int, ¬ (p = 19 ∨ p = 20) → Z.1 p i = S.1 p i) ∧ (0 ≤ x3 → 0 ≤ S.1 19 x1 → S.1 19 x1 ≤ 4 → (z = -2 ∧ fx_exw (fun k => S.1 20 (4 * x1 + k) = x2) (x3) (S.1 19 x1) ∧ Z = S) ∨ ((∀ k : Int, x3 ≤ k → k < S.1 19 x1 → ¬ S.1 20 (4 * x1 + k) = x2) ∧ ((z = -3 ∧ S.1 19 x1 = 4 ∧ Z = S) ∨ (S.1 19 x1 < 4 ∧ z = S.1 19 x1 + 1 ∧ (∀ i : Int, Z.1 19 i = if i = x1 then S.1 19 x1 + 1 else S.1 19 i) ∧ ∀ i : Int, Z.1 20 i = if i = 4 * x1 + S.1 19 x1 then x2 else S.1 20 i))))
/-- Arrays.fill@5 -/
def s273 (S : fx_S) (x1 x2 x3 : Int) (z : Int) (Z : fx_S) : Prop := Z.2 = S.2 ∧ (∀ p i : Int, ¬ (p = 61) → Z.1 p i = S.1 p i)
/-- x.lodgeRank -/
def s274 (S : fx_S) (x1 : Int) (z : Int) (Z : fx_S) : Prop := Z.2 = S.2 ∧ (∀ p i : Int, ¬ (p = 43 ∨ p = 61) → Z.1 p i = S.1 p i)
/-- m.lodge@30 -/
def s275 (S : fx_S) (x1 x2 : Int) (z : Int) (Z : fx_S) : Prop := Z.2 = S.2 ∧ (∀ p i : Int, ¬ (p = 81 ∨ p = 82) → Z.1 p i = S.1 p i)
/-- x.sendAll -/
def s276 (S : fx_S) (z : Int) (Z : fx_S) : Prop := Z.2 = S.2 ∧ (∀ p i : Int, ¬ (p = 64) → Z.1 p i = S.1 p i)
/-- x.sendTheMost@12 -/
def s277 (S : fx_S) (x1 x2 : Int) (z : Int) (Z : fx_S) : Prop := Z.2 = S.2 ∧ (∀ p i : Int, ¬ (p = 64 ∨ p = 65 ∨ (p = 0 ∧ i = 10)) → Z.1 p i = S.1 p i)
/-- Arrays.fill#3 -/
def s278 (S : fx_S) (x1 : Int) (z : Int) (Z : fx_S) : Prop := Z.2 = S.2 ∧ (∀ p i : Int, ¬ (p = 64) → Z.1 p i = S.1 p i)
/-- x.sendTheFewest@12 -/
def s279 (S : fx_S) (x1 x2 : Int) (z : Int) (Z : fx_S) : Prop := Z.2 = S.2 ∧ (∀ p i : Int, ¬ (p = 64) → Z.1 p i = S.1 p i)
/-- m.fewest@7 -/
def s280 (S : fx_S) (x1 : Int) (z : Int) (Z : fx_S) : Prop := Z.2 = S.2 ∧ (∀ p i : Int, ¬ (p = 83 ∨ (p = 66 ∧ i = 29)) → Z.1 p i = S.1 p i)
/-- m.most@12 -/
def s281 (S : fx_S) (x1 : Int) (z : Int) (Z : fx_S) : Prop := Z.2 = S.2 ∧ (∀ p i : Int, ¬ (p = 83 ∨ p = 84 ∨ (p = 66 ∧ i = 29) ∨ (p = 66 ∧ i = 30)) → Z.1 p i = S.1 p i)
/-- x.judge@43 -/
def s282 (S : fx_S) (x1 x2 x3 x4 : Int) (z : Int) (Z : fx_S) : Prop := S = Z
/-- m.judge@58 -/
def s283 (S : fx_S) (x1 x2 x3 x4 : Int) (z : Int) (Z : fx_S) : Prop := S = Z
/-- Joining.solve@22 -/
def s284 (S : fx_S) (x2 : Int) (z : Int) (Z : fx_S) : Prop := Z.2 = S.2 ∧ (∀ p i : Int, ¬ (p = 57 ∨ p = 58 ∨ p = 59 ∨ p = 60 ∨ (p = 56 ∧ i = 1)) → Z.1 p i = S.1 p i)
/-- m.joins@82 -/
def s285 (S : fx_S) (x1 x2 x3 x4 : Int) (z : Int) (Z : fx_S) : Prop := Z.2 = S.2 ∧ (∀ p i : Int, ¬ (p = 85 ∨ p = 86 ∨ (p = 66 ∧ i = 33) ∨ (p = 66 ∧ i = 34)) → Z.1 p i = S.1 p i)
/-- m.joins@51 -/
def s286 (S : fx_S) (x4 : Int) (z : Int) (Z : fx_S) : Prop := Z.2 = S.2 ∧ (∀ p i : Int, ¬ (p = 86) → Z.1 p i = S.1 p i)
/-- Slots.rows@4 -/
def s287 (S : fx_S) (x1 x2 : Int) (z : Int) (Z : fx_S) : Prop := S = Z
/-- Country.copyFrom -/
def s288 (S : fx_S) (x0 : Int) (z : Int) (Z : fx_S) : Prop := 91 ≤ x0 → Z.2.2 = S.2.2 ∧ (∀ p i : Int, Z.2.1 p i = if p = x0 + 7 ∧ 0 ≤ i ∧ i < 10 then S.2.1 9 i else S.2.1 p i) ∧ (∀ p i : Int, ¬ (x0 ≤ p ∧ p < x0 + 11) → Z.1 p i = S.1 p i) ∧ ∀ j i : Int, 1 ≤ j → j < 12 → fx_tb j i → Z.1 (x0 - 1 + j) i = S.1 (1 + j) i
/-- People.copyFrom -/
def s289 (S : fx_S) (x0 : Int) (z : Int) (Z : fx_S) : Prop := Z.2 = S.2 ∧ (∀ p i : Int, ¬ ((x0 + 0 ≤ p ∧ p ≤ x0 + 7)) → Z.1 p i = S.1 p i) ∧ (91 ≤ x0 → ∀ j i : Int, 12 ≤ j → j < 20 → fx_tb j i → Z.1 (x0 - 12 + j) i = S.1 (1 + j) i)
/-- Purses.copyFrom -/
def s290 (S : fx_S) (x0 : Int) (z : Int) (Z : fx_S) : Prop := Z.2 = S.2 ∧ (∀ p i : Int, ¬ ((x0 + 0 ≤ p ∧ p ≤ x0 + 5)) → Z.1 p i = S.1 p i) ∧ (91 ≤ x0 → ∀ j i : Int, 20 ≤ j → j < 28 → fx_tb j i → Z.1 (x0 - 20 + j) i = S.1 (1 + j) i)
/-- Elections.copyFrom -/
def s291 (S : fx_S) (x0 : Int) (z : Int) (Z : fx_S) : Prop := Z.2 = S.2 ∧ (∀ p i : Int, ¬ ((x0 + 0 ≤ p ∧ p ≤ x0 + 7)) → Z.1 p i = S.1 p i) ∧ (91 ≤ x0 → ∀ j i : Int, 28 ≤ j → j < 37 → fx_tb j i → Z.1 (x0 - 28 + j) i = S.1 (1 + j) i)
/-- Houses.copyFrom -/
def s292 (S : fx_S) (x0 : Int) (z : Int) (Z : fx_S) : Prop := Z.2 = S.2 ∧ (∀ p i : Int, ¬ ((x0 + 0 ≤ p ∧ p ≤ x0 + 4)) → Z.1 p i = S.1 p i) ∧ (91 ≤ x0 → ∀ j i : Int, 37 ≤ j → j < 43 → fx_tb j i → Z.1 (x0 - 37 + j) i = S.1 (1 + j) i)
/-- Books.copyFrom -/
def s293 (S : fx_S) (x0 : Int) (z : Int) (Z : fx_S) : Prop := Z.2 = S.2 ∧ (∀ p i : Int, ¬ ((x0 + 1 ≤ p ∧ p ≤ x0 + 4)) → Z.1 p i = S.1 p i) ∧ (91 ≤ x0 → ∀ j i : Int, 43 ≤ j → j < 48 → fx_tb j i → Z.1 (x0 - 43 + j) i = S.1 (1 + j) i)
/-- Country.copyFrom#2 -/
def s294 (S : fx_S) (x1 : Int) (z : Int) (Z : fx_S) : Prop := 91 ≤ x1 → Z.2.2 = S.2.2 ∧ (∀ p i : Int, Z.2.1 p i = if p = 9 ∧ 0 ≤ i ∧ i < 10 then S.2.1 (x1 + 7) i else S.2.1 p i) ∧ (∀ p i : Int, ¬ (2 ≤ p ∧ p < 13) → Z.1 p i = S.1 p i) ∧ ∀ j i : Int, 1 ≤ j → j < 12 → fx_tb j i → Z.1 (1 + j) i = S.1 (x1 - 1 + j) i
/-- People.copyFrom#2 -/
def s295 (S : fx_S) (x1 : Int) (z : Int) (Z : fx_S) : Prop := Z.2 = S.2 ∧ (∀ p i : Int, ¬ (p = 14 ∨ p = 15 ∨ p = 16 ∨ p = 17 ∨ p = 18 ∨ p = 19 ∨ p = 20 ∨ (p = 13 ∧ i = 0)) → Z.1 p i = S.1 p i) ∧ (91 ≤ x1 → ∀ j i : Int, 12 ≤ j → j < 20 → fx_tb j i → Z.1 (1 + j) i = S.1 (x1 - 12 + j) i)
/-- Purses.copyFrom#2 -/
def s296 (S : fx_S) (x1 : Int) (z : Int) (Z : fx_S) : Prop := Z.2 = S.2 ∧ (∀ p i : Int, ¬ (p = 22 ∨ p = 23 ∨ p = 24 ∨ p = 25 ∨ p = 26 ∨ (p = 21 ∧ i = 2) ∨ (p = 21 ∧ i = 6) ∨ (p = 21 ∧ i = 7)) → Z.1 p i = S.1 p i) ∧ (91 ≤ x1 → ∀ j i : Int, 20 ≤ j → j < 28 → fx_tb j i → Z.1 (1 + j) i = S.1 (x1 - 20 + j) i)
/-- Elections.copyFrom#2 -/
def s297 (S : fx_S) (x1 : Int) (z : Int) (Z : fx_S) : Prop := Z.2 = S.2 ∧ (∀ p i : Int, ¬ (p = 30 ∨ p = 31 ∨ p = 32 ∨ p = 33 ∨ p = 34 ∨ p = 35 ∨ p = 36 ∨ (p = 29 ∧ i = 0)) → Z.1 p i = S.1 p i) ∧ (91 ≤ x1 → ∀ j i : Int, 28 ≤ j → j < 37 → fx_tb j i → Z.1 (1 + j) i = S.1 (x1 - 28 + j) i)
/-- Houses.copyFrom#2 -/
def s298 (S : fx_S) (x1 : Int) (z : Int) (Z : fx_S) : Prop := Z.2 = S.2 ∧ (∀ p i : Int, ¬ (p = 39 ∨ p = 40 ∨ p = 41 ∨ p = 42 ∨ (p = 38 ∧ i = 0)) → Z.1 p i = S.1 p i) ∧ (91 ≤ x1 → ∀ j i : Int, 37 ≤ j → j < 43 → fx_tb j i → Z.1 (1 + j) i = S.1 (x1 - 37 + j) i)
/-- Books.copyFrom#2 -/
def s299 (S : fx_S) (x1 : Int) (z : Int) (Z : fx_S) : Prop := Z.2 = S.2 ∧ (∀ p i : Int, ¬ (p = 45 ∨ p = 46 ∨ p = 47 ∨ p = 48) → Z.1 p i = S.1 p i) ∧ (91 ≤ x1 → ∀ j i : Int, 43 ≤ j → j < 48 → fx_tb j i → Z.1 (1 + j) i = S.1 (x1 - 43 + j) i)
/-- Slots.lay@17 -/
def s300 (S : fx_S) (x1 x4 : Int) (z : Int) (Z : fx_S) : Prop := Z.2 = S.2 ∧ (∀ p i : Int, ¬ (p = 55) → Z.1 p i = S.1 p i) ∧ (0 ≤ x4 → 0 ≤ x1 → x1 < 4 → z = 0 ∧ ∀ i : Int, Z.1 55 i = if 60 * x1 + x4 ≤ i ∧ i < 60 * x1 + 60 then 0 else S.1 55 i)
/-- m.paste@150 -/
def s301 (S : fx_S) (x3 x4 x5 x6 : Int) (z : Int) (Z : fx_S) : Prop := Z.2 = S.2 ∧ (∀ p i : Int, ¬ (p = 89) → Z.1 p i = S.1 p i) ∧ ((0 ≤ x3 ∧ x3 < 4 ∧ 0 ≤ x4 ∧ x4 ≤ 60 ∧ x5 ≤ 60) → 0 ≤ x6 → z = 0 ∧ ∀ i : Int, Z.1 89 i = if 60 * x3 + x4 + x6 ≤ i ∧ i < 60 * x3 + x4 + x5 then S.1 90 (i - (60 * x3 + x4)) else S.1 89 i)
/-- Reader.advance@8 -/
def s302 (S : fx_S) (z : Int) (Z : fx_S) : Prop := Z.2 = S.2 ∧ (∀ p i : Int, ¬ ((p = 50 ∧ i = 4) ∨ (p = 50 ∧ i = 5) ∨ (p = 50 ∧ i = 6)) → Z.1 p i = S.1 p i)
/-- Reader.readLine -/
def s303 (S : fx_S) (x1 x3 : Int) (z : Int) (Z : fx_S) : Prop := Z.2 = S.2 ∧ (∀ p i : Int, ¬ ((p = 50 ∧ i = 2) ∨ (p = 50 ∧ i = 3) ∨ (p = 50 ∧ i = 4) ∨ (p = 50 ∧ i = 5) ∨ (p = 50 ∧ i = 6) ∨ (x1 + 0 ≤ p ∧ p ≤ x1 + 9)) → Z.1 p i = S.1 p i)
/-- m.is -/
def s304 (S : fx_S) (x1 : Int) (z : Int) (Z : fx_S) : Prop := S = Z
/-- m.line@11 -/
def s305 (S : fx_S) (x1 x2 x3 : Int) (z : Int) (Z : fx_S) : Prop := Z.2 = S.2 ∧ (∀ p i : Int, ¬ (p = 72 ∨ (p = 66 ∧ i = 10) ∨ (p = 66 ∧ i = 11) ∨ (p = 66 ∧ i = 12) ∨ (p = 66 ∧ i = 13) ∨ (p = 66 ∧ i = 8) ∨ (p = 66 ∧ i = 9)) → Z.1 p i = S.1 p i) ∧ ((0 ≤ x1 ∧ x1 ≤ 244) → 0 ≤ x3 → x3 ≤ 16 → (∀ i : Int, x1 ≤ i → i < x1 + x3 → S.1 72 i = 0) → (Z.1 72 x1 = 0 → 0 ≤ Z.1 72 (x1 + 1) ∧ Z.1 72 (x1 + 1) ≤ 3) ∧ ∀ i : Int, ¬ (x1 ≤ i ∧ i < x1 + 16) → Z.1 72 i = S.1 72 i)
/-- Statute.claimsAt@6 -/
def s306 (S : fx_S) (x0 x1 x2 x3 x4 x5 : Int) (z : Int) (Z : fx_S) : Prop := S = Z
/-- m.claimsBy@66 -/
def s307 (S : fx_S) (x1 x2 x3 x4 x5 x6 x7 x8 : Int) (z : Int) (Z : fx_S) : Prop := Z.2 = S.2 ∧ (∀ p i : Int, ¬ ((p = 66 ∧ i = 15)) → Z.1 p i = S.1 p i) ∧ (fx_WB S → 0 ≤ x1 → x1 < S.1 67 3 → 0 ≤ x5 → x6 = 1104 + 260 * x1 + 16 * x5 → x5 < S.1 67 (1103 + 260 * x1) → (x7 ≠ 0 → S.1 67 x6 = 0) → -1 ≤ S.1 66 15 → S.1 66 15 ≤ 3 → -1 ≤ Z.1 66 15 ∧ Z.1 66 15 ≤ 3)
/-- Statute.nationAt@3 -/
def s308 (S : fx_S) (x0 x1 x2 x3 x4 : Int) (z : Int) (Z : fx_S) : Prop := S = Z
/-- Arrays.fill@5#2 -/
def s309 (S : fx_S) (x1 x2 x3 : Int) (z : Int) (Z : fx_S) : Prop := Z.2 = S.2 ∧ (∀ p i : Int, ¬ (p = 63) → Z.1 p i = S.1 p i)
/-- Purses.share@79 -/
def s310 (S : fx_S) (x4 x5 : Int) (z : Int) (Z : fx_S) : Prop := Z.2 = S.2 ∧ (∀ p i : Int, ¬ (p = 27 ∨ p = 28) → Z.1 p i = S.1 p i)
/-- m.masters@117 -/
def s311 (S : fx_S) (x1 x2 x3 : Int) (z : Int) (Z : fx_S) : Prop := fx_WB S → Z.2 = S.2 ∧ (∀ p i : Int, ¬ ((p = 67 ∧ (i = 9 ∨ (12 ≤ i ∧ i < 20))) ∨ p = 74 ∨ p = 75) → Z.1 p i = S.1 p i) ∧ fx_WB Z
/-- Elections.open@93 -/
def s312 (S : fx_S) (x2 : Int) (z : Int) (Z : fx_S) : Prop := Z.2 = S.2 ∧ (∀ p i : Int, ¬ (p = 34 ∨ (p = 29 ∧ i = 0)) → Z.1 p i = S.1 p i)
/-- Elections.clearTally@2 -/
def s313 (S : fx_S) (x1 x2 : Int) (z : Int) (Z : fx_S) : Prop := Z.2 = S.2 ∧ (∀ p i : Int, ¬ (p = 35 ∨ p = 36) → Z.1 p i = S.1 p i)
/-- Elections.tally -/
def s314 (S : fx_S) (x1 x2 x3 : Int) (z : Int) (Z : fx_S) : Prop := Z.2 = S.2 ∧ (∀ p i : Int, ¬ (p = 35 ∨ p = 36) → Z.1 p i = S.1 p i)
/-- Integer.signum -/
def s315 (S : fx_S) (x0 : Int) (z : Int) (Z : fx_S) : Prop := S = Z
/-- m.byNations@29 -/
def s316 (S : fx_S) (x1 x2 x3 : Int) (z : Int) (Z : fx_S) : Prop := Z.2 = S.2 ∧ (∀ p i : Int, ¬ (p = 76 ∨ p = 77 ∨ (p = 66 ∧ i = 15)) → Z.1 p i = S.1 p i)
/-- Elections.swingByNations@62 -/
def s317 (S : fx_S) (x2 x3 x4 : Int) (z : Int) (Z : fx_S) : Prop := S = Z
/-- Elections.swingByNations@16 -/
def s318 (S : fx_S) (x1 x2 x3 x4 : Int) (z : Int) (Z : fx_S) : Prop := Z.2 = S.2 ∧ (∀ p i : Int, ¬ (p = 37) → Z.1 p i = S.1 p i)
/-- m.swingByNations@34 -/
def s319 (S : fx_S) (x1 x2 : Int) (z : Int) (Z : fx_S) : Prop := Z.2 = S.2 ∧ (∀ p i : Int, ¬ (p = 78 ∨ p = 79) → Z.1 p i = S.1 p i)
/-- x.voidHangingStatutes@12 -/
def s320 (S : fx_S) (x2 x3 : Int) (z : Int) (Z : fx_S) : Prop := Z.2 = S.2 ∧ (∀ p i : Int, ¬ (p = 12) → Z.1 p i = S.1 p i)
/-- x.voidHangingElections@12 -/
def s321 (S : fx_S) (x2 x3 : Int) (z : Int) (Z : fx_S) : Prop := Z.2 = S.2 ∧ (∀ p i : Int, ¬ (p = 33) → Z.1 p i = S.1 p i)
/-- m.spreads@12 -/
def s322 (S : fx_S) (x1 x2 x3 : Int) (z : Int) (Z : fx_S) : Prop := fx_WB S → (0 ≤ x3) → Z.2 = S.2 ∧ (∀ p i : Int, ¬ ((p = 67 ∧ (1100 ≤ i ∧ i < 7100))) → Z.1 p i = S.1 p i) ∧ fx_WB Z
/-- x.rectorOn@79 -/
def s323 (S : fx_S) (x3 x4 x5 : Int) (z : Int) (Z : fx_S) : Prop := S = Z
/-- m.rectorOn@34 -/
def s324 (S : fx_S) (x1 x4 x5 x6 : Int) (z : Int) (Z : fx_S) : Prop := S = Z
/-- People.nextChange -/
def s325 (S : fx_S) (x1 : Int) (z : Int) (Z : fx_S) : Prop := S = Z
/-- Country.nextStatuteDay -/
def s326 (S : fx_S) (x1 : Int) (z : Int) (Z : fx_S) : Prop := S = Z
/-- x.lodgeRank@13 -/
def s327 (S : fx_S) (x1 x3 x4 : Int) (z : Int) (Z : fx_S) : Prop := Z.2 = S.2 ∧ (∀ p i : Int, ¬ (p = 43 ∨ p = 61) → Z.1 p i = S.1 p i)
/-- m.lodge@66 -/
def s328 (S : fx_S) (x1 x2 : Int) (z : Int) (Z : fx_S) : Prop := Z.2 = S.2 ∧ (∀ p i : Int, ¬ (p = 81 ∨ p = 82) → Z.1 p i = S.1 p i)
/-- x.sendAll@12 -/
def s329 (S : fx_S) (x1 x2 : Int) (z : Int) (Z : fx_S) : Prop := Z.2 = S.2 ∧ (∀ p i : Int, ¬ (p = 64) → Z.1 p i = S.1 p i)
/-- x.mostUnwilling -/
def s330 (S : fx_S) (x1 : Int) (z : Int) (Z : fx_S) : Prop := S = Z
/-- Arrays.fill@5#3 -/
def s331 (S : fx_S) (x1 x2 x3 : Int) (z : Int) (Z : fx_S) : Prop := Z.2 = S.2 ∧ (∀ p i : Int, ¬ (p = 64) → Z.1 p i = S.1 p i)
/-- x.sendWilling -/
def s332 (S : fx_S) (x1 : Int) (z : Int) (Z : fx_S) : Prop := Z.2 = S.2 ∧ (∀ p i : Int, ¬ (p = 64) → Z.1 p i = S.1 p i)
/-- m.fewest@28 -/
def s333 (S : fx_S) (x1 : Int) (z : Int) (Z : fx_S) : Prop := Z.2 = S.2 ∧ (∀ p i : Int, ¬ (p = 83 ∨ (p = 66 ∧ i = 29)) → Z.1 p i = S.1 p i)
/-- m.most@80 -/
def s334 (S : fx_S) (x1 : Int) (z : Int) (Z : fx_S) : Prop := Z.2 = S.2 ∧ (∀ p i : Int, ¬ (p = 83 ∨ p = 84 ∨ (p = 66 ∧ i = 29) ∨ (p = 66 ∧ i = 30)) → Z.1 p i = S.1 p i)
/-- Joining.solve@71 -/
def s335 (S : fx_S) (x2 : Int) (z : Int) (Z : fx_S) : Prop := Z.2 = S.2 ∧ (∀ p i : Int, ¬ (p = 57 ∨ p = 59 ∨ p = 60 ∨ (p = 56 ∧ i = 1)) → Z.1 p i = S.1 p i)
/-- Joining.solve@32 -/
def s336 (S : fx_S) (x2 x3 : Int) (z : Int) (Z : fx_S) : Prop := Z.2 = S.2 ∧ (∀ p i : Int, ¬ (p = 57 ∨ p = 58 ∨ p = 59 ∨ p = 60 ∨ (p = 56 ∧ i = 1)) → Z.1 p i = S.1 p i)
/-- m.alike -/
def s337 (S : fx_S) (x1 x2 : Int) (z : Int) (Z : fx_S) : Prop := S = Z
/-- Country.copyFrom@116 -/
def s338 (S : fx_S) (x0 x2 : Int) (z : Int) (Z : fx_S) : Prop := 91 ≤ x0 → 0 ≤ x2 → Z.2.2 = S.2.2 ∧ (∀ p i : Int, Z.2.1 p i = if p = x0 + 7 ∧ x2 ≤ i ∧ i < 10 then S.2.1 9 i else S.2.1 p i) ∧ (∀ p i : Int, ¬ (x0 + 8 ≤ p ∧ p < x0 + 11) → Z.1 p i = S.1 p i) ∧ ∀ j i : Int, 9 ≤ j → j < 12 → 0 ≤ i → i < 10 → Z.1 (x0 - 1 + j) i = S.1 (1 + j) i
/-- Country.copyFrom@116#2 -/
def s339 (S : fx_S) (x1 x2 : Int) (z : Int) (Z : fx_S) : Prop := 91 ≤ x1 → 0 ≤ x2 → Z.2.2 = S.2.2 ∧ (∀ p i : Int, Z.2.1 p i = if p = 9 ∧ x2 ≤ i ∧ i < 10 then S.2.1 (x1 + 7) i else S.2.1 p i) ∧ (∀ p i : Int, ¬ (10 ≤ p ∧ p < 13) → Z.1 p i = S.1 p i) ∧ ∀ j i : Int, 9 ≤ j → j < 12 → 0 ≤ i → i < 10 → Z.1 (1 + j) i = S.1 (x1 - 1 + j) i
/-- Reader.kindOf -/
def s340 (S : fx_S) (x0 : Int) (z : Int) (Z : fx_S) : Prop := S = Z
/-- Reader.advance@121 -/
def s341 (S : fx_S) (x1 : Int) (z : Int) (Z : fx_S) : Prop := Z.2 = S.2 ∧ (∀ p i : Int, ¬ ((p = 50 ∧ i = 4)) → Z.1 p i = S.1 p i)
/-- Reader.beginsLine -/
def s342 (S : fx_S) (z : Int) (Z : fx_S) : Prop := S = Z
/-- Reader.takeWord -/
def s343 (S : fx_S) (x1 : Int) (z : Int) (Z : fx_S) : Prop := Z.2 = S.2 ∧ (∀ p i : Int, ¬ ((p = 50 ∧ i = 4) ∨ (p = 50 ∧ i = 5) ∨ (p = 50 ∧ i = 6)) → Z.1 p i = S.1 p i)
/-- Reader.readVote -/
def s344 (S : fx_S) (x1 : Int) (z : Int) (Z : fx_S) : Prop := Z.2 = S.2 ∧ (∀ p i : Int, ¬ ((p = 50 ∧ i = 2) ∨ (p = 50 ∧ i = 3) ∨ (p = 50 ∧ i = 4) ∨ (p = 50 ∧ i = 5) ∨ (p = 50 ∧ i = 6) ∨ p = x1 + 0) → Z.1 p i = S.1 p i)
/-- Reader.takeSign -/
def s345 (S : fx_S) (x1 : Int) (z : Int) (Z : fx_S) : Prop := Z.2 = S.2 ∧ (∀ p i : Int, ¬ ((p = 50 ∧ i = 2) ∨ (p = 50 ∧ i = 3) ∨ (p = 50 ∧ i = 4) ∨ (p = 50 ∧ i = 5) ∨ (p = 50 ∧ i = 6)) → Z.1 p i = S.1 p i)
/-- Reader.takeNumber -/
def s346 (S : fx_S) (x1 x2 : Int) (z : Int) (Z : fx_S) : Prop := Z.2 = S.2 ∧ (∀ p i : Int, ¬ ((p = 50 ∧ i = 2) ∨ (p = 50 ∧ i = 3) ∨ (p = 50 ∧ i = 4) ∨ (p = 50 ∧ i = 5) ∨ (p = 50 ∧ i = 6)) → Z.1 p i = S.1 p i)
/-- Statute.beginLine -/
def s347 (S : fx_S) (x0 x1 : Int) (z : Int) (Z : fx_S) : Prop := Z.2 = S.2 ∧ (∀ p i : Int, ¬ (p = x0 + 0 ∨ (x0 + 2 ≤ p ∧ p ≤ x0 + 3)) → Z.1 p i = S.1 p i)
/-- Reader.readConds -/
def s348 (S : fx_S) (x1 : Int) (z : Int) (Z : fx_S) : Prop := Z.2 = S.2 ∧ (∀ p i : Int, ¬ ((p = 50 ∧ i = 2) ∨ (p = 50 ∧ i = 3) ∨ (p = 50 ∧ i = 4) ∨ (p = 50 ∧ i = 5) ∨ (p = 50 ∧ i = 6) ∨ p = x1 + 0 ∨ (x1 + 3 ≤ p ∧ p ≤ x1 + 9)) → Z.1 p i = S.1 p i)
/-- Reader.wrong -/
def s349 (S : fx_S) (x1 : Int) (z : Int) (Z : fx_S) : Prop := Z.2 = S.2 ∧ (∀ p i : Int, ¬ ((p = 50 ∧ i = 2) ∨ (p = 50 ∧ i = 3)) → Z.1 p i = S.1 p i)
/-- m.is@39 -/
def s350 (S : fx_S) (x1 x2 x3 : Int) (z : Int) (Z : fx_S) : Prop := S = Z
/-- m.number -/
def s351 (S : fx_S) (x1 x2 : Int) (z : Int) (Z : fx_S) : Prop := Z.2 = S.2 ∧ (∀ p i : Int, ¬ ((p = 66 ∧ i = 10) ∨ (p = 66 ∧ i = 11) ∨ (p = 66 ∧ i = 12) ∨ (p = 66 ∧ i = 13) ∨ (p = 66 ∧ i = 8) ∨ (p = 66 ∧ i = 9)) → Z.1 p i = S.1 p i) ∧ (z = 0 ∨ (x1 ≤ z ∧ z ≤ x2))
/-- m.isSign -/
def s352 (S : fx_S) (x1 : Int) (z : Int) (Z : fx_S) : Prop := S = Z
/-- m.takes -/
def s353 (S : fx_S) (x1 : Int) (z : Int) (Z : fx_S) : Prop := Z.2 = S.2 ∧ (∀ p i : Int, ¬ ((p = 66 ∧ i = 10) ∨ (p = 66 ∧ i = 11) ∨ (p = 66 ∧ i = 8) ∨ (p = 66 ∧ i = 9)) → Z.1 p i = S.1 p i)
/-- m.nationLine -/
def s354 (S : fx_S) (x1 : Int) (z : Int) (Z : fx_S) : Prop := Z.2 = S.2 ∧ (∀ p i : Int, ¬ (p = 72 ∨ (p = 66 ∧ i = 10) ∨ (p = 66 ∧ i = 11) ∨ (p = 66 ∧ i = 12) ∨ (p = 66 ∧ i = 13) ∨ (p = 66 ∧ i = 8) ∨ (p = 66 ∧ i = 9)) → Z.1 p i = S.1 p i) ∧ ((0 ≤ x1 ∧ x1 ≤ 244) → S.1 72 (x1 + 3) = 0 → (0 ≤ Z.1 72 (x1 + 1) ∧ Z.1 72 (x1 + 1) ≤ 3) ∧ ∀ i : Int, ¬ (x1 + 1 ≤ i ∧ i < x1 + 16) → Z.1 72 i = S.1 72 i)
/-- Statute.lineHolds -/
def s355 (S : fx_S) (x0 x1 x2 x3 x4 : Int) (z : Int) (Z : fx_S) : Prop := S = Z
/-- m.condHolds -/
def s356 (S : fx_S) (x1 x2 x3 : Int) (z : Int) (Z : fx_S) : Prop := S = Z
/-- Purses.nationOfGreatestRest -/
def s357 (S : fx_S) (z : Int) (Z : fx_S) : Prop := S = Z
/-- m.masters@212 -/
def s358 (S : fx_S) (x1 x4 : Int) (z : Int) (Z : fx_S) : Prop := fx_WB S → (0 ≤ x4) → Z.2 = S.2 ∧ (∀ p i : Int, ¬ ((p = 67 ∧ (i = 9 ∨ (12 ≤ i ∧ i < 20)))) → Z.1 p i = S.1 p i) ∧ fx_WB Z
/-- m.masters@127 -/
def s359 (S : fx_S) (x1 x2 x3 x4 x5 : Int) (z : Int) (Z : fx_S) : Prop := fx_WB S → Z.2 = S.2 ∧ (∀ p i : Int, ¬ ((p = 67 ∧ (i = 9 ∨ (12 ≤ i ∧ i < 20))) ∨ p = 74 ∨ p = 75) → Z.1 p i = S.1 p i) ∧ fx_WB Z
/-- Elections.swingByNations@82 -/
def s360 (S : fx_S) (x2 x3 x4 x5 x6 x7 x8 : Int) (z : Int) (Z : fx_S) : Prop := S = Z
/-- Elections.costOfSign -/
def s361 (S : fx_S) (x1 x2 x3 : Int) (z : Int) (Z : fx_S) : Prop := S = Z
/-- m.swingByNations@179 -/
def s362 (S : fx_S) (x1 x2 x3 : Int) (z : Int) (Z : fx_S) : Prop := S = Z
/-- m.swingByNations@41 -/
def s363 (S : fx_S) (x1 x2 x3 : Int) (z : Int) (Z : fx_S) : Prop := Z.2 = S.2 ∧ (∀ p i : Int, ¬ (p = 78 ∨ p = 79) → Z.1 p i = S.1 p i)
/-- m.spreads@103 -/
def s364 (S : fx_S) (x1 x2 x3 : Int) (z : Int) (Z : fx_S) : Prop := fx_WB S → (0 ≤ x3) → Z.2 = S.2 ∧ (∀ p i : Int, ¬ ((p = 67 ∧ (1100 ≤ i ∧ i < 7100))) → Z.1 p i = S.1 p i) ∧ fx_WB Z
/-- People.nextChange@6 -/
def s365 (S : fx_S) (x1 x2 x3 : Int) (z : Int) (Z : fx_S) : Prop := S = Z
/-- Country.nextStatuteDay@6 -/
def s366 (S : fx_S) (x1 x2 x3 : Int) (z : Int) (Z : fx_S) : Prop := S = Z
/-- x.firstFreeWish -/
def s367 (S : fx_S) (x1 : Int) (z : Int) (Z : fx_S) : Prop := Z.2 = S.2 ∧ (∀ p i : Int, ¬ (p = 43) → Z.1 p i = S.1 p i)
/-- m.lodge@72 -/
def s368 (S : fx_S) (x1 x2 x3 : Int) (z : Int) (Z : fx_S) : Prop := Z.2 = S.2 ∧ (∀ p i : Int, ¬ (p = 81 ∨ p = 82) → Z.1 p i = S.1 p i)
/-- x.mostUnwilling@7 -/
def s369 (S : fx_S) (x1 x2 x3 x4 : Int) (z : Int) (Z : fx_S) : Prop := S = Z
/-- x.sendWilling@4 -/
def s370 (S : fx_S) (x1 x2 x3 : Int) (z : Int) (Z : fx_S) : Prop := Z.2 = S.2 ∧ (∀ p i : Int, ¬ (p = 64) → Z.1 p i = S.1 p i)
/-- m.fewest@39 -/
def s371 (S : fx_S) (x2 x3 : Int) (z : Int) (Z : fx_S) : Prop := Z.2 = S.2 ∧ (∀ p i : Int, ¬ (p = 83 ∨ (p = 66 ∧ i = 29)) → Z.1 p i = S.1 p i)
/-- m.most@88 -/
def s372 (S : fx_S) (x2 x3 : Int) (z : Int) (Z : fx_S) : Prop := Z.2 = S.2 ∧ (∀ p i : Int, ¬ (p = 83 ∨ p = 84 ∨ (p = 66 ∧ i = 29) ∨ (p = 66 ∧ i = 30)) → Z.1 p i = S.1 p i)
/-- Joining.solve@123 -/
def s373 (S : fx_S) (x2 : Int) (z : Int) (Z : fx_S) : Prop := Z.2 = S.2 ∧ (∀ p i : Int, ¬ (p = 57 ∨ p = 59 ∨ p = 60 ∨ (p = 56 ∧ i = 1)) → Z.1 p i = S.1 p i)
/-- Books.likeness -/
def s374 (S : fx_S) (x1 x2 : Int) (z : Int) (Z : fx_S) : Prop := S = Z
/-- Math.abs -/
def s375 (S : fx_S) (x0 : Int) (z : Int) (Z : fx_S) : Prop := S = Z
/-- Reader.isWord -/
def s376 (S : fx_S) (x1 : Int) (z : Int) (Z : fx_S) : Prop := S = Z
/-- Reader.numberRead -/
def s377 (S : fx_S) (z : Int) (Z : fx_S) : Prop := S = Z
/-- Reader.readConds@10 -/
def s378 (S : fx_S) (x1 x3 x4 : Int) (z : Int) (Z : fx_S) : Prop := Z.2 = S.2 ∧ (∀ p i : Int, ¬ ((p = 50 ∧ i = 2) ∨ (p = 50 ∧ i = 3) ∨ (p = 50 ∧ i = 4) ∨ (p = 50 ∧ i = 5) ∨ (p = 50 ∧ i = 6) ∨ p = x1 + 0 ∨ (x1 + 3 ≤ p ∧ p ≤ x1 + 9)) → Z.1 p i = S.1 p i)
/-- m.nationLine@26 -/
def s379 (S : fx_S) (x1 x2 : Int) (z : Int) (Z : fx_S) : Prop := Z.2 = S.2 ∧ (∀ p i : Int, ¬ (p = 72 ∨ (p = 66 ∧ i = 10) ∨ (p = 66 ∧ i = 11) ∨ (p = 66 ∧ i = 12) ∨ (p = 66 ∧ i = 13) ∨ (p = 66 ∧ i = 8) ∨ (p = 66 ∧ i = 9)) → Z.1 p i = S.1 p i) ∧ ((0 ≤ x1 ∧ x1 ≤ 244) → (0 ≤ S.1 72 (x1 + 3) ∧ S.1 72 (x1 + 3) ≤ 3) → (0 ≤ Z.1 72 (x1 + 3) ∧ Z.1 72 (x1 + 3) ≤ 3) ∧ ∀ i : Int, ¬ (x1 + 3 ≤ i ∧ i < x1 + 16) → Z.1 72 i = S.1 72 i)
/-- Statute.lineHolds@22 -/
def s380 (S : fx_S) (x0 x1 x2 x3 x4 x6 : Int) (z : Int) (Z : fx_S) : Prop := S = Z
/-- m.isNear -/
def s381 (S : fx_S) (x1 x2 x3 : Int) (z : Int) (Z : fx_S) : Prop := S = Z
/-- Purses.nationOfGreatestRest@4 -/
def s382 (S : fx_S) (x1 x2 : Int) (z : Int) (Z : fx_S) : Prop := S = Z
/-- m.masters@250 -/
def s383 (S : fx_S) (x1 x4 : Int) (z : Int) (Z : fx_S) : Prop := fx_WB S → (0 ≤ x4) → Z.2 = S.2 ∧ (∀ p i : Int, ¬ ((p = 67 ∧ (i = 9 ∨ (12 ≤ i ∧ i < 20)))) → Z.1 p i = S.1 p i) ∧ fx_WB Z
/-- Elections.costOfSign@18 -/
def s384 (S : fx_S) (x3 x4 x5 x6 : Int) (z : Int) (Z : fx_S) : Prop := S = Z
/-- m.swingByNations@64 -/
def s385 (S : fx_S) (x1 x2 x3 : Int) (z : Int) (Z : fx_S) : Prop := Z.2 = S.2 ∧ (∀ p i : Int, ¬ (p = 78 ∨ p = 79) → Z.1 p i = S.1 p i)
/-- x.firstFreeWish@2 -/
def s386 (S : fx_S) (x1 x2 : Int) (z : Int) (Z : fx_S) : Prop := Z.2 = S.2 ∧ (∀ p i : Int, ¬ (p = 43) → Z.1 p i = S.1 p i)
/-- m.lodges -/
def s387 (S : fx_S) (x1 : Int) (z : Int) (Z : fx_S) : Prop := Z.2 = S.2 ∧ (∀ p i : Int, ¬ (p = 82) → Z.1 p i = S.1 p i)
/-- Joining.choosePartners -/
def s388 (S : fx_S) (z : Int) (Z : fx_S) : Prop := Z.2 = S.2 ∧ (∀ p i : Int, ¬ (p = 57) → Z.1 p i = S.1 p i)
/-- Joining.solve@129 -/
def s389 (S : fx_S) (x2 x3 : Int) (z : Int) (Z : fx_S) : Prop := Z.2 = S.2 ∧ (∀ p i : Int, ¬ (p = 57 ∨ p = 59 ∨ p = 60 ∨ (p = 56 ∧ i = 1)) → Z.1 p i = S.1 p i)
/-- Reader.isWord@35 -/
def s390 (S : fx_S) (x1 x2 : Int) (z : Int) (Z : fx_S) : Prop := S = Z
/-- Reader.numberRead@7 -/
def s391 (S : fx_S) (x1 x2 : Int) (z : Int) (Z : fx_S) : Prop := S = Z
/-- Reader.readCond -/
def s392 (S : fx_S) (x1 x3 : Int) (z : Int) (Z : fx_S) : Prop := Z.2 = S.2 ∧ (∀ p i : Int, ¬ ((p = 50 ∧ i = 2) ∨ (p = 50 ∧ i = 3) ∨ (p = 50 ∧ i = 4) ∨ (p = 50 ∧ i = 5) ∨ (p = 50 ∧ i = 6) ∨ p = x1 + 0 ∨ (x1 + 3 ≤ p ∧ p ≤ x1 + 9)) → Z.1 p i = S.1 p i)
/-- m.cond -/
def s393 (S : fx_S) (x1 : Int) (z : Int) (Z : fx_S) : Prop := Z.2 = S.2 ∧ (∀ p i : Int, ¬ (p = 72 ∨ (p = 66 ∧ i = 10) ∨ (p = 66 ∧ i = 11) ∨ (p = 66 ∧ i = 12) ∨ (p = 66 ∧ i = 13) ∨ (p = 66 ∧ i = 8) ∨ (p = 66 ∧ i = 9)) → Z.1 p i = S.1 p i) ∧ ((0 ≤ x1 ∧ x1 ≤ 244) → (0 ≤ S.1 72 (x1 + 3) ∧ S.1 72 (x1 + 3) ≤ 3) → (0 ≤ Z.1 72 (x1 + 3) ∧ Z.1 72 (x1 + 3) ≤ 3) ∧ ∀ i : Int, ¬ (x1 + 3 ≤ i ∧ i < x1 + 16) → Z.1 72 i = S.1 72 i)
/-- Statute.measured -/
def s394 (S : fx_S) (x0 x1 x2 x3 x4 : Int) (z : Int) (Z : fx_S) : Prop := S = Z
/-- Statute.compares -/
def s395 (S : fx_S) (x0 x1 x2 : Int) (z : Int) (Z : fx_S) : Prop := S = Z
/-- m.swingByNations@143 -/
def s396 (S : fx_S) (x1 x2 x3 : Int) (z : Int) (Z : fx_S) : Prop := Z.2 = S.2 ∧ (∀ p i : Int, ¬ (p = 78 ∨ p = 79) → Z.1 p i = S.1 p i)
/-- m.swingByNations@73 -/
def s397 (S : fx_S) (x1 x2 x3 x4 : Int) (z : Int) (Z : fx_S) : Prop := Z.2 = S.2 ∧ (∀ p i : Int, ¬ (p = 78 ∨ p = 79) → Z.1 p i = S.1 p i)
/-- Houses.takeRoom -/
def s398 (S : fx_S) (x1 : Int) (z : Int) (Z : fx_S) : Prop := Z.2 = S.2 ∧ (∀ p i : Int, ¬ (p = 43) → Z.1 p i = S.1 p i)
/-- m.lodges@13 -/
def s399 (S : fx_S) (x2 x3 : Int) (z : Int) (Z : fx_S) : Prop := Z.2 = S.2 ∧ (∀ p i : Int, ¬ (p = 82) → Z.1 p i = S.1 p i)
/-- Arrays.fill#4 -/
def s400 (S : fx_S) (x1 : Int) (z : Int) (Z : fx_S) : Prop := Z.2 = S.2 ∧ (∀ p i : Int, ¬ (p = 57) → Z.1 p i = S.1 p i)
/-- Joining.choosePartners@12 -/
def s401 (S : fx_S) (x1 x2 : Int) (z : Int) (Z : fx_S) : Prop := Z.2 = S.2 ∧ (∀ p i : Int, ¬ (p = 57) → Z.1 p i = S.1 p i)
/-- Joining.weigh -/
def s402 (S : fx_S) (x1 x2 : Int) (z : Int) (Z : fx_S) : Prop := Z.2 = S.2 ∧ (∀ p i : Int, ¬ (p = 59 ∨ p = 60) → Z.1 p i = S.1 p i)
/-- Statute.addNear -/
def s403 (S : fx_S) (x0 x1 x2 x3 x4 : Int) (z : Int) (Z : fx_S) : Prop := Z.2 = S.2 ∧ (∀ p i : Int, ¬ (p = x0 + 0 ∨ (x0 + 3 ≤ p ∧ p ≤ x0 + 9)) → Z.1 p i = S.1 p i)
/-- Reader.takeComparison -/
def s404 (S : fx_S) (z : Int) (Z : fx_S) : Prop := Z.2 = S.2 ∧ (∀ p i : Int, ¬ ((p = 50 ∧ i = 2) ∨ (p = 50 ∧ i = 3) ∨ (p = 50 ∧ i = 4) ∨ (p = 50 ∧ i = 5) ∨ (p = 50 ∧ i = 6)) → Z.1 p i = S.1 p i)
/-- Statute.addCond -/
def s405 (S : fx_S) (x0 x1 x2 x3 x4 : Int) (z : Int) (Z : fx_S) : Prop := Z.2 = S.2 ∧ (∀ p i : Int, ¬ (p = x0 + 0 ∨ (x0 + 3 ≤ p ∧ p ≤ x0 + 7)) → Z.1 p i = S.1 p i)
/-- Reader.isMeasure -/
def s406 (S : fx_S) (z : Int) (Z : fx_S) : Prop := S = Z
/-- m.wordHere -/
def s407 (S : fx_S) (z : Int) (Z : fx_S) : Prop := S = Z
/-- m.flips -/
def s408 (S : fx_S) (x1 x2 : Int) (z : Int) (Z : fx_S) : Prop := S = Z
/-- Arrays.fill@5#4 -/
def s409 (S : fx_S) (x1 x2 x3 : Int) (z : Int) (Z : fx_S) : Prop := Z.2 = S.2 ∧ (∀ p i : Int, ¬ (p = 57) → Z.1 p i = S.1 p i)
/-- Joining.firstPartner -/
def s410 (S : fx_S) (x1 x2 : Int) (z : Int) (Z : fx_S) : Prop := S = Z
/-- Joining.weigh@29 -/
def s411 (S : fx_S) (x1 x2 x4 x5 x6 : Int) (z : Int) (Z : fx_S) : Prop := Z.2 = S.2 ∧ (∀ p i : Int, ¬ (p = 59 ∨ p = 60) → Z.1 p i = S.1 p i)
/-- m.flips@13 -/
def s412 (S : fx_S) (x1 x2 x3 x4 : Int) (z : Int) (Z : fx_S) : Prop := S = Z
/-- Joining.firstPartner@16 -/
def s413 (S : fx_S) (x1 x2 x3 x4 : Int) (z : Int) (Z : fx_S) : Prop := S = Z
/-- Joining.canJoin -/
def s414 (S : fx_S) (x1 x2 x3 : Int) (z : Int) (Z : fx_S) : Prop := S = Z
/-- Joining.sumWith -/
def s415 (S : fx_S) (x1 x2 x3 : Int) (z : Int) (Z : fx_S) : Prop := S = Z
def fx_spl : List (List (fx_S → List Int → Int → fx_S → Prop)) := [
  [fun S l z Z => s0 S (l.getD 0 0) z Z, fun S l z Z => s1 S (l.getD 0 0) (l.getD 1 0) (l.getD 2 0) (l.getD 3 0) (l.getD 4 0) z Z, fun S l z Z => s2 S (l.getD 0 0) (l.getD 1 0) (l.getD 2 0) (l.getD 3 0) (l.getD 4 0) z Z, fun S l z Z => s3 S (l.getD 0 0) z Z, fun S l z Z => s4 S (l.getD 0 0) z Z, fun S l z Z => s5 S (l.getD 0 0) z Z, fun S l z Z => s6 S (l.getD 0 0) z Z, fun S l z Z => s7 S (l.getD 0 0) (l.getD 1 0) (l.getD 2 0) z Z, fun S l z Z => s8 S (l.getD 0 0) (l.getD 1 0) (l.getD 2 0) z Z, fun S l z Z => s9 S (l.getD 0 0) (l.getD 1 0) z Z, fun S l z Z => s10 S (l.getD 0 0) (l.getD 1 0) z Z, fun S l z Z => s11 S (l.getD 0 0) z Z, fun S l z Z => s12 S (l.getD 0 0) z Z, fun S l z Z => s13 S (l.getD 0 0) z Z, fun S l z Z => s14 S (l.getD 0 0) z Z, fun S l z Z => s15 S (l.getD 0 0) (l.getD 1 0) z Z, fun S l z Z => s16 S (l.getD 0 0) (l.getD 1 0) z Z, fun S l z Z => s17 S (l.getD 0 0) (l.getD 1 0) (l.getD 2 0) z Z, fun S l z Z => s18 S (l.getD 0 0) (l.getD 1 0) (l.getD 2 0) z Z, fun S l z Z => s19 S (l.getD 0 0) (l.getD 1 0) (l.getD 2 0) z Z],
  [fun S l z Z => s20 S (l.getD 0 0) (l.getD 1 0) (l.getD 2 0) z Z, fun S l z Z => s21 S (l.getD 0 0) z Z, fun S l z Z => s22 S (l.getD 0 0) z Z, fun S l z Z => s23 S (l.getD 0 0) (l.getD 1 0) z Z, fun S l z Z => s24 S (l.getD 0 0) (l.getD 1 0) z Z, fun S l z Z => s25 S (l.getD 0 0) z Z, fun S l z Z => s26 S (l.getD 0 0) z Z, fun S l z Z => s27 S (l.getD 0 0) z Z, fun S l z Z => s28 S (l.getD 0 0) z Z, fun S l z Z => s29 S (l.getD 0 0) (l.getD 1 0) z Z, fun S l z Z => s30 S (l.getD 0 0) (l.getD 1 0) z Z, fun S l z Z => s31 S (l.getD 0 0) (l.getD 1 0) z Z, fun S l z Z => s32 S (l.getD 0 0) (l.getD 1 0) z Z, fun S l z Z => s33 S (l.getD 0 0) (l.getD 1 0) (l.getD 2 0) z Z, fun S l z Z => s34 S (l.getD 0 0) (l.getD 1 0) (l.getD 2 0) z Z, fun S l z Z => s35 S (l.getD 0 0) (l.getD 1 0) (l.getD 2 0) z Z, fun S l z Z => s36 S (l.getD 0 0) (l.getD 1 0) (l.getD 2 0) z Z, fun S l z Z => s37 S (l.getD 0 0) (l.getD 1 0) (l.getD 2 0) z Z, fun S l z Z => s38 S (l.getD 0 0) (l.getD 1 0) (l.getD 2 0) z Z, fun S l z Z => s39 S (l.getD 0 0) (l.getD 1 0) z Z],
  [fun S l z Z => s40 S (l.getD 0 0) (l.getD 1 0) z Z, fun S l z Z => s41 S (l.getD 0 0) (l.getD 1 0) z Z, fun S l z Z => s42 S (l.getD 0 0) (l.getD 1 0) z Z, fun S l z Z => s43 S (l.getD 0 0) (l.getD 1 0) z Z, fun S l z Z => s44 S (l.getD 0 0) (l.getD 1 0) z Z, fun S l z Z => s45 S (l.getD 0 0) z Z, fun S l z Z => s46 S (l.getD 0 0) z Z, fun S l z Z => s47 S (l.getD 0 0) z Z, fun S l z Z => s48 S (l.getD 0 0) z Z, fun S l z Z => s49 S z Z, fun S l z Z => s50 S z Z, fun S l z Z => s51 S (l.getD 0 0) (l.getD 1 0) (l.getD 2 0) z Z, fun S l z Z => s52 S (l.getD 0 0) (l.getD 1 0) (l.getD 2 0) z Z, fun S l z Z => s53 S (l.getD 0 0) z Z, fun S l z Z => s54 S (l.getD 0 0) z Z, fun S l z Z => s55 S (l.getD 0 0) (l.getD 1 0) z Z, fun S l z Z => s56 S (l.getD 0 0) (l.getD 1 0) z Z, fun S l z Z => s57 S (l.getD 0 0) (l.getD 1 0) z Z, fun S l z Z => s58 S (l.getD 0 0) (l.getD 1 0) z Z, fun S l z Z => s59 S (l.getD 0 0) z Z],
  [fun S l z Z => s60 S (l.getD 0 0) z Z, fun S l z Z => s61 S (l.getD 0 0) z Z, fun S l z Z => s62 S (l.getD 0 0) z Z, fun S l z Z => s63 S (l.getD 0 0) (l.getD 1 0) z Z, fun S l z Z => s64 S (l.getD 0 0) (l.getD 1 0) z Z, fun S l z Z => s65 S (l.getD 0 0) (l.getD 1 0) z Z, fun S l z Z => s66 S (l.getD 0 0) (l.getD 1 0) z Z, fun S l z Z => s67 S (l.getD 0 0) (l.getD 1 0) (l.getD 2 0) z Z, fun S l z Z => s68 S (l.getD 0 0) (l.getD 1 0) (l.getD 2 0) z Z, fun S l z Z => s69 S (l.getD 0 0) (l.getD 1 0) z Z, fun S l z Z => s70 S (l.getD 0 0) (l.getD 1 0) z Z, fun S l z Z => s71 S (l.getD 0 0) z Z, fun S l z Z => s72 S (l.getD 0 0) z Z, fun S l z Z => s73 S (l.getD 0 0) (l.getD 1 0) z Z, fun S l z Z => s74 S (l.getD 0 0) (l.getD 1 0) z Z, fun S l z Z => s75 S z Z, fun S l z Z => s76 S z Z, fun S l z Z => s77 S (l.getD 0 0) z Z, fun S l z Z => s78 S (l.getD 0 0) z Z, fun S l z Z => s79 S (l.getD 0 0) (l.getD 1 0) z Z],
  [fun S l z Z => s80 S (l.getD 0 0) (l.getD 1 0) z Z, fun S l z Z => s81 S (l.getD 0 0) z Z, fun S l z Z => s82 S (l.getD 0 0) z Z, fun S l z Z => s83 S (l.getD 0 0) (l.getD 1 0) z Z, fun S l z Z => s84 S (l.getD 0 0) (l.getD 1 0) z Z, fun S l z Z => s85 S (l.getD 0 0) z Z, fun S l z Z => s86 S (l.getD 0 0) z Z, fun S l z Z => s87 S (l.getD 0 0) z Z, fun S l z Z => s88 S (l.getD 0 0) z Z, fun S l z Z => s89 S (l.getD 0 0) (l.getD 1 0) (l.getD 2 0) (l.getD 3 0) z Z, fun S l z Z => s90 S (l.getD 0 0) (l.getD 1 0) (l.getD 2 0) (l.getD 3 0) z Z, fun S l z Z => s91 S z Z, fun S l z Z => s92 S z Z, fun S l z Z => s93 S (l.getD 0 0) z Z, fun S l z Z => s94 S (l.getD 0 0) z Z, fun S l z Z => s95 S z Z, fun S l z Z => s96 S z Z, fun S l z Z => s97 S (l.getD 0 0) z Z, fun S l z Z => s98 S (l.getD 0 0) z Z, fun S l z Z => s99 S (l.getD 0 0) z Z],
  [fun S l z Z => s100 S (l.getD 0 0) z Z, fun S l z Z => s101 S (l.getD 0 0) z Z, fun S l z Z => s102 S (l.getD 0 0) z Z, fun S l z Z => s103 S (l.getD 0 0) z Z, fun S l z Z => s104 S (l.getD 0 0) z Z, fun S l z Z => s105 S (l.getD 0 0) (l.getD 1 0) (l.getD 2 0) z Z, fun S l z Z => s106 S (l.getD 0 0) (l.getD 1 0) (l.getD 2 0) z Z, fun S l z Z => s107 S (l.getD 0 0) (l.getD 1 0) (l.getD 2 0) z Z, fun S l z Z => s108 S (l.getD 0 0) (l.getD 1 0) (l.getD 2 0) z Z, fun S l z Z => s109 S (l.getD 0 0) (l.getD 1 0) (l.getD 2 0) (l.getD 3 0) (l.getD 4 0) z Z, fun S l z Z => s110 S (l.getD 0 0) (l.getD 1 0) (l.getD 2 0) (l.getD 3 0) (l.getD 4 0) z Z, fun S l z Z => s111 S (l.getD 0 0) z Z, fun S l z Z => s112 S (l.getD 0 0) z Z, fun S l z Z => s113 S (l.getD 0 0) (l.getD 1 0) (l.getD 2 0) z Z, fun S l z Z => s114 S (l.getD 0 0) (l.getD 1 0) (l.getD 2 0) z Z, fun S l z Z => s115 S (l.getD 0 0) (l.getD 1 0) (l.getD 2 0) z Z, fun S l z Z => s116 S (l.getD 0 0) (l.getD 1 0) (l.getD 2 0) z Z, fun S l z Z => s117 S z Z, fun S l z Z => s118 S (l.getD 0 0) (l.getD 1 0) (l.getD 2 0) z Z, fun S l z Z => s119 S (l.getD 0 0) z Z],
  [fun S l z Z => s120 S z Z, fun S l z Z => s121 S (l.getD 0 0) (l.getD 1 0) z Z, fun S l z Z => s122 S (l.getD 0 0) z Z, fun S l z Z => s123 S (l.getD 0 0) (l.getD 1 0) z Z, fun S l z Z => s124 S (l.getD 0 0) (l.getD 1 0) z Z, fun S l z Z => s125 S (l.getD 0 0) (l.getD 1 0) z Z, fun S l z Z => s126 S (l.getD 0 0) (l.getD 1 0) (l.getD 2 0) z Z, fun S l z Z => s127 S (l.getD 0 0) (l.getD 1 0) z Z, fun S l z Z => s128 S (l.getD 0 0) (l.getD 1 0) (l.getD 2 0) z Z, fun S l z Z => s129 S (l.getD 0 0) (l.getD 1 0) z Z, fun S l z Z => s130 S (l.getD 0 0) (l.getD 1 0) (l.getD 2 0) z Z, fun S l z Z => s131 S (l.getD 0 0) (l.getD 1 0) (l.getD 2 0) (l.getD 3 0) (l.getD 4 0) z Z, fun S l z Z => s132 S (l.getD 0 0) (l.getD 1 0) (l.getD 2 0) (l.getD 3 0) (l.getD 4 0) z Z, fun S l z Z => s133 S (l.getD 0 0) (l.getD 1 0) (l.getD 2 0) z Z, fun S l z Z => s134 S (l.getD 0 0) (l.getD 1 0) (l.getD 2 0) z Z, fun S l z Z => s135 S (l.getD 0 0) (l.getD 1 0) (l.getD 2 0) z Z, fun S l z Z => s136 S (l.getD 0 0) z Z, fun S l z Z => s137 S (l.getD 0 0) (l.getD 1 0) (l.getD 2 0) z Z, fun S l z Z => s138 S (l.getD 0 0) (l.getD 1 0) z Z, fun S l z Z => s139 S (l.getD 0 0) (l.getD 1 0) (l.getD 2 0) (l.getD 3 0) (l.getD 4 0) z Z],
  [fun S l z Z => s140 S (l.getD 0 0) (l.getD 1 0) (l.getD 2 0) (l.getD 3 0) (l.getD 4 0) z Z, fun S l z Z => s141 S (l.getD 0 0) (l.getD 1 0) (l.getD 2 0) (l.getD 3 0) (l.getD 4 0) z Z, fun S l z Z => s142 S (l.getD 0 0) (l.getD 1 0) (l.getD 2 0) (l.getD 3 0) (l.getD 4 0) z Z, fun S l z Z => s143 S (l.getD 0 0) (l.getD 1 0) (l.getD 2 0) z Z, fun S l z Z => s144 S (l.getD 0 0) (l.getD 1 0) (l.getD 2 0) z Z, fun S l z Z => s145 S (l.getD 0 0) (l.getD 1 0) (l.getD 2 0) z Z, fun S l z Z => s146 S (l.getD 0 0) (l.getD 1 0) z Z, fun S l z Z => s147 S (l.getD 0 0) (l.getD 1 0) (l.getD 2 0) (l.getD 3 0) z Z, fun S l z Z => s148 S z Z, fun S l z Z => s149 S (l.getD 0 0) (l.getD 1 0) z Z, fun S l z Z => s150 S z Z, fun S l z Z => s151 S (l.getD 0 0) z Z, fun S l z Z => s152 S z Z, fun S l z Z => s153 S (l.getD 0 0) (l.getD 1 0) (l.getD 2 0) z Z, fun S l z Z => s154 S (l.getD 0 0) z Z, fun S l z Z => s155 S (l.getD 0 0) z Z, fun S l z Z => s156 S (l.getD 0 0) (l.getD 1 0) z Z, fun S l z Z => s157 S (l.getD 0 0) z Z, fun S l z Z => s158 S (l.getD 0 0) z Z, fun S l z Z => s159 S (l.getD 0 0) (l.getD 1 0) (l.getD 2 0) z Z],
  [fun S l z Z => s160 S (l.getD 0 0) z Z, fun S l z Z => s161 S (l.getD 0 0) (l.getD 1 0) z Z, fun S l z Z => s162 S (l.getD 0 0) (l.getD 1 0) z Z, fun S l z Z => s163 S (l.getD 0 0) z Z, fun S l z Z => s164 S (l.getD 0 0) z Z, fun S l z Z => s165 S (l.getD 0 0) (l.getD 1 0) z Z, fun S l z Z => s166 S (l.getD 0 0) (l.getD 1 0) z Z, fun S l z Z => s167 S (l.getD 0 0) (l.getD 1 0) (l.getD 2 0) z Z, fun S l z Z => s168 S (l.getD 0 0) z Z, fun S l z Z => s169 S (l.getD 0 0) (l.getD 1 0) z Z, fun S l z Z => s170 S (l.getD 0 0) z Z, fun S l z Z => s171 S (l.getD 0 0) z Z, fun S l z Z => s172 S (l.getD 0 0) (l.getD 1 0) z Z, fun S l z Z => s173 S (l.getD 0 0) (l.getD 1 0) z Z, fun S l z Z => s174 S (l.getD 0 0) z Z, fun S l z Z => s175 S (l.getD 0 0) (l.getD 1 0) (l.getD 2 0) (l.getD 3 0) z Z, fun S l z Z => s176 S (l.getD 0 0) (l.getD 1 0) (l.getD 2 0) (l.getD 3 0) (l.getD 4 0) z Z, fun S l z Z => s177 S (l.getD 0 0) z Z, fun S l z Z => s178 S (l.getD 0 0) (l.getD 1 0) z Z, fun S l z Z => s179 S z Z],
  [fun S l z Z => s180 S (l.getD 0 0) z Z, fun S l z Z => s181 S (l.getD 0 0) (l.getD 1 0) z Z, fun S l z Z => s182 S (l.getD 0 0) z Z, fun S l z Z => s183 S (l.getD 0 0) (l.getD 1 0) z Z, fun S l z Z => s184 S (l.getD 0 0) (l.getD 1 0) (l.getD 2 0) z Z, fun S l z Z => s185 S (l.getD 0 0) (l.getD 1 0) z Z, fun S l z Z => s186 S (l.getD 0 0) (l.getD 1 0) (l.getD 2 0) z Z, fun S l z Z => s187 S (l.getD 0 0) z Z, fun S l z Z => s188 S (l.getD 0 0) (l.getD 1 0) z Z, fun S l z Z => s189 S (l.getD 0 0) (l.getD 1 0) z Z, fun S l z Z => s190 S (l.getD 0 0) (l.getD 1 0) (l.getD 2 0) z Z, fun S l z Z => s191 S (l.getD 0 0) z Z, fun S l z Z => s192 S (l.getD 0 0) (l.getD 1 0) z Z, fun S l z Z => s193 S (l.getD 0 0) (l.getD 1 0) z Z, fun S l z Z => s194 S z Z, fun S l z Z => s195 S z Z, fun S l z Z => s196 S z Z, fun S l z Z => s197 S z Z, fun S l z Z => s198 S (l.getD 0 0) (l.getD 1 0) z Z, fun S l z Z => s199 S (l.getD 0 0) (l.getD 1 0) (l.getD 2 0) z Z],
  [fun S l z Z => s200 S (l.getD 0 0) (l.getD 1 0) (l.getD 2 0) (l.getD 3 0) z Z, fun S l z Z => s201 S z Z, fun S l z Z => s202 S (l.getD 0 0) (l.getD 1 0) (l.getD 2 0) z Z, fun S l z Z => s203 S z Z, fun S l z Z => s204 S z Z, fun S l z Z => s205 S (l.getD 0 0) (l.getD 1 0) z Z, fun S l z Z => s206 S (l.getD 0 0) z Z, fun S l z Z => s207 S (l.getD 0 0) z Z, fun S l z Z => s208 S (l.getD 0 0) (l.getD 1 0) z Z, fun S l z Z => s209 S (l.getD 0 0) z Z, fun S l z Z => s210 S (l.getD 0 0) (l.getD 1 0) z Z, fun S l z Z => s211 S (l.getD 0 0) (l.getD 1 0) (l.getD 2 0) z Z, fun S l z Z => s212 S (l.getD 0 0) (l.getD 1 0) z Z, fun S l z Z => s213 S (l.getD 0 0) (l.getD 1 0) (l.getD 2 0) z Z, fun S l z Z => s214 S (l.getD 0 0) (l.getD 1 0) (l.getD 2 0) z Z, fun S l z Z => s215 S (l.getD 0 0) (l.getD 1 0) (l.getD 2 0) (l.getD 3 0) (l.getD 4 0) z Z, fun S l z Z => s216 S (l.getD 0 0) (l.getD 1 0) (l.getD 2 0) (l.getD 3 0) (l.getD 4 0) (l.getD 5 0) z Z, fun S l z Z => s217 S (l.getD 0 0) (l.getD 1 0) z Z, fun S l z Z => s218 S z Z, fun S l z Z => s219 S (l.getD 0 0) (l.getD 1 0) z Z],
  [fun S l z Z => s220 S (l.getD 0 0) z Z, fun S l z Z => s221 S z Z, fun S l z Z => s222 S z Z, fun S l z Z => s223 S (l.getD 0 0) (l.getD 1 0) z Z, fun S l z Z => s224 S z Z, fun S l z Z => s225 S (l.getD 0 0) z Z, fun S l z Z => s226 S (l.getD 0 0) z Z, fun S l z Z => s227 S (l.getD 0 0) (l.getD 1 0) (l.getD 2 0) z Z, fun S l z Z => s228 S (l.getD 0 0) (l.getD 1 0) (l.getD 2 0) (l.getD 3 0) z Z, fun S l z Z => s229 S (l.getD 0 0) (l.getD 1 0) (l.getD 2 0) (l.getD 3 0) z Z, fun S l z Z => s230 S (l.getD 0 0) (l.getD 1 0) (l.getD 2 0) (l.getD 3 0) z Z, fun S l z Z => s231 S (l.getD 0 0) (l.getD 1 0) (l.getD 2 0) (l.getD 3 0) (l.getD 4 0) z Z, fun S l z Z => s232 S (l.getD 0 0) (l.getD 1 0) (l.getD 2 0) z Z, fun S l z Z => s233 S (l.getD 0 0) (l.getD 1 0) (l.getD 2 0) (l.getD 3 0) z Z, fun S l z Z => s234 S (l.getD 0 0) (l.getD 1 0) z Z, fun S l z Z => s235 S (l.getD 0 0) (l.getD 1 0) (l.getD 2 0) z Z, fun S l z Z => s236 S (l.getD 0 0) (l.getD 1 0) (l.getD 2 0) (l.getD 3 0) (l.getD 4 0) z Z, fun S l z Z => s237 S (l.getD 0 0) (l.getD 1 0) (l.getD 2 0) (l.getD 3 0) (l.getD 4 0) z Z, fun S l z Z => s238 S (l.getD 0 0) (l.getD 1 0) (l.getD 2 0) (l.getD 3 0) z Z, fun S l z Z => s239 S (l.getD 0 0) z Z],
  [fun S l z Z => s240 S (l.getD 0 0) (l.getD 1 0) z Z, fun S l z Z => s241 S (l.getD 0 0) (l.getD 1 0) (l.getD 2 0) (l.getD 3 0) z Z, fun S l z Z => s242 S (l.getD 0 0) z Z, fun S l z Z => s243 S (l.getD 0 0) (l.getD 1 0) z Z, fun S l z Z => s244 S (l.getD 0 0) (l.getD 1 0) z Z, fun S l z Z => s245 S (l.getD 0 0) (l.getD 1 0) (l.getD 2 0) (l.getD 3 0) z Z, fun S l z Z => s246 S (l.getD 0 0) (l.getD 1 0) z Z, fun S l z Z => s247 S (l.getD 0 0) (l.getD 1 0) z Z, fun S l z Z => s248 S (l.getD 0 0) z Z, fun S l z Z => s249 S (l.getD 0 0) (l.getD 1 0) z Z, fun S l z Z => s250 S (l.getD 0 0) (l.getD 1 0) (l.getD 2 0) z Z, fun S l z Z => s251 S (l.getD 0 0) (l.getD 1 0) (l.getD 2 0) (l.getD 3 0) z Z, fun S l z Z => s252 S (l.getD 0 0) (l.getD 1 0) (l.getD 2 0) z Z, fun S l z Z => s253 S (l.getD 0 0) (l.getD 1 0) (l.getD 2 0) z Z, fun S l z Z => s254 S (l.getD 0 0) (l.getD 1 0) (l.getD 2 0) z Z, fun S l z Z => s255 S (l.getD 0 0) (l.getD 1 0) (l.getD 2 0) (l.getD 3 0) z Z, fun S l z Z => s256 S (l.getD 0 0) (l.getD 1 0) (l.getD 2 0) z Z, fun S l z Z => s257 S (l.getD 0 0) (l.getD 1 0) (l.getD 2 0) (l.getD 3 0) z Z, fun S l z Z => s258 S (l.getD 0 0) z Z, fun S l z Z => s259 S (l.getD 0 0) z Z],
  [fun S l z Z => s260 S (l.getD 0 0) (l.getD 1 0) (l.getD 2 0) (l.getD 3 0) (l.getD 4 0) (l.getD 5 0) z Z, fun S l z Z => s261 S (l.getD 0 0) (l.getD 1 0) (l.getD 2 0) z Z, fun S l z Z => s262 S (l.getD 0 0) (l.getD 1 0) (l.getD 2 0) (l.getD 3 0) (l.getD 4 0) z Z, fun S l z Z => s263 S (l.getD 0 0) (l.getD 1 0) z Z, fun S l z Z => s264 S z Z, fun S l z Z => s265 S z Z, fun S l z Z => s266 S (l.getD 0 0) (l.getD 1 0) z Z, fun S l z Z => s267 S (l.getD 0 0) (l.getD 1 0) z Z, fun S l z Z => s268 S (l.getD 0 0) (l.getD 1 0) (l.getD 2 0) (l.getD 3 0) z Z, fun S l z Z => s269 S (l.getD 0 0) (l.getD 1 0) z Z, fun S l z Z => s270 S (l.getD 0 0) (l.getD 1 0) (l.getD 2 0) z Z, fun S l z Z => s271 S (l.getD 0 0) z Z, fun S l z Z => s272 S (l.getD 0 0) (l.getD 1 0) (l.getD 2 0) z Z, fun S l z Z => s273 S (l.getD 0 0) (l.getD 1 0) (l.getD 2 0) z Z, fun S l z Z => s274 S (l.getD 0 0) z Z, fun S l z Z => s275 S (l.getD 0 0) (l.getD 1 0) z Z, fun S l z Z => s276 S z Z, fun S l z Z => s277 S (l.getD 0 0) (l.getD 1 0) z Z, fun S l z Z => s278 S (l.getD 0 0) z Z, fun S l z Z => s279 S (l.getD 0 0) (l.getD 1 0) z Z],
  [fun S l z Z => s280 S (l.getD 0 0) z Z, fun S l z Z => s281 S (l.getD 0 0) z Z, fun S l z Z => s282 S (l.getD 0 0) (l.getD 1 0) (l.getD 2 0) (l.getD 3 0) z Z, fun S l z Z => s283 S (l.getD 0 0) (l.getD 1 0) (l.getD 2 0) (l.getD 3 0) z Z, fun S l z Z => s284 S (l.getD 0 0) z Z, fun S l z Z => s285 S (l.getD 0 0) (l.getD 1 0) (l.getD 2 0) (l.getD 3 0) z Z, fun S l z Z => s286 S (l.getD 0 0) z Z, fun S l z Z => s287 S (l.getD 0 0) (l.getD 1 0) z Z, fun S l z Z => s288 S (l.getD 0 0) z Z, fun S l z Z => s289 S (l.getD 0 0) z Z, fun S l z Z => s290 S (l.getD 0 0) z Z, fun S l z Z => s291 S (l.getD 0 0) z Z, fun S l z Z => s292 S (l.getD 0 0) z Z, fun S l z Z => s293 S (l.getD 0 0) z Z, fun S l z Z => s294 S (l.getD 0 0) z Z, fun S l z Z => s295 S (l.getD 0 0) z Z, fun S l z Z => s296 S (l.getD 0 0) z Z, fun S l z Z => s297 S (l.getD 0 0) z Z, fun S l z Z => s298 S (l.getD 0 0) z Z, fun S l z Z => s299 S (l.getD 0 0) z Z],
  [fun S l z Z => s300 S (l.getD 0 0) (l.getD 1 0) z Z, fun S l z Z => s301 S (l.getD 0 0) (l.getD 1 0) (l.getD 2 0) (l.getD 3 0) z Z, fun S l z Z => s302 S z Z, fun S l z Z => s303 S (l.getD 0 0) (l.getD 1 0) z Z, fun S l z Z => s304 S (l.getD 0 0) z Z, fun S l z Z => s305 S (l.getD 0 0) (l.getD 1 0) (l.getD 2 0) z Z, fun S l z Z => s306 S (l.getD 0 0) (l.getD 1 0) (l.getD 2 0) (l.getD 3 0) (l.getD 4 0) (l.getD 5 0) z Z, fun S l z Z => s307 S (l.getD 0 0) (l.getD 1 0) (l.getD 2 0) (l.getD 3 0) (l.getD 4 0) (l.getD 5 0) (l.getD 6 0) (l.getD 7 0) z Z, fun S l z Z => s308 S (l.getD 0 0) (l.getD 1 0) (l.getD 2 0) (l.getD 3 0) (l.getD 4 0) z Z, fun S l z Z => s309 S (l.getD 0 0) (l.getD 1 0) (l.getD 2 0) z Z, fun S l z Z => s310 S (l.getD 0 0) (l.getD 1 0) z Z, fun S l z Z => s311 S (l.getD 0 0) (l.getD 1 0) (l.getD 2 0) z Z, fun S l z Z => s312 S (l.getD 0 0) z Z, fun S l z Z => s313 S (l.getD 0 0) (l.getD 1 0) z Z, fun S l z Z => s314 S (l.getD 0 0) (l.getD 1 0) (l.getD 2 0) z Z, fun S l z Z => s315 S (l.getD 0 0) z Z, fun S l z Z => s316 S (l.getD 0 0) (l.getD 1 0) (l.getD 2 0) z Z, fun S l z Z => s317 S (l.getD 0 0) (l.getD 1 0) (l.getD 2 0) z Z, fun S l z Z => s318 S (l.getD 0 0) (l.getD 1 0) (l.getD 2 0) (l.getD 3 0) z Z, fun S l z Z => s319 S (l.getD 0 0) (l.getD 1 0) z Z],
  [fun S l z Z => s320 S (l.getD 0 0) (l.getD 1 0) z Z, fun S l z Z => s321 S (l.getD 0 0) (l.getD 1 0) z Z, fun S l z Z => s322 S (l.getD 0 0) (l.getD 1 0) (l.getD 2 0) z Z, fun S l z Z => s323 S (l.getD 0 0) (l.getD 1 0) (l.getD 2 0) z Z, fun S l z Z => s324 S (l.getD 0 0) (l.getD 1 0) (l.getD 2 0) (l.getD 3 0) z Z, fun S l z Z => s325 S (l.getD 0 0) z Z, fun S l z Z => s326 S (l.getD 0 0) z Z, fun S l z Z => s327 S (l.getD 0 0) (l.getD 1 0) (l.getD 2 0) z Z, fun S l z Z => s328 S (l.getD 0 0) (l.getD 1 0) z Z, fun S l z Z => s329 S (l.getD 0 0) (l.getD 1 0) z Z, fun S l z Z => s330 S (l.getD 0 0) z Z, fun S l z Z => s331 S (l.getD 0 0) (l.getD 1 0) (l.getD 2 0) z Z, fun S l z Z => s332 S (l.getD 0 0) z Z, fun S l z Z => s333 S (l.getD 0 0) z Z, fun S l z Z => s334 S (l.getD 0 0) z Z, fun S l z Z => s335 S (l.getD 0 0) z Z, fun S l z Z => s336 S (l.getD 0 0) (l.getD 1 0) z Z, fun S l z Z => s337 S (l.getD 0 0) (l.getD 1 0) z Z, fun S l z Z => s338 S (l.getD 0 0) (l.getD 1 0) z Z, fun S l z Z => s339 S (l.getD 0 0) (l.getD 1 0) z Z],
  [fun S l z Z => s340 S (l.getD 0 0) z Z, fun S l z Z => s341 S (l.getD 0 0) z Z, fun S l z Z => s342 S z Z, fun S l z Z => s343 S (l.getD 0 0) z Z, fun S l z Z => s344 S (l.getD 0 0) z Z, fun S l z Z => s345 S (l.getD 0 0) z Z, fun S l z Z => s346 S (l.getD 0 0) (l.getD 1 0) z Z, fun S l z Z => s347 S (l.getD 0 0) (l.getD 1 0) z Z, fun S l z Z => s348 S (l.getD 0 0) z Z, fun S l z Z => s349 S (l.getD 0 0) z Z, fun S l z Z => s350 S (l.getD 0 0) (l.getD 1 0) (l.getD 2 0) z Z, fun S l z Z => s351 S (l.getD 0 0) (l.getD 1 0) z Z, fun S l z Z => s352 S (l.getD 0 0) z Z, fun S l z Z => s353 S (l.getD 0 0) z Z, fun S l z Z => s354 S (l.getD 0 0) z Z, fun S l z Z => s355 S (l.getD 0 0) (l.getD 1 0) (l.getD 2 0) (l.getD 3 0) (l.getD 4 0) z Z, fun S l z Z => s356 S (l.getD 0 0) (l.getD 1 0) (l.getD 2 0) z Z, fun S l z Z => s357 S z Z, fun S l z Z => s358 S (l.getD 0 0) (l.getD 1 0) z Z, fun S l z Z => s359 S (l.getD 0 0) (l.getD 1 0) (l.getD 2 0) (l.getD 3 0) (l.getD 4 0) z Z],
  [fun S l z Z => s360 S (l.getD 0 0) (l.getD 1 0) (l.getD 2 0) (l.getD 3 0) (l.getD 4 0) (l.getD 5 0) (l.getD 6 0) z Z, fun S l z Z => s361 S (l.getD 0 0) (l.getD 1 0) (l.getD 2 0) z Z, fun S l z Z => s362 S (l.getD 0 0) (l.getD 1 0) (l.getD 2 0) z Z, fun S l z Z => s363 S (l.getD 0 0) (l.getD 1 0) (l.getD 2 0) z Z, fun S l z Z => s364 S (l.getD 0 0) (l.getD 1 0) (l.getD 2 0) z Z, fun S l z Z => s365 S (l.getD 0 0) (l.getD 1 0) (l.getD 2 0) z Z, fun S l z Z => s366 S (l.getD 0 0) (l.getD 1 0) (l.getD 2 0) z Z, fun S l z Z => s367 S (l.getD 0 0) z Z, fun S l z Z => s368 S (l.getD 0 0) (l.getD 1 0) (l.getD 2 0) z Z, fun S l z Z => s369 S (l.getD 0 0) (l.getD 1 0) (l.getD 2 0) (l.getD 3 0) z Z, fun S l z Z => s370 S (l.getD 0 0) (l.getD 1 0) (l.getD 2 0) z Z, fun S l z Z => s371 S (l.getD 0 0) (l.getD 1 0) z Z, fun S l z Z => s372 S (l.getD 0 0) (l.getD 1 0) z Z, fun S l z Z => s373 S (l.getD 0 0) z Z, fun S l z Z => s374 S (l.getD 0 0) (l.getD 1 0) z Z, fun S l z Z => s375 S (l.getD 0 0) z Z, fun S l z Z => s376 S (l.getD 0 0) z Z, fun S l z Z => s377 S z Z, fun S l z Z => s378 S (l.getD 0 0) (l.getD 1 0) (l.getD 2 0) z Z, fun S l z Z => s379 S (l.getD 0 0) (l.getD 1 0) z Z],
  [fun S l z Z => s380 S (l.getD 0 0) (l.getD 1 0) (l.getD 2 0) (l.getD 3 0) (l.getD 4 0) (l.getD 5 0) z Z, fun S l z Z => s381 S (l.getD 0 0) (l.getD 1 0) (l.getD 2 0) z Z, fun S l z Z => s382 S (l.getD 0 0) (l.getD 1 0) z Z, fun S l z Z => s383 S (l.getD 0 0) (l.getD 1 0) z Z, fun S l z Z => s384 S (l.getD 0 0) (l.getD 1 0) (l.getD 2 0) (l.getD 3 0) z Z, fun S l z Z => s385 S (l.getD 0 0) (l.getD 1 0) (l.getD 2 0) z Z, fun S l z Z => s386 S (l.getD 0 0) (l.getD 1 0) z Z, fun S l z Z => s387 S (l.getD 0 0) z Z, fun S l z Z => s388 S z Z, fun S l z Z => s389 S (l.getD 0 0) (l.getD 1 0) z Z, fun S l z Z => s390 S (l.getD 0 0) (l.getD 1 0) z Z, fun S l z Z => s391 S (l.getD 0 0) (l.getD 1 0) z Z, fun S l z Z => s392 S (l.getD 0 0) (l.getD 1 0) z Z, fun S l z Z => s393 S (l.getD 0 0) z Z, fun S l z Z => s394 S (l.getD 0 0) (l.getD 1 0) (l.getD 2 0) (l.getD 3 0) (l.getD 4 0) z Z, fun S l z Z => s395 S (l.getD 0 0) (l.getD 1 0) (l.getD 2 0) z Z, fun S l z Z => s396 S (l.getD 0 0) (l.getD 1 0) (l.getD 2 0) z Z, fun S l z Z => s397 S (l.getD 0 0) (l.getD 1 0) (l.getD 2 0) (l.getD 3 0) z Z, fun S l z Z => s398 S (l.getD 0 0) z Z, fun S l z Z => s399 S (l.getD 0 0) (l.getD 1 0) z Z],
  [fun S l z Z => s400 S (l.getD 0 0) z Z, fun S l z Z => s401 S (l.getD 0 0) (l.getD 1 0) z Z, fun S l z Z => s402 S (l.getD 0 0) (l.getD 1 0) z Z, fun S l z Z => s403 S (l.getD 0 0) (l.getD 1 0) (l.getD 2 0) (l.getD 3 0) (l.getD 4 0) z Z, fun S l z Z => s404 S z Z, fun S l z Z => s405 S (l.getD 0 0) (l.getD 1 0) (l.getD 2 0) (l.getD 3 0) (l.getD 4 0) z Z, fun S l z Z => s406 S z Z, fun S l z Z => s407 S z Z, fun S l z Z => s408 S (l.getD 0 0) (l.getD 1 0) z Z, fun S l z Z => s409 S (l.getD 0 0) (l.getD 1 0) (l.getD 2 0) z Z, fun S l z Z => s410 S (l.getD 0 0) (l.getD 1 0) z Z, fun S l z Z => s411 S (l.getD 0 0) (l.getD 1 0) (l.getD 2 0) (l.getD 3 0) (l.getD 4 0) z Z, fun S l z Z => s412 S (l.getD 0 0) (l.getD 1 0) (l.getD 2 0) (l.getD 3 0) z Z, fun S l z Z => s413 S (l.getD 0 0) (l.getD 1 0) (l.getD 2 0) (l.getD 3 0) z Z, fun S l z Z => s414 S (l.getD 0 0) (l.getD 1 0) (l.getD 2 0) z Z, fun S l z Z => s415 S (l.getD 0 0) (l.getD 1 0) (l.getD 2 0) z Z]]
def fx_sp (k : Nat) : fx_S → List Int → Int → fx_S → Prop := (fx_spl.getD (k / 20) []).getD (k % 20) (fun _ _ _ _ => True)
def fx_rt (k : Nat) : Nat := match fx_T[k]? with
  | some t => t.2.2.2
  | none => 0
def fx_Mx (X : (Int → Int) × Int) : fx_M := (X, fx_sp, fx_rt)
