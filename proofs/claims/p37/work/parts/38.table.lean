/-! THE CHECKER IS SOUND: tables, rows, what an element may be -/
theorem ck_T_bd (t i : Nat) : (-2147483648 ≤ (ck_T t i).1 ∧ (ck_T t i).1 ≤ 0) ∧ (0 ≤ (ck_T t i).2 ∧ (ck_T t i).2 ≤ 2147483647) := by
  have hf : ∀ k, (-2147483648 ≤ (ck_Tf k).1 ∧ (ck_Tf k).1 ≤ 0) ∧ (0 ≤ (ck_Tf k).2 ∧ (ck_Tf k).2 ≤ 2147483647) := by
    intro k
    unfold ck_Tf
    repeat' split
    all_goals decide
  have hp : ∀ k, (-2147483648 ≤ (ck_Tp k).1 ∧ (ck_Tp k).1 ≤ 0) ∧ (0 ≤ (ck_Tp k).2 ∧ (ck_Tp k).2 ≤ 2147483647) := by
    intro k
    unfold ck_Tp
    repeat' split
    all_goals decide
  have he : ∀ k, (-2147483648 ≤ (ck_Te k).1 ∧ (ck_Te k).1 ≤ 0) ∧ (0 ≤ (ck_Te k).2 ∧ (ck_Te k).2 ≤ 2147483647) := by
    intro k
    unfold ck_Te ck_any
    repeat' split
    all_goals decide
  have h0 : ∀ k, (-2147483648 ≤ (ck_T0 k).1 ∧ (ck_T0 k).1 ≤ 0) ∧ (0 ≤ (ck_T0 k).2 ∧ (ck_T0 k).2 ≤ 2147483647) := by
    intro k
    unfold ck_T0 ck_any
    repeat' split
    all_goals decide
  have hv : ∀ k, (-2147483648 ≤ (ck_Tv k).1 ∧ (ck_Tv k).1 ≤ 0) ∧ (0 ≤ (ck_Tv k).2 ∧ (ck_Tv k).2 ≤ 2147483647) := by
    intro k
    unfold ck_Tv
    repeat' split
    all_goals decide
  have hm : ∀ k, (-2147483648 ≤ (ck_Tm k).1 ∧ (ck_Tm k).1 ≤ 0) ∧ (0 ≤ (ck_Tm k).2 ∧ (ck_Tm k).2 ≤ 2147483647) := by
    intro k
    unfold ck_Tm
    repeat' split
    all_goals decide
  have hh : ∀ k, (-2147483648 ≤ (ck_Th k).1 ∧ (ck_Th k).1 ≤ 0) ∧ (0 ≤ (ck_Th k).2 ∧ (ck_Th k).2 ≤ 2147483647) := by
    intro k
    unfold ck_Th
    repeat' split
    all_goals decide
  have hw : ∀ k, (-2147483648 ≤ (ck_Tw k).1 ∧ (ck_Tw k).1 ≤ 0) ∧ (0 ≤ (ck_Tw k).2 ∧ (ck_Tw k).2 ≤ 2147483647) := by
    intro k
    unfold ck_Tw
    repeat' split
    · exact h0 _
    · exact hv _
    · exact hm _
    · exact hp _
    · exact hf _
    · exact he _
    · exact hh _
    · unfold ck_any; decide
  unfold ck_T
  split
  · exact hw _
  · exact hw _
  · exact hf _
theorem ck_iv_at {iv : ck_IV} {ρ : List Int} (h : ck_ok iv ρ) {r : Nat} {b : Int × Int} (e : iv[r]? = some b) : ∃ j : Nat, j < (b.2 - b.1 + 1).toNat ∧ ρ.getD r 0 = b.1 + (j : Int) := by
  have := h r b e
  exact ⟨(ρ.getD r 0 - b.1).toNat, by omega, by omega⟩
theorem ck_all_ok {iv : ck_IV} {ρ : List Int} (h : ck_ok iv ρ) {g : Int → Bool} : ∀ {t : List (Nat × Int)} {c : Int}, ck_all iv t c g = true → g (ck_tv ρ t + c) = true
  | [], c, e => by
    unfold ck_all at e
    unfold ck_tv
    rw [Int.zero_add]
    exact e
  | q :: l, c, e => by
    unfold ck_all at e
    split at e
    · next b hb =>
      obtain ⟨j, j1, j2⟩ := ck_iv_at h hb
      have := ck_all_ok h (List.all_eq_true.mp e j (List.mem_range.mpr j1))
      unfold ck_tv
      rw [j2, show q.2 * (b.1 + (j : Int)) + ck_tv ρ l + c = ck_tv ρ l + (c + q.2 * (b.1 + (j : Int))) by omega]
      exact this
    · cases e
/-- every root has an interval -/
def ck_has (iv : ck_IV) (t : List (Nat × Int)) : Prop := ∀ q ∈ t, ∃ b, iv[q.1]? = some b
theorem ck_vals_mem {iv : ck_IV} {ρ : List Int} (h : ck_ok iv ρ) : ∀ {t : List (Nat × Int)}, ck_has iv t → ∀ c : Int, ck_tv ρ t + c ∈ ck_vals iv t c
  | [], _, c => by
    unfold ck_vals ck_tv
    rw [Int.zero_add]
    exact List.mem_cons_self
  | q :: l, hh, c => by
    obtain ⟨b, hb⟩ := hh q List.mem_cons_self
    obtain ⟨j, j1, j2⟩ := ck_iv_at h hb
    unfold ck_vals
    simp only [hb]
    refine List.mem_flatMap.mpr ⟨j, List.mem_range.mpr j1, ?_⟩
    have := ck_vals_mem h (fun p hp => hh p (List.mem_cons_of_mem _ hp)) (c + q.2 * (b.1 + (j : Int)))
    rw [show ck_tv ρ (q :: l) + c = ck_tv ρ l + (c + q.2 * (b.1 + (j : Int))) by
      show q.2 * ρ.getD q.1 0 + ck_tv ρ l + c = _
      rw [j2]
      omega]
    exact this
theorem ck_mml_ok {f : Int → Int × Int} : ∀ (l : List Int) (lo hi : Int), (ck_mml f l lo hi).1 ≤ lo ∧ hi ≤ (ck_mml f l lo hi).2 ∧ ∀ x ∈ l, (ck_mml f l lo hi).1 ≤ (f x).1 ∧ (f x).2 ≤ (ck_mml f l lo hi).2
  | [], lo, hi => ⟨Int.le_refl _, Int.le_refl _, fun x hx => absurd hx List.not_mem_nil⟩
  | y :: l, lo, hi => by
    have key : ∀ lo' hi' : Int, lo' ≤ lo → lo' ≤ (f y).1 → hi ≤ hi' → (f y).2 ≤ hi' → (ck_mml f l lo' hi').1 ≤ lo ∧ hi ≤ (ck_mml f l lo' hi').2 ∧ ∀ x ∈ y :: l, (ck_mml f l lo' hi').1 ≤ (f x).1 ∧ (f x).2 ≤ (ck_mml f l lo' hi').2 := by
      intro lo' hi' a1 a2 a3 a4
      obtain ⟨b1, b2, b3⟩ := ck_mml_ok l lo' hi'
      refine ⟨Int.le_trans b1 a1, Int.le_trans a3 b2, fun x hx => ?_⟩
      rcases List.mem_cons.mp hx with rfl | hx
      · exact ⟨Int.le_trans b1 a2, Int.le_trans a4 b2⟩
      · exact b3 x hx
    unfold ck_mml
    split
    · split
      · exact key lo hi (Int.le_refl _) (by assumption) (Int.le_refl _) (by assumption)
      · exact key lo (f y).2 (Int.le_refl _) (by assumption) (by omega) (Int.le_refl _)
    · split
      · exact key (f y).1 hi (by omega) (Int.le_refl _) (Int.le_refl _) (by assumption)
      · exact key (f y).1 (f y).2 (by omega) (Int.le_refl _) (by omega) (Int.le_refl _)
theorem ck_mm_ok {iv : ck_IV} {ρ : List Int} (h : ck_ok iv ρ) {f : Int → Int × Int} {t : List (Nat × Int)} (ht : ck_has iv t) (c : Int) (a : Int × Int) : (ck_mm iv f t c a).1 ≤ (f (ck_tv ρ t + c)).1 ∧ (f (ck_tv ρ t + c)).2 ≤ (ck_mm iv f t c a).2 := (ck_mml_ok _ _ _).2.2 _ (ck_vals_mem h ht c)
theorem ck_dv_ok {k : Int} {a b : ck_A} (e : ck_dv k a = some b) (ρ : List Int) : ck_ev ρ a = k * ck_ev ρ b := by
  unfold ck_dv at e
  split at e
  · next hc =>
    simp only [Bool.and_eq_true, beq_iff_eq] at hc
    cases e
    have e1 : ∀ t : List (Nat × Int), (t.all fun q => q.2 % k == 0) = true → ck_tv ρ t = k * ck_tv ρ (t.map fun q => (q.1, q.2 / k)) := by
      intro t
      induction t with
      | nil => intro _; show (0 : Int) = k * 0; omega
      | cons q l ih =>
        intro ha
        simp only [List.all_cons, Bool.and_eq_true, beq_iff_eq] at ha
        show q.2 * ρ.getD q.1 0 + ck_tv ρ l = k * (q.2 / k * ρ.getD q.1 0 + ck_tv ρ (l.map fun q => (q.1, q.2 / k)))
        rw [Int.mul_add, ← Int.mul_assoc, Int.mul_ediv_cancel_of_emod_eq_zero ha.1, ih ha.2]
    have e2 := e1 a.1 hc.1
    have e3 : k * (a.2 / k) = a.2 := Int.mul_ediv_cancel_of_emod_eq_zero hc.2
    show ck_tv ρ a.1 + a.2 = k * (ck_tv ρ (a.1.map fun q => (q.1, q.2 / k)) + a.2 / k)
    rw [Int.mul_add, e3, e2]
  · cases e
section CKT
variable {E : cz_E} {Γ : ck_G} {B : Int} {ρ : List Int} {n : ck_N} {es : List ck_Q} {h : cz_H}
theorem ck_bd {v : ck_V} {z : Int32} (hn : ck_nok n ρ) (hv : ck_D E Γ ρ v (.int z)) (t : v.1 = 0) : ck_lw n v.2.2.2.1 ≤ z.toInt ∧ z.toInt ≤ ck_hi n v.2.2.2.1 := by
  obtain ⟨z', e1, e2⟩ := ck_D_i hv t
  have e1 : z = z' := by injection e1
  subst e1
  have r := ck_range z
  rw [e2] at r ⊢
  exact ⟨ck_lw_ok hn r.1, ck_hi_ok hn r.2⟩
theorem ck_row_ok {r K p m tc len i : Nat} {ix : ck_A} {f : Nat → Int32} {b : Int × Int} (hn : ck_nok n (ρ ++ [])) (hm : ck_Ms E Γ h ρ es) (hp : (p : Int) = (ρ ++ []).getD r 0) (hg : Γ[p]? = some (K, m)) (ha : h[p]? = some (.inl (tc, len, .inl f))) (hi : (i : Int) = ck_ev (ρ ++ []) ix) (hr : ck_rows f 0) (e : ck_row n es r K ix = some b) : b.1 ≤ (f i).toInt ∧ (f i).toInt ≤ b.2 := by
  unfold ck_row at e
  split at e
  · next x hx =>
    split at e
    · next hc =>
      obtain ⟨c1, c2, c3⟩ := hc
      obtain ⟨a, ha1⟩ := ck_f1_mem hx
      obtain ⟨p1, m1, tc1, len1, y1, i1, d1, d2, d3, d4, d5, d6⟩ := hm _ ha1 []
      have d1 : (p1 : Int) = (ρ ++ []).getD r 0 := d1
      have d4 : (i1 : Int) = ck_ev (ρ ++ []) (ck_sub ix (ck_c 1)) := d4
      have : p1 = p := by omega
      subst this
      cases ha.symm.trans d3
      rw [ck_sub_ev, ck_ev_c] at d4
      have hb : ck_lw n x.2.2.2.1 ≤ (f i1).toInt ∧ (f i1).toInt ≤ ck_hi n x.2.2.2.1 := ck_bd hn d6 c1
      obtain ⟨q, hq, hqc⟩ := List.any_eq_true.mp c3
      simp only [Bool.and_eq_true, beq_iff_eq] at hqc
      obtain ⟨⟨⟨⟨q1, q2⟩, q3⟩, q4⟩, q5⟩ := hqc
      split at q5
      · next S L hS hL =>
        simp only [Bool.and_eq_true] at q5
        obtain ⟨⟨s1, s2⟩, s3⟩ := q5
        have s1 := ck_btw_ok hn s1
        have s2 := ck_btw_ok hn s2
        have s3 := ck_le_ok hn s3
        have g1 := ck_dv_ok hS (ρ ++ [])
        have g2 := ck_dv_ok hL (ρ ++ [])
        rw [ck_sub_ev, ck_ev_c] at g1
        rw [ck_sub_ev, ck_sub_ev, ck_ev_c] at g2
        rw [ck_sub_ev, ck_add_ev, ck_ev_c] at s3
        have hM := hm q hq []
        unfold ck_M at hM
        rw [q1] at hM
        obtain ⟨p2, m2, tc2, len2, y2, j, f1, f2, f3, f4, f5, f6⟩ := hM
        rw [q2] at f1
        have : p2 = p1 := by omega
        subst this
        cases ha.symm.trans f3
        obtain ⟨z, k1, k2⟩ := ck_D_i f6 q4
        have k1 : f j = z := by injection k1
        subst k1
        have hj : j = 0 + 1103 + 260 * (ck_ev (ρ ++ []) S).toNat := by omega
        have hi1 : i1 = 0 + 1104 + 260 * (ck_ev (ρ ++ []) S).toNat + 16 * (ck_ev (ρ ++ []) L).toNat := by omega
        have hi2 : i = 0 + 1105 + 260 * (ck_ev (ρ ++ []) S).toNat + 16 * (ck_ev (ρ ++ []) L).toNat := by omega
        have hpair := hr (ck_ev (ρ ++ []) S).toNat (ck_ev (ρ ++ []) L).toNat (by omega) (by omega) (by rw [← hj, k2]; omega)
        rw [← hi1, ← hi2] at hpair
        rcases c2 with ⟨c4, c5⟩ | ⟨c4, c5⟩
        · rw [if_pos c4] at e
          cases e
          exact hpair.1 (by omega)
        · rw [if_neg (by omega)] at e
          cases e
          exact hpair.2 (by omega)
      · cases q5
    · cases e
  · cases e
theorem ck_has_one {iv : ck_IV} {a : ck_A} (h : ck_one iv a = true) : ck_has iv a.1 := by
  intro q hq
  have := List.all_eq_true.mp (Bool.and_eq_true_iff.mp h).1 q hq
  exact Option.isSome_iff_exists.mp this
theorem ck_esp_ok {r K p m i : Nat} {k : Nat × Nat × Nat × ck_S} {ix : ck_A} {y : (Nat → Int32) ⊕ (Nat → Int64) ⊕ (Nat → UInt32) ⊕ (Nat → UInt64) ⊕ (Nat → Option Nat)} (hn : ck_nok n (ρ ++ [])) (hm : ck_Ms E Γ h ρ es) (hp : (p : Int) = (ρ ++ []).getD r 0) (hg : Γ[p]? = some (K, m)) (ha : h[p]? = some (.inl (k.1, k.2.1, y))) (hi : (i : Int) = ck_ev (ρ ++ []) ix) (hrw : ck_rw k.2.2.1 y) (hv : ck_vs E B Γ (ck_es k.2.2.1 k.2.2.2 i) (ck_el y i)) : ck_vs E B Γ (ck_esp n es r K k ix) (ck_el y i) := by
  unfold ck_esp
  by_cases h0 : k.2.2.1 = 0
  · rw [if_pos h0]
    unfold ck_es at hv
    rw [if_pos h0] at hv
    exact hv
  · rw [if_neg h0]
    unfold ck_es at hv
    rw [if_neg h0] at hv
    obtain ⟨z, e1, e2, e3⟩ := hv
    have e2 : (ck_T k.2.2.1 i).1 ≤ z.toInt := e2
    have e3 : z.toInt ≤ (ck_T k.2.2.1 i).2 := e3
    split
    · next b hb =>
      split at hb
      · next h1 =>
        cases y with
        | inl f =>
          have := ck_row_ok hn hm hp hg ha hi (hrw.1 h1) hb
          exact ⟨f i, rfl, this.1, this.2⟩
        | inr y' =>
          rw [e1]
          exfalso
          cases y' with
          | inl g => cases e1
          | inr y2 => rcases y2 with g | g | g
                      · cases e1
                      · cases e1
                      · unfold ck_el va_rf at e1
                        simp only at e1
                        split at e1 <;> cases e1
      · cases hb
    · split
      · next ho =>
        have := ck_mm_ok (f := ck_TI k.2.2.1) hn.1 (ck_has_one ho) ix.2 (2147483647, -2147483648)
        have hti : ck_TI k.2.2.1 (ck_tv (ρ ++ []) ix.1 + ix.2) = ck_T k.2.2.1 i := by
          unfold ck_TI
          congr 1
          have : (i : Int) = ck_tv (ρ ++ []) ix.1 + ix.2 := hi
          omega
        rw [hti] at this
        exact ⟨z, e1, Int.le_trans this.1 e2, Int.le_trans e3 this.2⟩
      · have := ck_range z
        exact ⟨z, e1, this.1, this.2⟩
end CKT
