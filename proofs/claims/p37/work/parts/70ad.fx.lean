/-! FX: images; both sides between two calls -/
/-- images on both sides -/
def fx_IM (S : fx_S) : Prop := (∀ k : Int, 0 ≤ k → k < 3 → (S.1 69 k = 0 ∧ S.2.1 49 k = -1) ∨ (S.1 69 k ≠ 0 ∧ 91 ≤ S.2.1 49 k ∧ S.2.1 49 k + 48 ≤ S.2.2 ∧ fx_RR S.1 (S.2.1 49 k) (fun i => S.1 68 (8090 * k + i)))) ∧ ∀ k l : Int, 0 ≤ k → k < 3 → 0 ≤ l → l < 3 → ¬ k = l → S.2.1 49 k = -1 ∨ S.2.1 49 l = -1 ∨ S.2.1 49 k + 48 ≤ S.2.1 49 l ∨ S.2.1 49 l + 48 ≤ S.2.1 49 k
/-- what isn't told, on both sides -/
def fx_RN (F : Int → Int → Int) : Prop := fx_Rs F ∧ fx_Rl F ∧ fx_Rx F
theorem fx_RN_eq {F G : Int → Int → Int} (h : fx_RN F) (e : ∀ p i : Int, (53 ≤ p ∧ p ≤ 55) ∨ (87 ≤ p ∧ p ≤ 89) ∨ p = 61 ∨ p = 81 ∨ (p = 66 ∧ i = 25) ∨ p = 64 ∨ p = 65 ∨ p = 83 ∨ p = 84 ∨ (p = 0 ∧ i = 10) ∨ (p = 66 ∧ i = 30) → G p i = F p i) : fx_RN G := ⟨fx_Rs_eq h.1 (fun p i hp => e p i (by omega)), fx_Rl_eq h.2.1 (fun p i hp => e p i (by omega)), fx_Rx_eq h.2.2 (fun p i hp => e p i (by omega))⟩
/-- the class and the reference between two calls -/
def fx_RI (S : fx_S) : Prop := fx_WB S ∧ 91 ≤ S.2.2 ∧ fx_RN S.1 ∧ fx_RR S.1 1 (S.1 67) ∧ fx_IM S
theorem fx_iW {S : fx_S} (h : fx_RI S) : fx_WB S := h.1
theorem fx_iN {S : fx_S} (h : fx_RI S) : 91 ≤ S.2.2 := h.2.1
theorem fx_iS {S : fx_S} (h : fx_RI S) : fx_Rs S.1 := h.2.2.1.1
theorem fx_iL {S : fx_S} (h : fx_RI S) : fx_Rl S.1 := h.2.2.1.2.1
theorem fx_iX {S : fx_S} (h : fx_RI S) : fx_Rx S.1 := h.2.2.1.2.2
theorem fx_iR {S : fx_S} (h : fx_RI S) : fx_RR S.1 1 (S.1 67) := h.2.2.2.1
theorem fx_iI {S : fx_S} (h : fx_RI S) : fx_IM S := h.2.2.2.2
theorem fx_iRd {S : fx_S} (h : fx_RI S) : fx_Rd S.1 1 (S.1 67) := (fx_iR h).1
theorem fx_iRv {S : fx_S} (h : fx_RI S) : fx_Rv S.1 1 (S.1 67) := (fx_iR h).2.1
theorem fx_iRm {S : fx_S} (h : fx_RI S) : fx_Rm S.1 1 (S.1 67) := (fx_iR h).2.2.1
theorem fx_iRp {S : fx_S} (h : fx_RI S) : fx_Rp S.1 1 (S.1 67) := (fx_iR h).2.2.2.1
theorem fx_iRh {S : fx_S} (h : fx_RI S) : fx_Rh S.1 1 (S.1 67) := (fx_iR h).2.2.2.2.1
theorem fx_iRo {S : fx_S} (h : fx_RI S) : ∀ q : Int, 0 ≤ q → q < S.1 67 5 → 0 ≤ S.1 67 (7100 + 4 * q) ∧ S.1 67 (7100 + 4 * q) ≤ 9 := (fx_iRh h).2.2.2.2.2
theorem fx_iRe {S : fx_S} (h : fx_RI S) : fx_Re S.1 1 (S.1 67) := (fx_iR h).2.2.2.2.2
theorem fx_RI_step {S Z : fx_S} (h : fx_RI S) (b : fx_WB Z) (er : ∀ k : Int, Z.2.1 49 k = S.2.1 49 k) (en : S.2.2 ≤ Z.2.2) (ei : ∀ p i : Int, 91 ≤ p → p < S.2.2 → Z.1 p i = S.1 p i) (e8 : ∀ i : Int, Z.1 68 i = S.1 68 i) (e9 : ∀ i : Int, Z.1 69 i = S.1 69 i) (s : fx_RN Z.1) (r : fx_RR Z.1 1 (Z.1 67)) : fx_RI Z := by
  obtain ⟨hb, hn, hs, hr, hi, hd⟩ := h
  refine ⟨b, by omega, s, r, fun k k0 k1 => ?_, fun k l k0 k1 l0 l1 kl => ?_⟩
  · rw [er, e9]
    rcases hi k k0 k1 with q | ⟨q1, q2, q3, q4⟩
    · exact .inl q
    · exact .inr ⟨q1, q2, by omega, fx_RR_eq (hb.2 k k0 k1 q1) q4 (fun j i t => ei _ _ (by unfold fx_tb at t; omega) (by unfold fx_tb at t; omega)) (fun i _ _ => e8 _)⟩
  · rw [er, er]
    exact hd k l k0 k1 l0 l1 kl
/-- what keep did on both sides -/
theorem fx_RI_keep {S A Z : fx_S} {x v : Int} (h : fx_RI S) (x0 : 0 ≤ x) (x1 : x < 3) (hv : (S.2.1 49 x = -1 ∧ v = S.2.2 ∧ A.2.2 = S.2.2 + 48) ∨ (¬ S.2.1 49 x = -1 ∧ v = S.2.1 49 x ∧ A.2.2 = S.2.2)) (ar : ∀ k : Int, A.2.1 49 k = if k = x then v else S.2.1 49 k) (af : ∀ p i : Int, ¬ (v ≤ p ∧ p < v + 48) → A.1 p i = S.1 p i) (ac : ∀ j i : Int, fx_tb j i → A.1 (v + j) i = S.1 (1 + j) i) (zr : Z.2 = A.2) (zf : ∀ p i : Int, ¬ (p = 68 ∨ p = 69) → Z.1 p i = A.1 p i) (z9 : ∀ k : Int, Z.1 69 k = if k = x then 1 else A.1 69 k) (z8 : ∀ i : Int, Z.1 68 i = if 8090 * x ≤ i ∧ i < 8090 * x + 8090 then A.1 67 (i - 8090 * x) else A.1 68 i) : fx_RI Z := by
  obtain ⟨hb, hn, hs, hr, hi, hd⟩ := h
  have v0 : 91 ≤ v := by
    rcases hv with q | q
    · omega
    · rcases hi x x0 x1 with u | u
      · omega
      · omega
  have vn : v + 48 ≤ A.2.2 ∧ S.2.2 ≤ A.2.2 := by
    rcases hv with q | q
    · omega
    · rcases hi x x0 x1 with u | u
      · omega
      · omega
  have e7 : ∀ i, Z.1 67 i = S.1 67 i := fun i => (zf 67 i (by omega)).trans (af 67 i (by omega))
  have e9 : ∀ k : Int, ¬ k = x → Z.1 69 k = S.1 69 k := fun k hk => by rw [z9, if_neg hk, af 69 k (by omega)]
  have e9x : ¬ Z.1 69 x = 0 := by rw [z9, if_pos rfl]; omega
  have e8x : ∀ i : Int, 0 ≤ i → i < 8090 → Z.1 68 (8090 * x + i) = S.1 67 i := fun i i0 i1 => by rw [z8, if_pos (by omega), show 8090 * x + i - 8090 * x = i by omega, af 67 i (by omega)]
  have e8 : ∀ k i : Int, ¬ k = x → 0 ≤ i → i < 8090 → Z.1 68 (8090 * k + i) = S.1 68 (8090 * k + i) := fun k i hk i0 i1 => by rw [z8, if_neg (by omega), af 68 _ (by omega)]
  have er : ∀ k : Int, Z.2.1 49 k = if k = x then v else S.2.1 49 k := fun k => by rw [zr, ar]
  have hap : ∀ k : Int, 0 ≤ k → k < 3 → ¬ k = x → S.2.1 49 k = -1 ∨ (91 ≤ S.2.1 49 k ∧ S.2.1 49 k + 48 ≤ S.2.2 ∧ (S.2.1 49 k + 48 ≤ v ∨ v + 48 ≤ S.2.1 49 k)) := fun k k0 k1 kx => by
    rcases hi k k0 k1 with u | u
    · exact .inl u.2
    · rcases hv with q | q
      · exact .inr ⟨u.2.1, u.2.2.1, by omega⟩
      · have := hd k x k0 k1 x0 x1 kx
        exact .inr ⟨u.2.1, u.2.2.1, by omega⟩
  refine ⟨⟨fx_WBf_eq hb.1 (fun i _ _ => e7 i), fun k k0 k1 k2 => ?_⟩, by rw [zr]; omega, fx_RN_eq hs (fun p i hp => (zf _ _ (by omega)).trans (af _ _ (by omega))), fx_RR_eq hb.1 hr (fun j i t => ?_) (fun i _ _ => e7 i), fun k k0 k1 => ?_, fun k l k0 k1 l0 l1 kl => ?_⟩
  · by_cases hk : k = x
    · subst hk
      exact fx_WBf_eq hb.1 (fun i i0 i1 => e8x i i0 i1)
    · rw [e9 k hk] at k2
      exact fx_WBf_eq (hb.2 k k0 k1 k2) (fun i i0 i1 => e8 k i hk i0 i1)
  · unfold fx_tb at t
    rw [zf _ _ (by omega), af _ _ (by omega)]
  · by_cases hk : k = x
    · subst hk
      refine .inr ⟨e9x, ?_, ?_, ?_⟩
      · rw [er, if_pos rfl]; exact v0
      · rw [er, if_pos rfl, zr]; exact vn.1
      · rw [er, if_pos rfl]
        exact fx_RR_eq hb.1 hr (fun j i t => by rw [zf _ _ (by unfold fx_tb at t; omega), ac j i t]) (fun i i0 i1 => e8x i i0 i1)
    · rw [er, if_neg hk, e9 k hk]
      rcases hi k k0 k1 with q | ⟨q1, q2, q3, q4⟩
      · exact .inl q
      · refine .inr ⟨q1, q2, by rw [zr]; omega, fx_RR_eq (hb.2 k k0 k1 q1) q4 (fun j i t => ?_) (fun i i0 i1 => e8 k i hk i0 i1)⟩
        have := hap k k0 k1 hk
        unfold fx_tb at t
        rw [zf _ _ (by omega), af _ _ (by omega)]
  · rw [er, er]
    by_cases hk : k = x
    · rw [if_pos hk, if_neg (by omega)]
      have := hap l l0 l1 (by omega)
      omega
    · rw [if_neg hk]
      by_cases hl : l = x
      · rw [if_pos hl]
        have := hap k k0 k1 hk
        omega
      · rw [if_neg hl]
        exact hd k l k0 k1 l0 l1 kl
/-- what back did on both sides -/
theorem fx_RI_back {S A Z : fx_S} {x : Int} (h : fx_RI S) (x0 : 0 ≤ x) (x1 : x < 3) (hx : ¬ S.1 69 x = 0) (ar : ∀ k : Int, A.2.1 49 k = S.2.1 49 k) (an : A.2.2 = S.2.2) (af : ∀ p i : Int, ¬ (1 ≤ p ∧ p < 49) → A.1 p i = S.1 p i) (ac : ∀ j i : Int, fx_tb j i → A.1 (1 + j) i = S.1 (S.2.1 49 x + j) i) (zr : Z.2 = A.2) (zf : ∀ p i : Int, ¬ (p = 67) → Z.1 p i = A.1 p i) (z7 : ∀ i : Int, Z.1 67 i = if 0 ≤ i ∧ i < 8090 then A.1 68 (8090 * x + i) else A.1 67 i) : fx_RI Z := by
  obtain ⟨hb, hn, hs, hr, hi, hd⟩ := h
  obtain ⟨q1, q2, q3, q4⟩ := (hi x x0 x1).resolve_left (fun q => hx q.1)
  have e8 : ∀ i, Z.1 68 i = S.1 68 i := fun i => (zf _ _ (by omega)).trans (af _ _ (by omega))
  have e9 : ∀ i, Z.1 69 i = S.1 69 i := fun i => (zf _ _ (by omega)).trans (af _ _ (by omega))
  have e7 : ∀ i : Int, 0 ≤ i → i < 8090 → Z.1 67 i = S.1 68 (8090 * x + i) := fun i i0 i1 => by rw [z7, if_pos ⟨i0, i1⟩, af _ _ (by omega)]
  have b := hb.2 x x0 x1 hx
  have B : fx_WB Z := ⟨fx_WBf_eq b (fun i i0 i1 => e7 i i0 i1), fun k k0 k1 k2 => by
    rw [e9] at k2
    exact fx_WBf_eq (hb.2 k k0 k1 k2) (fun i _ _ => e8 _)⟩
  refine fx_RI_step ⟨hb, hn, hs, hr, hi, hd⟩ B (fun k => by rw [zr, ar]) (by rw [zr, an]; omega) (fun p i p0 p1 => (zf _ _ (by omega)).trans (af _ _ (by omega))) e8 e9 (fx_RN_eq hs (fun p i hp => (zf _ _ (by omega)).trans (af _ _ (by omega)))) (fx_RR_eq b q4 (fun j i t => ?_) (fun i i0 i1 => e7 i i0 i1))
  rw [zf _ _ (by unfold fx_tb at t; omega), ac j i t]
theorem fx_bq0 (x y : Int) : fx_b 0 x y = fx_add x y := rfl
theorem fx_bq1 (x y : Int) : fx_b 1 x y = fx_sub x y := rfl
theorem fx_bq2 (x y : Int) : fx_b 2 x y = fx_mul x y := rfl
theorem fx_bq3 (x y : Int) : fx_b 3 x y = fx_div x y := rfl
theorem fx_bq5 (x y : Int) : fx_b 5 x y = fx_and x y := rfl
theorem fx_bq19 (x y : Int) : fx_b 19 x y = fx_lcm x y := rfl
