/-! FX: a new statute, images, and what both sides share -/
theorem fx_WBf_st {w t g : Int → Int} (h : fx_WBf w) (h3 : w 3 < 10) (hc : t 3 ≤ 16) (hl : ∀ l : Int, 0 ≤ l → l < t 3 → t (4 + 16 * l) = 0 → 0 ≤ t (5 + 16 * l) ∧ t (5 + 16 * l) ≤ 3) (e : ∀ i, g i = if i = 3 then w 3 + 1 else if 1100 + 260 * w 3 ≤ i ∧ i < 1360 + 260 * w 3 then t (i - (1100 + 260 * w 3)) else w i) : fx_WBf g := by
  obtain ⟨a1, a2, a3, a4, a5, a6, a7, a10, a11, aw, as⟩ := h
  have k : ∀ i : Int, ¬ i = 3 → ¬ (1100 + 260 * w 3 ≤ i ∧ i < 1360 + 260 * w 3) → g i = w i := fun i h1 h2 => by rw [e, if_neg h1, if_neg h2]
  have k2 : ∀ i : Int, ¬ i = 3 → (1100 + 260 * w 3 ≤ i ∧ i < 1360 + 260 * w 3) → g i = t (i - (1100 + 260 * w 3)) := fun i h1 h2 => by rw [e, if_neg h1, if_pos h2]
  have k3 : ∀ i : Int, i = 3 → g i = w 3 + 1 := fun i h1 => by rw [e, if_pos h1]
  refine ⟨?_, ?_, ?_, ?_, ?_, ?_, ?_, ?_, ?_, fun q q0 q1 => ?_, fun s s0 s1 => ?_⟩
  · rw [k 1 (by omega) (by omega)]; exact a1
  · rw [k 2 (by omega) (by omega)]; exact a2
  · rw [k3 3 rfl]; omega
  · rw [k 4 (by omega) (by omega)]; exact a4
  · rw [k 5 (by omega) (by omega)]; exact a5
  · rw [k 6 (by omega) (by omega)]; exact a6
  · rw [k 7 (by omega) (by omega)]; exact a7
  · rw [k 10 (by omega) (by omega)]; exact a10
  · rw [k 11 (by omega) (by omega)]; exact a11
  · rw [k 2 (by omega) (by omega)] at q1
    rw [k _ (by omega) (by omega)]
    exact aw q q0 q1
  · rw [k3 3 rfl] at s1
    by_cases hs : s = w 3
    · rw [k2 _ (by omega) (by omega), show 1103 + 260 * s - (1100 + 260 * w 3) = 3 by omega]
      refine ⟨hc, fun l l0 l1 => ?_⟩
      rw [k2 _ (by omega) (by omega), k2 _ (by omega) (by omega), show 1104 + 260 * s + 16 * l - (1100 + 260 * w 3) = 4 + 16 * l by omega, show 1105 + 260 * s + 16 * l - (1100 + 260 * w 3) = 5 + 16 * l by omega]
      exact hl l l0 l1
    · obtain ⟨b1, b2⟩ := as s s0 (by omega)
      rw [k _ (by omega) (by omega)]
      refine ⟨b1, fun l l0 l1 => ?_⟩
      rw [k _ (by omega) (by omega), k _ (by omega) (by omega)]
      exact b2 l l0 l1
theorem fx_WB_st {S Z : fx_S} {x3 : Int} (h : fx_WB S) (h3 : S.1 67 3 < 10) (hx : x3 = 1100 + 260 * S.1 67 3) (hc : S.1 72 3 ≤ 16) (hl : ∀ l : Int, 0 ≤ l → l < S.1 72 3 → S.1 72 (4 + 16 * l) = 0 → 0 ≤ S.1 72 (5 + 16 * l) ∧ S.1 72 (5 + 16 * l) ≤ 3) (e : ∀ i, Z.1 67 i = if i = 3 then S.1 67 3 + 1 else if x3 + 0 ≤ i ∧ i < x3 + 260 then S.1 72 (i - x3) else S.1 67 i) (e2 : ∀ p i : Int, p ≠ 67 → Z.1 p i = S.1 p i) : fx_WB Z := by
  subst hx
  refine ⟨fx_WBf_st h.1 h3 hc hl (fun i => ?_), fun k k0 k1 k2 => ?_⟩
  · rw [e, show 1100 + 260 * S.1 67 3 + 0 = 1100 + 260 * S.1 67 3 by omega, show 1100 + 260 * S.1 67 3 + 260 = 1360 + 260 * S.1 67 3 by omega]
  · rw [e2 _ _ (by omega)] at k2
    rw [show (fun i => Z.1 68 (8090 * k + i)) = (fun i => S.1 68 (8090 * k + i)) from funext fun i => e2 _ _ (by omega)]
    exact h.2 k k0 k1 k2
/-- only numbers 0 to 8089 of a world count -/
theorem fx_WBf_eq {w g : Int → Int} (h : fx_WBf w) (e : ∀ i : Int, 0 ≤ i → i < 8090 → g i = w i) : fx_WBf g := by
  obtain ⟨a1, a2, a3, a4, a5, a6, a7, a10, a11, aw, as⟩ := h
  refine ⟨?_, ?_, ?_, ?_, ?_, ?_, ?_, ?_, ?_, fun q q0 q1 => ?_, fun s s0 s1 => ?_⟩
  · rw [e 1 (by omega) (by omega)]; exact a1
  · rw [e 2 (by omega) (by omega)]; exact a2
  · rw [e 3 (by omega) (by omega)]; exact a3
  · rw [e 4 (by omega) (by omega)]; exact a4
  · rw [e 5 (by omega) (by omega)]; exact a5
  · rw [e 6 (by omega) (by omega)]; exact a6
  · rw [e 7 (by omega) (by omega)]; exact a7
  · rw [e 10 (by omega) (by omega)]; exact a10
  · rw [e 11 (by omega) (by omega)]; exact a11
  · rw [e 2 (by omega) (by omega)] at q1
    rw [e _ (by omega) (by omega)]
    exact aw q q0 q1
  · rw [e 3 (by omega) (by omega)] at s1
    obtain ⟨b1, b2⟩ := as s s0 s1
    rw [e _ (by omega) (by omega)]
    refine ⟨b1, fun l l0 l1 => ?_⟩
    rw [e _ (by omega) (by omega), e _ (by omega) (by omega)]
    exact b2 l l0 l1
/-- the numbers of what is told that an image holds: row j behind its root, number i -/
def fx_tb (j i : Int) : Prop := (j = 0 ∧ i = 0) ∨ (j = 1 ∧ (i = 0 ∨ i = 4 ∨ i = 8)) ∨ (2 ≤ j ∧ j ≤ 7 ∧ 0 ≤ i ∧ i < 40) ∨ (9 ≤ j ∧ j ≤ 11 ∧ 0 ≤ i ∧ i < 10) ∨ (j = 12 ∧ i = 0) ∨ (13 ≤ j ∧ j ≤ 18 ∧ 0 ≤ i ∧ i < 80) ∨ (j = 19 ∧ 0 ≤ i ∧ i < 320) ∨ (j = 20 ∧ (i = 2 ∨ i = 6 ∨ i = 7)) ∨ (21 ≤ j ∧ j ≤ 22 ∧ 0 ≤ i ∧ i < 4) ∨ (23 ≤ j ∧ j ≤ 25 ∧ 0 ≤ i ∧ i < 300) ∨ (j = 28 ∧ i = 0) ∨ (29 ≤ j ∧ j ≤ 32 ∧ 0 ≤ i ∧ i < 20) ∨ (j = 33 ∧ 0 ≤ i ∧ i < 1600) ∨ (34 ≤ j ∧ j ≤ 35 ∧ 0 ≤ i ∧ i < 100) ∨ (j = 37 ∧ i = 0) ∨ (38 ≤ j ∧ j ≤ 41 ∧ 0 ≤ i ∧ i < 12) ∨ (j = 44 ∧ 0 ≤ i ∧ i < 2) ∨ (45 ≤ j ∧ j ≤ 47 ∧ 0 ≤ i ∧ i < 14)
/-- a column of a table: number q of a row on the class's side is number B + st q of the world -/
def fx_Co (f g : Int → Int) (B st n : Int) : Prop := ∀ q : Int, 0 ≤ q → q < n → f q = g (B + st * q)
theorem fx_Co_eq {f g f' g' : Int → Int} {B st n : Int} (h : fx_Co f g B st n) (e : ∀ q : Int, 0 ≤ q → q < n → f' q = f q) (e2 : ∀ q : Int, 0 ≤ q → q < n → g' (B + st * q) = g (B + st * q)) : fx_Co f' g' B st n := fun q q0 q1 => by rw [e q q0 q1, e2 q q0 q1, h q q0 q1]
theorem fx_Co_app {f g f' g' : Int → Int} {B st n v : Int} (h : fx_Co f g B st n) (e : ∀ q : Int, f' q = if q = n then v else f q) (e2 : ∀ q : Int, 0 ≤ q → q < n → g' (B + st * q) = g (B + st * q)) (e3 : g' (B + st * n) = v) : fx_Co f' g' B st (n + 1) := fun q q0 q1 => by
  rw [e]
  by_cases hq : q = n
  · rw [if_pos hq, hq, e3]
  · rw [if_neg hq, e2 q q0 (by omega), h q q0 (by omega)]
theorem fx_Co_up {f g f' g' : Int → Int} {B st n k v : Int} (h : fx_Co f g B st n) (e : ∀ q : Int, f' q = if q = k then v else f q) (e2 : ∀ q : Int, 0 ≤ q → q < n → ¬ q = k → g' (B + st * q) = g (B + st * q)) (e3 : g' (B + st * k) = v) : fx_Co f' g' B st n := fun q q0 q1 => by
  rw [e]
  by_cases hq : q = k
  · rw [if_pos hq, hq, e3]
  · rw [if_neg hq, e2 q q0 q1 hq, h q q0 q1]
/-- never: 3600 on the class's side, -1 on the reference's -/
def fx_nev (x : Int) : Int := if x = -1 then 3600 else x
def fx_Rd (F : Int → Int → Int) (t : Int) (w : Int → Int) : Prop := F t 0 = w 0 ∧ 0 ≤ w 0 ∧ w 0 ≤ 3599
def fx_Rv (F : Int → Int → Int) (t : Int) (w : Int → Int) : Prop := F (t + 1) 0 = w 1 ∧ fx_Co (F (t + 2)) w 20 4 (w 1) ∧ fx_Co (F (t + 3)) w 21 4 (w 1) ∧ fx_Co (F (t + 4)) w 22 4 (w 1)
def fx_Rm (F : Int → Int → Int) (t : Int) (w : Int → Int) : Prop := F (t + 1) 4 = w 6 ∧ fx_Co (F (t + 5)) w 180 3 (w 6) ∧ fx_Co (F (t + 6)) w 181 3 (w 6) ∧ fx_Co (F (t + 7)) w 182 3 (w 6)
/-- what is so of each person -/
def fx_Bp (w : Int → Int) (q : Int) : Prop := (0 ≤ w (300 + 10 * q) ∧ w (300 + 10 * q) < w 1) ∧ (0 ≤ w (301 + 10 * q) ∧ w (301 + 10 * q) ≤ 3) ∧ (0 ≤ w (302 + 10 * q) ∧ w (302 + 10 * q) ≤ w 0) ∧ (w (303 + 10 * q) = -1 ∨ (0 ≤ w (303 + 10 * q) ∧ w (303 + 10 * q) ≤ w 0)) ∧ (0 ≤ w (304 + 10 * q) ∧ w (304 + 10 * q) ≤ 99) ∧ ∀ k : Int, 0 ≤ k → k < w (305 + 10 * q) → 0 ≤ w (306 + 10 * q + k) ∧ w (306 + 10 * q + k) < w 5
def fx_Rp (F : Int → Int → Int) (t : Int) (w : Int → Int) : Prop := F (t + 12) 0 = w 2 ∧ fx_Co (F (t + 13)) w 300 10 (w 2) ∧ fx_Co (F (t + 14)) w 301 10 (w 2) ∧ fx_Co (F (t + 15)) w 302 10 (w 2) ∧ fx_Co (F (t + 16)) (fun i => fx_nev (w i)) 303 10 (w 2) ∧ fx_Co (F (t + 17)) w 304 10 (w 2) ∧ fx_Co (F (t + 18)) w 305 10 (w 2) ∧ (∀ q : Int, 0 ≤ q → q < w 2 → fx_Bp w q) ∧ ∀ q k : Int, 0 ≤ q → q < w 2 → 0 ≤ k → k < w (305 + 10 * q) → F (t + 19) (4 * q + k) = w (306 + 10 * q + k)
def fx_Rh (F : Int → Int → Int) (t : Int) (w : Int → Int) : Prop := F (t + 37) 0 = w 5 ∧ fx_Co (F (t + 38)) w 7100 4 (w 5) ∧ fx_Co (F (t + 39)) w 7101 4 (w 5) ∧ fx_Co (F (t + 40)) w 7102 4 (w 5) ∧ fx_Co (F (t + 41)) w 7103 4 (w 5)
theorem fx_Rd_eq {F G : Int → Int → Int} {s t : Int} {w g : Int → Int} (h : fx_Rd F s w) (e : G t 0 = F s 0) (ew : g 0 = w 0) : fx_Rd G t g := by
  obtain ⟨h1, h2, h3⟩ := h
  exact ⟨by omega, by omega, by omega⟩
theorem fx_Rv_eq {F G : Int → Int → Int} {s t : Int} {w g : Int → Int} (b : fx_WBf w) (h : fx_Rv F s w) (e1 : G (t + 1) 0 = F (s + 1) 0) (e : ∀ j i : Int, fx_tb j i → 2 ≤ j → j ≤ 4 → G (t + j) i = F (s + j) i) (ew : ∀ i : Int, i = 1 ∨ (20 ≤ i ∧ i < 180) → g i = w i) : fx_Rv G t g := by
  obtain ⟨h1, h2, h3, h4⟩ := h
  have n := b.1
  have e0 := ew 1 (by omega)
  refine ⟨by omega, ?_, ?_, ?_⟩
  · rw [e0]; exact fx_Co_eq h2 (fun q q0 q1 => e 2 q (by unfold fx_tb; omega) (by omega) (by omega)) (fun q q0 q1 => ew _ (by omega))
  · rw [e0]; exact fx_Co_eq h3 (fun q q0 q1 => e 3 q (by unfold fx_tb; omega) (by omega) (by omega)) (fun q q0 q1 => ew _ (by omega))
  · rw [e0]; exact fx_Co_eq h4 (fun q q0 q1 => e 4 q (by unfold fx_tb; omega) (by omega) (by omega)) (fun q q0 q1 => ew _ (by omega))
theorem fx_Rm_eq {F G : Int → Int → Int} {s t : Int} {w g : Int → Int} (b : fx_WBf w) (h : fx_Rm F s w) (e1 : G (t + 1) 4 = F (s + 1) 4) (e : ∀ j i : Int, fx_tb j i → 5 ≤ j → j ≤ 7 → G (t + j) i = F (s + j) i) (ew : ∀ i : Int, i = 6 ∨ (180 ≤ i ∧ i < 300) → g i = w i) : fx_Rm G t g := by
  obtain ⟨h1, h2, h3, h4⟩ := h
  obtain ⟨-, -, -, -, -, n, -⟩ := b
  have e0 := ew 6 (by omega)
  refine ⟨by omega, ?_, ?_, ?_⟩
  · rw [e0]; exact fx_Co_eq h2 (fun q q0 q1 => e 5 q (by unfold fx_tb; omega) (by omega) (by omega)) (fun q q0 q1 => ew _ (by omega))
  · rw [e0]; exact fx_Co_eq h3 (fun q q0 q1 => e 6 q (by unfold fx_tb; omega) (by omega) (by omega)) (fun q q0 q1 => ew _ (by omega))
  · rw [e0]; exact fx_Co_eq h4 (fun q q0 q1 => e 7 q (by unfold fx_tb; omega) (by omega) (by omega)) (fun q q0 q1 => ew _ (by omega))
theorem fx_Rp_eq {F G : Int → Int → Int} {s t : Int} {w g : Int → Int} (b : fx_WBf w) (h : fx_Rp F s w) (e : ∀ j i : Int, fx_tb j i → 12 ≤ j → j ≤ 19 → G (t + j) i = F (s + j) i) (ew : ∀ i : Int, i = 2 ∨ (300 ≤ i ∧ i < 1100) → g i = w i) (l0 : w 0 ≤ g 0) (l1 : w 1 ≤ g 1) (l5 : w 5 ≤ g 5) : fx_Rp G t g := by
  obtain ⟨h1, h2, h3, h4, h5, h6, h7, h8, h9⟩ := h
  have W := b
  obtain ⟨-, n, -, -, -, -, -, -, -, wq, -⟩ := b
  have e0 := ew 2 (by omega)
  have k12 := e 12 0 (by unfold fx_tb; omega) (by omega) (by omega)
  refine ⟨by omega, ?_, ?_, ?_, ?_, ?_, ?_, fun q q0 q1 => ?_, fun q k q0 q1 k0 k1 => ?_⟩
  · rw [e0]; exact fx_Co_eq h2 (fun q q0 q1 => e 13 q (by unfold fx_tb; omega) (by omega) (by omega)) (fun q q0 q1 => ew _ (by omega))
  · rw [e0]; exact fx_Co_eq h3 (fun q q0 q1 => e 14 q (by unfold fx_tb; omega) (by omega) (by omega)) (fun q q0 q1 => ew _ (by omega))
  · rw [e0]; exact fx_Co_eq h4 (fun q q0 q1 => e 15 q (by unfold fx_tb; omega) (by omega) (by omega)) (fun q q0 q1 => ew _ (by omega))
  · rw [e0]; exact fx_Co_eq h5 (fun q q0 q1 => e 16 q (by unfold fx_tb; omega) (by omega) (by omega)) (fun q q0 q1 => by rw [ew _ (by omega)])
  · rw [e0]; exact fx_Co_eq h6 (fun q q0 q1 => e 17 q (by unfold fx_tb; omega) (by omega) (by omega)) (fun q q0 q1 => ew _ (by omega))
  · rw [e0]; exact fx_Co_eq h7 (fun q q0 q1 => e 18 q (by unfold fx_tb; omega) (by omega) (by omega)) (fun q q0 q1 => ew _ (by omega))
  · rw [e0] at q1
    obtain ⟨b1, b2, b3, b4, b5, b6⟩ := h8 q q0 q1
    have u := (wq q q0 q1).2
    refine ⟨?_, ?_, ?_, ?_, ?_, fun k k0 k1 => ?_⟩
    · rw [ew _ (by omega)]; omega
    · rw [ew _ (by omega)]; omega
    · rw [ew _ (by omega)]; omega
    · rw [ew _ (by omega)]; omega
    · rw [ew _ (by omega)]; omega
    · rw [ew _ (by omega)] at k1
      rw [ew _ (by omega)]
      have := b6 k k0 k1
      omega
  · rw [e0] at q1
    have u := (wq q q0 q1).2
    rw [ew _ (by omega)] at k1
    rw [ew _ (by omega), e 19 _ (by unfold fx_tb; omega) (by omega) (by omega)]
    exact h9 q k q0 q1 k0 k1
theorem fx_Rh_eq {F G : Int → Int → Int} {s t : Int} {w g : Int → Int} (b : fx_WBf w) (h : fx_Rh F s w) (e : ∀ j i : Int, fx_tb j i → 37 ≤ j → j ≤ 41 → G (t + j) i = F (s + j) i) (ew : ∀ i : Int, i = 5 ∨ (7100 ≤ i ∧ i < 7148) → g i = w i) : fx_Rh G t g := by
  obtain ⟨h1, h2, h3, h4, h5⟩ := h
  obtain ⟨-, -, -, -, n, -⟩ := b
  have e0 := ew 5 (by omega)
  have k37 := e 37 0 (by unfold fx_tb; omega) (by omega) (by omega)
  refine ⟨by omega, ?_, ?_, ?_, ?_⟩
  · rw [e0]; exact fx_Co_eq h2 (fun q q0 q1 => e 38 q (by unfold fx_tb; omega) (by omega) (by omega)) (fun q q0 q1 => ew _ (by omega))
  · rw [e0]; exact fx_Co_eq h3 (fun q q0 q1 => e 39 q (by unfold fx_tb; omega) (by omega) (by omega)) (fun q q0 q1 => ew _ (by omega))
  · rw [e0]; exact fx_Co_eq h4 (fun q q0 q1 => e 40 q (by unfold fx_tb; omega) (by omega) (by omega)) (fun q q0 q1 => ew _ (by omega))
  · rw [e0]; exact fx_Co_eq h5 (fun q q0 q1 => e 41 q (by unfold fx_tb; omega) (by omega) (by omega)) (fun q q0 q1 => ew _ (by omega))
/-- what is told at t on the class's side is what the world w holds on the reference's -/
def fx_RR (F : Int → Int → Int) (t : Int) (w : Int → Int) : Prop := fx_Rd F t w ∧ fx_Rv F t w ∧ fx_Rm F t w ∧ fx_Rp F t w ∧ fx_Rh F t w
theorem fx_RR_eq {F G : Int → Int → Int} {s t : Int} {w g : Int → Int} (b : fx_WBf w) (h : fx_RR F s w) (e : ∀ j i : Int, fx_tb j i → G (t + j) i = F (s + j) i) (ew : ∀ i : Int, 0 ≤ i → i < 8090 → g i = w i) : fx_RR G t g := by
  obtain ⟨h1, h2, h3, h4, h5⟩ := h
  have e00 := e 0 0 (by unfold fx_tb; omega)
  rw [Int.add_zero, Int.add_zero] at e00
  exact ⟨fx_Rd_eq h1 e00 (ew 0 (by omega) (by omega)), fx_Rv_eq b h2 (e 1 0 (by unfold fx_tb; omega)) (fun j i t _ _ => e j i t) (fun i hi => ew i (by omega) (by omega)),
    fx_Rm_eq b h3 (e 1 4 (by unfold fx_tb; omega)) (fun j i t _ _ => e j i t) (fun i hi => ew i (by omega) (by omega)),
    fx_Rp_eq b h4 (fun j i t _ _ => e j i t) (fun i hi => ew i (by omega) (by omega)) (by rw [ew 0 (by omega) (by omega)]; omega) (by rw [ew 1 (by omega) (by omega)]; omega) (by rw [ew 5 (by omega) (by omega)]; omega),
    fx_Rh_eq b h5 (fun j i t _ _ => e j i t) (fun i hi => ew i (by omega) (by omega))⟩
theorem fx_nev_day {x d : Int} (h : x = -1 ∨ (0 ≤ x ∧ x ≤ d)) (h1 : d ≤ 3599) : (d < fx_nev x ↔ x = -1 ∨ d < x) := by
  unfold fx_nev
  split <;> omega
theorem fx_w64 {k : Int} (h1 : -9223372036854775808 ≤ k) (h2 : k ≤ 9223372036854775807) : (Int64.ofInt k).toInt = k := by
  rw [Int64.toInt_ofInt]
  apply Int.bmod_eq_of_le
  · show -(((2 ^ 64 : Nat) : Int) / 2) ≤ k; omega
  · show k < ((((2 ^ 64 : Nat) : Int) + 1) / 2); omega
theorem fx_l2i_eq {x : Int} (h1 : -2147483648 ≤ x) (h2 : x ≤ 2147483647) : fx_l2i x = x := by
  unfold fx_l2i
  rw [Int64.toInt_toInt32, fx_w64 (by omega) (by omega)]
  apply Int.bmod_eq_of_le
  · show -(((2 ^ 32 : Nat) : Int) / 2) ≤ x; omega
  · show x < ((((2 ^ 32 : Nat) : Int) + 1) / 2); omega
theorem fx_ladd_eq {x y : Int} (h1 : -9223372036854775808 ≤ x + y) (h2 : x + y ≤ 9223372036854775807) : fx_ladd x y = x + y := by
  unfold fx_ladd
  rw [← Int64.ofInt_add]
  exact fx_w64 h1 h2
/-- a number narrowed to a row's width -/
def fx_cut (v w : Int) : Int := fx_lshr (fx_lshl v (fx_sub 64 (fx_shl 8 w))) (fx_sub 64 (fx_shl 8 w))
/-- there is one from a, below n -/
def fx_exw (P : Int → Prop) (a n : Int) : Prop := ∃ k : Int, a ≤ k ∧ k < n ∧ P k
/-- a village more -/
def fx_viw (w : Int → Int) (a b c : Int) : Int → Int := fun i => if i = 1 then w 1 + 1 else if i = 20 + 4 * w 1 then a else if i = 21 + 4 * w 1 then b else if i = 22 + 4 * w 1 then c else if i = 23 + 4 * w 1 then w 0 else w i
/-- a word that a village has moved -/
def fx_mow (w : Int → Int) (a b : Int) : Int → Int := fun i => if i = 6 then w 6 + 1 else if i = 180 + 3 * w 6 then a else if i = 181 + 3 * w 6 then b else if i = 182 + 3 * w 6 then w 0 else w i
/-- a person more -/
def fx_addw (w : Int → Int) (a b : Int) : Int → Int := fun i => if i = 2 then w 2 + 1 else if i = 300 + 10 * w 2 then a else if i = 301 + 10 * w 2 then b else if i = 302 + 10 * w 2 then w 0 else if i = 303 + 10 * w 2 then -1 else if i = 304 + 10 * w 2 then 99 else if i = 305 + 10 * w 2 then 0 else w i
/-- the persons of a row of villages and ranks: how many, and the world behind them -/
def fx_oat (nu : Int → Int) (many : Int) : Nat → Int → Int → (Int → Int) → Int × (Int → Int)
  | 0, _, n, w => (n, w)
  | k + 1, x, n, w => if many < x + 2 then (n, w) else if (0 ≤ nu x ∧ nu x < w 1 ∧ 0 ≤ nu (x + 1) ∧ nu (x + 1) ≤ 3) ∧ w 2 < 80 then fx_oat nu many k (x + 2) (n + 1) (fx_addw w (nu x) (nu (x + 1))) else (n, w)
theorem fx_addw_off {w : Int → Int} {a b i : Int} (h : ¬ i = 2) (h2 : ¬ (300 + 10 * w 2 ≤ i ∧ i < 306 + 10 * w 2)) : fx_addw w a b i = w i := by
  unfold fx_addw
  rw [if_neg h, if_neg (by omega), if_neg (by omega), if_neg (by omega), if_neg (by omega), if_neg (by omega), if_neg (by omega)]
theorem fx_addw_2 {w : Int → Int} {a b : Int} : fx_addw w a b 2 = w 2 + 1 := by
  unfold fx_addw
  rw [if_pos rfl]
theorem fx_addw_at {w : Int → Int} {a b : Int} (h : 0 ≤ w 2) : fx_addw w a b (300 + 10 * w 2) = a ∧ fx_addw w a b (301 + 10 * w 2) = b ∧ fx_addw w a b (302 + 10 * w 2) = w 0 ∧ fx_addw w a b (303 + 10 * w 2) = -1 ∧ fx_addw w a b (304 + 10 * w 2) = 99 ∧ fx_addw w a b (305 + 10 * w 2) = 0 := by
  unfold fx_addw
  refine ⟨?_, ?_, ?_, ?_, ?_, ?_⟩
  · rw [if_neg (by omega), if_pos rfl]
  · rw [if_neg (by omega), if_neg (by omega), if_pos rfl]
  · rw [if_neg (by omega), if_neg (by omega), if_neg (by omega), if_pos rfl]
  · rw [if_neg (by omega), if_neg (by omega), if_neg (by omega), if_neg (by omega), if_pos rfl]
  · rw [if_neg (by omega), if_neg (by omega), if_neg (by omega), if_neg (by omega), if_neg (by omega), if_pos rfl]
  · rw [if_neg (by omega), if_neg (by omega), if_neg (by omega), if_neg (by omega), if_neg (by omega), if_neg (by omega), if_pos rfl]
theorem fx_WBf_addw {w : Int → Int} {a b : Int} (B : fx_WBf w) (n : w 2 < 80) : fx_WBf (fx_addw w a b) := by
  obtain ⟨a1, a2, a3, a4, a5, a6, a7, a10, a11, aw, as⟩ := B
  have k : ∀ i : Int, ¬ i = 2 → ¬ (300 ≤ i ∧ i < 1100) → fx_addw w a b i = w i := fun i h h2 => fx_addw_off h (by omega)
  refine ⟨?_, ?_, ?_, ?_, ?_, ?_, ?_, ?_, ?_, fun q q0 q1 => ?_, fun s s0 s1 => ?_⟩
  · rw [k 1 (by omega) (by omega)]; exact a1
  · rw [fx_addw_2]; omega
  · rw [k 3 (by omega) (by omega)]; exact a3
  · rw [k 4 (by omega) (by omega)]; exact a4
  · rw [k 5 (by omega) (by omega)]; exact a5
  · rw [k 6 (by omega) (by omega)]; exact a6
  · rw [k 7 (by omega) (by omega)]; exact a7
  · rw [k 10 (by omega) (by omega)]; exact a10
  · rw [k 11 (by omega) (by omega)]; exact a11
  · rw [fx_addw_2] at q1
    by_cases hq : q = w 2
    · subst hq
      rw [(fx_addw_at a2.1).2.2.2.2.2]; omega
    · rw [fx_addw_off (by omega) (by omega)]
      exact aw q q0 (by omega)
  · rw [k 3 (by omega) (by omega)] at s1
    obtain ⟨b1, b2⟩ := as s s0 s1
    rw [k _ (by omega) (by omega)]
    refine ⟨b1, fun l l0 l1 => ?_⟩
    rw [k _ (by omega) (by omega), k _ (by omega) (by omega)]
    exact b2 l l0 l1
theorem fx_Rp_add {F G : Int → Int → Int} {w : Int → Int} {a b : Int} (B : fx_WBf w) (h : fx_Rp F 1 w) (d0 : 0 ≤ w 0) (ha : 0 ≤ a ∧ a < w 1) (hb : 0 ≤ b ∧ b ≤ 3) (e0 : G 13 0 = F 13 0 + 1) (e : ∀ i : Int, G 14 i = (if i = F 13 0 then a else F 14 i) ∧ G 15 i = (if i = F 13 0 then b else F 15 i) ∧ G 16 i = (if i = F 13 0 then w 0 else F 16 i) ∧ G 17 i = (if i = F 13 0 then 3600 else F 17 i) ∧ G 18 i = (if i = F 13 0 then 99 else F 18 i) ∧ G 19 i = (if i = F 13 0 then 0 else F 19 i)) (e20 : ∀ i : Int, G 20 i = F 20 i) : fx_Rp G 1 (fx_addw w a b) := by
  obtain ⟨h1, h2, h3, h4, h5, h6, h7, h8, h9⟩ := h
  have h1 : F 13 0 = w 2 := h1
  rw [h1] at e0 e
  have n2 := B.2.1
  obtain ⟨g0, g1, g2, g3, g4, g5⟩ := fx_addw_at (a := a) (b := b) n2.1
  have k : ∀ i : Int, ¬ i = 2 → ¬ (300 + 10 * w 2 ≤ i ∧ i < 306 + 10 * w 2) → fx_addw w a b i = w i := fun i u v => fx_addw_off u v
  refine ⟨?_, ?_, ?_, ?_, ?_, ?_, ?_, fun q q0 q1 => ?_, fun q j q0 q1 j0 j1 => ?_⟩
  · rw [fx_addw_2]; exact e0
  · rw [fx_addw_2]; exact fx_Co_app h2 (fun q => (e q).1) (fun q q0 q1 => k _ (by omega) (by omega)) g0
  · rw [fx_addw_2]; exact fx_Co_app h3 (fun q => (e q).2.1) (fun q q0 q1 => k _ (by omega) (by omega)) g1
  · rw [fx_addw_2]; exact fx_Co_app h4 (fun q => (e q).2.2.1) (fun q q0 q1 => k _ (by omega) (by omega)) g2
  · rw [fx_addw_2]; exact fx_Co_app h5 (fun q => (e q).2.2.2.1) (fun q q0 q1 => by rw [k _ (by omega) (by omega)]) (by rw [g3]; rfl)
  · rw [fx_addw_2]; exact fx_Co_app h6 (fun q => (e q).2.2.2.2.1) (fun q q0 q1 => k _ (by omega) (by omega)) g4
  · rw [fx_addw_2]; exact fx_Co_app h7 (fun q => (e q).2.2.2.2.2) (fun q q0 q1 => k _ (by omega) (by omega)) g5
  · rw [fx_addw_2] at q1
    unfold fx_Bp
    rw [k 0 (by omega) (by omega), k 1 (by omega) (by omega), k 5 (by omega) (by omega)]
    by_cases hq : q = w 2
    · subst hq
      rw [g0, g1, g2, g3, g4, g5]
      exact ⟨ha, hb, ⟨d0, Int.le_refl _⟩, .inl rfl, by omega, fun j j0 j1 => absurd j1 (by omega)⟩
    · have q1 : q < w 2 := by omega
      have u := h8 q q0 q1
      unfold fx_Bp at u
      have v := (B.2.2.2.2.2.2.2.2.2.1 q q0 q1).2
      rw [k _ (by omega) (by omega), k _ (by omega) (by omega), k _ (by omega) (by omega), k _ (by omega) (by omega), k _ (by omega) (by omega), k _ (by omega) (by omega)]
      exact ⟨u.1, u.2.1, u.2.2.1, u.2.2.2.1, u.2.2.2.2.1, fun j j0 j1 => by rw [k _ (by omega) (by omega)]; exact u.2.2.2.2.2 j j0 j1⟩
  · rw [fx_addw_2] at q1
    by_cases hq : q = w 2
    · subst hq
      rw [g5] at j1
      omega
    · have q1 : q < w 2 := by omega
      have v := (B.2.2.2.2.2.2.2.2.2.1 q q0 q1).2
      rw [k _ (by omega) (by omega)] at j1
      rw [k _ (by omega) (by omega)]
      exact (e20 _).trans (h9 q j q0 q1 j0 j1)
/-- one number of one person is changed: those who may be -/
theorem fx_Rp_set {F G : Int → Int → Int} {w g : Int → Int} {x c v u : Int} (B : fx_WBf w) (h : fx_Rp F 1 w) (x0 : 0 ≤ x) (x1 : x < w 2) (hc : c = 3 ∨ c = 4) (hg : ∀ i : Int, g i = if i = 300 + c + 10 * x then v else w i) (e : ∀ i : Int, G 13 i = F 13 i ∧ G 14 i = F 14 i ∧ G 15 i = F 15 i ∧ G 17 i = (if i = x then (if c = 3 then u else F 17 i) else F 17 i) ∧ G 18 i = (if i = x then (if c = 4 then u else F 18 i) else F 18 i) ∧ G 16 i = F 16 i ∧ G 19 i = F 19 i ∧ G 20 i = F 20 i) (hv3 : c = 3 → u = fx_nev v ∧ (v = -1 ∨ (0 ≤ v ∧ v ≤ w 0))) (hv4 : c = 4 → u = v ∧ 0 ≤ v ∧ v ≤ 99) : fx_Rp G 1 g := by
  obtain ⟨h1, h2, h3, h4, h5, h6, h7, h8, h9⟩ := h
  have n2 := B.2.1
  have k : ∀ i : Int, ¬ i = 300 + c + 10 * x → g i = w i := fun i hi => by rw [hg, if_neg hi]
  have kx : g (300 + c + 10 * x) = v := by rw [hg, if_pos rfl]
  have k2 : g 2 = w 2 := k 2 (by omega)
  have wb := B.2.2.2.2.2.2.2.2.2.1
  refine ⟨?_, ?_, ?_, ?_, ?_, ?_, ?_, fun q q0 q1 => ?_, fun q j q0 q1 j0 j1 => ?_⟩
  · rw [k2]; exact ((e 0).1).trans h1
  · rw [k2]; exact fx_Co_eq h2 (fun q _ _ => (e q).2.1) (fun q q0 q1 => k _ (by omega))
  · rw [k2]; exact fx_Co_eq h3 (fun q _ _ => (e q).2.2.1) (fun q q0 q1 => k _ (by omega))
  · rw [k2]; exact fx_Co_eq h4 (fun q _ _ => (e q).2.2.2.2.2.1) (fun q q0 q1 => k _ (by omega))
  · rw [k2]
    by_cases c3 : c = 3
    · subst c3
      exact fx_Co_up h5 (fun q => by rw [show G (1 + 16) q = G 17 q from rfl, (e q).2.2.2.1, if_pos rfl]; rfl) (fun q q0 q1 hq => by rw [k _ (by omega)]) (by rw [(hv3 rfl).1, show (303 : Int) + 10 * x = 300 + 3 + 10 * x by omega, kx])
    · exact fx_Co_eq h5 (fun q _ _ => by rw [show G (1 + 16) q = G 17 q from rfl, (e q).2.2.2.1, if_neg c3]; split <;> rfl) (fun q q0 q1 => by rw [k _ (by omega)])
  · rw [k2]
    by_cases c4 : c = 4
    · subst c4
      exact fx_Co_up h6 (fun q => by rw [show G (1 + 17) q = G 18 q from rfl, (e q).2.2.2.2.1, if_pos rfl]; rfl) (fun q q0 q1 hq => k _ (by omega)) (by rw [(hv4 rfl).1, show (304 : Int) + 10 * x = 300 + 4 + 10 * x by omega, kx])
    · exact fx_Co_eq h6 (fun q _ _ => by rw [show G (1 + 17) q = G 18 q from rfl, (e q).2.2.2.2.1, if_neg c4]; split <;> rfl) (fun q q0 q1 => k _ (by omega))
  · rw [k2]; exact fx_Co_eq h7 (fun q _ _ => (e q).2.2.2.2.2.2.1) (fun q q0 q1 => k _ (by omega))
  · rw [k2] at q1
    have t := h8 q q0 q1
    have v2 := (wb q q0 q1).2
    unfold fx_Bp at t ⊢
    rw [k 0 (by omega), k 1 (by omega), k 5 (by omega), k (300 + 10 * q) (by omega), k (301 + 10 * q) (by omega), k (302 + 10 * q) (by omega), k (305 + 10 * q) (by omega)]
    refine ⟨t.1, t.2.1, t.2.2.1, ?_, ?_, fun j j0 j1 => by rw [k _ (by omega)]; exact t.2.2.2.2.2 j j0 j1⟩
    · by_cases hq : q = x ∧ c = 3
      · obtain ⟨rfl, rfl⟩ := hq
        rw [show (303 : Int) + 10 * q = 300 + 3 + 10 * q by omega, kx]
        exact (hv3 rfl).2
      · rw [k _ (by omega)]; exact t.2.2.2.1
    · by_cases hq : q = x ∧ c = 4
      · obtain ⟨rfl, rfl⟩ := hq
        rw [show (304 : Int) + 10 * q = 300 + 4 + 10 * q by omega, kx]
        exact (hv4 rfl).2
      · rw [k _ (by omega)]; exact t.2.2.2.2.1
  · rw [k2] at q1
    have v2 := (wb q q0 q1).2
    rw [k _ (by omega)] at j1
    rw [k _ (by omega)]
    exact ((e _).2.2.2.2.2.2.2).trans (h9 q j q0 q1 j0 j1)
theorem fx_Rp_wish {F G : Int → Int → Int} {w g : Int → Int} {x b : Int} (B : fx_WBf w) (h : fx_Rp F 1 w) (x0 : 0 ≤ x) (x1 : x < w 2) (hn : w (305 + 10 * x) < 4) (hb : 0 ≤ b ∧ b < w 5) (hg : ∀ i : Int, g i = if i = 305 + 10 * x then w (305 + 10 * x) + 1 else if i = 305 + 10 * x + 1 + w (305 + 10 * x) then b else w i) (e : ∀ i : Int, G 13 i = F 13 i ∧ G 14 i = F 14 i ∧ G 15 i = F 15 i ∧ G 16 i = F 16 i ∧ G 17 i = F 17 i ∧ G 18 i = F 18 i ∧ G 19 i = (if i = x then F 19 x + 1 else F 19 i) ∧ G 20 i = (if i = 4 * x + F 19 x then b else F 20 i)) : fx_Rp G 1 g := by
  obtain ⟨h1, h2, h3, h4, h5, h6, h7, h8, h9⟩ := h
  have n2 := B.2.1
  have wb := B.2.2.2.2.2.2.2.2.2.1
  have bx := wb x x0 x1
  have r19 : F 19 x = w (305 + 10 * x) := h7 x x0 x1
  rw [r19] at e
  have k : ∀ i : Int, ¬ i = 305 + 10 * x → ¬ i = 305 + 10 * x + 1 + w (305 + 10 * x) → g i = w i := fun i hi hj => by rw [hg, if_neg hi, if_neg hj]
  have kx : g (305 + 10 * x) = w (305 + 10 * x) + 1 := by rw [hg, if_pos rfl]
  have ky : g (305 + 10 * x + 1 + w (305 + 10 * x)) = b := by rw [hg, if_neg (by omega), if_pos rfl]
  have k2 : g 2 = w 2 := k 2 (by omega) (by omega)
  refine ⟨?_, ?_, ?_, ?_, ?_, ?_, ?_, fun q q0 q1 => ?_, fun q j q0 q1 j0 j1 => ?_⟩
  · rw [k2]; exact ((e 0).1).trans h1
  · rw [k2]; exact fx_Co_eq h2 (fun q _ _ => (e q).2.1) (fun q q0 q1 => k _ (by omega) (by omega))
  · rw [k2]; exact fx_Co_eq h3 (fun q _ _ => (e q).2.2.1) (fun q q0 q1 => k _ (by omega) (by omega))
  · rw [k2]; exact fx_Co_eq h4 (fun q _ _ => (e q).2.2.2.1) (fun q q0 q1 => k _ (by omega) (by omega))
  · rw [k2]; exact fx_Co_eq h5 (fun q _ _ => (e q).2.2.2.2.1) (fun q q0 q1 => by rw [k _ (by omega) (by omega)])
  · rw [k2]; exact fx_Co_eq h6 (fun q _ _ => (e q).2.2.2.2.2.1) (fun q q0 q1 => k _ (by omega) (by omega))
  · rw [k2]; exact fx_Co_up h7 (fun q => by rw [show G (1 + 18) q = G 19 q from rfl, (e q).2.2.2.2.2.2.1]; rfl) (fun q q0 q1 hq => k _ (by omega) (by omega)) kx
  · rw [k2] at q1
    have t := h8 q q0 q1
    have v2 := wb q q0 q1
    unfold fx_Bp at t ⊢
    rw [k 0 (by omega) (by omega), k 1 (by omega) (by omega), k 5 (by omega) (by omega), k (300 + 10 * q) (by omega) (by omega), k (301 + 10 * q) (by omega) (by omega), k (302 + 10 * q) (by omega) (by omega), k (303 + 10 * q) (by omega) (by omega), k (304 + 10 * q) (by omega) (by omega)]
    refine ⟨t.1, t.2.1, t.2.2.1, t.2.2.2.1, t.2.2.2.2.1, fun j j0 j1 => ?_⟩
    by_cases hq : q = x
    · subst hq
      rw [kx] at j1
      by_cases hj : j = w (305 + 10 * q)
      · rw [show 306 + 10 * q + j = 305 + 10 * q + 1 + w (305 + 10 * q) by omega, ky]
        exact hb
      · rw [k _ (by omega) (by omega)]
        exact t.2.2.2.2.2 j j0 (by omega)
    · rw [k _ (by omega) (by omega)] at j1
      rw [k _ (by omega) (by omega)]
      exact t.2.2.2.2.2 j j0 j1
  · rw [k2] at q1
    have v2 := wb q q0 q1
    show G 20 (4 * q + j) = g (306 + 10 * q + j)
    rw [(e _).2.2.2.2.2.2.2]
    by_cases hq : q = x
    · subst hq
      rw [kx] at j1
      by_cases hj : j = w (305 + 10 * q)
      · rw [if_pos (by omega), show 306 + 10 * q + j = 305 + 10 * q + 1 + w (305 + 10 * q) by omega, ky]
      · rw [if_neg (by omega), k _ (by omega) (by omega)]
        exact h9 q j q0 q1 j0 (by omega)
    · rw [k _ (by omega) (by omega)] at j1
      rw [if_neg (by omega), k _ (by omega) (by omega)]
      exact h9 q j q0 q1 j0 j1
theorem fx_Rv_add {F G : Int → Int → Int} {w : Int → Int} {a b c : Int} (n : 0 ≤ w 1 ∧ w 1 < 40) (h : fx_Rv F 1 w) (e0 : G 2 0 = F 2 0 + 1) (e : ∀ i : Int, G 3 i = (if i = F 2 0 then a else F 3 i) ∧ G 4 i = (if i = F 2 0 then b else F 4 i) ∧ G 5 i = (if i = F 2 0 then c else F 5 i)) : fx_Rv G 1 (fx_viw w a b c) := by
  obtain ⟨h1, h2, h3, h4⟩ := h
  have h1 : F 2 0 = w 1 := h1
  rw [h1] at e0 e
  have k : ∀ i : Int, ¬ i = 1 → ¬ (20 + 4 * w 1 ≤ i ∧ i < 24 + 4 * w 1) → fx_viw w a b c i = w i := fun i u v => by
    unfold fx_viw
    rw [if_neg u, if_neg (by omega), if_neg (by omega), if_neg (by omega), if_neg (by omega)]
  have k1 : fx_viw w a b c 1 = w 1 + 1 := by unfold fx_viw; rw [if_pos rfl]
  have g0 : fx_viw w a b c (20 + 4 * w 1) = a := by unfold fx_viw; rw [if_neg (by omega), if_pos rfl]
  have g1 : fx_viw w a b c (21 + 4 * w 1) = b := by unfold fx_viw; rw [if_neg (by omega), if_neg (by omega), if_pos rfl]
  have g2 : fx_viw w a b c (22 + 4 * w 1) = c := by unfold fx_viw; rw [if_neg (by omega), if_neg (by omega), if_neg (by omega), if_pos rfl]
  refine ⟨?_, ?_, ?_, ?_⟩
  · rw [k1]; exact e0
  · rw [k1]; exact fx_Co_app h2 (fun q => (e q).1) (fun q q0 q1 => k _ (by omega) (by omega)) g0
  · rw [k1]; exact fx_Co_app h3 (fun q => (e q).2.1) (fun q q0 q1 => k _ (by omega) (by omega)) g1
  · rw [k1]; exact fx_Co_app h4 (fun q => (e q).2.2) (fun q q0 q1 => k _ (by omega) (by omega)) g2
theorem fx_Rm_add {F G : Int → Int → Int} {w : Int → Int} {a b : Int} (n : 0 ≤ w 6 ∧ w 6 < 40) (h : fx_Rm F 1 w) (e0 : G 2 4 = F 2 4 + 1) (e : ∀ i : Int, G 6 i = (if i = F 2 4 then a else F 6 i) ∧ G 7 i = (if i = F 2 4 then b else F 7 i) ∧ G 8 i = (if i = F 2 4 then w 0 else F 8 i)) : fx_Rm G 1 (fx_mow w a b) := by
  obtain ⟨h1, h2, h3, h4⟩ := h
  have h1 : F 2 4 = w 6 := h1
  rw [h1] at e0 e
  have k : ∀ i : Int, ¬ i = 6 → ¬ (180 + 3 * w 6 ≤ i ∧ i < 183 + 3 * w 6) → fx_mow w a b i = w i := fun i u v => by
    unfold fx_mow
    rw [if_neg u, if_neg (by omega), if_neg (by omega), if_neg (by omega)]
  have k1 : fx_mow w a b 6 = w 6 + 1 := by unfold fx_mow; rw [if_pos rfl]
  have g0 : fx_mow w a b (180 + 3 * w 6) = a := by unfold fx_mow; rw [if_neg (by omega), if_pos rfl]
  have g1 : fx_mow w a b (181 + 3 * w 6) = b := by unfold fx_mow; rw [if_neg (by omega), if_neg (by omega), if_pos rfl]
  have g2 : fx_mow w a b (182 + 3 * w 6) = w 0 := by unfold fx_mow; rw [if_neg (by omega), if_neg (by omega), if_neg (by omega), if_pos rfl]
  refine ⟨?_, ?_, ?_, ?_⟩
  · rw [k1]; exact e0
  · rw [k1]; exact fx_Co_app h2 (fun q => (e q).1) (fun q q0 q1 => k _ (by omega) (by omega)) g0
  · rw [k1]; exact fx_Co_app h3 (fun q => (e q).2.1) (fun q q0 q1 => k _ (by omega) (by omega)) g1
  · rw [k1]; exact fx_Co_app h4 (fun q => (e q).2.2) (fun q q0 q1 => k _ (by omega) (by omega)) g2
/-- the rows of numbers on both sides -/
def fx_Rs (F : Int → Int → Int) : Prop := (∀ s : Int, F 54 s = F 87 s) ∧ (∀ s : Int, F 53 s = F 88 s) ∧ (∀ i : Int, F 55 i = F 89 i) ∧ ∀ s : Int, 0 ≤ s → s < 4 → -1 ≤ F 87 s ∧ F 87 s ≤ 60
theorem fx_Rs_eq {F G : Int → Int → Int} (h : fx_Rs F) (e : ∀ p i : Int, (53 ≤ p ∧ p ≤ 55) ∨ (87 ≤ p ∧ p ≤ 89) → G p i = F p i) : fx_Rs G := ⟨fun s => by rw [e _ _ (by omega), e _ _ (by omega), h.1], fun s => by rw [e _ _ (by omega), e _ _ (by omega), h.2.1], fun s => by rw [e _ _ (by omega), e _ _ (by omega), h.2.2.1], fun s s0 s1 => by rw [e _ _ (by omega)]; exact h.2.2.2 s s0 s1⟩
/-- images on both sides -/
def fx_IM (S : fx_S) : Prop := (∀ k : Int, 0 ≤ k → k < 3 → (S.1 69 k = 0 ∧ S.2.1 49 k = -1) ∨ (S.1 69 k ≠ 0 ∧ 91 ≤ S.2.1 49 k ∧ S.2.1 49 k + 48 ≤ S.2.2 ∧ fx_RR S.1 (S.2.1 49 k) (fun i => S.1 68 (8090 * k + i)))) ∧ ∀ k l : Int, 0 ≤ k → k < 3 → 0 ≤ l → l < 3 → ¬ k = l → S.2.1 49 k = -1 ∨ S.2.1 49 l = -1 ∨ S.2.1 49 k + 48 ≤ S.2.1 49 l ∨ S.2.1 49 l + 48 ≤ S.2.1 49 k
/-- the class and the reference between two calls -/
def fx_RI (S : fx_S) : Prop := fx_WB S ∧ 91 ≤ S.2.2 ∧ fx_Rs S.1 ∧ fx_RR S.1 1 (S.1 67) ∧ fx_IM S
theorem fx_iW {S : fx_S} (h : fx_RI S) : fx_WB S := h.1
theorem fx_iN {S : fx_S} (h : fx_RI S) : 91 ≤ S.2.2 := h.2.1
theorem fx_iS {S : fx_S} (h : fx_RI S) : fx_Rs S.1 := h.2.2.1
theorem fx_iR {S : fx_S} (h : fx_RI S) : fx_RR S.1 1 (S.1 67) := h.2.2.2.1
theorem fx_iI {S : fx_S} (h : fx_RI S) : fx_IM S := h.2.2.2.2
theorem fx_iRd {S : fx_S} (h : fx_RI S) : fx_Rd S.1 1 (S.1 67) := (fx_iR h).1
theorem fx_iRv {S : fx_S} (h : fx_RI S) : fx_Rv S.1 1 (S.1 67) := (fx_iR h).2.1
theorem fx_iRm {S : fx_S} (h : fx_RI S) : fx_Rm S.1 1 (S.1 67) := (fx_iR h).2.2.1
theorem fx_iRp {S : fx_S} (h : fx_RI S) : fx_Rp S.1 1 (S.1 67) := (fx_iR h).2.2.2.1
theorem fx_iRh {S : fx_S} (h : fx_RI S) : fx_Rh S.1 1 (S.1 67) := (fx_iR h).2.2.2.2
theorem fx_RI_step {S Z : fx_S} (h : fx_RI S) (b : fx_WB Z) (er : ∀ k : Int, Z.2.1 49 k = S.2.1 49 k) (en : S.2.2 ≤ Z.2.2) (ei : ∀ p i : Int, 91 ≤ p → p < S.2.2 → Z.1 p i = S.1 p i) (e8 : ∀ i : Int, Z.1 68 i = S.1 68 i) (e9 : ∀ i : Int, Z.1 69 i = S.1 69 i) (s : fx_Rs Z.1) (r : fx_RR Z.1 1 (Z.1 67)) : fx_RI Z := by
  obtain ⟨hb, hn, hs, hr, hi, hd⟩ := h
  refine ⟨b, by omega, s, r, fun k k0 k1 => ?_, fun k l k0 k1 l0 l1 kl => ?_⟩
  · rw [er, e9]
    rcases hi k k0 k1 with q | ⟨q1, q2, q3, q4⟩
    · exact .inl q
    · exact .inr ⟨q1, q2, by omega, fx_RR_eq (hb.2 k k0 k1 q1) q4 (fun j i t => ei _ _ (by unfold fx_tb at t; omega) (by unfold fx_tb at t; omega)) (fun i _ _ => e8 _)⟩
  · rw [er, er]
    exact hd k l k0 k1 l0 l1 kl
/-- what keep did on both sides -/
theorem fx_RI_keep {S A Z : fx_S} {x v : Int} (h : fx_RI S) (x0 : 0 ≤ x) (x1 : x < 3) (hv : (S.2.1 49 x = -1 ∧ v = S.2.2 ∧ A.2.2 = S.2.2 + 48) ∨ (¬ S.2.1 49 x = -1 ∧ v = S.2.1 49 x ∧ A.2.2 = S.2.2)) (ar : ∀ k : Int, A.2.1 49 k = if k = x then v else S.2.1 49 k) (af : ∀ p i : Int, ¬ (v ≤ p ∧ p < v + 48) → A.1 p i = S.1 p i) (ac : ∀ j i : Int, fx_tb j i → A.1 (v + j) i = S.1 (1 + j) i) (zr : Z.2 = A.2) (zf : ∀ p i : Int, ¬ (p = 68 ∨ p = 69) → Z.1 p i = A.1 p i) (z9 : ∀ k : Int, Z.1 69 k = if k = x then 1 else A.1 69 k) (z8 : ∀ i : Int, Z.1 68 i = if 8090 * x ≤ i ∧ i < 8090 * x + 8090 then A.1 67 (i - 8090 * x) else A.1 68 i) : fx_RI Z := by
  obtain ⟨hb, hn, hs, hr, hi, hd⟩ := h
  have v0 : 91 ≤ v := by
    rcases hv with q | q
    · omega
    · rcases hi x x0 x1 with u | u
      · omega
      · omega
  have vn : v + 48 ≤ A.2.2 ∧ S.2.2 ≤ A.2.2 := by
    rcases hv with q | q
    · omega
    · rcases hi x x0 x1 with u | u
      · omega
      · omega
  have e7 : ∀ i, Z.1 67 i = S.1 67 i := fun i => (zf 67 i (by omega)).trans (af 67 i (by omega))
  have e9 : ∀ k : Int, ¬ k = x → Z.1 69 k = S.1 69 k := fun k hk => by rw [z9, if_neg hk, af 69 k (by omega)]
  have e9x : ¬ Z.1 69 x = 0 := by rw [z9, if_pos rfl]; omega
  have e8x : ∀ i : Int, 0 ≤ i → i < 8090 → Z.1 68 (8090 * x + i) = S.1 67 i := fun i i0 i1 => by rw [z8, if_pos (by omega), show 8090 * x + i - 8090 * x = i by omega, af 67 i (by omega)]
  have e8 : ∀ k i : Int, ¬ k = x → 0 ≤ i → i < 8090 → Z.1 68 (8090 * k + i) = S.1 68 (8090 * k + i) := fun k i hk i0 i1 => by rw [z8, if_neg (by omega), af 68 _ (by omega)]
  have er : ∀ k : Int, Z.2.1 49 k = if k = x then v else S.2.1 49 k := fun k => by rw [zr, ar]
  have hap : ∀ k : Int, 0 ≤ k → k < 3 → ¬ k = x → S.2.1 49 k = -1 ∨ (91 ≤ S.2.1 49 k ∧ S.2.1 49 k + 48 ≤ S.2.2 ∧ (S.2.1 49 k + 48 ≤ v ∨ v + 48 ≤ S.2.1 49 k)) := fun k k0 k1 kx => by
    rcases hi k k0 k1 with u | u
    · exact .inl u.2
    · rcases hv with q | q
      · exact .inr ⟨u.2.1, u.2.2.1, by omega⟩
      · have := hd k x k0 k1 x0 x1 kx
        exact .inr ⟨u.2.1, u.2.2.1, by omega⟩
  refine ⟨⟨fx_WBf_eq hb.1 (fun i _ _ => e7 i), fun k k0 k1 k2 => ?_⟩, by rw [zr]; omega, fx_Rs_eq hs (fun p i hp => (zf _ _ (by omega)).trans (af _ _ (by omega))), fx_RR_eq hb.1 hr (fun j i t => ?_) (fun i _ _ => e7 i), fun k k0 k1 => ?_, fun k l k0 k1 l0 l1 kl => ?_⟩
  · by_cases hk : k = x
    · subst hk
      exact fx_WBf_eq hb.1 (fun i i0 i1 => e8x i i0 i1)
    · rw [e9 k hk] at k2
      exact fx_WBf_eq (hb.2 k k0 k1 k2) (fun i i0 i1 => e8 k i hk i0 i1)
  · unfold fx_tb at t
    rw [zf _ _ (by omega), af _ _ (by omega)]
  · by_cases hk : k = x
    · subst hk
      refine .inr ⟨e9x, ?_, ?_, ?_⟩
      · rw [er, if_pos rfl]; exact v0
      · rw [er, if_pos rfl, zr]; exact vn.1
      · rw [er, if_pos rfl]
        exact fx_RR_eq hb.1 hr (fun j i t => by rw [zf _ _ (by unfold fx_tb at t; omega), ac j i t]) (fun i i0 i1 => e8x i i0 i1)
    · rw [er, if_neg hk, e9 k hk]
      rcases hi k k0 k1 with q | ⟨q1, q2, q3, q4⟩
      · exact .inl q
      · refine .inr ⟨q1, q2, by rw [zr]; omega, fx_RR_eq (hb.2 k k0 k1 q1) q4 (fun j i t => ?_) (fun i i0 i1 => e8 k i hk i0 i1)⟩
        have := hap k k0 k1 hk
        unfold fx_tb at t
        rw [zf _ _ (by omega), af _ _ (by omega)]
  · rw [er, er]
    by_cases hk : k = x
    · rw [if_pos hk, if_neg (by omega)]
      have := hap l l0 l1 (by omega)
      omega
    · rw [if_neg hk]
      by_cases hl : l = x
      · rw [if_pos hl]
        have := hap k k0 k1 hk
        omega
      · rw [if_neg hl]
        exact hd k l k0 k1 l0 l1 kl
/-- what back did on both sides -/
theorem fx_RI_back {S A Z : fx_S} {x : Int} (h : fx_RI S) (x0 : 0 ≤ x) (x1 : x < 3) (hx : ¬ S.1 69 x = 0) (ar : ∀ k : Int, A.2.1 49 k = S.2.1 49 k) (an : A.2.2 = S.2.2) (af : ∀ p i : Int, ¬ (1 ≤ p ∧ p < 49) → A.1 p i = S.1 p i) (ac : ∀ j i : Int, fx_tb j i → A.1 (1 + j) i = S.1 (S.2.1 49 x + j) i) (zr : Z.2 = A.2) (zf : ∀ p i : Int, ¬ (p = 67) → Z.1 p i = A.1 p i) (z7 : ∀ i : Int, Z.1 67 i = if 0 ≤ i ∧ i < 8090 then A.1 68 (8090 * x + i) else A.1 67 i) : fx_RI Z := by
  obtain ⟨hb, hn, hs, hr, hi, hd⟩ := h
  obtain ⟨q1, q2, q3, q4⟩ := (hi x x0 x1).resolve_left (fun q => hx q.1)
  have e8 : ∀ i, Z.1 68 i = S.1 68 i := fun i => (zf _ _ (by omega)).trans (af _ _ (by omega))
  have e9 : ∀ i, Z.1 69 i = S.1 69 i := fun i => (zf _ _ (by omega)).trans (af _ _ (by omega))
  have e7 : ∀ i : Int, 0 ≤ i → i < 8090 → Z.1 67 i = S.1 68 (8090 * x + i) := fun i i0 i1 => by rw [z7, if_pos ⟨i0, i1⟩, af _ _ (by omega)]
  have b := hb.2 x x0 x1 hx
  have B : fx_WB Z := ⟨fx_WBf_eq b (fun i i0 i1 => e7 i i0 i1), fun k k0 k1 k2 => by
    rw [e9] at k2
    exact fx_WBf_eq (hb.2 k k0 k1 k2) (fun i _ _ => e8 _)⟩
  refine fx_RI_step ⟨hb, hn, hs, hr, hi, hd⟩ B (fun k => by rw [zr, ar]) (by rw [zr, an]; omega) (fun p i p0 p1 => (zf _ _ (by omega)).trans (af _ _ (by omega))) e8 e9 (fx_Rs_eq hs (fun p i hp => (zf _ _ (by omega)).trans (af _ _ (by omega)))) (fx_RR_eq b q4 (fun j i t => ?_) (fun i i0 i1 => e7 i i0 i1))
  rw [zf _ _ (by unfold fx_tb at t; omega), ac j i t]
