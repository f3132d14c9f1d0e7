/-! FX: numbers in plain words -/
theorem fx_w32 {k : Int} (h1 : -2147483648 ≤ k) (h2 : k ≤ 2147483647) : (Int32.ofInt k).toInt = k := by
  rw [Int32.toInt_ofInt]
  apply Int.bmod_eq_of_le
  · show -(((2 ^ 32 : Nat) : Int) / 2) ≤ k; omega
  · show k < ((((2 ^ 32 : Nat) : Int) + 1) / 2); omega
theorem fx_add_eq {x y : Int} (h1 : -2147483648 ≤ x + y) (h2 : x + y ≤ 2147483647) : fx_add x y = x + y := by
  unfold fx_add
  rw [← Int32.ofInt_add]
  exact fx_w32 h1 h2
theorem fx_sub_eq {x y : Int} (h1 : -2147483648 ≤ x - y) (h2 : x - y ≤ 2147483647) : fx_sub x y = x - y := by
  unfold fx_sub
  rw [← Int32.ofInt_sub]
  exact fx_w32 h1 h2
theorem fx_mul_eq {x y : Int} (h1 : -2147483648 ≤ x * y) (h2 : x * y ≤ 2147483647) : fx_mul x y = x * y := by
  unfold fx_mul
  rw [← Int32.ofInt_mul]
  exact fx_w32 h1 h2
theorem fx_neg_eq {x : Int} (h1 : -2147483648 ≤ -x) (h2 : -x ≤ 2147483647) : fx_neg x = -x := by
  unfold fx_neg
  rw [← Int32.ofInt_neg]
  exact fx_w32 h1 h2
theorem fx_up_at (F : Int → Int → Int) (p i v : Int) : fx_up F p i v p i = v := if_pos ⟨rfl, rfl⟩
theorem fx_up_ne {F : Int → Int → Int} {p i v q j : Int} (h : ¬ (q = p ∧ j = i)) : fx_up F p i v q j = F q j := if_neg h
theorem fx_up_pos {F : Int → Int → Int} {p i v q j : Int} (h : q = p ∧ j = i) : fx_up F p i v q j = v := if_pos h
theorem fx_up_eq {F : Int → Int → Int} {p i v q j : Int} : fx_up F p i v q j = if q = p ∧ j = i then v else F q j := rfl
theorem fx_len0 {zs : List Int} (h : zs.length = 0) : zs = [] := List.eq_nil_of_length_eq_zero h
theorem fx_len1 {zs : List Int} (h : zs.length = 1) : ∃ a, zs = [a] := by
  match zs, h with
  | [a], _ => exact ⟨a, rfl⟩
theorem fx_len2 {zs : List Int} (h : zs.length = 2) : ∃ a b, zs = [a, b] := by
  match zs, h with
  | [a, b], _ => exact ⟨a, b, rfl⟩
theorem fx_len3 {zs : List Int} (h : zs.length = 3) : ∃ a b c, zs = [a, b, c] := by
  match zs, h with
  | [a, b, c], _ => exact ⟨a, b, c, rfl⟩
theorem fx_len4 {zs : List Int} (h : zs.length = 4) : ∃ a b c d, zs = [a, b, c, d] := by
  match zs, h with
  | [a, b, c, d], _ => exact ⟨a, b, c, d, rfl⟩
theorem fx_len5 {zs : List Int} (h : zs.length = 5) : ∃ a b c d e, zs = [a, b, c, d, e] := by
  match zs, h with
  | [a, b, c, d, e], _ => exact ⟨a, b, c, d, e, rfl⟩
theorem fx_len6 {zs : List Int} (h : zs.length = 6) : ∃ a b c d e f, zs = [a, b, c, d, e, f] := by
  match zs, h with
  | [a, b, c, d, e, f], _ => exact ⟨a, b, c, d, e, f, rfl⟩
theorem fx_len7 {zs : List Int} (h : zs.length = 7) : ∃ a b c d e f g, zs = [a, b, c, d, e, f, g] := by
  match zs, h with
  | [a, b, c, d, e, f, g], _ => exact ⟨a, b, c, d, e, f, g, rfl⟩
theorem fx_len8 {zs : List Int} (h : zs.length = 8) : ∃ a b c d e f g i, zs = [a, b, c, d, e, f, g, i] := by
  match zs, h with
  | [a, b, c, d, e, f, g, i], _ => exact ⟨a, b, c, d, e, f, g, i, rfl⟩
theorem fx_triv {M : fx_M} {k : Nat} {zs : List Int} {S : fx_S} {ps : List fx_Pa} (h : ∀ (z : Int) (S' : fx_S), M.2.1 k S zs z S') : ∀ p ∈ ps, fx_VC M k zs S p := by
  intro p _
  obtain ⟨ev, x⟩ := p
  refine fx_d_true fun ν S' => ?_
  rcases x with o | ⟨k', ops⟩
  · exact h _ _
  · exact fun z S'' _ _ _ => h _ _
/-- z is the last number below n of which P holds; -1 -/
def fx_isl (P : Int → Prop) (n z : Int) : Prop := (z = -1 ∧ ∀ i : Int, 0 ≤ i → i < n → ¬ P i) ∨ (0 ≤ z ∧ z < n ∧ P z ∧ ∀ i : Int, z < i → i < n → ¬ P i)
theorem fx_isl_no {P : Int → Prop} {n z : Int} (h : fx_isl P n z) (hn : ¬ P n) : fx_isl P (n + 1) z := by
  rcases h with ⟨h1, h2⟩ | ⟨h1, h2, h3, h4⟩
  · refine .inl ⟨h1, fun i i0 i1 => ?_⟩
    by_cases hi : i = n
    · rw [hi]; exact hn
    · exact h2 i i0 (by omega)
  · refine .inr ⟨h1, by omega, h3, fun i i0 i1 => ?_⟩
    by_cases hi : i = n
    · rw [hi]; exact hn
    · exact h4 i i0 (by omega)
/-- the reference's world: its counts and its statutes' rows are in their bounds -/
def fx_WBf (w : Int → Int) : Prop := (0 ≤ w 1 ∧ w 1 ≤ 40) ∧ (0 ≤ w 2 ∧ w 2 ≤ 80) ∧ (0 ≤ w 3 ∧ w 3 ≤ 10) ∧ (0 ≤ w 4 ∧ w 4 ≤ 20) ∧ (0 ≤ w 5 ∧ w 5 ≤ 12) ∧ (0 ≤ w 6 ∧ w 6 ≤ 40) ∧ (0 ≤ w 7 ∧ w 7 ≤ 300) ∧ (0 ≤ w 10 ∧ w 10 ≤ 7) ∧ (0 ≤ w 11 ∧ w 11 ≤ 7) ∧ (∀ q : Int, 0 ≤ q → q < w 2 → 0 ≤ w (305 + 10 * q) ∧ w (305 + 10 * q) ≤ 4) ∧ ∀ s : Int, 0 ≤ s → s < w 3 → w (1103 + 260 * s) ≤ 16 ∧ ∀ l : Int, 0 ≤ l → l < w (1103 + 260 * s) → w (1104 + 260 * s + 16 * l) = 0 → 0 ≤ w (1105 + 260 * s + 16 * l) ∧ w (1105 + 260 * s + 16 * l) ≤ 3
theorem fx_WBf_up {w : Int → Int} {i v : Int} (h : fx_WBf w) (h3 : ¬ i = 3) (h1 : i = 1 → 0 ≤ v ∧ v ≤ 40) (h2 : i = 2 → 0 ≤ v ∧ v ≤ 80) (h4 : i = 4 → 0 ≤ v ∧ v ≤ 20) (h5 : i = 5 → 0 ≤ v ∧ v ≤ 12) (h6 : i = 6 → 0 ≤ v ∧ v ≤ 40) (h7 : i = 7 → 0 ≤ v ∧ v ≤ 300) (h10 : i = 10 → 0 ≤ v ∧ v ≤ 7) (h11 : i = 11 → 0 ≤ v ∧ v ≤ 7) (hs : 1100 ≤ i → i < 3700 → (i - 1100) % 260 = 2) (hw : 300 ≤ i → i < 1100 → (i - 300) % 10 = 5 → 0 ≤ v ∧ v ≤ 4) (hq : i = 2 → ∀ q : Int, 0 ≤ q → q < v → 0 ≤ w (305 + 10 * q) ∧ w (305 + 10 * q) ≤ 4) : fx_WBf (fun j => if j = i then v else w j) := by
  obtain ⟨a1, a2, a3, a4, a5, a6, a7, a10, a11, aw, as⟩ := h
  refine ⟨?_, ?_, ?_, ?_, ?_, ?_, ?_, ?_, ?_, fun q q0 q1 => ?_, fun s s0 s1 => ?_⟩
  · show 0 ≤ (if (1 : Int) = i then v else w 1) ∧ (if (1 : Int) = i then v else w 1) ≤ 40
    split
    · exact h1 (by omega)
    · exact a1
  · show 0 ≤ (if (2 : Int) = i then v else w 2) ∧ (if (2 : Int) = i then v else w 2) ≤ 80
    split
    · exact h2 (by omega)
    · exact a2
  · show 0 ≤ (if (3 : Int) = i then v else w 3) ∧ (if (3 : Int) = i then v else w 3) ≤ 10
    rw [if_neg (by omega)]
    exact a3
  · show 0 ≤ (if (4 : Int) = i then v else w 4) ∧ (if (4 : Int) = i then v else w 4) ≤ 20
    split
    · exact h4 (by omega)
    · exact a4
  · show 0 ≤ (if (5 : Int) = i then v else w 5) ∧ (if (5 : Int) = i then v else w 5) ≤ 12
    split
    · exact h5 (by omega)
    · exact a5
  · show 0 ≤ (if (6 : Int) = i then v else w 6) ∧ (if (6 : Int) = i then v else w 6) ≤ 40
    split
    · exact h6 (by omega)
    · exact a6
  · show 0 ≤ (if (7 : Int) = i then v else w 7) ∧ (if (7 : Int) = i then v else w 7) ≤ 300
    split
    · exact h7 (by omega)
    · exact a7
  · show 0 ≤ (if (10 : Int) = i then v else w 10) ∧ (if (10 : Int) = i then v else w 10) ≤ 7
    split
    · exact h10 (by omega)
    · exact a10
  · show 0 ≤ (if (11 : Int) = i then v else w 11) ∧ (if (11 : Int) = i then v else w 11) ≤ 7
    split
    · exact h11 (by omega)
    · exact a11
  · have q1 : q < (if (2 : Int) = i then v else w 2) := q1
    show 0 ≤ (if 305 + 10 * q = i then v else w (305 + 10 * q)) ∧ (if 305 + 10 * q = i then v else w (305 + 10 * q)) ≤ 4
    by_cases h2i : (2 : Int) = i
    · rw [if_pos h2i] at q1
      rw [if_neg (by omega)]
      exact hq h2i.symm q q0 q1
    · rw [if_neg h2i] at q1
      split
      · exact hw (by omega) (by omega) (by omega)
      · exact aw q q0 q1
  · have s1 : s < (if (3 : Int) = i then v else w 3) := s1
    rw [if_neg (by omega)] at s1
    obtain ⟨b1, b2⟩ := as s s0 s1
    show (if 1103 + 260 * s = i then v else w (1103 + 260 * s)) ≤ 16 ∧ ∀ l : Int, 0 ≤ l → l < (if 1103 + 260 * s = i then v else w (1103 + 260 * s)) → (if 1104 + 260 * s + 16 * l = i then v else w (1104 + 260 * s + 16 * l)) = 0 → 0 ≤ (if 1105 + 260 * s + 16 * l = i then v else w (1105 + 260 * s + 16 * l)) ∧ (if 1105 + 260 * s + 16 * l = i then v else w (1105 + 260 * s + 16 * l)) ≤ 3
    rw [if_neg (by omega)]
    refine ⟨b1, fun l l0 l1 l2 => ?_⟩
    rw [if_neg (by omega)] at l2 ⊢
    exact b2 l l0 l1 l2
/-- the world and the images that there are -/
def fx_WB (S : fx_S) : Prop := fx_WBf (S.1 67) ∧ ∀ k : Int, 0 ≤ k → k < 3 → S.1 69 k ≠ 0 → fx_WBf (fun i => S.1 68 (8090 * k + i))
theorem fx_WB_eq {S Z : fx_S} (h : fx_WB S) (e : ∀ i, Z.1 67 i = S.1 67 i) (e2 : ∀ i, Z.1 68 i = S.1 68 i) (e3 : ∀ i, Z.1 69 i = S.1 69 i) : fx_WB Z := by
  refine ⟨?_, fun k k0 k1 k2 => ?_⟩
  · rw [show Z.1 67 = S.1 67 from funext e]
    exact h.1
  · rw [e3] at k2
    have := h.2 k k0 k1 k2
    rw [show (fun i => Z.1 68 (8090 * k + i)) = (fun i => S.1 68 (8090 * k + i)) from funext fun i => e2 _]
    exact this
theorem fx_WB_up {S : fx_S} {i v : Int} (h : fx_WB S) (h3 : ¬ i = 3) (h1 : i = 1 → 0 ≤ v ∧ v ≤ 40) (h2 : i = 2 → 0 ≤ v ∧ v ≤ 80) (h4 : i = 4 → 0 ≤ v ∧ v ≤ 20) (h5 : i = 5 → 0 ≤ v ∧ v ≤ 12) (h6 : i = 6 → 0 ≤ v ∧ v ≤ 40) (h7 : i = 7 → 0 ≤ v ∧ v ≤ 300) (h10 : i = 10 → 0 ≤ v ∧ v ≤ 7) (h11 : i = 11 → 0 ≤ v ∧ v ≤ 7) (hs : 1100 ≤ i → i < 3700 → (i - 1100) % 260 = 2) (hw : 300 ≤ i → i < 1100 → (i - 300) % 10 = 5 → 0 ≤ v ∧ v ≤ 4) (hq : i = 2 → ∀ q : Int, 0 ≤ q → q < v → 0 ≤ S.1 67 (305 + 10 * q) ∧ S.1 67 (305 + 10 * q) ≤ 4) : fx_WB (fx_up S.1 67 i v, S.2) := by
  refine ⟨?_, fun k k0 k1 k2 => ?_⟩
  · have := fx_WBf_up h.1 h3 h1 h2 h4 h5 h6 h7 h10 h11 hs hw hq
    show fx_WBf (fx_up S.1 67 i v 67)
    rw [show fx_up S.1 67 i v 67 = (fun j => if j = i then v else S.1 67 j) from funext fun j => by
      unfold fx_up
      by_cases hj : j = i
      · rw [if_pos ⟨rfl, hj⟩, if_pos hj]
      · rw [if_neg (fun z => hj z.2), if_neg hj]]
    exact this
  · have e : ∀ j, (fx_up S.1 67 i v) 68 j = S.1 68 j := fun j => if_neg (by omega)
    have e2 : (fx_up S.1 67 i v) 69 k = S.1 69 k := if_neg (by omega)
    have k2 : (fx_up S.1 67 i v) 69 k ≠ 0 := k2
    rw [e2] at k2
    rw [show (fun j => (fx_up S.1 67 i v, S.2).1 68 (8090 * k + j)) = (fun j => S.1 68 (8090 * k + j)) from funext fun j => e _]
    exact h.2 k k0 k1 k2
theorem fx_WB_off {S : fx_S} {p i v : Int} (h : fx_WB S) (hp : ¬ (67 ≤ p ∧ p ≤ 69)) : fx_WB (fx_up S.1 p i v, S.2) := fx_WB_eq h (fun j => if_neg (by omega)) (fun j => if_neg (by omega)) (fun j => if_neg (by omega))
theorem fx_WB_n {S : fx_S} (h : fx_WB S) : (0 ≤ S.1 67 1 ∧ S.1 67 1 ≤ 40) ∧ (0 ≤ S.1 67 2 ∧ S.1 67 2 ≤ 80) ∧ (0 ≤ S.1 67 3 ∧ S.1 67 3 ≤ 10) ∧ (0 ≤ S.1 67 4 ∧ S.1 67 4 ≤ 20) ∧ (0 ≤ S.1 67 5 ∧ S.1 67 5 ≤ 12) ∧ (0 ≤ S.1 67 6 ∧ S.1 67 6 ≤ 40) ∧ (0 ≤ S.1 67 7 ∧ S.1 67 7 ≤ 300) ∧ (0 ≤ S.1 67 10 ∧ S.1 67 10 ≤ 7) ∧ (0 ≤ S.1 67 11 ∧ S.1 67 11 ≤ 7) := by
  obtain ⟨a1, a2, a3, a4, a5, a6, a7, a10, a11, -⟩ := h.1
  exact ⟨a1, a2, a3, a4, a5, a6, a7, a10, a11⟩
theorem fx_WB_w {S : fx_S} (h : fx_WB S) {q : Int} (h0 : 0 ≤ q) (h1 : q < S.1 67 2) : 0 ≤ S.1 67 (305 + 10 * q) ∧ S.1 67 (305 + 10 * q) ≤ 4 := by
  obtain ⟨a1, a2, a3, a4, a5, a6, a7, a10, a11, aw, -⟩ := h.1
  exact aw q h0 h1
theorem fx_in01 {a b x v : Int} (h : v = if a ≤ x ∧ x ≤ b then 1 else 0) : (a ≤ x ∧ x ≤ b ∧ v = 1) ∨ (¬ (a ≤ x ∧ x ≤ b) ∧ v = 0) := by
  by_cases c : a ≤ x ∧ x ≤ b
  · rw [if_pos c] at h
    exact .inl ⟨c.1, c.2, h⟩
  · rw [if_neg c] at h
    exact .inr ⟨c, h⟩
theorem fx_WB_l {S : fx_S} (h : fx_WB S) {s : Int} (h0 : 0 ≤ s) (h1 : s < S.1 67 3) : S.1 67 (1103 + 260 * s) ≤ 16 ∧ ∀ l : Int, 0 ≤ l → l < S.1 67 (1103 + 260 * s) → S.1 67 (1104 + 260 * s + 16 * l) = 0 → 0 ≤ S.1 67 (1105 + 260 * s + 16 * l) ∧ S.1 67 (1105 + 260 * s + 16 * l) ≤ 3 := by
  obtain ⟨a1, a2, a3, a4, a5, a6, a7, a10, a11, aw, as⟩ := h.1
  exact as s h0 h1
/-- a house's rent out of its school's sum, its town's, and the one of an appeal -/
def fx_rent (a b c : Int) : Int := if c = -1 then fx_div (fx_add a b) 2 else if (if a ≤ b then a else b) ≤ (if (if a ≤ b then b else a) ≤ c then (if a ≤ b then b else a) else c) then (if (if a ≤ b then b else a) ≤ c then (if a ≤ b then b else a) else c) else (if a ≤ b then a else b)
theorem fx_add_comm (a b : Int) : fx_add a b = fx_add b a := by
  unfold fx_add
  rw [Int32.add_comm]
