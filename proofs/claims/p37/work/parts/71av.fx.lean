/-! FX: what is to be shown of the entries -/
theorem q288_0 (S : fx_S) (x0 : Int) (hS : fx_Sok S) (g0 : 0 ≤ x0 ∧ x0 < S.2.2) (v1 : Int) (e1 : v1 = S.1 2 0) (b1 : -2147483648 ≤ v1 ∧ v1 ≤ 2147483647) (S1 : fx_S) (d1 : S1 = (fx_up S.1 x0 0 v1, S.2)) (S2 : fx_S) (d2 : S2 = (fx_cy S1.1 3 0 (x0 + 1) 0 40, S1.2)) (S3 : fx_S) (d3 : S3 = (fx_cy S2.1 4 0 (x0 + 2) 0 40, S2.2)) (S4 : fx_S) (d4 : S4 = (fx_cy S3.1 5 0 (x0 + 3) 0 40, S3.2)) (v2 : Int) (e2 : v2 = S4.1 2 4) (b2 : -2147483648 ≤ v2 ∧ v2 ≤ 2147483647) (S5 : fx_S) (d5 : S5 = (fx_up S4.1 x0 4 v2, S4.2)) (S6 : fx_S) (d6 : S6 = (fx_cy S5.1 6 0 (x0 + 4) 0 40, S5.2)) (S7 : fx_S) (d7 : S7 = (fx_cy S6.1 7 0 (x0 + 5) 0 40, S6.2)) (S8 : fx_S) (d8 : S8 = (fx_cy S7.1 8 0 (x0 + 6) 0 40, S7.2)) (v3 : Int) (e3 : v3 = S8.1 2 8) (b3 : -2147483648 ≤ v3 ∧ v3 ≤ 2147483647) (S9 : fx_S) (d9 : S9 = (fx_up S8.1 x0 8 v3, S8.2)) (z : Int) (Z : fx_S) (kz : fx_Sok Z) (bz : z = 0) (pz : s338 S9 x0 0 z Z) : s288 S x0 z Z := by
  unfold s338 at pz
  unfold s288
  intro hx
  have h1 : ∀ p i : Int, ¬ (p = x0 ∧ i = 0) → S1.1 p i = S.1 p i := fun p i hp => by rw [d1]; exact if_neg hp
  have g1 : S1.1 x0 0 = v1 := by rw [d1]; first | exact if_pos ⟨rfl, rfl⟩ | rfl
  have h2 : ∀ p i : Int, ¬ p = (x0 + 1) → S2.1 p i = S1.1 p i := fun p i hp => by rw [d2]; exact if_neg (fun z => hp z.1)
  have g2 : ∀ i : Int, 0 ≤ i → i < 40 → S2.1 (x0 + 1) i = S1.1 3 i := fun i i0 i1 => by rw [d2]; exact (if_pos ⟨rfl, by omega, by omega⟩).trans (by rw [show (0 : Int) + (i - 0) = i by omega])
  have h3 : ∀ p i : Int, ¬ p = (x0 + 2) → S3.1 p i = S2.1 p i := fun p i hp => by rw [d3]; exact if_neg (fun z => hp z.1)
  have g3 : ∀ i : Int, 0 ≤ i → i < 40 → S3.1 (x0 + 2) i = S2.1 4 i := fun i i0 i1 => by rw [d3]; exact (if_pos ⟨rfl, by omega, by omega⟩).trans (by rw [show (0 : Int) + (i - 0) = i by omega])
  have h4 : ∀ p i : Int, ¬ p = (x0 + 3) → S4.1 p i = S3.1 p i := fun p i hp => by rw [d4]; exact if_neg (fun z => hp z.1)
  have g4 : ∀ i : Int, 0 ≤ i → i < 40 → S4.1 (x0 + 3) i = S3.1 5 i := fun i i0 i1 => by rw [d4]; exact (if_pos ⟨rfl, by omega, by omega⟩).trans (by rw [show (0 : Int) + (i - 0) = i by omega])
  have h5 : ∀ p i : Int, ¬ (p = x0 ∧ i = 4) → S5.1 p i = S4.1 p i := fun p i hp => by rw [d5]; exact if_neg hp
  have g5 : S5.1 x0 4 = v2 := by rw [d5]; first | exact if_pos ⟨rfl, rfl⟩ | rfl
  have h6 : ∀ p i : Int, ¬ p = (x0 + 4) → S6.1 p i = S5.1 p i := fun p i hp => by rw [d6]; exact if_neg (fun z => hp z.1)
  have g6 : ∀ i : Int, 0 ≤ i → i < 40 → S6.1 (x0 + 4) i = S5.1 6 i := fun i i0 i1 => by rw [d6]; exact (if_pos ⟨rfl, by omega, by omega⟩).trans (by rw [show (0 : Int) + (i - 0) = i by omega])
  have h7 : ∀ p i : Int, ¬ p = (x0 + 5) → S7.1 p i = S6.1 p i := fun p i hp => by rw [d7]; exact if_neg (fun z => hp z.1)
  have g7 : ∀ i : Int, 0 ≤ i → i < 40 → S7.1 (x0 + 5) i = S6.1 7 i := fun i i0 i1 => by rw [d7]; exact (if_pos ⟨rfl, by omega, by omega⟩).trans (by rw [show (0 : Int) + (i - 0) = i by omega])
  have h8 : ∀ p i : Int, ¬ p = (x0 + 6) → S8.1 p i = S7.1 p i := fun p i hp => by rw [d8]; exact if_neg (fun z => hp z.1)
  have g8 : ∀ i : Int, 0 ≤ i → i < 40 → S8.1 (x0 + 6) i = S7.1 8 i := fun i i0 i1 => by rw [d8]; exact (if_pos ⟨rfl, by omega, by omega⟩).trans (by rw [show (0 : Int) + (i - 0) = i by omega])
  have h9 : ∀ p i : Int, ¬ (p = x0 ∧ i = 8) → S9.1 p i = S8.1 p i := fun p i hp => by rw [d9]; exact if_neg hp
  have g9 : S9.1 x0 8 = v3 := by rw [d9]; first | exact if_pos ⟨rfl, rfl⟩ | rfl
  have rr1 : S1.2 = S.2 := by rw [d1]
  have rr2 : S2.2 = S.2 := by rw [d2]; exact rr1
  have rr3 : S3.2 = S.2 := by rw [d3]; exact rr2
  have rr4 : S4.2 = S.2 := by rw [d4]; exact rr3
  have rr5 : S5.2 = S.2 := by rw [d5]; exact rr4
  have rr6 : S6.2 = S.2 := by rw [d6]; exact rr5
  have rr7 : S7.2 = S.2 := by rw [d7]; exact rr6
  have rr8 : S8.2 = S.2 := by rw [d8]; exact rr7
  have rr9 : S9.2 = S.2 := by rw [d9]; exact rr8
  obtain ⟨tn, tr, tf, tt⟩ := pz hx (by omega)
  refine ⟨by rw [tn, rr9], fun p i => by rw [tr, rr9], fun p i hp => ((((((((((tf p i (by omega))).trans ((h9 p i (by omega)))).trans ((h8 p i (by omega)))).trans ((h7 p i (by omega)))).trans ((h6 p i (by omega)))).trans ((h5 p i (by omega)))).trans ((h4 p i (by omega)))).trans ((h3 p i (by omega)))).trans ((h2 p i (by omega)))).trans ((h1 p i (by omega))), fun j i j0 j1 ht => ?_⟩
  unfold fx_tb at ht
  rcases ht with h | h | h | h | h | h | h | h | h | h | h | h | h | h | h | h | h | h
  · omega
  · obtain ⟨rfl, h⟩ := h
    rcases h with rfl | rfl | rfl
    · rw [show x0 - 1 + 1 = x0 by omega, show (1 : Int) + 1 = 2 by omega]
      exact (((((((((((tf x0 0 (by omega))).trans ((h9 x0 0 (by omega)))).trans ((h8 x0 0 (by omega)))).trans ((h7 x0 0 (by omega)))).trans ((h6 x0 0 (by omega)))).trans ((h5 x0 0 (by omega)))).trans ((h4 x0 0 (by omega)))).trans ((h3 x0 0 (by omega)))).trans ((h2 x0 0 (by omega)))).trans ((g1))).trans ((e1))
    · rw [show x0 - 1 + 1 = x0 by omega, show (1 : Int) + 1 = 2 by omega]
      exact (((((((((((tf x0 4 (by omega))).trans ((h9 x0 4 (by omega)))).trans ((h8 x0 4 (by omega)))).trans ((h7 x0 4 (by omega)))).trans ((h6 x0 4 (by omega)))).trans ((g5))).trans ((e2))).trans ((h4 2 4 (by omega)))).trans ((h3 2 4 (by omega)))).trans ((h2 2 4 (by omega)))).trans ((h1 2 4 (by omega)))
    · rw [show x0 - 1 + 1 = x0 by omega, show (1 : Int) + 1 = 2 by omega]
      exact (((((((((((tf x0 8 (by omega))).trans ((g9))).trans ((e3))).trans ((h8 2 8 (by omega)))).trans ((h7 2 8 (by omega)))).trans ((h6 2 8 (by omega)))).trans ((h5 2 8 (by omega)))).trans ((h4 2 8 (by omega)))).trans ((h3 2 8 (by omega)))).trans ((h2 2 8 (by omega)))).trans ((h1 2 8 (by omega)))
  · obtain ⟨ja, jb, i0, i1⟩ := h
    have hj : j = 2 ∨ j = 3 ∨ j = 4 ∨ j = 5 ∨ j = 6 ∨ j = 7 := by omega
    rcases hj with rfl | rfl | rfl | rfl | rfl | rfl
    · rw [show x0 - 1 + 2 = (x0 + 1) by omega, show (1 : Int) + 2 = 3 by omega]
      exact ((((((((((tf (x0 + 1) i (by omega))).trans ((h9 (x0 + 1) i (by omega)))).trans ((h8 (x0 + 1) i (by omega)))).trans ((h7 (x0 + 1) i (by omega)))).trans ((h6 (x0 + 1) i (by omega)))).trans ((h5 (x0 + 1) i (by omega)))).trans ((h4 (x0 + 1) i (by omega)))).trans ((h3 (x0 + 1) i (by omega)))).trans ((g2 i i0 i1))).trans ((h1 3 i (by omega)))
    · rw [show x0 - 1 + 3 = (x0 + 2) by omega, show (1 : Int) + 3 = 4 by omega]
      exact ((((((((((tf (x0 + 2) i (by omega))).trans ((h9 (x0 + 2) i (by omega)))).trans ((h8 (x0 + 2) i (by omega)))).trans ((h7 (x0 + 2) i (by omega)))).trans ((h6 (x0 + 2) i (by omega)))).trans ((h5 (x0 + 2) i (by omega)))).trans ((h4 (x0 + 2) i (by omega)))).trans ((g3 i i0 i1))).trans ((h2 4 i (by omega)))).trans ((h1 4 i (by omega)))
    · rw [show x0 - 1 + 4 = (x0 + 3) by omega, show (1 : Int) + 4 = 5 by omega]
      exact ((((((((((tf (x0 + 3) i (by omega))).trans ((h9 (x0 + 3) i (by omega)))).trans ((h8 (x0 + 3) i (by omega)))).trans ((h7 (x0 + 3) i (by omega)))).trans ((h6 (x0 + 3) i (by omega)))).trans ((h5 (x0 + 3) i (by omega)))).trans ((g4 i i0 i1))).trans ((h3 5 i (by omega)))).trans ((h2 5 i (by omega)))).trans ((h1 5 i (by omega)))
    · rw [show x0 - 1 + 5 = (x0 + 4) by omega, show (1 : Int) + 5 = 6 by omega]
      exact ((((((((((tf (x0 + 4) i (by omega))).trans ((h9 (x0 + 4) i (by omega)))).trans ((h8 (x0 + 4) i (by omega)))).trans ((h7 (x0 + 4) i (by omega)))).trans ((g6 i i0 i1))).trans ((h5 6 i (by omega)))).trans ((h4 6 i (by omega)))).trans ((h3 6 i (by omega)))).trans ((h2 6 i (by omega)))).trans ((h1 6 i (by omega)))
    · rw [show x0 - 1 + 6 = (x0 + 5) by omega, show (1 : Int) + 6 = 7 by omega]
      exact ((((((((((tf (x0 + 5) i (by omega))).trans ((h9 (x0 + 5) i (by omega)))).trans ((h8 (x0 + 5) i (by omega)))).trans ((g7 i i0 i1))).trans ((h6 7 i (by omega)))).trans ((h5 7 i (by omega)))).trans ((h4 7 i (by omega)))).trans ((h3 7 i (by omega)))).trans ((h2 7 i (by omega)))).trans ((h1 7 i (by omega)))
    · rw [show x0 - 1 + 7 = (x0 + 6) by omega, show (1 : Int) + 7 = 8 by omega]
      exact ((((((((((tf (x0 + 6) i (by omega))).trans ((h9 (x0 + 6) i (by omega)))).trans ((g8 i i0 i1))).trans ((h7 8 i (by omega)))).trans ((h6 8 i (by omega)))).trans ((h5 8 i (by omega)))).trans ((h4 8 i (by omega)))).trans ((h3 8 i (by omega)))).trans ((h2 8 i (by omega)))).trans ((h1 8 i (by omega)))
  · obtain ⟨k0, k1, k2, k3⟩ := h
    exact ((((((((((tt j i (by omega) (by omega) k2 k3)).trans ((h9 (1 + j) i (by omega)))).trans ((h8 (1 + j) i (by omega)))).trans ((h7 (1 + j) i (by omega)))).trans ((h6 (1 + j) i (by omega)))).trans ((h5 (1 + j) i (by omega)))).trans ((h4 (1 + j) i (by omega)))).trans ((h3 (1 + j) i (by omega)))).trans ((h2 (1 + j) i (by omega)))).trans ((h1 (1 + j) i (by omega)))
  · omega
  · omega
  · omega
  · omega
  · omega
  · omega
  · omega
  · omega
  · omega
  · omega
  · omega
  · omega
  · omega
  · omega
theorem q289_0 (S : fx_S) (x0 : Int) (hS : fx_Sok S) (g0 : 0 ≤ x0 ∧ x0 < S.2.2) (v1 : Int) (e1 : v1 = S.1 13 0) (b1 : -2147483648 ≤ v1 ∧ v1 ≤ 2147483647) (S1 : fx_S) (d1 : S1 = (fx_up S.1 x0 0 v1, S.2)) (S2 : fx_S) (d2 : S2 = (fx_cy S1.1 14 0 (x0 + 1) 0 80, S1.2)) (S3 : fx_S) (d3 : S3 = (fx_cy S2.1 15 0 (x0 + 2) 0 80, S2.2)) (S4 : fx_S) (d4 : S4 = (fx_cy S3.1 16 0 (x0 + 3) 0 80, S3.2)) (S5 : fx_S) (d5 : S5 = (fx_cy S4.1 17 0 (x0 + 4) 0 80, S4.2)) (S6 : fx_S) (d6 : S6 = (fx_cy S5.1 18 0 (x0 + 5) 0 80, S5.2)) (S7 : fx_S) (d7 : S7 = (fx_cy S6.1 19 0 (x0 + 6) 0 80, S6.2)) (S8 : fx_S) (d8 : S8 = (fx_cy S7.1 20 0 (x0 + 7) 0 320, S7.2)) : s289 S x0 0 S8 := by
  refine ⟨((show S8.2 = S7.2 by rw [d8])).trans (((show S7.2 = S6.2 by rw [d7])).trans (((show S6.2 = S5.2 by rw [d6])).trans (((show S5.2 = S4.2 by rw [d5])).trans (((show S4.2 = S3.2 by rw [d4])).trans (((show S3.2 = S2.2 by rw [d3])).trans (((show S2.2 = S1.2 by rw [d2])).trans ((show S1.2 = S.2 by rw [d1])))))))), ?_, ?_⟩
  · intro p i hW
    exact ((show S8.1 p i = S7.1 p i by rw [d8]; exact if_neg (by omega))).trans (((show S7.1 p i = S6.1 p i by rw [d7]; exact if_neg (by omega))).trans (((show S6.1 p i = S5.1 p i by rw [d6]; exact if_neg (by omega))).trans (((show S5.1 p i = S4.1 p i by rw [d5]; exact if_neg (by omega))).trans (((show S4.1 p i = S3.1 p i by rw [d4]; exact if_neg (by omega))).trans (((show S3.1 p i = S2.1 p i by rw [d3]; exact if_neg (by omega))).trans (((show S2.1 p i = S1.1 p i by rw [d2]; exact if_neg (by omega))).trans ((show S1.1 p i = S.1 p i by rw [d1]; exact if_neg (by omega)))))))))
  · skip
    intro hx j i j0 j1 ht
    unfold fx_tb at ht
    have h1 : ∀ p i : Int, ¬ (p = x0 ∧ i = 0) → S1.1 p i = S.1 p i := fun p i hp => by rw [d1]; exact if_neg hp
    have g1 : S1.1 x0 0 = v1 := by rw [d1]; first | exact if_pos ⟨rfl, rfl⟩ | rfl
    have h2 : ∀ p i : Int, ¬ p = (x0 + 1) → S2.1 p i = S1.1 p i := fun p i hp => by rw [d2]; exact if_neg (fun z => hp z.1)
    have g2 : ∀ i : Int, 0 ≤ i → i < 80 → S2.1 (x0 + 1) i = S1.1 14 i := fun i i0 i1 => by rw [d2]; exact (if_pos ⟨rfl, by omega, by omega⟩).trans (by rw [show (0 : Int) + (i - 0) = i by omega])
    have h3 : ∀ p i : Int, ¬ p = (x0 + 2) → S3.1 p i = S2.1 p i := fun p i hp => by rw [d3]; exact if_neg (fun z => hp z.1)
    have g3 : ∀ i : Int, 0 ≤ i → i < 80 → S3.1 (x0 + 2) i = S2.1 15 i := fun i i0 i1 => by rw [d3]; exact (if_pos ⟨rfl, by omega, by omega⟩).trans (by rw [show (0 : Int) + (i - 0) = i by omega])
    have h4 : ∀ p i : Int, ¬ p = (x0 + 3) → S4.1 p i = S3.1 p i := fun p i hp => by rw [d4]; exact if_neg (fun z => hp z.1)
    have g4 : ∀ i : Int, 0 ≤ i → i < 80 → S4.1 (x0 + 3) i = S3.1 16 i := fun i i0 i1 => by rw [d4]; exact (if_pos ⟨rfl, by omega, by omega⟩).trans (by rw [show (0 : Int) + (i - 0) = i by omega])
    have h5 : ∀ p i : Int, ¬ p = (x0 + 4) → S5.1 p i = S4.1 p i := fun p i hp => by rw [d5]; exact if_neg (fun z => hp z.1)
    have g5 : ∀ i : Int, 0 ≤ i → i < 80 → S5.1 (x0 + 4) i = S4.1 17 i := fun i i0 i1 => by rw [d5]; exact (if_pos ⟨rfl, by omega, by omega⟩).trans (by rw [show (0 : Int) + (i - 0) = i by omega])
    have h6 : ∀ p i : Int, ¬ p = (x0 + 5) → S6.1 p i = S5.1 p i := fun p i hp => by rw [d6]; exact if_neg (fun z => hp z.1)
    have g6 : ∀ i : Int, 0 ≤ i → i < 80 → S6.1 (x0 + 5) i = S5.1 18 i := fun i i0 i1 => by rw [d6]; exact (if_pos ⟨rfl, by omega, by omega⟩).trans (by rw [show (0 : Int) + (i - 0) = i by omega])
    have h7 : ∀ p i : Int, ¬ p = (x0 + 6) → S7.1 p i = S6.1 p i := fun p i hp => by rw [d7]; exact if_neg (fun z => hp z.1)
    have g7 : ∀ i : Int, 0 ≤ i → i < 80 → S7.1 (x0 + 6) i = S6.1 19 i := fun i i0 i1 => by rw [d7]; exact (if_pos ⟨rfl, by omega, by omega⟩).trans (by rw [show (0 : Int) + (i - 0) = i by omega])
    have h8 : ∀ p i : Int, ¬ p = (x0 + 7) → S8.1 p i = S7.1 p i := fun p i hp => by rw [d8]; exact if_neg (fun z => hp z.1)
    have g8 : ∀ i : Int, 0 ≤ i → i < 320 → S8.1 (x0 + 7) i = S7.1 20 i := fun i i0 i1 => by rw [d8]; exact (if_pos ⟨rfl, by omega, by omega⟩).trans (by rw [show (0 : Int) + (i - 0) = i by omega])
    rcases ht with h | h | h | h | h | h | h | h | h | h | h | h | h | h | h | h | h | h
    · omega
    · omega
    · omega
    · omega
    · obtain ⟨rfl, h⟩ := h
      subst h
      rw [show x0 - 12 + 12 = x0 by omega, show (1 : Int) + 12 = 13 by omega]
      exact (((((((((h8 x0 0 (by omega))).trans ((h7 x0 0 (by omega)))).trans ((h6 x0 0 (by omega)))).trans ((h5 x0 0 (by omega)))).trans ((h4 x0 0 (by omega)))).trans ((h3 x0 0 (by omega)))).trans ((h2 x0 0 (by omega)))).trans ((g1))).trans ((e1))
    · obtain ⟨ja, jb, i0, i1⟩ := h
      have hj : j = 13 ∨ j = 14 ∨ j = 15 ∨ j = 16 ∨ j = 17 ∨ j = 18 := by omega
      rcases hj with rfl | rfl | rfl | rfl | rfl | rfl
      · rw [show x0 - 12 + 13 = (x0 + 1) by omega, show (1 : Int) + 13 = 14 by omega]
        exact ((((((((h8 (x0 + 1) i (by omega))).trans ((h7 (x0 + 1) i (by omega)))).trans ((h6 (x0 + 1) i (by omega)))).trans ((h5 (x0 + 1) i (by omega)))).trans ((h4 (x0 + 1) i (by omega)))).trans ((h3 (x0 + 1) i (by omega)))).trans ((g2 i i0 i1))).trans ((h1 14 i (by omega)))
      · rw [show x0 - 12 + 14 = (x0 + 2) by omega, show (1 : Int) + 14 = 15 by omega]
        exact ((((((((h8 (x0 + 2) i (by omega))).trans ((h7 (x0 + 2) i (by omega)))).trans ((h6 (x0 + 2) i (by omega)))).trans ((h5 (x0 + 2) i (by omega)))).trans ((h4 (x0 + 2) i (by omega)))).trans ((g3 i i0 i1))).trans ((h2 15 i (by omega)))).trans ((h1 15 i (by omega)))
      · rw [show x0 - 12 + 15 = (x0 + 3) by omega, show (1 : Int) + 15 = 16 by omega]
        exact ((((((((h8 (x0 + 3) i (by omega))).trans ((h7 (x0 + 3) i (by omega)))).trans ((h6 (x0 + 3) i (by omega)))).trans ((h5 (x0 + 3) i (by omega)))).trans ((g4 i i0 i1))).trans ((h3 16 i (by omega)))).trans ((h2 16 i (by omega)))).trans ((h1 16 i (by omega)))
      · rw [show x0 - 12 + 16 = (x0 + 4) by omega, show (1 : Int) + 16 = 17 by omega]
        exact ((((((((h8 (x0 + 4) i (by omega))).trans ((h7 (x0 + 4) i (by omega)))).trans ((h6 (x0 + 4) i (by omega)))).trans ((g5 i i0 i1))).trans ((h4 17 i (by omega)))).trans ((h3 17 i (by omega)))).trans ((h2 17 i (by omega)))).trans ((h1 17 i (by omega)))
      · rw [show x0 - 12 + 17 = (x0 + 5) by omega, show (1 : Int) + 17 = 18 by omega]
        exact ((((((((h8 (x0 + 5) i (by omega))).trans ((h7 (x0 + 5) i (by omega)))).trans ((g6 i i0 i1))).trans ((h5 18 i (by omega)))).trans ((h4 18 i (by omega)))).trans ((h3 18 i (by omega)))).trans ((h2 18 i (by omega)))).trans ((h1 18 i (by omega)))
      · rw [show x0 - 12 + 18 = (x0 + 6) by omega, show (1 : Int) + 18 = 19 by omega]
        exact ((((((((h8 (x0 + 6) i (by omega))).trans ((g7 i i0 i1))).trans ((h6 19 i (by omega)))).trans ((h5 19 i (by omega)))).trans ((h4 19 i (by omega)))).trans ((h3 19 i (by omega)))).trans ((h2 19 i (by omega)))).trans ((h1 19 i (by omega)))
    · obtain ⟨rfl, i0, i1⟩ := h
      rw [show x0 - 12 + 19 = (x0 + 7) by omega, show (1 : Int) + 19 = 20 by omega]
      exact ((((((((g8 i i0 i1)).trans ((h7 20 i (by omega)))).trans ((h6 20 i (by omega)))).trans ((h5 20 i (by omega)))).trans ((h4 20 i (by omega)))).trans ((h3 20 i (by omega)))).trans ((h2 20 i (by omega)))).trans ((h1 20 i (by omega)))
    · omega
    · omega
    · omega
    · omega
    · omega
    · omega
    · omega
    · omega
    · omega
    · omega
    · omega
theorem q290_0 (S : fx_S) (x0 : Int) (hS : fx_Sok S) (g0 : 0 ≤ x0 ∧ x0 < S.2.2) (S1 : fx_S) (d1 : S1 = (fx_cy S.1 22 0 (x0 + 1) 0 4, S.2)) (S2 : fx_S) (d2 : S2 = (fx_cy S1.1 23 0 (x0 + 2) 0 4, S1.2)) (v1 : Int) (e1 : v1 = S2.1 21 2) (b1 : -2147483648 ≤ v1 ∧ v1 ≤ 2147483647) (S3 : fx_S) (d3 : S3 = (fx_up S2.1 x0 2 v1, S2.2)) (S4 : fx_S) (d4 : S4 = (fx_cy S3.1 24 0 (x0 + 3) 0 300, S3.2)) (S5 : fx_S) (d5 : S5 = (fx_cy S4.1 25 0 (x0 + 4) 0 300, S4.2)) (S6 : fx_S) (d6 : S6 = (fx_cy S5.1 26 0 (x0 + 5) 0 300, S5.2)) (v2 : Int) (e2 : v2 = S6.1 21 6) (b2 : -2147483648 ≤ v2 ∧ v2 ≤ 2147483647) (S7 : fx_S) (d7 : S7 = (fx_up S6.1 x0 6 v2, S6.2)) (v3 : Int) (e3 : v3 = S7.1 21 7) (b3 : -2147483648 ≤ v3 ∧ v3 ≤ 2147483647) (S8 : fx_S) (d8 : S8 = (fx_up S7.1 x0 7 v3, S7.2)) : s290 S x0 0 S8 := by
  refine ⟨((show S8.2 = S7.2 by rw [d8])).trans (((show S7.2 = S6.2 by rw [d7])).trans (((show S6.2 = S5.2 by rw [d6])).trans (((show S5.2 = S4.2 by rw [d5])).trans (((show S4.2 = S3.2 by rw [d4])).trans (((show S3.2 = S2.2 by rw [d3])).trans (((show S2.2 = S1.2 by rw [d2])).trans ((show S1.2 = S.2 by rw [d1])))))))), ?_, ?_⟩
  · intro p i hW
    exact ((show S8.1 p i = S7.1 p i by rw [d8]; exact if_neg (by omega))).trans (((show S7.1 p i = S6.1 p i by rw [d7]; exact if_neg (by omega))).trans (((show S6.1 p i = S5.1 p i by rw [d6]; exact if_neg (by omega))).trans (((show S5.1 p i = S4.1 p i by rw [d5]; exact if_neg (by omega))).trans (((show S4.1 p i = S3.1 p i by rw [d4]; exact if_neg (by omega))).trans (((show S3.1 p i = S2.1 p i by rw [d3]; exact if_neg (by omega))).trans (((show S2.1 p i = S1.1 p i by rw [d2]; exact if_neg (by omega))).trans ((show S1.1 p i = S.1 p i by rw [d1]; exact if_neg (by omega)))))))))
  · skip
    intro hx j i j0 j1 ht
    unfold fx_tb at ht
    have h1 : ∀ p i : Int, ¬ p = (x0 + 1) → S1.1 p i = S.1 p i := fun p i hp => by rw [d1]; exact if_neg (fun z => hp z.1)
    have g1 : ∀ i : Int, 0 ≤ i → i < 4 → S1.1 (x0 + 1) i = S.1 22 i := fun i i0 i1 => by rw [d1]; exact (if_pos ⟨rfl, by omega, by omega⟩).trans (by rw [show (0 : Int) + (i - 0) = i by omega])
    have h2 : ∀ p i : Int, ¬ p = (x0 + 2) → S2.1 p i = S1.1 p i := fun p i hp => by rw [d2]; exact if_neg (fun z => hp z.1)
    have g2 : ∀ i : Int, 0 ≤ i → i < 4 → S2.1 (x0 + 2) i = S1.1 23 i := fun i i0 i1 => by rw [d2]; exact (if_pos ⟨rfl, by omega, by omega⟩).trans (by rw [show (0 : Int) + (i - 0) = i by omega])
    have h3 : ∀ p i : Int, ¬ (p = x0 ∧ i = 2) → S3.1 p i = S2.1 p i := fun p i hp => by rw [d3]; exact if_neg hp
    have g3 : S3.1 x0 2 = v1 := by rw [d3]; first | exact if_pos ⟨rfl, rfl⟩ | rfl
    have h4 : ∀ p i : Int, ¬ p = (x0 + 3) → S4.1 p i = S3.1 p i := fun p i hp => by rw [d4]; exact if_neg (fun z => hp z.1)
    have g4 : ∀ i : Int, 0 ≤ i → i < 300 → S4.1 (x0 + 3) i = S3.1 24 i := fun i i0 i1 => by rw [d4]; exact (if_pos ⟨rfl, by omega, by omega⟩).trans (by rw [show (0 : Int) + (i - 0) = i by omega])
    have h5 : ∀ p i : Int, ¬ p = (x0 + 4) → S5.1 p i = S4.1 p i := fun p i hp => by rw [d5]; exact if_neg (fun z => hp z.1)
    have g5 : ∀ i : Int, 0 ≤ i → i < 300 → S5.1 (x0 + 4) i = S4.1 25 i := fun i i0 i1 => by rw [d5]; exact (if_pos ⟨rfl, by omega, by omega⟩).trans (by rw [show (0 : Int) + (i - 0) = i by omega])
    have h6 : ∀ p i : Int, ¬ p = (x0 + 5) → S6.1 p i = S5.1 p i := fun p i hp => by rw [d6]; exact if_neg (fun z => hp z.1)
    have g6 : ∀ i : Int, 0 ≤ i → i < 300 → S6.1 (x0 + 5) i = S5.1 26 i := fun i i0 i1 => by rw [d6]; exact (if_pos ⟨rfl, by omega, by omega⟩).trans (by rw [show (0 : Int) + (i - 0) = i by omega])
    have h7 : ∀ p i : Int, ¬ (p = x0 ∧ i = 6) → S7.1 p i = S6.1 p i := fun p i hp => by rw [d7]; exact if_neg hp
    have g7 : S7.1 x0 6 = v2 := by rw [d7]; first | exact if_pos ⟨rfl, rfl⟩ | rfl
    have h8 : ∀ p i : Int, ¬ (p = x0 ∧ i = 7) → S8.1 p i = S7.1 p i := fun p i hp => by rw [d8]; exact if_neg hp
    have g8 : S8.1 x0 7 = v3 := by rw [d8]; first | exact if_pos ⟨rfl, rfl⟩ | rfl
    rcases ht with h | h | h | h | h | h | h | h | h | h | h | h | h | h | h | h | h | h
    · omega
    · omega
    · omega
    · omega
    · omega
    · omega
    · omega
    · obtain ⟨rfl, h⟩ := h
      rcases h with rfl | rfl | rfl
      · rw [show x0 - 20 + 20 = x0 by omega, show (1 : Int) + 20 = 21 by omega]
        exact (((((((((h8 x0 2 (by omega))).trans ((h7 x0 2 (by omega)))).trans ((h6 x0 2 (by omega)))).trans ((h5 x0 2 (by omega)))).trans ((h4 x0 2 (by omega)))).trans ((g3))).trans ((e1))).trans ((h2 21 2 (by omega)))).trans ((h1 21 2 (by omega)))
      · rw [show x0 - 20 + 20 = x0 by omega, show (1 : Int) + 20 = 21 by omega]
        exact (((((((((h8 x0 6 (by omega))).trans ((g7))).trans ((e2))).trans ((h6 21 6 (by omega)))).trans ((h5 21 6 (by omega)))).trans ((h4 21 6 (by omega)))).trans ((h3 21 6 (by omega)))).trans ((h2 21 6 (by omega)))).trans ((h1 21 6 (by omega)))
      · rw [show x0 - 20 + 20 = x0 by omega, show (1 : Int) + 20 = 21 by omega]
        exact (((((((((g8)).trans ((e3))).trans ((h7 21 7 (by omega)))).trans ((h6 21 7 (by omega)))).trans ((h5 21 7 (by omega)))).trans ((h4 21 7 (by omega)))).trans ((h3 21 7 (by omega)))).trans ((h2 21 7 (by omega)))).trans ((h1 21 7 (by omega)))
    · obtain ⟨ja, jb, i0, i1⟩ := h
      have hj : j = 21 ∨ j = 22 := by omega
      rcases hj with rfl | rfl
      · rw [show x0 - 20 + 21 = (x0 + 1) by omega, show (1 : Int) + 21 = 22 by omega]
        exact ((((((((h8 (x0 + 1) i (by omega))).trans ((h7 (x0 + 1) i (by omega)))).trans ((h6 (x0 + 1) i (by omega)))).trans ((h5 (x0 + 1) i (by omega)))).trans ((h4 (x0 + 1) i (by omega)))).trans ((h3 (x0 + 1) i (by omega)))).trans ((h2 (x0 + 1) i (by omega)))).trans ((g1 i i0 i1))
      · rw [show x0 - 20 + 22 = (x0 + 2) by omega, show (1 : Int) + 22 = 23 by omega]
        exact ((((((((h8 (x0 + 2) i (by omega))).trans ((h7 (x0 + 2) i (by omega)))).trans ((h6 (x0 + 2) i (by omega)))).trans ((h5 (x0 + 2) i (by omega)))).trans ((h4 (x0 + 2) i (by omega)))).trans ((h3 (x0 + 2) i (by omega)))).trans ((g2 i i0 i1))).trans ((h1 23 i (by omega)))
    · obtain ⟨ja, jb, i0, i1⟩ := h
      have hj : j = 23 ∨ j = 24 ∨ j = 25 := by omega
      rcases hj with rfl | rfl | rfl
      · rw [show x0 - 20 + 23 = (x0 + 3) by omega, show (1 : Int) + 23 = 24 by omega]
        exact ((((((((h8 (x0 + 3) i (by omega))).trans ((h7 (x0 + 3) i (by omega)))).trans ((h6 (x0 + 3) i (by omega)))).trans ((h5 (x0 + 3) i (by omega)))).trans ((g4 i i0 i1))).trans ((h3 24 i (by omega)))).trans ((h2 24 i (by omega)))).trans ((h1 24 i (by omega)))
      · rw [show x0 - 20 + 24 = (x0 + 4) by omega, show (1 : Int) + 24 = 25 by omega]
        exact ((((((((h8 (x0 + 4) i (by omega))).trans ((h7 (x0 + 4) i (by omega)))).trans ((h6 (x0 + 4) i (by omega)))).trans ((g5 i i0 i1))).trans ((h4 25 i (by omega)))).trans ((h3 25 i (by omega)))).trans ((h2 25 i (by omega)))).trans ((h1 25 i (by omega)))
      · rw [show x0 - 20 + 25 = (x0 + 5) by omega, show (1 : Int) + 25 = 26 by omega]
        exact ((((((((h8 (x0 + 5) i (by omega))).trans ((h7 (x0 + 5) i (by omega)))).trans ((g6 i i0 i1))).trans ((h5 26 i (by omega)))).trans ((h4 26 i (by omega)))).trans ((h3 26 i (by omega)))).trans ((h2 26 i (by omega)))).trans ((h1 26 i (by omega)))
    · omega
    · omega
    · omega
    · omega
    · omega
    · omega
    · omega
    · omega
theorem q291_0 (S : fx_S) (x0 : Int) (hS : fx_Sok S) (g0 : 0 ≤ x0 ∧ x0 < S.2.2) (v1 : Int) (e1 : v1 = S.1 29 0) (b1 : -2147483648 ≤ v1 ∧ v1 ≤ 2147483647) (S1 : fx_S) (d1 : S1 = (fx_up S.1 x0 0 v1, S.2)) (S2 : fx_S) (d2 : S2 = (fx_cy S1.1 30 0 (x0 + 1) 0 20, S1.2)) (S3 : fx_S) (d3 : S3 = (fx_cy S2.1 31 0 (x0 + 2) 0 20, S2.2)) (S4 : fx_S) (d4 : S4 = (fx_cy S3.1 32 0 (x0 + 3) 0 20, S3.2)) (S5 : fx_S) (d5 : S5 = (fx_cy S4.1 33 0 (x0 + 4) 0 20, S4.2)) (S6 : fx_S) (d6 : S6 = (fx_cy S5.1 34 0 (x0 + 5) 0 1600, S5.2)) (S7 : fx_S) (d7 : S7 = (fx_cy S6.1 35 0 (x0 + 6) 0 100, S6.2)) (S8 : fx_S) (d8 : S8 = (fx_cy S7.1 36 0 (x0 + 7) 0 100, S7.2)) : s291 S x0 0 S8 := by
  refine ⟨((show S8.2 = S7.2 by rw [d8])).trans (((show S7.2 = S6.2 by rw [d7])).trans (((show S6.2 = S5.2 by rw [d6])).trans (((show S5.2 = S4.2 by rw [d5])).trans (((show S4.2 = S3.2 by rw [d4])).trans (((show S3.2 = S2.2 by rw [d3])).trans (((show S2.2 = S1.2 by rw [d2])).trans ((show S1.2 = S.2 by rw [d1])))))))), ?_, ?_⟩
  · intro p i hW
    exact ((show S8.1 p i = S7.1 p i by rw [d8]; exact if_neg (by omega))).trans (((show S7.1 p i = S6.1 p i by rw [d7]; exact if_neg (by omega))).trans (((show S6.1 p i = S5.1 p i by rw [d6]; exact if_neg (by omega))).trans (((show S5.1 p i = S4.1 p i by rw [d5]; exact if_neg (by omega))).trans (((show S4.1 p i = S3.1 p i by rw [d4]; exact if_neg (by omega))).trans (((show S3.1 p i = S2.1 p i by rw [d3]; exact if_neg (by omega))).trans (((show S2.1 p i = S1.1 p i by rw [d2]; exact if_neg (by omega))).trans ((show S1.1 p i = S.1 p i by rw [d1]; exact if_neg (by omega)))))))))
  · skip
    intro hx j i j0 j1 ht
    unfold fx_tb at ht
    have h1 : ∀ p i : Int, ¬ (p = x0 ∧ i = 0) → S1.1 p i = S.1 p i := fun p i hp => by rw [d1]; exact if_neg hp
    have g1 : S1.1 x0 0 = v1 := by rw [d1]; first | exact if_pos ⟨rfl, rfl⟩ | rfl
    have h2 : ∀ p i : Int, ¬ p = (x0 + 1) → S2.1 p i = S1.1 p i := fun p i hp => by rw [d2]; exact if_neg (fun z => hp z.1)
    have g2 : ∀ i : Int, 0 ≤ i → i < 20 → S2.1 (x0 + 1) i = S1.1 30 i := fun i i0 i1 => by rw [d2]; exact (if_pos ⟨rfl, by omega, by omega⟩).trans (by rw [show (0 : Int) + (i - 0) = i by omega])
    have h3 : ∀ p i : Int, ¬ p = (x0 + 2) → S3.1 p i = S2.1 p i := fun p i hp => by rw [d3]; exact if_neg (fun z => hp z.1)
    have g3 : ∀ i : Int, 0 ≤ i → i < 20 → S3.1 (x0 + 2) i = S2.1 31 i := fun i i0 i1 => by rw [d3]; exact (if_pos ⟨rfl, by omega, by omega⟩).trans (by rw [show (0 : Int) + (i - 0) = i by omega])
    have h4 : ∀ p i : Int, ¬ p = (x0 + 3) → S4.1 p i = S3.1 p i := fun p i hp => by rw [d4]; exact if_neg (fun z => hp z.1)
    have g4 : ∀ i : Int, 0 ≤ i → i < 20 → S4.1 (x0 + 3) i = S3.1 32 i := fun i i0 i1 => by rw [d4]; exact (if_pos ⟨rfl, by omega, by omega⟩).trans (by rw [show (0 : Int) + (i - 0) = i by omega])
    have h5 : ∀ p i : Int, ¬ p = (x0 + 4) → S5.1 p i = S4.1 p i := fun p i hp => by rw [d5]; exact if_neg (fun z => hp z.1)
    have g5 : ∀ i : Int, 0 ≤ i → i < 20 → S5.1 (x0 + 4) i = S4.1 33 i := fun i i0 i1 => by rw [d5]; exact (if_pos ⟨rfl, by omega, by omega⟩).trans (by rw [show (0 : Int) + (i - 0) = i by omega])
    have h6 : ∀ p i : Int, ¬ p = (x0 + 5) → S6.1 p i = S5.1 p i := fun p i hp => by rw [d6]; exact if_neg (fun z => hp z.1)
    have g6 : ∀ i : Int, 0 ≤ i → i < 1600 → S6.1 (x0 + 5) i = S5.1 34 i := fun i i0 i1 => by rw [d6]; exact (if_pos ⟨rfl, by omega, by omega⟩).trans (by rw [show (0 : Int) + (i - 0) = i by omega])
    have h7 : ∀ p i : Int, ¬ p = (x0 + 6) → S7.1 p i = S6.1 p i := fun p i hp => by rw [d7]; exact if_neg (fun z => hp z.1)
    have g7 : ∀ i : Int, 0 ≤ i → i < 100 → S7.1 (x0 + 6) i = S6.1 35 i := fun i i0 i1 => by rw [d7]; exact (if_pos ⟨rfl, by omega, by omega⟩).trans (by rw [show (0 : Int) + (i - 0) = i by omega])
    have h8 : ∀ p i : Int, ¬ p = (x0 + 7) → S8.1 p i = S7.1 p i := fun p i hp => by rw [d8]; exact if_neg (fun z => hp z.1)
    have g8 : ∀ i : Int, 0 ≤ i → i < 100 → S8.1 (x0 + 7) i = S7.1 36 i := fun i i0 i1 => by rw [d8]; exact (if_pos ⟨rfl, by omega, by omega⟩).trans (by rw [show (0 : Int) + (i - 0) = i by omega])
    rcases ht with h | h | h | h | h | h | h | h | h | h | h | h | h | h | h | h | h | h
    · omega
    · omega
    · omega
    · omega
    · omega
    · omega
    · omega
    · omega
    · omega
    · omega
    · obtain ⟨rfl, h⟩ := h
      subst h
      rw [show x0 - 28 + 28 = x0 by omega, show (1 : Int) + 28 = 29 by omega]
      exact (((((((((h8 x0 0 (by omega))).trans ((h7 x0 0 (by omega)))).trans ((h6 x0 0 (by omega)))).trans ((h5 x0 0 (by omega)))).trans ((h4 x0 0 (by omega)))).trans ((h3 x0 0 (by omega)))).trans ((h2 x0 0 (by omega)))).trans ((g1))).trans ((e1))
    · obtain ⟨ja, jb, i0, i1⟩ := h
      have hj : j = 29 ∨ j = 30 ∨ j = 31 ∨ j = 32 := by omega
      rcases hj with rfl | rfl | rfl | rfl
      · rw [show x0 - 28 + 29 = (x0 + 1) by omega, show (1 : Int) + 29 = 30 by omega]
        exact ((((((((h8 (x0 + 1) i (by omega))).trans ((h7 (x0 + 1) i (by omega)))).trans ((h6 (x0 + 1) i (by omega)))).trans ((h5 (x0 + 1) i (by omega)))).trans ((h4 (x0 + 1) i (by omega)))).trans ((h3 (x0 + 1) i (by omega)))).trans ((g2 i i0 i1))).trans ((h1 30 i (by omega)))
      · rw [show x0 - 28 + 30 = (x0 + 2) by omega, show (1 : Int) + 30 = 31 by omega]
        exact ((((((((h8 (x0 + 2) i (by omega))).trans ((h7 (x0 + 2) i (by omega)))).trans ((h6 (x0 + 2) i (by omega)))).trans ((h5 (x0 + 2) i (by omega)))).trans ((h4 (x0 + 2) i (by omega)))).trans ((g3 i i0 i1))).trans ((h2 31 i (by omega)))).trans ((h1 31 i (by omega)))
      · rw [show x0 - 28 + 31 = (x0 + 3) by omega, show (1 : Int) + 31 = 32 by omega]
        exact ((((((((h8 (x0 + 3) i (by omega))).trans ((h7 (x0 + 3) i (by omega)))).trans ((h6 (x0 + 3) i (by omega)))).trans ((h5 (x0 + 3) i (by omega)))).trans ((g4 i i0 i1))).trans ((h3 32 i (by omega)))).trans ((h2 32 i (by omega)))).trans ((h1 32 i (by omega)))
      · rw [show x0 - 28 + 32 = (x0 + 4) by omega, show (1 : Int) + 32 = 33 by omega]
        exact ((((((((h8 (x0 + 4) i (by omega))).trans ((h7 (x0 + 4) i (by omega)))).trans ((h6 (x0 + 4) i (by omega)))).trans ((g5 i i0 i1))).trans ((h4 33 i (by omega)))).trans ((h3 33 i (by omega)))).trans ((h2 33 i (by omega)))).trans ((h1 33 i (by omega)))
    · obtain ⟨rfl, i0, i1⟩ := h
      rw [show x0 - 28 + 33 = (x0 + 5) by omega, show (1 : Int) + 33 = 34 by omega]
      exact ((((((((h8 (x0 + 5) i (by omega))).trans ((h7 (x0 + 5) i (by omega)))).trans ((g6 i i0 i1))).trans ((h5 34 i (by omega)))).trans ((h4 34 i (by omega)))).trans ((h3 34 i (by omega)))).trans ((h2 34 i (by omega)))).trans ((h1 34 i (by omega)))
    · obtain ⟨ja, jb, i0, i1⟩ := h
      have hj : j = 34 ∨ j = 35 := by omega
      rcases hj with rfl | rfl
      · rw [show x0 - 28 + 34 = (x0 + 6) by omega, show (1 : Int) + 34 = 35 by omega]
        exact ((((((((h8 (x0 + 6) i (by omega))).trans ((g7 i i0 i1))).trans ((h6 35 i (by omega)))).trans ((h5 35 i (by omega)))).trans ((h4 35 i (by omega)))).trans ((h3 35 i (by omega)))).trans ((h2 35 i (by omega)))).trans ((h1 35 i (by omega)))
      · rw [show x0 - 28 + 35 = (x0 + 7) by omega, show (1 : Int) + 35 = 36 by omega]
        exact ((((((((g8 i i0 i1)).trans ((h7 36 i (by omega)))).trans ((h6 36 i (by omega)))).trans ((h5 36 i (by omega)))).trans ((h4 36 i (by omega)))).trans ((h3 36 i (by omega)))).trans ((h2 36 i (by omega)))).trans ((h1 36 i (by omega)))
    · omega
    · omega
    · omega
    · omega
theorem q292_0 (S : fx_S) (x0 : Int) (hS : fx_Sok S) (g0 : 0 ≤ x0 ∧ x0 < S.2.2) (v1 : Int) (e1 : v1 = S.1 38 0) (b1 : -2147483648 ≤ v1 ∧ v1 ≤ 2147483647) (S1 : fx_S) (d1 : S1 = (fx_up S.1 x0 0 v1, S.2)) (S2 : fx_S) (d2 : S2 = (fx_cy S1.1 39 0 (x0 + 1) 0 12, S1.2)) (S3 : fx_S) (d3 : S3 = (fx_cy S2.1 40 0 (x0 + 2) 0 12, S2.2)) (S4 : fx_S) (d4 : S4 = (fx_cy S3.1 41 0 (x0 + 3) 0 12, S3.2)) (S5 : fx_S) (d5 : S5 = (fx_cy S4.1 42 0 (x0 + 4) 0 12, S4.2)) : s292 S x0 0 S5 := by
  refine ⟨((show S5.2 = S4.2 by rw [d5])).trans (((show S4.2 = S3.2 by rw [d4])).trans (((show S3.2 = S2.2 by rw [d3])).trans (((show S2.2 = S1.2 by rw [d2])).trans ((show S1.2 = S.2 by rw [d1]))))), ?_, ?_⟩
  · intro p i hW
    exact ((show S5.1 p i = S4.1 p i by rw [d5]; exact if_neg (by omega))).trans (((show S4.1 p i = S3.1 p i by rw [d4]; exact if_neg (by omega))).trans (((show S3.1 p i = S2.1 p i by rw [d3]; exact if_neg (by omega))).trans (((show S2.1 p i = S1.1 p i by rw [d2]; exact if_neg (by omega))).trans ((show S1.1 p i = S.1 p i by rw [d1]; exact if_neg (by omega))))))
  · skip
    intro hx j i j0 j1 ht
    unfold fx_tb at ht
    have h1 : ∀ p i : Int, ¬ (p = x0 ∧ i = 0) → S1.1 p i = S.1 p i := fun p i hp => by rw [d1]; exact if_neg hp
    have g1 : S1.1 x0 0 = v1 := by rw [d1]; first | exact if_pos ⟨rfl, rfl⟩ | rfl
    have h2 : ∀ p i : Int, ¬ p = (x0 + 1) → S2.1 p i = S1.1 p i := fun p i hp => by rw [d2]; exact if_neg (fun z => hp z.1)
    have g2 : ∀ i : Int, 0 ≤ i → i < 12 → S2.1 (x0 + 1) i = S1.1 39 i := fun i i0 i1 => by rw [d2]; exact (if_pos ⟨rfl, by omega, by omega⟩).trans (by rw [show (0 : Int) + (i - 0) = i by omega])
    have h3 : ∀ p i : Int, ¬ p = (x0 + 2) → S3.1 p i = S2.1 p i := fun p i hp => by rw [d3]; exact if_neg (fun z => hp z.1)
    have g3 : ∀ i : Int, 0 ≤ i → i < 12 → S3.1 (x0 + 2) i = S2.1 40 i := fun i i0 i1 => by rw [d3]; exact (if_pos ⟨rfl, by omega, by omega⟩).trans (by rw [show (0 : Int) + (i - 0) = i by omega])
    have h4 : ∀ p i : Int, ¬ p = (x0 + 3) → S4.1 p i = S3.1 p i := fun p i hp => by rw [d4]; exact if_neg (fun z => hp z.1)
    have g4 : ∀ i : Int, 0 ≤ i → i < 12 → S4.1 (x0 + 3) i = S3.1 41 i := fun i i0 i1 => by rw [d4]; exact (if_pos ⟨rfl, by omega, by omega⟩).trans (by rw [show (0 : Int) + (i - 0) = i by omega])
    have h5 : ∀ p i : Int, ¬ p = (x0 + 4) → S5.1 p i = S4.1 p i := fun p i hp => by rw [d5]; exact if_neg (fun z => hp z.1)
    have g5 : ∀ i : Int, 0 ≤ i → i < 12 → S5.1 (x0 + 4) i = S4.1 42 i := fun i i0 i1 => by rw [d5]; exact (if_pos ⟨rfl, by omega, by omega⟩).trans (by rw [show (0 : Int) + (i - 0) = i by omega])
    rcases ht with h | h | h | h | h | h | h | h | h | h | h | h | h | h | h | h | h | h
    · omega
    · omega
    · omega
    · omega
    · omega
    · omega
    · omega
    · omega
    · omega
    · omega
    · omega
    · omega
    · omega
    · omega
    · obtain ⟨rfl, h⟩ := h
      subst h
      rw [show x0 - 37 + 37 = x0 by omega, show (1 : Int) + 37 = 38 by omega]
      exact ((((((h5 x0 0 (by omega))).trans ((h4 x0 0 (by omega)))).trans ((h3 x0 0 (by omega)))).trans ((h2 x0 0 (by omega)))).trans ((g1))).trans ((e1))
    · obtain ⟨ja, jb, i0, i1⟩ := h
      have hj : j = 38 ∨ j = 39 ∨ j = 40 ∨ j = 41 := by omega
      rcases hj with rfl | rfl | rfl | rfl
      · rw [show x0 - 37 + 38 = (x0 + 1) by omega, show (1 : Int) + 38 = 39 by omega]
        exact (((((h5 (x0 + 1) i (by omega))).trans ((h4 (x0 + 1) i (by omega)))).trans ((h3 (x0 + 1) i (by omega)))).trans ((g2 i i0 i1))).trans ((h1 39 i (by omega)))
      · rw [show x0 - 37 + 39 = (x0 + 2) by omega, show (1 : Int) + 39 = 40 by omega]
        exact (((((h5 (x0 + 2) i (by omega))).trans ((h4 (x0 + 2) i (by omega)))).trans ((g3 i i0 i1))).trans ((h2 40 i (by omega)))).trans ((h1 40 i (by omega)))
      · rw [show x0 - 37 + 40 = (x0 + 3) by omega, show (1 : Int) + 40 = 41 by omega]
        exact (((((h5 (x0 + 3) i (by omega))).trans ((g4 i i0 i1))).trans ((h3 41 i (by omega)))).trans ((h2 41 i (by omega)))).trans ((h1 41 i (by omega)))
      · rw [show x0 - 37 + 41 = (x0 + 4) by omega, show (1 : Int) + 41 = 42 by omega]
        exact (((((g5 i i0 i1)).trans ((h4 42 i (by omega)))).trans ((h3 42 i (by omega)))).trans ((h2 42 i (by omega)))).trans ((h1 42 i (by omega)))
    · omega
    · omega
theorem q293_0 (S : fx_S) (x0 : Int) (hS : fx_Sok S) (g0 : 0 ≤ x0 ∧ x0 < S.2.2) (S1 : fx_S) (d1 : S1 = (fx_cy S.1 45 0 (x0 + 1) 0 2, S.2)) (S2 : fx_S) (d2 : S2 = (fx_cy S1.1 46 0 (x0 + 2) 0 14, S1.2)) (S3 : fx_S) (d3 : S3 = (fx_cy S2.1 47 0 (x0 + 3) 0 14, S2.2)) (S4 : fx_S) (d4 : S4 = (fx_cy S3.1 48 0 (x0 + 4) 0 14, S3.2)) : s293 S x0 0 S4 := by
  refine ⟨((show S4.2 = S3.2 by rw [d4])).trans (((show S3.2 = S2.2 by rw [d3])).trans (((show S2.2 = S1.2 by rw [d2])).trans ((show S1.2 = S.2 by rw [d1])))), ?_, ?_⟩
  · intro p i hW
    exact ((show S4.1 p i = S3.1 p i by rw [d4]; exact if_neg (by omega))).trans (((show S3.1 p i = S2.1 p i by rw [d3]; exact if_neg (by omega))).trans (((show S2.1 p i = S1.1 p i by rw [d2]; exact if_neg (by omega))).trans ((show S1.1 p i = S.1 p i by rw [d1]; exact if_neg (by omega)))))
  · skip
    intro hx j i j0 j1 ht
    unfold fx_tb at ht
    have h1 : ∀ p i : Int, ¬ p = (x0 + 1) → S1.1 p i = S.1 p i := fun p i hp => by rw [d1]; exact if_neg (fun z => hp z.1)
    have g1 : ∀ i : Int, 0 ≤ i → i < 2 → S1.1 (x0 + 1) i = S.1 45 i := fun i i0 i1 => by rw [d1]; exact (if_pos ⟨rfl, by omega, by omega⟩).trans (by rw [show (0 : Int) + (i - 0) = i by omega])
    have h2 : ∀ p i : Int, ¬ p = (x0 + 2) → S2.1 p i = S1.1 p i := fun p i hp => by rw [d2]; exact if_neg (fun z => hp z.1)
    have g2 : ∀ i : Int, 0 ≤ i → i < 14 → S2.1 (x0 + 2) i = S1.1 46 i := fun i i0 i1 => by rw [d2]; exact (if_pos ⟨rfl, by omega, by omega⟩).trans (by rw [show (0 : Int) + (i - 0) = i by omega])
    have h3 : ∀ p i : Int, ¬ p = (x0 + 3) → S3.1 p i = S2.1 p i := fun p i hp => by rw [d3]; exact if_neg (fun z => hp z.1)
    have g3 : ∀ i : Int, 0 ≤ i → i < 14 → S3.1 (x0 + 3) i = S2.1 47 i := fun i i0 i1 => by rw [d3]; exact (if_pos ⟨rfl, by omega, by omega⟩).trans (by rw [show (0 : Int) + (i - 0) = i by omega])
    have h4 : ∀ p i : Int, ¬ p = (x0 + 4) → S4.1 p i = S3.1 p i := fun p i hp => by rw [d4]; exact if_neg (fun z => hp z.1)
    have g4 : ∀ i : Int, 0 ≤ i → i < 14 → S4.1 (x0 + 4) i = S3.1 48 i := fun i i0 i1 => by rw [d4]; exact (if_pos ⟨rfl, by omega, by omega⟩).trans (by rw [show (0 : Int) + (i - 0) = i by omega])
    rcases ht with h | h | h | h | h | h | h | h | h | h | h | h | h | h | h | h | h | h
    · omega
    · omega
    · omega
    · omega
    · omega
    · omega
    · omega
    · omega
    · omega
    · omega
    · omega
    · omega
    · omega
    · omega
    · omega
    · omega
    · obtain ⟨rfl, i0, i1⟩ := h
      rw [show x0 - 43 + 44 = (x0 + 1) by omega, show (1 : Int) + 44 = 45 by omega]
      exact ((((h4 (x0 + 1) i (by omega))).trans ((h3 (x0 + 1) i (by omega)))).trans ((h2 (x0 + 1) i (by omega)))).trans ((g1 i i0 i1))
    · obtain ⟨ja, jb, i0, i1⟩ := h
      have hj : j = 45 ∨ j = 46 ∨ j = 47 := by omega
      rcases hj with rfl | rfl | rfl
      · rw [show x0 - 43 + 45 = (x0 + 2) by omega, show (1 : Int) + 45 = 46 by omega]
        exact ((((h4 (x0 + 2) i (by omega))).trans ((h3 (x0 + 2) i (by omega)))).trans ((g2 i i0 i1))).trans ((h1 46 i (by omega)))
      · rw [show x0 - 43 + 46 = (x0 + 3) by omega, show (1 : Int) + 46 = 47 by omega]
        exact ((((h4 (x0 + 3) i (by omega))).trans ((g3 i i0 i1))).trans ((h2 47 i (by omega)))).trans ((h1 47 i (by omega)))
      · rw [show x0 - 43 + 47 = (x0 + 4) by omega, show (1 : Int) + 47 = 48 by omega]
        exact ((((g4 i i0 i1)).trans ((h3 48 i (by omega)))).trans ((h2 48 i (by omega)))).trans ((h1 48 i (by omega)))
theorem q294_0 (S : fx_S) (x1 : Int) (hS : fx_Sok S) (g1 : 0 ≤ x1 ∧ x1 < S.2.2) (v1 : Int) (e1 : v1 = S.1 x1 0) (b1 : -2147483648 ≤ v1 ∧ v1 ≤ 2147483647) (S1 : fx_S) (d1 : S1 = (fx_up S.1 2 0 v1, S.2)) (S2 : fx_S) (d2 : S2 = (fx_cy S1.1 (x1 + 1) 0 3 0 40, S1.2)) (S3 : fx_S) (d3 : S3 = (fx_cy S2.1 (x1 + 2) 0 4 0 40, S2.2)) (S4 : fx_S) (d4 : S4 = (fx_cy S3.1 (x1 + 3) 0 5 0 40, S3.2)) (v2 : Int) (e2 : v2 = S4.1 x1 4) (b2 : -2147483648 ≤ v2 ∧ v2 ≤ 2147483647) (S5 : fx_S) (d5 : S5 = (fx_up S4.1 2 4 v2, S4.2)) (S6 : fx_S) (d6 : S6 = (fx_cy S5.1 (x1 + 4) 0 6 0 40, S5.2)) (S7 : fx_S) (d7 : S7 = (fx_cy S6.1 (x1 + 5) 0 7 0 40, S6.2)) (S8 : fx_S) (d8 : S8 = (fx_cy S7.1 (x1 + 6) 0 8 0 40, S7.2)) (v3 : Int) (e3 : v3 = S8.1 x1 8) (b3 : -2147483648 ≤ v3 ∧ v3 ≤ 2147483647) (S9 : fx_S) (d9 : S9 = (fx_up S8.1 2 8 v3, S8.2)) (z : Int) (Z : fx_S) (kz : fx_Sok Z) (bz : z = 0) (pz : s339 S9 x1 0 z Z) : s294 S x1 z Z := by
  unfold s339 at pz
  unfold s294
  intro hx
  have h1 : ∀ p i : Int, ¬ (p = 2 ∧ i = 0) → S1.1 p i = S.1 p i := fun p i hp => by rw [d1]; exact if_neg hp
  have g1 : S1.1 2 0 = v1 := by rw [d1]; first | exact if_pos ⟨rfl, rfl⟩ | rfl
  have h2 : ∀ p i : Int, ¬ p = 3 → S2.1 p i = S1.1 p i := fun p i hp => by rw [d2]; exact if_neg (fun z => hp z.1)
  have g2 : ∀ i : Int, 0 ≤ i → i < 40 → S2.1 3 i = S1.1 (x1 + 1) i := fun i i0 i1 => by rw [d2]; exact (if_pos ⟨rfl, by omega, by omega⟩).trans (by rw [show (0 : Int) + (i - 0) = i by omega])
  have h3 : ∀ p i : Int, ¬ p = 4 → S3.1 p i = S2.1 p i := fun p i hp => by rw [d3]; exact if_neg (fun z => hp z.1)
  have g3 : ∀ i : Int, 0 ≤ i → i < 40 → S3.1 4 i = S2.1 (x1 + 2) i := fun i i0 i1 => by rw [d3]; exact (if_pos ⟨rfl, by omega, by omega⟩).trans (by rw [show (0 : Int) + (i - 0) = i by omega])
  have h4 : ∀ p i : Int, ¬ p = 5 → S4.1 p i = S3.1 p i := fun p i hp => by rw [d4]; exact if_neg (fun z => hp z.1)
  have g4 : ∀ i : Int, 0 ≤ i → i < 40 → S4.1 5 i = S3.1 (x1 + 3) i := fun i i0 i1 => by rw [d4]; exact (if_pos ⟨rfl, by omega, by omega⟩).trans (by rw [show (0 : Int) + (i - 0) = i by omega])
  have h5 : ∀ p i : Int, ¬ (p = 2 ∧ i = 4) → S5.1 p i = S4.1 p i := fun p i hp => by rw [d5]; exact if_neg hp
  have g5 : S5.1 2 4 = v2 := by rw [d5]; first | exact if_pos ⟨rfl, rfl⟩ | rfl
  have h6 : ∀ p i : Int, ¬ p = 6 → S6.1 p i = S5.1 p i := fun p i hp => by rw [d6]; exact if_neg (fun z => hp z.1)
  have g6 : ∀ i : Int, 0 ≤ i → i < 40 → S6.1 6 i = S5.1 (x1 + 4) i := fun i i0 i1 => by rw [d6]; exact (if_pos ⟨rfl, by omega, by omega⟩).trans (by rw [show (0 : Int) + (i - 0) = i by omega])
  have h7 : ∀ p i : Int, ¬ p = 7 → S7.1 p i = S6.1 p i := fun p i hp => by rw [d7]; exact if_neg (fun z => hp z.1)
  have g7 : ∀ i : Int, 0 ≤ i → i < 40 → S7.1 7 i = S6.1 (x1 + 5) i := fun i i0 i1 => by rw [d7]; exact (if_pos ⟨rfl, by omega, by omega⟩).trans (by rw [show (0 : Int) + (i - 0) = i by omega])
  have h8 : ∀ p i : Int, ¬ p = 8 → S8.1 p i = S7.1 p i := fun p i hp => by rw [d8]; exact if_neg (fun z => hp z.1)
  have g8 : ∀ i : Int, 0 ≤ i → i < 40 → S8.1 8 i = S7.1 (x1 + 6) i := fun i i0 i1 => by rw [d8]; exact (if_pos ⟨rfl, by omega, by omega⟩).trans (by rw [show (0 : Int) + (i - 0) = i by omega])
  have h9 : ∀ p i : Int, ¬ (p = 2 ∧ i = 8) → S9.1 p i = S8.1 p i := fun p i hp => by rw [d9]; exact if_neg hp
  have g9 : S9.1 2 8 = v3 := by rw [d9]; first | exact if_pos ⟨rfl, rfl⟩ | rfl
  have rr1 : S1.2 = S.2 := by rw [d1]
  have rr2 : S2.2 = S.2 := by rw [d2]; exact rr1
  have rr3 : S3.2 = S.2 := by rw [d3]; exact rr2
  have rr4 : S4.2 = S.2 := by rw [d4]; exact rr3
  have rr5 : S5.2 = S.2 := by rw [d5]; exact rr4
  have rr6 : S6.2 = S.2 := by rw [d6]; exact rr5
  have rr7 : S7.2 = S.2 := by rw [d7]; exact rr6
  have rr8 : S8.2 = S.2 := by rw [d8]; exact rr7
  have rr9 : S9.2 = S.2 := by rw [d9]; exact rr8
  obtain ⟨tn, tr, tf, tt⟩ := pz hx (by omega)
  refine ⟨by rw [tn, rr9], fun p i => by rw [tr, rr9], fun p i hp => ((((((((((tf p i (by omega))).trans ((h9 p i (by omega)))).trans ((h8 p i (by omega)))).trans ((h7 p i (by omega)))).trans ((h6 p i (by omega)))).trans ((h5 p i (by omega)))).trans ((h4 p i (by omega)))).trans ((h3 p i (by omega)))).trans ((h2 p i (by omega)))).trans ((h1 p i (by omega))), fun j i j0 j1 ht => ?_⟩
  unfold fx_tb at ht
  rcases ht with h | h | h | h | h | h | h | h | h | h | h | h | h | h | h | h | h | h
  · omega
  · obtain ⟨rfl, h⟩ := h
    rcases h with rfl | rfl | rfl
    · rw [show x1 - 1 + 1 = x1 by omega, show (1 : Int) + 1 = 2 by omega]
      exact (((((((((((tf 2 0 (by omega))).trans ((h9 2 0 (by omega)))).trans ((h8 2 0 (by omega)))).trans ((h7 2 0 (by omega)))).trans ((h6 2 0 (by omega)))).trans ((h5 2 0 (by omega)))).trans ((h4 2 0 (by omega)))).trans ((h3 2 0 (by omega)))).trans ((h2 2 0 (by omega)))).trans ((g1))).trans ((e1))
    · rw [show x1 - 1 + 1 = x1 by omega, show (1 : Int) + 1 = 2 by omega]
      exact (((((((((((tf 2 4 (by omega))).trans ((h9 2 4 (by omega)))).trans ((h8 2 4 (by omega)))).trans ((h7 2 4 (by omega)))).trans ((h6 2 4 (by omega)))).trans ((g5))).trans ((e2))).trans ((h4 x1 4 (by omega)))).trans ((h3 x1 4 (by omega)))).trans ((h2 x1 4 (by omega)))).trans ((h1 x1 4 (by omega)))
    · rw [show x1 - 1 + 1 = x1 by omega, show (1 : Int) + 1 = 2 by omega]
      exact (((((((((((tf 2 8 (by omega))).trans ((g9))).trans ((e3))).trans ((h8 x1 8 (by omega)))).trans ((h7 x1 8 (by omega)))).trans ((h6 x1 8 (by omega)))).trans ((h5 x1 8 (by omega)))).trans ((h4 x1 8 (by omega)))).trans ((h3 x1 8 (by omega)))).trans ((h2 x1 8 (by omega)))).trans ((h1 x1 8 (by omega)))
  · obtain ⟨ja, jb, i0, i1⟩ := h
    have hj : j = 2 ∨ j = 3 ∨ j = 4 ∨ j = 5 ∨ j = 6 ∨ j = 7 := by omega
    rcases hj with rfl | rfl | rfl | rfl | rfl | rfl
    · rw [show x1 - 1 + 2 = (x1 + 1) by omega, show (1 : Int) + 2 = 3 by omega]
      exact ((((((((((tf 3 i (by omega))).trans ((h9 3 i (by omega)))).trans ((h8 3 i (by omega)))).trans ((h7 3 i (by omega)))).trans ((h6 3 i (by omega)))).trans ((h5 3 i (by omega)))).trans ((h4 3 i (by omega)))).trans ((h3 3 i (by omega)))).trans ((g2 i i0 i1))).trans ((h1 (x1 + 1) i (by omega)))
    · rw [show x1 - 1 + 3 = (x1 + 2) by omega, show (1 : Int) + 3 = 4 by omega]
      exact ((((((((((tf 4 i (by omega))).trans ((h9 4 i (by omega)))).trans ((h8 4 i (by omega)))).trans ((h7 4 i (by omega)))).trans ((h6 4 i (by omega)))).trans ((h5 4 i (by omega)))).trans ((h4 4 i (by omega)))).trans ((g3 i i0 i1))).trans ((h2 (x1 + 2) i (by omega)))).trans ((h1 (x1 + 2) i (by omega)))
    · rw [show x1 - 1 + 4 = (x1 + 3) by omega, show (1 : Int) + 4 = 5 by omega]
      exact ((((((((((tf 5 i (by omega))).trans ((h9 5 i (by omega)))).trans ((h8 5 i (by omega)))).trans ((h7 5 i (by omega)))).trans ((h6 5 i (by omega)))).trans ((h5 5 i (by omega)))).trans ((g4 i i0 i1))).trans ((h3 (x1 + 3) i (by omega)))).trans ((h2 (x1 + 3) i (by omega)))).trans ((h1 (x1 + 3) i (by omega)))
    · rw [show x1 - 1 + 5 = (x1 + 4) by omega, show (1 : Int) + 5 = 6 by omega]
      exact ((((((((((tf 6 i (by omega))).trans ((h9 6 i (by omega)))).trans ((h8 6 i (by omega)))).trans ((h7 6 i (by omega)))).trans ((g6 i i0 i1))).trans ((h5 (x1 + 4) i (by omega)))).trans ((h4 (x1 + 4) i (by omega)))).trans ((h3 (x1 + 4) i (by omega)))).trans ((h2 (x1 + 4) i (by omega)))).trans ((h1 (x1 + 4) i (by omega)))
    · rw [show x1 - 1 + 6 = (x1 + 5) by omega, show (1 : Int) + 6 = 7 by omega]
      exact ((((((((((tf 7 i (by omega))).trans ((h9 7 i (by omega)))).trans ((h8 7 i (by omega)))).trans ((g7 i i0 i1))).trans ((h6 (x1 + 5) i (by omega)))).trans ((h5 (x1 + 5) i (by omega)))).trans ((h4 (x1 + 5) i (by omega)))).trans ((h3 (x1 + 5) i (by omega)))).trans ((h2 (x1 + 5) i (by omega)))).trans ((h1 (x1 + 5) i (by omega)))
    · rw [show x1 - 1 + 7 = (x1 + 6) by omega, show (1 : Int) + 7 = 8 by omega]
      exact ((((((((((tf 8 i (by omega))).trans ((h9 8 i (by omega)))).trans ((g8 i i0 i1))).trans ((h7 (x1 + 6) i (by omega)))).trans ((h6 (x1 + 6) i (by omega)))).trans ((h5 (x1 + 6) i (by omega)))).trans ((h4 (x1 + 6) i (by omega)))).trans ((h3 (x1 + 6) i (by omega)))).trans ((h2 (x1 + 6) i (by omega)))).trans ((h1 (x1 + 6) i (by omega)))
  · obtain ⟨k0, k1, k2, k3⟩ := h
    exact ((((((((((tt j i (by omega) (by omega) k2 k3)).trans ((h9 (x1 - 1 + j) i (by omega)))).trans ((h8 (x1 - 1 + j) i (by omega)))).trans ((h7 (x1 - 1 + j) i (by omega)))).trans ((h6 (x1 - 1 + j) i (by omega)))).trans ((h5 (x1 - 1 + j) i (by omega)))).trans ((h4 (x1 - 1 + j) i (by omega)))).trans ((h3 (x1 - 1 + j) i (by omega)))).trans ((h2 (x1 - 1 + j) i (by omega)))).trans ((h1 (x1 - 1 + j) i (by omega)))
  · omega
  · omega
  · omega
  · omega
  · omega
  · omega
  · omega
  · omega
  · omega
  · omega
  · omega
  · omega
  · omega
  · omega
theorem q295_0 (S : fx_S) (x1 : Int) (hS : fx_Sok S) (g1 : 0 ≤ x1 ∧ x1 < S.2.2) (v1 : Int) (e1 : v1 = S.1 x1 0) (b1 : -2147483648 ≤ v1 ∧ v1 ≤ 2147483647) (S1 : fx_S) (d1 : S1 = (fx_up S.1 13 0 v1, S.2)) (S2 : fx_S) (d2 : S2 = (fx_cy S1.1 (x1 + 1) 0 14 0 80, S1.2)) (S3 : fx_S) (d3 : S3 = (fx_cy S2.1 (x1 + 2) 0 15 0 80, S2.2)) (S4 : fx_S) (d4 : S4 = (fx_cy S3.1 (x1 + 3) 0 16 0 80, S3.2)) (S5 : fx_S) (d5 : S5 = (fx_cy S4.1 (x1 + 4) 0 17 0 80, S4.2)) (S6 : fx_S) (d6 : S6 = (fx_cy S5.1 (x1 + 5) 0 18 0 80, S5.2)) (S7 : fx_S) (d7 : S7 = (fx_cy S6.1 (x1 + 6) 0 19 0 80, S6.2)) (S8 : fx_S) (d8 : S8 = (fx_cy S7.1 (x1 + 7) 0 20 0 320, S7.2)) : s295 S x1 0 S8 := by
  refine ⟨((show S8.2 = S7.2 by rw [d8])).trans (((show S7.2 = S6.2 by rw [d7])).trans (((show S6.2 = S5.2 by rw [d6])).trans (((show S5.2 = S4.2 by rw [d5])).trans (((show S4.2 = S3.2 by rw [d4])).trans (((show S3.2 = S2.2 by rw [d3])).trans (((show S2.2 = S1.2 by rw [d2])).trans ((show S1.2 = S.2 by rw [d1])))))))), ?_, ?_⟩
  · intro p i hW
    clear b1 e1
    exact ((show S8.1 p i = S7.1 p i by rw [d8]; exact if_neg (by omega))).trans (((show S7.1 p i = S6.1 p i by rw [d7]; exact if_neg (by omega))).trans (((show S6.1 p i = S5.1 p i by rw [d6]; exact if_neg (by omega))).trans (((show S5.1 p i = S4.1 p i by rw [d5]; exact if_neg (by omega))).trans (((show S4.1 p i = S3.1 p i by rw [d4]; exact if_neg (by omega))).trans (((show S3.1 p i = S2.1 p i by rw [d3]; exact if_neg (by omega))).trans (((show S2.1 p i = S1.1 p i by rw [d2]; exact if_neg (by omega))).trans ((show S1.1 p i = S.1 p i by rw [d1]; exact if_neg (by omega)))))))))
  · skip
    intro hx j i j0 j1 ht
    unfold fx_tb at ht
    have h1 : ∀ p i : Int, ¬ (p = 13 ∧ i = 0) → S1.1 p i = S.1 p i := fun p i hp => by rw [d1]; exact if_neg hp
    have g1 : S1.1 13 0 = v1 := by rw [d1]; first | exact if_pos ⟨rfl, rfl⟩ | rfl
    have h2 : ∀ p i : Int, ¬ p = 14 → S2.1 p i = S1.1 p i := fun p i hp => by rw [d2]; exact if_neg (fun z => hp z.1)
    have g2 : ∀ i : Int, 0 ≤ i → i < 80 → S2.1 14 i = S1.1 (x1 + 1) i := fun i i0 i1 => by rw [d2]; exact (if_pos ⟨rfl, by omega, by omega⟩).trans (by rw [show (0 : Int) + (i - 0) = i by omega])
    have h3 : ∀ p i : Int, ¬ p = 15 → S3.1 p i = S2.1 p i := fun p i hp => by rw [d3]; exact if_neg (fun z => hp z.1)
    have g3 : ∀ i : Int, 0 ≤ i → i < 80 → S3.1 15 i = S2.1 (x1 + 2) i := fun i i0 i1 => by rw [d3]; exact (if_pos ⟨rfl, by omega, by omega⟩).trans (by rw [show (0 : Int) + (i - 0) = i by omega])
    have h4 : ∀ p i : Int, ¬ p = 16 → S4.1 p i = S3.1 p i := fun p i hp => by rw [d4]; exact if_neg (fun z => hp z.1)
    have g4 : ∀ i : Int, 0 ≤ i → i < 80 → S4.1 16 i = S3.1 (x1 + 3) i := fun i i0 i1 => by rw [d4]; exact (if_pos ⟨rfl, by omega, by omega⟩).trans (by rw [show (0 : Int) + (i - 0) = i by omega])
    have h5 : ∀ p i : Int, ¬ p = 17 → S5.1 p i = S4.1 p i := fun p i hp => by rw [d5]; exact if_neg (fun z => hp z.1)
    have g5 : ∀ i : Int, 0 ≤ i → i < 80 → S5.1 17 i = S4.1 (x1 + 4) i := fun i i0 i1 => by rw [d5]; exact (if_pos ⟨rfl, by omega, by omega⟩).trans (by rw [show (0 : Int) + (i - 0) = i by omega])
    have h6 : ∀ p i : Int, ¬ p = 18 → S6.1 p i = S5.1 p i := fun p i hp => by rw [d6]; exact if_neg (fun z => hp z.1)
    have g6 : ∀ i : Int, 0 ≤ i → i < 80 → S6.1 18 i = S5.1 (x1 + 5) i := fun i i0 i1 => by rw [d6]; exact (if_pos ⟨rfl, by omega, by omega⟩).trans (by rw [show (0 : Int) + (i - 0) = i by omega])
    have h7 : ∀ p i : Int, ¬ p = 19 → S7.1 p i = S6.1 p i := fun p i hp => by rw [d7]; exact if_neg (fun z => hp z.1)
    have g7 : ∀ i : Int, 0 ≤ i → i < 80 → S7.1 19 i = S6.1 (x1 + 6) i := fun i i0 i1 => by rw [d7]; exact (if_pos ⟨rfl, by omega, by omega⟩).trans (by rw [show (0 : Int) + (i - 0) = i by omega])
    have h8 : ∀ p i : Int, ¬ p = 20 → S8.1 p i = S7.1 p i := fun p i hp => by rw [d8]; exact if_neg (fun z => hp z.1)
    have g8 : ∀ i : Int, 0 ≤ i → i < 320 → S8.1 20 i = S7.1 (x1 + 7) i := fun i i0 i1 => by rw [d8]; exact (if_pos ⟨rfl, by omega, by omega⟩).trans (by rw [show (0 : Int) + (i - 0) = i by omega])
    rcases ht with h | h | h | h | h | h | h | h | h | h | h | h | h | h | h | h | h | h
    · omega
    · omega
    · omega
    · omega
    · obtain ⟨rfl, h⟩ := h
      subst h
      rw [show x1 - 12 + 12 = x1 by omega, show (1 : Int) + 12 = 13 by omega]
      exact (((((((((h8 13 0 (by omega))).trans ((h7 13 0 (by omega)))).trans ((h6 13 0 (by omega)))).trans ((h5 13 0 (by omega)))).trans ((h4 13 0 (by omega)))).trans ((h3 13 0 (by omega)))).trans ((h2 13 0 (by omega)))).trans ((g1))).trans ((e1))
    · obtain ⟨ja, jb, i0, i1⟩ := h
      have hj : j = 13 ∨ j = 14 ∨ j = 15 ∨ j = 16 ∨ j = 17 ∨ j = 18 := by omega
      rcases hj with rfl | rfl | rfl | rfl | rfl | rfl
      · rw [show x1 - 12 + 13 = (x1 + 1) by omega, show (1 : Int) + 13 = 14 by omega]
        exact ((((((((h8 14 i (by omega))).trans ((h7 14 i (by omega)))).trans ((h6 14 i (by omega)))).trans ((h5 14 i (by omega)))).trans ((h4 14 i (by omega)))).trans ((h3 14 i (by omega)))).trans ((g2 i i0 i1))).trans ((h1 (x1 + 1) i (by omega)))
      · rw [show x1 - 12 + 14 = (x1 + 2) by omega, show (1 : Int) + 14 = 15 by omega]
        exact ((((((((h8 15 i (by omega))).trans ((h7 15 i (by omega)))).trans ((h6 15 i (by omega)))).trans ((h5 15 i (by omega)))).trans ((h4 15 i (by omega)))).trans ((g3 i i0 i1))).trans ((h2 (x1 + 2) i (by omega)))).trans ((h1 (x1 + 2) i (by omega)))
      · rw [show x1 - 12 + 15 = (x1 + 3) by omega, show (1 : Int) + 15 = 16 by omega]
        exact ((((((((h8 16 i (by omega))).trans ((h7 16 i (by omega)))).trans ((h6 16 i (by omega)))).trans ((h5 16 i (by omega)))).trans ((g4 i i0 i1))).trans ((h3 (x1 + 3) i (by omega)))).trans ((h2 (x1 + 3) i (by omega)))).trans ((h1 (x1 + 3) i (by omega)))
      · rw [show x1 - 12 + 16 = (x1 + 4) by omega, show (1 : Int) + 16 = 17 by omega]
        exact ((((((((h8 17 i (by omega))).trans ((h7 17 i (by omega)))).trans ((h6 17 i (by omega)))).trans ((g5 i i0 i1))).trans ((h4 (x1 + 4) i (by omega)))).trans ((h3 (x1 + 4) i (by omega)))).trans ((h2 (x1 + 4) i (by omega)))).trans ((h1 (x1 + 4) i (by omega)))
      · rw [show x1 - 12 + 17 = (x1 + 5) by omega, show (1 : Int) + 17 = 18 by omega]
        exact ((((((((h8 18 i (by omega))).trans ((h7 18 i (by omega)))).trans ((g6 i i0 i1))).trans ((h5 (x1 + 5) i (by omega)))).trans ((h4 (x1 + 5) i (by omega)))).trans ((h3 (x1 + 5) i (by omega)))).trans ((h2 (x1 + 5) i (by omega)))).trans ((h1 (x1 + 5) i (by omega)))
      · rw [show x1 - 12 + 18 = (x1 + 6) by omega, show (1 : Int) + 18 = 19 by omega]
        exact ((((((((h8 19 i (by omega))).trans ((g7 i i0 i1))).trans ((h6 (x1 + 6) i (by omega)))).trans ((h5 (x1 + 6) i (by omega)))).trans ((h4 (x1 + 6) i (by omega)))).trans ((h3 (x1 + 6) i (by omega)))).trans ((h2 (x1 + 6) i (by omega)))).trans ((h1 (x1 + 6) i (by omega)))
    · obtain ⟨rfl, i0, i1⟩ := h
      rw [show x1 - 12 + 19 = (x1 + 7) by omega, show (1 : Int) + 19 = 20 by omega]
      exact ((((((((g8 i i0 i1)).trans ((h7 (x1 + 7) i (by omega)))).trans ((h6 (x1 + 7) i (by omega)))).trans ((h5 (x1 + 7) i (by omega)))).trans ((h4 (x1 + 7) i (by omega)))).trans ((h3 (x1 + 7) i (by omega)))).trans ((h2 (x1 + 7) i (by omega)))).trans ((h1 (x1 + 7) i (by omega)))
    · omega
    · omega
    · omega
    · omega
    · omega
    · omega
    · omega
    · omega
    · omega
    · omega
    · omega
theorem q296_0 (S : fx_S) (x1 : Int) (hS : fx_Sok S) (g1 : 0 ≤ x1 ∧ x1 < S.2.2) (S1 : fx_S) (d1 : S1 = (fx_cy S.1 (x1 + 1) 0 22 0 4, S.2)) (S2 : fx_S) (d2 : S2 = (fx_cy S1.1 (x1 + 2) 0 23 0 4, S1.2)) (v1 : Int) (e1 : v1 = S2.1 x1 2) (b1 : -2147483648 ≤ v1 ∧ v1 ≤ 2147483647) (S3 : fx_S) (d3 : S3 = (fx_up S2.1 21 2 v1, S2.2)) (S4 : fx_S) (d4 : S4 = (fx_cy S3.1 (x1 + 3) 0 24 0 300, S3.2)) (S5 : fx_S) (d5 : S5 = (fx_cy S4.1 (x1 + 4) 0 25 0 300, S4.2)) (S6 : fx_S) (d6 : S6 = (fx_cy S5.1 (x1 + 5) 0 26 0 300, S5.2)) (v2 : Int) (e2 : v2 = S6.1 x1 6) (b2 : -2147483648 ≤ v2 ∧ v2 ≤ 2147483647) (S7 : fx_S) (d7 : S7 = (fx_up S6.1 21 6 v2, S6.2)) (v3 : Int) (e3 : v3 = S7.1 x1 7) (b3 : -2147483648 ≤ v3 ∧ v3 ≤ 2147483647) (S8 : fx_S) (d8 : S8 = (fx_up S7.1 21 7 v3, S7.2)) : s296 S x1 0 S8 := by
  refine ⟨((show S8.2 = S7.2 by rw [d8])).trans (((show S7.2 = S6.2 by rw [d7])).trans (((show S6.2 = S5.2 by rw [d6])).trans (((show S5.2 = S4.2 by rw [d5])).trans (((show S4.2 = S3.2 by rw [d4])).trans (((show S3.2 = S2.2 by rw [d3])).trans (((show S2.2 = S1.2 by rw [d2])).trans ((show S1.2 = S.2 by rw [d1])))))))), ?_, ?_⟩
  · intro p i hW
    clear b3 e3 b2 e2 b1 e1
    exact ((show S8.1 p i = S7.1 p i by rw [d8]; exact if_neg (by omega))).trans (((show S7.1 p i = S6.1 p i by rw [d7]; exact if_neg (by omega))).trans (((show S6.1 p i = S5.1 p i by rw [d6]; exact if_neg (by omega))).trans (((show S5.1 p i = S4.1 p i by rw [d5]; exact if_neg (by omega))).trans (((show S4.1 p i = S3.1 p i by rw [d4]; exact if_neg (by omega))).trans (((show S3.1 p i = S2.1 p i by rw [d3]; exact if_neg (by omega))).trans (((show S2.1 p i = S1.1 p i by rw [d2]; exact if_neg (by omega))).trans ((show S1.1 p i = S.1 p i by rw [d1]; exact if_neg (by omega)))))))))
  · skip
    intro hx j i j0 j1 ht
    unfold fx_tb at ht
    have h1 : ∀ p i : Int, ¬ p = 22 → S1.1 p i = S.1 p i := fun p i hp => by rw [d1]; exact if_neg (fun z => hp z.1)
    have g1 : ∀ i : Int, 0 ≤ i → i < 4 → S1.1 22 i = S.1 (x1 + 1) i := fun i i0 i1 => by rw [d1]; exact (if_pos ⟨rfl, by omega, by omega⟩).trans (by rw [show (0 : Int) + (i - 0) = i by omega])
    have h2 : ∀ p i : Int, ¬ p = 23 → S2.1 p i = S1.1 p i := fun p i hp => by rw [d2]; exact if_neg (fun z => hp z.1)
    have g2 : ∀ i : Int, 0 ≤ i → i < 4 → S2.1 23 i = S1.1 (x1 + 2) i := fun i i0 i1 => by rw [d2]; exact (if_pos ⟨rfl, by omega, by omega⟩).trans (by rw [show (0 : Int) + (i - 0) = i by omega])
    have h3 : ∀ p i : Int, ¬ (p = 21 ∧ i = 2) → S3.1 p i = S2.1 p i := fun p i hp => by rw [d3]; exact if_neg hp
    have g3 : S3.1 21 2 = v1 := by rw [d3]; first | exact if_pos ⟨rfl, rfl⟩ | rfl
    have h4 : ∀ p i : Int, ¬ p = 24 → S4.1 p i = S3.1 p i := fun p i hp => by rw [d4]; exact if_neg (fun z => hp z.1)
    have g4 : ∀ i : Int, 0 ≤ i → i < 300 → S4.1 24 i = S3.1 (x1 + 3) i := fun i i0 i1 => by rw [d4]; exact (if_pos ⟨rfl, by omega, by omega⟩).trans (by rw [show (0 : Int) + (i - 0) = i by omega])
    have h5 : ∀ p i : Int, ¬ p = 25 → S5.1 p i = S4.1 p i := fun p i hp => by rw [d5]; exact if_neg (fun z => hp z.1)
    have g5 : ∀ i : Int, 0 ≤ i → i < 300 → S5.1 25 i = S4.1 (x1 + 4) i := fun i i0 i1 => by rw [d5]; exact (if_pos ⟨rfl, by omega, by omega⟩).trans (by rw [show (0 : Int) + (i - 0) = i by omega])
    have h6 : ∀ p i : Int, ¬ p = 26 → S6.1 p i = S5.1 p i := fun p i hp => by rw [d6]; exact if_neg (fun z => hp z.1)
    have g6 : ∀ i : Int, 0 ≤ i → i < 300 → S6.1 26 i = S5.1 (x1 + 5) i := fun i i0 i1 => by rw [d6]; exact (if_pos ⟨rfl, by omega, by omega⟩).trans (by rw [show (0 : Int) + (i - 0) = i by omega])
    have h7 : ∀ p i : Int, ¬ (p = 21 ∧ i = 6) → S7.1 p i = S6.1 p i := fun p i hp => by rw [d7]; exact if_neg hp
    have g7 : S7.1 21 6 = v2 := by rw [d7]; first | exact if_pos ⟨rfl, rfl⟩ | rfl
    have h8 : ∀ p i : Int, ¬ (p = 21 ∧ i = 7) → S8.1 p i = S7.1 p i := fun p i hp => by rw [d8]; exact if_neg hp
    have g8 : S8.1 21 7 = v3 := by rw [d8]; first | exact if_pos ⟨rfl, rfl⟩ | rfl
    rcases ht with h | h | h | h | h | h | h | h | h | h | h | h | h | h | h | h | h | h
    · omega
    · omega
    · omega
    · omega
    · omega
    · omega
    · omega
    · obtain ⟨rfl, h⟩ := h
      rcases h with rfl | rfl | rfl
      · rw [show x1 - 20 + 20 = x1 by omega, show (1 : Int) + 20 = 21 by omega]
        exact (((((((((h8 21 2 (by omega))).trans ((h7 21 2 (by omega)))).trans ((h6 21 2 (by omega)))).trans ((h5 21 2 (by omega)))).trans ((h4 21 2 (by omega)))).trans ((g3))).trans ((e1))).trans ((h2 x1 2 (by omega)))).trans ((h1 x1 2 (by omega)))
      · rw [show x1 - 20 + 20 = x1 by omega, show (1 : Int) + 20 = 21 by omega]
        exact (((((((((h8 21 6 (by omega))).trans ((g7))).trans ((e2))).trans ((h6 x1 6 (by omega)))).trans ((h5 x1 6 (by omega)))).trans ((h4 x1 6 (by omega)))).trans ((h3 x1 6 (by omega)))).trans ((h2 x1 6 (by omega)))).trans ((h1 x1 6 (by omega)))
      · rw [show x1 - 20 + 20 = x1 by omega, show (1 : Int) + 20 = 21 by omega]
        exact (((((((((g8)).trans ((e3))).trans ((h7 x1 7 (by omega)))).trans ((h6 x1 7 (by omega)))).trans ((h5 x1 7 (by omega)))).trans ((h4 x1 7 (by omega)))).trans ((h3 x1 7 (by omega)))).trans ((h2 x1 7 (by omega)))).trans ((h1 x1 7 (by omega)))
    · obtain ⟨ja, jb, i0, i1⟩ := h
      have hj : j = 21 ∨ j = 22 := by omega
      rcases hj with rfl | rfl
      · rw [show x1 - 20 + 21 = (x1 + 1) by omega, show (1 : Int) + 21 = 22 by omega]
        exact ((((((((h8 22 i (by omega))).trans ((h7 22 i (by omega)))).trans ((h6 22 i (by omega)))).trans ((h5 22 i (by omega)))).trans ((h4 22 i (by omega)))).trans ((h3 22 i (by omega)))).trans ((h2 22 i (by omega)))).trans ((g1 i i0 i1))
      · rw [show x1 - 20 + 22 = (x1 + 2) by omega, show (1 : Int) + 22 = 23 by omega]
        exact ((((((((h8 23 i (by omega))).trans ((h7 23 i (by omega)))).trans ((h6 23 i (by omega)))).trans ((h5 23 i (by omega)))).trans ((h4 23 i (by omega)))).trans ((h3 23 i (by omega)))).trans ((g2 i i0 i1))).trans ((h1 (x1 + 2) i (by omega)))
    · obtain ⟨ja, jb, i0, i1⟩ := h
      have hj : j = 23 ∨ j = 24 ∨ j = 25 := by omega
      rcases hj with rfl | rfl | rfl
      · rw [show x1 - 20 + 23 = (x1 + 3) by omega, show (1 : Int) + 23 = 24 by omega]
        exact ((((((((h8 24 i (by omega))).trans ((h7 24 i (by omega)))).trans ((h6 24 i (by omega)))).trans ((h5 24 i (by omega)))).trans ((g4 i i0 i1))).trans ((h3 (x1 + 3) i (by omega)))).trans ((h2 (x1 + 3) i (by omega)))).trans ((h1 (x1 + 3) i (by omega)))
      · rw [show x1 - 20 + 24 = (x1 + 4) by omega, show (1 : Int) + 24 = 25 by omega]
        exact ((((((((h8 25 i (by omega))).trans ((h7 25 i (by omega)))).trans ((h6 25 i (by omega)))).trans ((g5 i i0 i1))).trans ((h4 (x1 + 4) i (by omega)))).trans ((h3 (x1 + 4) i (by omega)))).trans ((h2 (x1 + 4) i (by omega)))).trans ((h1 (x1 + 4) i (by omega)))
      · rw [show x1 - 20 + 25 = (x1 + 5) by omega, show (1 : Int) + 25 = 26 by omega]
        exact ((((((((h8 26 i (by omega))).trans ((h7 26 i (by omega)))).trans ((g6 i i0 i1))).trans ((h5 (x1 + 5) i (by omega)))).trans ((h4 (x1 + 5) i (by omega)))).trans ((h3 (x1 + 5) i (by omega)))).trans ((h2 (x1 + 5) i (by omega)))).trans ((h1 (x1 + 5) i (by omega)))
    · omega
    · omega
    · omega
    · omega
    · omega
    · omega
    · omega
    · omega
theorem q297_0 (S : fx_S) (x1 : Int) (hS : fx_Sok S) (g1 : 0 ≤ x1 ∧ x1 < S.2.2) (v1 : Int) (e1 : v1 = S.1 x1 0) (b1 : -2147483648 ≤ v1 ∧ v1 ≤ 2147483647) (S1 : fx_S) (d1 : S1 = (fx_up S.1 29 0 v1, S.2)) (S2 : fx_S) (d2 : S2 = (fx_cy S1.1 (x1 + 1) 0 30 0 20, S1.2)) (S3 : fx_S) (d3 : S3 = (fx_cy S2.1 (x1 + 2) 0 31 0 20, S2.2)) (S4 : fx_S) (d4 : S4 = (fx_cy S3.1 (x1 + 3) 0 32 0 20, S3.2)) (S5 : fx_S) (d5 : S5 = (fx_cy S4.1 (x1 + 4) 0 33 0 20, S4.2)) (S6 : fx_S) (d6 : S6 = (fx_cy S5.1 (x1 + 5) 0 34 0 1600, S5.2)) (S7 : fx_S) (d7 : S7 = (fx_cy S6.1 (x1 + 6) 0 35 0 100, S6.2)) (S8 : fx_S) (d8 : S8 = (fx_cy S7.1 (x1 + 7) 0 36 0 100, S7.2)) : s297 S x1 0 S8 := by
  refine ⟨((show S8.2 = S7.2 by rw [d8])).trans (((show S7.2 = S6.2 by rw [d7])).trans (((show S6.2 = S5.2 by rw [d6])).trans (((show S5.2 = S4.2 by rw [d5])).trans (((show S4.2 = S3.2 by rw [d4])).trans (((show S3.2 = S2.2 by rw [d3])).trans (((show S2.2 = S1.2 by rw [d2])).trans ((show S1.2 = S.2 by rw [d1])))))))), ?_, ?_⟩
  · intro p i hW
    clear b1 e1
    exact ((show S8.1 p i = S7.1 p i by rw [d8]; exact if_neg (by omega))).trans (((show S7.1 p i = S6.1 p i by rw [d7]; exact if_neg (by omega))).trans (((show S6.1 p i = S5.1 p i by rw [d6]; exact if_neg (by omega))).trans (((show S5.1 p i = S4.1 p i by rw [d5]; exact if_neg (by omega))).trans (((show S4.1 p i = S3.1 p i by rw [d4]; exact if_neg (by omega))).trans (((show S3.1 p i = S2.1 p i by rw [d3]; exact if_neg (by omega))).trans (((show S2.1 p i = S1.1 p i by rw [d2]; exact if_neg (by omega))).trans ((show S1.1 p i = S.1 p i by rw [d1]; exact if_neg (by omega)))))))))
  · skip
    intro hx j i j0 j1 ht
    unfold fx_tb at ht
    have h1 : ∀ p i : Int, ¬ (p = 29 ∧ i = 0) → S1.1 p i = S.1 p i := fun p i hp => by rw [d1]; exact if_neg hp
    have g1 : S1.1 29 0 = v1 := by rw [d1]; first | exact if_pos ⟨rfl, rfl⟩ | rfl
    have h2 : ∀ p i : Int, ¬ p = 30 → S2.1 p i = S1.1 p i := fun p i hp => by rw [d2]; exact if_neg (fun z => hp z.1)
    have g2 : ∀ i : Int, 0 ≤ i → i < 20 → S2.1 30 i = S1.1 (x1 + 1) i := fun i i0 i1 => by rw [d2]; exact (if_pos ⟨rfl, by omega, by omega⟩).trans (by rw [show (0 : Int) + (i - 0) = i by omega])
    have h3 : ∀ p i : Int, ¬ p = 31 → S3.1 p i = S2.1 p i := fun p i hp => by rw [d3]; exact if_neg (fun z => hp z.1)
    have g3 : ∀ i : Int, 0 ≤ i → i < 20 → S3.1 31 i = S2.1 (x1 + 2) i := fun i i0 i1 => by rw [d3]; exact (if_pos ⟨rfl, by omega, by omega⟩).trans (by rw [show (0 : Int) + (i - 0) = i by omega])
    have h4 : ∀ p i : Int, ¬ p = 32 → S4.1 p i = S3.1 p i := fun p i hp => by rw [d4]; exact if_neg (fun z => hp z.1)
    have g4 : ∀ i : Int, 0 ≤ i → i < 20 → S4.1 32 i = S3.1 (x1 + 3) i := fun i i0 i1 => by rw [d4]; exact (if_pos ⟨rfl, by omega, by omega⟩).trans (by rw [show (0 : Int) + (i - 0) = i by omega])
    have h5 : ∀ p i : Int, ¬ p = 33 → S5.1 p i = S4.1 p i := fun p i hp => by rw [d5]; exact if_neg (fun z => hp z.1)
    have g5 : ∀ i : Int, 0 ≤ i → i < 20 → S5.1 33 i = S4.1 (x1 + 4) i := fun i i0 i1 => by rw [d5]; exact (if_pos ⟨rfl, by omega, by omega⟩).trans (by rw [show (0 : Int) + (i - 0) = i by omega])
    have h6 : ∀ p i : Int, ¬ p = 34 → S6.1 p i = S5.1 p i := fun p i hp => by rw [d6]; exact if_neg (fun z => hp z.1)
    have g6 : ∀ i : Int, 0 ≤ i → i < 1600 → S6.1 34 i = S5.1 (x1 + 5) i := fun i i0 i1 => by rw [d6]; exact (if_pos ⟨rfl, by omega, by omega⟩).trans (by rw [show (0 : Int) + (i - 0) = i by omega])
    have h7 : ∀ p i : Int, ¬ p = 35 → S7.1 p i = S6.1 p i := fun p i hp => by rw [d7]; exact if_neg (fun z => hp z.1)
    have g7 : ∀ i : Int, 0 ≤ i → i < 100 → S7.1 35 i = S6.1 (x1 + 6) i := fun i i0 i1 => by rw [d7]; exact (if_pos ⟨rfl, by omega, by omega⟩).trans (by rw [show (0 : Int) + (i - 0) = i by omega])
    have h8 : ∀ p i : Int, ¬ p = 36 → S8.1 p i = S7.1 p i := fun p i hp => by rw [d8]; exact if_neg (fun z => hp z.1)
    have g8 : ∀ i : Int, 0 ≤ i → i < 100 → S8.1 36 i = S7.1 (x1 + 7) i := fun i i0 i1 => by rw [d8]; exact (if_pos ⟨rfl, by omega, by omega⟩).trans (by rw [show (0 : Int) + (i - 0) = i by omega])
    rcases ht with h | h | h | h | h | h | h | h | h | h | h | h | h | h | h | h | h | h
    · omega
    · omega
    · omega
    · omega
    · omega
    · omega
    · omega
    · omega
    · omega
    · omega
    · obtain ⟨rfl, h⟩ := h
      subst h
      rw [show x1 - 28 + 28 = x1 by omega, show (1 : Int) + 28 = 29 by omega]
      exact (((((((((h8 29 0 (by omega))).trans ((h7 29 0 (by omega)))).trans ((h6 29 0 (by omega)))).trans ((h5 29 0 (by omega)))).trans ((h4 29 0 (by omega)))).trans ((h3 29 0 (by omega)))).trans ((h2 29 0 (by omega)))).trans ((g1))).trans ((e1))
    · obtain ⟨ja, jb, i0, i1⟩ := h
      have hj : j = 29 ∨ j = 30 ∨ j = 31 ∨ j = 32 := by omega
      rcases hj with rfl | rfl | rfl | rfl
      · rw [show x1 - 28 + 29 = (x1 + 1) by omega, show (1 : Int) + 29 = 30 by omega]
        exact ((((((((h8 30 i (by omega))).trans ((h7 30 i (by omega)))).trans ((h6 30 i (by omega)))).trans ((h5 30 i (by omega)))).trans ((h4 30 i (by omega)))).trans ((h3 30 i (by omega)))).trans ((g2 i i0 i1))).trans ((h1 (x1 + 1) i (by omega)))
      · rw [show x1 - 28 + 30 = (x1 + 2) by omega, show (1 : Int) + 30 = 31 by omega]
        exact ((((((((h8 31 i (by omega))).trans ((h7 31 i (by omega)))).trans ((h6 31 i (by omega)))).trans ((h5 31 i (by omega)))).trans ((h4 31 i (by omega)))).trans ((g3 i i0 i1))).trans ((h2 (x1 + 2) i (by omega)))).trans ((h1 (x1 + 2) i (by omega)))
      · rw [show x1 - 28 + 31 = (x1 + 3) by omega, show (1 : Int) + 31 = 32 by omega]
        exact ((((((((h8 32 i (by omega))).trans ((h7 32 i (by omega)))).trans ((h6 32 i (by omega)))).trans ((h5 32 i (by omega)))).trans ((g4 i i0 i1))).trans ((h3 (x1 + 3) i (by omega)))).trans ((h2 (x1 + 3) i (by omega)))).trans ((h1 (x1 + 3) i (by omega)))
      · rw [show x1 - 28 + 32 = (x1 + 4) by omega, show (1 : Int) + 32 = 33 by omega]
        exact ((((((((h8 33 i (by omega))).trans ((h7 33 i (by omega)))).trans ((h6 33 i (by omega)))).trans ((g5 i i0 i1))).trans ((h4 (x1 + 4) i (by omega)))).trans ((h3 (x1 + 4) i (by omega)))).trans ((h2 (x1 + 4) i (by omega)))).trans ((h1 (x1 + 4) i (by omega)))
    · obtain ⟨rfl, i0, i1⟩ := h
      rw [show x1 - 28 + 33 = (x1 + 5) by omega, show (1 : Int) + 33 = 34 by omega]
      exact ((((((((h8 34 i (by omega))).trans ((h7 34 i (by omega)))).trans ((g6 i i0 i1))).trans ((h5 (x1 + 5) i (by omega)))).trans ((h4 (x1 + 5) i (by omega)))).trans ((h3 (x1 + 5) i (by omega)))).trans ((h2 (x1 + 5) i (by omega)))).trans ((h1 (x1 + 5) i (by omega)))
    · obtain ⟨ja, jb, i0, i1⟩ := h
      have hj : j = 34 ∨ j = 35 := by omega
      rcases hj with rfl | rfl
      · rw [show x1 - 28 + 34 = (x1 + 6) by omega, show (1 : Int) + 34 = 35 by omega]
        exact ((((((((h8 35 i (by omega))).trans ((g7 i i0 i1))).trans ((h6 (x1 + 6) i (by omega)))).trans ((h5 (x1 + 6) i (by omega)))).trans ((h4 (x1 + 6) i (by omega)))).trans ((h3 (x1 + 6) i (by omega)))).trans ((h2 (x1 + 6) i (by omega)))).trans ((h1 (x1 + 6) i (by omega)))
      · rw [show x1 - 28 + 35 = (x1 + 7) by omega, show (1 : Int) + 35 = 36 by omega]
        exact ((((((((g8 i i0 i1)).trans ((h7 (x1 + 7) i (by omega)))).trans ((h6 (x1 + 7) i (by omega)))).trans ((h5 (x1 + 7) i (by omega)))).trans ((h4 (x1 + 7) i (by omega)))).trans ((h3 (x1 + 7) i (by omega)))).trans ((h2 (x1 + 7) i (by omega)))).trans ((h1 (x1 + 7) i (by omega)))
    · omega
    · omega
    · omega
    · omega
theorem q298_0 (S : fx_S) (x1 : Int) (hS : fx_Sok S) (g1 : 0 ≤ x1 ∧ x1 < S.2.2) (v1 : Int) (e1 : v1 = S.1 x1 0) (b1 : -2147483648 ≤ v1 ∧ v1 ≤ 2147483647) (S1 : fx_S) (d1 : S1 = (fx_up S.1 38 0 v1, S.2)) (S2 : fx_S) (d2 : S2 = (fx_cy S1.1 (x1 + 1) 0 39 0 12, S1.2)) (S3 : fx_S) (d3 : S3 = (fx_cy S2.1 (x1 + 2) 0 40 0 12, S2.2)) (S4 : fx_S) (d4 : S4 = (fx_cy S3.1 (x1 + 3) 0 41 0 12, S3.2)) (S5 : fx_S) (d5 : S5 = (fx_cy S4.1 (x1 + 4) 0 42 0 12, S4.2)) : s298 S x1 0 S5 := by
  refine ⟨((show S5.2 = S4.2 by rw [d5])).trans (((show S4.2 = S3.2 by rw [d4])).trans (((show S3.2 = S2.2 by rw [d3])).trans (((show S2.2 = S1.2 by rw [d2])).trans ((show S1.2 = S.2 by rw [d1]))))), ?_, ?_⟩
  · intro p i hW
    clear b1 e1
    exact ((show S5.1 p i = S4.1 p i by rw [d5]; exact if_neg (by omega))).trans (((show S4.1 p i = S3.1 p i by rw [d4]; exact if_neg (by omega))).trans (((show S3.1 p i = S2.1 p i by rw [d3]; exact if_neg (by omega))).trans (((show S2.1 p i = S1.1 p i by rw [d2]; exact if_neg (by omega))).trans ((show S1.1 p i = S.1 p i by rw [d1]; exact if_neg (by omega))))))
  · skip
    intro hx j i j0 j1 ht
    unfold fx_tb at ht
    have h1 : ∀ p i : Int, ¬ (p = 38 ∧ i = 0) → S1.1 p i = S.1 p i := fun p i hp => by rw [d1]; exact if_neg hp
    have g1 : S1.1 38 0 = v1 := by rw [d1]; first | exact if_pos ⟨rfl, rfl⟩ | rfl
    have h2 : ∀ p i : Int, ¬ p = 39 → S2.1 p i = S1.1 p i := fun p i hp => by rw [d2]; exact if_neg (fun z => hp z.1)
    have g2 : ∀ i : Int, 0 ≤ i → i < 12 → S2.1 39 i = S1.1 (x1 + 1) i := fun i i0 i1 => by rw [d2]; exact (if_pos ⟨rfl, by omega, by omega⟩).trans (by rw [show (0 : Int) + (i - 0) = i by omega])
    have h3 : ∀ p i : Int, ¬ p = 40 → S3.1 p i = S2.1 p i := fun p i hp => by rw [d3]; exact if_neg (fun z => hp z.1)
    have g3 : ∀ i : Int, 0 ≤ i → i < 12 → S3.1 40 i = S2.1 (x1 + 2) i := fun i i0 i1 => by rw [d3]; exact (if_pos ⟨rfl, by omega, by omega⟩).trans (by rw [show (0 : Int) + (i - 0) = i by omega])
    have h4 : ∀ p i : Int, ¬ p = 41 → S4.1 p i = S3.1 p i := fun p i hp => by rw [d4]; exact if_neg (fun z => hp z.1)
    have g4 : ∀ i : Int, 0 ≤ i → i < 12 → S4.1 41 i = S3.1 (x1 + 3) i := fun i i0 i1 => by rw [d4]; exact (if_pos ⟨rfl, by omega, by omega⟩).trans (by rw [show (0 : Int) + (i - 0) = i by omega])
    have h5 : ∀ p i : Int, ¬ p = 42 → S5.1 p i = S4.1 p i := fun p i hp => by rw [d5]; exact if_neg (fun z => hp z.1)
    have g5 : ∀ i : Int, 0 ≤ i → i < 12 → S5.1 42 i = S4.1 (x1 + 4) i := fun i i0 i1 => by rw [d5]; exact (if_pos ⟨rfl, by omega, by omega⟩).trans (by rw [show (0 : Int) + (i - 0) = i by omega])
    rcases ht with h | h | h | h | h | h | h | h | h | h | h | h | h | h | h | h | h | h
    · omega
    · omega
    · omega
    · omega
    · omega
    · omega
    · omega
    · omega
    · omega
    · omega
    · omega
    · omega
    · omega
    · omega
    · obtain ⟨rfl, h⟩ := h
      subst h
      rw [show x1 - 37 + 37 = x1 by omega, show (1 : Int) + 37 = 38 by omega]
      exact ((((((h5 38 0 (by omega))).trans ((h4 38 0 (by omega)))).trans ((h3 38 0 (by omega)))).trans ((h2 38 0 (by omega)))).trans ((g1))).trans ((e1))
    · obtain ⟨ja, jb, i0, i1⟩ := h
      have hj : j = 38 ∨ j = 39 ∨ j = 40 ∨ j = 41 := by omega
      rcases hj with rfl | rfl | rfl | rfl
      · rw [show x1 - 37 + 38 = (x1 + 1) by omega, show (1 : Int) + 38 = 39 by omega]
        exact (((((h5 39 i (by omega))).trans ((h4 39 i (by omega)))).trans ((h3 39 i (by omega)))).trans ((g2 i i0 i1))).trans ((h1 (x1 + 1) i (by omega)))
      · rw [show x1 - 37 + 39 = (x1 + 2) by omega, show (1 : Int) + 39 = 40 by omega]
        exact (((((h5 40 i (by omega))).trans ((h4 40 i (by omega)))).trans ((g3 i i0 i1))).trans ((h2 (x1 + 2) i (by omega)))).trans ((h1 (x1 + 2) i (by omega)))
      · rw [show x1 - 37 + 40 = (x1 + 3) by omega, show (1 : Int) + 40 = 41 by omega]
        exact (((((h5 41 i (by omega))).trans ((g4 i i0 i1))).trans ((h3 (x1 + 3) i (by omega)))).trans ((h2 (x1 + 3) i (by omega)))).trans ((h1 (x1 + 3) i (by omega)))
      · rw [show x1 - 37 + 41 = (x1 + 4) by omega, show (1 : Int) + 41 = 42 by omega]
        exact (((((g5 i i0 i1)).trans ((h4 (x1 + 4) i (by omega)))).trans ((h3 (x1 + 4) i (by omega)))).trans ((h2 (x1 + 4) i (by omega)))).trans ((h1 (x1 + 4) i (by omega)))
    · omega
    · omega
theorem q299_0 (S : fx_S) (x1 : Int) (hS : fx_Sok S) (g1 : 0 ≤ x1 ∧ x1 < S.2.2) (S1 : fx_S) (d1 : S1 = (fx_cy S.1 (x1 + 1) 0 45 0 2, S.2)) (S2 : fx_S) (d2 : S2 = (fx_cy S1.1 (x1 + 2) 0 46 0 14, S1.2)) (S3 : fx_S) (d3 : S3 = (fx_cy S2.1 (x1 + 3) 0 47 0 14, S2.2)) (S4 : fx_S) (d4 : S4 = (fx_cy S3.1 (x1 + 4) 0 48 0 14, S3.2)) : s299 S x1 0 S4 := by
  refine ⟨((show S4.2 = S3.2 by rw [d4])).trans (((show S3.2 = S2.2 by rw [d3])).trans (((show S2.2 = S1.2 by rw [d2])).trans ((show S1.2 = S.2 by rw [d1])))), ?_, ?_⟩
  · intro p i hW
    exact ((show S4.1 p i = S3.1 p i by rw [d4]; exact if_neg (by omega))).trans (((show S3.1 p i = S2.1 p i by rw [d3]; exact if_neg (by omega))).trans (((show S2.1 p i = S1.1 p i by rw [d2]; exact if_neg (by omega))).trans ((show S1.1 p i = S.1 p i by rw [d1]; exact if_neg (by omega)))))
  · skip
    intro hx j i j0 j1 ht
    unfold fx_tb at ht
    have h1 : ∀ p i : Int, ¬ p = 45 → S1.1 p i = S.1 p i := fun p i hp => by rw [d1]; exact if_neg (fun z => hp z.1)
    have g1 : ∀ i : Int, 0 ≤ i → i < 2 → S1.1 45 i = S.1 (x1 + 1) i := fun i i0 i1 => by rw [d1]; exact (if_pos ⟨rfl, by omega, by omega⟩).trans (by rw [show (0 : Int) + (i - 0) = i by omega])
    have h2 : ∀ p i : Int, ¬ p = 46 → S2.1 p i = S1.1 p i := fun p i hp => by rw [d2]; exact if_neg (fun z => hp z.1)
    have g2 : ∀ i : Int, 0 ≤ i → i < 14 → S2.1 46 i = S1.1 (x1 + 2) i := fun i i0 i1 => by rw [d2]; exact (if_pos ⟨rfl, by omega, by omega⟩).trans (by rw [show (0 : Int) + (i - 0) = i by omega])
    have h3 : ∀ p i : Int, ¬ p = 47 → S3.1 p i = S2.1 p i := fun p i hp => by rw [d3]; exact if_neg (fun z => hp z.1)
    have g3 : ∀ i : Int, 0 ≤ i → i < 14 → S3.1 47 i = S2.1 (x1 + 3) i := fun i i0 i1 => by rw [d3]; exact (if_pos ⟨rfl, by omega, by omega⟩).trans (by rw [show (0 : Int) + (i - 0) = i by omega])
    have h4 : ∀ p i : Int, ¬ p = 48 → S4.1 p i = S3.1 p i := fun p i hp => by rw [d4]; exact if_neg (fun z => hp z.1)
    have g4 : ∀ i : Int, 0 ≤ i → i < 14 → S4.1 48 i = S3.1 (x1 + 4) i := fun i i0 i1 => by rw [d4]; exact (if_pos ⟨rfl, by omega, by omega⟩).trans (by rw [show (0 : Int) + (i - 0) = i by omega])
    rcases ht with h | h | h | h | h | h | h | h | h | h | h | h | h | h | h | h | h | h
    · omega
    · omega
    · omega
    · omega
    · omega
    · omega
    · omega
    · omega
    · omega
    · omega
    · omega
    · omega
    · omega
    · omega
    · omega
    · omega
    · obtain ⟨rfl, i0, i1⟩ := h
      rw [show x1 - 43 + 44 = (x1 + 1) by omega, show (1 : Int) + 44 = 45 by omega]
      exact ((((h4 45 i (by omega))).trans ((h3 45 i (by omega)))).trans ((h2 45 i (by omega)))).trans ((g1 i i0 i1))
    · obtain ⟨ja, jb, i0, i1⟩ := h
      have hj : j = 45 ∨ j = 46 ∨ j = 47 := by omega
      rcases hj with rfl | rfl | rfl
      · rw [show x1 - 43 + 45 = (x1 + 2) by omega, show (1 : Int) + 45 = 46 by omega]
        exact ((((h4 46 i (by omega))).trans ((h3 46 i (by omega)))).trans ((g2 i i0 i1))).trans ((h1 (x1 + 2) i (by omega)))
      · rw [show x1 - 43 + 46 = (x1 + 3) by omega, show (1 : Int) + 46 = 47 by omega]
        exact ((((h4 47 i (by omega))).trans ((g3 i i0 i1))).trans ((h2 (x1 + 3) i (by omega)))).trans ((h1 (x1 + 3) i (by omega)))
      · rw [show x1 - 43 + 47 = (x1 + 4) by omega, show (1 : Int) + 47 = 48 by omega]
        exact ((((g4 i i0 i1)).trans ((h3 (x1 + 4) i (by omega)))).trans ((h2 (x1 + 4) i (by omega)))).trans ((h1 (x1 + 4) i (by omega)))
theorem q300_0 (S : fx_S) (x1 x4 : Int) (hS : fx_Sok S) (g1 : -2147483648 ≤ x1 ∧ x1 ≤ 2147483647) (g4 : -2147483648 ≤ x4 ∧ x4 ≤ 2147483647) (c1 : 60 ≤ x4) : s300 S x1 x4 0 S := by
  refine ⟨rfl, ?_, ?_⟩
  · intro p i hW
    clear c1
    exact rfl
  · skip
    intro a0 a1 a2
    refine ⟨rfl, fun i => ?_⟩
    rw [if_neg (by omega)]
theorem q300_1 (S : fx_S) (x1 x4 : Int) (hS : fx_Sok S) (g1 : -2147483648 ≤ x1 ∧ x1 ≤ 2147483647) (g4 : -2147483648 ≤ x4 ∧ x4 ≤ 2147483647) (c1 : x4 < 60) (v2 : Int) (e2 : v2 = fx_mul x1 60) (v3 : Int) (e3 : v3 = fx_add v2 x4) (c2 : 0 ≤ v3) (c3 : v3 < 240) (S1 : fx_S) (d1 : S1 = (fx_up S.1 55 v3 0, S.2)) (v4 : Int) (e4 : v4 = fx_add x4 1) (z : Int) (Z : fx_S) (kz : fx_Sok Z) (bz : z = 0) (pz : s300 S1 x1 v4 z Z) : s300 S x1 x4 z Z := by
  obtain ⟨rZ, fZ, pz⟩ := pz
  refine ⟨(rZ).trans ((show S1.2 = S.2 by rw [d1])), ?_, ?_⟩
  · intro p i hW
    clear e4 c3 c2 e3 e2 c1
    exact ((fZ p i (by omega))).trans ((show S1.1 p i = S.1 p i by rw [d1]; exact if_neg (by omega)))
  · skip
    intro a0 a1 a2
    have h2 := e2
    first | rw [fx_mul_eq (by omega) (by omega)] at h2 | skip
    have h3 := e3
    first | rw [fx_add_eq (by omega) (by omega)] at h3 | skip
    have h4 := e4
    first | rw [fx_add_eq (by omega) (by omega)] at h4 | skip
    obtain ⟨b0, b1⟩ := pz (by omega) a1 a2
    refine ⟨b0, fun i => ?_⟩
    rw [b1 i, d1]
    dsimp only [fx_up]
    by_cases h1 : 60 * x1 + v4 ≤ i ∧ i < 60 * x1 + 60
    · rw [if_pos h1, if_pos (by omega)]
    · rw [if_neg h1]
      by_cases h2 : i = v3
      · rw [if_pos (by omega), if_pos (by omega)]
      · rw [if_neg (by omega), if_neg (by omega)]
theorem q301_0 (S : fx_S) (x3 x4 x5 x6 : Int) (hS : fx_Sok S) (g3 : -2147483648 ≤ x3 ∧ x3 ≤ 2147483647) (g4 : -2147483648 ≤ x4 ∧ x4 ≤ 2147483647) (g5 : -2147483648 ≤ x5 ∧ x5 ≤ 2147483647) (g6 : -2147483648 ≤ x6 ∧ x6 ≤ 2147483647) (c1 : x5 ≤ x6) : s301 S x3 x4 x5 x6 0 S := by
  refine ⟨rfl, ?_, ?_⟩
  · intro p i hW
    clear c1
    exact rfl
  · skip
    intro pb a0
    refine ⟨rfl, fun i => ?_⟩
    rw [if_neg (by omega)]
theorem q301_1 (S : fx_S) (x3 x4 x5 x6 : Int) (hS : fx_Sok S) (g3 : -2147483648 ≤ x3 ∧ x3 ≤ 2147483647) (g4 : -2147483648 ≤ x4 ∧ x4 ≤ 2147483647) (g5 : -2147483648 ≤ x5 ∧ x5 ≤ 2147483647) (g6 : -2147483648 ≤ x6 ∧ x6 ≤ 2147483647) (c1 : x6 < x5) (v4 : Int) (e4 : v4 = fx_mul 60 x3) (v5 : Int) (e5 : v5 = fx_add v4 x4) (v6 : Int) (e6 : v6 = fx_add v5 x6) (c2 : 0 ≤ x6) (c3 : x6 < 60) (v7 : Int) (e7 : v7 = S.1 90 x6) (b7 : -9223372036854775808 ≤ v7 ∧ v7 ≤ 9223372036854775807) (c4 : 0 ≤ v6) (c5 : v6 < 240) (S1 : fx_S) (d1 : S1 = (fx_up S.1 89 v6 v7, S.2)) (v8 : Int) (e8 : v8 = fx_add x6 1) (z : Int) (Z : fx_S) (kz : fx_Sok Z) (bz : -2147483648 ≤ z ∧ z ≤ 2147483647) (pz : s301 S1 x3 x4 x5 v8 z Z) : s301 S x3 x4 x5 x6 z Z := by
  obtain ⟨rZ, fZ, pz⟩ := pz
  refine ⟨(rZ).trans ((show S1.2 = S.2 by rw [d1])), ?_, ?_⟩
  · intro p i hW
    clear e8 c5 c4 b7 e7 c3 c2 e6 e5 e4 c1
    exact ((fZ p i (by omega))).trans ((show S1.1 p i = S.1 p i by rw [d1]; exact if_neg (by omega)))
  · skip
    intro pb a0
    have h4 := e4
    first | rw [fx_mul_eq (by omega) (by omega)] at h4 | skip
    have h5 := e5
    first | rw [fx_add_eq (by omega) (by omega)] at h5 | skip
    have h6 := e6
    first | rw [fx_add_eq (by omega) (by omega)] at h6 | skip
    have h8 := e8
    first | rw [fx_add_eq (by omega) (by omega)] at h8 | skip
    obtain ⟨b0, b1⟩ := pz pb (by omega)
    have g : ∀ i, S1.1 90 i = S.1 90 i := fun i => by rw [d1]; first | exact if_neg (by omega) | rfl
    refine ⟨b0, fun i => ?_⟩
    rw [b1 i, g, d1]
    dsimp only [fx_up]
    by_cases h1 : 60 * x3 + x4 + v8 ≤ i ∧ i < 60 * x3 + x4 + x5
    · rw [if_pos h1, if_pos (by omega)]
    · rw [if_neg h1]
      by_cases h2 : i = v6
      · rw [if_pos (by omega), if_pos (by omega), show i - (60 * x3 + x4) = x6 by omega]
        exact e7
      · rw [if_neg (by omega), if_neg (by omega)]
theorem q302_0 (S : fx_S) (hS : fx_Sok S) (v0 : Int) (e0 : v0 = S.1 50 4) (b0 : -2147483648 ≤ v0 ∧ v0 ≤ 2147483647) (v1 : Int) (e1 : v1 = S.1 50 1) (b1 : -2147483648 ≤ v1 ∧ v1 ≤ 2147483647) (c1 : v1 ≤ v0) (v2 : Int) (e2 : v2 = S.1 50 4) (b2 : -2147483648 ≤ v2 ∧ v2 ≤ 2147483647) (S1 : fx_S) (d1 : S1 = (fx_up S.1 50 5 v2, S.2)) (v3 : Int) (e3 : v3 = S1.1 50 4) (b3 : -2147483648 ≤ v3 ∧ v3 ≤ 2147483647) (v4 : Int) (e4 : v4 = S1.1 50 1) (b4 : -2147483648 ≤ v4 ∧ v4 ≤ 2147483647) (c2 : v3 < v4) (v5 : Int) (e5 : v5 = S1.1 50 4) (b5 : -2147483648 ≤ v5 ∧ v5 ≤ 2147483647) (c3 : 0 ≤ v5) (c4 : v5 < 600) (v6 : Int) (e6 : v6 = S1.1 51 v5) (b6 : -128 ≤ v6 ∧ v6 ≤ 127) (v7 : Int) (S2 : fx_S) (k2 : fx_Sok S2) (b7 : -2147483648 ≤ v7 ∧ v7 ≤ 2147483647) (p2 : s340 S1 v6 v7 S2) (S3 : fx_S) (d3 : S3 = (fx_up S2.1 50 6 v7, S2.2)) (v8 : Int) (e8 : v8 = S3.1 50 4) (b8 : -2147483648 ≤ v8 ∧ v8 ≤ 2147483647) (v9 : Int) (e9 : v9 = fx_add v8 1) (S4 : fx_S) (d4 : S4 = (fx_up S3.1 50 4 v9, S3.2)) (v10 : Int) (e10 : v10 = S4.1 50 6) (b10 : -2147483648 ≤ v10 ∧ v10 ≤ 2147483647) (c5 : v10 = 1) (z : Int) (Z : fx_S) (kz : fx_Sok Z) (bz : z = 0) (pz : s341 S4 1 z Z) : s302 S  z Z := by
  obtain rfl : S1 = S2 := p2
  obtain ⟨rZ, fZ⟩ := pz
  refine ⟨(rZ).trans (((show S4.2 = S3.2 by rw [d4])).trans (((show S3.2 = S1.2 by rw [d3])).trans ((show S1.2 = S.2 by rw [d1])))), ?_⟩
  · intro p i hW
    clear c5 b10 e10 e9 b8 e8 b7 b6 e6 c4 c3 b5 e5 c2 b4 e4 b3 e3 b2 e2 c1 b1 e1 b0 e0
    exact ((fZ p i (by omega))).trans (((show S4.1 p i = S3.1 p i by rw [d4]; exact if_neg (by omega))).trans (((show S3.1 p i = S1.1 p i by rw [d3]; exact if_neg (by omega))).trans ((show S1.1 p i = S.1 p i by rw [d1]; exact if_neg (by omega)))))
theorem q302_1 (S : fx_S) (hS : fx_Sok S) (v0 : Int) (e0 : v0 = S.1 50 4) (b0 : -2147483648 ≤ v0 ∧ v0 ≤ 2147483647) (v1 : Int) (e1 : v1 = S.1 50 1) (b1 : -2147483648 ≤ v1 ∧ v1 ≤ 2147483647) (c1 : v1 ≤ v0) (v2 : Int) (e2 : v2 = S.1 50 4) (b2 : -2147483648 ≤ v2 ∧ v2 ≤ 2147483647) (S1 : fx_S) (d1 : S1 = (fx_up S.1 50 5 v2, S.2)) (v3 : Int) (e3 : v3 = S1.1 50 4) (b3 : -2147483648 ≤ v3 ∧ v3 ≤ 2147483647) (v4 : Int) (e4 : v4 = S1.1 50 1) (b4 : -2147483648 ≤ v4 ∧ v4 ≤ 2147483647) (c2 : v3 < v4) (v5 : Int) (e5 : v5 = S1.1 50 4) (b5 : -2147483648 ≤ v5 ∧ v5 ≤ 2147483647) (c3 : 0 ≤ v5) (c4 : v5 < 600) (v6 : Int) (e6 : v6 = S1.1 51 v5) (b6 : -128 ≤ v6 ∧ v6 ≤ 127) (v7 : Int) (S2 : fx_S) (k2 : fx_Sok S2) (b7 : -2147483648 ≤ v7 ∧ v7 ≤ 2147483647) (p2 : s340 S1 v6 v7 S2) (S3 : fx_S) (d3 : S3 = (fx_up S2.1 50 6 v7, S2.2)) (v8 : Int) (e8 : v8 = S3.1 50 4) (b8 : -2147483648 ≤ v8 ∧ v8 ≤ 2147483647) (v9 : Int) (e9 : v9 = fx_add v8 1) (S4 : fx_S) (d4 : S4 = (fx_up S3.1 50 4 v9, S3.2)) (v10 : Int) (e10 : v10 = S4.1 50 6) (b10 : -2147483648 ≤ v10 ∧ v10 ≤ 2147483647) (c5 : v10 ≠ 1) (v11 : Int) (e11 : v11 = S4.1 50 6) (b11 : -2147483648 ≤ v11 ∧ v11 ≤ 2147483647) (c6 : v11 ≠ 2) (z : Int) (Z : fx_S) (kz : fx_Sok Z) (bz : z = 0) (pz : s341 S4 0 z Z) : s302 S  z Z := by
  obtain rfl : S1 = S2 := p2
  obtain ⟨rZ, fZ⟩ := pz
  refine ⟨(rZ).trans (((show S4.2 = S3.2 by rw [d4])).trans (((show S3.2 = S1.2 by rw [d3])).trans ((show S1.2 = S.2 by rw [d1])))), ?_⟩
  · intro p i hW
    clear c6 b11 e11 c5 b10 e10 e9 b8 e8 b7 b6 e6 c4 c3 b5 e5 c2 b4 e4 b3 e3 b2 e2 c1 b1 e1 b0 e0
    exact ((fZ p i (by omega))).trans (((show S4.1 p i = S3.1 p i by rw [d4]; exact if_neg (by omega))).trans (((show S3.1 p i = S1.1 p i by rw [d3]; exact if_neg (by omega))).trans ((show S1.1 p i = S.1 p i by rw [d1]; exact if_neg (by omega)))))
theorem q302_2 (S : fx_S) (hS : fx_Sok S) (v0 : Int) (e0 : v0 = S.1 50 4) (b0 : -2147483648 ≤ v0 ∧ v0 ≤ 2147483647) (v1 : Int) (e1 : v1 = S.1 50 1) (b1 : -2147483648 ≤ v1 ∧ v1 ≤ 2147483647) (c1 : v1 ≤ v0) (v2 : Int) (e2 : v2 = S.1 50 4) (b2 : -2147483648 ≤ v2 ∧ v2 ≤ 2147483647) (S1 : fx_S) (d1 : S1 = (fx_up S.1 50 5 v2, S.2)) (v3 : Int) (e3 : v3 = S1.1 50 4) (b3 : -2147483648 ≤ v3 ∧ v3 ≤ 2147483647) (v4 : Int) (e4 : v4 = S1.1 50 1) (b4 : -2147483648 ≤ v4 ∧ v4 ≤ 2147483647) (c2 : v3 < v4) (v5 : Int) (e5 : v5 = S1.1 50 4) (b5 : -2147483648 ≤ v5 ∧ v5 ≤ 2147483647) (c3 : 0 ≤ v5) (c4 : v5 < 600) (v6 : Int) (e6 : v6 = S1.1 51 v5) (b6 : -128 ≤ v6 ∧ v6 ≤ 127) (v7 : Int) (S2 : fx_S) (k2 : fx_Sok S2) (b7 : -2147483648 ≤ v7 ∧ v7 ≤ 2147483647) (p2 : s340 S1 v6 v7 S2) (S3 : fx_S) (d3 : S3 = (fx_up S2.1 50 6 v7, S2.2)) (v8 : Int) (e8 : v8 = S3.1 50 4) (b8 : -2147483648 ≤ v8 ∧ v8 ≤ 2147483647) (v9 : Int) (e9 : v9 = fx_add v8 1) (S4 : fx_S) (d4 : S4 = (fx_up S3.1 50 4 v9, S3.2)) (v10 : Int) (e10 : v10 = S4.1 50 6) (b10 : -2147483648 ≤ v10 ∧ v10 ≤ 2147483647) (c5 : v10 ≠ 1) (v11 : Int) (e11 : v11 = S4.1 50 6) (b11 : -2147483648 ≤ v11 ∧ v11 ≤ 2147483647) (c6 : v11 = 2) (z : Int) (Z : fx_S) (kz : fx_Sok Z) (bz : z = 0) (pz : s341 S4 1 z Z) : s302 S  z Z := by
  obtain rfl : S1 = S2 := p2
  obtain ⟨rZ, fZ⟩ := pz
  refine ⟨(rZ).trans (((show S4.2 = S3.2 by rw [d4])).trans (((show S3.2 = S1.2 by rw [d3])).trans ((show S1.2 = S.2 by rw [d1])))), ?_⟩
  · intro p i hW
    clear c6 b11 e11 c5 b10 e10 e9 b8 e8 b7 b6 e6 c4 c3 b5 e5 c2 b4 e4 b3 e3 b2 e2 c1 b1 e1 b0 e0
    exact ((fZ p i (by omega))).trans (((show S4.1 p i = S3.1 p i by rw [d4]; exact if_neg (by omega))).trans (((show S3.1 p i = S1.1 p i by rw [d3]; exact if_neg (by omega))).trans ((show S1.1 p i = S.1 p i by rw [d1]; exact if_neg (by omega)))))
theorem q302_3 (S : fx_S) (hS : fx_Sok S) (v0 : Int) (e0 : v0 = S.1 50 4) (b0 : -2147483648 ≤ v0 ∧ v0 ≤ 2147483647) (v1 : Int) (e1 : v1 = S.1 50 1) (b1 : -2147483648 ≤ v1 ∧ v1 ≤ 2147483647) (c1 : v1 ≤ v0) (v2 : Int) (e2 : v2 = S.1 50 4) (b2 : -2147483648 ≤ v2 ∧ v2 ≤ 2147483647) (S1 : fx_S) (d1 : S1 = (fx_up S.1 50 5 v2, S.2)) (v3 : Int) (e3 : v3 = S1.1 50 4) (b3 : -2147483648 ≤ v3 ∧ v3 ≤ 2147483647) (v4 : Int) (e4 : v4 = S1.1 50 1) (b4 : -2147483648 ≤ v4 ∧ v4 ≤ 2147483647) (c2 : v4 ≤ v3) (S2 : fx_S) (d2 : S2 = (fx_up S1.1 50 6 5, S1.2)) : s302 S  0 S2 := by
  refine ⟨((show S2.2 = S1.2 by rw [d2])).trans ((show S1.2 = S.2 by rw [d1])), ?_⟩
  · intro p i hW
    clear c2 b4 e4 b3 e3 b2 e2 c1 b1 e1 b0 e0
    exact ((show S2.1 p i = S1.1 p i by rw [d2]; exact if_neg (by omega))).trans ((show S1.1 p i = S.1 p i by rw [d1]; exact if_neg (by omega)))
theorem q302_4 (S : fx_S) (hS : fx_Sok S) (v0 : Int) (e0 : v0 = S.1 50 4) (b0 : -2147483648 ≤ v0 ∧ v0 ≤ 2147483647) (v1 : Int) (e1 : v1 = S.1 50 1) (b1 : -2147483648 ≤ v1 ∧ v1 ≤ 2147483647) (c1 : v0 < v1) (v2 : Int) (e2 : v2 = S.1 50 4) (b2 : -2147483648 ≤ v2 ∧ v2 ≤ 2147483647) (c2 : 0 ≤ v2) (c3 : v2 < 600) (v3 : Int) (e3 : v3 = S.1 51 v2) (b3 : -128 ≤ v3 ∧ v3 ≤ 127) (v4 : Int) (S1 : fx_S) (k1 : fx_Sok S1) (b4 : -2147483648 ≤ v4 ∧ v4 ≤ 2147483647) (p1 : s340 S v3 v4 S1) (c4 : v4 ≠ 4) (v5 : Int) (e5 : v5 = S1.1 50 4) (b5 : -2147483648 ≤ v5 ∧ v5 ≤ 2147483647) (S2 : fx_S) (d2 : S2 = (fx_up S1.1 50 5 v5, S1.2)) (v6 : Int) (e6 : v6 = S2.1 50 4) (b6 : -2147483648 ≤ v6 ∧ v6 ≤ 2147483647) (v7 : Int) (e7 : v7 = S2.1 50 1) (b7 : -2147483648 ≤ v7 ∧ v7 ≤ 2147483647) (c5 : v6 < v7) (v8 : Int) (e8 : v8 = S2.1 50 4) (b8 : -2147483648 ≤ v8 ∧ v8 ≤ 2147483647) (c6 : 0 ≤ v8) (c7 : v8 < 600) (v9 : Int) (e9 : v9 = S2.1 51 v8) (b9 : -128 ≤ v9 ∧ v9 ≤ 127) (v10 : Int) (S3 : fx_S) (k3 : fx_Sok S3) (b10 : -2147483648 ≤ v10 ∧ v10 ≤ 2147483647) (p3 : s340 S2 v9 v10 S3) (S4 : fx_S) (d4 : S4 = (fx_up S3.1 50 6 v10, S3.2)) (v11 : Int) (e11 : v11 = S4.1 50 4) (b11 : -2147483648 ≤ v11 ∧ v11 ≤ 2147483647) (v12 : Int) (e12 : v12 = fx_add v11 1) (S5 : fx_S) (d5 : S5 = (fx_up S4.1 50 4 v12, S4.2)) (v13 : Int) (e13 : v13 = S5.1 50 6) (b13 : -2147483648 ≤ v13 ∧ v13 ≤ 2147483647) (c8 : v13 = 1) (z : Int) (Z : fx_S) (kz : fx_Sok Z) (bz : z = 0) (pz : s341 S5 1 z Z) : s302 S  z Z := by
  obtain rfl : S = S1 := p1
  obtain rfl : S2 = S3 := p3
  obtain ⟨rZ, fZ⟩ := pz
  refine ⟨(rZ).trans (((show S5.2 = S4.2 by rw [d5])).trans (((show S4.2 = S2.2 by rw [d4])).trans ((show S2.2 = S.2 by rw [d2])))), ?_⟩
  · intro p i hW
    clear c8 b13 e13 e12 b11 e11 b10 b9 e9 c7 c6 b8 e8 c5 b7 e7 b6 e6 b5 e5 c4 b4 b3 e3 c3 c2 b2 e2 c1 b1 e1 b0 e0
    exact ((fZ p i (by omega))).trans (((show S5.1 p i = S4.1 p i by rw [d5]; exact if_neg (by omega))).trans (((show S4.1 p i = S2.1 p i by rw [d4]; exact if_neg (by omega))).trans ((show S2.1 p i = S.1 p i by rw [d2]; exact if_neg (by omega)))))
theorem q302_5 (S : fx_S) (hS : fx_Sok S) (v0 : Int) (e0 : v0 = S.1 50 4) (b0 : -2147483648 ≤ v0 ∧ v0 ≤ 2147483647) (v1 : Int) (e1 : v1 = S.1 50 1) (b1 : -2147483648 ≤ v1 ∧ v1 ≤ 2147483647) (c1 : v0 < v1) (v2 : Int) (e2 : v2 = S.1 50 4) (b2 : -2147483648 ≤ v2 ∧ v2 ≤ 2147483647) (c2 : 0 ≤ v2) (c3 : v2 < 600) (v3 : Int) (e3 : v3 = S.1 51 v2) (b3 : -128 ≤ v3 ∧ v3 ≤ 127) (v4 : Int) (S1 : fx_S) (k1 : fx_Sok S1) (b4 : -2147483648 ≤ v4 ∧ v4 ≤ 2147483647) (p1 : s340 S v3 v4 S1) (c4 : v4 ≠ 4) (v5 : Int) (e5 : v5 = S1.1 50 4) (b5 : -2147483648 ≤ v5 ∧ v5 ≤ 2147483647) (S2 : fx_S) (d2 : S2 = (fx_up S1.1 50 5 v5, S1.2)) (v6 : Int) (e6 : v6 = S2.1 50 4) (b6 : -2147483648 ≤ v6 ∧ v6 ≤ 2147483647) (v7 : Int) (e7 : v7 = S2.1 50 1) (b7 : -2147483648 ≤ v7 ∧ v7 ≤ 2147483647) (c5 : v6 < v7) (v8 : Int) (e8 : v8 = S2.1 50 4) (b8 : -2147483648 ≤ v8 ∧ v8 ≤ 2147483647) (c6 : 0 ≤ v8) (c7 : v8 < 600) (v9 : Int) (e9 : v9 = S2.1 51 v8) (b9 : -128 ≤ v9 ∧ v9 ≤ 127) (v10 : Int) (S3 : fx_S) (k3 : fx_Sok S3) (b10 : -2147483648 ≤ v10 ∧ v10 ≤ 2147483647) (p3 : s340 S2 v9 v10 S3) (S4 : fx_S) (d4 : S4 = (fx_up S3.1 50 6 v10, S3.2)) (v11 : Int) (e11 : v11 = S4.1 50 4) (b11 : -2147483648 ≤ v11 ∧ v11 ≤ 2147483647) (v12 : Int) (e12 : v12 = fx_add v11 1) (S5 : fx_S) (d5 : S5 = (fx_up S4.1 50 4 v12, S4.2)) (v13 : Int) (e13 : v13 = S5.1 50 6) (b13 : -2147483648 ≤ v13 ∧ v13 ≤ 2147483647) (c8 : v13 ≠ 1) (v14 : Int) (e14 : v14 = S5.1 50 6) (b14 : -2147483648 ≤ v14 ∧ v14 ≤ 2147483647) (c9 : v14 ≠ 2) (z : Int) (Z : fx_S) (kz : fx_Sok Z) (bz : z = 0) (pz : s341 S5 0 z Z) : s302 S  z Z := by
  obtain rfl : S = S1 := p1
  obtain rfl : S2 = S3 := p3
  obtain ⟨rZ, fZ⟩ := pz
  refine ⟨(rZ).trans (((show S5.2 = S4.2 by rw [d5])).trans (((show S4.2 = S2.2 by rw [d4])).trans ((show S2.2 = S.2 by rw [d2])))), ?_⟩
  · intro p i hW
    clear c9 b14 e14 c8 b13 e13 e12 b11 e11 b10 b9 e9 c7 c6 b8 e8 c5 b7 e7 b6 e6 b5 e5 c4 b4 b3 e3 c3 c2 b2 e2 c1 b1 e1 b0 e0
    exact ((fZ p i (by omega))).trans (((show S5.1 p i = S4.1 p i by rw [d5]; exact if_neg (by omega))).trans (((show S4.1 p i = S2.1 p i by rw [d4]; exact if_neg (by omega))).trans ((show S2.1 p i = S.1 p i by rw [d2]; exact if_neg (by omega)))))
theorem q302_6 (S : fx_S) (hS : fx_Sok S) (v0 : Int) (e0 : v0 = S.1 50 4) (b0 : -2147483648 ≤ v0 ∧ v0 ≤ 2147483647) (v1 : Int) (e1 : v1 = S.1 50 1) (b1 : -2147483648 ≤ v1 ∧ v1 ≤ 2147483647) (c1 : v0 < v1) (v2 : Int) (e2 : v2 = S.1 50 4) (b2 : -2147483648 ≤ v2 ∧ v2 ≤ 2147483647) (c2 : 0 ≤ v2) (c3 : v2 < 600) (v3 : Int) (e3 : v3 = S.1 51 v2) (b3 : -128 ≤ v3 ∧ v3 ≤ 127) (v4 : Int) (S1 : fx_S) (k1 : fx_Sok S1) (b4 : -2147483648 ≤ v4 ∧ v4 ≤ 2147483647) (p1 : s340 S v3 v4 S1) (c4 : v4 ≠ 4) (v5 : Int) (e5 : v5 = S1.1 50 4) (b5 : -2147483648 ≤ v5 ∧ v5 ≤ 2147483647) (S2 : fx_S) (d2 : S2 = (fx_up S1.1 50 5 v5, S1.2)) (v6 : Int) (e6 : v6 = S2.1 50 4) (b6 : -2147483648 ≤ v6 ∧ v6 ≤ 2147483647) (v7 : Int) (e7 : v7 = S2.1 50 1) (b7 : -2147483648 ≤ v7 ∧ v7 ≤ 2147483647) (c5 : v6 < v7) (v8 : Int) (e8 : v8 = S2.1 50 4) (b8 : -2147483648 ≤ v8 ∧ v8 ≤ 2147483647) (c6 : 0 ≤ v8) (c7 : v8 < 600) (v9 : Int) (e9 : v9 = S2.1 51 v8) (b9 : -128 ≤ v9 ∧ v9 ≤ 127) (v10 : Int) (S3 : fx_S) (k3 : fx_Sok S3) (b10 : -2147483648 ≤ v10 ∧ v10 ≤ 2147483647) (p3 : s340 S2 v9 v10 S3) (S4 : fx_S) (d4 : S4 = (fx_up S3.1 50 6 v10, S3.2)) (v11 : Int) (e11 : v11 = S4.1 50 4) (b11 : -2147483648 ≤ v11 ∧ v11 ≤ 2147483647) (v12 : Int) (e12 : v12 = fx_add v11 1) (S5 : fx_S) (d5 : S5 = (fx_up S4.1 50 4 v12, S4.2)) (v13 : Int) (e13 : v13 = S5.1 50 6) (b13 : -2147483648 ≤ v13 ∧ v13 ≤ 2147483647) (c8 : v13 ≠ 1) (v14 : Int) (e14 : v14 = S5.1 50 6) (b14 : -2147483648 ≤ v14 ∧ v14 ≤ 2147483647) (c9 : v14 = 2) (z : Int) (Z : fx_S) (kz : fx_Sok Z) (bz : z = 0) (pz : s341 S5 1 z Z) : s302 S  z Z := by
  obtain rfl : S = S1 := p1
  obtain rfl : S2 = S3 := p3
  obtain ⟨rZ, fZ⟩ := pz
  refine ⟨(rZ).trans (((show S5.2 = S4.2 by rw [d5])).trans (((show S4.2 = S2.2 by rw [d4])).trans ((show S2.2 = S.2 by rw [d2])))), ?_⟩
  · intro p i hW
    clear c9 b14 e14 c8 b13 e13 e12 b11 e11 b10 b9 e9 c7 c6 b8 e8 c5 b7 e7 b6 e6 b5 e5 c4 b4 b3 e3 c3 c2 b2 e2 c1 b1 e1 b0 e0
    exact ((fZ p i (by omega))).trans (((show S5.1 p i = S4.1 p i by rw [d5]; exact if_neg (by omega))).trans (((show S4.1 p i = S2.1 p i by rw [d4]; exact if_neg (by omega))).trans ((show S2.1 p i = S.1 p i by rw [d2]; exact if_neg (by omega)))))
theorem q302_7 (S : fx_S) (hS : fx_Sok S) (v0 : Int) (e0 : v0 = S.1 50 4) (b0 : -2147483648 ≤ v0 ∧ v0 ≤ 2147483647) (v1 : Int) (e1 : v1 = S.1 50 1) (b1 : -2147483648 ≤ v1 ∧ v1 ≤ 2147483647) (c1 : v0 < v1) (v2 : Int) (e2 : v2 = S.1 50 4) (b2 : -2147483648 ≤ v2 ∧ v2 ≤ 2147483647) (c2 : 0 ≤ v2) (c3 : v2 < 600) (v3 : Int) (e3 : v3 = S.1 51 v2) (b3 : -128 ≤ v3 ∧ v3 ≤ 127) (v4 : Int) (S1 : fx_S) (k1 : fx_Sok S1) (b4 : -2147483648 ≤ v4 ∧ v4 ≤ 2147483647) (p1 : s340 S v3 v4 S1) (c4 : v4 ≠ 4) (v5 : Int) (e5 : v5 = S1.1 50 4) (b5 : -2147483648 ≤ v5 ∧ v5 ≤ 2147483647) (S2 : fx_S) (d2 : S2 = (fx_up S1.1 50 5 v5, S1.2)) (v6 : Int) (e6 : v6 = S2.1 50 4) (b6 : -2147483648 ≤ v6 ∧ v6 ≤ 2147483647) (v7 : Int) (e7 : v7 = S2.1 50 1) (b7 : -2147483648 ≤ v7 ∧ v7 ≤ 2147483647) (c5 : v7 ≤ v6) (S3 : fx_S) (d3 : S3 = (fx_up S2.1 50 6 5, S2.2)) : s302 S  0 S3 := by
  obtain rfl : S = S1 := p1
  refine ⟨((show S3.2 = S2.2 by rw [d3])).trans ((show S2.2 = S.2 by rw [d2])), ?_⟩
  · intro p i hW
    clear c5 b7 e7 b6 e6 b5 e5 c4 b4 b3 e3 c3 c2 b2 e2 c1 b1 e1 b0 e0
    exact ((show S3.1 p i = S2.1 p i by rw [d3]; exact if_neg (by omega))).trans ((show S2.1 p i = S.1 p i by rw [d2]; exact if_neg (by omega)))
theorem q302_8 (S : fx_S) (hS : fx_Sok S) (v0 : Int) (e0 : v0 = S.1 50 4) (b0 : -2147483648 ≤ v0 ∧ v0 ≤ 2147483647) (v1 : Int) (e1 : v1 = S.1 50 1) (b1 : -2147483648 ≤ v1 ∧ v1 ≤ 2147483647) (c1 : v0 < v1) (v2 : Int) (e2 : v2 = S.1 50 4) (b2 : -2147483648 ≤ v2 ∧ v2 ≤ 2147483647) (c2 : 0 ≤ v2) (c3 : v2 < 600) (v3 : Int) (e3 : v3 = S.1 51 v2) (b3 : -128 ≤ v3 ∧ v3 ≤ 127) (v4 : Int) (S1 : fx_S) (k1 : fx_Sok S1) (b4 : -2147483648 ≤ v4 ∧ v4 ≤ 2147483647) (p1 : s340 S v3 v4 S1) (c4 : v4 = 4) (v5 : Int) (e5 : v5 = S1.1 50 4) (b5 : -2147483648 ≤ v5 ∧ v5 ≤ 2147483647) (v6 : Int) (e6 : v6 = fx_add v5 1) (S2 : fx_S) (d2 : S2 = (fx_up S1.1 50 4 v6, S1.2)) (z : Int) (Z : fx_S) (kz : fx_Sok Z) (bz : z = 0) (pz : s302 S2  z Z) : s302 S  z Z := by
  obtain rfl : S = S1 := p1
  obtain ⟨rZ, fZ⟩ := pz
  refine ⟨(rZ).trans ((show S2.2 = S.2 by rw [d2])), ?_⟩
  · intro p i hW
    clear e6 b5 e5 c4 b4 b3 e3 c3 c2 b2 e2 c1 b1 e1 b0 e0
    exact ((fZ p i (by omega))).trans ((show S2.1 p i = S.1 p i by rw [d2]; exact if_neg (by omega)))
theorem q303_0 (S : fx_S) (x1 x3 : Int) (hS : fx_Sok S) (g1 : 0 ≤ x1 ∧ x1 < S.2.2) (g3 : -2147483648 ≤ x3 ∧ x3 ≤ 2147483647) (v2 : Int) (S1 : fx_S) (k1 : fx_Sok S1) (b2 : -2147483648 ≤ v2 ∧ v2 ≤ 2147483647) (p1 : s342 S  v2 S1) (c1 : v2 ≠ 0) (c2 : x3 < 16) (v3 : Int) (S2 : fx_S) (k2 : fx_Sok S2) (b3 : -2147483648 ≤ v3 ∧ v3 ≤ 2147483647) (p2 : s343 S1 0 v3 S2) (c3 : v3 = 0) (v4 : Int) (S3 : fx_S) (k3 : fx_Sok S3) (b4 : -2147483648 ≤ v4 ∧ v4 ≤ 2147483647) (p3 : s343 S2 1 v4 S3) (c4 : v4 = 0) (v5 : Int) (S4 : fx_S) (k4 : fx_Sok S4) (b5 : -2147483648 ≤ v5 ∧ v5 ≤ 2147483647) (p4 : s343 S3 3 v5 S4) (c5 : v5 = 0) (v6 : Int) (S5 : fx_S) (k5 : fx_Sok S5) (b6 : -2147483648 ≤ v6 ∧ v6 ≤ 2147483647) (p5 : s343 S4 4 v6 S5) (c6 : v6 = 0) (v7 : Int) (S6 : fx_S) (k6 : fx_Sok S6) (b7 : v7 = 0) (p6 : s218 S5  v7 S6) (v8 : Int) (S7 : fx_S) (k7 : fx_Sok S7) (b8 : v8 = 0) (p7 : s344 S6 x1 v8 S7) (v9 : Int) (S8 : fx_S) (k8 : fx_Sok S8) (b9 : v9 = 0) (p8 : s345 S7 59 v9 S8) : s303 S x1 x3 0 S8 := by
  obtain rfl : S = S1 := p1
  obtain ⟨r2, f2⟩ := p2
  obtain ⟨r3, f3⟩ := p3
  obtain ⟨r4, f4⟩ := p4
  obtain ⟨r5, f5⟩ := p5
  obtain ⟨r6, f6⟩ := p6
  obtain ⟨r7, f7⟩ := p7
  obtain ⟨r8, f8⟩ := p8
  refine ⟨(r8).trans ((r7).trans ((r6).trans ((r5).trans ((r4).trans ((r3).trans (r2)))))), ?_⟩
  · intro p i hW
    exact ((f8 p i (by omega))).trans (((f7 p i (by omega))).trans (((f6 p i (by omega))).trans (((f5 p i (by omega))).trans (((f4 p i (by omega))).trans (((f3 p i (by omega))).trans ((f2 p i (by omega))))))))
theorem q303_1 (S : fx_S) (x1 x3 : Int) (hS : fx_Sok S) (g1 : 0 ≤ x1 ∧ x1 < S.2.2) (g3 : -2147483648 ≤ x3 ∧ x3 ≤ 2147483647) (v2 : Int) (S1 : fx_S) (k1 : fx_Sok S1) (b2 : -2147483648 ≤ v2 ∧ v2 ≤ 2147483647) (p1 : s342 S  v2 S1) (c1 : v2 ≠ 0) (c2 : x3 < 16) (v3 : Int) (S2 : fx_S) (k2 : fx_Sok S2) (b3 : -2147483648 ≤ v3 ∧ v3 ≤ 2147483647) (p2 : s343 S1 0 v3 S2) (c3 : v3 = 0) (v4 : Int) (S3 : fx_S) (k3 : fx_Sok S3) (b4 : -2147483648 ≤ v4 ∧ v4 ≤ 2147483647) (p3 : s343 S2 1 v4 S3) (c4 : v4 = 0) (v5 : Int) (S4 : fx_S) (k4 : fx_Sok S4) (b5 : -2147483648 ≤ v5 ∧ v5 ≤ 2147483647) (p4 : s343 S3 3 v5 S4) (c5 : v5 = 0) (v6 : Int) (S5 : fx_S) (k5 : fx_Sok S5) (b6 : -2147483648 ≤ v6 ∧ v6 ≤ 2147483647) (p5 : s343 S4 4 v6 S5) (c6 : v6 ≠ 0) (v7 : Int) (S6 : fx_S) (k6 : fx_Sok S6) (b7 : -2147483648 ≤ v7 ∧ v7 ≤ 2147483647) (p6 : s346 S5 1 99 v7 S6) (S7 : fx_S) (d7 : S7 = (fx_up S6.1 x1 3 v7, S6.2)) (v8 : Int) (S8 : fx_S) (k8 : fx_Sok S8) (b8 : v8 = 0) (p8 : s345 S7 59 v8 S8) : s303 S x1 x3 0 S8 := by
  obtain rfl : S = S1 := p1
  obtain ⟨r2, f2⟩ := p2
  obtain ⟨r3, f3⟩ := p3
  obtain ⟨r4, f4⟩ := p4
  obtain ⟨r5, f5⟩ := p5
  obtain ⟨r6, f6⟩ := p6
  obtain ⟨r8, f8⟩ := p8
  refine ⟨(r8).trans (((show S7.2 = S6.2 by rw [d7])).trans ((r6).trans ((r5).trans ((r4).trans ((r3).trans (r2)))))), ?_⟩
  · intro p i hW
    exact ((f8 p i (by omega))).trans (((show S7.1 p i = S6.1 p i by rw [d7]; exact if_neg (by omega))).trans (((f6 p i (by omega))).trans (((f5 p i (by omega))).trans (((f4 p i (by omega))).trans (((f3 p i (by omega))).trans ((f2 p i (by omega))))))))
theorem q303_2 (S : fx_S) (x1 x3 : Int) (hS : fx_Sok S) (g1 : 0 ≤ x1 ∧ x1 < S.2.2) (g3 : -2147483648 ≤ x3 ∧ x3 ≤ 2147483647) (v2 : Int) (S1 : fx_S) (k1 : fx_Sok S1) (b2 : -2147483648 ≤ v2 ∧ v2 ≤ 2147483647) (p1 : s342 S  v2 S1) (c1 : v2 ≠ 0) (c2 : x3 < 16) (v3 : Int) (S2 : fx_S) (k2 : fx_Sok S2) (b3 : -2147483648 ≤ v3 ∧ v3 ≤ 2147483647) (p2 : s343 S1 0 v3 S2) (c3 : v3 = 0) (v4 : Int) (S3 : fx_S) (k3 : fx_Sok S3) (b4 : -2147483648 ≤ v4 ∧ v4 ≤ 2147483647) (p3 : s343 S2 1 v4 S3) (c4 : v4 = 0) (v5 : Int) (S4 : fx_S) (k4 : fx_Sok S4) (b5 : -2147483648 ≤ v5 ∧ v5 ≤ 2147483647) (p4 : s343 S3 3 v5 S4) (c5 : v5 ≠ 0) (v6 : Int) (S5 : fx_S) (k5 : fx_Sok S5) (b6 : -2147483648 ≤ v6 ∧ v6 ≤ 2147483647) (p5 : s346 S4 0 9999 v6 S5) (S6 : fx_S) (d6 : S6 = (fx_up S5.1 x1 2 v6, S5.2)) (v7 : Int) (S7 : fx_S) (k7 : fx_Sok S7) (b7 : v7 = 0) (p7 : s345 S6 59 v7 S7) : s303 S x1 x3 0 S7 := by
  obtain rfl : S = S1 := p1
  obtain ⟨r2, f2⟩ := p2
  obtain ⟨r3, f3⟩ := p3
  obtain ⟨r4, f4⟩ := p4
  obtain ⟨r5, f5⟩ := p5
  obtain ⟨r7, f7⟩ := p7
  refine ⟨(r7).trans (((show S6.2 = S5.2 by rw [d6])).trans ((r5).trans ((r4).trans ((r3).trans (r2))))), ?_⟩
  · intro p i hW
    exact ((f7 p i (by omega))).trans (((show S6.1 p i = S5.1 p i by rw [d6]; exact if_neg (by omega))).trans (((f5 p i (by omega))).trans (((f4 p i (by omega))).trans (((f3 p i (by omega))).trans ((f2 p i (by omega)))))))
theorem q303_3 (S : fx_S) (x1 x3 : Int) (hS : fx_Sok S) (g1 : 0 ≤ x1 ∧ x1 < S.2.2) (g3 : -2147483648 ≤ x3 ∧ x3 ≤ 2147483647) (v2 : Int) (S1 : fx_S) (k1 : fx_Sok S1) (b2 : -2147483648 ≤ v2 ∧ v2 ≤ 2147483647) (p1 : s342 S  v2 S1) (c1 : v2 ≠ 0) (c2 : x3 < 16) (v3 : Int) (S2 : fx_S) (k2 : fx_Sok S2) (b3 : -2147483648 ≤ v3 ∧ v3 ≤ 2147483647) (p2 : s343 S1 0 v3 S2) (c3 : v3 = 0) (v4 : Int) (S3 : fx_S) (k3 : fx_Sok S3) (b4 : -2147483648 ≤ v4 ∧ v4 ≤ 2147483647) (p3 : s343 S2 1 v4 S3) (c4 : v4 ≠ 0) (v5 : Int) (S4 : fx_S) (k4 : fx_Sok S4) (b5 : -2147483648 ≤ v5 ∧ v5 ≤ 2147483647) (p4 : s346 S3 0 3 v5 S4) (v6 : Int) (S5 : fx_S) (k5 : fx_Sok S5) (b6 : -2147483648 ≤ v6 ∧ v6 ≤ 2147483647) (p5 : s346 S4 0 9999 v6 S5) (c5 : 0 ≤ v5) (c6 : v5 < 4) (S6 : fx_S) (d6 : S6 = (fx_up S5.1 (x1 + 1) v5 v6, S5.2)) (v7 : Int) (S7 : fx_S) (k7 : fx_Sok S7) (b7 : v7 = 0) (p7 : s345 S6 59 v7 S7) : s303 S x1 x3 0 S7 := by
  obtain rfl : S = S1 := p1
  obtain ⟨r2, f2⟩ := p2
  obtain ⟨r3, f3⟩ := p3
  obtain ⟨r4, f4⟩ := p4
  obtain ⟨r5, f5⟩ := p5
  obtain ⟨r7, f7⟩ := p7
  refine ⟨(r7).trans (((show S6.2 = S5.2 by rw [d6])).trans ((r5).trans ((r4).trans ((r3).trans (r2))))), ?_⟩
  · intro p i hW
    exact ((f7 p i (by omega))).trans (((show S6.1 p i = S5.1 p i by rw [d6]; exact if_neg (by omega))).trans (((f5 p i (by omega))).trans (((f4 p i (by omega))).trans (((f3 p i (by omega))).trans ((f2 p i (by omega)))))))
theorem q303_4 (S : fx_S) (x1 x3 : Int) (hS : fx_Sok S) (g1 : 0 ≤ x1 ∧ x1 < S.2.2) (g3 : -2147483648 ≤ x3 ∧ x3 ≤ 2147483647) (v2 : Int) (S1 : fx_S) (k1 : fx_Sok S1) (b2 : -2147483648 ≤ v2 ∧ v2 ≤ 2147483647) (p1 : s342 S  v2 S1) (c1 : v2 ≠ 0) (c2 : x3 < 16) (v3 : Int) (S2 : fx_S) (k2 : fx_Sok S2) (b3 : -2147483648 ≤ v3 ∧ v3 ≤ 2147483647) (p2 : s343 S1 0 v3 S2) (c3 : v3 ≠ 0) (v4 : Int) (S3 : fx_S) (k3 : fx_Sok S3) (b4 : -2147483648 ≤ v4 ∧ v4 ≤ 2147483647) (p3 : s346 S2 0 3 v4 S3) (v5 : Int) (S4 : fx_S) (k4 : fx_Sok S4) (b5 : v5 = 0) (p4 : s347 S3 x1 v4 v5 S4) (v6 : Int) (S5 : fx_S) (k5 : fx_Sok S5) (b6 : v6 = 0) (p5 : s348 S4 x1 v6 S5) (v7 : Int) (S6 : fx_S) (k6 : fx_Sok S6) (b7 : v7 = 0) (p6 : s345 S5 59 v7 S6) : s303 S x1 x3 0 S6 := by
  obtain rfl : S = S1 := p1
  obtain ⟨r2, f2⟩ := p2
  obtain ⟨r3, f3⟩ := p3
  obtain ⟨r4, f4⟩ := p4
  obtain ⟨r5, f5⟩ := p5
  obtain ⟨r6, f6⟩ := p6
  refine ⟨(r6).trans ((r5).trans ((r4).trans ((r3).trans (r2)))), ?_⟩
  · intro p i hW
    exact ((f6 p i (by omega))).trans (((f5 p i (by omega))).trans (((f4 p i (by omega))).trans (((f3 p i (by omega))).trans ((f2 p i (by omega))))))
theorem q303_5 (S : fx_S) (x1 x3 : Int) (hS : fx_Sok S) (g1 : 0 ≤ x1 ∧ x1 < S.2.2) (g3 : -2147483648 ≤ x3 ∧ x3 ≤ 2147483647) (v2 : Int) (S1 : fx_S) (k1 : fx_Sok S1) (b2 : -2147483648 ≤ v2 ∧ v2 ≤ 2147483647) (p1 : s342 S  v2 S1) (c1 : v2 ≠ 0) (c2 : 16 ≤ x3) (v3 : Int) (S2 : fx_S) (k2 : fx_Sok S2) (b3 : v3 = 0) (p2 : s349 S1 3 v3 S2) (v4 : Int) (S3 : fx_S) (k3 : fx_Sok S3) (b4 : v4 = 0) (p3 : s345 S2 59 v4 S3) : s303 S x1 x3 0 S3 := by
  obtain rfl : S = S1 := p1
  obtain ⟨r2, f2⟩ := p2
  obtain ⟨r3, f3⟩ := p3
  refine ⟨(r3).trans (r2), ?_⟩
  · intro p i hW
    exact ((f3 p i (by omega))).trans ((f2 p i (by omega)))
theorem q303_6 (S : fx_S) (x1 x3 : Int) (hS : fx_Sok S) (g1 : 0 ≤ x1 ∧ x1 < S.2.2) (g3 : -2147483648 ≤ x3 ∧ x3 ≤ 2147483647) (v2 : Int) (S1 : fx_S) (k1 : fx_Sok S1) (b2 : -2147483648 ≤ v2 ∧ v2 ≤ 2147483647) (p1 : s342 S  v2 S1) (c1 : v2 = 0) (v3 : Int) (S2 : fx_S) (k2 : fx_Sok S2) (b3 : v3 = 0) (p2 : s349 S1 1 v3 S2) (v4 : Int) (S3 : fx_S) (k3 : fx_Sok S3) (b4 : v4 = 0) (p3 : s345 S2 59 v4 S3) : s303 S x1 x3 0 S3 := by
  obtain rfl : S = S1 := p1
  obtain ⟨r2, f2⟩ := p2
  obtain ⟨r3, f3⟩ := p3
  refine ⟨(r3).trans (r2), ?_⟩
  · intro p i hW
    exact ((f3 p i (by omega))).trans ((f2 p i (by omega)))
theorem q304_0 (S : fx_S) (x1 : Int) (hS : fx_Sok S) (v1 : Int) (e1 : v1 = S.1 66 12) (b1 : -2147483648 ≤ v1 ∧ v1 ≤ 2147483647) (c1 : v1 ≠ 0) (z : Int) (Z : fx_S) (kz : fx_Sok Z) (bz : -2147483648 ≤ z ∧ z ≤ 2147483647) (pz : s350 S x1 0 0 z Z) : s304 S x1 z Z := by
  obtain rfl : S = Z := pz
  exact rfl
theorem q304_1 (S : fx_S) (x1 : Int) (hS : fx_Sok S) (v1 : Int) (e1 : v1 = S.1 66 12) (b1 : -2147483648 ≤ v1 ∧ v1 ≤ 2147483647) (c1 : v1 = 0) (v2 : Int) (e2 : v2 = S.1 66 10) (b2 : -2147483648 ≤ v2 ∧ v2 ≤ 2147483647) (c2 : v2 ≠ 1) (z : Int) (Z : fx_S) (kz : fx_Sok Z) (bz : -2147483648 ≤ z ∧ z ≤ 2147483647) (pz : s350 S x1 0 0 z Z) : s304 S x1 z Z := by
  obtain rfl : S = Z := pz
  exact rfl
theorem q304_2 (S : fx_S) (x1 : Int) (hS : fx_Sok S) (v1 : Int) (e1 : v1 = S.1 66 12) (b1 : -2147483648 ≤ v1 ∧ v1 ≤ 2147483647) (c1 : v1 = 0) (v2 : Int) (e2 : v2 = S.1 66 10) (b2 : -2147483648 ≤ v2 ∧ v2 ≤ 2147483647) (c2 : v2 = 1) (v3 : Int) (e3 : v3 = S.1 66 8) (b3 : -2147483648 ≤ v3 ∧ v3 ≤ 2147483647) (v4 : Int) (e4 : v4 = S.1 66 9) (b4 : -2147483648 ≤ v4 ∧ v4 ≤ 2147483647) (v5 : Int) (e5 : v5 = fx_sub v3 v4) (v6 : Int) (e6 : v6 = ((cz_sl.getD (x1).toNat 0 : Nat) : Int)) (v7 : Int) (e7 : v7 = fx_shr v6 0) (c3 : v5 ≠ v7) (z : Int) (Z : fx_S) (kz : fx_Sok Z) (bz : -2147483648 ≤ z ∧ z ≤ 2147483647) (pz : s350 S x1 0 0 z Z) : s304 S x1 z Z := by
  obtain rfl : S = Z := pz
  exact rfl
theorem q304_3 (S : fx_S) (x1 : Int) (hS : fx_Sok S) (v1 : Int) (e1 : v1 = S.1 66 12) (b1 : -2147483648 ≤ v1 ∧ v1 ≤ 2147483647) (c1 : v1 = 0) (v2 : Int) (e2 : v2 = S.1 66 10) (b2 : -2147483648 ≤ v2 ∧ v2 ≤ 2147483647) (c2 : v2 = 1) (v3 : Int) (e3 : v3 = S.1 66 8) (b3 : -2147483648 ≤ v3 ∧ v3 ≤ 2147483647) (v4 : Int) (e4 : v4 = S.1 66 9) (b4 : -2147483648 ≤ v4 ∧ v4 ≤ 2147483647) (v5 : Int) (e5 : v5 = fx_sub v3 v4) (v6 : Int) (e6 : v6 = ((cz_sl.getD (x1).toNat 0 : Nat) : Int)) (v7 : Int) (e7 : v7 = fx_shr v6 0) (c3 : v5 = v7) (z : Int) (Z : fx_S) (kz : fx_Sok Z) (bz : -2147483648 ≤ z ∧ z ≤ 2147483647) (pz : s350 S x1 1 0 z Z) : s304 S x1 z Z := by
  obtain rfl : S = Z := pz
  exact rfl
theorem q305_0 (S : fx_S) (x1 x2 x3 : Int) (hS : fx_Sok S) (g1 : -2147483648 ≤ x1 ∧ x1 ≤ 2147483647) (g2 : -2147483648 ≤ x2 ∧ x2 ≤ 2147483647) (g3 : -2147483648 ≤ x3 ∧ x3 ≤ 2147483647) (c1 : 16 ≤ x3) (c2 : 0 ≤ x1) (c3 : x1 < 260) (S1 : fx_S) (d1 : S1 = (fx_up S.1 72 x1 x2, S.2)) (c4 : x2 ≠ 0) (c5 : x2 ≠ 1) (c6 : x2 ≠ 2) (v3 : Int) (e3 : v3 = fx_add x1 1) (c7 : x2 ≠ 4) (v4 : Int) (S2 : fx_S) (k2 : fx_Sok S2) (b4 : -2147483648 ≤ v4 ∧ v4 ≤ 2147483647) (p2 : s351 S1 0 9999 v4 S2) (c8 : 0 ≤ v3) (c9 : v3 < 260) (S3 : fx_S) (d3 : S3 = (fx_up S2.1 72 v3 v4, S2.2)) (v5 : Int) (S4 : fx_S) (k4 : fx_Sok S4) (b5 : -2147483648 ≤ v5 ∧ v5 ≤ 2147483647) (p4 : s352 S3 59 v5 S4) (c10 : v5 ≠ 0) (v6 : Int) (e6 : v6 = S4.1 66 12) (b6 : -2147483648 ≤ v6 ∧ v6 ≤ 2147483647) (c11 : v6 ≠ 0) : s305 S x1 x2 x3 0 S4 := by
  obtain ⟨r2, f2, p2⟩ := p2
  obtain rfl : S3 = S4 := p4
  refine ⟨((show S3.2 = S2.2 by rw [d3])).trans ((r2).trans ((show S1.2 = S.2 by rw [d1]))), ?_, ?_⟩
  · intro p i hW
    clear c11 b6 e6 c10 b5 c9 c8 b4 c7 e3 c6 c5 c4 c3 c2 c1
    exact ((show S3.1 p i = S2.1 p i by rw [d3]; exact if_neg (by omega))).trans (((f2 p i (by omega))).trans ((show S1.1 p i = S.1 p i by rw [d1]; exact if_neg (by omega))))
  · skip
    intro a0 a1 a2 a3
    have h3 := e3
    first | rw [fx_add_eq (by omega) (by omega)] at h3 | skip
    have t6_3 : S3.1 66 12 = S2.1 66 12 := by rw [d3]; first | exact if_neg (by omega) | rfl
    rw [t6_3] at e6
    refine ⟨fun h => ?_, fun i hi => (((show S3.1 72 (i) = S2.1 72 (i) by rw [d3]; first | exact if_neg (by omega) | rfl)).trans (((f2 72 (i) (by omega))).trans ((show S1.1 72 (i) = S.1 72 (i) by rw [d1]; first | exact if_neg (by omega) | rfl))))⟩
    rw [show S3.1 72 (x1) = S1.1 72 (x1) from (((show S3.1 72 (x1) = S2.1 72 (x1) by rw [d3]; first | exact if_neg (by omega) | rfl)).trans ((f2 72 (x1) (by omega)))), show S1.1 72 (x1) = x2 by rw [d1]; first | exact if_pos ⟨rfl, rfl⟩ | rfl] at h
    omega
theorem q305_1 (S : fx_S) (x1 x2 x3 : Int) (hS : fx_Sok S) (g1 : -2147483648 ≤ x1 ∧ x1 ≤ 2147483647) (g2 : -2147483648 ≤ x2 ∧ x2 ≤ 2147483647) (g3 : -2147483648 ≤ x3 ∧ x3 ≤ 2147483647) (c1 : 16 ≤ x3) (c2 : 0 ≤ x1) (c3 : x1 < 260) (S1 : fx_S) (d1 : S1 = (fx_up S.1 72 x1 x2, S.2)) (c4 : x2 ≠ 0) (c5 : x2 ≠ 1) (c6 : x2 ≠ 2) (v3 : Int) (e3 : v3 = fx_add x1 1) (c7 : x2 ≠ 4) (v4 : Int) (S2 : fx_S) (k2 : fx_Sok S2) (b4 : -2147483648 ≤ v4 ∧ v4 ≤ 2147483647) (p2 : s351 S1 0 9999 v4 S2) (c8 : 0 ≤ v3) (c9 : v3 < 260) (S3 : fx_S) (d3 : S3 = (fx_up S2.1 72 v3 v4, S2.2)) (v5 : Int) (S4 : fx_S) (k4 : fx_Sok S4) (b5 : -2147483648 ≤ v5 ∧ v5 ≤ 2147483647) (p4 : s352 S3 59 v5 S4) (c10 : v5 ≠ 0) (v6 : Int) (e6 : v6 = S4.1 66 12) (b6 : -2147483648 ≤ v6 ∧ v6 ≤ 2147483647) (c11 : v6 = 0) (v7 : Int) (S5 : fx_S) (k5 : fx_Sok S5) (b7 : v7 = 0) (p5 : s120 S4  v7 S5) : s305 S x1 x2 x3 0 S5 := by
  obtain ⟨r2, f2, p2⟩ := p2
  obtain rfl : S3 = S4 := p4
  obtain ⟨r5, f5⟩ := p5
  refine ⟨(r5).trans (((show S3.2 = S2.2 by rw [d3])).trans ((r2).trans ((show S1.2 = S.2 by rw [d1])))), ?_, ?_⟩
  · intro p i hW
    clear b7 c11 b6 e6 c10 b5 c9 c8 b4 c7 e3 c6 c5 c4 c3 c2 c1
    exact ((f5 p i (by omega))).trans (((show S3.1 p i = S2.1 p i by rw [d3]; exact if_neg (by omega))).trans (((f2 p i (by omega))).trans ((show S1.1 p i = S.1 p i by rw [d1]; exact if_neg (by omega)))))
  · skip
    intro a0 a1 a2 a3
    have h3 := e3
    first | rw [fx_add_eq (by omega) (by omega)] at h3 | skip
    have t6_3 : S3.1 66 12 = S2.1 66 12 := by rw [d3]; first | exact if_neg (by omega) | rfl
    rw [t6_3] at e6
    refine ⟨fun h => ?_, fun i hi => (((f5 72 (i) (by omega))).trans (((show S3.1 72 (i) = S2.1 72 (i) by rw [d3]; first | exact if_neg (by omega) | rfl)).trans (((f2 72 (i) (by omega))).trans ((show S1.1 72 (i) = S.1 72 (i) by rw [d1]; first | exact if_neg (by omega) | rfl)))))⟩
    rw [show S5.1 72 (x1) = S1.1 72 (x1) from (((f5 72 (x1) (by omega))).trans (((show S3.1 72 (x1) = S2.1 72 (x1) by rw [d3]; first | exact if_neg (by omega) | rfl)).trans ((f2 72 (x1) (by omega))))), show S1.1 72 (x1) = x2 by rw [d1]; first | exact if_pos ⟨rfl, rfl⟩ | rfl] at h
    omega
theorem q305_2 (S : fx_S) (x1 x2 x3 : Int) (hS : fx_Sok S) (g1 : -2147483648 ≤ x1 ∧ x1 ≤ 2147483647) (g2 : -2147483648 ≤ x2 ∧ x2 ≤ 2147483647) (g3 : -2147483648 ≤ x3 ∧ x3 ≤ 2147483647) (c1 : 16 ≤ x3) (c2 : 0 ≤ x1) (c3 : x1 < 260) (S1 : fx_S) (d1 : S1 = (fx_up S.1 72 x1 x2, S.2)) (c4 : x2 ≠ 0) (c5 : x2 ≠ 1) (c6 : x2 ≠ 2) (v3 : Int) (e3 : v3 = fx_add x1 1) (c7 : x2 ≠ 4) (v4 : Int) (S2 : fx_S) (k2 : fx_Sok S2) (b4 : -2147483648 ≤ v4 ∧ v4 ≤ 2147483647) (p2 : s351 S1 0 9999 v4 S2) (c8 : 0 ≤ v3) (c9 : v3 < 260) (S3 : fx_S) (d3 : S3 = (fx_up S2.1 72 v3 v4, S2.2)) (v5 : Int) (S4 : fx_S) (k4 : fx_Sok S4) (b5 : -2147483648 ≤ v5 ∧ v5 ≤ 2147483647) (p4 : s352 S3 59 v5 S4) (c10 : v5 = 0) (v6 : Int) (S5 : fx_S) (k5 : fx_Sok S5) (b6 : v6 = 0) (p5 : s226 S4 1 v6 S5) (v7 : Int) (e7 : v7 = S5.1 66 12) (b7 : -2147483648 ≤ v7 ∧ v7 ≤ 2147483647) (c11 : v7 ≠ 0) : s305 S x1 x2 x3 0 S5 := by
  obtain ⟨r2, f2, p2⟩ := p2
  obtain rfl : S3 = S4 := p4
  obtain ⟨r5, f5, p5⟩ := p5
  refine ⟨(r5).trans (((show S3.2 = S2.2 by rw [d3])).trans ((r2).trans ((show S1.2 = S.2 by rw [d1])))), ?_, ?_⟩
  · intro p i hW
    clear c11 b7 e7 b6 c10 b5 c9 c8 b4 c7 e3 c6 c5 c4 c3 c2 c1
    exact ((f5 p i (by omega))).trans (((show S3.1 p i = S2.1 p i by rw [d3]; exact if_neg (by omega))).trans (((f2 p i (by omega))).trans ((show S1.1 p i = S.1 p i by rw [d1]; exact if_neg (by omega)))))
  · skip
    intro a0 a1 a2 a3
    have h3 := e3
    first | rw [fx_add_eq (by omega) (by omega)] at h3 | skip
    refine ⟨fun h => ?_, fun i hi => (((f5 72 (i) (by omega))).trans (((show S3.1 72 (i) = S2.1 72 (i) by rw [d3]; first | exact if_neg (by omega) | rfl)).trans (((f2 72 (i) (by omega))).trans ((show S1.1 72 (i) = S.1 72 (i) by rw [d1]; first | exact if_neg (by omega) | rfl)))))⟩
    rw [show S5.1 72 (x1) = S1.1 72 (x1) from (((f5 72 (x1) (by omega))).trans (((show S3.1 72 (x1) = S2.1 72 (x1) by rw [d3]; first | exact if_neg (by omega) | rfl)).trans ((f2 72 (x1) (by omega))))), show S1.1 72 (x1) = x2 by rw [d1]; first | exact if_pos ⟨rfl, rfl⟩ | rfl] at h
    omega
theorem q305_3 (S : fx_S) (x1 x2 x3 : Int) (hS : fx_Sok S) (g1 : -2147483648 ≤ x1 ∧ x1 ≤ 2147483647) (g2 : -2147483648 ≤ x2 ∧ x2 ≤ 2147483647) (g3 : -2147483648 ≤ x3 ∧ x3 ≤ 2147483647) (c1 : 16 ≤ x3) (c2 : 0 ≤ x1) (c3 : x1 < 260) (S1 : fx_S) (d1 : S1 = (fx_up S.1 72 x1 x2, S.2)) (c4 : x2 ≠ 0) (c5 : x2 ≠ 1) (c6 : x2 ≠ 2) (v3 : Int) (e3 : v3 = fx_add x1 1) (c7 : x2 ≠ 4) (v4 : Int) (S2 : fx_S) (k2 : fx_Sok S2) (b4 : -2147483648 ≤ v4 ∧ v4 ≤ 2147483647) (p2 : s351 S1 0 9999 v4 S2) (c8 : 0 ≤ v3) (c9 : v3 < 260) (S3 : fx_S) (d3 : S3 = (fx_up S2.1 72 v3 v4, S2.2)) (v5 : Int) (S4 : fx_S) (k4 : fx_Sok S4) (b5 : -2147483648 ≤ v5 ∧ v5 ≤ 2147483647) (p4 : s352 S3 59 v5 S4) (c10 : v5 = 0) (v6 : Int) (S5 : fx_S) (k5 : fx_Sok S5) (b6 : v6 = 0) (p5 : s226 S4 1 v6 S5) (v7 : Int) (e7 : v7 = S5.1 66 12) (b7 : -2147483648 ≤ v7 ∧ v7 ≤ 2147483647) (c11 : v7 = 0) (v8 : Int) (S6 : fx_S) (k6 : fx_Sok S6) (b8 : v8 = 0) (p6 : s120 S5  v8 S6) : s305 S x1 x2 x3 0 S6 := by
  obtain ⟨r2, f2, p2⟩ := p2
  obtain rfl : S3 = S4 := p4
  obtain ⟨r5, f5, p5⟩ := p5
  obtain ⟨r6, f6⟩ := p6
  refine ⟨(r6).trans ((r5).trans (((show S3.2 = S2.2 by rw [d3])).trans ((r2).trans ((show S1.2 = S.2 by rw [d1]))))), ?_, ?_⟩
  · intro p i hW
    clear b8 c11 b7 e7 b6 c10 b5 c9 c8 b4 c7 e3 c6 c5 c4 c3 c2 c1
    exact ((f6 p i (by omega))).trans (((f5 p i (by omega))).trans (((show S3.1 p i = S2.1 p i by rw [d3]; exact if_neg (by omega))).trans (((f2 p i (by omega))).trans ((show S1.1 p i = S.1 p i by rw [d1]; exact if_neg (by omega))))))
  · skip
    intro a0 a1 a2 a3
    have h3 := e3
    first | rw [fx_add_eq (by omega) (by omega)] at h3 | skip
    refine ⟨fun h => ?_, fun i hi => (((f6 72 (i) (by omega))).trans (((f5 72 (i) (by omega))).trans (((show S3.1 72 (i) = S2.1 72 (i) by rw [d3]; first | exact if_neg (by omega) | rfl)).trans (((f2 72 (i) (by omega))).trans ((show S1.1 72 (i) = S.1 72 (i) by rw [d1]; first | exact if_neg (by omega) | rfl))))))⟩
    rw [show S6.1 72 (x1) = S1.1 72 (x1) from (((f6 72 (x1) (by omega))).trans (((f5 72 (x1) (by omega))).trans (((show S3.1 72 (x1) = S2.1 72 (x1) by rw [d3]; first | exact if_neg (by omega) | rfl)).trans ((f2 72 (x1) (by omega)))))), show S1.1 72 (x1) = x2 by rw [d1]; first | exact if_pos ⟨rfl, rfl⟩ | rfl] at h
    omega
