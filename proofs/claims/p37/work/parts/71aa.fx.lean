/-! FX: what is to be shown of the entries -/
theorem q75_0 (S : fx_S) (hS : fx_Sok S) (v0 : Int) (S1 : fx_S) (k1 : fx_Sok S1) (b0 : v0 = 0) (p1 : s191 S (-1) v0 S1) (S2 : fx_S) (d2 : S2 = (fx_cy S1.1 39 0 43 0 12, S1.2)) (z : Int) (Z : fx_S) (kz : fx_Sok Z) (bz : -2147483648 ≤ z ∧ z ≤ 2147483647) (pz : s192 S2 0 3 z Z) : s75 S  z Z := by
  obtain ⟨r1, f1, p1⟩ := p1
  obtain ⟨rZ, fZ, pz⟩ := pz
  refine ⟨(rZ).trans (((show S2.2 = S1.2 by rw [d2])).trans (r1)), ?_, ?_⟩
  · intro p i hW
    clear b0
    exact ((fZ p i (by omega))).trans (((show S2.1 p i = S1.1 p i by rw [d2]; exact if_neg (by omega))).trans ((f1 p i (by omega))))
  · skip
    intro n hn hw hb hr
    have gF : ∀ p : Int, p ≠ 61 → p ≠ 43 → S2.1 p = S.1 p := fun p h1 h2 => funext fun i => by
      rw [d2]
      exact (if_neg (fun q => h2 q.1)).trans (f1 p i (by omega))
    have g61 : S2.1 61 = (fun i : Int => if 0 ≤ i ∧ i < 80 then -1 else S.1 61 i) := funext fun i => by
      rw [d2]
      first | exact p1 i | exact (if_neg (by omega)).trans (p1 i)
    have g43 : S2.1 43 = (fun h : Int => if 0 ≤ h ∧ h < 12 then S.1 39 h else S.1 43 h) := funext fun i => by
      rw [d2]
      dsimp only [fx_cy]
      by_cases hi : 0 ≤ i ∧ i < 12
      · rw [if_pos (by omega), if_pos hi, show (0 : Int) + (i - 0) = i by omega]
        exact f1 39 i (by omega)
      · rw [if_neg (by omega), if_neg hi]
        exact f1 43 i (by omega)
    obtain ⟨b0, b1⟩ := pz n 4 (by rw [gF 13 (by omega) (by omega)]; exact hn) (by omega) (by omega) (by omega) (by rw [gF 13 (by omega) (by omega), gF 38 (by omega) (by omega), gF 19 (by omega) (by omega), gF 20 (by omega) (by omega)]; exact hw) (by rw [gF 13 (by omega) (by omega), gF 38 (by omega) (by omega)]; exact hb) (by
      rw [gF 38 (by omega) (by omega), g43]
      intro h h0 h1
      try dsimp only
      rw [if_pos (by omega)]
      exact hr h h0 h1)
    rw [gF 13 (by omega) (by omega), gF 15 (by omega) (by omega), gF 16 (by omega) (by omega), gF 17 (by omega) (by omega), gF 1 (by omega) (by omega), gF 19 (by omega) (by omega), gF 20 (by omega) (by omega), g61, g43] at b0 b1
    exact ⟨by omega, b1⟩
theorem q76_0 (S : fx_S) (hS : fx_Sok S) (S1 : fx_S) (d1 : S1 = (fx_up S.1 66 25 1, S.2)) (z : Int) (Z : fx_S) (kz : fx_Sok Z) (bz : -2147483648 ≤ z ∧ z ≤ 2147483647) (pz : s193 S1 0 0 z Z) : s76 S  z Z := by
  obtain ⟨rZ, fZ, pz⟩ := pz
  refine ⟨(rZ).trans ((show S1.2 = S.2 by rw [d1])), ?_, ?_⟩
  · intro p i hW
    exact ((fZ p i (by omega))).trans ((show S1.1 p i = S.1 p i by rw [d1]; exact if_neg (by omega)))
  · skip
    intro n hn hw8 hw5 hw4
    have gF : ∀ p : Int, p ≠ 66 → S1.1 p = S.1 p := fun p h1 => funext fun i => by
      rw [d1]
      exact if_neg (fun q => h1 q.1)
    have q := pz n (by rw [gF 67 (by omega)]; exact hn) hw8 rfl (by omega) (by rw [gF 67 (by omega)]; exact hw5) (by rw [gF 67 (by omega)]; exact hw4)
    rw [gF 67 (by omega), gF 82 (by omega), gF 81 (by omega)] at q
    exact ⟨(fZ 66 25 (by omega)).trans (by rw [d1]; rfl), q⟩
theorem q77_0 (S : fx_S) (x1 : Int) (hS : fx_Sok S) (g1 : -2147483648 ≤ x1 ∧ x1 ≤ 2147483647) (v1 : Int) (S1 : fx_S) (k1 : fx_Sok S1) (b1 : -2147483648 ≤ v1 ∧ v1 ≤ 2147483647) (p1 : s114 S x1 0 79 v1 S1) (c1 : v1 = 0) : s77 S x1 (-1) S1 := by
  obtain ⟨rfl, p1⟩ := p1
  refine ⟨rfl, ?_⟩
  have m1 := fx_in01 p1
  have m1 := fx_in01 p1
  first | (rw [if_pos (by omega)]; omega) | rw [if_neg (by omega)]
theorem q77_1 (S : fx_S) (x1 : Int) (hS : fx_Sok S) (g1 : -2147483648 ≤ x1 ∧ x1 ≤ 2147483647) (v1 : Int) (S1 : fx_S) (k1 : fx_Sok S1) (b1 : -2147483648 ≤ v1 ∧ v1 ≤ 2147483647) (p1 : s114 S x1 0 79 v1 S1) (c1 : v1 ≠ 0) (c2 : 0 ≤ x1) (c3 : x1 < 80) (v2 : Int) (e2 : v2 = S1.1 61 x1) (b2 : -2147483648 ≤ v2 ∧ v2 ≤ 2147483647) : s77 S x1 v2 S1 := by
  obtain ⟨rfl, p1⟩ := p1
  refine ⟨rfl, ?_⟩
  have m1 := fx_in01 p1
  have m1 := fx_in01 p1
  first | (rw [if_pos (by omega)]; omega) | rw [if_neg (by omega)]
theorem q78_0 (S : fx_S) (x1 : Int) (hS : fx_Sok S) (g1 : -2147483648 ≤ x1 ∧ x1 ≤ 2147483647) (v1 : Int) (e1 : v1 = S.1 66 25) (b1 : -2147483648 ≤ v1 ∧ v1 ≤ 2147483647) (c1 : v1 = 0) : s78 S x1 (-1) S := by
  refine ⟨rfl, ?_⟩
  skip
  first | have m1 := fx_in01 p1 | skip
  first | (rw [if_pos (by omega)]; omega) | rw [if_neg (by omega)]
theorem q78_1 (S : fx_S) (x1 : Int) (hS : fx_Sok S) (g1 : -2147483648 ≤ x1 ∧ x1 ≤ 2147483647) (v1 : Int) (e1 : v1 = S.1 66 25) (b1 : -2147483648 ≤ v1 ∧ v1 ≤ 2147483647) (c1 : v1 ≠ 0) (v2 : Int) (S1 : fx_S) (k1 : fx_Sok S1) (b2 : -2147483648 ≤ v2 ∧ v2 ≤ 2147483647) (p1 : s113 S x1 0 79 v2 S1) (c2 : v2 = 0) : s78 S x1 (-1) S1 := by
  obtain ⟨rfl, p1⟩ := p1
  refine ⟨rfl, ?_⟩
  have m1 := fx_in01 p1
  first | have m1 := fx_in01 p1 | skip
  first | (rw [if_pos (by omega)]; omega) | rw [if_neg (by omega)]
theorem q78_2 (S : fx_S) (x1 : Int) (hS : fx_Sok S) (g1 : -2147483648 ≤ x1 ∧ x1 ≤ 2147483647) (v1 : Int) (e1 : v1 = S.1 66 25) (b1 : -2147483648 ≤ v1 ∧ v1 ≤ 2147483647) (c1 : v1 ≠ 0) (v2 : Int) (S1 : fx_S) (k1 : fx_Sok S1) (b2 : -2147483648 ≤ v2 ∧ v2 ≤ 2147483647) (p1 : s113 S x1 0 79 v2 S1) (c2 : v2 ≠ 0) (c3 : 0 ≤ x1) (c4 : x1 < 80) (v3 : Int) (e3 : v3 = S1.1 81 x1) (b3 : -2147483648 ≤ v3 ∧ v3 ≤ 2147483647) : s78 S x1 v3 S1 := by
  obtain ⟨rfl, p1⟩ := p1
  refine ⟨rfl, ?_⟩
  have m1 := fx_in01 p1
  first | have m1 := fx_in01 p1 | skip
  first | (rw [if_pos (by omega)]; omega) | rw [if_neg (by omega)]
theorem q191_0 (S : fx_S) (x1 : Int) (hS : fx_Sok S) (g1 : -2147483648 ≤ x1 ∧ x1 ≤ 2147483647) (z : Int) (Z : fx_S) (kz : fx_Sok Z) (bz : z = 0) (pz : s273 S x1 0 80 z Z) : s191 S x1 z Z := by
  obtain ⟨rZ, fZ, pz⟩ := pz
  refine ⟨rZ, ?_, ?_⟩
  · intro p i hW
    exact (fZ p i (by omega))
  · skip
    intro i
    exact pz (by omega) i
theorem q192_0 (S : fx_S) (x1 x2 : Int) (hS : fx_Sok S) (g1 : -2147483648 ≤ x1 ∧ x1 ≤ 2147483647) (g2 : -2147483648 ≤ x2 ∧ x2 ≤ 2147483647) (c1 : x2 < 0) : s192 S x1 x2 x1 S := by
  refine ⟨rfl, ?_, ?_⟩
  · intro p i hW
    clear c1
    exact rfl
  · skip
    intro n k hn hk k4 hx hw hb hr
    cases k with
    | zero =>
      unfold fx_lkk
      exact ⟨by omega, fun i => rfl⟩
    | succ k => exact absurd hk (by omega)
theorem q192_1 (S : fx_S) (x1 x2 : Int) (hS : fx_Sok S) (g1 : -2147483648 ≤ x1 ∧ x1 ≤ 2147483647) (g2 : -2147483648 ≤ x2 ∧ x2 ≤ 2147483647) (c1 : 0 ≤ x2) (v2 : Int) (S1 : fx_S) (k1 : fx_Sok S1) (b2 : -2147483648 ≤ v2 ∧ v2 ≤ 2147483647) (p1 : s274 S x2 v2 S1) (v3 : Int) (e3 : v3 = fx_add x1 v2) (v4 : Int) (e4 : v4 = fx_add x2 (-1)) (z : Int) (Z : fx_S) (kz : fx_Sok Z) (bz : -2147483648 ≤ z ∧ z ≤ 2147483647) (pz : s192 S1 v3 v4 z Z) : s192 S x1 x2 z Z := by
  obtain ⟨r1, f1, p1⟩ := p1
  obtain ⟨rZ, fZ, pz⟩ := pz
  refine ⟨(rZ).trans (r1), ?_, ?_⟩
  · intro p i hW
    clear e4 e3 b2 c1
    exact ((fZ p i (by omega))).trans ((f1 p i (by omega)))
  · skip
    intro n k hn hk k4 hx hw hb hr
    have h3 := e3
    first | rw [fx_add_eq (by omega) (by omega)] at h3 | skip
    have h4 := e4
    first | rw [fx_add_eq (by omega) (by omega)] at h4 | skip
    cases k with
    | zero => exact absurd hk (by omega)
    | succ k =>
      obtain ⟨b0, b1, b2⟩ := p1 n hn hw hb hr
      have e2 : x2 = (k : Int) := by omega
      rw [e2] at b0 b1 b2
      have nn := fx_lr_nn (rk := S.1 15) (th := (fun q : Int => if (0 ≤ q ∧ q < S.1 13 0) ∧ S.1 16 q ≤ S.1 1 0 ∧ S.1 1 0 < S.1 17 q then 1 else 0)) (W := (fun p j : Int => S.1 20 (4 * p + j))) (cnt := S.1 19) (rank := (k : Int)) (H := S.1 38 0) (n := n) (fun p p0 p1 => (hw p p0 (by omega)).1) n 0 (S.1 61) (S.1 43) (by omega) (by omega) hr
      have gF : ∀ p : Int, p ≠ 61 → p ≠ 43 → S1.1 p = S.1 p := fun p h1 h2 => funext fun i => f1 p i (by omega)
      have g61 := funext b1
      have g43 := funext b2
      have v2b : v2 = (fx_lr (S.1 15) (fun q : Int => if (0 ≤ q ∧ q < S.1 13 0) ∧ S.1 16 q ≤ S.1 1 0 ∧ S.1 1 0 < S.1 17 q then 1 else 0) (fun p j : Int => S.1 20 (4 * p + j)) (S.1 19) (k : Int) n 0 (S.1 61) (S.1 43)).1 := b0
      have h3 : v3 = x1 + v2 := by rw [e3]; exact fx_add_eq (by omega) (by omega)
      have q := pz n k (by rw [gF 13 (by omega) (by omega)]; exact hn) (by omega) (by omega) (by omega) (by rw [gF 13 (by omega) (by omega), gF 38 (by omega) (by omega), gF 19 (by omega) (by omega), gF 20 (by omega) (by omega)]; exact hw) (by rw [gF 13 (by omega) (by omega), gF 38 (by omega) (by omega)]; exact hb) (by rw [gF 38 (by omega) (by omega), g43]; exact nn.1)
      rw [gF 13 (by omega) (by omega), gF 15 (by omega) (by omega), gF 16 (by omega) (by omega), gF 17 (by omega) (by omega), gF 1 (by omega) (by omega), gF 19 (by omega) (by omega), gF 20 (by omega) (by omega), g61, g43] at q
      unfold fx_lkk fx_adn
      exact ⟨by rw [q.1]; omega, q.2⟩
theorem q193_0 (S : fx_S) (x1 x2 : Int) (hS : fx_Sok S) (g1 : -2147483648 ≤ x1 ∧ x1 ≤ 2147483647) (g2 : -2147483648 ≤ x2 ∧ x2 ≤ 2147483647) (c1 : 80 ≤ x2) (z : Int) (Z : fx_S) (kz : fx_Sok Z) (bz : -2147483648 ≤ z ∧ z ≤ 2147483647) (pz : s275 S x1 0 z Z) : s193 S x1 x2 z Z := by
  obtain ⟨rZ, fZ, pz⟩ := pz
  refine ⟨rZ, ?_, ?_⟩
  · intro p i hW
    clear c1
    exact (fZ p i (by omega))
  · skip
    intro n hn hw8 hx h0 hw5 hw4
    have q := pz n hn hw8 hx (by omega) hw5 hw4
    rw [show (fun i : Int => if x2 ≤ i ∧ i < 80 then -1 else S.1 81 i) = S.1 81 from funext fun i => if_neg (by omega)]
    exact q
theorem q193_1 (S : fx_S) (x1 x2 : Int) (hS : fx_Sok S) (g1 : -2147483648 ≤ x1 ∧ x1 ≤ 2147483647) (g2 : -2147483648 ≤ x2 ∧ x2 ≤ 2147483647) (c1 : x2 < 80) (c2 : 0 ≤ x2) (c3 : x2 < 80) (S1 : fx_S) (d1 : S1 = (fx_up S.1 81 x2 (-1), S.2)) (v2 : Int) (e2 : v2 = fx_add x2 1) (z : Int) (Z : fx_S) (kz : fx_Sok Z) (bz : -2147483648 ≤ z ∧ z ≤ 2147483647) (pz : s193 S1 x1 v2 z Z) : s193 S x1 x2 z Z := by
  obtain ⟨rZ, fZ, pz⟩ := pz
  refine ⟨(rZ).trans ((show S1.2 = S.2 by rw [d1])), ?_, ?_⟩
  · intro p i hW
    clear e2 c3 c2 c1
    exact ((fZ p i (by omega))).trans ((show S1.1 p i = S.1 p i by rw [d1]; exact if_neg (by omega)))
  · skip
    intro n hn hw8 hx h0 hw5 hw4
    have h2 := e2
    first | rw [fx_add_eq (by omega) (by omega)] at h2 | skip
    have gF : ∀ p : Int, p ≠ 81 → S1.1 p = S.1 p := fun p h1 => funext fun i => by
      rw [d1]
      exact if_neg (fun q => h1 q.1)
    have q := pz n (by rw [gF 67 (by omega)]; exact hn) hw8 hx (by omega) (by rw [gF 67 (by omega)]; exact hw5) (by rw [gF 67 (by omega)]; exact hw4)
    rw [gF 67 (by omega), gF 82 (by omega)] at q
    rw [show (fun i : Int => if v2 ≤ i ∧ i < 80 then -1 else S1.1 81 i) = (fun i : Int => if x2 ≤ i ∧ i < 80 then -1 else S.1 81 i) from funext fun i => by
      rw [d1]
      dsimp only [fx_up]
      by_cases hi : i = x2
      · rw [if_neg (by omega), if_pos ⟨rfl, hi⟩, if_pos (by omega)]
      · by_cases h2 : x2 ≤ i ∧ i < 80
        · rw [if_pos (by omega), if_pos h2]
        · rw [if_neg (by omega), if_neg (fun q => hi q.2), if_neg h2]] at q
    exact q
theorem q273_0 (S : fx_S) (x1 x2 x3 : Int) (hS : fx_Sok S) (g1 : -2147483648 ≤ x1 ∧ x1 ≤ 2147483647) (g2 : -2147483648 ≤ x2 ∧ x2 ≤ 2147483647) (g3 : -2147483648 ≤ x3 ∧ x3 ≤ 2147483647) (c1 : x3 ≤ x2) : s273 S x1 x2 x3 0 S := by
  refine ⟨rfl, ?_, ?_⟩
  · intro p i hW
    clear c1
    exact rfl
  · skip
    intro a0 i
    rw [if_neg (by omega)]
theorem q273_1 (S : fx_S) (x1 x2 x3 : Int) (hS : fx_Sok S) (g1 : -2147483648 ≤ x1 ∧ x1 ≤ 2147483647) (g2 : -2147483648 ≤ x2 ∧ x2 ≤ 2147483647) (g3 : -2147483648 ≤ x3 ∧ x3 ≤ 2147483647) (c1 : x2 < x3) (c2 : 0 ≤ x2) (c3 : x2 < 80) (S1 : fx_S) (d1 : S1 = (fx_up S.1 61 x2 x1, S.2)) (v3 : Int) (e3 : v3 = fx_add x2 1) (z : Int) (Z : fx_S) (kz : fx_Sok Z) (bz : z = 0) (pz : s273 S1 x1 v3 x3 z Z) : s273 S x1 x2 x3 z Z := by
  obtain ⟨rZ, fZ, pz⟩ := pz
  refine ⟨(rZ).trans ((show S1.2 = S.2 by rw [d1])), ?_, ?_⟩
  · intro p i hW
    clear e3 c3 c2 c1
    exact ((fZ p i (by omega))).trans ((show S1.1 p i = S.1 p i by rw [d1]; exact if_neg (by omega)))
  · skip
    intro a0 i
    have h3 := e3
    first | rw [fx_add_eq (by omega) (by omega)] at h3 | skip
    rw [pz (by omega) i, d1]
    dsimp only [fx_up]
    by_cases h1 : v3 ≤ i ∧ i < x3
    · rw [if_pos h1, if_pos (by omega)]
    · rw [if_neg h1]
      by_cases h2 : i = x2
      · rw [if_pos (by omega), if_pos (by omega)]
      · rw [if_neg (by omega), if_neg (by omega)]
theorem q274_0 (S : fx_S) (x1 : Int) (hS : fx_Sok S) (g1 : -2147483648 ≤ x1 ∧ x1 ≤ 2147483647) (z : Int) (Z : fx_S) (kz : fx_Sok Z) (bz : -2147483648 ≤ z ∧ z ≤ 2147483647) (pz : s327 S x1 0 0 z Z) : s274 S x1 z Z := by
  obtain ⟨rZ, fZ, pz⟩ := pz
  refine ⟨rZ, ?_, ?_⟩
  · intro p i hW
    exact (fZ p i (by omega))
  · skip
    intro k hk hw hb hr
    obtain ⟨b0, b1, b2⟩ := pz k (by omega) (by omega) (by omega) hw hb hr
    exact ⟨by omega, b1, b2⟩
theorem q275_0 (S : fx_S) (x1 x2 : Int) (hS : fx_Sok S) (g1 : -2147483648 ≤ x1 ∧ x1 ≤ 2147483647) (g2 : -2147483648 ≤ x2 ∧ x2 ≤ 2147483647) (v2 : Int) (e2 : v2 = S.1 67 5) (b2 : -2147483648 ≤ v2 ∧ v2 ≤ 2147483647) (c1 : v2 ≤ x2) (z : Int) (Z : fx_S) (kz : fx_Sok Z) (bz : -2147483648 ≤ z ∧ z ≤ 2147483647) (pz : s328 S x1 3 z Z) : s275 S x1 x2 z Z := by
  obtain ⟨rZ, fZ, pz⟩ := pz
  refine ⟨rZ, ?_, ?_⟩
  · intro p i hW
    clear c1 b2 e2
    exact (fZ p i (by omega))
  · skip
    intro n hn hw8 hx h0 hw5 hw4
    have q := pz n 4 hn hw8 (by omega) (by omega) (by omega) hw4
    rw [show (fun h : Int => if x2 ≤ h ∧ h < S.1 67 5 then S.1 67 (7100 + 4 * h) else S.1 82 h) = S.1 82 from funext fun h => if_neg (by omega)]
    exact ⟨by omega, q.2⟩
theorem q275_1 (S : fx_S) (x1 x2 : Int) (hS : fx_Sok S) (g1 : -2147483648 ≤ x1 ∧ x1 ≤ 2147483647) (g2 : -2147483648 ≤ x2 ∧ x2 ≤ 2147483647) (v2 : Int) (e2 : v2 = S.1 67 5) (b2 : -2147483648 ≤ v2 ∧ v2 ≤ 2147483647) (c1 : x2 < v2) (v3 : Int) (e3 : v3 = fx_mul 4 x2) (v4 : Int) (e4 : v4 = fx_add 7100 v3) (c2 : 0 ≤ v4) (c3 : v4 < 8090) (v5 : Int) (e5 : v5 = S.1 67 v4) (b5 : -2147483648 ≤ v5 ∧ v5 ≤ 2147483647) (c4 : 0 ≤ x2) (c5 : x2 < 12) (S1 : fx_S) (d1 : S1 = (fx_up S.1 82 x2 v5, S.2)) (v6 : Int) (e6 : v6 = fx_add x2 1) (z : Int) (Z : fx_S) (kz : fx_Sok Z) (bz : -2147483648 ≤ z ∧ z ≤ 2147483647) (pz : s275 S1 x1 v6 z Z) : s275 S x1 x2 z Z := by
  obtain ⟨rZ, fZ, pz⟩ := pz
  refine ⟨(rZ).trans ((show S1.2 = S.2 by rw [d1])), ?_, ?_⟩
  · intro p i hW
    clear e6 c5 c4 b5 e5 c3 c2 e4 e3 c1 b2 e2
    exact ((fZ p i (by omega))).trans ((show S1.1 p i = S.1 p i by rw [d1]; exact if_neg (by omega)))
  · skip
    intro n hn hw8 hx h0 hw5 hw4
    have h3 := e3
    first | rw [fx_mul_eq (by omega) (by omega)] at h3 | skip
    have h4 := e4
    first | rw [fx_add_eq (by omega) (by omega)] at h4 | skip
    have h6 := e6
    first | rw [fx_add_eq (by omega) (by omega)] at h6 | skip
    have gF : ∀ p : Int, p ≠ 82 → S1.1 p = S.1 p := fun p h1 => funext fun i => by
      rw [d1]
      exact if_neg (fun q => h1 q.1)
    have q := pz n (by rw [gF 67 (by omega)]; exact hn) hw8 hx (by omega) (by rw [gF 67 (by omega)]; exact hw5) (by rw [gF 67 (by omega)]; exact hw4)
    rw [gF 67 (by omega), gF 81 (by omega)] at q
    rw [show (fun h : Int => if v6 ≤ h ∧ h < S.1 67 5 then S.1 67 (7100 + 4 * h) else S1.1 82 h) = (fun h : Int => if x2 ≤ h ∧ h < S.1 67 5 then S.1 67 (7100 + 4 * h) else S.1 82 h) from funext fun h => by
      rw [d1]
      dsimp only [fx_up]
      by_cases hi : h = x2
      · rw [if_neg (by omega), if_pos ⟨rfl, hi⟩, if_pos (by omega), hi, show 7100 + 4 * x2 = v4 by omega]
        exact e5
      · by_cases h2 : x2 ≤ h ∧ h < S.1 67 5
        · rw [if_pos (by omega), if_pos h2]
        · rw [if_neg (by omega), if_neg (fun q => hi q.2), if_neg h2]] at q
    exact q
theorem q327_0 (S : fx_S) (x1 x3 x4 : Int) (hS : fx_Sok S) (g1 : -2147483648 ≤ x1 ∧ x1 ≤ 2147483647) (g3 : -2147483648 ≤ x3 ∧ x3 ≤ 2147483647) (g4 : -2147483648 ≤ x4 ∧ x4 ≤ 2147483647) (v3 : Int) (e3 : v3 = S.1 13 0) (b3 : -2147483648 ≤ v3 ∧ v3 ≤ 2147483647) (c1 : v3 ≤ x4) : s327 S x1 x3 x4 x3 S := by
  refine ⟨rfl, ?_, ?_⟩
  · intro p i hW
    clear c1 b3 e3
    exact rfl
  · skip
    intro k hk h0 hx hw hb hr
    skip
    cases k with
    | zero =>
      unfold fx_lr
      exact ⟨by omega, fun i => rfl, fun i => rfl⟩
    | succ k => exact absurd hk (by omega)
theorem q327_1 (S : fx_S) (x1 x3 x4 : Int) (hS : fx_Sok S) (g1 : -2147483648 ≤ x1 ∧ x1 ≤ 2147483647) (g3 : -2147483648 ≤ x3 ∧ x3 ≤ 2147483647) (g4 : -2147483648 ≤ x4 ∧ x4 ≤ 2147483647) (v3 : Int) (e3 : v3 = S.1 13 0) (b3 : -2147483648 ≤ v3 ∧ v3 ≤ 2147483647) (c1 : x4 < v3) (c2 : 0 ≤ x4) (c3 : x4 < 80) (v4 : Int) (e4 : v4 = S.1 15 x4) (b4 : -2147483648 ≤ v4 ∧ v4 ≤ 2147483647) (c4 : v4 ≠ x1) (v5 : Int) (e5 : v5 = fx_add x4 1) (z : Int) (Z : fx_S) (kz : fx_Sok Z) (bz : -2147483648 ≤ z ∧ z ≤ 2147483647) (pz : s327 S x1 x3 v5 z Z) : s327 S x1 x3 x4 z Z := by
  obtain ⟨rZ, fZ, pz⟩ := pz
  refine ⟨rZ, ?_, ?_⟩
  · intro p i hW
    clear e5 c4 b4 e4 c3 c2 c1 b3 e3
    exact (fZ p i (by omega))
  · skip
    intro k hk h0 hx hw hb hr
    have h5 := e5
    first | rw [fx_add_eq (by omega) (by omega)] at h5 | skip
    cases k with
    | zero => exact absurd hk (by omega)
    | succ k =>
      have ht : ¬ (S.1 15 x4 = x1 ∧ (if (0 ≤ x4 ∧ x4 < S.1 13 0) ∧ S.1 16 x4 ≤ S.1 1 0 ∧ S.1 1 0 < S.1 17 x4 then (1 : Int) else 0) = 1) := fun q => c4 (by rw [e4]; exact q.1)
      have q := pz k (by omega) (by omega) (by omega) hw hb hr
      unfold fx_lr
      try dsimp only
      rw [if_neg ht, show x4 + 1 = v5 by omega]
      exact q
theorem q327_2 (S : fx_S) (x1 x3 x4 : Int) (hS : fx_Sok S) (g1 : -2147483648 ≤ x1 ∧ x1 ≤ 2147483647) (g3 : -2147483648 ≤ x3 ∧ x3 ≤ 2147483647) (g4 : -2147483648 ≤ x4 ∧ x4 ≤ 2147483647) (v3 : Int) (e3 : v3 = S.1 13 0) (b3 : -2147483648 ≤ v3 ∧ v3 ≤ 2147483647) (c1 : x4 < v3) (c2 : 0 ≤ x4) (c3 : x4 < 80) (v4 : Int) (e4 : v4 = S.1 15 x4) (b4 : -2147483648 ≤ v4 ∧ v4 ≤ 2147483647) (c4 : v4 = x1) (v5 : Int) (S1 : fx_S) (k1 : fx_Sok S1) (b5 : -2147483648 ≤ v5 ∧ v5 ≤ 2147483647) (p1 : s136 S x4 v5 S1) (c5 : v5 = 0) (v6 : Int) (e6 : v6 = fx_add x4 1) (z : Int) (Z : fx_S) (kz : fx_Sok Z) (bz : -2147483648 ≤ z ∧ z ≤ 2147483647) (pz : s327 S1 x1 x3 v6 z Z) : s327 S x1 x3 x4 z Z := by
  obtain ⟨rfl, p1⟩ := p1
  obtain ⟨rZ, fZ, pz⟩ := pz
  refine ⟨rZ, ?_, ?_⟩
  · intro p i hW
    clear e6 c5 b5 c4 b4 e4 c3 c2 c1 b3 e3
    exact (fZ p i (by omega))
  · skip
    intro k hk h0 hx hw hb hr
    have h6 := e6
    first | rw [fx_add_eq (by omega) (by omega)] at h6 | skip
    cases k with
    | zero => exact absurd hk (by omega)
    | succ k =>
      have ht : ¬ (S.1 15 x4 = x1 ∧ (if (0 ≤ x4 ∧ x4 < S.1 13 0) ∧ S.1 16 x4 ≤ S.1 1 0 ∧ S.1 1 0 < S.1 17 x4 then (1 : Int) else 0) = 1) := fun q => by
        have t := p1 (by omega)
        rw [← t] at q
        omega
      have q := pz k (by omega) (by omega) (by omega) hw hb hr
      unfold fx_lr
      try dsimp only
      rw [if_neg ht, show x4 + 1 = v6 by omega]
      exact q
theorem q327_3 (S : fx_S) (x1 x3 x4 : Int) (hS : fx_Sok S) (g1 : -2147483648 ≤ x1 ∧ x1 ≤ 2147483647) (g3 : -2147483648 ≤ x3 ∧ x3 ≤ 2147483647) (g4 : -2147483648 ≤ x4 ∧ x4 ≤ 2147483647) (v3 : Int) (e3 : v3 = S.1 13 0) (b3 : -2147483648 ≤ v3 ∧ v3 ≤ 2147483647) (c1 : x4 < v3) (c2 : 0 ≤ x4) (c3 : x4 < 80) (v4 : Int) (e4 : v4 = S.1 15 x4) (b4 : -2147483648 ≤ v4 ∧ v4 ≤ 2147483647) (c4 : v4 = x1) (v5 : Int) (S1 : fx_S) (k1 : fx_Sok S1) (b5 : -2147483648 ≤ v5 ∧ v5 ≤ 2147483647) (p1 : s136 S x4 v5 S1) (c5 : v5 ≠ 0) (v6 : Int) (S2 : fx_S) (k2 : fx_Sok S2) (b6 : -2147483648 ≤ v6 ∧ v6 ≤ 2147483647) (p2 : s367 S1 x4 v6 S2) (c6 : 0 ≤ x4) (c7 : x4 < 80) (S3 : fx_S) (d3 : S3 = (fx_up S2.1 61 x4 v6, S2.2)) (c8 : 0 ≤ x4) (c9 : x4 < 80) (v7 : Int) (e7 : v7 = S3.1 61 x4) (b7 : -2147483648 ≤ v7 ∧ v7 ≤ 2147483647) (c10 : v7 = (-1)) (v8 : Int) (e8 : v8 = fx_add x4 1) (z : Int) (Z : fx_S) (kz : fx_Sok Z) (bz : -2147483648 ≤ z ∧ z ≤ 2147483647) (pz : s327 S3 x1 x3 v8 z Z) : s327 S x1 x3 x4 z Z := by
  obtain ⟨rfl, p1⟩ := p1
  obtain ⟨r2, f2, p2⟩ := p2
  obtain ⟨rZ, fZ, pz⟩ := pz
  refine ⟨(rZ).trans (((show S3.2 = S2.2 by rw [d3])).trans (r2)), ?_, ?_⟩
  · intro p i hW
    clear e8 c10 b7 e7 c9 c8 c7 c6 b6 c5 b5 c4 b4 e4 c3 c2 c1 b3 e3
    exact ((fZ p i (by omega))).trans (((show S3.1 p i = S2.1 p i by rw [d3]; exact if_neg (by omega))).trans ((f2 p i (by omega))))
  · skip
    intro k hk h0 hx hw hb hr
    have t7_3 : S3.1 61 x4 = v6 := by rw [d3]; first | exact if_pos ⟨rfl, by omega⟩ | rfl
    rw [t7_3] at e7
    obtain rfl : v6 = v7 := e7.symm
    have h8 := e8
    first | rw [fx_add_eq (by omega) (by omega)] at h8 | skip
    cases k with
    | zero => exact absurd hk (by omega)
    | succ k =>
      have t := p1 (by omega)
      have ht : S.1 15 x4 = x1 ∧ (if (0 ≤ x4 ∧ x4 < S.1 13 0) ∧ S.1 16 x4 ≤ S.1 1 0 ∧ S.1 1 0 < S.1 17 x4 then (1 : Int) else 0) = 1 := ⟨by omega, by
        split at t
        · rename_i q
          rw [if_pos q]
        · omega⟩
      obtain ⟨b1, b2⟩ := p2 (hw x4 (by omega) (by omega)).1 ⟨hb.1, hb.2.1, (hw x4 (by omega) (by omega)).2⟩ hr
      have gf : ∀ p i : Int, p ≠ 61 → p ≠ 43 → S3.1 p i = S.1 p i := fun p i h1 h2 => by
        rw [d3]
        exact (if_neg (fun q => h1 q.1)).trans (f2 p i (by omega))
      have gF : ∀ p : Int, p ≠ 61 → p ≠ 43 → S3.1 p = S.1 p := fun p h1 h2 => funext fun i => gf p i h1 h2
      have g43 : S3.1 43 = (fx_lw (fun j => S.1 20 (4 * x4 + j)) (S.1 19 x4) 5 0 (S.1 43)).2 := funext fun i => by
        rw [d3]
        first | exact b2 i | exact (if_neg (by omega)).trans (b2 i)
      have g61 : S3.1 61 = fx_se (S.1 61) x4 v6 := funext fun i => by
        rw [d3]
        dsimp only [fx_up, fx_se]
        by_cases hi : i = x4
        · rw [if_pos ⟨rfl, hi⟩, if_pos hi]
        · rw [if_neg (fun q => hi q.2), if_neg hi]
          exact f2 61 i (by omega)
      have q := pz k (by rw [gf 13 0 (by omega) (by omega)]; omega) (by omega) (by omega) (by rw [gf 13 0 (by omega) (by omega), gf 38 0 (by omega) (by omega), gF 19 (by omega) (by omega), gF 20 (by omega) (by omega)]; exact hw) (by rw [gf 13 0 (by omega) (by omega), gf 38 0 (by omega) (by omega)]; exact hb) (by
        rw [gf 38 0 (by omega) (by omega), g43]
        exact (fx_lw_nn 5 0 (S.1 43) (by omega) (hw x4 (by omega) (by omega)).1 hr).1)
      rw [gF 13 (by omega) (by omega), gF 15 (by omega) (by omega), gF 16 (by omega) (by omega), gF 17 (by omega) (by omega), gF 1 (by omega) (by omega), gF 19 (by omega) (by omega), gF 20 (by omega) (by omega), g43, g61, b1] at q
      unfold fx_lr
      try dsimp only
      rw [if_pos ht, ← b1, if_pos (by omega), show x4 + 1 = v8 by omega]
      unfold fx_adn
      rw [← b1] at q
      exact ⟨by rw [q.1]; omega, q.2⟩
theorem q327_4 (S : fx_S) (x1 x3 x4 : Int) (hS : fx_Sok S) (g1 : -2147483648 ≤ x1 ∧ x1 ≤ 2147483647) (g3 : -2147483648 ≤ x3 ∧ x3 ≤ 2147483647) (g4 : -2147483648 ≤ x4 ∧ x4 ≤ 2147483647) (v3 : Int) (e3 : v3 = S.1 13 0) (b3 : -2147483648 ≤ v3 ∧ v3 ≤ 2147483647) (c1 : x4 < v3) (c2 : 0 ≤ x4) (c3 : x4 < 80) (v4 : Int) (e4 : v4 = S.1 15 x4) (b4 : -2147483648 ≤ v4 ∧ v4 ≤ 2147483647) (c4 : v4 = x1) (v5 : Int) (S1 : fx_S) (k1 : fx_Sok S1) (b5 : -2147483648 ≤ v5 ∧ v5 ≤ 2147483647) (p1 : s136 S x4 v5 S1) (c5 : v5 ≠ 0) (v6 : Int) (S2 : fx_S) (k2 : fx_Sok S2) (b6 : -2147483648 ≤ v6 ∧ v6 ≤ 2147483647) (p2 : s367 S1 x4 v6 S2) (c6 : 0 ≤ x4) (c7 : x4 < 80) (S3 : fx_S) (d3 : S3 = (fx_up S2.1 61 x4 v6, S2.2)) (c8 : 0 ≤ x4) (c9 : x4 < 80) (v7 : Int) (e7 : v7 = S3.1 61 x4) (b7 : -2147483648 ≤ v7 ∧ v7 ≤ 2147483647) (c10 : v7 ≠ (-1)) (v8 : Int) (e8 : v8 = fx_add x3 1) (v9 : Int) (e9 : v9 = fx_add x4 1) (z : Int) (Z : fx_S) (kz : fx_Sok Z) (bz : -2147483648 ≤ z ∧ z ≤ 2147483647) (pz : s327 S3 x1 v8 v9 z Z) : s327 S x1 x3 x4 z Z := by
  obtain ⟨rfl, p1⟩ := p1
  obtain ⟨r2, f2, p2⟩ := p2
  obtain ⟨rZ, fZ, pz⟩ := pz
  refine ⟨(rZ).trans (((show S3.2 = S2.2 by rw [d3])).trans (r2)), ?_, ?_⟩
  · intro p i hW
    clear e9 e8 c10 b7 e7 c9 c8 c7 c6 b6 c5 b5 c4 b4 e4 c3 c2 c1 b3 e3
    exact ((fZ p i (by omega))).trans (((show S3.1 p i = S2.1 p i by rw [d3]; exact if_neg (by omega))).trans ((f2 p i (by omega))))
  · skip
    intro k hk h0 hx hw hb hr
    have t7_3 : S3.1 61 x4 = v6 := by rw [d3]; first | exact if_pos ⟨rfl, by omega⟩ | rfl
    rw [t7_3] at e7
    obtain rfl : v6 = v7 := e7.symm
    have h8 := e8
    first | rw [fx_add_eq (by omega) (by omega)] at h8 | skip
    have h9 := e9
    first | rw [fx_add_eq (by omega) (by omega)] at h9 | skip
    cases k with
    | zero => exact absurd hk (by omega)
    | succ k =>
      have t := p1 (by omega)
      have ht : S.1 15 x4 = x1 ∧ (if (0 ≤ x4 ∧ x4 < S.1 13 0) ∧ S.1 16 x4 ≤ S.1 1 0 ∧ S.1 1 0 < S.1 17 x4 then (1 : Int) else 0) = 1 := ⟨by omega, by
        split at t
        · rename_i q
          rw [if_pos q]
        · omega⟩
      obtain ⟨b1, b2⟩ := p2 (hw x4 (by omega) (by omega)).1 ⟨hb.1, hb.2.1, (hw x4 (by omega) (by omega)).2⟩ hr
      have gf : ∀ p i : Int, p ≠ 61 → p ≠ 43 → S3.1 p i = S.1 p i := fun p i h1 h2 => by
        rw [d3]
        exact (if_neg (fun q => h1 q.1)).trans (f2 p i (by omega))
      have gF : ∀ p : Int, p ≠ 61 → p ≠ 43 → S3.1 p = S.1 p := fun p h1 h2 => funext fun i => gf p i h1 h2
      have g43 : S3.1 43 = (fx_lw (fun j => S.1 20 (4 * x4 + j)) (S.1 19 x4) 5 0 (S.1 43)).2 := funext fun i => by
        rw [d3]
        first | exact b2 i | exact (if_neg (by omega)).trans (b2 i)
      have g61 : S3.1 61 = fx_se (S.1 61) x4 v6 := funext fun i => by
        rw [d3]
        dsimp only [fx_up, fx_se]
        by_cases hi : i = x4
        · rw [if_pos ⟨rfl, hi⟩, if_pos hi]
        · rw [if_neg (fun q => hi q.2), if_neg hi]
          exact f2 61 i (by omega)
      have q := pz k (by rw [gf 13 0 (by omega) (by omega)]; omega) (by omega) (by omega) (by rw [gf 13 0 (by omega) (by omega), gf 38 0 (by omega) (by omega), gF 19 (by omega) (by omega), gF 20 (by omega) (by omega)]; exact hw) (by rw [gf 13 0 (by omega) (by omega), gf 38 0 (by omega) (by omega)]; exact hb) (by
        rw [gf 38 0 (by omega) (by omega), g43]
        exact (fx_lw_nn 5 0 (S.1 43) (by omega) (hw x4 (by omega) (by omega)).1 hr).1)
      rw [gF 13 (by omega) (by omega), gF 15 (by omega) (by omega), gF 16 (by omega) (by omega), gF 17 (by omega) (by omega), gF 1 (by omega) (by omega), gF 19 (by omega) (by omega), gF 20 (by omega) (by omega), g43, g61, b1] at q
      unfold fx_lr
      try dsimp only
      rw [if_pos ht, ← b1, if_neg (by omega), show x4 + 1 = v9 by omega]
      unfold fx_adn
      rw [← b1] at q
      exact ⟨by rw [q.1]; omega, q.2⟩
theorem q328_0 (S : fx_S) (x1 x2 : Int) (hS : fx_Sok S) (g1 : -2147483648 ≤ x1 ∧ x1 ≤ 2147483647) (g2 : -2147483648 ≤ x2 ∧ x2 ≤ 2147483647) (c1 : x2 < 0) : s328 S x1 x2 x1 S := by
  refine ⟨rfl, ?_, ?_⟩
  · intro p i hW
    clear c1
    exact rfl
  · skip
    intro n k hn hw8 hk k4 hx hw4
    cases k with
    | zero =>
      unfold fx_lkk
      exact ⟨by omega, fun i => rfl⟩
    | succ k => exact absurd hk (by omega)
theorem q328_1 (S : fx_S) (x1 x2 : Int) (hS : fx_Sok S) (g1 : -2147483648 ≤ x1 ∧ x1 ≤ 2147483647) (g2 : -2147483648 ≤ x2 ∧ x2 ≤ 2147483647) (c1 : 0 ≤ x2) (z : Int) (Z : fx_S) (kz : fx_Sok Z) (bz : -2147483648 ≤ z ∧ z ≤ 2147483647) (pz : s368 S x1 x2 0 z Z) : s328 S x1 x2 z Z := by
  obtain ⟨rZ, fZ, pz⟩ := pz
  refine ⟨rZ, ?_, ?_⟩
  · intro p i hW
    clear c1
    exact (fZ p i (by omega))
  · skip
    intro n k hn hw8 hk k4 hx hw4
    cases k with
    | zero => exact absurd hk (by omega)
    | succ k =>
      have q := pz n n k hn hw8 (by omega) (by omega) (by omega) (by omega) (by omega) hw4
      unfold fx_lkk fx_adn
      try dsimp only
      rw [← Int.add_assoc]
      exact q
theorem q367_0 (S : fx_S) (x1 : Int) (hS : fx_Sok S) (g1 : -2147483648 ≤ x1 ∧ x1 ≤ 2147483647) (z : Int) (Z : fx_S) (kz : fx_Sok Z) (bz : -2147483648 ≤ z ∧ z ≤ 2147483647) (pz : s386 S x1 0 z Z) : s367 S x1 z Z := by
  obtain ⟨rZ, fZ, pz⟩ := pz
  refine ⟨rZ, ?_, ?_⟩
  · intro p i hW
    exact (fZ p i (by omega))
  · skip
    intro hw hb hr
    exact pz 5 (by omega) (by omega) hw hb hr
theorem q368_0 (S : fx_S) (x1 x2 x3 : Int) (hS : fx_Sok S) (g1 : -2147483648 ≤ x1 ∧ x1 ≤ 2147483647) (g2 : -2147483648 ≤ x2 ∧ x2 ≤ 2147483647) (g3 : -2147483648 ≤ x3 ∧ x3 ≤ 2147483647) (v3 : Int) (e3 : v3 = S.1 67 2) (b3 : -2147483648 ≤ v3 ∧ v3 ≤ 2147483647) (c1 : v3 ≤ x3) (v4 : Int) (e4 : v4 = fx_add x2 (-1)) (z : Int) (Z : fx_S) (kz : fx_Sok Z) (bz : -2147483648 ≤ z ∧ z ≤ 2147483647) (pz : s328 S x1 v4 z Z) : s368 S x1 x2 x3 z Z := by
  obtain ⟨rZ, fZ, pz⟩ := pz
  refine ⟨rZ, ?_, ?_⟩
  · intro p i hW
    clear e4 c1 b3 e3
    exact (fZ p i (by omega))
  · skip
    intro n j k hn hw8 hj h0 hk k4 hx hw4
    have h4 := e4
    first | rw [fx_add_eq (by omega) (by omega)] at h4 | skip
    have q := pz n k hn hw8 (by omega) (by omega) (by omega) hw4
    cases j with
    | zero =>
      unfold fx_lr
      try dsimp only
      rw [Int.add_zero]
      exact q
    | succ j => exact absurd hj (by omega)
theorem q368_1 (S : fx_S) (x1 x2 x3 : Int) (hS : fx_Sok S) (g1 : -2147483648 ≤ x1 ∧ x1 ≤ 2147483647) (g2 : -2147483648 ≤ x2 ∧ x2 ≤ 2147483647) (g3 : -2147483648 ≤ x3 ∧ x3 ≤ 2147483647) (v3 : Int) (e3 : v3 = S.1 67 2) (b3 : -2147483648 ≤ v3 ∧ v3 ≤ 2147483647) (c1 : x3 < v3) (v4 : Int) (e4 : v4 = fx_mul 10 x3) (v5 : Int) (e5 : v5 = fx_add 300 v4) (v6 : Int) (e6 : v6 = fx_add v5 1) (c2 : 0 ≤ v6) (c3 : v6 < 8090) (v7 : Int) (e7 : v7 = S.1 67 v6) (b7 : -2147483648 ≤ v7 ∧ v7 ≤ 2147483647) (c4 : v7 ≠ x2) (v8 : Int) (e8 : v8 = fx_add x3 1) (z : Int) (Z : fx_S) (kz : fx_Sok Z) (bz : -2147483648 ≤ z ∧ z ≤ 2147483647) (pz : s368 S x1 x2 v8 z Z) : s368 S x1 x2 x3 z Z := by
  obtain ⟨rZ, fZ, pz⟩ := pz
  refine ⟨rZ, ?_, ?_⟩
  · intro p i hW
    clear e8 c4 b7 e7 c3 c2 e6 e5 e4 c1 b3 e3
    exact (fZ p i (by omega))
  · skip
    intro n j k hn hw8 hj h0 hk k4 hx hw4
    have h4 := e4
    first | rw [fx_mul_eq (by omega) (by omega)] at h4 | skip
    have h5 := e5
    first | rw [fx_add_eq (by omega) (by omega)] at h5 | skip
    have h6 := e6
    first | rw [fx_add_eq (by omega) (by omega)] at h6 | skip
    have h8 := e8
    first | rw [fx_add_eq (by omega) (by omega)] at h8 | skip
    cases j with
    | zero => exact absurd hj (by omega)
    | succ j =>
      have u1 : S.1 67 (301 + 10 * x3) = v7 := by rw [show 301 + 10 * x3 = v6 by omega]; exact e7.symm
      have ht : ¬ (S.1 67 (301 + 10 * x3) = (k : Int) ∧ (if (0 ≤ x3 ∧ x3 < S.1 67 2) ∧ S.1 67 (302 + 10 * x3) ≤ S.1 67 0 ∧ (S.1 67 (303 + 10 * x3) = -1 ∨ S.1 67 0 < S.1 67 (303 + 10 * x3)) then (1 : Int) else 0) = 1) := fun q => c4 (by omega)
      have q := pz n j k hn hw8 (by omega) (by omega) hk k4 (by omega) hw4
      unfold fx_lr
      try dsimp only
      rw [if_neg ht, show x3 + 1 = v8 by omega]
      exact q
theorem q368_2 (S : fx_S) (x1 x2 x3 : Int) (hS : fx_Sok S) (g1 : -2147483648 ≤ x1 ∧ x1 ≤ 2147483647) (g2 : -2147483648 ≤ x2 ∧ x2 ≤ 2147483647) (g3 : -2147483648 ≤ x3 ∧ x3 ≤ 2147483647) (v3 : Int) (e3 : v3 = S.1 67 2) (b3 : -2147483648 ≤ v3 ∧ v3 ≤ 2147483647) (c1 : x3 < v3) (v4 : Int) (e4 : v4 = fx_mul 10 x3) (v5 : Int) (e5 : v5 = fx_add 300 v4) (v6 : Int) (e6 : v6 = fx_add v5 1) (c2 : 0 ≤ v6) (c3 : v6 < 8090) (v7 : Int) (e7 : v7 = S.1 67 v6) (b7 : -2147483648 ≤ v7 ∧ v7 ≤ 2147483647) (c4 : v7 = x2) (v8 : Int) (e8 : v8 = S.1 67 0) (b8 : -2147483648 ≤ v8 ∧ v8 ≤ 2147483647) (v9 : Int) (S1 : fx_S) (k1 : fx_Sok S1) (b9 : -2147483648 ≤ v9 ∧ v9 ≤ 2147483647) (p1 : s156 S x3 v8 v9 S1) (c5 : v9 ≠ 0) (v10 : Int) (S2 : fx_S) (k2 : fx_Sok S2) (b10 : -2147483648 ≤ v10 ∧ v10 ≤ 2147483647) (p2 : s387 S1 x3 v10 S2) (c6 : 0 ≤ x3) (c7 : x3 < 80) (S3 : fx_S) (d3 : S3 = (fx_up S2.1 81 x3 v10, S2.2)) (c8 : 0 ≤ x3) (c9 : x3 < 80) (v11 : Int) (e11 : v11 = S3.1 81 x3) (b11 : -2147483648 ≤ v11 ∧ v11 ≤ 2147483647) (c10 : v11 ≠ (-1)) (v12 : Int) (e12 : v12 = fx_add x1 1) (v13 : Int) (e13 : v13 = fx_add x3 1) (z : Int) (Z : fx_S) (kz : fx_Sok Z) (bz : -2147483648 ≤ z ∧ z ≤ 2147483647) (pz : s368 S3 v12 x2 v13 z Z) : s368 S x1 x2 x3 z Z := by
  obtain ⟨rfl, p1⟩ := p1
  obtain ⟨r2, f2, p2⟩ := p2
  obtain ⟨rZ, fZ, pz⟩ := pz
  refine ⟨(rZ).trans (((show S3.2 = S2.2 by rw [d3])).trans (r2)), ?_, ?_⟩
  · intro p i hW
    clear e13 e12 c10 b11 e11 c9 c8 c7 c6 b10 c5 b9 b8 e8 c4 b7 e7 c3 c2 e6 e5 e4 c1 b3 e3
    exact ((fZ p i (by omega))).trans (((show S3.1 p i = S2.1 p i by rw [d3]; exact if_neg (by omega))).trans ((f2 p i (by omega))))
  · skip
    intro n j k hn hw8 hj h0 hk k4 hx hw4
    have h4 := e4
    first | rw [fx_mul_eq (by omega) (by omega)] at h4 | skip
    have h5 := e5
    first | rw [fx_add_eq (by omega) (by omega)] at h5 | skip
    have h6 := e6
    first | rw [fx_add_eq (by omega) (by omega)] at h6 | skip
    have t11_3 : S3.1 81 x3 = v10 := by rw [d3]; first | exact if_pos ⟨rfl, by omega⟩ | rfl
    rw [t11_3] at e11
    obtain rfl : v10 = v11 := e11.symm
    have h12 := e12
    first | rw [fx_add_eq (by omega) (by omega)] at h12 | skip
    have h13 := e13
    first | rw [fx_add_eq (by omega) (by omega)] at h13 | skip
    cases j with
    | zero => exact absurd hj (by omega)
    | succ j =>
      have u1 : S.1 67 (301 + 10 * x3) = v7 := by rw [show 301 + 10 * x3 = v6 by omega]; exact e7.symm
      have t := p1 (by omega) (by omega)
      rw [e8] at t
      have ht : S.1 67 (301 + 10 * x3) = (k : Int) ∧ (if (0 ≤ x3 ∧ x3 < S.1 67 2) ∧ S.1 67 (302 + 10 * x3) ≤ S.1 67 0 ∧ (S.1 67 (303 + 10 * x3) = -1 ∨ S.1 67 0 < S.1 67 (303 + 10 * x3)) then (1 : Int) else 0) = 1 := ⟨by omega, by
        split at t
        · rename_i q
          rw [if_pos ⟨by omega, q⟩]
        · omega⟩
      obtain ⟨b1, b2⟩ := p2 (by omega) (by omega) (hw4 x3 h0 (by omega))
      have gF : ∀ p : Int, p ≠ 81 → p ≠ 82 → S3.1 p = S.1 p := fun p h1 h2 => funext fun i => by
        rw [d3]
        exact (if_neg (fun q => h1 q.1)).trans (f2 p i (by omega))
      have g82 : S3.1 82 = (fx_lw (fun j => S.1 67 (306 + 10 * x3 + j)) (S.1 67 (305 + 10 * x3)) 5 0 (S.1 82)).2 := funext fun i => by
        rw [d3]
        first | exact b2 i | exact (if_neg (by omega)).trans (b2 i)
      have g81 : S3.1 81 = fx_se (S.1 81) x3 v10 := funext fun i => by
        rw [d3]
        dsimp only [fx_up, fx_se]
        by_cases hi : i = x3
        · rw [if_pos ⟨rfl, hi⟩, if_pos hi]
        · rw [if_neg (fun q => hi q.2), if_neg hi]
          exact f2 81 i (by omega)
      have q := pz n j k (by rw [gF 67 (by omega) (by omega)]; exact hn) hw8 (by omega) (by omega) hk k4 (by omega) (by rw [gF 67 (by omega) (by omega)]; exact hw4)
      rw [gF 67 (by omega) (by omega), g82, g81, show v13 = x3 + 1 by omega] at q
      unfold fx_lr
      try dsimp only
      rw [if_pos ht, ← b1, if_neg (by omega)]
      unfold fx_adn
      exact ⟨by rw [q.1]; dsimp only; omega, q.2⟩
theorem q368_3 (S : fx_S) (x1 x2 x3 : Int) (hS : fx_Sok S) (g1 : -2147483648 ≤ x1 ∧ x1 ≤ 2147483647) (g2 : -2147483648 ≤ x2 ∧ x2 ≤ 2147483647) (g3 : -2147483648 ≤ x3 ∧ x3 ≤ 2147483647) (v3 : Int) (e3 : v3 = S.1 67 2) (b3 : -2147483648 ≤ v3 ∧ v3 ≤ 2147483647) (c1 : x3 < v3) (v4 : Int) (e4 : v4 = fx_mul 10 x3) (v5 : Int) (e5 : v5 = fx_add 300 v4) (v6 : Int) (e6 : v6 = fx_add v5 1) (c2 : 0 ≤ v6) (c3 : v6 < 8090) (v7 : Int) (e7 : v7 = S.1 67 v6) (b7 : -2147483648 ≤ v7 ∧ v7 ≤ 2147483647) (c4 : v7 = x2) (v8 : Int) (e8 : v8 = S.1 67 0) (b8 : -2147483648 ≤ v8 ∧ v8 ≤ 2147483647) (v9 : Int) (S1 : fx_S) (k1 : fx_Sok S1) (b9 : -2147483648 ≤ v9 ∧ v9 ≤ 2147483647) (p1 : s156 S x3 v8 v9 S1) (c5 : v9 ≠ 0) (v10 : Int) (S2 : fx_S) (k2 : fx_Sok S2) (b10 : -2147483648 ≤ v10 ∧ v10 ≤ 2147483647) (p2 : s387 S1 x3 v10 S2) (c6 : 0 ≤ x3) (c7 : x3 < 80) (S3 : fx_S) (d3 : S3 = (fx_up S2.1 81 x3 v10, S2.2)) (c8 : 0 ≤ x3) (c9 : x3 < 80) (v11 : Int) (e11 : v11 = S3.1 81 x3) (b11 : -2147483648 ≤ v11 ∧ v11 ≤ 2147483647) (c10 : v11 = (-1)) (v12 : Int) (e12 : v12 = fx_add x1 0) (v13 : Int) (e13 : v13 = fx_add x3 1) (z : Int) (Z : fx_S) (kz : fx_Sok Z) (bz : -2147483648 ≤ z ∧ z ≤ 2147483647) (pz : s368 S3 v12 x2 v13 z Z) : s368 S x1 x2 x3 z Z := by
  obtain ⟨rfl, p1⟩ := p1
  obtain ⟨r2, f2, p2⟩ := p2
  obtain ⟨rZ, fZ, pz⟩ := pz
  refine ⟨(rZ).trans (((show S3.2 = S2.2 by rw [d3])).trans (r2)), ?_, ?_⟩
  · intro p i hW
    clear e13 e12 c10 b11 e11 c9 c8 c7 c6 b10 c5 b9 b8 e8 c4 b7 e7 c3 c2 e6 e5 e4 c1 b3 e3
    exact ((fZ p i (by omega))).trans (((show S3.1 p i = S2.1 p i by rw [d3]; exact if_neg (by omega))).trans ((f2 p i (by omega))))
  · skip
    intro n j k hn hw8 hj h0 hk k4 hx hw4
    have h4 := e4
    first | rw [fx_mul_eq (by omega) (by omega)] at h4 | skip
    have h5 := e5
    first | rw [fx_add_eq (by omega) (by omega)] at h5 | skip
    have h6 := e6
    first | rw [fx_add_eq (by omega) (by omega)] at h6 | skip
    have t11_3 : S3.1 81 x3 = v10 := by rw [d3]; first | exact if_pos ⟨rfl, by omega⟩ | rfl
    rw [t11_3] at e11
    obtain rfl : v10 = v11 := e11.symm
    have h12 := e12
    first | rw [fx_add_eq (by omega) (by omega)] at h12 | skip
    have h13 := e13
    first | rw [fx_add_eq (by omega) (by omega)] at h13 | skip
    cases j with
    | zero => exact absurd hj (by omega)
    | succ j =>
      have u1 : S.1 67 (301 + 10 * x3) = v7 := by rw [show 301 + 10 * x3 = v6 by omega]; exact e7.symm
      have t := p1 (by omega) (by omega)
      rw [e8] at t
      have ht : S.1 67 (301 + 10 * x3) = (k : Int) ∧ (if (0 ≤ x3 ∧ x3 < S.1 67 2) ∧ S.1 67 (302 + 10 * x3) ≤ S.1 67 0 ∧ (S.1 67 (303 + 10 * x3) = -1 ∨ S.1 67 0 < S.1 67 (303 + 10 * x3)) then (1 : Int) else 0) = 1 := ⟨by omega, by
        split at t
        · rename_i q
          rw [if_pos ⟨by omega, q⟩]
        · omega⟩
      obtain ⟨b1, b2⟩ := p2 (by omega) (by omega) (hw4 x3 h0 (by omega))
      have gF : ∀ p : Int, p ≠ 81 → p ≠ 82 → S3.1 p = S.1 p := fun p h1 h2 => funext fun i => by
        rw [d3]
        exact (if_neg (fun q => h1 q.1)).trans (f2 p i (by omega))
      have g82 : S3.1 82 = (fx_lw (fun j => S.1 67 (306 + 10 * x3 + j)) (S.1 67 (305 + 10 * x3)) 5 0 (S.1 82)).2 := funext fun i => by
        rw [d3]
        first | exact b2 i | exact (if_neg (by omega)).trans (b2 i)
      have g81 : S3.1 81 = fx_se (S.1 81) x3 v10 := funext fun i => by
        rw [d3]
        dsimp only [fx_up, fx_se]
        by_cases hi : i = x3
        · rw [if_pos ⟨rfl, hi⟩, if_pos hi]
        · rw [if_neg (fun q => hi q.2), if_neg hi]
          exact f2 81 i (by omega)
      have q := pz n j k (by rw [gF 67 (by omega) (by omega)]; exact hn) hw8 (by omega) (by omega) hk k4 (by omega) (by rw [gF 67 (by omega) (by omega)]; exact hw4)
      rw [gF 67 (by omega) (by omega), g82, g81, show v13 = x3 + 1 by omega] at q
      unfold fx_lr
      try dsimp only
      rw [if_pos ht, ← b1, if_pos (by omega)]
      unfold fx_adn
      exact ⟨by rw [q.1]; dsimp only; omega, q.2⟩
theorem q368_4 (S : fx_S) (x1 x2 x3 : Int) (hS : fx_Sok S) (g1 : -2147483648 ≤ x1 ∧ x1 ≤ 2147483647) (g2 : -2147483648 ≤ x2 ∧ x2 ≤ 2147483647) (g3 : -2147483648 ≤ x3 ∧ x3 ≤ 2147483647) (v3 : Int) (e3 : v3 = S.1 67 2) (b3 : -2147483648 ≤ v3 ∧ v3 ≤ 2147483647) (c1 : x3 < v3) (v4 : Int) (e4 : v4 = fx_mul 10 x3) (v5 : Int) (e5 : v5 = fx_add 300 v4) (v6 : Int) (e6 : v6 = fx_add v5 1) (c2 : 0 ≤ v6) (c3 : v6 < 8090) (v7 : Int) (e7 : v7 = S.1 67 v6) (b7 : -2147483648 ≤ v7 ∧ v7 ≤ 2147483647) (c4 : v7 = x2) (v8 : Int) (e8 : v8 = S.1 67 0) (b8 : -2147483648 ≤ v8 ∧ v8 ≤ 2147483647) (v9 : Int) (S1 : fx_S) (k1 : fx_Sok S1) (b9 : -2147483648 ≤ v9 ∧ v9 ≤ 2147483647) (p1 : s156 S x3 v8 v9 S1) (c5 : v9 = 0) (v10 : Int) (e10 : v10 = fx_add x3 1) (z : Int) (Z : fx_S) (kz : fx_Sok Z) (bz : -2147483648 ≤ z ∧ z ≤ 2147483647) (pz : s368 S1 x1 x2 v10 z Z) : s368 S x1 x2 x3 z Z := by
  obtain ⟨rfl, p1⟩ := p1
  obtain ⟨rZ, fZ, pz⟩ := pz
  refine ⟨rZ, ?_, ?_⟩
  · intro p i hW
    clear e10 c5 b9 b8 e8 c4 b7 e7 c3 c2 e6 e5 e4 c1 b3 e3
    exact (fZ p i (by omega))
  · skip
    intro n j k hn hw8 hj h0 hk k4 hx hw4
    have h4 := e4
    first | rw [fx_mul_eq (by omega) (by omega)] at h4 | skip
    have h5 := e5
    first | rw [fx_add_eq (by omega) (by omega)] at h5 | skip
    have h6 := e6
    first | rw [fx_add_eq (by omega) (by omega)] at h6 | skip
    have h10 := e10
    first | rw [fx_add_eq (by omega) (by omega)] at h10 | skip
    cases j with
    | zero => exact absurd hj (by omega)
    | succ j =>
      have u1 : S.1 67 (301 + 10 * x3) = v7 := by rw [show 301 + 10 * x3 = v6 by omega]; exact e7.symm
      have t := p1 (by omega) (by omega)
      rw [e8] at t
      have ht : ¬ (S.1 67 (301 + 10 * x3) = (k : Int) ∧ (if (0 ≤ x3 ∧ x3 < S.1 67 2) ∧ S.1 67 (302 + 10 * x3) ≤ S.1 67 0 ∧ (S.1 67 (303 + 10 * x3) = -1 ∨ S.1 67 0 < S.1 67 (303 + 10 * x3)) then (1 : Int) else 0) = 1) := fun q => by
        have q2 := q.2
        split at q2
        · rename_i q3
          rw [if_pos q3.2] at t
          omega
        · omega
      have q := pz n j k hn hw8 (by omega) (by omega) hk k4 (by omega) hw4
      unfold fx_lr
      try dsimp only
      rw [if_neg ht, show x3 + 1 = v10 by omega]
      exact q
theorem q386_0 (S : fx_S) (x1 x2 : Int) (hS : fx_Sok S) (g1 : -2147483648 ≤ x1 ∧ x1 ≤ 2147483647) (g2 : -2147483648 ≤ x2 ∧ x2 ≤ 2147483647) (c1 : 0 ≤ x1) (c2 : x1 < 80) (v2 : Int) (e2 : v2 = S.1 19 x1) (b2 : -2147483648 ≤ v2 ∧ v2 ≤ 2147483647) (c3 : v2 ≤ x2) : s386 S x1 x2 (-1) S := by
  refine ⟨rfl, ?_, ?_⟩
  · intro p i hW
    clear c3 b2 e2 c2 c1
    exact rfl
  · skip
    intro k hk h0 hw hb hr
    skip
    cases k with
    | zero =>
      unfold fx_lw
      exact ⟨rfl, fun i => rfl⟩
    | succ k =>
      unfold fx_lw
      rw [if_pos (by omega)]
      exact ⟨rfl, fun i => rfl⟩
theorem q386_1 (S : fx_S) (x1 x2 : Int) (hS : fx_Sok S) (g1 : -2147483648 ≤ x1 ∧ x1 ≤ 2147483647) (g2 : -2147483648 ≤ x2 ∧ x2 ≤ 2147483647) (c1 : 0 ≤ x1) (c2 : x1 < 80) (v2 : Int) (e2 : v2 = S.1 19 x1) (b2 : -2147483648 ≤ v2 ∧ v2 ≤ 2147483647) (c3 : x2 < v2) (v3 : Int) (e3 : v3 = fx_mul x1 4) (v4 : Int) (e4 : v4 = fx_add v3 x2) (c4 : 0 ≤ v4) (c5 : v4 < 320) (v5 : Int) (e5 : v5 = S.1 20 v4) (b5 : -2147483648 ≤ v5 ∧ v5 ≤ 2147483647) (v6 : Int) (e6 : v6 = S.1 38 0) (b6 : -2147483648 ≤ v6 ∧ v6 ≤ 2147483647) (v7 : Int) (e7 : v7 = fx_sub v6 1) (v8 : Int) (S1 : fx_S) (k1 : fx_Sok S1) (b8 : -2147483648 ≤ v8 ∧ v8 ≤ 2147483647) (p1 : s114 S v5 0 v7 v8 S1) (c6 : v8 = 0) (v9 : Int) (e9 : v9 = fx_add x2 1) (z : Int) (Z : fx_S) (kz : fx_Sok Z) (bz : -2147483648 ≤ z ∧ z ≤ 2147483647) (pz : s386 S1 x1 v9 z Z) : s386 S x1 x2 z Z := by
  obtain ⟨rfl, p1⟩ := p1
  obtain ⟨rZ, fZ, pz⟩ := pz
  refine ⟨rZ, ?_, ?_⟩
  · intro p i hW
    clear e9 c6 b8 e7 b6 e6 b5 e5 c5 c4 e4 e3 c3 b2 e2 c2 c1
    exact (fZ p i (by omega))
  · skip
    intro k hk h0 hw hb hr
    have h3 := e3
    first | rw [fx_mul_eq (by omega) (by omega)] at h3 | skip
    have h4 := e4
    first | rw [fx_add_eq (by omega) (by omega)] at h4 | skip
    have h7 := e7
    first | rw [fx_sub_eq (by omega) (by omega)] at h7 | skip
    have m1 := fx_in01 p1
    have h9 := e9
    first | rw [fx_add_eq (by omega) (by omega)] at h9 | skip
    have q := hw x2 h0 (by omega)
    rw [show 4 * x1 + x2 = v4 by omega, ← e5] at q
    first | have m1 := fx_in01 p1 | skip
    exfalso
    omega
theorem q386_2 (S : fx_S) (x1 x2 : Int) (hS : fx_Sok S) (g1 : -2147483648 ≤ x1 ∧ x1 ≤ 2147483647) (g2 : -2147483648 ≤ x2 ∧ x2 ≤ 2147483647) (c1 : 0 ≤ x1) (c2 : x1 < 80) (v2 : Int) (e2 : v2 = S.1 19 x1) (b2 : -2147483648 ≤ v2 ∧ v2 ≤ 2147483647) (c3 : x2 < v2) (v3 : Int) (e3 : v3 = fx_mul x1 4) (v4 : Int) (e4 : v4 = fx_add v3 x2) (c4 : 0 ≤ v4) (c5 : v4 < 320) (v5 : Int) (e5 : v5 = S.1 20 v4) (b5 : -2147483648 ≤ v5 ∧ v5 ≤ 2147483647) (v6 : Int) (e6 : v6 = S.1 38 0) (b6 : -2147483648 ≤ v6 ∧ v6 ≤ 2147483647) (v7 : Int) (e7 : v7 = fx_sub v6 1) (v8 : Int) (S1 : fx_S) (k1 : fx_Sok S1) (b8 : -2147483648 ≤ v8 ∧ v8 ≤ 2147483647) (p1 : s114 S v5 0 v7 v8 S1) (c6 : v8 ≠ 0) (v9 : Int) (S2 : fx_S) (k2 : fx_Sok S2) (b9 : -2147483648 ≤ v9 ∧ v9 ≤ 2147483647) (p2 : s398 S1 v5 v9 S2) (c7 : v9 = 0) (v10 : Int) (e10 : v10 = fx_add x2 1) (z : Int) (Z : fx_S) (kz : fx_Sok Z) (bz : -2147483648 ≤ z ∧ z ≤ 2147483647) (pz : s386 S2 x1 v10 z Z) : s386 S x1 x2 z Z := by
  obtain ⟨rfl, p1⟩ := p1
  obtain ⟨r2, f2, p2⟩ := p2
  obtain ⟨rZ, fZ, pz⟩ := pz
  refine ⟨(rZ).trans (r2), ?_, ?_⟩
  · intro p i hW
    clear e10 c7 b9 c6 b8 e7 b6 e6 b5 e5 c5 c4 e4 e3 c3 b2 e2 c2 c1
    exact ((fZ p i (by omega))).trans ((f2 p i (by omega)))
  · skip
    intro k hk h0 hw hb hr
    have h3 := e3
    first | rw [fx_mul_eq (by omega) (by omega)] at h3 | skip
    have h4 := e4
    first | rw [fx_add_eq (by omega) (by omega)] at h4 | skip
    have h7 := e7
    first | rw [fx_sub_eq (by omega) (by omega)] at h7 | skip
    have m1 := fx_in01 p1
    have h10 := e10
    first | rw [fx_add_eq (by omega) (by omega)] at h10 | skip
    have q := hw x2 h0 (by omega)
    rw [show 4 * x1 + x2 = v4 by omega, ← e5] at q
    first | have m1 := fx_in01 p1 | skip
    rcases p2 with ⟨b1, b2, b3⟩ | ⟨b1, b2, b3⟩
    · obtain rfl := b3.symm
      have r0 := hr v5 q.1 q.2
      cases k with
      | zero => exact absurd hk (by omega)
      | succ k =>
        have t := pz k (by omega) (by omega) hw hb hr
        unfold fx_lw
        try dsimp only
        rw [if_neg (by omega), show 4 * x1 + x2 = v4 by omega, ← e5, if_pos (by omega), show x2 + 1 = v10 by omega]
        exact t
    · omega
theorem q386_3 (S : fx_S) (x1 x2 : Int) (hS : fx_Sok S) (g1 : -2147483648 ≤ x1 ∧ x1 ≤ 2147483647) (g2 : -2147483648 ≤ x2 ∧ x2 ≤ 2147483647) (c1 : 0 ≤ x1) (c2 : x1 < 80) (v2 : Int) (e2 : v2 = S.1 19 x1) (b2 : -2147483648 ≤ v2 ∧ v2 ≤ 2147483647) (c3 : x2 < v2) (v3 : Int) (e3 : v3 = fx_mul x1 4) (v4 : Int) (e4 : v4 = fx_add v3 x2) (c4 : 0 ≤ v4) (c5 : v4 < 320) (v5 : Int) (e5 : v5 = S.1 20 v4) (b5 : -2147483648 ≤ v5 ∧ v5 ≤ 2147483647) (v6 : Int) (e6 : v6 = S.1 38 0) (b6 : -2147483648 ≤ v6 ∧ v6 ≤ 2147483647) (v7 : Int) (e7 : v7 = fx_sub v6 1) (v8 : Int) (S1 : fx_S) (k1 : fx_Sok S1) (b8 : -2147483648 ≤ v8 ∧ v8 ≤ 2147483647) (p1 : s114 S v5 0 v7 v8 S1) (c6 : v8 ≠ 0) (v9 : Int) (S2 : fx_S) (k2 : fx_Sok S2) (b9 : -2147483648 ≤ v9 ∧ v9 ≤ 2147483647) (p2 : s398 S1 v5 v9 S2) (c7 : v9 ≠ 0) : s386 S x1 x2 v5 S2 := by
  obtain ⟨rfl, p1⟩ := p1
  obtain ⟨r2, f2, p2⟩ := p2
  refine ⟨r2, ?_, ?_⟩
  · intro p i hW
    clear c7 b9 c6 b8 e7 b6 e6 b5 e5 c5 c4 e4 e3 c3 b2 e2 c2 c1
    exact (f2 p i (by omega))
  · skip
    intro k hk h0 hw hb hr
    have h3 := e3
    first | rw [fx_mul_eq (by omega) (by omega)] at h3 | skip
    have h4 := e4
    first | rw [fx_add_eq (by omega) (by omega)] at h4 | skip
    have h7 := e7
    first | rw [fx_sub_eq (by omega) (by omega)] at h7 | skip
    have m1 := fx_in01 p1
    have q := hw x2 h0 (by omega)
    rw [show 4 * x1 + x2 = v4 by omega, ← e5] at q
    first | have m1 := fx_in01 p1 | skip
    rcases p2 with ⟨b1, b2, b3⟩ | ⟨b1, b2, b3⟩
    · omega
    · cases k with
      | zero => exact absurd hk (by omega)
      | succ k =>
        unfold fx_lw
        try dsimp only
        rw [if_neg (by omega), show 4 * x1 + x2 = v4 by omega, ← e5, if_neg (by omega)]
        exact ⟨rfl, b3⟩
theorem q387_0 (S : fx_S) (x1 : Int) (hS : fx_Sok S) (g1 : -2147483648 ≤ x1 ∧ x1 ≤ 2147483647) (v1 : Int) (e1 : v1 = fx_mul 10 x1) (v2 : Int) (e2 : v2 = fx_add 300 v1) (v3 : Int) (e3 : v3 = fx_add v2 5) (z : Int) (Z : fx_S) (kz : fx_Sok Z) (bz : -2147483648 ≤ z ∧ z ≤ 2147483647) (pz : s399 S v3 0 z Z) : s387 S x1 z Z := by
  obtain ⟨rZ, fZ, pz⟩ := pz
  refine ⟨rZ, ?_, ?_⟩
  · intro p i hW
    clear e3 e2 e1
    exact (fZ p i (by omega))
  · skip
    intro h0 h1 hw4
    have h1 := e1
    first | rw [fx_mul_eq (by omega) (by omega)] at h1 | skip
    have h2 := e2
    first | rw [fx_add_eq (by omega) (by omega)] at h2 | skip
    have h3 := e3
    first | rw [fx_add_eq (by omega) (by omega)] at h3 | skip
    have hv : v3 = 305 + 10 * x1 := by omega
    rw [hv] at pz
    have q := pz 5 (by omega) (by omega) hw4
    rw [show (fun j : Int => S.1 67 (305 + 10 * x1 + 1 + j)) = (fun j : Int => S.1 67 (306 + 10 * x1 + j)) from funext fun j => by rw [show 305 + 10 * x1 + 1 + j = 306 + 10 * x1 + j by omega]] at q
    exact q
theorem q398_0 (S : fx_S) (x1 : Int) (hS : fx_Sok S) (g1 : -2147483648 ≤ x1 ∧ x1 ≤ 2147483647) (c1 : 0 ≤ x1) (c2 : x1 < 12) (v1 : Int) (e1 : v1 = S.1 43 x1) (b1 : -2147483648 ≤ v1 ∧ v1 ≤ 2147483647) (c3 : 0 < v1) (c4 : 0 ≤ x1) (c5 : x1 < 12) (v2 : Int) (e2 : v2 = S.1 43 x1) (b2 : -2147483648 ≤ v2 ∧ v2 ≤ 2147483647) (v3 : Int) (e3 : v3 = fx_sub v2 1) (c6 : 0 ≤ x1) (c7 : x1 < 12) (S1 : fx_S) (d1 : S1 = (fx_up S.1 43 x1 v3, S.2)) : s398 S x1 1 S1 := by
  refine ⟨(show S1.2 = S.2 by rw [d1]), ?_, ?_⟩
  · intro p i hW
    clear c7 c6 e3 b2 e2 c5 c4 c3 b1 e1 c2 c1
    exact (show S1.1 p i = S.1 p i by rw [d1]; exact if_neg (by omega))
  · skip
    obtain rfl : v1 = v2 := by rw [e2, e1]
    have h3 := e3
    first | rw [fx_sub_eq (by omega) (by omega)] at h3 | skip
    refine .inr ⟨by omega, rfl, fun i => ?_⟩
    rw [d1]
    dsimp only [fx_up, fx_se]
    by_cases hi : i = x1
    · rw [if_pos ⟨rfl, hi⟩, if_pos hi, ← e1]
      exact e3
    · rw [if_neg (fun q => hi q.2), if_neg hi]
theorem q398_1 (S : fx_S) (x1 : Int) (hS : fx_Sok S) (g1 : -2147483648 ≤ x1 ∧ x1 ≤ 2147483647) (c1 : 0 ≤ x1) (c2 : x1 < 12) (v1 : Int) (e1 : v1 = S.1 43 x1) (b1 : -2147483648 ≤ v1 ∧ v1 ≤ 2147483647) (c3 : v1 ≤ 0) : s398 S x1 0 S := by
  refine ⟨rfl, ?_, ?_⟩
  · intro p i hW
    clear c3 b1 e1 c2 c1
    exact rfl
  · skip
    exact .inl ⟨by omega, rfl, rfl⟩
theorem q399_0 (S : fx_S) (x2 x3 : Int) (hS : fx_Sok S) (g2 : -2147483648 ≤ x2 ∧ x2 ≤ 2147483647) (g3 : -2147483648 ≤ x3 ∧ x3 ≤ 2147483647) (c1 : 0 ≤ x2) (c2 : x2 < 8090) (v2 : Int) (e2 : v2 = S.1 67 x2) (b2 : -2147483648 ≤ v2 ∧ v2 ≤ 2147483647) (c3 : v2 ≤ x3) : s399 S x2 x3 (-1) S := by
  refine ⟨rfl, ?_, ?_⟩
  · intro p i hW
    clear c3 b2 e2 c2 c1
    exact rfl
  · skip
    intro k hk h0 hw4
    skip
    cases k with
    | zero =>
      unfold fx_lw
      exact ⟨rfl, fun i => rfl⟩
    | succ k =>
      unfold fx_lw
      rw [if_pos (by omega)]
      exact ⟨rfl, fun i => rfl⟩
theorem q399_1 (S : fx_S) (x2 x3 : Int) (hS : fx_Sok S) (g2 : -2147483648 ≤ x2 ∧ x2 ≤ 2147483647) (g3 : -2147483648 ≤ x3 ∧ x3 ≤ 2147483647) (c1 : 0 ≤ x2) (c2 : x2 < 8090) (v2 : Int) (e2 : v2 = S.1 67 x2) (b2 : -2147483648 ≤ v2 ∧ v2 ≤ 2147483647) (c3 : x3 < v2) (v3 : Int) (e3 : v3 = fx_add x2 1) (v4 : Int) (e4 : v4 = fx_add v3 x3) (c4 : 0 ≤ v4) (c5 : v4 < 8090) (v5 : Int) (e5 : v5 = S.1 67 v4) (b5 : -2147483648 ≤ v5 ∧ v5 ≤ 2147483647) (c6 : 0 ≤ v5) (c7 : v5 < 12) (v6 : Int) (e6 : v6 = S.1 82 v5) (b6 : -2147483648 ≤ v6 ∧ v6 ≤ 2147483647) (c8 : v6 ≠ 0) (c9 : 0 ≤ v5) (c10 : v5 < 12) (v7 : Int) (e7 : v7 = S.1 82 v5) (b7 : -2147483648 ≤ v7 ∧ v7 ≤ 2147483647) (v8 : Int) (e8 : v8 = fx_sub v7 1) (c11 : 0 ≤ v5) (c12 : v5 < 12) (S1 : fx_S) (d1 : S1 = (fx_up S.1 82 v5 v8, S.2)) : s399 S x2 x3 v5 S1 := by
  refine ⟨(show S1.2 = S.2 by rw [d1]), ?_, ?_⟩
  · intro p i hW
    clear c12 c11 e8 b7 e7 c10 c9 c8 b6 e6 c7 c6 b5 e5 c5 c4 e4 e3 c3 b2 e2 c2 c1
    exact (show S1.1 p i = S.1 p i by rw [d1]; exact if_neg (by omega))
  · skip
    intro k hk h0 hw4
    have h3 := e3
    first | rw [fx_add_eq (by omega) (by omega)] at h3 | skip
    have h4 := e4
    first | rw [fx_add_eq (by omega) (by omega)] at h4 | skip
    obtain rfl : v6 = v7 := by rw [e7, e6]
    have h8 := e8
    first | rw [fx_sub_eq (by omega) (by omega)] at h8 | skip
    cases k with
    | zero => exact absurd hk (by omega)
    | succ k =>
      unfold fx_lw
      try dsimp only
      rw [if_neg (by omega), show x2 + 1 + x3 = v4 by omega, ← e5, if_neg (by omega)]
      refine ⟨rfl, fun i => ?_⟩
      rw [d1]
      dsimp only [fx_up, fx_se]
      by_cases hi : i = v5
      · rw [if_pos ⟨rfl, hi⟩, if_pos hi, ← e6]
        exact e8
      · rw [if_neg (fun q => hi q.2), if_neg hi]
theorem q399_2 (S : fx_S) (x2 x3 : Int) (hS : fx_Sok S) (g2 : -2147483648 ≤ x2 ∧ x2 ≤ 2147483647) (g3 : -2147483648 ≤ x3 ∧ x3 ≤ 2147483647) (c1 : 0 ≤ x2) (c2 : x2 < 8090) (v2 : Int) (e2 : v2 = S.1 67 x2) (b2 : -2147483648 ≤ v2 ∧ v2 ≤ 2147483647) (c3 : x3 < v2) (v3 : Int) (e3 : v3 = fx_add x2 1) (v4 : Int) (e4 : v4 = fx_add v3 x3) (c4 : 0 ≤ v4) (c5 : v4 < 8090) (v5 : Int) (e5 : v5 = S.1 67 v4) (b5 : -2147483648 ≤ v5 ∧ v5 ≤ 2147483647) (c6 : 0 ≤ v5) (c7 : v5 < 12) (v6 : Int) (e6 : v6 = S.1 82 v5) (b6 : -2147483648 ≤ v6 ∧ v6 ≤ 2147483647) (c8 : v6 = 0) (v7 : Int) (e7 : v7 = fx_add x3 1) (z : Int) (Z : fx_S) (kz : fx_Sok Z) (bz : -2147483648 ≤ z ∧ z ≤ 2147483647) (pz : s399 S x2 v7 z Z) : s399 S x2 x3 z Z := by
  obtain ⟨rZ, fZ, pz⟩ := pz
  refine ⟨rZ, ?_, ?_⟩
  · intro p i hW
    clear e7 c8 b6 e6 c7 c6 b5 e5 c5 c4 e4 e3 c3 b2 e2 c2 c1
    exact (fZ p i (by omega))
  · skip
    intro k hk h0 hw4
    have h3 := e3
    first | rw [fx_add_eq (by omega) (by omega)] at h3 | skip
    have h4 := e4
    first | rw [fx_add_eq (by omega) (by omega)] at h4 | skip
    have h7 := e7
    first | rw [fx_add_eq (by omega) (by omega)] at h7 | skip
    cases k with
    | zero => exact absurd hk (by omega)
    | succ k =>
      have t := pz k (by omega) (by omega) hw4
      unfold fx_lw
      try dsimp only
      rw [if_neg (by omega), show x2 + 1 + x3 = v4 by omega, ← e5, if_pos (by omega), show x3 + 1 = v7 by omega]
      exact t
