/-! FX: what is to be shown of the entries -/
theorem q275_1 (S : fx_S) (x1 x2 : Int) (hS : fx_Sok S) (g1 : -2147483648 ≤ x1 ∧ x1 ≤ 2147483647) (g2 : -2147483648 ≤ x2 ∧ x2 ≤ 2147483647) (v2 : Int) (e2 : v2 = S.1 67 5) (b2 : -2147483648 ≤ v2 ∧ v2 ≤ 2147483647) (c1 : x2 < v2) (v3 : Int) (e3 : v3 = fx_mul 4 x2) (v4 : Int) (e4 : v4 = fx_add 7100 v3) (c2 : 0 ≤ v4) (c3 : v4 < 8090) (v5 : Int) (e5 : v5 = S.1 67 v4) (b5 : -2147483648 ≤ v5 ∧ v5 ≤ 2147483647) (c4 : 0 ≤ x2) (c5 : x2 < 12) (S1 : fx_S) (d1 : S1 = (fx_up S.1 82 x2 v5, S.2)) (v6 : Int) (e6 : v6 = fx_add x2 1) (z : Int) (Z : fx_S) (kz : fx_Sok Z) (bz : -2147483648 ≤ z ∧ z ≤ 2147483647) (pz : s275 S1 x1 v6 z Z) : s275 S x1 x2 z Z := by
  obtain ⟨rZ, fZ, pz⟩ := pz
  refine ⟨(rZ).trans ((show S1.2 = S.2 by rw [d1])), ?_, ?_⟩
  · intro p i hW
    clear e6 c5 c4 b5 e5 c3 c2 e4 e3 c1 b2 e2
    exact ((fZ p i (by omega))).trans ((show S1.1 p i = S.1 p i by rw [d1]; exact if_neg (by omega)))
  · skip
    intro n hn hw8 hx h0 hw5 hw4
    have h3 := e3
    first | rw [fx_mul_eq (by omega) (by omega)] at h3 | skip
    have h4 := e4
    first | rw [fx_add_eq (by omega) (by omega)] at h4 | skip
    have h6 := e6
    first | rw [fx_add_eq (by omega) (by omega)] at h6 | skip
    have gF : ∀ p : Int, p ≠ 82 → S1.1 p = S.1 p := fun p h1 => funext fun i => by
      rw [d1]
      exact if_neg (fun q => h1 q.1)
    have q := pz n (by rw [gF 67 (by omega)]; exact hn) hw8 hx (by omega) (by rw [gF 67 (by omega)]; exact hw5) (by rw [gF 67 (by omega)]; exact hw4)
    rw [gF 67 (by omega), gF 81 (by omega)] at q
    rw [show (fun h : Int => if v6 ≤ h ∧ h < S.1 67 5 then S.1 67 (7100 + 4 * h) else S1.1 82 h) = (fun h : Int => if x2 ≤ h ∧ h < S.1 67 5 then S.1 67 (7100 + 4 * h) else S.1 82 h) from funext fun h => by
      rw [d1]
      dsimp only [fx_up]
      by_cases hi : h = x2
      · rw [if_neg (by omega), if_pos ⟨rfl, hi⟩, if_pos (by omega), hi, show 7100 + 4 * x2 = v4 by omega]
        exact e5
      · by_cases h2 : x2 ≤ h ∧ h < S.1 67 5
        · rw [if_pos (by omega), if_pos h2]
        · rw [if_neg (by omega), if_neg (fun q => hi q.2), if_neg h2]] at q
    exact q
theorem q276_0 (S : fx_S) (hS : fx_Sok S) (v0 : Int) (S1 : fx_S) (k1 : fx_Sok S1) (b0 : v0 = 0) (p1 : s278 S 0 v0 S1) (z : Int) (Z : fx_S) (kz : fx_Sok Z) (bz : -2147483648 ≤ z ∧ z ≤ 2147483647) (pz : s329 S1 0 0 z Z) : s276 S  z Z := by
  obtain ⟨r1, f1, p1⟩ := p1
  obtain ⟨rZ, fZ, pz⟩ := pz
  refine ⟨(rZ).trans (r1), ?_, ?_⟩
  · intro p i hW
    clear b0
    exact ((fZ p i (by omega))).trans ((f1 p i (by omega)))
  · skip
    intro n hn hw8
    have gf : ∀ p i : Int, p ≠ 64 → S1.1 p i = S.1 p i := fun p i hp => f1 p i (by omega)
    have g13 := gf 13 0 (by omega)
    obtain ⟨b0, b1⟩ := pz n (by omega) (by omega) (by omega) (by omega)
    have gX : (fun q : Int => if (0 ≤ q ∧ q < S1.1 13 0) ∧ S1.1 16 q ≤ S1.1 1 0 ∧ S1.1 1 0 < S1.1 17 q then (1 : Int) else 0) = (fun q : Int => if (0 ≤ q ∧ q < S.1 13 0) ∧ S.1 16 q ≤ S.1 1 0 ∧ S.1 1 0 < S.1 17 q then 1 else 0) := funext fun q => by rw [gf 13 0 (by omega), gf 16 q (by omega), gf 17 q (by omega), gf 1 0 (by omega)]
    rw [gX] at b0
    refine ⟨by omega, fun i => ?_⟩
    show _ = if 0 ≤ i ∧ i < 80 then (if (0 ≤ i ∧ i < S.1 13 0) ∧ S.1 16 i ≤ S.1 1 0 ∧ S.1 1 0 < S.1 17 i then 1 else 0) else S.1 64 i
    rw [b1 i, gf 13 0 (by omega), gf 16 i (by omega), gf 17 i (by omega), gf 1 0 (by omega)]
    by_cases hi : (0 ≤ i ∧ i < S.1 13 0) ∧ S.1 16 i ≤ S.1 1 0 ∧ S.1 1 0 < S.1 17 i
    · rw [if_pos ⟨by omega, hi⟩, if_pos (by omega), if_pos hi]
    · rw [if_neg (fun q => hi q.2), p1 i, if_neg hi]
      split
      · rfl
      · rfl
theorem q277_0 (S : fx_S) (x1 x2 : Int) (hS : fx_Sok S) (g1 : -2147483648 ≤ x1 ∧ x1 ≤ 2147483647) (g2 : -2147483648 ≤ x2 ∧ x2 ≤ 2147483647) (c1 : 80 ≤ x2) : s277 S x1 x2 x1 S := by
  refine ⟨rfl, ?_, ?_⟩
  · intro p i hW
    clear c1
    exact rfl
  · skip
    intro n k hn hc h0 hk hg
    skip
    cases k with
    | zero =>
      unfold fx_mo
      exact ⟨rfl, fun i => rfl, hc, fun i => rfl⟩
    | succ k => exact absurd hk (by omega)
theorem q277_1 (S : fx_S) (x1 x2 : Int) (hS : fx_Sok S) (g1 : -2147483648 ≤ x1 ∧ x1 ≤ 2147483647) (g2 : -2147483648 ≤ x2 ∧ x2 ≤ 2147483647) (c1 : x2 < 80) (v2 : Int) (e2 : v2 = fx_sub x1 1) (v3 : Int) (S1 : fx_S) (k1 : fx_Sok S1) (b3 : -2147483648 ≤ v3 ∧ v3 ≤ 2147483647) (p1 : s330 S v2 v3 S1) (c2 : v3 ≠ (-1)) (c3 : 0 ≤ v3) (c4 : v3 < 80) (S2 : fx_S) (d2 : S2 = (fx_up S1.1 64 v3 0, S1.2)) (v4 : Int) (e4 : v4 = S2.1 0 10) (b4 : -2147483648 ≤ v4 ∧ v4 ≤ 2147483647) (c5 : 0 ≤ v4) (c6 : v4 < 80) (S3 : fx_S) (d3 : S3 = (fx_up S2.1 65 v4 v3, S2.2)) (v5 : Int) (e5 : v5 = S3.1 0 10) (b5 : -2147483648 ≤ v5 ∧ v5 ≤ 2147483647) (v6 : Int) (e6 : v6 = fx_add v5 1) (S4 : fx_S) (d4 : S4 = (fx_up S3.1 0 10 v6, S3.2)) (v7 : Int) (e7 : v7 = fx_add x1 (-1)) (v8 : Int) (e8 : v8 = fx_add x2 1) (z : Int) (Z : fx_S) (kz : fx_Sok Z) (bz : -2147483648 ≤ z ∧ z ≤ 2147483647) (pz : s277 S4 v7 v8 z Z) : s277 S x1 x2 z Z := by
  obtain ⟨rfl, p1⟩ := p1
  obtain ⟨rZ, fZ, pz⟩ := pz
  refine ⟨(rZ).trans (((show S4.2 = S3.2 by rw [d4])).trans (((show S3.2 = S2.2 by rw [d3])).trans ((show S2.2 = S.2 by rw [d2])))), ?_, ?_⟩
  · intro p i hW
    clear e8 e7 e6 b5 e5 c6 c5 b4 e4 c4 c3 c2 b3 e2 c1
    exact ((fZ p i (by omega))).trans (((show S4.1 p i = S3.1 p i by rw [d4]; exact if_neg (by omega))).trans (((show S3.1 p i = S2.1 p i by rw [d3]; exact if_neg (by omega))).trans ((show S2.1 p i = S.1 p i by rw [d2]; exact if_neg (by omega)))))
  · skip
    intro n k hn hc h0 hk hg
    have h2 := e2
    first | rw [fx_sub_eq (by omega) (by omega)] at h2 | skip
    have t4_2 : S2.1 0 10 = S.1 0 10 := by rw [d2]; first | exact if_neg (by omega) | rfl
    rw [t4_2] at e4
    have t5_3 : S3.1 0 10 = S2.1 0 10 := by rw [d3]; first | exact if_neg (by omega) | rfl
    rw [t5_3] at e5
    have t5_2 : S2.1 0 10 = S.1 0 10 := by rw [d2]; first | exact if_neg (by omega) | rfl
    rw [t5_2] at e5
    obtain rfl : v4 = v5 := by rw [e5, e4]
    have h6 := e6
    first | rw [fx_add_eq (by omega) (by omega)] at h6 | skip
    have h7 := e7
    first | rw [fx_add_eq (by omega) (by omega)] at h7 | skip
    have h8 := e8
    first | rw [fx_add_eq (by omega) (by omega)] at h8 | skip
    have q := p1 n hn
    rw [h2] at q
    cases k with
    | zero => exact absurd hk (by omega)
    | succ k =>
      unfold fx_mo
      rw [if_neg (by omega), ← q]
      have g64 : S4.1 64 = fx_se (S.1 64) v3 0 := funext fun i => by
        subst d4; subst d3; subst d2
        dsimp only [fx_up, fx_se]
        by_cases hi : i = v3
        all_goals repeat (first | rw [if_pos (by omega)] | rw [if_neg (by omega)])
      have g65 : S4.1 65 = fx_se (S.1 65) x2 v3 := funext fun i => by
        subst d4; subst d3; subst d2
        dsimp only [fx_up, fx_se]
        by_cases hi : i = x2
        all_goals repeat (first | rw [if_pos (by omega)] | rw [if_neg (by omega)])
      have g18 : S4.1 18 = S.1 18 := funext fun i => by
        subst d4; subst d3; subst d2
        dsimp only [fx_up]
        repeat (first | rw [if_pos (by omega)] | rw [if_neg (by omega)])
      have g13 : S4.1 13 0 = S.1 13 0 := by
        subst d4; subst d3; subst d2
        rfl
      have g10 : S4.1 0 10 = x2 + 1 := by
        rw [d4]
        show v6 = _
        omega
      have t := pz n k (by rw [g13]; exact hn) (by rw [g10]; omega) (by omega) (by omega) (by omega)
      rw [g64, g65, g18, show v8 = x2 + 1 by omega, show v7 = x1 - 1 by omega] at t
      exact t
theorem q277_2 (S : fx_S) (x1 x2 : Int) (hS : fx_Sok S) (g1 : -2147483648 ≤ x1 ∧ x1 ≤ 2147483647) (g2 : -2147483648 ≤ x2 ∧ x2 ≤ 2147483647) (c1 : x2 < 80) (v2 : Int) (e2 : v2 = fx_sub x1 1) (v3 : Int) (S1 : fx_S) (k1 : fx_Sok S1) (b3 : -2147483648 ≤ v3 ∧ v3 ≤ 2147483647) (p1 : s330 S v2 v3 S1) (c2 : v3 = (-1)) : s277 S x1 x2 x1 S1 := by
  obtain ⟨rfl, p1⟩ := p1
  refine ⟨rfl, ?_, ?_⟩
  · intro p i hW
    clear c2 b3 e2 c1
    exact rfl
  · skip
    intro n k hn hc h0 hk hg
    have h2 := e2
    first | rw [fx_sub_eq (by omega) (by omega)] at h2 | skip
    have q := p1 n hn
    rw [h2] at q
    cases k with
    | zero => exact absurd hk (by omega)
    | succ k =>
      unfold fx_mo
      rw [if_pos (by omega)]
      exact ⟨rfl, fun i => rfl, hc, fun i => rfl⟩
theorem q278_0 (S : fx_S) (x1 : Int) (hS : fx_Sok S) (g1 : -2147483648 ≤ x1 ∧ x1 ≤ 2147483647) (z : Int) (Z : fx_S) (kz : fx_Sok Z) (bz : z = 0) (pz : s331 S x1 0 80 z Z) : s278 S x1 z Z := by
  obtain ⟨rZ, fZ, pz⟩ := pz
  refine ⟨rZ, ?_, ?_⟩
  · intro p i hW
    exact (fZ p i (by omega))
  · skip
    intro i
    exact pz (by omega) i
theorem q279_0 (S : fx_S) (x1 x2 : Int) (hS : fx_Sok S) (g1 : -2147483648 ≤ x1 ∧ x1 ≤ 2147483647) (g2 : -2147483648 ≤ x2 ∧ x2 ≤ 2147483647) (c1 : 80 ≤ x2) : s279 S x1 x2 x1 S := by
  refine ⟨rfl, ?_, ?_⟩
  · intro p i hW
    clear c1
    exact rfl
  · skip
    intro n k hn hw8 hk h0 hx
    cases k with
    | zero =>
      unfold fx_few
      exact ⟨rfl, fun i => rfl⟩
    | succ k => exact absurd hk (by omega)
theorem q279_1 (S : fx_S) (x1 x2 : Int) (hS : fx_Sok S) (g1 : -2147483648 ≤ x1 ∧ x1 ≤ 2147483647) (g2 : -2147483648 ≤ x2 ∧ x2 ≤ 2147483647) (c1 : x2 < 80) (v2 : Int) (S1 : fx_S) (k1 : fx_Sok S1) (b2 : -2147483648 ≤ v2 ∧ v2 ≤ 2147483647) (p1 : s332 S x1 v2 S1) (c2 : v2 ≠ 0) (v3 : Int) (e3 : v3 = fx_add x1 v2) (v4 : Int) (e4 : v4 = fx_add x2 1) (z : Int) (Z : fx_S) (kz : fx_Sok Z) (bz : -2147483648 ≤ z ∧ z ≤ 2147483647) (pz : s279 S1 v3 v4 z Z) : s279 S x1 x2 z Z := by
  obtain ⟨r1, f1, p1⟩ := p1
  obtain ⟨rZ, fZ, pz⟩ := pz
  refine ⟨(rZ).trans (r1), ?_, ?_⟩
  · intro p i hW
    clear e4 e3 c2 b2 c1
    exact ((fZ p i (by omega))).trans ((f1 p i (by omega)))
  · skip
    intro n k hn hw8 hk h0 hx
    have h3 := e3
    first | rw [fx_add_eq (by omega) (by omega)] at h3 | skip
    have h4 := e4
    first | rw [fx_add_eq (by omega) (by omega)] at h4 | skip
    obtain ⟨b0, b1⟩ := p1 n hn
    have hr := fx_wi_rng (o := S.1 18) (T := (fun q : Int => if (0 ≤ q ∧ q < S.1 13 0) ∧ S.1 16 q ≤ S.1 1 0 ∧ S.1 1 0 < S.1 17 q then 1 else 0)) (g := x1) n 0 (S.1 64)
    have h3 : v3 = x1 + v2 := by rw [e3]; exact fx_add_eq (by omega) (by omega)
    have gF : ∀ p : Int, p ≠ 64 → S1.1 p = S.1 p := fun p h1 => funext fun i => f1 p i (by omega)
    cases k with
    | zero => exact absurd hk (by omega)
    | succ k =>
      have q := pz n k (by rw [gF 13 (by omega)]; exact hn) hw8 (by omega) (by omega) (by omega)
      rw [gF 13 (by omega), gF 18 (by omega), gF 16 (by omega), gF 17 (by omega), gF 1 (by omega), funext b1, h3, b0] at q
      unfold fx_few
      rw [if_neg (by omega)]
      exact q
theorem q279_2 (S : fx_S) (x1 x2 : Int) (hS : fx_Sok S) (g1 : -2147483648 ≤ x1 ∧ x1 ≤ 2147483647) (g2 : -2147483648 ≤ x2 ∧ x2 ≤ 2147483647) (c1 : x2 < 80) (v2 : Int) (S1 : fx_S) (k1 : fx_Sok S1) (b2 : -2147483648 ≤ v2 ∧ v2 ≤ 2147483647) (p1 : s332 S x1 v2 S1) (c2 : v2 = 0) : s279 S x1 x2 x1 S1 := by
  obtain ⟨r1, f1, p1⟩ := p1
  refine ⟨r1, ?_, ?_⟩
  · intro p i hW
    clear c2 b2 c1
    exact (f1 p i (by omega))
  · skip
    intro n k hn hw8 hk h0 hx
    obtain ⟨b0, b1⟩ := p1 n hn
    cases k with
    | zero => exact absurd hk (by omega)
    | succ k =>
      unfold fx_few
      rw [if_pos (by omega)]
      exact ⟨rfl, b1⟩
theorem q280_0 (S : fx_S) (x1 : Int) (hS : fx_Sok S) (g1 : -2147483648 ≤ x1 ∧ x1 ≤ 2147483647) (c1 : 80 ≤ x1) (z : Int) (Z : fx_S) (kz : fx_Sok Z) (bz : z = 0) (pz : s333 S 1 z Z) : s280 S x1 z Z := by
  obtain ⟨rZ, fZ, pz⟩ := pz
  refine ⟨rZ, ?_, ?_⟩
  · intro p i hW
    clear c1
    exact (fZ p i (by omega))
  · skip
    intro n hn hw8 hw29 h0 ha
    have cz : ∀ (k : Nat) (q : Int), 0 ≤ q → q + k ≤ 80 → fx_cnt (S.1 83) k q = 0 := by
      intro k
      induction k with
      | zero => intro q _ _; rfl
      | succ k ih =>
        intro q q0 q1
        unfold fx_cnt
        rw [ih (q + 1) (by omega) (by omega), ha q q0 (by omega)]
        rfl
    rcases pz n hn hw8 ⟨by omega, by omega, by rw [cz n 0 (by omega) (by omega)]; exact hw29, fun i i0 i1 => .inl (ha i i0 (by omega))⟩ with ⟨b1, b2⟩ | ⟨b1, b2⟩
    · omega
    · have t := b2 80 (by omega)
      rw [hw29] at t
      rw [show (fun i : Int => if x1 ≤ i ∧ i < 80 then 0 else S.1 83 i) = S.1 83 from funext fun i => if_neg (by omega)]
      exact t
theorem q280_1 (S : fx_S) (x1 : Int) (hS : fx_Sok S) (g1 : -2147483648 ≤ x1 ∧ x1 ≤ 2147483647) (c1 : x1 < 80) (c2 : 0 ≤ x1) (c3 : x1 < 80) (S1 : fx_S) (d1 : S1 = (fx_up S.1 83 x1 0, S.2)) (v1 : Int) (e1 : v1 = fx_add x1 1) (z : Int) (Z : fx_S) (kz : fx_Sok Z) (bz : z = 0) (pz : s280 S1 v1 z Z) : s280 S x1 z Z := by
  obtain ⟨rZ, fZ, pz⟩ := pz
  refine ⟨(rZ).trans ((show S1.2 = S.2 by rw [d1])), ?_, ?_⟩
  · intro p i hW
    clear e1 c3 c2 c1
    exact ((fZ p i (by omega))).trans ((show S1.1 p i = S.1 p i by rw [d1]; exact if_neg (by omega)))
  · skip
    intro n hn hw8 hw29 h0 ha
    have h1 := e1
    first | rw [fx_add_eq (by omega) (by omega)] at h1 | skip
    have gF : ∀ p : Int, p ≠ 83 → S1.1 p = S.1 p := fun p h1 => funext fun i => by
      rw [d1]
      exact if_neg (fun q => h1 q.1)
    have q := pz n (by rw [gF 67 (by omega)]; exact hn) hw8 (by rw [gF 66 (by omega)]; exact hw29) (by omega) (fun i i0 i1 => by
      rw [d1]
      dsimp only [fx_up]
      by_cases hi : i = x1
      · rw [if_pos ⟨rfl, hi⟩]
      · rw [if_neg (fun q => hi q.2)]
        exact ha i i0 (by omega))
    rw [gF 67 (by omega)] at q
    rw [show (fun i : Int => if v1 ≤ i ∧ i < 80 then 0 else S1.1 83 i) = (fun i : Int => if x1 ≤ i ∧ i < 80 then 0 else S.1 83 i) from funext fun i => by
      rw [d1]
      dsimp only [fx_up]
      by_cases hi : i = x1
      · rw [if_neg (by omega), if_pos ⟨rfl, hi⟩, if_pos (by omega)]
      · by_cases h2 : x1 ≤ i ∧ i < 80
        · rw [if_pos (by omega), if_pos h2]
        · rw [if_neg (by omega), if_neg (fun q => hi q.2), if_neg h2]] at q
    exact q
theorem q281_0 (S : fx_S) (x1 : Int) (hS : fx_Sok S) (g1 : -2147483648 ≤ x1 ∧ x1 ≤ 2147483647) (c1 : 80 ≤ x1) (z : Int) (Z : fx_S) (kz : fx_Sok Z) (bz : z = 0) (pz : s334 S 1 z Z) : s281 S x1 z Z := by
  obtain ⟨rZ, fZ, pz⟩ := pz
  refine ⟨rZ, ?_, ?_⟩
  · intro p i hW
    clear c1
    exact (fZ p i (by omega))
  · skip
    intro n hn hw8 h0 h1 hw30 hg k j hk hj
    skip
    have e : (fun i : Int => if x1 ≤ i ∧ i < 80 then (fun q : Int => if (0 ≤ q ∧ q < S.1 67 2) ∧ S.1 67 (302 + 10 * q) ≤ S.1 67 0 ∧ (S.1 67 (303 + 10 * q) = -1 ∨ S.1 67 0 < S.1 67 (303 + 10 * q)) then 1 else 0) i else S.1 83 i) = S.1 83 := funext fun i => if_neg (by omega)
    cases j with
    | zero =>
      rcases pz n hn hw8 (by omega) with ⟨b1, b2⟩ | ⟨b1, b2⟩
      · omega
      · have t := b2 k (by omega)
        rw [hw30] at t
        unfold fx_cnt
        rw [e, Int.add_zero]
        exact t
    | succ j => exact absurd hj (by omega)
theorem q281_1 (S : fx_S) (x1 : Int) (hS : fx_Sok S) (g1 : -2147483648 ≤ x1 ∧ x1 ≤ 2147483647) (c1 : x1 < 80) (v1 : Int) (e1 : v1 = S.1 67 2) (b1 : -2147483648 ≤ v1 ∧ v1 ≤ 2147483647) (v2 : Int) (e2 : v2 = fx_sub v1 1) (v3 : Int) (S1 : fx_S) (k1 : fx_Sok S1) (b3 : -2147483648 ≤ v3 ∧ v3 ≤ 2147483647) (p1 : s113 S x1 0 v2 v3 S1) (c2 : v3 = 0) (c3 : 0 ≤ x1) (c4 : x1 < 80) (S2 : fx_S) (d2 : S2 = (fx_up S1.1 83 x1 0, S1.2)) (v4 : Int) (e4 : v4 = S2.1 66 29) (b4 : -2147483648 ≤ v4 ∧ v4 ≤ 2147483647) (c5 : 0 ≤ x1) (c6 : x1 < 80) (v5 : Int) (e5 : v5 = S2.1 83 x1) (b5 : 0 ≤ v5 ∧ v5 ≤ 1) (c7 : v5 = 0) (v6 : Int) (e6 : v6 = fx_add v4 0) (S3 : fx_S) (d3 : S3 = (fx_up S2.1 66 29 v6, S2.2)) (v7 : Int) (e7 : v7 = fx_add x1 1) (z : Int) (Z : fx_S) (kz : fx_Sok Z) (bz : z = 0) (pz : s281 S3 v7 z Z) : s281 S x1 z Z := by
  obtain ⟨rfl, p1⟩ := p1
  obtain ⟨rZ, fZ, pz⟩ := pz
  refine ⟨(rZ).trans (((show S3.2 = S2.2 by rw [d3])).trans ((show S2.2 = S.2 by rw [d2]))), ?_, ?_⟩
  · intro p i hW
    clear e7 e6 c7 b5 e5 c6 c5 b4 e4 c4 c3 c2 b3 e2 b1 e1 c1
    exact ((fZ p i (by omega))).trans (((show S3.1 p i = S2.1 p i by rw [d3]; exact if_neg (by omega))).trans ((show S2.1 p i = S.1 p i by rw [d2]; exact if_neg (by omega))))
  · skip
    intro n hn hw8 h0 h1 hw30 hg k j hk hj
    have h2 := e2
    first | rw [fx_sub_eq (by omega) (by omega)] at h2 | skip
    have m1 := fx_in01 p1
    have t4_2 : S2.1 66 29 = S.1 66 29 := by rw [d2]; first | exact if_neg (by omega) | rfl
    rw [t4_2] at e4
    have t5_2 : S2.1 83 x1 = 0 := by rw [d2]; first | exact if_pos ⟨rfl, by omega⟩ | rfl
    rw [t5_2] at e5
    have h6 := e6
    first | rw [fx_add_eq (by omega) (by omega)] at h6 | skip
    have h7 := e7
    first | rw [fx_add_eq (by omega) (by omega)] at h7 | skip
    first | have m1 := fx_in01 p1 | skip
    have hT : ¬ ((0 ≤ x1 ∧ x1 < S.1 67 2) ∧ S.1 67 (302 + 10 * x1) ≤ S.1 67 0 ∧ (S.1 67 (303 + 10 * x1) = -1 ∨ S.1 67 0 < S.1 67 (303 + 10 * x1))) := fun q => by omega
    have gf : ∀ p i : Int, p ≠ 83 → p ≠ 66 → S3.1 p i = S.1 p i := fun p i h1 h2 => by
      subst d3; subst d2
      dsimp only [fx_up]
      repeat (first | rw [if_pos (by omega)] | rw [if_neg (by omega)])
    have g67 : S3.1 67 = S.1 67 := funext fun i => gf 67 i (by omega) (by omega)
    have g84 : S3.1 84 = S.1 84 := funext fun i => gf 84 i (by omega) (by omega)
    have g30 : S3.1 66 30 = S.1 66 30 := by
      subst d3; subst d2
      rfl
    have g29 : S3.1 66 29 = S.1 66 29 + 0 := by
      have q : S3.1 66 29 = v6 := by
        subst d3; subst d2
        rfl
      omega
    have g83 : ∀ i, S3.1 83 i = if i = x1 then 0 else S.1 83 i := fun i => by
      subst d3; subst d2
      dsimp only [fx_up]
      by_cases hi : i = x1
      all_goals repeat (first | rw [if_pos (by omega)] | rw [if_neg (by omega)])
    cases j with
    | zero => exact absurd hj (by omega)
    | succ j =>
      have q := pz n (by rw [g67]; exact hn) hw8 (by omega) (by omega) (by rw [g30]; exact hw30) (by rw [g29]; omega) k j hk (by omega)
      rw [g67, g84, g29] at q
      have ea : (fun i : Int => if v7 ≤ i ∧ i < 80 then (fun q : Int => if (0 ≤ q ∧ q < S.1 67 2) ∧ S.1 67 (302 + 10 * q) ≤ S.1 67 0 ∧ (S.1 67 (303 + 10 * q) = -1 ∨ S.1 67 0 < S.1 67 (303 + 10 * q)) then 1 else 0) i else S3.1 83 i) = (fun i : Int => if x1 ≤ i ∧ i < 80 then (fun q : Int => if (0 ≤ q ∧ q < S.1 67 2) ∧ S.1 67 (302 + 10 * q) ≤ S.1 67 0 ∧ (S.1 67 (303 + 10 * q) = -1 ∨ S.1 67 0 < S.1 67 (303 + 10 * q)) then 1 else 0) i else S.1 83 i) := funext fun i => by
        dsimp only
        by_cases hi : i = x1
        · subst hi
          rw [if_neg (by omega), g83, if_pos rfl, if_pos (by omega), if_neg hT]
        · rw [g83, if_neg hi]
          by_cases h2 : x1 ≤ i ∧ i < 80
          · rw [if_pos h2, if_pos (by omega)]
          · rw [if_neg h2, if_neg (by omega)]
      rw [ea] at q
      unfold fx_cnt
      dsimp only
      rw [if_neg hT, show x1 + 1 = v7 by omega, ← Int.add_assoc]
      exact q
theorem q281_2 (S : fx_S) (x1 : Int) (hS : fx_Sok S) (g1 : -2147483648 ≤ x1 ∧ x1 ≤ 2147483647) (c1 : x1 < 80) (v1 : Int) (e1 : v1 = S.1 67 2) (b1 : -2147483648 ≤ v1 ∧ v1 ≤ 2147483647) (v2 : Int) (e2 : v2 = fx_sub v1 1) (v3 : Int) (S1 : fx_S) (k1 : fx_Sok S1) (b3 : -2147483648 ≤ v3 ∧ v3 ≤ 2147483647) (p1 : s113 S x1 0 v2 v3 S1) (c2 : v3 = 0) (c3 : 0 ≤ x1) (c4 : x1 < 80) (S2 : fx_S) (d2 : S2 = (fx_up S1.1 83 x1 0, S1.2)) (v4 : Int) (e4 : v4 = S2.1 66 29) (b4 : -2147483648 ≤ v4 ∧ v4 ≤ 2147483647) (c5 : 0 ≤ x1) (c6 : x1 < 80) (v5 : Int) (e5 : v5 = S2.1 83 x1) (b5 : 0 ≤ v5 ∧ v5 ≤ 1) (c7 : v5 ≠ 0) (v6 : Int) (e6 : v6 = fx_add v4 1) (S3 : fx_S) (d3 : S3 = (fx_up S2.1 66 29 v6, S2.2)) (v7 : Int) (e7 : v7 = fx_add x1 1) (z : Int) (Z : fx_S) (kz : fx_Sok Z) (bz : z = 0) (pz : s281 S3 v7 z Z) : s281 S x1 z Z := by
  obtain ⟨rfl, p1⟩ := p1
  obtain ⟨rZ, fZ, pz⟩ := pz
  refine ⟨(rZ).trans (((show S3.2 = S2.2 by rw [d3])).trans ((show S2.2 = S.2 by rw [d2]))), ?_, ?_⟩
  · intro p i hW
    clear e7 e6 c7 b5 e5 c6 c5 b4 e4 c4 c3 c2 b3 e2 b1 e1 c1
    exact ((fZ p i (by omega))).trans (((show S3.1 p i = S2.1 p i by rw [d3]; exact if_neg (by omega))).trans ((show S2.1 p i = S.1 p i by rw [d2]; exact if_neg (by omega))))
  · skip
    intro n hn hw8 h0 h1 hw30 hg k j hk hj
    have h2 := e2
    first | rw [fx_sub_eq (by omega) (by omega)] at h2 | skip
    have m1 := fx_in01 p1
    have t4_2 : S2.1 66 29 = S.1 66 29 := by rw [d2]; first | exact if_neg (by omega) | rfl
    rw [t4_2] at e4
    have t5_2 : S2.1 83 x1 = 0 := by rw [d2]; first | exact if_pos ⟨rfl, by omega⟩ | rfl
    rw [t5_2] at e5
    have h6 := e6
    first | rw [fx_add_eq (by omega) (by omega)] at h6 | skip
    have h7 := e7
    first | rw [fx_add_eq (by omega) (by omega)] at h7 | skip
    exfalso
    omega
theorem q281_3 (S : fx_S) (x1 : Int) (hS : fx_Sok S) (g1 : -2147483648 ≤ x1 ∧ x1 ≤ 2147483647) (c1 : x1 < 80) (v1 : Int) (e1 : v1 = S.1 67 2) (b1 : -2147483648 ≤ v1 ∧ v1 ≤ 2147483647) (v2 : Int) (e2 : v2 = fx_sub v1 1) (v3 : Int) (S1 : fx_S) (k1 : fx_Sok S1) (b3 : -2147483648 ≤ v3 ∧ v3 ≤ 2147483647) (p1 : s113 S x1 0 v2 v3 S1) (c2 : v3 ≠ 0) (v4 : Int) (e4 : v4 = S1.1 67 0) (b4 : -2147483648 ≤ v4 ∧ v4 ≤ 2147483647) (v5 : Int) (S2 : fx_S) (k2 : fx_Sok S2) (b5 : -2147483648 ≤ v5 ∧ v5 ≤ 2147483647) (p2 : s156 S1 x1 v4 v5 S2) (c3 : v5 = 0) (c4 : 0 ≤ x1) (c5 : x1 < 80) (S3 : fx_S) (d3 : S3 = (fx_up S2.1 83 x1 0, S2.2)) (v6 : Int) (e6 : v6 = S3.1 66 29) (b6 : -2147483648 ≤ v6 ∧ v6 ≤ 2147483647) (c6 : 0 ≤ x1) (c7 : x1 < 80) (v7 : Int) (e7 : v7 = S3.1 83 x1) (b7 : 0 ≤ v7 ∧ v7 ≤ 1) (c8 : v7 = 0) (v8 : Int) (e8 : v8 = fx_add v6 0) (S4 : fx_S) (d4 : S4 = (fx_up S3.1 66 29 v8, S3.2)) (v9 : Int) (e9 : v9 = fx_add x1 1) (z : Int) (Z : fx_S) (kz : fx_Sok Z) (bz : z = 0) (pz : s281 S4 v9 z Z) : s281 S x1 z Z := by
  obtain ⟨rfl, p1⟩ := p1
  obtain ⟨rfl, p2⟩ := p2
  obtain ⟨rZ, fZ, pz⟩ := pz
  refine ⟨(rZ).trans (((show S4.2 = S3.2 by rw [d4])).trans ((show S3.2 = S.2 by rw [d3]))), ?_, ?_⟩
  · intro p i hW
    clear e9 e8 c8 b7 e7 c7 c6 b6 e6 c5 c4 c3 b5 b4 e4 c2 b3 e2 b1 e1 c1
    exact ((fZ p i (by omega))).trans (((show S4.1 p i = S3.1 p i by rw [d4]; exact if_neg (by omega))).trans ((show S3.1 p i = S.1 p i by rw [d3]; exact if_neg (by omega))))
  · skip
    intro n hn hw8 h0 h1 hw30 hg k j hk hj
    have h2 := e2
    first | rw [fx_sub_eq (by omega) (by omega)] at h2 | skip
    have m1 := fx_in01 p1
    have t6_3 : S3.1 66 29 = S.1 66 29 := by rw [d3]; first | exact if_neg (by omega) | rfl
    rw [t6_3] at e6
    have t7_3 : S3.1 83 x1 = 0 := by rw [d3]; first | exact if_pos ⟨rfl, by omega⟩ | rfl
    rw [t7_3] at e7
    have h8 := e8
    first | rw [fx_add_eq (by omega) (by omega)] at h8 | skip
    have h9 := e9
    first | rw [fx_add_eq (by omega) (by omega)] at h9 | skip
    first | have m1 := fx_in01 p1 | skip
    have t := p2 (by omega) (by omega)
    rw [e4] at t
    have hT : ¬ ((0 ≤ x1 ∧ x1 < S.1 67 2) ∧ S.1 67 (302 + 10 * x1) ≤ S.1 67 0 ∧ (S.1 67 (303 + 10 * x1) = -1 ∨ S.1 67 0 < S.1 67 (303 + 10 * x1))) := fun q => by rw [if_pos q.2] at t; omega
    have gf : ∀ p i : Int, p ≠ 83 → p ≠ 66 → S4.1 p i = S.1 p i := fun p i h1 h2 => by
      subst d4; subst d3
      dsimp only [fx_up]
      repeat (first | rw [if_pos (by omega)] | rw [if_neg (by omega)])
    have g67 : S4.1 67 = S.1 67 := funext fun i => gf 67 i (by omega) (by omega)
    have g84 : S4.1 84 = S.1 84 := funext fun i => gf 84 i (by omega) (by omega)
    have g30 : S4.1 66 30 = S.1 66 30 := by
      subst d4; subst d3
      rfl
    have g29 : S4.1 66 29 = S.1 66 29 + 0 := by
      have q : S4.1 66 29 = v8 := by
        subst d4; subst d3
        rfl
      omega
    have g83 : ∀ i, S4.1 83 i = if i = x1 then 0 else S.1 83 i := fun i => by
      subst d4; subst d3
      dsimp only [fx_up]
      by_cases hi : i = x1
      all_goals repeat (first | rw [if_pos (by omega)] | rw [if_neg (by omega)])
    cases j with
    | zero => exact absurd hj (by omega)
    | succ j =>
      have q := pz n (by rw [g67]; exact hn) hw8 (by omega) (by omega) (by rw [g30]; exact hw30) (by rw [g29]; omega) k j hk (by omega)
      rw [g67, g84, g29] at q
      have ea : (fun i : Int => if v9 ≤ i ∧ i < 80 then (fun q : Int => if (0 ≤ q ∧ q < S.1 67 2) ∧ S.1 67 (302 + 10 * q) ≤ S.1 67 0 ∧ (S.1 67 (303 + 10 * q) = -1 ∨ S.1 67 0 < S.1 67 (303 + 10 * q)) then 1 else 0) i else S4.1 83 i) = (fun i : Int => if x1 ≤ i ∧ i < 80 then (fun q : Int => if (0 ≤ q ∧ q < S.1 67 2) ∧ S.1 67 (302 + 10 * q) ≤ S.1 67 0 ∧ (S.1 67 (303 + 10 * q) = -1 ∨ S.1 67 0 < S.1 67 (303 + 10 * q)) then 1 else 0) i else S.1 83 i) := funext fun i => by
        dsimp only
        by_cases hi : i = x1
        · subst hi
          rw [if_neg (by omega), g83, if_pos rfl, if_pos (by omega), if_neg hT]
        · rw [g83, if_neg hi]
          by_cases h2 : x1 ≤ i ∧ i < 80
          · rw [if_pos h2, if_pos (by omega)]
          · rw [if_neg h2, if_neg (by omega)]
      rw [ea] at q
      unfold fx_cnt
      dsimp only
      rw [if_neg hT, show x1 + 1 = v9 by omega, ← Int.add_assoc]
      exact q
theorem q281_4 (S : fx_S) (x1 : Int) (hS : fx_Sok S) (g1 : -2147483648 ≤ x1 ∧ x1 ≤ 2147483647) (c1 : x1 < 80) (v1 : Int) (e1 : v1 = S.1 67 2) (b1 : -2147483648 ≤ v1 ∧ v1 ≤ 2147483647) (v2 : Int) (e2 : v2 = fx_sub v1 1) (v3 : Int) (S1 : fx_S) (k1 : fx_Sok S1) (b3 : -2147483648 ≤ v3 ∧ v3 ≤ 2147483647) (p1 : s113 S x1 0 v2 v3 S1) (c2 : v3 ≠ 0) (v4 : Int) (e4 : v4 = S1.1 67 0) (b4 : -2147483648 ≤ v4 ∧ v4 ≤ 2147483647) (v5 : Int) (S2 : fx_S) (k2 : fx_Sok S2) (b5 : -2147483648 ≤ v5 ∧ v5 ≤ 2147483647) (p2 : s156 S1 x1 v4 v5 S2) (c3 : v5 = 0) (c4 : 0 ≤ x1) (c5 : x1 < 80) (S3 : fx_S) (d3 : S3 = (fx_up S2.1 83 x1 0, S2.2)) (v6 : Int) (e6 : v6 = S3.1 66 29) (b6 : -2147483648 ≤ v6 ∧ v6 ≤ 2147483647) (c6 : 0 ≤ x1) (c7 : x1 < 80) (v7 : Int) (e7 : v7 = S3.1 83 x1) (b7 : 0 ≤ v7 ∧ v7 ≤ 1) (c8 : v7 ≠ 0) (v8 : Int) (e8 : v8 = fx_add v6 1) (S4 : fx_S) (d4 : S4 = (fx_up S3.1 66 29 v8, S3.2)) (v9 : Int) (e9 : v9 = fx_add x1 1) (z : Int) (Z : fx_S) (kz : fx_Sok Z) (bz : z = 0) (pz : s281 S4 v9 z Z) : s281 S x1 z Z := by
  obtain ⟨rfl, p1⟩ := p1
  obtain ⟨rfl, p2⟩ := p2
  obtain ⟨rZ, fZ, pz⟩ := pz
  refine ⟨(rZ).trans (((show S4.2 = S3.2 by rw [d4])).trans ((show S3.2 = S.2 by rw [d3]))), ?_, ?_⟩
  · intro p i hW
    clear e9 e8 c8 b7 e7 c7 c6 b6 e6 c5 c4 c3 b5 b4 e4 c2 b3 e2 b1 e1 c1
    exact ((fZ p i (by omega))).trans (((show S4.1 p i = S3.1 p i by rw [d4]; exact if_neg (by omega))).trans ((show S3.1 p i = S.1 p i by rw [d3]; exact if_neg (by omega))))
  · skip
    intro n hn hw8 h0 h1 hw30 hg k j hk hj
    have h2 := e2
    first | rw [fx_sub_eq (by omega) (by omega)] at h2 | skip
    have m1 := fx_in01 p1
    have t6_3 : S3.1 66 29 = S.1 66 29 := by rw [d3]; first | exact if_neg (by omega) | rfl
    rw [t6_3] at e6
    have t7_3 : S3.1 83 x1 = 0 := by rw [d3]; first | exact if_pos ⟨rfl, by omega⟩ | rfl
    rw [t7_3] at e7
    have h8 := e8
    first | rw [fx_add_eq (by omega) (by omega)] at h8 | skip
    have h9 := e9
    first | rw [fx_add_eq (by omega) (by omega)] at h9 | skip
    exfalso
    omega
theorem q281_5 (S : fx_S) (x1 : Int) (hS : fx_Sok S) (g1 : -2147483648 ≤ x1 ∧ x1 ≤ 2147483647) (c1 : x1 < 80) (v1 : Int) (e1 : v1 = S.1 67 2) (b1 : -2147483648 ≤ v1 ∧ v1 ≤ 2147483647) (v2 : Int) (e2 : v2 = fx_sub v1 1) (v3 : Int) (S1 : fx_S) (k1 : fx_Sok S1) (b3 : -2147483648 ≤ v3 ∧ v3 ≤ 2147483647) (p1 : s113 S x1 0 v2 v3 S1) (c2 : v3 ≠ 0) (v4 : Int) (e4 : v4 = S1.1 67 0) (b4 : -2147483648 ≤ v4 ∧ v4 ≤ 2147483647) (v5 : Int) (S2 : fx_S) (k2 : fx_Sok S2) (b5 : -2147483648 ≤ v5 ∧ v5 ≤ 2147483647) (p2 : s156 S1 x1 v4 v5 S2) (c3 : v5 ≠ 0) (c4 : 0 ≤ x1) (c5 : x1 < 80) (S3 : fx_S) (d3 : S3 = (fx_up S2.1 83 x1 1, S2.2)) (v6 : Int) (e6 : v6 = S3.1 66 29) (b6 : -2147483648 ≤ v6 ∧ v6 ≤ 2147483647) (c6 : 0 ≤ x1) (c7 : x1 < 80) (v7 : Int) (e7 : v7 = S3.1 83 x1) (b7 : 0 ≤ v7 ∧ v7 ≤ 1) (c8 : v7 = 0) (v8 : Int) (e8 : v8 = fx_add v6 0) (S4 : fx_S) (d4 : S4 = (fx_up S3.1 66 29 v8, S3.2)) (v9 : Int) (e9 : v9 = fx_add x1 1) (z : Int) (Z : fx_S) (kz : fx_Sok Z) (bz : z = 0) (pz : s281 S4 v9 z Z) : s281 S x1 z Z := by
  obtain ⟨rfl, p1⟩ := p1
  obtain ⟨rfl, p2⟩ := p2
  obtain ⟨rZ, fZ, pz⟩ := pz
  refine ⟨(rZ).trans (((show S4.2 = S3.2 by rw [d4])).trans ((show S3.2 = S.2 by rw [d3]))), ?_, ?_⟩
  · intro p i hW
    clear e9 e8 c8 b7 e7 c7 c6 b6 e6 c5 c4 c3 b5 b4 e4 c2 b3 e2 b1 e1 c1
    exact ((fZ p i (by omega))).trans (((show S4.1 p i = S3.1 p i by rw [d4]; exact if_neg (by omega))).trans ((show S3.1 p i = S.1 p i by rw [d3]; exact if_neg (by omega))))
  · skip
    intro n hn hw8 h0 h1 hw30 hg k j hk hj
    have h2 := e2
    first | rw [fx_sub_eq (by omega) (by omega)] at h2 | skip
    have m1 := fx_in01 p1
    have t6_3 : S3.1 66 29 = S.1 66 29 := by rw [d3]; first | exact if_neg (by omega) | rfl
    rw [t6_3] at e6
    have t7_3 : S3.1 83 x1 = 1 := by rw [d3]; first | exact if_pos ⟨rfl, by omega⟩ | rfl
    rw [t7_3] at e7
    have h8 := e8
    first | rw [fx_add_eq (by omega) (by omega)] at h8 | skip
    have h9 := e9
    first | rw [fx_add_eq (by omega) (by omega)] at h9 | skip
    exfalso
    omega
theorem q281_6 (S : fx_S) (x1 : Int) (hS : fx_Sok S) (g1 : -2147483648 ≤ x1 ∧ x1 ≤ 2147483647) (c1 : x1 < 80) (v1 : Int) (e1 : v1 = S.1 67 2) (b1 : -2147483648 ≤ v1 ∧ v1 ≤ 2147483647) (v2 : Int) (e2 : v2 = fx_sub v1 1) (v3 : Int) (S1 : fx_S) (k1 : fx_Sok S1) (b3 : -2147483648 ≤ v3 ∧ v3 ≤ 2147483647) (p1 : s113 S x1 0 v2 v3 S1) (c2 : v3 ≠ 0) (v4 : Int) (e4 : v4 = S1.1 67 0) (b4 : -2147483648 ≤ v4 ∧ v4 ≤ 2147483647) (v5 : Int) (S2 : fx_S) (k2 : fx_Sok S2) (b5 : -2147483648 ≤ v5 ∧ v5 ≤ 2147483647) (p2 : s156 S1 x1 v4 v5 S2) (c3 : v5 ≠ 0) (c4 : 0 ≤ x1) (c5 : x1 < 80) (S3 : fx_S) (d3 : S3 = (fx_up S2.1 83 x1 1, S2.2)) (v6 : Int) (e6 : v6 = S3.1 66 29) (b6 : -2147483648 ≤ v6 ∧ v6 ≤ 2147483647) (c6 : 0 ≤ x1) (c7 : x1 < 80) (v7 : Int) (e7 : v7 = S3.1 83 x1) (b7 : 0 ≤ v7 ∧ v7 ≤ 1) (c8 : v7 ≠ 0) (v8 : Int) (e8 : v8 = fx_add v6 1) (S4 : fx_S) (d4 : S4 = (fx_up S3.1 66 29 v8, S3.2)) (v9 : Int) (e9 : v9 = fx_add x1 1) (z : Int) (Z : fx_S) (kz : fx_Sok Z) (bz : z = 0) (pz : s281 S4 v9 z Z) : s281 S x1 z Z := by
  obtain ⟨rfl, p1⟩ := p1
  obtain ⟨rfl, p2⟩ := p2
  obtain ⟨rZ, fZ, pz⟩ := pz
  refine ⟨(rZ).trans (((show S4.2 = S3.2 by rw [d4])).trans ((show S3.2 = S.2 by rw [d3]))), ?_, ?_⟩
  · intro p i hW
    clear e9 e8 c8 b7 e7 c7 c6 b6 e6 c5 c4 c3 b5 b4 e4 c2 b3 e2 b1 e1 c1
    exact ((fZ p i (by omega))).trans (((show S4.1 p i = S3.1 p i by rw [d4]; exact if_neg (by omega))).trans ((show S3.1 p i = S.1 p i by rw [d3]; exact if_neg (by omega))))
  · skip
    intro n hn hw8 h0 h1 hw30 hg k j hk hj
    have h2 := e2
    first | rw [fx_sub_eq (by omega) (by omega)] at h2 | skip
    have m1 := fx_in01 p1
    have t6_3 : S3.1 66 29 = S.1 66 29 := by rw [d3]; first | exact if_neg (by omega) | rfl
    rw [t6_3] at e6
    have t7_3 : S3.1 83 x1 = 1 := by rw [d3]; first | exact if_pos ⟨rfl, by omega⟩ | rfl
    rw [t7_3] at e7
    have h8 := e8
    first | rw [fx_add_eq (by omega) (by omega)] at h8 | skip
    have h9 := e9
    first | rw [fx_add_eq (by omega) (by omega)] at h9 | skip
    first | have m1 := fx_in01 p1 | skip
    have t := p2 (by omega) (by omega)
    rw [e4] at t
    have hT : (0 ≤ x1 ∧ x1 < S.1 67 2) ∧ S.1 67 (302 + 10 * x1) ≤ S.1 67 0 ∧ (S.1 67 (303 + 10 * x1) = -1 ∨ S.1 67 0 < S.1 67 (303 + 10 * x1)) := by
      by_cases q : S.1 67 (302 + 10 * x1) ≤ S.1 67 0 ∧ (S.1 67 (303 + 10 * x1) = -1 ∨ S.1 67 0 < S.1 67 (303 + 10 * x1))
      · exact ⟨by omega, q⟩
      · rw [if_neg q] at t; omega
    have gf : ∀ p i : Int, p ≠ 83 → p ≠ 66 → S4.1 p i = S.1 p i := fun p i h1 h2 => by
      subst d4; subst d3
      dsimp only [fx_up]
      repeat (first | rw [if_pos (by omega)] | rw [if_neg (by omega)])
    have g67 : S4.1 67 = S.1 67 := funext fun i => gf 67 i (by omega) (by omega)
    have g84 : S4.1 84 = S.1 84 := funext fun i => gf 84 i (by omega) (by omega)
    have g30 : S4.1 66 30 = S.1 66 30 := by
      subst d4; subst d3
      rfl
    have g29 : S4.1 66 29 = S.1 66 29 + 1 := by
      have q : S4.1 66 29 = v8 := by
        subst d4; subst d3
        rfl
      omega
    have g83 : ∀ i, S4.1 83 i = if i = x1 then 1 else S.1 83 i := fun i => by
      subst d4; subst d3
      dsimp only [fx_up]
      by_cases hi : i = x1
      all_goals repeat (first | rw [if_pos (by omega)] | rw [if_neg (by omega)])
    cases j with
    | zero => exact absurd hj (by omega)
    | succ j =>
      have q := pz n (by rw [g67]; exact hn) hw8 (by omega) (by omega) (by rw [g30]; exact hw30) (by rw [g29]; omega) k j hk (by omega)
      rw [g67, g84, g29] at q
      have ea : (fun i : Int => if v9 ≤ i ∧ i < 80 then (fun q : Int => if (0 ≤ q ∧ q < S.1 67 2) ∧ S.1 67 (302 + 10 * q) ≤ S.1 67 0 ∧ (S.1 67 (303 + 10 * q) = -1 ∨ S.1 67 0 < S.1 67 (303 + 10 * q)) then 1 else 0) i else S4.1 83 i) = (fun i : Int => if x1 ≤ i ∧ i < 80 then (fun q : Int => if (0 ≤ q ∧ q < S.1 67 2) ∧ S.1 67 (302 + 10 * q) ≤ S.1 67 0 ∧ (S.1 67 (303 + 10 * q) = -1 ∨ S.1 67 0 < S.1 67 (303 + 10 * q)) then 1 else 0) i else S.1 83 i) := funext fun i => by
        dsimp only
        by_cases hi : i = x1
        · subst hi
          rw [if_neg (by omega), g83, if_pos rfl, if_pos (by omega), if_pos hT]
        · rw [g83, if_neg hi]
          by_cases h2 : x1 ≤ i ∧ i < 80
          · rw [if_pos h2, if_pos (by omega)]
          · rw [if_neg h2, if_neg (by omega)]
      rw [ea] at q
      unfold fx_cnt
      dsimp only
      rw [if_pos hT, show x1 + 1 = v9 by omega, ← Int.add_assoc]
      exact q
theorem q282_0 (S : fx_S) (x1 x2 x3 x4 : Int) (hS : fx_Sok S) (g1 : -2147483648 ≤ x1 ∧ x1 ≤ 2147483647) (g2 : -2147483648 ≤ x2 ∧ x2 ≤ 2147483647) (g3 : -2147483648 ≤ x3 ∧ x3 ≤ 2147483647) (g4 : -2147483648 ≤ x4 ∧ x4 ≤ 2147483647) (v4 : Int) (e4 : v4 = S.1 13 0) (b4 : -2147483648 ≤ v4 ∧ v4 ≤ 2147483647) (c1 : v4 ≤ x4) (c2 : x3 = 0) : s282 S x1 x2 x3 x4 0 S := by
  exact rfl
theorem q282_1 (S : fx_S) (x1 x2 x3 x4 : Int) (hS : fx_Sok S) (g1 : -2147483648 ≤ x1 ∧ x1 ≤ 2147483647) (g2 : -2147483648 ≤ x2 ∧ x2 ≤ 2147483647) (g3 : -2147483648 ≤ x3 ∧ x3 ≤ 2147483647) (g4 : -2147483648 ≤ x4 ∧ x4 ≤ 2147483647) (v4 : Int) (e4 : v4 = S.1 13 0) (b4 : -2147483648 ≤ v4 ∧ v4 ≤ 2147483647) (c1 : v4 ≤ x4) (c2 : x3 ≠ 0) : s282 S x1 x2 x3 x4 2 S := by
  exact rfl
theorem q282_2 (S : fx_S) (x1 x2 x3 x4 : Int) (hS : fx_Sok S) (g1 : -2147483648 ≤ x1 ∧ x1 ≤ 2147483647) (g2 : -2147483648 ≤ x2 ∧ x2 ≤ 2147483647) (g3 : -2147483648 ≤ x3 ∧ x3 ≤ 2147483647) (g4 : -2147483648 ≤ x4 ∧ x4 ≤ 2147483647) (v4 : Int) (e4 : v4 = S.1 13 0) (b4 : -2147483648 ≤ v4 ∧ v4 ≤ 2147483647) (c1 : x4 < v4) (c2 : 0 ≤ x4) (c3 : x4 < 80) (v5 : Int) (e5 : v5 = S.1 18 x4) (b5 : -2147483648 ≤ v5 ∧ v5 ≤ 2147483647) (c4 : 32 ≤ x4) (v6 : Int) (S1 : fx_S) (k1 : fx_Sok S1) (b6 : -2147483648 ≤ v6 ∧ v6 ≤ 2147483647) (p1 : s136 S x4 v6 S1) (c5 : v6 = 0) (v7 : Int) (e7 : v7 = fx_add x4 1) (z : Int) (Z : fx_S) (kz : fx_Sok Z) (bz : -2147483648 ≤ z ∧ z ≤ 2147483647) (pz : s282 S1 x1 x2 x3 v7 z Z) : s282 S x1 x2 x3 x4 z Z := by
  obtain ⟨rfl, p1⟩ := p1
  obtain rfl : S = Z := pz
  exact rfl
theorem q282_3 (S : fx_S) (x1 x2 x3 x4 : Int) (hS : fx_Sok S) (g1 : -2147483648 ≤ x1 ∧ x1 ≤ 2147483647) (g2 : -2147483648 ≤ x2 ∧ x2 ≤ 2147483647) (g3 : -2147483648 ≤ x3 ∧ x3 ≤ 2147483647) (g4 : -2147483648 ≤ x4 ∧ x4 ≤ 2147483647) (v4 : Int) (e4 : v4 = S.1 13 0) (b4 : -2147483648 ≤ v4 ∧ v4 ≤ 2147483647) (c1 : x4 < v4) (c2 : 0 ≤ x4) (c3 : x4 < 80) (v5 : Int) (e5 : v5 = S.1 18 x4) (b5 : -2147483648 ≤ v5 ∧ v5 ≤ 2147483647) (c4 : 32 ≤ x4) (v6 : Int) (S1 : fx_S) (k1 : fx_Sok S1) (b6 : -2147483648 ≤ v6 ∧ v6 ≤ 2147483647) (p1 : s136 S x4 v6 S1) (c5 : v6 ≠ 0) (c6 : x2 < v5) (v7 : Int) (e7 : v7 = fx_add x4 1) (z : Int) (Z : fx_S) (kz : fx_Sok Z) (bz : -2147483648 ≤ z ∧ z ≤ 2147483647) (pz : s282 S1 x1 x2 x3 v7 z Z) : s282 S x1 x2 x3 x4 z Z := by
  obtain ⟨rfl, p1⟩ := p1
  obtain rfl : S = Z := pz
  exact rfl
theorem q282_4 (S : fx_S) (x1 x2 x3 x4 : Int) (hS : fx_Sok S) (g1 : -2147483648 ≤ x1 ∧ x1 ≤ 2147483647) (g2 : -2147483648 ≤ x2 ∧ x2 ≤ 2147483647) (g3 : -2147483648 ≤ x3 ∧ x3 ≤ 2147483647) (g4 : -2147483648 ≤ x4 ∧ x4 ≤ 2147483647) (v4 : Int) (e4 : v4 = S.1 13 0) (b4 : -2147483648 ≤ v4 ∧ v4 ≤ 2147483647) (c1 : x4 < v4) (c2 : 0 ≤ x4) (c3 : x4 < 80) (v5 : Int) (e5 : v5 = S.1 18 x4) (b5 : -2147483648 ≤ v5 ∧ v5 ≤ 2147483647) (c4 : 32 ≤ x4) (v6 : Int) (S1 : fx_S) (k1 : fx_Sok S1) (b6 : -2147483648 ≤ v6 ∧ v6 ≤ 2147483647) (p1 : s136 S x4 v6 S1) (c5 : v6 ≠ 0) (c6 : v5 ≤ x2) (v7 : Int) (e7 : v7 = fx_add x4 1) (z : Int) (Z : fx_S) (kz : fx_Sok Z) (bz : -2147483648 ≤ z ∧ z ≤ 2147483647) (pz : s282 S1 x1 x2 1 v7 z Z) : s282 S x1 x2 x3 x4 z Z := by
  obtain ⟨rfl, p1⟩ := p1
  obtain rfl : S = Z := pz
  exact rfl
theorem q282_5 (S : fx_S) (x1 x2 x3 x4 : Int) (hS : fx_Sok S) (g1 : -2147483648 ≤ x1 ∧ x1 ≤ 2147483647) (g2 : -2147483648 ≤ x2 ∧ x2 ≤ 2147483647) (g3 : -2147483648 ≤ x3 ∧ x3 ≤ 2147483647) (g4 : -2147483648 ≤ x4 ∧ x4 ≤ 2147483647) (v4 : Int) (e4 : v4 = S.1 13 0) (b4 : -2147483648 ≤ v4 ∧ v4 ≤ 2147483647) (c1 : x4 < v4) (c2 : 0 ≤ x4) (c3 : x4 < 80) (v5 : Int) (e5 : v5 = S.1 18 x4) (b5 : -2147483648 ≤ v5 ∧ v5 ≤ 2147483647) (c4 : x4 < 32) (v6 : Int) (e6 : v6 = fx_ush x1 x4) (v7 : Int) (e7 : v7 = fx_and v6 1) (c5 : v7 ≠ 1) (v8 : Int) (S1 : fx_S) (k1 : fx_Sok S1) (b8 : -2147483648 ≤ v8 ∧ v8 ≤ 2147483647) (p1 : s136 S x4 v8 S1) (c6 : v8 = 0) (v9 : Int) (e9 : v9 = fx_add x4 1) (z : Int) (Z : fx_S) (kz : fx_Sok Z) (bz : -2147483648 ≤ z ∧ z ≤ 2147483647) (pz : s282 S1 x1 x2 x3 v9 z Z) : s282 S x1 x2 x3 x4 z Z := by
  obtain ⟨rfl, p1⟩ := p1
  obtain rfl : S = Z := pz
  exact rfl
theorem q282_6 (S : fx_S) (x1 x2 x3 x4 : Int) (hS : fx_Sok S) (g1 : -2147483648 ≤ x1 ∧ x1 ≤ 2147483647) (g2 : -2147483648 ≤ x2 ∧ x2 ≤ 2147483647) (g3 : -2147483648 ≤ x3 ∧ x3 ≤ 2147483647) (g4 : -2147483648 ≤ x4 ∧ x4 ≤ 2147483647) (v4 : Int) (e4 : v4 = S.1 13 0) (b4 : -2147483648 ≤ v4 ∧ v4 ≤ 2147483647) (c1 : x4 < v4) (c2 : 0 ≤ x4) (c3 : x4 < 80) (v5 : Int) (e5 : v5 = S.1 18 x4) (b5 : -2147483648 ≤ v5 ∧ v5 ≤ 2147483647) (c4 : x4 < 32) (v6 : Int) (e6 : v6 = fx_ush x1 x4) (v7 : Int) (e7 : v7 = fx_and v6 1) (c5 : v7 ≠ 1) (v8 : Int) (S1 : fx_S) (k1 : fx_Sok S1) (b8 : -2147483648 ≤ v8 ∧ v8 ≤ 2147483647) (p1 : s136 S x4 v8 S1) (c6 : v8 ≠ 0) (c7 : x2 < v5) (v9 : Int) (e9 : v9 = fx_add x4 1) (z : Int) (Z : fx_S) (kz : fx_Sok Z) (bz : -2147483648 ≤ z ∧ z ≤ 2147483647) (pz : s282 S1 x1 x2 x3 v9 z Z) : s282 S x1 x2 x3 x4 z Z := by
  obtain ⟨rfl, p1⟩ := p1
  obtain rfl : S = Z := pz
  exact rfl
theorem q282_7 (S : fx_S) (x1 x2 x3 x4 : Int) (hS : fx_Sok S) (g1 : -2147483648 ≤ x1 ∧ x1 ≤ 2147483647) (g2 : -2147483648 ≤ x2 ∧ x2 ≤ 2147483647) (g3 : -2147483648 ≤ x3 ∧ x3 ≤ 2147483647) (g4 : -2147483648 ≤ x4 ∧ x4 ≤ 2147483647) (v4 : Int) (e4 : v4 = S.1 13 0) (b4 : -2147483648 ≤ v4 ∧ v4 ≤ 2147483647) (c1 : x4 < v4) (c2 : 0 ≤ x4) (c3 : x4 < 80) (v5 : Int) (e5 : v5 = S.1 18 x4) (b5 : -2147483648 ≤ v5 ∧ v5 ≤ 2147483647) (c4 : x4 < 32) (v6 : Int) (e6 : v6 = fx_ush x1 x4) (v7 : Int) (e7 : v7 = fx_and v6 1) (c5 : v7 ≠ 1) (v8 : Int) (S1 : fx_S) (k1 : fx_Sok S1) (b8 : -2147483648 ≤ v8 ∧ v8 ≤ 2147483647) (p1 : s136 S x4 v8 S1) (c6 : v8 ≠ 0) (c7 : v5 ≤ x2) (v9 : Int) (e9 : v9 = fx_add x4 1) (z : Int) (Z : fx_S) (kz : fx_Sok Z) (bz : -2147483648 ≤ z ∧ z ≤ 2147483647) (pz : s282 S1 x1 x2 1 v9 z Z) : s282 S x1 x2 x3 x4 z Z := by
  obtain ⟨rfl, p1⟩ := p1
  obtain rfl : S = Z := pz
  exact rfl
theorem q282_8 (S : fx_S) (x1 x2 x3 x4 : Int) (hS : fx_Sok S) (g1 : -2147483648 ≤ x1 ∧ x1 ≤ 2147483647) (g2 : -2147483648 ≤ x2 ∧ x2 ≤ 2147483647) (g3 : -2147483648 ≤ x3 ∧ x3 ≤ 2147483647) (g4 : -2147483648 ≤ x4 ∧ x4 ≤ 2147483647) (v4 : Int) (e4 : v4 = S.1 13 0) (b4 : -2147483648 ≤ v4 ∧ v4 ≤ 2147483647) (c1 : x4 < v4) (c2 : 0 ≤ x4) (c3 : x4 < 80) (v5 : Int) (e5 : v5 = S.1 18 x4) (b5 : -2147483648 ≤ v5 ∧ v5 ≤ 2147483647) (c4 : x4 < 32) (v6 : Int) (e6 : v6 = fx_ush x1 x4) (v7 : Int) (e7 : v7 = fx_and v6 1) (c5 : v7 = 1) (v8 : Int) (e8 : v8 = fx_sub x2 1) (c6 : v5 ≤ v8) (v9 : Int) (e9 : v9 = fx_add x4 1) (z : Int) (Z : fx_S) (kz : fx_Sok Z) (bz : -2147483648 ≤ z ∧ z ≤ 2147483647) (pz : s282 S x1 x2 x3 v9 z Z) : s282 S x1 x2 x3 x4 z Z := by
  obtain rfl : S = Z := pz
  exact rfl
theorem q282_9 (S : fx_S) (x1 x2 x3 x4 : Int) (hS : fx_Sok S) (g1 : -2147483648 ≤ x1 ∧ x1 ≤ 2147483647) (g2 : -2147483648 ≤ x2 ∧ x2 ≤ 2147483647) (g3 : -2147483648 ≤ x3 ∧ x3 ≤ 2147483647) (g4 : -2147483648 ≤ x4 ∧ x4 ≤ 2147483647) (v4 : Int) (e4 : v4 = S.1 13 0) (b4 : -2147483648 ≤ v4 ∧ v4 ≤ 2147483647) (c1 : x4 < v4) (c2 : 0 ≤ x4) (c3 : x4 < 80) (v5 : Int) (e5 : v5 = S.1 18 x4) (b5 : -2147483648 ≤ v5 ∧ v5 ≤ 2147483647) (c4 : x4 < 32) (v6 : Int) (e6 : v6 = fx_ush x1 x4) (v7 : Int) (e7 : v7 = fx_and v6 1) (c5 : v7 = 1) (v8 : Int) (e8 : v8 = fx_sub x2 1) (c6 : v8 < v5) : s282 S x1 x2 x3 x4 1 S := by
  exact rfl
theorem q283_0 (S : fx_S) (x1 x2 x3 x4 : Int) (hS : fx_Sok S) (g1 : -2147483648 ≤ x1 ∧ x1 ≤ 2147483647) (g2 : -2147483648 ≤ x2 ∧ x2 ≤ 2147483647) (g3 : -2147483648 ≤ x3 ∧ x3 ≤ 2147483647) (g4 : -2147483648 ≤ x4 ∧ x4 ≤ 2147483647) (v4 : Int) (e4 : v4 = S.1 67 2) (b4 : -2147483648 ≤ v4 ∧ v4 ≤ 2147483647) (c1 : v4 ≤ x4) : s283 S x1 x2 x3 x4 x3 S := by
  exact rfl
theorem q283_1 (S : fx_S) (x1 x2 x3 x4 : Int) (hS : fx_Sok S) (g1 : -2147483648 ≤ x1 ∧ x1 ≤ 2147483647) (g2 : -2147483648 ≤ x2 ∧ x2 ≤ 2147483647) (g3 : -2147483648 ≤ x3 ∧ x3 ≤ 2147483647) (g4 : -2147483648 ≤ x4 ∧ x4 ≤ 2147483647) (v4 : Int) (e4 : v4 = S.1 67 2) (b4 : -2147483648 ≤ v4 ∧ v4 ≤ 2147483647) (c1 : x4 < v4) (v5 : Int) (e5 : v5 = S.1 67 0) (b5 : -2147483648 ≤ v5 ∧ v5 ≤ 2147483647) (v6 : Int) (S1 : fx_S) (k1 : fx_Sok S1) (b6 : -2147483648 ≤ v6 ∧ v6 ≤ 2147483647) (p1 : s156 S x4 v5 v6 S1) (c2 : v6 ≠ 0) (c3 : 32 ≤ x4) (v7 : Int) (e7 : v7 = fx_mul 10 x4) (v8 : Int) (e8 : v8 = fx_add 300 v7) (v9 : Int) (e9 : v9 = fx_add v8 4) (c4 : 0 ≤ v9) (c5 : v9 < 8090) (v10 : Int) (e10 : v10 = S1.1 67 v9) (b10 : -2147483648 ≤ v10 ∧ v10 ≤ 2147483647) (c6 : x2 < v10) (v11 : Int) (e11 : v11 = fx_add x4 1) (z : Int) (Z : fx_S) (kz : fx_Sok Z) (bz : -2147483648 ≤ z ∧ z ≤ 2147483647) (pz : s283 S1 x1 x2 x3 v11 z Z) : s283 S x1 x2 x3 x4 z Z := by
  obtain ⟨rfl, p1⟩ := p1
  obtain rfl : S = Z := pz
  exact rfl
theorem q283_2 (S : fx_S) (x1 x2 x3 x4 : Int) (hS : fx_Sok S) (g1 : -2147483648 ≤ x1 ∧ x1 ≤ 2147483647) (g2 : -2147483648 ≤ x2 ∧ x2 ≤ 2147483647) (g3 : -2147483648 ≤ x3 ∧ x3 ≤ 2147483647) (g4 : -2147483648 ≤ x4 ∧ x4 ≤ 2147483647) (v4 : Int) (e4 : v4 = S.1 67 2) (b4 : -2147483648 ≤ v4 ∧ v4 ≤ 2147483647) (c1 : x4 < v4) (v5 : Int) (e5 : v5 = S.1 67 0) (b5 : -2147483648 ≤ v5 ∧ v5 ≤ 2147483647) (v6 : Int) (S1 : fx_S) (k1 : fx_Sok S1) (b6 : -2147483648 ≤ v6 ∧ v6 ≤ 2147483647) (p1 : s156 S x4 v5 v6 S1) (c2 : v6 ≠ 0) (c3 : 32 ≤ x4) (v7 : Int) (e7 : v7 = fx_mul 10 x4) (v8 : Int) (e8 : v8 = fx_add 300 v7) (v9 : Int) (e9 : v9 = fx_add v8 4) (c4 : 0 ≤ v9) (c5 : v9 < 8090) (v10 : Int) (e10 : v10 = S1.1 67 v9) (b10 : -2147483648 ≤ v10 ∧ v10 ≤ 2147483647) (c6 : v10 ≤ x2) (v11 : Int) (e11 : v11 = fx_add x4 1) (z : Int) (Z : fx_S) (kz : fx_Sok Z) (bz : -2147483648 ≤ z ∧ z ≤ 2147483647) (pz : s283 S1 x1 x2 2 v11 z Z) : s283 S x1 x2 x3 x4 z Z := by
  obtain ⟨rfl, p1⟩ := p1
  obtain rfl : S = Z := pz
  exact rfl
theorem q283_3 (S : fx_S) (x1 x2 x3 x4 : Int) (hS : fx_Sok S) (g1 : -2147483648 ≤ x1 ∧ x1 ≤ 2147483647) (g2 : -2147483648 ≤ x2 ∧ x2 ≤ 2147483647) (g3 : -2147483648 ≤ x3 ∧ x3 ≤ 2147483647) (g4 : -2147483648 ≤ x4 ∧ x4 ≤ 2147483647) (v4 : Int) (e4 : v4 = S.1 67 2) (b4 : -2147483648 ≤ v4 ∧ v4 ≤ 2147483647) (c1 : x4 < v4) (v5 : Int) (e5 : v5 = S.1 67 0) (b5 : -2147483648 ≤ v5 ∧ v5 ≤ 2147483647) (v6 : Int) (S1 : fx_S) (k1 : fx_Sok S1) (b6 : -2147483648 ≤ v6 ∧ v6 ≤ 2147483647) (p1 : s156 S x4 v5 v6 S1) (c2 : v6 ≠ 0) (c3 : x4 < 32) (v7 : Int) (e7 : v7 = fx_shr x1 x4) (v8 : Int) (e8 : v8 = fx_and v7 1) (c4 : v8 ≠ 1) (v9 : Int) (e9 : v9 = fx_mul 10 x4) (v10 : Int) (e10 : v10 = fx_add 300 v9) (v11 : Int) (e11 : v11 = fx_add v10 4) (c5 : 0 ≤ v11) (c6 : v11 < 8090) (v12 : Int) (e12 : v12 = S1.1 67 v11) (b12 : -2147483648 ≤ v12 ∧ v12 ≤ 2147483647) (c7 : x2 < v12) (v13 : Int) (e13 : v13 = fx_add x4 1) (z : Int) (Z : fx_S) (kz : fx_Sok Z) (bz : -2147483648 ≤ z ∧ z ≤ 2147483647) (pz : s283 S1 x1 x2 x3 v13 z Z) : s283 S x1 x2 x3 x4 z Z := by
  obtain ⟨rfl, p1⟩ := p1
  obtain rfl : S = Z := pz
  exact rfl
theorem q283_4 (S : fx_S) (x1 x2 x3 x4 : Int) (hS : fx_Sok S) (g1 : -2147483648 ≤ x1 ∧ x1 ≤ 2147483647) (g2 : -2147483648 ≤ x2 ∧ x2 ≤ 2147483647) (g3 : -2147483648 ≤ x3 ∧ x3 ≤ 2147483647) (g4 : -2147483648 ≤ x4 ∧ x4 ≤ 2147483647) (v4 : Int) (e4 : v4 = S.1 67 2) (b4 : -2147483648 ≤ v4 ∧ v4 ≤ 2147483647) (c1 : x4 < v4) (v5 : Int) (e5 : v5 = S.1 67 0) (b5 : -2147483648 ≤ v5 ∧ v5 ≤ 2147483647) (v6 : Int) (S1 : fx_S) (k1 : fx_Sok S1) (b6 : -2147483648 ≤ v6 ∧ v6 ≤ 2147483647) (p1 : s156 S x4 v5 v6 S1) (c2 : v6 ≠ 0) (c3 : x4 < 32) (v7 : Int) (e7 : v7 = fx_shr x1 x4) (v8 : Int) (e8 : v8 = fx_and v7 1) (c4 : v8 ≠ 1) (v9 : Int) (e9 : v9 = fx_mul 10 x4) (v10 : Int) (e10 : v10 = fx_add 300 v9) (v11 : Int) (e11 : v11 = fx_add v10 4) (c5 : 0 ≤ v11) (c6 : v11 < 8090) (v12 : Int) (e12 : v12 = S1.1 67 v11) (b12 : -2147483648 ≤ v12 ∧ v12 ≤ 2147483647) (c7 : v12 ≤ x2) (v13 : Int) (e13 : v13 = fx_add x4 1) (z : Int) (Z : fx_S) (kz : fx_Sok Z) (bz : -2147483648 ≤ z ∧ z ≤ 2147483647) (pz : s283 S1 x1 x2 2 v13 z Z) : s283 S x1 x2 x3 x4 z Z := by
  obtain ⟨rfl, p1⟩ := p1
  obtain rfl : S = Z := pz
  exact rfl
theorem q283_5 (S : fx_S) (x1 x2 x3 x4 : Int) (hS : fx_Sok S) (g1 : -2147483648 ≤ x1 ∧ x1 ≤ 2147483647) (g2 : -2147483648 ≤ x2 ∧ x2 ≤ 2147483647) (g3 : -2147483648 ≤ x3 ∧ x3 ≤ 2147483647) (g4 : -2147483648 ≤ x4 ∧ x4 ≤ 2147483647) (v4 : Int) (e4 : v4 = S.1 67 2) (b4 : -2147483648 ≤ v4 ∧ v4 ≤ 2147483647) (c1 : x4 < v4) (v5 : Int) (e5 : v5 = S.1 67 0) (b5 : -2147483648 ≤ v5 ∧ v5 ≤ 2147483647) (v6 : Int) (S1 : fx_S) (k1 : fx_Sok S1) (b6 : -2147483648 ≤ v6 ∧ v6 ≤ 2147483647) (p1 : s156 S x4 v5 v6 S1) (c2 : v6 ≠ 0) (c3 : x4 < 32) (v7 : Int) (e7 : v7 = fx_shr x1 x4) (v8 : Int) (e8 : v8 = fx_and v7 1) (c4 : v8 = 1) (v9 : Int) (e9 : v9 = fx_mul 10 x4) (v10 : Int) (e10 : v10 = fx_add 300 v9) (v11 : Int) (e11 : v11 = fx_add v10 4) (c5 : 0 ≤ v11) (c6 : v11 < 8090) (v12 : Int) (e12 : v12 = S1.1 67 v11) (b12 : -2147483648 ≤ v12 ∧ v12 ≤ 2147483647) (v13 : Int) (e13 : v13 = fx_sub x2 1) (c7 : v12 ≤ v13) (v14 : Int) (e14 : v14 = fx_add x4 1) (z : Int) (Z : fx_S) (kz : fx_Sok Z) (bz : -2147483648 ≤ z ∧ z ≤ 2147483647) (pz : s283 S1 x1 x2 x3 v14 z Z) : s283 S x1 x2 x3 x4 z Z := by
  obtain ⟨rfl, p1⟩ := p1
  obtain rfl : S = Z := pz
  exact rfl
theorem q283_6 (S : fx_S) (x1 x2 x3 x4 : Int) (hS : fx_Sok S) (g1 : -2147483648 ≤ x1 ∧ x1 ≤ 2147483647) (g2 : -2147483648 ≤ x2 ∧ x2 ≤ 2147483647) (g3 : -2147483648 ≤ x3 ∧ x3 ≤ 2147483647) (g4 : -2147483648 ≤ x4 ∧ x4 ≤ 2147483647) (v4 : Int) (e4 : v4 = S.1 67 2) (b4 : -2147483648 ≤ v4 ∧ v4 ≤ 2147483647) (c1 : x4 < v4) (v5 : Int) (e5 : v5 = S.1 67 0) (b5 : -2147483648 ≤ v5 ∧ v5 ≤ 2147483647) (v6 : Int) (S1 : fx_S) (k1 : fx_Sok S1) (b6 : -2147483648 ≤ v6 ∧ v6 ≤ 2147483647) (p1 : s156 S x4 v5 v6 S1) (c2 : v6 ≠ 0) (c3 : x4 < 32) (v7 : Int) (e7 : v7 = fx_shr x1 x4) (v8 : Int) (e8 : v8 = fx_and v7 1) (c4 : v8 = 1) (v9 : Int) (e9 : v9 = fx_mul 10 x4) (v10 : Int) (e10 : v10 = fx_add 300 v9) (v11 : Int) (e11 : v11 = fx_add v10 4) (c5 : 0 ≤ v11) (c6 : v11 < 8090) (v12 : Int) (e12 : v12 = S1.1 67 v11) (b12 : -2147483648 ≤ v12 ∧ v12 ≤ 2147483647) (v13 : Int) (e13 : v13 = fx_sub x2 1) (c7 : v13 < v12) : s283 S x1 x2 x3 x4 1 S1 := by
  obtain ⟨rfl, p1⟩ := p1
  exact rfl
theorem q283_7 (S : fx_S) (x1 x2 x3 x4 : Int) (hS : fx_Sok S) (g1 : -2147483648 ≤ x1 ∧ x1 ≤ 2147483647) (g2 : -2147483648 ≤ x2 ∧ x2 ≤ 2147483647) (g3 : -2147483648 ≤ x3 ∧ x3 ≤ 2147483647) (g4 : -2147483648 ≤ x4 ∧ x4 ≤ 2147483647) (v4 : Int) (e4 : v4 = S.1 67 2) (b4 : -2147483648 ≤ v4 ∧ v4 ≤ 2147483647) (c1 : x4 < v4) (v5 : Int) (e5 : v5 = S.1 67 0) (b5 : -2147483648 ≤ v5 ∧ v5 ≤ 2147483647) (v6 : Int) (S1 : fx_S) (k1 : fx_Sok S1) (b6 : -2147483648 ≤ v6 ∧ v6 ≤ 2147483647) (p1 : s156 S x4 v5 v6 S1) (c2 : v6 = 0) (v7 : Int) (e7 : v7 = fx_add x4 1) (z : Int) (Z : fx_S) (kz : fx_Sok Z) (bz : -2147483648 ≤ z ∧ z ≤ 2147483647) (pz : s283 S1 x1 x2 x3 v7 z Z) : s283 S x1 x2 x3 x4 z Z := by
  obtain ⟨rfl, p1⟩ := p1
  obtain rfl : S = Z := pz
  exact rfl
theorem q284_0 (S : fx_S) (x2 : Int) (hS : fx_Sok S) (g2 : -2147483648 ≤ x2 ∧ x2 ≤ 2147483647) (v1 : Int) (e1 : v1 = S.1 56 2) (b1 : -2147483648 ≤ v1 ∧ v1 ≤ 2147483647) (c1 : v1 ≤ x2) (z : Int) (Z : fx_S) (kz : fx_Sok Z) (bz : -2147483648 ≤ z ∧ z ≤ 2147483647) (pz : s335 S 0 z Z) : s284 S x2 z Z := by
  obtain ⟨rZ, fZ⟩ := pz
  refine ⟨rZ, ?_⟩
  · intro p i hW
    clear c1 b1 e1
    exact (fZ p i (by omega))
theorem q284_1 (S : fx_S) (x2 : Int) (hS : fx_Sok S) (g2 : -2147483648 ≤ x2 ∧ x2 ≤ 2147483647) (v1 : Int) (e1 : v1 = S.1 56 2) (b1 : -2147483648 ≤ v1 ∧ v1 ≤ 2147483647) (c1 : x2 < v1) (z : Int) (Z : fx_S) (kz : fx_Sok Z) (bz : -2147483648 ≤ z ∧ z ≤ 2147483647) (pz : s336 S x2 0 z Z) : s284 S x2 z Z := by
  obtain ⟨rZ, fZ⟩ := pz
  refine ⟨rZ, ?_⟩
  · intro p i hW
    clear c1 b1 e1
    exact (fZ p i (by omega))
theorem q285_0 (S : fx_S) (x1 x2 x3 x4 : Int) (hS : fx_Sok S) (g1 : -2147483648 ≤ x1 ∧ x1 ≤ 2147483647) (g2 : -2147483648 ≤ x2 ∧ x2 ≤ 2147483647) (g3 : -2147483648 ≤ x3 ∧ x3 ≤ 2147483647) (g4 : -2147483648 ≤ x4 ∧ x4 ≤ 2147483647) (v4 : Int) (e4 : v4 = S.1 67 11) (b4 : -2147483648 ≤ v4 ∧ v4 ≤ 2147483647) (c1 : v4 ≤ x4) (c2 : 0 ≤ x1) (c3 : x1 < 7) (S1 : fx_S) (d1 : S1 = (fx_up S.1 85 x1 (-1), S.2)) (v5 : Int) (e5 : v5 = fx_add x1 1) (v6 : Int) (S2 : fx_S) (k2 : fx_Sok S2) (b6 : v6 = 0) (p2 : s202 S1 v5 x2 x3 v6 S2) : s285 S x1 x2 x3 x4 0 S2 := by
  obtain ⟨r2, f2⟩ := p2
  refine ⟨(r2).trans ((show S1.2 = S.2 by rw [d1])), ?_⟩
  · intro p i hW
    clear b6 e5 c3 c2 c1 b4 e4
    exact ((f2 p i (by omega))).trans ((show S1.1 p i = S.1 p i by rw [d1]; exact if_neg (by omega)))
theorem q285_1 (S : fx_S) (x1 x2 x3 x4 : Int) (hS : fx_Sok S) (g1 : -2147483648 ≤ x1 ∧ x1 ≤ 2147483647) (g2 : -2147483648 ≤ x2 ∧ x2 ≤ 2147483647) (g3 : -2147483648 ≤ x3 ∧ x3 ≤ 2147483647) (g4 : -2147483648 ≤ x4 ∧ x4 ≤ 2147483647) (v4 : Int) (e4 : v4 = S.1 67 11) (b4 : -2147483648 ≤ v4 ∧ v4 ≤ 2147483647) (c1 : x4 < v4) (v5 : Int) (S1 : fx_S) (k1 : fx_Sok S1) (b5 : -2147483648 ≤ v5 ∧ v5 ≤ 2147483647) (p1 : s337 S x1 x4 v5 S1) (c2 : v5 < 5) (v6 : Int) (e6 : v6 = fx_add x4 1) (z : Int) (Z : fx_S) (kz : fx_Sok Z) (bz : z = 0) (pz : s285 S1 x1 x2 x3 v6 z Z) : s285 S x1 x2 x3 x4 z Z := by
  obtain rfl : S = S1 := p1
  obtain ⟨rZ, fZ⟩ := pz
  refine ⟨rZ, ?_⟩
  · intro p i hW
    clear e6 c2 b5 c1 b4 e4
    exact (fZ p i (by omega))
theorem q285_2 (S : fx_S) (x1 x2 x3 x4 : Int) (hS : fx_Sok S) (g1 : -2147483648 ≤ x1 ∧ x1 ≤ 2147483647) (g2 : -2147483648 ≤ x2 ∧ x2 ≤ 2147483647) (g3 : -2147483648 ≤ x3 ∧ x3 ≤ 2147483647) (g4 : -2147483648 ≤ x4 ∧ x4 ≤ 2147483647) (v4 : Int) (e4 : v4 = S.1 67 11) (b4 : -2147483648 ≤ v4 ∧ v4 ≤ 2147483647) (c1 : x4 < v4) (v5 : Int) (S1 : fx_S) (k1 : fx_Sok S1) (b5 : -2147483648 ≤ v5 ∧ v5 ≤ 2147483647) (p1 : s337 S x1 x4 v5 S1) (c2 : 5 ≤ v5) (v6 : Int) (e6 : v6 = fx_shr x2 x4) (v7 : Int) (e7 : v7 = fx_and v6 1) (c3 : v7 ≠ 1) (c4 : 0 ≤ x1) (c5 : x1 < 7) (S2 : fx_S) (d2 : S2 = (fx_up S1.1 85 x1 x4, S1.2)) (v8 : Int) (e8 : v8 = fx_add x1 1) (v9 : Int) (e9 : v9 = fx_shl 1 x4) (v10 : Int) (e10 : v10 = fx_or x2 v9) (v11 : Int) (e11 : v11 = fx_add x3 v5) (v12 : Int) (S3 : fx_S) (k3 : fx_Sok S3) (b12 : v12 = 0) (p3 : s202 S2 v8 v10 v11 v12 S3) (v13 : Int) (e13 : v13 = fx_add x4 1) (z : Int) (Z : fx_S) (kz : fx_Sok Z) (bz : z = 0) (pz : s285 S3 x1 x2 x3 v13 z Z) : s285 S x1 x2 x3 x4 z Z := by
  obtain rfl : S = S1 := p1
  obtain ⟨r3, f3⟩ := p3
  obtain ⟨rZ, fZ⟩ := pz
  refine ⟨(rZ).trans ((r3).trans ((show S2.2 = S.2 by rw [d2]))), ?_⟩
  · intro p i hW
    clear e13 b12 e11 e10 e9 e8 c5 c4 c3 e7 e6 c2 b5 c1 b4 e4
    exact ((fZ p i (by omega))).trans (((f3 p i (by omega))).trans ((show S2.1 p i = S.1 p i by rw [d2]; exact if_neg (by omega))))
theorem q285_3 (S : fx_S) (x1 x2 x3 x4 : Int) (hS : fx_Sok S) (g1 : -2147483648 ≤ x1 ∧ x1 ≤ 2147483647) (g2 : -2147483648 ≤ x2 ∧ x2 ≤ 2147483647) (g3 : -2147483648 ≤ x3 ∧ x3 ≤ 2147483647) (g4 : -2147483648 ≤ x4 ∧ x4 ≤ 2147483647) (v4 : Int) (e4 : v4 = S.1 67 11) (b4 : -2147483648 ≤ v4 ∧ v4 ≤ 2147483647) (c1 : x4 < v4) (v5 : Int) (S1 : fx_S) (k1 : fx_Sok S1) (b5 : -2147483648 ≤ v5 ∧ v5 ≤ 2147483647) (p1 : s337 S x1 x4 v5 S1) (c2 : 5 ≤ v5) (v6 : Int) (e6 : v6 = fx_shr x2 x4) (v7 : Int) (e7 : v7 = fx_and v6 1) (c3 : v7 = 1) (v8 : Int) (e8 : v8 = fx_add x4 1) (z : Int) (Z : fx_S) (kz : fx_Sok Z) (bz : z = 0) (pz : s285 S1 x1 x2 x3 v8 z Z) : s285 S x1 x2 x3 x4 z Z := by
  obtain rfl : S = S1 := p1
  obtain ⟨rZ, fZ⟩ := pz
  refine ⟨rZ, ?_⟩
  · intro p i hW
    clear e8 c3 e7 e6 c2 b5 c1 b4 e4
    exact (fZ p i (by omega))
theorem q286_0 (S : fx_S) (x4 : Int) (hS : fx_Sok S) (g4 : -2147483648 ≤ x4 ∧ x4 ≤ 2147483647) (c1 : 7 ≤ x4) : s286 S x4 0 S := by
  refine ⟨rfl, ?_⟩
  · intro p i hW
    clear c1
    exact rfl
theorem q286_1 (S : fx_S) (x4 : Int) (hS : fx_Sok S) (g4 : -2147483648 ≤ x4 ∧ x4 ≤ 2147483647) (c1 : x4 < 7) (c2 : 0 ≤ x4) (c3 : x4 < 7) (v1 : Int) (e1 : v1 = S.1 85 x4) (b1 : -2147483648 ≤ v1 ∧ v1 ≤ 2147483647) (c4 : 0 ≤ x4) (c5 : x4 < 7) (S1 : fx_S) (d1 : S1 = (fx_up S.1 86 x4 v1, S.2)) (v2 : Int) (e2 : v2 = fx_add x4 1) (z : Int) (Z : fx_S) (kz : fx_Sok Z) (bz : z = 0) (pz : s286 S1 v2 z Z) : s286 S x4 z Z := by
  obtain ⟨rZ, fZ⟩ := pz
  refine ⟨(rZ).trans ((show S1.2 = S.2 by rw [d1])), ?_⟩
  · intro p i hW
    clear e2 c5 c4 b1 e1 c3 c2 c1
    exact ((fZ p i (by omega))).trans ((show S1.1 p i = S.1 p i by rw [d1]; exact if_neg (by omega)))
theorem q287_0 (S : fx_S) (x1 x2 : Int) (hS : fx_Sok S) (g1 : -2147483648 ≤ x1 ∧ x1 ≤ 2147483647) (g2 : -2147483648 ≤ x2 ∧ x2 ≤ 2147483647) (c1 : 4 ≤ x2) : s287 S x1 x2 x1 S := by
  exact rfl
theorem q287_1 (S : fx_S) (x1 x2 : Int) (hS : fx_Sok S) (g1 : -2147483648 ≤ x1 ∧ x1 ≤ 2147483647) (g2 : -2147483648 ≤ x2 ∧ x2 ≤ 2147483647) (c1 : x2 < 4) (c2 : 0 ≤ x2) (c3 : x2 < 4) (v2 : Int) (e2 : v2 = S.1 54 x2) (b2 : -2147483648 ≤ v2 ∧ v2 ≤ 2147483647) (c4 : v2 = (-1)) (v3 : Int) (e3 : v3 = fx_add x2 1) (z : Int) (Z : fx_S) (kz : fx_Sok Z) (bz : -2147483648 ≤ z ∧ z ≤ 2147483647) (pz : s287 S x1 v3 z Z) : s287 S x1 x2 z Z := by
  obtain rfl : S = Z := pz
  exact rfl
theorem q287_2 (S : fx_S) (x1 x2 : Int) (hS : fx_Sok S) (g1 : -2147483648 ≤ x1 ∧ x1 ≤ 2147483647) (g2 : -2147483648 ≤ x2 ∧ x2 ≤ 2147483647) (c1 : x2 < 4) (c2 : 0 ≤ x2) (c3 : x2 < 4) (v2 : Int) (e2 : v2 = S.1 54 x2) (b2 : -2147483648 ≤ v2 ∧ v2 ≤ 2147483647) (c4 : v2 ≠ (-1)) (v3 : Int) (e3 : v3 = fx_add x1 1) (v4 : Int) (e4 : v4 = fx_add x2 1) (z : Int) (Z : fx_S) (kz : fx_Sok Z) (bz : -2147483648 ≤ z ∧ z ≤ 2147483647) (pz : s287 S v3 v4 z Z) : s287 S x1 x2 z Z := by
  obtain rfl : S = Z := pz
  exact rfl
