/-! FX: the exodus and lodging in numbers -/
/-- one number of a row is another -/
def fx_se (f : Int → Int) (k v : Int) : Int → Int := fun i => if i = k then v else f i
/-- of those away (a) who want more than b the one who wants the most (o), from p on; who: the one found so far -/
def fx_who (a o : Int → Int) (b : Int) : Nat → Int → Int → Int
  | 0, _, who => who
  | k + 1, p, who => fx_who a o b k (p + 1) (if a p = 1 ∧ b < o p ∧ (who = -1 ∨ o who ≤ o p) then p else who)
theorem fx_who_rng {a o : Int → Int} {b : Int} : ∀ (k : Nat) (p who : Int), 0 ≤ p → (who = -1 ∨ (0 ≤ who ∧ who < p)) → fx_who a o b k p who = -1 ∨ (0 ≤ fx_who a o b k p who ∧ fx_who a o b k p who < p + k) := by
  intro k
  induction k with
  | zero =>
    intro p who hp h
    unfold fx_who
    omega
  | succ k ih =>
    intro p who hp h
    unfold fx_who
    have q := ih (p + 1) (if a p = 1 ∧ b < o p ∧ (who = -1 ∨ o who ≤ o p) then p else who) (by omega) (by
      split
      · omega
      · omega)
    omega
theorem fx_who_eq {a o u : Int → Int} {b : Int} : ∀ (k : Nat) (p who : Int), 0 ≤ p → (∀ i : Int, 0 ≤ i → i < p + k → o i = u i) → (who = -1 ∨ (0 ≤ who ∧ who < p)) → fx_who a o b k p who = fx_who a u b k p who := by
  intro k
  induction k with
  | zero =>
    intro p who _ _ _
    unfold fx_who
    rfl
  | succ k ih =>
    intro p who hp h hw
    have e : (a p = 1 ∧ b < o p ∧ (who = -1 ∨ o who ≤ o p)) ↔ (a p = 1 ∧ b < u p ∧ (who = -1 ∨ u who ≤ u p)) := by
      rw [h p hp (by omega)]
      rcases hw with hw | hw
      · exact ⟨fun q => ⟨q.1, q.2.1, .inl hw⟩, fun q => ⟨q.1, q.2.1, .inl hw⟩⟩
      · rw [h who hw.1 (by omega)]
    unfold fx_who
    rw [ite_congr (propext e) (fun _ => rfl) (fun _ => rfl)]
    refine ih (p + 1) _ (by omega) (fun i i0 i1 => h i i0 (by omega)) ?_
    split
    · omega
    · omega
/-- they come back man by man: who is away, how many, how many came back, who -/
def fx_mo (o : Int → Int) (n : Nat) : Nat → (Int → Int) → Int → Int → (Int → Int) → (Int → Int) × Int × Int × (Int → Int)
  | 0, a, g, c, r => (a, g, c, r)
  | k + 1, a, g, c, r => if fx_who a o (g - 1) n 0 (-1) = -1 then (a, g, c, r) else fx_mo o n k (fx_se a (fx_who a o (g - 1) n 0 (-1)) 0) (g - 1) (c + 1) (fx_se r c (fx_who a o (g - 1) n 0 (-1)))
theorem fx_mo_eq {o u : Int → Int} {n : Nat} (h : ∀ i : Int, 0 ≤ i → i < n → o i = u i) : ∀ (k : Nat) (a : Int → Int) (g c : Int) (r : Int → Int), fx_mo o n k a g c r = fx_mo u n k a g c r := by
  intro k
  induction k with
  | zero =>
    intro a g c r
    unfold fx_mo
    rfl
  | succ k ih =>
    intro a g c r
    unfold fx_mo
    rw [fx_who_eq n 0 (-1) (by omega) (fun i i0 i1 => h i i0 (by omega)) (.inl rfl), ih]
/-- how many from p on -/
def fx_cnt (T : Int → Int) : Nat → Int → Int
  | 0, _ => 0
  | k + 1, p => T p + fx_cnt T k (p + 1)
theorem fx_cn_nn {T : Int → Int} (h : ∀ q, 0 ≤ T q) : ∀ (k : Nat) (p : Int), 0 ≤ fx_cnt T k p := by
  intro k
  induction k with
  | zero => intro p; unfold fx_cnt; omega
  | succ k ih =>
    intro p
    unfold fx_cnt
    have := ih (p + 1)
    have := h p
    omega
def fx_ap (c : Int) (t : Int × (Int → Int)) : Int × (Int → Int) := (c + t.1, t.2)
/-- one round, from p on: those who are content with g go too -/
def fx_wi (o T : Int → Int) (g : Int) : Nat → Int → (Int → Int) → Int × (Int → Int)
  | 0, _, a => (0, a)
  | k + 1, p, a => if a p = 0 ∧ o p ≤ g ∧ T p = 1 then fx_ap 1 (fx_wi o T g k (p + 1) (fx_se a p 1)) else fx_wi o T g k (p + 1) a
/-- round by round -/
def fx_few (o T : Int → Int) (n : Nat) : Nat → (Int → Int) → Int → (Int → Int) × Int
  | 0, a, g => (a, g)
  | k + 1, a, g => if (fx_wi o T g n 0 a).1 = 0 then ((fx_wi o T g n 0 a).2, g) else fx_few o T n k (fx_wi o T g n 0 a).2 (g + (fx_wi o T g n 0 a).1)
theorem fx_wi_rng {o T : Int → Int} {g : Int} : ∀ (k : Nat) (p : Int) (a : Int → Int), 0 ≤ (fx_wi o T g k p a).1 ∧ (fx_wi o T g k p a).1 ≤ k := by
  intro k
  induction k with
  | zero =>
    intro p a
    unfold fx_wi
    exact ⟨Int.le_refl _, Int.le_refl _⟩
  | succ k ih =>
    intro p a
    unfold fx_wi
    split
    · have := ih (p + 1) (fx_se a p 1)
      unfold fx_ap
      dsimp only
      omega
    · have := ih (p + 1) a
      omega
theorem fx_wi_eq {o u T : Int → Int} {g : Int} : ∀ (k : Nat) (p : Int) (a : Int → Int), (∀ i : Int, p ≤ i → i < p + k → o i = u i) → fx_wi o T g k p a = fx_wi u T g k p a := by
  intro k
  induction k with
  | zero =>
    intro p a _
    unfold fx_wi
    rfl
  | succ k ih =>
    intro p a h
    unfold fx_wi
    rw [h p (by omega) (by omega), ih (p + 1) (fx_se a p 1) (fun i i0 i1 => h i (by omega) (by omega)), ih (p + 1) a (fun i i0 i1 => h i (by omega) (by omega))]
theorem fx_fe_eq {o u T : Int → Int} {n : Nat} (h : ∀ i : Int, 0 ≤ i → i < n → o i = u i) : ∀ (k : Nat) (a : Int → Int) (g : Int), fx_few o T n k a g = fx_few u T n k a g := by
  intro k
  induction k with
  | zero =>
    intro a g
    unfold fx_few
    rfl
  | succ k ih =>
    intro a g
    unfold fx_few
    rw [fx_wi_eq n 0 a (fun i i0 i1 => h i i0 (by omega)), ih]
theorem fx_cn_se {a : Int → Int} {p : Int} (hp : a p = 0) : ∀ (k : Nat) (q : Int), q ≤ p → p < q + k → fx_cnt (fx_se a p 1) k q = fx_cnt a k q + 1 := by
  have off : ∀ (k : Nat) (q : Int), p < q → fx_cnt (fx_se a p 1) k q = fx_cnt a k q := by
    intro k
    induction k with
    | zero => intro q _; rfl
    | succ k ih =>
      intro q hq
      unfold fx_cnt
      rw [ih (q + 1) (by omega)]
      unfold fx_se
      rw [if_neg (by omega)]
  intro k
  induction k with
  | zero => intro q h1 h2; omega
  | succ k ih =>
    intro q h1 h2
    unfold fx_cnt
    by_cases e : q = p
    · subst e
      rw [off k (q + 1) (by omega)]
      unfold fx_se
      rw [if_pos rfl, hp]
      omega
    · rw [ih (q + 1) (by omega) (by omega)]
      have : fx_se a p 1 q = a q := if_neg e
      rw [this]
      omega
/-- a round counts those who go, and they stay 0 or 1 -/
theorem fx_wi_cn {o T : Int → Int} {g : Int} {n : Nat} : ∀ (k : Nat) (p : Int) (a : Int → Int), 0 ≤ p → p + k = n → (∀ i : Int, 0 ≤ i → i < n → a i = 0 ∨ a i = 1) → fx_cnt (fx_wi o T g k p a).2 n 0 = fx_cnt a n 0 + (fx_wi o T g k p a).1 ∧ ∀ i : Int, 0 ≤ i → i < n → (fx_wi o T g k p a).2 i = 0 ∨ (fx_wi o T g k p a).2 i = 1 := by
  intro k
  induction k with
  | zero =>
    intro p a _ _ h
    unfold fx_wi
    exact ⟨by dsimp only; omega, h⟩
  | succ k ih =>
    intro p a p0 pk h
    unfold fx_wi
    by_cases c : a p = 0 ∧ o p ≤ g ∧ T p = 1
    · rw [if_pos c]
      obtain ⟨u1, u2⟩ := ih (p + 1) (fx_se a p 1) (by omega) (by omega) (fun i i0 i1 => by
        unfold fx_se
        by_cases e : i = p
        · rw [if_pos e]; exact .inr rfl
        · rw [if_neg e]; exact h i i0 i1)
      unfold fx_ap
      dsimp only
      refine ⟨?_, u2⟩
      rw [u1, fx_cn_se c.1 n 0 (by omega) (by omega)]
      omega
    · rw [if_neg c]
      exact ih (p + 1) a (by omega) (by omega) h
theorem fx_cn_full {a : Int → Int} : ∀ (k : Nat) (q : Int), (∀ i : Int, q ≤ i → i < q + k → a i = 0 ∨ a i = 1) → fx_cnt a k q ≤ k ∧ (fx_cnt a k q = k → ∀ i : Int, q ≤ i → i < q + k → a i = 1) := by
  intro k
  induction k with
  | zero =>
    intro q _
    unfold fx_cnt
    exact ⟨Int.le_refl _, fun _ i i0 i1 => by omega⟩
  | succ k ih =>
    intro q h
    obtain ⟨u1, u2⟩ := ih (q + 1) (fun i i0 i1 => h i (by omega) (by omega))
    have hq := h q (by omega) (by omega)
    unfold fx_cnt
    refine ⟨by omega, fun e i i0 i1 => ?_⟩
    by_cases c : i = q
    · rw [c]; omega
    · exact u2 (by omega) i (by omega) (by omega)
theorem fx_wi_full {o T : Int → Int} {g : Int} : ∀ (k : Nat) (p : Int) (a : Int → Int), (∀ i : Int, p ≤ i → i < p + k → a i = 1) → fx_wi o T g k p a = (0, a) := by
  intro k
  induction k with
  | zero =>
    intro p a _
    unfold fx_wi
    rfl
  | succ k ih =>
    intro p a h
    unfold fx_wi
    rw [if_neg (by have := h p (by omega) (by omega); omega)]
    exact ih (p + 1) a (fun i i0 i1 => h i (by omega) (by omega))
theorem fx_mo_more {o : Int → Int} {n : Nat} : ∀ (k : Nat) (a : Int → Int) (g c : Int) (r : Int → Int), 0 ≤ c → (∀ i : Int, 0 ≤ i → i < n → a i = 0 ∨ a i = 1) → 0 ≤ (fx_mo o n k a g c r).2.2.1 ∧ ∀ i : Int, 0 ≤ i → i < n → (fx_mo o n k a g c r).1 i = 0 ∨ (fx_mo o n k a g c r).1 i = 1 := by
  intro k
  induction k with
  | zero =>
    intro a g c r hc h
    unfold fx_mo
    exact ⟨hc, h⟩
  | succ k ih =>
    intro a g c r hc h
    unfold fx_mo
    split
    · exact ⟨hc, h⟩
    · refine ih _ _ _ _ (by omega) (fun i i0 i1 => ?_)
      unfold fx_se
      split
      · exact .inl rfl
      · exact h i i0 i1
theorem fx_fe_bool {o T : Int → Int} {n : Nat} : ∀ (k : Nat) (a : Int → Int) (g : Int), (∀ i : Int, 0 ≤ i → i < n → a i = 0 ∨ a i = 1) → ∀ i : Int, 0 ≤ i → i < n → (fx_few o T n k a g).1 i = 0 ∨ (fx_few o T n k a g).1 i = 1 := by
  intro k
  induction k with
  | zero =>
    intro a g h
    unfold fx_few
    exact h
  | succ k ih =>
    intro a g h
    have w := (fx_wi_cn (o := o) (T := T) (g := g) (n := n) n 0 a (by omega) (by omega) h).2
    unfold fx_few
    split
    · exact w
    · exact ih _ _ w
theorem fx_cn_zero {T : Int → Int} : ∀ (k : Nat) (p : Int), (∀ q : Int, p ≤ q → T q = 0) → fx_cnt T k p = 0 := by
  intro k
  induction k with
  | zero => intro p _; rfl
  | succ k ih =>
    intro p h
    unfold fx_cnt
    rw [h p (Int.le_refl _), ih (p + 1) (fun q hq => h q (by omega))]
    rfl
theorem fx_cn_tail {T : Int → Int} : ∀ (n m : Nat) (p : Int), (∀ q : Int, p + n ≤ q → T q = 0) → fx_cnt T (n + m) p = fx_cnt T n p := by
  intro n
  induction n with
  | zero =>
    intro m p h
    rw [Nat.zero_add, fx_cn_zero m p (fun q hq => h q (by omega))]
    rfl
  | succ n ih =>
    intro m p h
    rw [show n + 1 + m = (n + m) + 1 by omega]
    unfold fx_cnt
    rw [ih m (p + 1) (fun q hq => h q (by omega))]
/-- who is away and who came back, on both sides -/
def fx_Rx (F : Int → Int → Int) : Prop := F 64 = F 83 ∧ F 65 = F 84 ∧ F 0 10 = F 66 30
theorem fx_Rx_eq {F G : Int → Int → Int} (h : fx_Rx F) (e : ∀ p i : Int, p = 64 ∨ p = 65 ∨ p = 83 ∨ p = 84 ∨ (p = 0 ∧ i = 10) ∨ (p = 66 ∧ i = 30) → G p i = F p i) : fx_Rx G := by
  obtain ⟨h1, h2, h3⟩ := h
  refine ⟨?_, ?_, ?_⟩
  · rw [show G 64 = F 64 from funext fun i => e _ _ (by omega), show G 83 = F 83 from funext fun i => e _ _ (by omega), h1]
  · rw [show G 65 = F 65 from funext fun i => e _ _ (by omega), show G 84 = F 84 from funext fun i => e _ _ (by omega), h2]
  · rw [e _ _ (by omega), e _ _ (by omega), h3]
/-- the first wish with a room left: the house or -1, the rooms behind it -/
def fx_lw (W : Int → Int) (cnt : Int) : Nat → Int → (Int → Int) → Int × (Int → Int)
  | 0, _, r => (-1, r)
  | k + 1, i, r => if cnt ≤ i then (-1, r) else if r (W i) = 0 then fx_lw W cnt k (i + 1) r else (W i, fx_se r (W i) (fx_sub (r (W i)) 1))
def fx_adn (c : Int) (t : Int × (Int → Int) × (Int → Int)) : Int × (Int → Int) × (Int → Int) := (c + t.1, t.2)
/-- those of one rank, from p on: how many are lodged, where, the rooms behind them -/
def fx_lr (rk th : Int → Int) (W : Int → Int → Int) (cnt : Int → Int) (rank : Int) : Nat → Int → (Int → Int) → (Int → Int) → Int × (Int → Int) × (Int → Int)
  | 0, _, f, r => (0, f, r)
  | k + 1, p, f, r => if rk p = rank ∧ th p = 1 then fx_adn (if (fx_lw (W p) (cnt p) 5 0 r).1 = -1 then 0 else 1) (fx_lr rk th W cnt rank k (p + 1) (fx_se f p (fx_lw (W p) (cnt p) 5 0 r).1) (fx_lw (W p) (cnt p) 5 0 r).2) else fx_lr rk th W cnt rank k (p + 1) f r
def fx_lkk (rk th : Int → Int) (W : Int → Int → Int) (cnt : Int → Int) (n : Nat) : Nat → (Int → Int) → (Int → Int) → Int × (Int → Int) × (Int → Int)
  | 0, f, r => (0, f, r)
  | k + 1, f, r => fx_adn (fx_lr rk th W cnt k n 0 f r).1 (fx_lkk rk th W cnt n k (fx_lr rk th W cnt k n 0 f r).2.1 (fx_lr rk th W cnt k n 0 f r).2.2)
theorem fx_lw_eq {W U : Int → Int} {cnt H : Int} : ∀ (k : Nat) (i : Int) (r s : Int → Int), 0 ≤ i → (∀ j : Int, 0 ≤ j → j < cnt → W j = U j ∧ 0 ≤ U j ∧ U j < H) → (∀ h : Int, 0 ≤ h → h < H → r h = s h) → (fx_lw W cnt k i r).1 = (fx_lw U cnt k i s).1 ∧ ∀ h : Int, 0 ≤ h → h < H → (fx_lw W cnt k i r).2 h = (fx_lw U cnt k i s).2 h := by
  intro k
  induction k with
  | zero =>
    intro i r s _ _ hr
    unfold fx_lw
    exact ⟨rfl, hr⟩
  | succ k ih =>
    intro i r s i0 hw hr
    unfold fx_lw
    by_cases c : cnt ≤ i
    · rw [if_pos c, if_pos c]
      exact ⟨rfl, hr⟩
    · rw [if_neg c, if_neg c]
      have q := hw i i0 (by omega)
      have e := hr (U i) q.2.1 q.2.2
      rw [q.1]
      by_cases c2 : s (U i) = 0
      · rw [if_pos (by omega), if_pos c2]
        exact ih (i + 1) r s (by omega) hw hr
      · rw [if_neg (by omega), if_neg c2]
        refine ⟨rfl, fun h h0 h1 => ?_⟩
        show fx_se r (U i) (fx_sub (r (U i)) 1) h = fx_se s (U i) (fx_sub (s (U i)) 1) h
        unfold fx_se
        by_cases c3 : h = U i
        · rw [if_pos c3, if_pos c3, e]
        · rw [if_neg c3, if_neg c3]
          exact hr h h0 h1
theorem fx_lw_nn {W : Int → Int} {cnt H : Int} : ∀ (k : Nat) (i : Int) (r : Int → Int), 0 ≤ i → (∀ j : Int, 0 ≤ j → j < cnt → 0 ≤ W j ∧ W j < H) → (∀ h : Int, 0 ≤ h → h < H → 0 ≤ r h ∧ r h ≤ 2147483647) → (∀ h : Int, 0 ≤ h → h < H → 0 ≤ (fx_lw W cnt k i r).2 h ∧ (fx_lw W cnt k i r).2 h ≤ 2147483647) ∧ -1 ≤ (fx_lw W cnt k i r).1 := by
  intro k
  induction k with
  | zero =>
    intro i r _ _ hr
    unfold fx_lw
    exact ⟨hr, by omega⟩
  | succ k ih =>
    intro i r i0 hw hr
    unfold fx_lw
    by_cases c : cnt ≤ i
    · rw [if_pos c]
      exact ⟨hr, by omega⟩
    · rw [if_neg c]
      have q := hw i i0 (by omega)
      have e := hr (W i) q.1 q.2
      by_cases c2 : r (W i) = 0
      · rw [if_pos c2]
        exact ih (i + 1) r (by omega) hw hr
      · rw [if_neg c2]
        refine ⟨fun h h0 h1 => ?_, by omega⟩
        show 0 ≤ fx_se r (W i) (fx_sub (r (W i)) 1) h ∧ fx_se r (W i) (fx_sub (r (W i)) 1) h ≤ 2147483647
        unfold fx_se
        by_cases c3 : h = W i
        · rw [if_pos c3, fx_sub_eq (by omega) (by omega)]; omega
        · rw [if_neg c3]
          exact hr h h0 h1
theorem fx_lr_eq {rk rk2 th : Int → Int} {W U : Int → Int → Int} {cnt cn2 : Int → Int} {rank H : Int} {n : Nat} (hn : n ≤ 80) (hrk : ∀ p : Int, 0 ≤ p → p < n → rk p = rk2 p ∧ cnt p = cn2 p ∧ ∀ j : Int, 0 ≤ j → j < cn2 p → W p j = U p j ∧ 0 ≤ U p j ∧ U p j < H) : ∀ (k : Nat) (p : Int) (f g r s : Int → Int), 0 ≤ p → p + k = n → (∀ i : Int, 0 ≤ i → i < 80 → f i = g i) → (∀ h : Int, 0 ≤ h → h < H → r h = s h) → (fx_lr rk th W cnt rank k p f r).1 = (fx_lr rk2 th U cn2 rank k p g s).1 ∧ (∀ i : Int, 0 ≤ i → i < 80 → (fx_lr rk th W cnt rank k p f r).2.1 i = (fx_lr rk2 th U cn2 rank k p g s).2.1 i) ∧ ∀ h : Int, 0 ≤ h → h < H → (fx_lr rk th W cnt rank k p f r).2.2 h = (fx_lr rk2 th U cn2 rank k p g s).2.2 h := by
  intro k
  induction k with
  | zero =>
    intro p f g r s _ _ hf hr
    unfold fx_lr
    exact ⟨rfl, hf, hr⟩
  | succ k ih =>
    intro p f g r s p0 pk hf hr
    unfold fx_lr
    obtain ⟨q1, q2, q3⟩ := hrk p p0 (by omega)
    rw [q1, q2]
    by_cases c : rk2 p = rank ∧ th p = 1
    · rw [if_pos c, if_pos c]
      obtain ⟨w1, w2⟩ := fx_lw_eq 5 0 r s (by omega) q3 hr
      rw [w1]
      obtain ⟨u1, u2, u3⟩ := ih (p + 1) (fx_se f p (fx_lw (U p) (cn2 p) 5 0 s).1) (fx_se g p (fx_lw (U p) (cn2 p) 5 0 s).1) (fx_lw (W p) (cn2 p) 5 0 r).2 (fx_lw (U p) (cn2 p) 5 0 s).2 (by omega) (by omega) (fun i i0 i1 => by
        unfold fx_se
        by_cases e : i = p
        · rw [if_pos e, if_pos e]
        · rw [if_neg e, if_neg e]; exact hf i i0 i1) w2
      unfold fx_adn
      exact ⟨by rw [u1], u2, u3⟩
    · rw [if_neg c, if_neg c]
      exact ih (p + 1) f g r s (by omega) (by omega) hf hr
theorem fx_lr_nn {rk th : Int → Int} {W : Int → Int → Int} {cnt : Int → Int} {rank H : Int} {n : Nat} (hw : ∀ p : Int, 0 ≤ p → p < n → ∀ j : Int, 0 ≤ j → j < cnt p → 0 ≤ W p j ∧ W p j < H) : ∀ (k : Nat) (p : Int) (f r : Int → Int), 0 ≤ p → p + k = n → (∀ h : Int, 0 ≤ h → h < H → 0 ≤ r h ∧ r h ≤ 2147483647) → (∀ h : Int, 0 ≤ h → h < H → 0 ≤ (fx_lr rk th W cnt rank k p f r).2.2 h ∧ (fx_lr rk th W cnt rank k p f r).2.2 h ≤ 2147483647) ∧ 0 ≤ (fx_lr rk th W cnt rank k p f r).1 ∧ (fx_lr rk th W cnt rank k p f r).1 ≤ k := by
  intro k
  induction k with
  | zero =>
    intro p f r _ _ hr
    unfold fx_lr
    exact ⟨hr, by omega, by omega⟩
  | succ k ih =>
    intro p f r p0 pk hr
    unfold fx_lr
    by_cases c : rk p = rank ∧ th p = 1
    · rw [if_pos c]
      have w := (fx_lw_nn 5 0 r (by omega) (hw p p0 (by omega)) hr).1
      obtain ⟨u1, u2, u3⟩ := ih (p + 1) (fx_se f p (fx_lw (W p) (cnt p) 5 0 r).1) (fx_lw (W p) (cnt p) 5 0 r).2 (by omega) (by omega) w
      unfold fx_adn
      refine ⟨u1, ?_, ?_⟩
      · show 0 ≤ _ + _
        split <;> omega
      · show _ + _ ≤ _
        split <;> omega
    · rw [if_neg c]
      obtain ⟨u1, u2, u3⟩ := ih (p + 1) f r (by omega) (by omega) hr
      exact ⟨u1, u2, by omega⟩
theorem fx_lk_eq {rk rk2 th : Int → Int} {W U : Int → Int → Int} {cnt cn2 : Int → Int} {H : Int} {n : Nat} (hn : n ≤ 80) (hrk : ∀ p : Int, 0 ≤ p → p < n → rk p = rk2 p ∧ cnt p = cn2 p ∧ ∀ j : Int, 0 ≤ j → j < cn2 p → W p j = U p j ∧ 0 ≤ U p j ∧ U p j < H) : ∀ (k : Nat) (f g r s : Int → Int), (∀ i : Int, 0 ≤ i → i < 80 → f i = g i) → (∀ h : Int, 0 ≤ h → h < H → r h = s h) → (fx_lkk rk th W cnt n k f r).1 = (fx_lkk rk2 th U cn2 n k g s).1 ∧ ∀ i : Int, 0 ≤ i → i < 80 → (fx_lkk rk th W cnt n k f r).2.1 i = (fx_lkk rk2 th U cn2 n k g s).2.1 i := by
  intro k
  induction k with
  | zero =>
    intro f g r s hf hr
    unfold fx_lkk
    exact ⟨rfl, hf⟩
  | succ k ih =>
    intro f g r s hf hr
    unfold fx_lkk
    obtain ⟨w1, w2, w3⟩ := fx_lr_eq (th := th) (rank := k) hn hrk n 0 f g r s (by omega) (by omega) hf hr
    obtain ⟨u1, u2⟩ := ih _ _ _ _ w2 w3
    unfold fx_adn
    rw [w1]
    exact ⟨by rw [u1], u2⟩
/-- where all are lodged, on both sides -/
def fx_Rl (F : Int → Int → Int) : Prop := (F 66 25 = 0 ∧ ∀ i : Int, 0 ≤ i → i < 80 → F 61 i = -1) ∨ (F 66 25 ≠ 0 ∧ ∀ i : Int, 0 ≤ i → i < 80 → F 61 i = F 81 i)
theorem fx_Rl_eq {F G : Int → Int → Int} (h : fx_Rl F) (e : ∀ p i : Int, p = 61 ∨ p = 81 ∨ (p = 66 ∧ i = 25) → G p i = F p i) : fx_Rl G := by
  rcases h with ⟨h1, h2⟩ | ⟨h1, h2⟩
  · exact .inl ⟨by rw [e _ _ (by omega)]; exact h1, fun i i0 i1 => by rw [e _ _ (by omega)]; exact h2 i i0 i1⟩
  · exact .inr ⟨by rw [e _ _ (by omega)]; exact h1, fun i i0 i1 => by rw [e _ _ (by omega), e _ _ (by omega)]; exact h2 i i0 i1⟩
