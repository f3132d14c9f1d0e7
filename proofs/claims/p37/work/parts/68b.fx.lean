/-! FX: the same with the latest value first -/
def fx_oR (rv : List Int) (L : Nat) (o : fx_O) : Int := match o.1 with
  | 0 => o.2
  | n + 1 => if o.2 = 0 then (if Nat.ble L n = true then 0 else rv.getD (L - 1 - n) 0) else (if Nat.ble L n = true then 0 else rv.getD (L - 1 - n) 0) + o.2
theorem fx_oR_ok (ν : List Int) (o : fx_O) : fx_oR ν.reverse ν.length o = fx_o ν o := by
  obtain ⟨n, k⟩ := o
  cases n with
  | zero => rfl
  | succ n =>
    have key : (if Nat.ble ν.length n = true then 0 else ν.reverse.getD (ν.length - 1 - n) 0) = ν.getD n 0 := by
      split
      · next h =>
        have h := Nat.le_of_ble_eq_true h
        rw [List.getD_eq_getElem?_getD, List.getElem?_eq_none h]
        rfl
      · next h =>
        have h : n < ν.length := Nat.lt_of_not_le fun z => h (Nat.ble_eq_true_of_le z)
        rw [List.getD_eq_getElem?_getD, List.getD_eq_getElem?_getD, List.getElem?_reverse (by omega)]
        congr 2
        omega
    show (if k = 0 then (if Nat.ble ν.length n = true then 0 else ν.reverse.getD (ν.length - 1 - n) 0) else (if Nat.ble ν.length n = true then 0 else ν.reverse.getD (ν.length - 1 - n) 0) + k) = (if k = 0 then ν.getD n 0 else ν.getD n 0 + k)
    rw [key]
def fx_dR1 (M : fx_M) (e : fx_Ev) (rv : List Int) (L : Nat) (S : fx_S) (K : List Int → Nat → fx_S → Prop) : Prop := match e.1 with
  | 0 => ∀ z : Int, z = fx_b e.2.1 (fx_oR rv L (fx_g e.2.2 0)) (fx_oR rv L (fx_g e.2.2 1)) → K (z :: rv) (L + 1) S
  | 1 => ∀ z : Int, z = S.1 (fx_oR rv L (fx_g e.2.2 0)) (fx_oR rv L (fx_g e.2.2 1)) → (fx_rl e.2.1).1 ≤ z ∧ z ≤ (fx_rl e.2.1).2 → K (z :: rv) (L + 1) S
  | 2 => ∀ z : Int, z = S.2.1 (fx_oR rv L (fx_g e.2.2 0)) (fx_oR rv L (fx_g e.2.2 1)) → K (z :: rv) (L + 1) S
  | 3 => fx_c e.2.1 (fx_oR rv L (fx_g e.2.2 0)) (fx_oR rv L (fx_g e.2.2 1)) → K rv L S
  | 4 => ∀ S' : fx_S, S' = (fx_up S.1 (fx_oR rv L (fx_g e.2.2 0)) (fx_oR rv L (fx_g e.2.2 1)) (fx_oR rv L (fx_g e.2.2 2)), S.2) → K rv L S'
  | 5 => ∀ S' : fx_S, S' = (S.1, fx_up S.2.1 (fx_oR rv L (fx_g e.2.2 0)) (fx_oR rv L (fx_g e.2.2 1)) (fx_oR rv L (fx_g e.2.2 2)), S.2.2) → K rv L S'
  | 6 => ∀ S' : fx_S, S' = (S.1, S.2.1, S.2.2 + 1) → K rv L S'
  | 7 => ∀ z : Int, z = ((cz_sb.getD (fx_oR rv L (fx_g e.2.2 0)).toNat []).getD (fx_oR rv L (fx_g e.2.2 1)).toNat 0).toInt → K (z :: rv) (L + 1) S
  | 8 => ∀ z : Int, z = ((cz_sl.getD (fx_oR rv L (fx_g e.2.2 0)).toNat 0 : Nat) : Int) → K (z :: rv) (L + 1) S
  | 9 => ∀ z : Int, z = M.1.1 (fx_oR rv L (fx_g e.2.2 0)) → (fx_rl 0).1 ≤ z ∧ z ≤ (fx_rl 0).2 → K (z :: rv) (L + 1) S
  | 10 => ∀ z : Int, z = M.1.2 → 0 ≤ z ∧ z ≤ 3072 → K (z :: rv) (L + 1) S
  | 11 => ∀ (z : Int) (S' : fx_S), fx_Sok S' → fx_zr (M.2.2 e.2.1) z S' → M.2.1 e.2.1 S (e.2.2.map (fx_oR rv L)) z S' → K (z :: rv) (L + 1) S'
  | 12 => ∀ z : Int, z = S.2.2 → K (z :: rv) (L + 1) S
  | 14 => ∀ S' : fx_S, S' = (fx_cy S.1 (fx_oR rv L (fx_g e.2.2 0)) (fx_oR rv L (fx_g e.2.2 1)) (fx_oR rv L (fx_g e.2.2 2)) (fx_oR rv L (fx_g e.2.2 3)) (fx_oR rv L (fx_g e.2.2 4)), S.2) → K rv L S'
  | _ => K rv L S
def fx_dR (M : fx_M) (l : List fx_Ev) (rv : List Int) (L : Nat) (S : fx_S) (K : List Int → Nat → fx_S → Prop) : Prop := match l with
  | [] => K rv L S
  | e :: l => fx_dR1 M e rv L S (fun rv' L' S' => fx_dR M l rv' L' S' K)
theorem fx_dR1_ok {M : fx_M} {e : fx_Ev} {ν : List Int} {S : fx_S} {K : List Int → Nat → fx_S → Prop} {K' : List Int → fx_S → Prop} (hK : ∀ ν S, K ν.reverse ν.length S → K' ν S) (h : fx_dR1 M e ν.reverse ν.length S K) : fx_d1 M e ν S K' := by
  have eo : fx_oR ν.reverse ν.length = fx_o ν := funext fun o => fx_oR_ok ν o
  have kp : ∀ (z : Int) (S : fx_S), K (z :: ν.reverse) (ν.length + 1) S → K' (ν ++ [z]) S := fun z S hk => hK _ _ (by
    rw [List.reverse_append, List.length_append]
    exact hk)
  unfold fx_dR1 at h
  rw [eo] at h
  obtain ⟨t, c, l⟩ := e
  match t, h with
  | 0, h => exact kp _ _ (h _ rfl)
  | 1, h => exact fun a b => kp _ _ (h _ rfl ⟨a, b⟩)
  | 2, h => exact kp _ _ (h _ rfl)
  | 3, h => exact fun a => hK _ _ (h a)
  | 4, h => exact hK _ _ (h _ rfl)
  | 5, h => exact hK _ _ (h _ rfl)
  | 6, h => exact hK _ _ (h _ rfl)
  | 7, h => exact kp _ _ (h _ rfl)
  | 8, h => exact kp _ _ (h _ rfl)
  | 9, h => exact fun a b => kp _ _ (h _ rfl ⟨a, b⟩)
  | 10, h => exact fun a b => kp _ _ (h _ rfl ⟨a, b⟩)
  | 11, h => exact fun z S' a b c => kp _ _ (h z S' a b c)
  | 12, h => exact kp _ _ (h _ rfl)
  | 13, h => exact hK _ _ h
  | 14, h => exact hK _ _ (h _ rfl)
  | n + 15, h => exact hK _ _ h
theorem fx_dR_ok {M : fx_M} : ∀ {l : List fx_Ev} {ν : List Int} {S : fx_S} {K : List Int → Nat → fx_S → Prop} {K' : List Int → fx_S → Prop}, (∀ ν S, K ν.reverse ν.length S → K' ν S) → fx_dR M l ν.reverse ν.length S K → fx_d M l ν S K' := by
  intro l
  induction l with
  | nil => intro ν S K K' hK h; exact hK _ _ h
  | cons e l ih => intro ν S K K' hK h; exact fx_dR1_ok (fun ν' S' h' => ih hK h') h
def fx_VCR (M : fx_M) (k : Nat) (ν : List Int) (S : fx_S) (p : fx_Pa) : Prop := fx_dR M p.1 ν.reverse ν.length S (fun rv L S' => match p.2 with
  | .inl o => M.2.1 k S ν (fx_oR rv L o) S'
  | .inr (k', ops) => ∀ (z : Int) (S'' : fx_S), fx_Sok S'' → fx_zr (M.2.2 k') z S'' → M.2.1 k' S' (ops.map (fx_oR rv L)) z S'' → M.2.1 k S ν z S'')
theorem fx_VCR_ok {M : fx_M} {k : Nat} {ν : List Int} {S : fx_S} {p : fx_Pa} (h : fx_VCR M k ν S p) : fx_VC M k ν S p := by
  obtain ⟨ev, x⟩ := p
  refine fx_dR_ok (fun ν' S' h' => ?_) h
  rcases x with o | ⟨k', ops⟩
  · have h' : M.2.1 k S ν (fx_oR ν'.reverse ν'.length o) S' := h'
    rw [fx_oR_ok] at h'
    exact h'
  · have h' : ∀ (z : Int) (S'' : fx_S), fx_Sok S'' → fx_zr (M.2.2 k') z S'' → M.2.1 k' S' (ops.map (fx_oR ν'.reverse ν'.length)) z S'' → M.2.1 k S ν z S'' := h'
    rw [show fx_oR ν'.reverse ν'.length = fx_o ν' from funext fun o => fx_oR_ok ν' o] at h'
    exact h'
