/-! FX: a run is told rightly -/
def fx_φ0 : fx_O × List fx_FC := ((0, -1), [])
def fx_rm (E : cz_E) (h' : cz_H) (rt : Nat) (v : Option Value) (z : Int) : Prop := if rt = 9 then v = none ∧ z = 0 else ∃ u, v = some u ∧ fx_vr E h' h'.length fx_φ0 [z] (rt, (1, 0), 0) u
def fx_PS (E : cz_E) (M : fx_M) (T : List fx_T1) (N : Nat) : Prop := ∀ (k : Nat) (t : fx_T1), T[k]? = some t → ∀ (f d : Nat) (clv : cz_LV) (h : cz_H) (v : Option Value) (h' : cz_H) (zs : List Int), f < N → fx_WF E h.length h → zs.length = (fx_lv0 t.2.2.1 0).2 → fx_LR (fx_vr E h h.length fx_φ0 zs) (fx_lv0 t.2.2.1 0).1 clv → cz_go E f d t.1 t.2.1 clv [] h = some (v, h') → fx_WF E h'.length h' ∧ fx_ext h h' ∧ ∃ z, fx_rm E h' t.2.2.2 v z ∧ M.2.1 k (fx_of E h) zs z (fx_of E h')
theorem fx_Sok_of {E : cz_E} {h : cz_H} (w : fx_WF E h.length h) : fx_Sok (fx_of E h) := by
  refine ⟨Int.natCast_nonneg _, fun p i => ?_, fun p i hp => ⟨?_, ?_⟩, fun p i => ?_⟩
  · show -1 ≤ (if 0 ≤ p ∧ 0 ≤ i then fx_cR E.1 h[p.toNat]? i.toNat else -1) ∧ (if 0 ≤ p ∧ 0 ≤ i then fx_cR E.1 h[p.toNat]? i.toNat else -1) < (h.length : Int)
    split
    · cases hc : h[p.toNat]? with
      | none => exact ⟨Int.le_refl _, by show (-1 : Int) < h.length; omega⟩
      | some c =>
        have wc := w.2 _ _ hc
        rcases c with ⟨tc, n, y⟩ | ⟨ci, fs⟩
        · rcases y with f | f | f | f | f
          · exact ⟨Int.le_refl _, by show (-1 : Int) < h.length; omega⟩
          · exact ⟨Int.le_refl _, by show (-1 : Int) < h.length; omega⟩
          · exact ⟨Int.le_refl _, by show (-1 : Int) < h.length; omega⟩
          · exact ⟨Int.le_refl _, by show (-1 : Int) < h.length; omega⟩
          · show -1 ≤ (match f i.toNat with
              | some a => (a : Int) - E.1
              | none => -1) ∧ (match f i.toNat with
              | some a => (a : Int) - E.1
              | none => -1) < (h.length : Int)
            cases hf : f i.toNat with
            | none => exact ⟨Int.le_refl _, by show (-1 : Int) < h.length; omega⟩
            | some a =>
              have key : E.1 ≤ a ∧ a - E.1 < h.length := by
                have wc : fx_ar E h h.length tc (.inr (.inr (.inr (.inr f)))) := wc
                match tc, wc with
                | 0, ⟨g, e⟩ => cases e
                | 1, ⟨g, e, _⟩ => cases e
                | 2, ⟨g, e⟩ => cases e
                | 3, ⟨g, e, _⟩ => cases e
                | 4, ⟨g, e, _⟩ => cases e
                | 5, ⟨g, e, r⟩ => cases e; exact ⟨(r _ _ hf).1, (r _ _ hf).2.1⟩
                | 6, ⟨g, e, r⟩ => cases e; exact ⟨(r _ _ hf).1, (r _ _ hf).2.1⟩
                | n + 7, e => exact e.elim
              show -1 ≤ (a : Int) - E.1 ∧ (a : Int) - E.1 < h.length
              omega
        · exact ⟨Int.le_refl _, by show (-1 : Int) < h.length; omega⟩
    · exact ⟨Int.le_refl _, by show (-1 : Int) < h.length; omega⟩
  · have hp : (h.length : Int) ≤ p := hp
    show (if 0 ≤ p ∧ 0 ≤ i then fx_cI h[p.toNat]? i.toNat else 0) = 0
    rw [List.getElem?_eq_none (by omega)]
    split <;> rfl
  · have hp : (h.length : Int) ≤ p := hp
    show (if 0 ≤ p ∧ 0 ≤ i then fx_cR E.1 h[p.toNat]? i.toNat else -1) = -1
    rw [List.getElem?_eq_none (by omega)]
    split <;> rfl
  · show -9223372036854775808 ≤ (if 0 ≤ p ∧ 0 ≤ i then fx_cI h[p.toNat]? i.toNat else 0) ∧ (if 0 ≤ p ∧ 0 ≤ i then fx_cI h[p.toNat]? i.toNat else 0) ≤ 9223372036854775807
    split
    · generalize h[p.toNat]? = c
      unfold fx_cI
      split
      · split
        · next x _ => have := fx_i32 x; omega
        · omega
      · next f => have := fx_i32 (f i.toNat); omega
      · next f => exact fx_i64 (f i.toNat)
      · omega
    · omega
theorem fx_zr_of {E : cz_E} {h' : cz_H} {rt : Nat} {v : Option Value} {z : Int} (r : fx_rm E h' rt v z) : fx_zr rt z (fx_of E h') := by
  have ho : fx_o [z] (1, 0) = z := rfl
  match rt, r with
  | 0, r =>
    obtain ⟨u, -, -, x, -, hx⟩ := r
    have hx : x.toInt = fx_o [z] (1, 0) := hx
    have := fx_i32 x
    show -2147483648 ≤ z ∧ z ≤ 2147483647
    omega
  | 1, r =>
    obtain ⟨u, -, -, x, -, hx⟩ := r
    have hx : x.toInt = fx_o [z] (1, 0) := hx
    have := fx_i64 x
    show -9223372036854775808 ≤ z ∧ z ≤ 9223372036854775807
    omega
  | 2, r =>
    obtain ⟨u, -, -, p, -, hp, hl, -⟩ := r
    have hp : (p : Int) = fx_o [z] (1, 0) := hp
    show 0 ≤ z ∧ z < (h'.length : Int)
    omega
  | 3, r =>
    obtain ⟨u, -, -, r⟩ := r
    show -1 ≤ z ∧ z < (h'.length : Int)
    rcases r with ⟨-, hp⟩ | ⟨p, -, hp, hl, -⟩
    · have hp : fx_o [z] (1, 0) = -1 := hp
      omega
    · have hp : (p : Int) = fx_o [z] (1, 0) := hp
      omega
  | 4, _ => trivial
  | 5, _ => trivial
  | 6, _ => trivial
  | 7, _ => trivial
  | 8, _ => trivial
  | 9, r => exact r.2
  | n + 10, _ => trivial
theorem fx_all_ok {α β : Type} {f : α → Option (List β)} : ∀ {l : List α} {r : List β}, fx_all l f = some r → ∀ a ∈ l, ∃ b, f a = some b ∧ ∀ x ∈ b, x ∈ r := by
  intro l
  induction l with
  | nil => intro r _ a ha; cases ha
  | cons x l ih =>
    intro r e a ha
    unfold fx_all at e
    cases hx : f x with
    | none => rw [hx] at e; cases e
    | some b =>
      rw [hx] at e
      cases hl : fx_all l f with
      | none => rw [hl] at e; cases e
      | some r' =>
        rw [hl] at e
        cases e
        rcases List.mem_cons.mp ha with rfl | ha
        · exact ⟨b, hx, fun y hy => List.mem_append_left _ hy⟩
        · obtain ⟨b', h1, h2⟩ := ih hl a ha
          exact ⟨b', h1, fun y hy => List.mem_append_right _ (h2 y hy)⟩
theorem fx_SR.len {P : fx_V → Value → Prop} : ∀ {l : List fx_V} {r : List Value}, fx_SR P l r → l.length = r.length := by
  intro l
  induction l with
  | nil => intro r h; rw [h.nil]; rfl
  | cons s l ih => intro r h; obtain ⟨v, c, rfl, -, h2⟩ := h.cons; show l.length + 1 = c.length + 1; rw [ih h2]
theorem fx_SR.app {P : fx_V → Value → Prop} : ∀ {l l' : List fx_V} {r r' : List Value}, fx_SR P l r → fx_SR P l' r' → fx_SR P (l ++ l') (r ++ r') := by
  intro l
  induction l with
  | nil => intro l' r r' h h'; rw [h.nil]; exact h'
  | cons s l ih => intro l' r r' h h'; obtain ⟨v, c, rfl, h1, h2⟩ := h.cons; exact ⟨h1, ih h2 h'⟩
theorem fx_SR.rev {P : fx_V → Value → Prop} : ∀ {l : List fx_V} {r : List Value}, fx_SR P l r → fx_SR P l.reverse r.reverse := by
  intro l
  induction l with
  | nil => intro r h; rw [h.nil]; trivial
  | cons s l ih =>
    intro r h
    obtain ⟨v, c, rfl, h1, h2⟩ := h.cons
    rw [List.reverse_cons, List.reverse_cons]
    exact (ih h2).app ⟨h1, trivial⟩
theorem fx_SR.take {P : fx_V → Value → Prop} : ∀ (n : Nat) {l : List fx_V} {r : List Value}, fx_SR P l r → fx_SR P (l.take n) (r.take n) ∧ fx_SR P (l.drop n) (r.drop n) := by
  intro n
  induction n with
  | zero => intro l r h; exact ⟨trivial, h⟩
  | succ n ih =>
    intro l r h
    cases l with
    | nil => rw [h.nil]; exact ⟨trivial, trivial⟩
    | cons s l =>
      obtain ⟨v, c, rfl, h1, h2⟩ := h.cons
      exact ⟨⟨h1, (ih h2).1⟩, (ih h2).2⟩
theorem fx_as_ok {P : fx_V → Value → Prop} (hc : ∀ s v, P s v → (s.1 = 1 → v.category = 2) ∧ (¬ s.1 = 1 → v.category = 1)) : ∀ {l : List fx_V} {r : List Value} (i : Nat), fx_SR P l r → fx_LR P (fx_as i l) (lv_args i r) := by
  intro l
  induction l with
  | nil => intro r i h j s e; cases e
  | cons s l ih =>
    intro r i h
    obtain ⟨v, c, rfl, h1, h2⟩ := h.cons
    intro j t e
    have e : (if i = j then some s else fx_lk (fx_as (if s.1 = 1 then i + 2 else i + 1) l) j) = some t := e
    have e' : ∀ w, (if i = j then some v else cz_lk (lv_args (if v.category = 2 then i + 2 else i + 1) c) j) = some w → cz_lk (lv_args i (v :: c)) j = some w := fun w z => z
    split at e
    · next hij =>
      cases e
      exact ⟨v, e' v (if_pos hij), h1⟩
    · next hij =>
      have hcc : (if s.1 = 1 then i + 2 else i + 1) = (if v.category = 2 then i + 2 else i + 1) := by
        by_cases hs : s.1 = 1
        · rw [if_pos hs, if_pos ((hc s v h1).1 hs)]
        · rw [if_neg hs, if_neg (by rw [(hc s v h1).2 hs]; decide)]
      rw [hcc] at e
      obtain ⟨w, hw, pw⟩ := ih _ h2 j t e
      exact ⟨w, e' w ((if_neg hij).trans hw), pw⟩
/-- a value told by other numbers -/
theorem fx_vr_re {E : cz_E} {h : cz_H} {φ φ' : fx_O × List fx_FC} {ν zs : List Int} {t w w' : Nat} {o o' : fx_O} {v : Value} (hφ : φ.2 = []) (r : fx_vr E h h.length φ ν (t, o, w) v) (hl : o'.1 ≤ zs.length) (ho : fx_o zs o' = fx_o ν o) (hw : w' = 0 ∨ w = w') : fx_vr E h h.length φ' zs (t, o', w') v := by
  refine ⟨hl, ?_⟩
  obtain ⟨-, r⟩ := r
  match t, r with
  | 0, ⟨y, e, g⟩ => exact ⟨y, e, g.trans ho.symm⟩
  | 1, ⟨y, e, g⟩ => exact ⟨y, e, g.trans ho.symm⟩
  | 2, ⟨p, e, g, hp, _, hh⟩ =>
    refine ⟨p, e, g.trans ho.symm, hp, .inl hp, ?_⟩
    rcases hw with rfl | rfl
    · exact .inl rfl
    · exact hh
  | 3, r =>
    rcases r with ⟨e, g⟩ | ⟨p, e, g, hp, hq⟩
    · exact .inl ⟨e, ho.trans g⟩
    · exact .inr ⟨p, e, g.trans ho.symm, hp, hq⟩
  | 4, r => exact r
  | 5, ⟨i, hi, e, g⟩ => exact ⟨i, hi, e, g.trans ho.symm⟩
  | 6, ⟨i, hi, e, g⟩ => exact ⟨i, hi, e, g.trans ho.symm⟩
  | 7, r => exact r
  | 8, r => exact r
  | n + 9, r => exact r.elim
theorem fx_mt_ok {E : cz_E} {h : cz_H} {φ : fx_O × List fx_FC} {ν : List Int} {lv : fx_L} {clv : cz_LV} (hφ : φ.2 = []) (L : fx_LR (fx_vr E h h.length φ ν) lv clv) : ∀ {l : List (Nat × Nat × Option Int × Nat)} {ops : List fx_O} (pre : List Int), fx_mt lv l = some ops → (fx_lv0 l pre.length).2 = pre.length + ops.length ∧ ∀ post, fx_LR (fx_vr E h h.length fx_φ0 (pre ++ ops.map (fx_o ν) ++ post)) (fx_lv0 l pre.length).1 clv := by
  intro l
  induction l with
  | nil =>
    intro ops pre e
    cases e
    exact ⟨rfl, fun post i s hs => by cases hs⟩
  | cons p l ih =>
    intro ops pre e
    unfold fx_mt at e
    cases h1 : fx_mt1 lv p with
    | none => rw [h1] at e; cases e
    | some a =>
      rw [h1] at e
      cases h2 : fx_mt lv l with
      | none => rw [h2] at e; cases e
      | some b =>
        rw [h2] at e
        cases e
        unfold fx_mt1 at h1
        cases hs : fx_lk lv p.1 with
        | none => rw [hs] at h1; cases h1
        | some s =>
          rw [hs] at h1
          have h1 : (if s.1 = p.2.1 ∧ (p.2.2.2 = 0 ∨ s.2.2 = p.2.2.2) then (match p.2.2.1 with
            | some k => if s.2.1.1 = 0 ∧ s.2.1.2 = k then some [] else none
            | none => some [s.2.1]) else none) = some a := h1
          split at h1
          · next hc =>
            obtain ⟨c1, c2⟩ := hc
            obtain ⟨v, hv, r⟩ := L _ _ hs
            unfold fx_lv0
            cases hk : p.2.2.1 with
            | some k =>
              rw [hk] at h1
              have h1 : (if s.2.1.1 = 0 ∧ s.2.1.2 = k then some [] else none) = some a := h1
              split at h1
              · next hk2 =>
                cases h1
                obtain ⟨i1, i2⟩ := ih pre h2
                refine ⟨i1, fun post i t ht => ?_⟩
                have ht : (if p.1 = i then some ((p.2.1, (0, k), p.2.2.2) : fx_V) else fx_lk (fx_lv0 l pre.length).1 i) = some t := ht
                split at ht
                · next hi =>
                  cases ht
                  subst hi
                  refine ⟨v, hv, ?_⟩
                  obtain ⟨st, so, sw⟩ := s
                  have c1 : st = p.2.1 := c1
                  subst c1
                  refine fx_vr_re hφ r (Nat.zero_le _) ?_ c2
                  obtain ⟨so1, so2⟩ := so
                  have k1 : so1 = 0 := hk2.1
                  have k2 : so2 = k := hk2.2
                  subst k1; subst k2
                  rfl
                · exact i2 post i t ht
              · cases h1
            | none =>
              rw [hk] at h1
              cases h1
              obtain ⟨i1, i2⟩ := ih (pre ++ [fx_o ν s.2.1]) h2
              rw [List.length_append] at i1 i2
              have i1 : (fx_lv0 l (pre.length + 1)).2 = pre.length + 1 + b.length := i1
              have i2 : ∀ post, fx_LR (fx_vr E h h.length fx_φ0 (pre ++ [fx_o ν s.2.1] ++ b.map (fx_o ν) ++ post)) (fx_lv0 l (pre.length + 1)).1 clv := i2
              refine ⟨?_, fun post i t ht => ?_⟩
              · show (fx_lv0 l (pre.length + 1)).2 = pre.length + ([s.2.1] ++ b).length
                rw [i1, List.length_append, Nat.add_assoc]
                rfl
              · have ht : (if p.1 = i then some ((p.2.1, (pre.length + 1, 0), p.2.2.2) : fx_V) else fx_lk (fx_lv0 l (pre.length + 1)).1 i) = some t := ht
                have e9 : pre ++ ([s.2.1] ++ b).map (fx_o ν) ++ post = (pre ++ [fx_o ν s.2.1]) ++ b.map (fx_o ν) ++ post := by simp
                rw [e9]
                split at ht
                · next hi =>
                  cases ht
                  subst hi
                  refine ⟨v, hv, ?_⟩
                  obtain ⟨st, so, sw⟩ := s
                  have c1 : st = p.2.1 := c1
                  subst c1
                  refine fx_vr_re hφ r ?_ ?_ c2
                  · show pre.length + 1 ≤ _
                    rw [List.length_append, List.length_append, List.length_append]
                    show pre.length + 1 ≤ pre.length + 1 + _ + _
                    omega
                  · show (pre ++ [fx_o ν so] ++ b.map (fx_o ν) ++ post).getD pre.length 0 = fx_o ν so
                    rw [List.append_assoc, List.append_assoc, List.getD_eq_getElem?_getD, List.getElem?_append_right (Nat.le_refl _), Nat.sub_self]
                    rfl
                · exact i2 post i t ht
          · cases h1
theorem fx_fe_ok {mi pc : Nat} {lv : fx_L} {k0 : Nat} {ops : List fx_O} {rt : Nat} : ∀ {T : List fx_T1} (k : Nat), fx_fe T mi pc lv k = some (k0, ops, rt) → ∃ (j : Nat) (t : fx_T1), k0 = k + j ∧ T[j]? = some t ∧ t.1 = mi ∧ t.2.1 = pc ∧ fx_mt lv t.2.2.1 = some ops ∧ rt = t.2.2.2 := by
  intro T
  induction T with
  | nil => intro k e; cases e
  | cons t T ih =>
    intro k e
    unfold fx_fe at e
    have rc : fx_fe T mi pc lv (k + 1) = some (k0, ops, rt) → ∃ (j : Nat) (t' : fx_T1), k0 = k + j ∧ (t :: T)[j]? = some t' ∧ t'.1 = mi ∧ t'.2.1 = pc ∧ fx_mt lv t'.2.2.1 = some ops ∧ rt = t'.2.2.2 := fun e => by
      obtain ⟨j, t', h1, h2⟩ := ih (k + 1) e
      exact ⟨j + 1, t', by omega, h2⟩
    split at e
    · next hc =>
      cases hm : fx_mt lv t.2.2.1 with
      | none => rw [hm] at e; exact rc e
      | some o =>
        rw [hm] at e
        cases e
        obtain ⟨hc1, hc2⟩ := Bool.and_eq_true_iff.mp hc
        exact ⟨0, t, rfl, rfl, Nat.eq_of_beq_eq_true hc1, Nat.eq_of_beq_eq_true hc2, hm, rfl⟩
    · exact rc e
section FXE
variable {E : cz_E} {M : fx_M} {ν0 : List Int} {S0 : fx_S} {h0 : cz_H} {σ : fx_Y} {ν : List Int} {h : cz_H} {n0 : Nat}
def fx_OUT (E : cz_E) (M : fx_M) (ν0 : List Int) (S0 : fx_S) (h0 : cz_H) (σ : fx_Y) (ν : List Int) (h : cz_H) (n0 : Nat) (en : fx_En) (v : Option Value) (h' : cz_H) : Prop := match en.2 with
  | .inl s => ∃ ν' n0', fx_J E M ν0 S0 h0 en.1 ν' h' n0' ∧ fx_ok2 E σ ν h n0 en.1 ν' h' n0' ∧ (match s with
    | none => v = none
    | some s => ∃ u, v = some u ∧ fx_P E h' n0' en.1 ν' s u)
  | .inr (k, ops) => ∃ ν' hm z, fx_J E M ν0 S0 h0 en.1 ν' hm hm.length ∧ fx_WF E h'.length h' ∧ fx_ext hm h' ∧ fx_rm E h' (M.2.2 k) v z ∧ M.2.1 k (fx_of E hm) (ops.map (fx_o ν')) z (fx_of E h')
theorem fx_OUT.pre {σ1 : fx_Y} {ν1 : List Int} {h1 : cz_H} {n1 : Nat} {en : fx_En} {v : Option Value} {h' : cz_H} (o : fx_OUT E M ν0 S0 h0 σ1 ν1 h1 n1 en v h') (U : fx_ok2 E σ ν h n0 σ1 ν1 h1 n1) : fx_OUT E M ν0 S0 h0 σ ν h n0 en v h' := by
  obtain ⟨a, b⟩ := en
  rcases b with s | ⟨k, ops⟩
  · obtain ⟨ν', n', J, V, r⟩ := o
    exact ⟨ν', n', J, fun s v p => V s v (U s v p), r⟩
  · exact o
theorem fx_x3_ok {nL : Nat} {q : cz_I} {st : List fx_V} {y : (Nat × List fx_V × List fx_V) ⊕ Option fx_V} {clv : cz_LV} {cst : List Value} (e : fx_x3 q st = some y) (S : fx_SR (fx_P E h n0 σ ν) st cst) : cz_s1 E nL q clv cst = none ∧ cz_s2 E q cst h = none ∧ (cz_s3 E q cst h = none ∨ match y with
    | .inl (mj, as, r) => ∃ cas cr, cz_s3 E q cst h = some (.inl (mj, cas, cr)) ∧ fx_SR (fx_P E h n0 σ ν) as cas ∧ fx_SR (fx_P E h n0 σ ν) r cr
    | .inr none => cz_s3 E q cst h = some (.inr none)
    | .inr (some s) => ∃ u, cz_s3 E q cst h = some (.inr (some u)) ∧ fx_P E h n0 σ ν s u) := by
  obtain ⟨pc, ins, len, xa, xb⟩ := q
  have pop : ∀ {n : Nat} {α : Type} {k : List fx_V → List fx_V → Option α} {r : α}, fx_pop n st k = some r → n ≤ st.length ∧ k (st.take n).reverse (st.drop n) = some r := by
    intro n α k r e
    unfold fx_pop at e
    split at e
    · exact ⟨by assumption, e⟩
    · cases e
  cases ins
  case invokevirtual m =>
    refine ⟨rfl, rfl, ?_⟩
    obtain ⟨e0, e1⟩ := cz_n_some e
    have e0 : len = 3 := e0
    subst e0
    obtain ⟨g1, e2⟩ := cz_if_some e1
    obtain ⟨hn, e3⟩ := pop e2
    cases e3
    have hT := S.take xb.toNat
    cases hr : cz_s3 E (pc, .invokevirtual m, 3, xa, xb) cst h with
    | none => exact .inl rfl
    | some y =>
      have hr2 : cz_n 3 3 (cz_if (decide (0 < xb)) (cz_pop xb.toNat cst fun as r => cz_if (cz_rc E h (cz_mf xa).1 as && decide (cz_sum r ≤ 8) && decide (cz_sum as ≤ (cz_mf xa).2.2.2.2.1)) (some (.inl (xa, as, r))))) = some y := hr
      obtain ⟨-, r1⟩ := cz_n_some hr2
      obtain ⟨-, r2⟩ := cz_if_some r1
      have r2 : (if xb.toNat ≤ cst.length then cz_if (cz_rc E h (cz_mf xa).1 (cst.take xb.toNat).reverse && decide (cz_sum (cst.drop xb.toNat) ≤ 8) && decide (cz_sum (cst.take xb.toNat).reverse ≤ (cz_mf xa).2.2.2.2.1)) (some (Sum.inl (xa, (cst.take xb.toNat).reverse, cst.drop xb.toNat))) else none) = some y := r2
      rw [if_pos (by rw [← S.len]; exact hn)] at r2
      obtain ⟨-, r3⟩ := cz_if_some r2
      cases r3
      exact .inr ⟨_, _, rfl, hT.1.rev, hT.2⟩
  case invokestatic m =>
    obtain ⟨e0, e1⟩ := cz_n_some e
    have e0 : len = 3 := e0
    subst e0
    obtain ⟨g1, e2⟩ := cz_if_some e1
    have g1 : 0 ≤ xb := of_decide_eq_true g1
    refine ⟨rfl, ?_, ?_⟩
    · show cz_n 3 3 (cz_if (xb == -5) _) = none
      have : (xb == -5) = false := by
        cases h9 : xb == -5 with
        | false => rfl
        | true => have : xb = -5 := by simpa using h9
                  omega
      rw [this]; rfl
    obtain ⟨hn, e3⟩ := pop e2
    cases e3
    have hT := S.take xb.toNat
    cases hr : cz_s3 E (pc, .invokestatic m, 3, xa, xb) cst h with
    | none => exact .inl rfl
    | some y =>
      have hr2 : cz_n 3 3 (cz_if (decide (0 ≤ xb)) (cz_pop xb.toNat cst fun as r => cz_if (decide (cz_sum r ≤ 8) && decide (cz_sum as ≤ (cz_mf xa).2.2.2.2.1)) (some (.inl (xa, as, r))))) = some y := hr
      obtain ⟨-, r1⟩ := cz_n_some hr2
      obtain ⟨-, r2⟩ := cz_if_some r1
      have r2 : (if xb.toNat ≤ cst.length then cz_if (decide (cz_sum (cst.drop xb.toNat) ≤ 8) && decide (cz_sum (cst.take xb.toNat).reverse ≤ (cz_mf xa).2.2.2.2.1)) (some (Sum.inl (xa, (cst.take xb.toNat).reverse, cst.drop xb.toNat))) else none) = some y := r2
      rw [if_pos (by rw [← S.len]; exact hn)] at r2
      obtain ⟨-, r3⟩ := cz_if_some r2
      cases r3
      exact .inr ⟨_, _, rfl, hT.1.rev, hT.2⟩
  case invokespecial m =>
    obtain ⟨e0, e1⟩ := cz_n_some e
    have e0 : len = 3 := e0
    subst e0
    obtain ⟨g1, e2⟩ := cz_if_some e1
    have g1 : 0 < xb := of_decide_eq_true g1
    refine ⟨rfl, ?_, ?_⟩
    · show cz_n 3 3 (cz_if (xb == -4) _) = none
      have : (xb == -4) = false := by
        cases h9 : xb == -4 with
        | false => rfl
        | true => have : xb = -4 := by simpa using h9
                  omega
      rw [this]; rfl
    obtain ⟨hn, e3⟩ := pop e2
    cases e3
    have hT := S.take xb.toNat
    cases hr : cz_s3 E (pc, .invokespecial m, 3, xa, xb) cst h with
    | none => exact .inl rfl
    | some y =>
      have hr2 : cz_n 3 3 (cz_if (decide (0 < xb)) (cz_pop xb.toNat cst fun as r => cz_if (cz_rc E h (cz_mf xa).1 as && decide (cz_sum r ≤ 8) && decide (cz_sum as ≤ (cz_mf xa).2.2.2.2.1)) (some (.inl (xa, as, r))))) = some y := hr
      obtain ⟨-, r1⟩ := cz_n_some hr2
      obtain ⟨-, r2⟩ := cz_if_some r1
      have r2 : (if xb.toNat ≤ cst.length then cz_if (cz_rc E h (cz_mf xa).1 (cst.take xb.toNat).reverse && decide (cz_sum (cst.drop xb.toNat) ≤ 8) && decide (cz_sum (cst.take xb.toNat).reverse ≤ (cz_mf xa).2.2.2.2.1)) (some (Sum.inl (xa, (cst.take xb.toNat).reverse, cst.drop xb.toNat))) else none) = some y := r2
      rw [if_pos (by rw [← S.len]; exact hn)] at r2
      obtain ⟨-, r3⟩ := cz_if_some r2
      cases r3
      exact .inr ⟨_, _, rfl, hT.1.rev, hT.2⟩
  case ireturn =>
    refine ⟨rfl, rfl, ?_⟩
    obtain ⟨e0, e1⟩ := cz_n_some e
    have e0 : len = 1 := e0
    subst e0
    obtain ⟨s, r, rfl, e2⟩ := fx_v1_some e1
    obtain ⟨g1, e3⟩ := cz_if_some e2
    cases e3
    obtain ⟨v, cr, rfl, hs, hr⟩ := S.cons
    cases hr2 : cz_s3 E (pc, .ireturn, 1, xa, xb) (v :: cr) h with
    | none => exact .inl rfl
    | some y =>
      have hr3 : cz_n 1 1 (cz_i1 (v :: cr) fun x r => cz_if (r.isEmpty && cz_nr xa x) (some (.inr (some (.int x))))) = some y := hr2
      obtain ⟨-, r1⟩ := cz_n_some hr3
      obtain ⟨x, rest, hst, r2⟩ := cz_i1_some r1
      cases hst
      obtain ⟨-, r3⟩ := cz_if_some r2
      cases r3
      exact .inr ⟨_, rfl, hs⟩
  case lreturn =>
    refine ⟨rfl, rfl, ?_⟩
    obtain ⟨e0, e1⟩ := cz_n_some e
    have e0 : len = 1 := e0
    subst e0
    obtain ⟨s, r, rfl, e2⟩ := fx_v1_some e1
    obtain ⟨g1, e3⟩ := cz_if_some e2
    cases e3
    obtain ⟨v, cr, rfl, hs, hr⟩ := S.cons
    cases hr2 : cz_s3 E (pc, .lreturn, 1, xa, xb) (v :: cr) h with
    | none => exact .inl rfl
    | some y =>
      have hr3 : cz_n 1 1 (cz_l1 (v :: cr) fun x r => cz_if r.isEmpty (some (.inr (some (.long x))))) = some y := hr2
      obtain ⟨-, r1⟩ := cz_n_some hr3
      obtain ⟨x, rest, hst, r2⟩ := cz_l1_some r1
      cases hst
      obtain ⟨-, r3⟩ := cz_if_some r2
      cases r3
      exact .inr ⟨_, rfl, hs⟩
  case areturn =>
    refine ⟨rfl, rfl, ?_⟩
    obtain ⟨e0, e1⟩ := cz_n_some e
    have e0 : len = 1 := e0
    subst e0
    obtain ⟨s, r, rfl, e2⟩ := fx_v1_some e1
    obtain ⟨g1, e3⟩ := cz_if_some e2
    cases e3
    obtain ⟨v, cr, rfl, hs, hr⟩ := S.cons
    cases hr2 : cz_s3 E (pc, .areturn, 1, xa, xb) (v :: cr) h with
    | none => exact .inl rfl
    | some y =>
      have hr3 : cz_n 1 1 (cz_v1 (v :: cr) fun x r => cz_if (r.isEmpty && cz_isA x) (some (.inr (some x)))) = some y := hr2
      obtain ⟨-, r1⟩ := cz_n_some hr3
      obtain ⟨x, rest, hst, r2⟩ := cz_v1_some r1
      cases hst
      obtain ⟨-, r3⟩ := cz_if_some r2
      cases r3
      exact .inr ⟨_, rfl, hs⟩
  case return_ =>
    refine ⟨rfl, rfl, ?_⟩
    obtain ⟨e0, e1⟩ := cz_n_some e
    have e0 : len = 1 := e0
    subst e0
    obtain ⟨g1, e3⟩ := cz_if_some e1
    cases e3
    have : st = [] := List.isEmpty_iff.mp g1
    subst this
    rw [S.nil]
    exact .inr rfl
  all_goals cases e
end FXE
