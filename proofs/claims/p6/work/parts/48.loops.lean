/-! THE CHECKER IS SOUND: three loops that copy rows -/
section CW1
variable {E : cz_E} {d mi pc a : Nat} {b : Int} {lv : cz_LV} {st : List Value} {h : cz_H} {Post : Option Value → cz_H → Prop}
theorem cw_iload_n {k : Fin 4} {x : Int32} (hq : cz_ft2 (cz_cd mi) pc = some (pc, .iload_n k, 1, a, b)) (e : cz_lk lv k = some (.int x)) (w : cz_W E d mi (pc + 1) lv (.int x :: st) h Post) : cz_W E d mi pc lv st h Post := by
  refine cz_W.one hq ?_ w
  show cz_n 1 1 (cz_ki (cz_lk lv k) fun x => some (pc + 1, lv, Value.int x :: st)) = _
  rw [e]
  rfl
theorem cw_iload {k : Nat} {x : Int32} (hq : cz_ft2 (cz_cd mi) pc = some (pc, .iload k, 2, a, b)) (e : cz_lk lv k = some (.int x)) (w : cz_W E d mi (pc + 2) lv (.int x :: st) h Post) : cz_W E d mi pc lv st h Post := by
  refine cz_W.one hq ?_ w
  show cz_n 2 2 (cz_ki (cz_lk lv k) fun x => some (pc + 2, lv, Value.int x :: st)) = _
  rw [e]
  rfl
theorem cw_aload_n {k : Fin 4} {p : Nat} (hq : cz_ft2 (cz_cd mi) pc = some (pc, .aload_n k, 1, a, b)) (e : cz_lk lv k = some (.ref p)) (w : cz_W E d mi (pc + 1) lv (.ref p :: st) h Post) : cz_W E d mi pc lv st h Post := by
  refine cz_W.one hq ?_ w
  show cz_n 1 1 (cz_ka (cz_lk lv k) fun x => some (pc + 1, lv, x :: st)) = _
  rw [e]
  rfl
theorem cw_sipush {v : Int} (hq : cz_ft2 (cz_cd mi) pc = some (pc, .sipush v, 3, a, b)) (w : cz_W E d mi (pc + 3) lv (.int (Int16.ofInt v).toInt32 :: st) h Post) : cz_W E d mi pc lv st h Post := cz_W.one hq rfl w
theorem cw_imul {x y : Int32} (hq : cz_ft2 (cz_cd mi) pc = some (pc, .imul, 1, a, b)) (w : cz_W E d mi (pc + 1) lv (.int (x * y) :: st) h Post) : cz_W E d mi pc lv (.int y :: .int x :: st) h Post := cz_W.one hq rfl w
theorem cw_iadd {x y : Int32} (hq : cz_ft2 (cz_cd mi) pc = some (pc, .iadd, 1, a, b)) (w : cz_W E d mi (pc + 1) lv (.int (x + y) :: st) h Post) : cz_W E d mi pc lv (.int y :: .int x :: st) h Post := cz_W.one hq rfl w
theorem cw_goto {off : Int} {t : Nat} (hq : cz_ft2 (cz_cd mi) pc = some (pc, .goto off, 3, a, b)) (ht : (pc : Int) + off = (t : Int)) (w : cz_W E d mi t lv st h Post) : cz_W E d mi pc lv st h Post := by
  refine cz_W.one hq ?_ w
  show cz_n 3 3 (cz_j pc off fun t => some (t, lv, st)) = _
  rw [ck_j_of ht]
  rfl
theorem cw_ge0 {off : Int} {t : Nat} {x y : Int32} (hq : cz_ft2 (cz_cd mi) pc = some (pc, .if_icmp .ge off, 3, a, b)) (ht : (pc : Int) + off = (t : Int)) (hxy : x.toInt < y.toInt) (w : cz_W E d mi (pc + 3) lv st h Post) : cz_W E d mi pc lv (.int y :: .int x :: st) h Post := by
  refine cz_W.one hq ?_ w
  show cz_n 3 3 (cz_j pc off fun t => some (if cz_b2 .ge x y = true then t else pc + 3, lv, st)) = _
  rw [ck_j_of ht, if_neg (fun z => by
    have z := ck_b2_iff.mp z
    have z : 0 ≤ x.toInt - y.toInt := z
    omega)]
  rfl
theorem cw_ge1 {off : Int} {t : Nat} {x y : Int32} (hq : cz_ft2 (cz_cd mi) pc = some (pc, .if_icmp .ge off, 3, a, b)) (ht : (pc : Int) + off = (t : Int)) (hxy : y.toInt ≤ x.toInt) (w : cz_W E d mi t lv st h Post) : cz_W E d mi pc lv (.int y :: .int x :: st) h Post := by
  refine cz_W.one hq ?_ w
  show cz_n 3 3 (cz_j pc off fun t => some (if cz_b2 .ge x y = true then t else pc + 3, lv, st)) = _
  have hb : cz_b2 .ge x y = true := ck_b2_iff.mpr (show ck_hol .ge (x.toInt - y.toInt) from (show 0 ≤ x.toInt - y.toInt by omega))
  rw [ck_j_of ht, if_pos hb]
  rfl
theorem cw_getfield {i ci p : Nat} {vs : List Value} {v : Value} (hq : cz_ft2 (cz_cd mi) pc = some (pc, .getfield i, 3, ci, b)) (hc : ci ≠ 100) (e : h[p]? = some (.inr (ci, vs))) (e2 : vs[b.toNat]? = some v) (w : cz_W E d mi (pc + 3) lv (v :: st) h Post) : cz_W E d mi pc lv (.ref (E.1 + p) :: st) h Post := by
  refine cz_W.two hq rfl ?_ w
  show cz_n 3 3 (if ci = 100 then _ else cz_ob (cz_at E h (E.1 + p)) fun ci' fs => cz_if (ci' == ci) (cz_so fs[b.toNat]? fun v => some (pc + 3, v :: st, h))) = _
  rw [if_neg hc, cz_at_add, e]
  show cz_n 3 3 (cz_if (ci == ci) (cz_so vs[b.toNat]? fun v => some (pc + 3, v :: st, h))) = _
  rw [e2, beq_self_eq_true]
  rfl
theorem cw_iaload {p len : Nat} {f : Nat → Int32} {z : Int32} (hE : cz_Eok E) (hq : cz_ft2 (cz_cd mi) pc = some (pc, .iaload, 1, a, b)) (e : h[p]? = some (.inl (0, len, .inl f))) (hz : cz_in z len = true) (w : cz_W E d mi (pc + 1) lv (.int (f z.toNatClampNeg) :: st) h Post) : cz_W E d mi pc lv (.int z :: .ref (E.1 + p) :: st) h Post := by
  refine cz_W.two hq rfl ?_ w
  exact ck_el_load (tc := 0) (y := .inl f) hE rfl (Or.inl rfl) e hz
theorem cw_iastore {p len : Nat} {f : Nat → Int32} {z x : Int32} (hq : cz_ft2 (cz_cd mi) pc = some (pc, .iastore, 1, a, b)) (e : h[p]? = some (.inl (0, len, .inl f))) (hz : cz_in z len = true) (w : cz_W E d mi (pc + 1) lv st (h.set p (.inl (0, len, .inl (upd f z.toNatClampNeg x)))) Post) : cz_W E d mi pc lv (.int x :: .int z :: .ref (E.1 + p) :: st) h Post := by
  refine cz_W.two hq rfl ?_ w
  show cz_n 1 1 (cz_ai (cz_at E h (E.1 + p)) fun tc n f => cz_if (tc == 0 && cz_in z n) (some (pc + 1, st, h.set (E.1 + p - E.1) (.inl (0, n, .inl (upd f z.toNatClampNeg x)))))) = _
  rw [cz_at_add, e]
  show cz_n 1 1 (cz_if (0 == 0 && cz_in z len) (some (pc + 1, st, h.set (E.1 + p - E.1) (.inl (0, len, .inl (upd f z.toNatClampNeg x)))))) = _
  rw [hz, Nat.add_sub_cancel_left]
  rfl
theorem cw_iinc {k : Nat} {m : Int} {x : Int32} (hq : cz_ft2 (cz_cd mi) pc = some (pc, .iinc k m, 3, a, b)) (e : cz_lk lv k = some (.int x)) (hk : k < (cz_mf mi).2.2.2.2.1) (w : cz_W E d mi (pc + 3) (cz_st1 lv k (.int (x + Int32.ofInt m))) st h Post) : cz_W E d mi pc lv st h Post := by
  refine cz_W.one hq ?_ w
  show cz_if (3 == 3 || 3 == 6) (cz_ki (cz_lk lv k) fun x => cz_if (decide (k < (cz_mf mi).2.2.2.2.1)) (some (pc + 3, cz_st1 lv k (.int (x + Int32.ofInt m)), st))) = _
  rw [e]
  show cz_if (3 == 3 || 3 == 6) (cz_if (decide (k < (cz_mf mi).2.2.2.2.1)) (some (pc + 3, cz_st1 lv k (.int (x + Int32.ofInt m)), st))) = _
  rw [decide_eq_true hk]
  rfl
end CW1
/-! locals but one -/
def ck_LX (E : cz_E) (Γ : ck_G) (ρ : List Int) (lv : ck_LV) (l : Nat) (clv : cz_LV) : Prop := ∀ (j : Nat) (v : ck_V), j ≠ l → ck_lk lv j = some v → ∃ x, cz_lk clv j = some x ∧ ck_Ds E Γ ρ v x
theorem cz_lk_self {clv : cz_LV} {l : Nat} {v : Value} : cz_lk (cz_st1 clv l v) l = some v := by
  unfold cz_st1 cz_lk
  show (if l = l then some v else _) = _
  rw [if_pos rfl]
theorem ck_LX_st {E : cz_E} {Γ : ck_G} {ρ : List Int} {lv : ck_LV} {l : Nat} {clv : cz_LV} {y : Value} (h : ck_LX E Γ ρ lv l clv) (hp : ∀ j v, j + 1 = l → ck_lk lv j = some v → v.1 = 0) : ck_LX E Γ ρ lv l (cz_st1 clv l y) := by
  intro j v hj e
  obtain ⟨x, e1, e2⟩ := h j v hj e
  refine ⟨x, ?_, e2⟩
  unfold cz_st1
  show cz_lk ((l, y) :: clv.filter (fun q => !(q.1 == l) && !(q.1 + 1 == l && q.2.category == 2))) j = _
  unfold cz_lk
  rw [if_neg (fun z => hj z.symm)]
  refine cz_lk_filter e1 ?_
  have h1 : (j == l) = false := by simpa using hj
  show (!(j == l) && !(j + 1 == l && x.category == 2)) = true
  rw [h1]
  by_cases h2 : j + 1 = l
  · have h3 := hp j v h2 e
    obtain ⟨z, rfl, -⟩ := ck_int e2 h3
    have : (Value.int z).category = 1 := rfl
    rw [this]
    simp
  · have : (j + 1 == l) = false := by simpa using h2
    rw [this]
    rfl
theorem ck_LX_of {E : cz_E} {Γ : ck_G} {ρ : List Int} {lv : ck_LV} {l : Nat} {clv : cz_LV} (h : ∀ σ, ck_LR E Γ (ρ ++ σ) lv clv) : ck_LX E Γ ρ lv l clv := fun _ _ _ e => ck_lkA h e
theorem ck_LX_end {E : cz_E} {Γ : ck_G} {ρ : List Int} {lv : ck_LV} {l : Nat} {clv : cz_LV} {x : Int32} {N : Nat} (h : ck_LX E Γ ρ lv l clv) (e : cz_lk clv l = some (.int x)) (hx : x.toInt = (N : Int)) : ∀ σ, ck_LR E Γ (ρ ++ σ) (ck_st1 lv l (ck_vi (ck_c (N : Int)))) clv := by
  intro σ j w e1
  unfold ck_st1 ck_lk at e1
  simp only at e1
  split at e1
  · next e2 =>
    cases e1
    rw [← e2]
    exact ⟨_, e, x, rfl, by show _ = ck_ev _ (ck_c (N : Int)); rw [ck_ev_c]; exact hx⟩
  · next e2 =>
    obtain ⟨-, e3⟩ := ck_lk_f (P := fun k => !(k == l) && !(k + 1 == l && ck_l1 lv l)) e1
    obtain ⟨y, e4, e5⟩ := h j w (fun z => e2 z.symm) e3
    exact ⟨y, e4, e5 σ⟩
/-! what is copied so far -/
theorem ck_cpy0 {f g : Nat → Int32} {s t : Nat} : va_cpy g f s t 0 = f := by
  funext j
  unfold va_cpy
  rw [if_neg (by omega)]
theorem ck_cpyS {f g : Nat → Int32} {s t i : Nat} : upd (va_cpy g f s t i) (t + i) (g (s + i)) = va_cpy g f s t (i + 1) := by
  funext j
  unfold upd va_cpy
  by_cases hj : j = t + i
  · rw [if_pos hj, if_pos (by omega)]
    congr 1
    omega
  · rw [if_neg hj]
    by_cases h2 : t ≤ j ∧ j < t + i
    · rw [if_pos h2, if_pos (by omega)]
    · rw [if_neg h2, if_neg (by omega)]
theorem ck_set_self {h : cz_H} {p : Nat} {c : cz_C} (e : h[p]? = some c) : h.set p c = h := by
  apply List.ext_getElem?
  intro j
  rw [List.getElem?_set]
  by_cases hj : p = j
  · subst hj
    rw [if_pos rfl, if_pos (List.getElem?_eq_some_iff.mp e).1, e]
  · rw [if_neg hj]
theorem ck_loop {E : cz_E} {Γ : ck_G} {ρ : List Int} {d mi pc l N s t nD pD : Nat} {lv : ck_LV} {h : cz_H} {f g : Nat → Int32} {Q : Option Value → cz_H → Prop} (hlv : ∀ j v, j + 1 = l → ck_lk lv j = some v → v.1 = 0) (hD : h[pD]? = some (.inl (0, nD, .inl f))) (hN : N ≤ 100000)
    (turn : ∀ (i : Nat) (clv : cz_LV) (x : Int32) (f' : Nat → Int32), i < N → ck_LX E Γ ρ lv l clv → cz_lk clv l = some (.int x) → x.toInt = (i : Int) → cz_W E d mi pc (cz_st1 clv l (.int (x + Int32.ofInt 1))) [] ((h.set pD (.inl (0, nD, .inl f'))).set pD (.inl (0, nD, .inl (upd f' (t + i) (g (s + i)))))) Q → cz_W E d mi pc clv [] (h.set pD (.inl (0, nD, .inl f'))) Q)
    (fin : ∀ (clv : cz_LV) (x : Int32), ck_LX E Γ ρ lv l clv → cz_lk clv l = some (.int x) → x.toInt = (N : Int) → cz_W E d mi pc clv [] (h.set pD (.inl (0, nD, .inl (va_cpy g f s t N)))) Q) :
    ∀ (m i : Nat) (clv : cz_LV) (x : Int32), i + m = N → ck_LX E Γ ρ lv l clv → cz_lk clv l = some (.int x) → x.toInt = (i : Int) → cz_W E d mi pc clv [] (h.set pD (.inl (0, nD, .inl (va_cpy g f s t i)))) Q := by
  intro m
  induction m with
  | zero =>
    intro i clv x e hL hx hi
    have e : i = N := by omega
    subst e
    exact fin clv x hL hx hi
  | succ m ih =>
    intro i clv x e hL hx hi
    refine turn i clv x _ (by omega) hL hx hi ?_
    rw [List.set_set, ck_cpyS]
    refine ih (i + 1) _ _ (by omega) (ck_LX_st hL hlv) cz_lk_self ?_
    have e1 : (Int32.ofInt 1).toInt = 1 := by decide
    rw [ck_iadd (by rw [e1, hi]; exact ⟨by omega, by omega⟩), e1, hi]
    push_cast
    rfl
theorem ck_8090 : (Int16.ofInt 8090).toInt32.toInt = 8090 := by decide +kernel
theorem ck_260 : (Int16.ofInt 260).toInt32.toInt = 260 := by decide +kernel
theorem ck_cd203 : cz_cd 203 = cz_m203 := rfl
theorem ck_cd204 : cz_cd 204 = cz_m204 := rfl
theorem ck_cd230 : cz_cd 230 = cz_m230 := rfl
theorem ck_mf203 : 2 < (cz_mf 203).2.2.2.2.1 := by decide +kernel
theorem ck_mf204 : 2 < (cz_mf 204).2.2.2.2.1 := by decide +kernel
theorem ck_mf230 : 4 < (cz_mf 230).2.2.2.2.1 := by decide +kernel
/-- an index, found -/
theorem ck_idx {z : Int32} {m len : Nat} (hz : z.toInt = (m : Int)) (hm : m < len) : cz_in z len = true ∧ z.toNatClampNeg = m := by
  obtain ⟨h1, h2⟩ := ck_in_of (z := z) (len := len) (by omega) (by omega)
  exact ⟨h1, by omega⟩
section CW2
variable {E : cz_E} {d : Nat} {clv : cz_LV} {h : cz_H} {Q : Option Value → cz_H → Prop} {po pD pS k i : Nat} {zk x : Int32} {vs : List Value} {f g : Nat → Int32}
theorem ck_t203 (hE : cz_Eok E) (h0 : cz_lk clv 0 = some (.ref (E.1 + po))) (h1 : cz_lk clv 1 = some (.int zk)) (h2 : cz_lk clv 2 = some (.int x)) (hk : zk.toInt = (k : Int)) (k3 : k < 3) (hx : x.toInt = (i : Int)) (hi : i < 8090) (ho : h[po]? = some (.inr (12, vs))) (v1 : vs[1]? = some (.ref (E.1 + pS))) (v2 : vs[2]? = some (.ref (E.1 + pD))) (hD : h[pD]? = some (.inl (0, 24270, .inl f))) (hS : h[pS]? = some (.inl (0, 8090, .inl g)))
    (w : cz_W E d 203 17 (cz_st1 clv 2 (.int (x + Int32.ofInt 1))) [] (h.set pD (.inl (0, 24270, .inl (upd f (8090 * k + i) (g (0 + i)))))) Q) : cz_W E d 203 17 clv [] h Q := by
  have m1 : ((Int16.ofInt 8090).toInt32 * zk).toInt = 8090 * (k : Int) := by
    rw [ck_imul (by rw [ck_8090, hk]; exact ⟨by omega, by omega⟩), ck_8090, hk]
  have m2 : ((Int16.ofInt 8090).toInt32 * zk + x).toInt = ((8090 * k + i : Nat) : Int) := by
    rw [ck_iadd (by rw [m1, hx]; exact ⟨by omega, by omega⟩), m1, hx]
    omega
  obtain ⟨i1, i2⟩ := ck_idx (len := 24270) m2 (by omega)
  obtain ⟨j1, j2⟩ := ck_idx (len := 8090) hx hi
  refine cw_iload_n (k := 2) (a := 0) (b := 0) (by rw [ck_cd203]; rfl) h2 ?_
  refine cw_sipush (pc := 18) (v := 8090) (a := 0) (b := 0) (by rw [ck_cd203]; rfl) ?_
  refine cw_ge0 (pc := 21) (off := 27) (t := 48) (a := 0) (b := 0) (by rw [ck_cd203]; rfl) rfl (by rw [ck_8090]; omega) ?_
  refine cw_aload_n (pc := 24) (k := 0) (a := 0) (b := 0) (by rw [ck_cd203]; rfl) h0 ?_
  refine cw_getfield (pc := 25) (i := 13) (ci := 12) (b := 2) (by rw [ck_cd203]; rfl) (by decide) ho v2 ?_
  refine cw_sipush (pc := 28) (v := 8090) (a := 0) (b := 0) (by rw [ck_cd203]; rfl) ?_
  refine cw_iload_n (pc := 31) (k := 1) (a := 0) (b := 0) (by rw [ck_cd203]; rfl) h1 ?_
  refine cw_imul (pc := 32) (a := 0) (b := 0) (by rw [ck_cd203]; rfl) ?_
  refine cw_iload_n (pc := 33) (k := 2) (a := 0) (b := 0) (by rw [ck_cd203]; rfl) h2 ?_
  refine cw_iadd (pc := 34) (a := 0) (b := 0) (by rw [ck_cd203]; rfl) ?_
  refine cw_aload_n (pc := 35) (k := 0) (a := 0) (b := 0) (by rw [ck_cd203]; rfl) h0 ?_
  refine cw_getfield (pc := 36) (i := 9) (ci := 12) (b := 1) (by rw [ck_cd203]; rfl) (by decide) ho v1 ?_
  refine cw_iload_n (pc := 39) (k := 2) (a := 0) (b := 0) (by rw [ck_cd203]; rfl) h2 ?_
  refine cw_iaload (pc := 40) (a := 0) (b := 0) hE (by rw [ck_cd203]; rfl) hS j1 ?_
  refine cw_iastore (pc := 41) (a := 0) (b := 0) (by rw [ck_cd203]; rfl) hD i1 ?_
  refine cw_iinc (pc := 42) (k := 2) (m := 1) (a := 0) (b := 0) (by rw [ck_cd203]; rfl) h2 ck_mf203 ?_
  refine cw_goto (pc := 45) (off := -28) (t := 17) (a := 0) (b := 0) (by rw [ck_cd203]; rfl) rfl ?_
  rw [i2, j2]
  rw [Nat.zero_add] at w
  exact w
theorem ck_e203 (h2 : cz_lk clv 2 = some (.int x)) (hx : x.toInt = 8090) (w : cz_W E d 203 48 clv [] h Q) : cz_W E d 203 17 clv [] h Q := by
  refine cw_iload_n (k := 2) (a := 0) (b := 0) (by rw [ck_cd203]; rfl) h2 ?_
  refine cw_sipush (pc := 18) (v := 8090) (a := 0) (b := 0) (by rw [ck_cd203]; rfl) ?_
  exact cw_ge1 (pc := 21) (off := 27) (t := 48) (a := 0) (b := 0) (by rw [ck_cd203]; rfl) rfl (by rw [ck_8090]; omega) w
theorem ck_t204 (hE : cz_Eok E) (h0 : cz_lk clv 0 = some (.ref (E.1 + po))) (h1 : cz_lk clv 1 = some (.int zk)) (h2 : cz_lk clv 2 = some (.int x)) (hk : zk.toInt = (k : Int)) (k3 : k < 3) (hx : x.toInt = (i : Int)) (hi : i < 8090) (ho : h[po]? = some (.inr (12, vs))) (v1 : vs[1]? = some (.ref (E.1 + pD))) (v2 : vs[2]? = some (.ref (E.1 + pS))) (hD : h[pD]? = some (.inl (0, 8090, .inl f))) (hS : h[pS]? = some (.inl (0, 24270, .inl g)))
    (w : cz_W E d 204 29 (cz_st1 clv 2 (.int (x + Int32.ofInt 1))) [] (h.set pD (.inl (0, 8090, .inl (upd f (0 + i) (g (8090 * k + i)))))) Q) : cz_W E d 204 29 clv [] h Q := by
  have m1 : ((Int16.ofInt 8090).toInt32 * zk).toInt = 8090 * (k : Int) := by
    rw [ck_imul (by rw [ck_8090, hk]; exact ⟨by omega, by omega⟩), ck_8090, hk]
  have m2 : ((Int16.ofInt 8090).toInt32 * zk + x).toInt = ((8090 * k + i : Nat) : Int) := by
    rw [ck_iadd (by rw [m1, hx]; exact ⟨by omega, by omega⟩), m1, hx]
    omega
  obtain ⟨i1, i2⟩ := ck_idx (len := 24270) m2 (by omega)
  obtain ⟨j1, j2⟩ := ck_idx (len := 8090) hx hi
  refine cw_iload_n (k := 2) (a := 0) (b := 0) (by rw [ck_cd204]; rfl) h2 ?_
  refine cw_sipush (pc := 30) (v := 8090) (a := 0) (b := 0) (by rw [ck_cd204]; rfl) ?_
  refine cw_ge0 (pc := 33) (off := 27) (t := 60) (a := 0) (b := 0) (by rw [ck_cd204]; rfl) rfl (by rw [ck_8090]; omega) ?_
  refine cw_aload_n (pc := 36) (k := 0) (a := 0) (b := 0) (by rw [ck_cd204]; rfl) h0 ?_
  refine cw_getfield (pc := 37) (i := 9) (ci := 12) (b := 1) (by rw [ck_cd204]; rfl) (by decide) ho v1 ?_
  refine cw_iload_n (pc := 40) (k := 2) (a := 0) (b := 0) (by rw [ck_cd204]; rfl) h2 ?_
  refine cw_aload_n (pc := 41) (k := 0) (a := 0) (b := 0) (by rw [ck_cd204]; rfl) h0 ?_
  refine cw_getfield (pc := 42) (i := 13) (ci := 12) (b := 2) (by rw [ck_cd204]; rfl) (by decide) ho v2 ?_
  refine cw_sipush (pc := 45) (v := 8090) (a := 0) (b := 0) (by rw [ck_cd204]; rfl) ?_
  refine cw_iload_n (pc := 48) (k := 1) (a := 0) (b := 0) (by rw [ck_cd204]; rfl) h1 ?_
  refine cw_imul (pc := 49) (a := 0) (b := 0) (by rw [ck_cd204]; rfl) ?_
  refine cw_iload_n (pc := 50) (k := 2) (a := 0) (b := 0) (by rw [ck_cd204]; rfl) h2 ?_
  refine cw_iadd (pc := 51) (a := 0) (b := 0) (by rw [ck_cd204]; rfl) ?_
  refine cw_iaload (pc := 52) (a := 0) (b := 0) hE (by rw [ck_cd204]; rfl) hS i1 ?_
  refine cw_iastore (pc := 53) (a := 0) (b := 0) (by rw [ck_cd204]; rfl) hD j1 ?_
  refine cw_iinc (pc := 54) (k := 2) (m := 1) (a := 0) (b := 0) (by rw [ck_cd204]; rfl) h2 ck_mf204 ?_
  refine cw_goto (pc := 57) (off := -28) (t := 29) (a := 0) (b := 0) (by rw [ck_cd204]; rfl) rfl ?_
  rw [i2, j2]
  rw [Nat.zero_add] at w
  exact w
theorem ck_e204 (h2 : cz_lk clv 2 = some (.int x)) (hx : x.toInt = 8090) (w : cz_W E d 204 60 clv [] h Q) : cz_W E d 204 29 clv [] h Q := by
  refine cw_iload_n (k := 2) (a := 0) (b := 0) (by rw [ck_cd204]; rfl) h2 ?_
  refine cw_sipush (pc := 30) (v := 8090) (a := 0) (b := 0) (by rw [ck_cd204]; rfl) ?_
  exact cw_ge1 (pc := 33) (off := 27) (t := 60) (a := 0) (b := 0) (by rw [ck_cd204]; rfl) rfl (by rw [ck_8090]; omega) w
theorem ck_t230 (hE : cz_Eok E) (h0 : cz_lk clv 0 = some (.ref (E.1 + po))) (h1 : cz_lk clv 3 = some (.int zk)) (h2 : cz_lk clv 4 = some (.int x)) (hk : zk.toInt = (k : Int)) (k3 : k ≤ 3440) (hx : x.toInt = (i : Int)) (hi : i < 260) (ho : h[po]? = some (.inr (12, vs))) (v1 : vs[1]? = some (.ref (E.1 + pD))) (v2 : vs[14]? = some (.ref (E.1 + pS))) (hD : h[pD]? = some (.inl (0, 8090, .inl f))) (hS : h[pS]? = some (.inl (0, 260, .inl g)))
    (w : cz_W E d 230 185 (cz_st1 clv 4 (.int (x + Int32.ofInt 1))) [] (h.set pD (.inl (0, 8090, .inl (upd f (k + i) (g (0 + i)))))) Q) : cz_W E d 230 185 clv [] h Q := by
  have m2 : (zk + x).toInt = ((k + i : Nat) : Int) := by
    rw [ck_iadd (by rw [hk, hx]; exact ⟨by omega, by omega⟩), hk, hx]
    omega
  obtain ⟨i1, i2⟩ := ck_idx (len := 8090) m2 (by omega)
  obtain ⟨j1, j2⟩ := ck_idx (len := 260) hx hi
  refine cw_iload (k := 4) (a := 0) (b := 0) (by rw [ck_cd230]; rfl) h2 ?_
  refine cw_sipush (pc := 187) (v := 260) (a := 0) (b := 0) (by rw [ck_cd230]; rfl) ?_
  refine cw_ge0 (pc := 190) (off := 25) (t := 215) (a := 0) (b := 0) (by rw [ck_cd230]; rfl) rfl (by rw [ck_260]; omega) ?_
  refine cw_aload_n (pc := 193) (k := 0) (a := 0) (b := 0) (by rw [ck_cd230]; rfl) h0 ?_
  refine cw_getfield (pc := 194) (i := 9) (ci := 12) (b := 1) (by rw [ck_cd230]; rfl) (by decide) ho v1 ?_
  refine cw_iload_n (pc := 197) (k := 3) (a := 0) (b := 0) (by rw [ck_cd230]; rfl) h1 ?_
  refine cw_iload (pc := 198) (k := 4) (a := 0) (b := 0) (by rw [ck_cd230]; rfl) h2 ?_
  refine cw_iadd (pc := 200) (a := 0) (b := 0) (by rw [ck_cd230]; rfl) ?_
  refine cw_aload_n (pc := 201) (k := 0) (a := 0) (b := 0) (by rw [ck_cd230]; rfl) h0 ?_
  refine cw_getfield (pc := 202) (i := 31) (ci := 12) (b := 14) (by rw [ck_cd230]; rfl) (by decide) ho v2 ?_
  refine cw_iload (pc := 205) (k := 4) (a := 0) (b := 0) (by rw [ck_cd230]; rfl) h2 ?_
  refine cw_iaload (pc := 207) (a := 0) (b := 0) hE (by rw [ck_cd230]; rfl) hS j1 ?_
  refine cw_iastore (pc := 208) (a := 0) (b := 0) (by rw [ck_cd230]; rfl) hD i1 ?_
  refine cw_iinc (pc := 209) (k := 4) (m := 1) (a := 0) (b := 0) (by rw [ck_cd230]; rfl) h2 ck_mf230 ?_
  refine cw_goto (pc := 212) (off := -27) (t := 185) (a := 0) (b := 0) (by rw [ck_cd230]; rfl) rfl ?_
  rw [i2, j2]
  rw [Nat.zero_add] at w
  exact w
theorem ck_e230 (h2 : cz_lk clv 4 = some (.int x)) (hx : x.toInt = 260) (w : cz_W E d 230 215 clv [] h Q) : cz_W E d 230 185 clv [] h Q := by
  refine cw_iload (k := 4) (a := 0) (b := 0) (by rw [ck_cd230]; rfl) h2 ?_
  refine cw_sipush (pc := 187) (v := 260) (a := 0) (b := 0) (by rw [ck_cd230]; rfl) ?_
  exact cw_ge1 (pc := 190) (off := 25) (t := 215) (a := 0) (b := 0) (by rw [ck_cd230]; rfl) rfl (by rw [ck_260]; omega) w
end CW2
