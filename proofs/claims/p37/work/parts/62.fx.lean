/-! FX: instructions that leave the heap alone are told rightly -/
def fx_P (E : cz_E) (h : cz_H) (n0 : Nat) (σ : fx_Y) (ν : List Int) : fx_V → Value → Prop := fx_vr E h n0 σ.2.1 ν
def fx_Q (E : cz_E) (M : fx_M) (ν0 : List Int) (S0 : fx_S) (h0 : cz_H) (r : fx_R) (ν : List Int) (clv : cz_LV) (cst : List Value) (h : cz_H) (n0 : Nat) : Prop := fx_J E M ν0 S0 h0 r.2.2.2 ν h n0 ∧ fx_LR (fx_P E h n0 r.2.2.2 ν) r.2.1 clv ∧ fx_SR (fx_P E h n0 r.2.2.2 ν) r.2.2.1 cst
/-- what was told of values before is told of them still -/
def fx_ok2 (E : cz_E) (σ : fx_Y) (ν : List Int) (h : cz_H) (n0 : Nat) (σ' : fx_Y) (ν' : List Int) (h' : cz_H) (n0' : Nat) : Prop := ∀ (s : fx_V) (v : Value), fx_P E h n0 σ ν s v → fx_P E h' n0' σ' ν' s v
section FXA
variable {E : cz_E} {M : fx_M} {ν0 : List Int} {S0 : fx_S} {h0 : cz_H} {σ : fx_Y} {ν : List Int} {h : cz_H} {n0 : Nat}
theorem fx_P.up {e : fx_Ev} {z : Int} {s : fx_V} {v : Value} (r : fx_P E h n0 σ ν s v) : fx_P E h n0 (fx_pu σ e) (ν ++ [z]) s v := fx_vr_ext (fx_ext_rf h) (Nat.le_refl _) (fun _ _ f _ _ _ => .inr f) r
theorem fx_reach {e : fx_Ev} {ν' : List Int} {S S' : fx_S} (h1 : ∀ K, fx_d M σ.2.2.reverse ν0 S0 K → K ν S) (h2 : ∀ K, fx_d1 M e ν S K → K ν' S') : ∀ K, fx_d M (e :: σ.2.2).reverse ν0 S0 K → K ν' S' := by
  intro K hK
  rw [List.reverse_cons, fx_d_app] at hK
  exact h2 K (h1 _ hK)
theorem fx_J.push {e : fx_Ev} {z : Int} (J : fx_J E M ν0 S0 h0 σ ν h n0) (hd : ∀ K, fx_d1 M e ν (fx_of E h) K → K (ν ++ [z]) (fx_of E h)) : fx_J E M ν0 S0 h0 (fx_pu σ e) (ν ++ [z]) h n0 := by
  obtain ⟨j1, j2, j3, j4, j5, j6, j7, j8⟩ := J
  refine ⟨?_, fx_reach j2 hd, j3, j4, j5, fun hb => ?_, j7, fun j c hc => ?_⟩
  · rw [List.length_append, j1]
    rfl
  · obtain ⟨a, b⟩ := j6 hb
    refine ⟨(fx_o_app b).trans a, ?_⟩
    rw [List.length_append]
    exact Nat.le_trans b (Nat.le_add_right _ _)
  · have := j8 j c hc
    obtain ⟨t, n, fs⟩ := c
    cases t with
    | zero =>
      obtain ⟨gs, a, b, g⟩ := this
      refine ⟨gs, a, b, fun k s hd hk => ?_⟩
      obtain ⟨v, hv, r⟩ := g k s hd hk
      exact ⟨v, hv, fx_P.up (σ := σ) (e := e) r⟩
    | succ t => exact this
theorem fx_J.ad {e : fx_Ev} (J : fx_J E M ν0 S0 h0 σ ν h n0) (hd : ∀ K, fx_d1 M e ν (fx_of E h) K → K ν (fx_of E h)) : fx_J E M ν0 S0 h0 (fx_ad σ e) ν h n0 := by
  obtain ⟨j1, j2, j3, j4, j5, j6, j7, j8⟩ := J
  exact ⟨j1, fx_reach j2 hd, j3, j4, j5, j6, j7, j8⟩
theorem fx_J.cond {op : Nat} {a b : fx_O} (J : fx_J E M ν0 S0 h0 σ ν h n0) (hc : fx_c op (fx_o ν a) (fx_o ν b)) : fx_J E M ν0 S0 h0 (fx_ad σ (3, op, [a, b])) ν h n0 := J.ad fun K hK => hK hc
theorem fx_k_ok {o : fx_O} (h : fx_k o = true) : fx_o ν o = o.2 := by
  obtain ⟨n, k⟩ := o
  have h : n = 0 := by simpa [fx_k] using h
  subst h
  rfl
theorem fx_i1_some {α : Type} {st : List fx_V} {k : fx_O → List fx_V → Option α} {r : α} (h : fx_i1 st k = some r) : ∃ s l, st = s :: l ∧ s.1 = 0 ∧ k s.2.1 l = some r := by
  unfold fx_i1 at h
  split at h
  · split at h
    · exact ⟨_, _, rfl, by assumption, h⟩
    · cases h
  · cases h
theorem fx_l1_some {α : Type} {st : List fx_V} {k : fx_O → List fx_V → Option α} {r : α} (h : fx_l1 st k = some r) : ∃ s l, st = s :: l ∧ s.1 = 1 ∧ k s.2.1 l = some r := by
  unfold fx_l1 at h
  split at h
  · split at h
    · exact ⟨_, _, rfl, by assumption, h⟩
    · cases h
  · cases h
theorem fx_i2_some {α : Type} {st : List fx_V} {k : fx_O → fx_O → List fx_V → Option α} {r : α} (h : fx_i2 st k = some r) : ∃ y x l, st = y :: x :: l ∧ x.1 = 0 ∧ y.1 = 0 ∧ k x.2.1 y.2.1 l = some r := by
  unfold fx_i2 at h
  split at h
  · split at h
    · next e => exact ⟨_, _, _, rfl, e.1, e.2, h⟩
    · cases h
  · cases h
theorem fx_l2_some {α : Type} {st : List fx_V} {k : fx_O → fx_O → List fx_V → Option α} {r : α} (h : fx_l2 st k = some r) : ∃ y x l, st = y :: x :: l ∧ x.1 = 1 ∧ y.1 = 1 ∧ k x.2.1 y.2.1 l = some r := by
  unfold fx_l2 at h
  split at h
  · split at h
    · next e => exact ⟨_, _, _, rfl, e.1, e.2, h⟩
    · cases h
  · cases h
theorem fx_il_some {α : Type} {st : List fx_V} {k : fx_O → fx_O → List fx_V → Option α} {r : α} (h : fx_il st k = some r) : ∃ y x l, st = y :: x :: l ∧ x.1 = 1 ∧ y.1 = 0 ∧ k x.2.1 y.2.1 l = some r := by
  unfold fx_il at h
  split at h
  · split at h
    · next e => exact ⟨_, _, _, rfl, e.1, e.2, h⟩
    · cases h
  · cases h
theorem fx_v1_some {α : Type} {st : List fx_V} {k : fx_V → List fx_V → Option α} {r : α} (h : fx_v1 st k = some r) : ∃ s l, st = s :: l ∧ k s l = some r := by
  unfold fx_v1 at h
  split at h
  · exact ⟨_, _, rfl, h⟩
  · cases h
theorem fx_v2_some {α : Type} {st : List fx_V} {k : fx_V → fx_V → List fx_V → Option α} {r : α} (h : fx_v2 st k = some r) : ∃ y x l, st = y :: x :: l ∧ k y x l = some r := by
  unfold fx_v2 at h
  split at h
  · exact ⟨_, _, _, rfl, h⟩
  · cases h
theorem fx_P_i {s : fx_V} {v : Value} (r : fx_P E h n0 σ ν s v) (t : s.1 = 0) : ∃ x : Int32, v = .int x ∧ x.toInt = fx_o ν s.2.1 := by
  obtain ⟨u, o, w⟩ := s
  have t : u = 0 := t
  subst t
  exact r.2
theorem fx_P_l {s : fx_V} {v : Value} (r : fx_P E h n0 σ ν s v) (t : s.1 = 1) : ∃ x : Int64, v = .long x ∧ x.toInt = fx_o ν s.2.1 := by
  obtain ⟨u, o, w⟩ := s
  have t : u = 1 := t
  subst t
  exact r.2
theorem fx_P_ci {k : Int} {x : Int32} (e : x.toInt = k) : fx_P E h n0 σ ν (fx_ci k) (.int x) := ⟨Nat.zero_le _, x, rfl, e⟩
theorem fx_P_cl {k : Int} {x : Int64} (e : x.toInt = k) : fx_P E h n0 σ ν (fx_cl k) (.long x) := ⟨Nat.zero_le _, x, rfl, e⟩
theorem fx_bn_ok {t op pc : Nat} {a b : fx_O} {lv : fx_L} {r : List fx_V} {l : List fx_R} {clv : cz_LV} {cr : List Value} {v : Value} (e : fx_bn t op a b pc lv r σ = some l) (J : fx_J E M ν0 S0 h0 σ ν h n0) (L : fx_LR (fx_P E h n0 σ ν) lv clv) (S : fx_SR (fx_P E h n0 σ ν) r cr) (hv : (t = 0 ∧ ∃ x : Int32, v = .int x ∧ x.toInt = fx_b op (fx_o ν a) (fx_o ν b)) ∨ (t = 1 ∧ ∃ x : Int64, v = .long x ∧ x.toInt = fx_b op (fx_o ν a) (fx_o ν b))) : ∃ r' ∈ l, r'.1 = pc ∧ ∃ ν', fx_ok2 E σ ν h n0 r'.2.2.2 ν' h n0 ∧ fx_Q E M ν0 S0 h0 r' ν' clv (v :: cr) h n0 := by
  unfold fx_bn at e
  split at e
  · next hk =>
    cases e
    obtain ⟨h1, h2⟩ := Bool.and_eq_true_iff.mp hk
    rw [fx_k_ok h1, fx_k_ok h2] at hv
    refine ⟨_, List.mem_singleton.mpr rfl, rfl, ν, fun _ _ r => r, J, L, ?_, S⟩
    rcases hv with ⟨rfl, x, rfl, hx⟩ | ⟨rfl, x, rfl, hx⟩
    · exact ⟨Nat.zero_le _, x, rfl, hx⟩
    · exact ⟨Nat.zero_le _, x, rfl, hx⟩
  · cases e
    refine ⟨_, List.mem_singleton.mpr rfl, rfl, ν ++ [fx_b op (fx_o ν a) (fx_o ν b)], fun _ _ => fx_P.up, J.push (fun K hK => hK), L.imp (fun s v => fx_P.up), ?_, S.imp (fun s v => fx_P.up)⟩
    have hl : σ.1 + 1 ≤ (ν ++ [fx_b op (fx_o ν a) (fx_o ν b)]).length := by rw [List.length_append, J.1]; exact Nat.le_refl _
    rcases hv with ⟨rfl, x, rfl, hx⟩ | ⟨rfl, x, rfl, hx⟩
    · exact ⟨hl, x, rfl, hx.trans (fx_o_new J.1).symm⟩
    · exact ⟨hl, x, rfl, hx.trans (fx_o_new J.1).symm⟩
theorem fx_ofI (x : Int32) : Int32.ofInt x.toInt = x := Int32.ofInt_toInt x
theorem fx_ofL (x : Int64) : Int64.ofInt x.toInt = x := Int64.ofInt_toInt x
theorem fx_lgc (a b : Int64) : (lg_cmp a b).toInt = fx_lcm a.toInt b.toInt := by
  unfold lg_cmp fx_lcm
  by_cases h1 : b < a
  · rw [if_pos h1, if_pos (Int64.lt_iff_toInt_lt.mp h1)]; rfl
  · rw [if_neg h1, if_neg (fun h => h1 (Int64.lt_iff_toInt_lt.mpr h))]
    by_cases h2 : a = b
    · rw [if_pos h2, if_pos (by rw [h2])]; rfl
    · rw [if_neg h2, if_neg (fun h => h2 (Int64.toInt_inj.mp h))]; rfl
def fx_no (E : cz_E) (nL : Nat) (q : cz_I) (clv : cz_LV) (cst : List Value) (h : cz_H) : Prop := cz_s1 E nL q clv cst = none ∧ cz_s2 E q cst h = none ∧ cz_s3 E q cst h = none
def fx_ys (E : cz_E) (M : fx_M) (ν0 : List Int) (S0 : fx_S) (h0 : cz_H) (nL : Nat) (q : cz_I) (l : List fx_R) (clv : cz_LV) (cst : List Value) (h : cz_H) (n0 : Nat) (σ : fx_Y) (ν : List Int) : Prop := ∃ r ∈ l, ∃ ν', fx_ok2 E σ ν h n0 r.2.2.2 ν' h n0 ∧ ∃ clv' cst', cz_s1 E nL q clv cst = some (r.1, clv', cst') ∧ fx_Q E M ν0 S0 h0 r ν' clv' cst' h n0
theorem fx_bn_ys {nL t op pc : Nat} {q : cz_I} {a b : fx_O} {lv : fx_L} {r : List fx_V} {l : List fx_R} {clv : cz_LV} {cst cr : List Value} {v : Value} (e : fx_bn t op a b pc lv r σ = some l) (J : fx_J E M ν0 S0 h0 σ ν h n0) (L : fx_LR (fx_P E h n0 σ ν) lv clv) (S : fx_SR (fx_P E h n0 σ ν) r cr) (hv : (t = 0 ∧ ∃ x : Int32, v = .int x ∧ x.toInt = fx_b op (fx_o ν a) (fx_o ν b)) ∨ (t = 1 ∧ ∃ x : Int64, v = .long x ∧ x.toInt = fx_b op (fx_o ν a) (fx_o ν b))) (e1 : cz_s1 E nL q clv cst = some (pc, clv, v :: cr)) : fx_ys E M ν0 S0 h0 nL q l clv cst h n0 σ ν := by
  obtain ⟨r', m, e2, ν', U, Q⟩ := fx_bn_ok e J L S hv
  exact ⟨r', m, ν', U, clv, v :: cr, by rw [e2]; exact e1, Q⟩
set_option maxHeartbeats 4000000 in
theorem fx_x1_ok {nL : Nat} {q : cz_I} {lv : fx_L} {st : List fx_V} {l : List fx_R} {clv : cz_LV} {cst : List Value} (hE : cz_Eok E) (e : fx_x1 q lv st σ = some l) (J : fx_J E M ν0 S0 h0 σ ν h n0) (L : fx_LR (fx_P E h n0 σ ν) lv clv) (S : fx_SR (fx_P E h n0 σ ν) st cst) : fx_ys E M ν0 S0 h0 nL q l clv cst h n0 σ ν ∨ fx_no E nL q clv cst h := by
  have hF : cz_isA E.2.2.2.2 = true := hE.2.2.2.2.2
  have hcat : ∀ s v, fx_P E h n0 σ ν s v → ¬ s.1 = 1 → v.category = 1 := fun s v r => (fx_vr_cat hF r).2
  have psh : ∀ {pc : Nat} {s : fx_V} {v : Value} {r : List fx_V} {cr : List Value} {q : cz_I}, fx_P E h n0 σ ν s v → fx_SR (fx_P E h n0 σ ν) r cr → cz_s1 E nL q clv cst = some (pc, clv, v :: cr) → fx_ys E M ν0 S0 h0 nL q [(pc, lv, s :: r, σ)] clv cst h n0 σ ν := fun hs hr e1 => ⟨_, List.mem_singleton.mpr rfl, ν, fun _ _ r => r, clv, _, e1, J, L, hs, hr⟩
  obtain ⟨pc, ins, len, xa, xb⟩ := q
  cases ins
  case iconst k =>
    obtain ⟨e0, e1⟩ := cz_n_some e
    have e0 : len = 1 := e0
    subst e0; cases e1
    exact .inl (psh (fx_P_ci rfl) S rfl)
  case bipush k =>
    obtain ⟨e0, e1⟩ := cz_n_some e
    have e0 : len = 2 := e0
    subst e0; cases e1
    exact .inl (psh (fx_P_ci rfl) S rfl)
  case sipush k =>
    obtain ⟨e0, e1⟩ := cz_n_some e
    have e0 : len = 3 := e0
    subst e0; cases e1
    exact .inl (psh (fx_P_ci rfl) S rfl)
  case lconst k =>
    obtain ⟨e0, e1⟩ := cz_n_some e
    have e0 : len = 1 := e0
    subst e0; cases e1
    exact .inl (psh (fx_P_cl rfl) S rfl)
  case aconst_null =>
    obtain ⟨e0, e1⟩ := cz_n_some e
    have e0 : len = 1 := e0
    subst e0; cases e1
    exact .inl (psh ⟨Nat.zero_le _, rfl⟩ S rfl)
  case ldc k =>
    obtain ⟨e0, e1⟩ := cz_n_some e
    have e0 : len = 2 := e0
    subst e0
    have e1 : (if xa = 0 then some [(pc + 2, lv, fx_ci (Int32.ofInt xb).toInt :: st, σ)] else cz_if (xa == 1 && decide (xb.toNat < 14)) (some [(pc + 2, lv, ((5, (0, (xb.toNat : Int)), 0) : fx_V) :: st, σ)])) = some l := e1
    split at e1
    · next hx =>
      subst hx
      cases e1
      exact .inl (psh (fx_P_ci rfl) S rfl)
    · next hx =>
      obtain ⟨g1, g2⟩ := cz_if_some e1
      obtain ⟨g3, g4⟩ := Bool.and_eq_true_iff.mp g1
      have g3 : xa = 1 := by simpa using g3
      subst g3
      cases g2
      exact .inl (psh ⟨Nat.zero_le _, xb.toNat, of_decide_eq_true g4, rfl, rfl⟩ S rfl)
  case ldc_w k =>
    obtain ⟨e0, e1⟩ := cz_n_some e
    have e0 : len = 3 := e0
    subst e0
    obtain ⟨g1, g2⟩ := cz_if_some e1
    have g1 : xa = 0 := by simpa using g1
    subst g1
    cases g2
    exact .inl (psh (fx_P_ci rfl) S rfl)
  case ldc2_w k =>
    obtain ⟨e0, e1⟩ := cz_n_some e
    have e0 : len = 3 := e0
    subst e0; cases e1
    exact .inl (psh (fx_P_cl rfl) S rfl)
  case iload_n k =>
    obtain ⟨e0, e1⟩ := cz_n_some e
    have e0 : len = 1 := e0
    subst e0
    obtain ⟨s, hs, e2⟩ := cz_so_some e1
    obtain ⟨g1, g2⟩ := cz_if_some e2
    have g1 : s.1 = 0 := by simpa using g1
    cases g2
    obtain ⟨v, hv, r⟩ := L _ _ hs
    obtain ⟨x, rfl, hx⟩ := fx_P_i r g1
    refine .inl (psh r S ?_)
    show cz_n 1 1 (cz_ki (cz_lk clv k) _) = _
    rw [hv]; rfl
  case iload k =>
    obtain ⟨e0, e1⟩ := cz_n_some e
    have e0 : len = 2 := e0
    subst e0
    obtain ⟨s, hs, e2⟩ := cz_so_some e1
    obtain ⟨g1, g2⟩ := cz_if_some e2
    have g1 : s.1 = 0 := by simpa using g1
    cases g2
    obtain ⟨v, hv, r⟩ := L _ _ hs
    obtain ⟨x, rfl, hx⟩ := fx_P_i r g1
    refine .inl (psh r S ?_)
    show cz_n 2 2 (cz_ki (cz_lk clv k) _) = _
    rw [hv]; rfl
  case lload_n k =>
    obtain ⟨e0, e1⟩ := cz_n_some e
    have e0 : len = 1 := e0
    subst e0
    obtain ⟨s, hs, e2⟩ := cz_so_some e1
    obtain ⟨g1, g2⟩ := cz_if_some e2
    have g1 : s.1 = 1 := by simpa using g1
    cases g2
    obtain ⟨v, hv, r⟩ := L _ _ hs
    obtain ⟨x, rfl, hx⟩ := fx_P_l r g1
    refine .inl (psh r S ?_)
    show cz_n 1 1 (cz_kl (cz_lk clv k) _) = _
    rw [hv]; rfl
  case lload k =>
    obtain ⟨e0, e1⟩ := cz_n_some e
    have e0 : len = 2 := e0
    subst e0
    obtain ⟨s, hs, e2⟩ := cz_so_some e1
    obtain ⟨g1, g2⟩ := cz_if_some e2
    have g1 : s.1 = 1 := by simpa using g1
    cases g2
    obtain ⟨v, hv, r⟩ := L _ _ hs
    obtain ⟨x, rfl, hx⟩ := fx_P_l r g1
    refine .inl (psh r S ?_)
    show cz_n 2 2 (cz_kl (cz_lk clv k) _) = _
    rw [hv]; rfl
  case aload_n k =>
    obtain ⟨e0, e1⟩ := cz_n_some e
    have e0 : len = 1 := e0
    subst e0
    obtain ⟨s, hs, e2⟩ := cz_so_some e1
    cases e2
    obtain ⟨v, hv, r⟩ := L _ _ hs
    by_cases hA : cz_isA v = true
    · refine .inl (psh r S ?_)
      show cz_n 1 1 (cz_ka (cz_lk clv k) _) = _
      rw [hv]
      show cz_if (cz_isA v) _ = _
      rw [hA]; rfl
    · refine .inr ⟨?_, rfl, rfl⟩
      show cz_n 1 1 (cz_ka (cz_lk clv k) _) = _
      rw [hv]
      show cz_if (cz_isA v) _ = _
      rw [Bool.eq_false_iff.mpr hA]; rfl
  case aload k =>
    obtain ⟨e0, e1⟩ := cz_n_some e
    have e0 : len = 2 := e0
    subst e0
    obtain ⟨s, hs, e2⟩ := cz_so_some e1
    cases e2
    obtain ⟨v, hv, r⟩ := L _ _ hs
    by_cases hA : cz_isA v = true
    · refine .inl (psh r S ?_)
      show cz_n 2 2 (cz_ka (cz_lk clv k) _) = _
      rw [hv]
      show cz_if (cz_isA v) _ = _
      rw [hA]; rfl
    · refine .inr ⟨?_, rfl, rfl⟩
      show cz_n 2 2 (cz_ka (cz_lk clv k) _) = _
      rw [hv]
      show cz_if (cz_isA v) _ = _
      rw [Bool.eq_false_iff.mpr hA]; rfl
  case istore_n k =>
    obtain ⟨e0, e1⟩ := cz_n_some e
    have e0 : len = 1 := e0
    subst e0
    obtain ⟨s, r, rfl, t, e2⟩ := fx_i1_some e1
    cases e2
    obtain ⟨v, cr, rfl, hs, hr⟩ := S.cons
    obtain ⟨x, rfl, hx⟩ := fx_P_i hs t
    by_cases hk : (k : Nat) < nL
    · refine .inl ⟨_, List.mem_singleton.mpr rfl, ν, fun _ _ r => r, cz_st1 clv k (.int x), cr, ?_, J, L.st1 hcat ⟨hs.1, x, rfl, hx⟩, hr⟩
      show cz_n 1 1 (cz_if (decide ((k : Nat) < nL)) _) = _
      rw [decide_eq_true hk]; rfl
    · refine .inr ⟨?_, rfl, rfl⟩
      show cz_n 1 1 (cz_if (decide ((k : Nat) < nL)) _) = _
      rw [decide_eq_false hk]; rfl
  case istore k =>
    obtain ⟨e0, e1⟩ := cz_n_some e
    have e0 : len = 2 := e0
    subst e0
    obtain ⟨s, r, rfl, t, e2⟩ := fx_i1_some e1
    cases e2
    obtain ⟨v, cr, rfl, hs, hr⟩ := S.cons
    obtain ⟨x, rfl, hx⟩ := fx_P_i hs t
    by_cases hk : k < nL
    · refine .inl ⟨_, List.mem_singleton.mpr rfl, ν, fun _ _ r => r, cz_st1 clv k (.int x), cr, ?_, J, L.st1 hcat ⟨hs.1, x, rfl, hx⟩, hr⟩
      show cz_n 2 2 (cz_if (decide (k < nL)) _) = _
      rw [decide_eq_true hk]; rfl
    · refine .inr ⟨?_, rfl, rfl⟩
      show cz_n 2 2 (cz_if (decide (k < nL)) _) = _
      rw [decide_eq_false hk]; rfl
  case lstore k =>
    obtain ⟨e0, e1⟩ := cz_n_some e
    have e0 : len = 2 := e0
    subst e0
    obtain ⟨s, r, rfl, t, e2⟩ := fx_l1_some e1
    cases e2
    obtain ⟨v, cr, rfl, hs, hr⟩ := S.cons
    obtain ⟨x, rfl, hx⟩ := fx_P_l hs t
    by_cases hk : k + 1 < nL
    · refine .inl ⟨_, List.mem_singleton.mpr rfl, ν, fun _ _ r => r, cz_st2 clv k (.long x), cr, ?_, J, L.st2 hcat ⟨hs.1, x, rfl, hx⟩, hr⟩
      show cz_n 2 2 (cz_if (decide (k + 1 < nL)) _) = _
      rw [decide_eq_true hk]; rfl
    · refine .inr ⟨?_, rfl, rfl⟩
      show cz_n 2 2 (cz_if (decide (k + 1 < nL)) _) = _
      rw [decide_eq_false hk]; rfl
  case astore_n k =>
    obtain ⟨e0, e1⟩ := cz_n_some e
    have e0 : len = 1 := e0
    subst e0
    obtain ⟨s, r, rfl, e2⟩ := fx_v1_some e1
    cases e2
    obtain ⟨v, cr, rfl, hs, hr⟩ := S.cons
    by_cases hk : (cz_isA v && decide ((k : Nat) < nL)) = true
    · refine .inl ⟨_, List.mem_singleton.mpr rfl, ν, fun _ _ r => r, cz_st1 clv k v, cr, ?_, J, L.st1 hcat hs, hr⟩
      show cz_n 1 1 (cz_if (cz_isA v && decide ((k : Nat) < nL)) _) = _
      rw [hk]; rfl
    · refine .inr ⟨?_, rfl, rfl⟩
      show cz_n 1 1 (cz_if (cz_isA v && decide ((k : Nat) < nL)) _) = _
      rw [Bool.eq_false_iff.mpr hk]; rfl
  case astore k =>
    obtain ⟨e0, e1⟩ := cz_n_some e
    have e0 : len = 2 := e0
    subst e0
    obtain ⟨s, r, rfl, e2⟩ := fx_v1_some e1
    cases e2
    obtain ⟨v, cr, rfl, hs, hr⟩ := S.cons
    by_cases hk : (cz_isA v && decide (k < nL)) = true
    · refine .inl ⟨_, List.mem_singleton.mpr rfl, ν, fun _ _ r => r, cz_st1 clv k v, cr, ?_, J, L.st1 hcat hs, hr⟩
      show cz_n 2 2 (cz_if (cz_isA v && decide (k < nL)) _) = _
      rw [hk]; rfl
    · refine .inr ⟨?_, rfl, rfl⟩
      show cz_n 2 2 (cz_if (cz_isA v && decide (k < nL)) _) = _
      rw [Bool.eq_false_iff.mpr hk]; rfl
  case iinc k n =>
    obtain ⟨s, hs, e2⟩ := cz_so_some e
    obtain ⟨g1, g2⟩ := cz_if_some e2
    have g1 : s.1 = 0 := by simpa using g1
    obtain ⟨v, hv, r⟩ := L _ _ hs
    obtain ⟨x, rfl, hx⟩ := fx_P_i r g1
    have hadd : (x + Int32.ofInt n).toInt = fx_add (fx_o ν s.2.1) (Int32.ofInt n).toInt := by
      unfold fx_add
      rw [← hx, fx_ofI, fx_ofI]
    by_cases hk : ((len == 3 || len == 6) = true ∧ k < nL)
    · have hs1 : cz_s1 E nL (pc, .iinc k n, len, xa, xb) clv cst = some (pc + len, cz_st1 clv k (.int (x + Int32.ofInt n)), cst) := by
        show cz_if (len == 3 || len == 6) (cz_ki (cz_lk clv k) _) = _
        rw [hk.1, hv]
        show cz_if (decide (k < nL)) _ = _
        rw [decide_eq_true hk.2]; rfl
      have g2 : (if fx_k s.2.1 then some [(pc + len, fx_s1 lv k (fx_ci (fx_add s.2.1.2 (Int32.ofInt n).toInt)), st, σ)] else some [(pc + len, fx_s1 lv k (0, (σ.1 + 1, 0), 0), st, fx_pu σ (0, 0, [s.2.1, (0, (Int32.ofInt n).toInt)]))]) = some l := g2
      split at g2
      · next hc =>
        cases g2
        rw [fx_k_ok hc] at hadd
        exact .inl ⟨_, List.mem_singleton.mpr rfl, ν, fun _ _ r => r, _, cst, hs1, J, L.st1 hcat (fx_P_ci hadd), S⟩
      · cases g2
        refine .inl ⟨_, List.mem_singleton.mpr rfl, ν ++ [fx_b 0 (fx_o ν s.2.1) (Int32.ofInt n).toInt], fun _ _ => fx_P.up, _, cst, hs1, J.push (fun K hK => hK), ?_, S.imp (fun s v => fx_P.up)⟩
        refine (L.imp (fun s v => fx_P.up)).st1 (fun s v r => (fx_vr_cat hF r).2) ⟨?_, _, rfl, hadd.trans (fx_o_new J.1).symm⟩
        rw [List.length_append, J.1]
        exact Nat.le_refl _
    · refine .inr ⟨?_, rfl, rfl⟩
      show cz_if (len == 3 || len == 6) (cz_ki (cz_lk clv k) _) = _
      cases hl : (len == 3 || len == 6) with
      | false => rfl
      | true =>
        rw [hv]
        show cz_if (decide (k < nL)) _ = _
        rw [decide_eq_false (fun h => hk ⟨hl, h⟩)]; rfl
  case iadd =>
    obtain ⟨e0, e1⟩ := cz_n_some e
    have e0 : len = 1 := e0
    subst e0
    obtain ⟨y, x, r, rfl, tx, ty, e2⟩ := fx_i2_some e1
    obtain ⟨v1, cr, rfl, hy, hq1⟩ := S.cons
    obtain ⟨v2, cr, rfl, hx, hr⟩ := hq1.cons
    obtain ⟨a, rfl, ha⟩ := fx_P_i hx tx
    obtain ⟨b, rfl, hb⟩ := fx_P_i hy ty
    exact .inl (fx_bn_ys e2 J L hr (.inl ⟨rfl, _, rfl, by show (a + b).toInt = fx_add _ _; unfold fx_add; rw [← ha, ← hb, fx_ofI, fx_ofI]⟩) rfl)
  case isub =>
    obtain ⟨e0, e1⟩ := cz_n_some e
    have e0 : len = 1 := e0
    subst e0
    obtain ⟨y, x, r, rfl, tx, ty, e2⟩ := fx_i2_some e1
    obtain ⟨v1, cr, rfl, hy, hq1⟩ := S.cons
    obtain ⟨v2, cr, rfl, hx, hr⟩ := hq1.cons
    obtain ⟨a, rfl, ha⟩ := fx_P_i hx tx
    obtain ⟨b, rfl, hb⟩ := fx_P_i hy ty
    exact .inl (fx_bn_ys e2 J L hr (.inl ⟨rfl, _, rfl, by show (a - b).toInt = fx_sub _ _; unfold fx_sub; rw [← ha, ← hb, fx_ofI, fx_ofI]⟩) rfl)
  case imul =>
    obtain ⟨e0, e1⟩ := cz_n_some e
    have e0 : len = 1 := e0
    subst e0
    obtain ⟨y, x, r, rfl, tx, ty, e2⟩ := fx_i2_some e1
    obtain ⟨v1, cr, rfl, hy, hq1⟩ := S.cons
    obtain ⟨v2, cr, rfl, hx, hr⟩ := hq1.cons
    obtain ⟨a, rfl, ha⟩ := fx_P_i hx tx
    obtain ⟨b, rfl, hb⟩ := fx_P_i hy ty
    exact .inl (fx_bn_ys e2 J L hr (.inl ⟨rfl, _, rfl, by show (a * b).toInt = fx_mul _ _; unfold fx_mul; rw [← ha, ← hb, fx_ofI, fx_ofI]⟩) rfl)
  case iand =>
    obtain ⟨e0, e1⟩ := cz_n_some e
    have e0 : len = 1 := e0
    subst e0
    obtain ⟨y, x, r, rfl, tx, ty, e2⟩ := fx_i2_some e1
    obtain ⟨v1, cr, rfl, hy, hq1⟩ := S.cons
    obtain ⟨v2, cr, rfl, hx, hr⟩ := hq1.cons
    obtain ⟨a, rfl, ha⟩ := fx_P_i hx tx
    obtain ⟨b, rfl, hb⟩ := fx_P_i hy ty
    exact .inl (fx_bn_ys e2 J L hr (.inl ⟨rfl, _, rfl, by show (a &&& b).toInt = fx_and _ _; unfold fx_and; rw [← ha, ← hb, fx_ofI, fx_ofI]⟩) rfl)
  case ior =>
    obtain ⟨e0, e1⟩ := cz_n_some e
    have e0 : len = 1 := e0
    subst e0
    obtain ⟨y, x, r, rfl, tx, ty, e2⟩ := fx_i2_some e1
    obtain ⟨v1, cr, rfl, hy, hq1⟩ := S.cons
    obtain ⟨v2, cr, rfl, hx, hr⟩ := hq1.cons
    obtain ⟨a, rfl, ha⟩ := fx_P_i hx tx
    obtain ⟨b, rfl, hb⟩ := fx_P_i hy ty
    exact .inl (fx_bn_ys e2 J L hr (.inl ⟨rfl, _, rfl, by show (a ||| b).toInt = fx_or _ _; unfold fx_or; rw [← ha, ← hb, fx_ofI, fx_ofI]⟩) rfl)
  case ishl =>
    obtain ⟨e0, e1⟩ := cz_n_some e
    have e0 : len = 1 := e0
    subst e0
    obtain ⟨y, x, r, rfl, tx, ty, e2⟩ := fx_i2_some e1
    obtain ⟨v1, cr, rfl, hy, hq1⟩ := S.cons
    obtain ⟨v2, cr, rfl, hx, hr⟩ := hq1.cons
    obtain ⟨a, rfl, ha⟩ := fx_P_i hx tx
    obtain ⟨b, rfl, hb⟩ := fx_P_i hy ty
    exact .inl (fx_bn_ys e2 J L hr (.inl ⟨rfl, _, rfl, by show (a <<< (b &&& 31)).toInt = fx_shl _ _; unfold fx_shl; rw [← ha, ← hb, fx_ofI, fx_ofI]⟩) rfl)
  case ishr =>
    obtain ⟨e0, e1⟩ := cz_n_some e
    have e0 : len = 1 := e0
    subst e0
    obtain ⟨y, x, r, rfl, tx, ty, e2⟩ := fx_i2_some e1
    obtain ⟨v1, cr, rfl, hy, hq1⟩ := S.cons
    obtain ⟨v2, cr, rfl, hx, hr⟩ := hq1.cons
    obtain ⟨a, rfl, ha⟩ := fx_P_i hx tx
    obtain ⟨b, rfl, hb⟩ := fx_P_i hy ty
    exact .inl (fx_bn_ys e2 J L hr (.inl ⟨rfl, _, rfl, by show (a >>> (b &&& 31)).toInt = fx_shr _ _; unfold fx_shr; rw [← ha, ← hb, fx_ofI, fx_ofI]⟩) rfl)
  case iushr =>
    obtain ⟨e0, e1⟩ := cz_n_some e
    have e0 : len = 1 := e0
    subst e0
    obtain ⟨y, x, r, rfl, tx, ty, e2⟩ := fx_i2_some e1
    obtain ⟨v1, cr, rfl, hy, hq1⟩ := S.cons
    obtain ⟨v2, cr, rfl, hx, hr⟩ := hq1.cons
    obtain ⟨a, rfl, ha⟩ := fx_P_i hx tx
    obtain ⟨b, rfl, hb⟩ := fx_P_i hy ty
    exact .inl (fx_bn_ys e2 J L hr (.inl ⟨rfl, _, rfl, by show (a.toUInt32 >>> (b.toUInt32 &&& Int32.toUInt32 31)).toInt32.toInt = fx_ush _ _; unfold fx_ush; rw [← ha, ← hb, fx_ofI, fx_ofI]⟩) rfl)
  case idiv =>
    obtain ⟨e0, e1⟩ := cz_n_some e
    have e0 : len = 1 := e0
    subst e0
    obtain ⟨y, x, r, rfl, tx, ty, e2⟩ := fx_i2_some e1
    obtain ⟨v1, cr, rfl, hy, hq1⟩ := S.cons
    obtain ⟨v2, cr, rfl, hx, hr⟩ := hq1.cons
    obtain ⟨a, rfl, ha⟩ := fx_P_i hx tx
    obtain ⟨b, rfl, hb⟩ := fx_P_i hy ty
    by_cases hz : b = 0
    · refine .inr ⟨?_, rfl, rfl⟩
      show cz_n 1 1 (cz_if (decide (¬ b = 0)) _) = _
      rw [decide_eq_false (fun h => h hz)]; rfl
    · have hs1 : cz_s1 E nL (pc, .idiv, 1, xa, xb) clv (.int b :: .int a :: cr) = some (pc + 1, clv, .int (a / b) :: cr) := by
        show cz_n 1 1 (cz_if (decide (¬ b = 0)) _) = _
        rw [decide_eq_true hz]; rfl
      have hv : ∃ z : Int32, Value.int (a / b) = .int z ∧ z.toInt = fx_b 3 (fx_o ν x.2.1) (fx_o ν y.2.1) := ⟨_, rfl, by show (a / b).toInt = fx_div _ _; unfold fx_div; rw [← ha, ← hb, fx_ofI, fx_ofI]⟩
      have hc : fx_c 1 (fx_o ν y.2.1) (fx_o ν (0, 0)) := by
        intro h
        have h : fx_o ν y.2.1 = 0 := h
        rw [← hb] at h
        exact hz (Int32.toInt_inj.mp h)
      split at e2
      · exact .inl (fx_bn_ys e2 J L hr (.inl ⟨rfl, hv⟩) hs1)
      · have hy2 := fx_bn_ys (σ := fx_ad σ (3, 1, [y.2.1, (0, 0)])) e2 (J.cond hc) L hr (.inl ⟨rfl, hv⟩) hs1
        exact .inl hy2
  case irem =>
    obtain ⟨e0, e1⟩ := cz_n_some e
    have e0 : len = 1 := e0
    subst e0
    obtain ⟨y, x, r, rfl, tx, ty, e2⟩ := fx_i2_some e1
    obtain ⟨v1, cr, rfl, hy, hq1⟩ := S.cons
    obtain ⟨v2, cr, rfl, hx, hr⟩ := hq1.cons
    obtain ⟨a, rfl, ha⟩ := fx_P_i hx tx
    obtain ⟨b, rfl, hb⟩ := fx_P_i hy ty
    by_cases hz : b = 0
    · refine .inr ⟨?_, rfl, rfl⟩
      show cz_n 1 1 (cz_if (decide (¬ b = 0)) _) = _
      rw [decide_eq_false (fun h => h hz)]; rfl
    · have hs1 : cz_s1 E nL (pc, .irem, 1, xa, xb) clv (.int b :: .int a :: cr) = some (pc + 1, clv, .int (a - a / b * b) :: cr) := by
        show cz_n 1 1 (cz_if (decide (¬ b = 0)) _) = _
        rw [decide_eq_true hz]; rfl
      have hv : ∃ z : Int32, Value.int (a - a / b * b) = .int z ∧ z.toInt = fx_b 4 (fx_o ν x.2.1) (fx_o ν y.2.1) := ⟨_, rfl, by show (a - a / b * b).toInt = fx_rem _ _; unfold fx_rem; rw [← ha, ← hb, fx_ofI, fx_ofI]⟩
      have hc : fx_c 1 (fx_o ν y.2.1) (fx_o ν (0, 0)) := by
        intro h
        have h : fx_o ν y.2.1 = 0 := h
        rw [← hb] at h
        exact hz (Int32.toInt_inj.mp h)
      split at e2
      · exact .inl (fx_bn_ys e2 J L hr (.inl ⟨rfl, hv⟩) hs1)
      · have hy2 := fx_bn_ys (σ := fx_ad σ (3, 1, [y.2.1, (0, 0)])) e2 (J.cond hc) L hr (.inl ⟨rfl, hv⟩) hs1
        exact .inl hy2
  case ineg =>
    obtain ⟨e0, e1⟩ := cz_n_some e
    have e0 : len = 1 := e0
    subst e0
    obtain ⟨x, r, rfl, tx, e2⟩ := fx_i1_some e1
    obtain ⟨v1, cr, rfl, hx, hr⟩ := S.cons
    obtain ⟨a, rfl, ha⟩ := fx_P_i hx tx
    exact .inl (fx_bn_ys e2 J L hr (.inl ⟨rfl, _, rfl, by show (-a).toInt = fx_neg _; unfold fx_neg; rw [← ha, fx_ofI]⟩) rfl)
  case i2b =>
    obtain ⟨e0, e1⟩ := cz_n_some e
    have e0 : len = 1 := e0
    subst e0
    obtain ⟨x, r, rfl, tx, e2⟩ := fx_i1_some e1
    obtain ⟨v1, cr, rfl, hx, hr⟩ := S.cons
    obtain ⟨a, rfl, ha⟩ := fx_P_i hx tx
    exact .inl (fx_bn_ys e2 J L hr (.inl ⟨rfl, _, rfl, by show a.toInt8.toInt32.toInt = fx_i2b _; unfold fx_i2b; rw [← ha, fx_ofI]⟩) rfl)
  case i2c =>
    obtain ⟨e0, e1⟩ := cz_n_some e
    have e0 : len = 1 := e0
    subst e0
    obtain ⟨x, r, rfl, tx, e2⟩ := fx_i1_some e1
    obtain ⟨v1, cr, rfl, hx, hr⟩ := S.cons
    obtain ⟨a, rfl, ha⟩ := fx_P_i hx tx
    exact .inl (fx_bn_ys e2 J L hr (.inl ⟨rfl, _, rfl, by show (a.toUInt32 % 65536).toInt32.toInt = fx_i2c _; unfold fx_i2c; rw [← ha, fx_ofI]⟩) rfl)
  case i2l =>
    obtain ⟨e0, e1⟩ := cz_n_some e
    have e0 : len = 1 := e0
    subst e0
    obtain ⟨x, r, rfl, tx, e2⟩ := fx_i1_some e1
    obtain ⟨v1, cr, rfl, hx, hr⟩ := S.cons
    obtain ⟨a, rfl, ha⟩ := fx_P_i hx tx
    cases e2
    exact .inl (psh (s := (1, x.2.1, 0)) ⟨hx.1, a.toInt64, rfl, (Int32.toInt_toInt64 a).trans ha⟩ hr rfl)
  case l2i =>
    obtain ⟨e0, e1⟩ := cz_n_some e
    have e0 : len = 1 := e0
    subst e0
    obtain ⟨x, r, rfl, tx, e2⟩ := fx_l1_some e1
    obtain ⟨v1, cr, rfl, hx, hr⟩ := S.cons
    obtain ⟨a, rfl, ha⟩ := fx_P_l hx tx
    exact .inl (fx_bn_ys e2 J L hr (.inl ⟨rfl, _, rfl, by show a.toInt32.toInt = fx_l2i _; unfold fx_l2i; rw [← ha, fx_ofL]⟩) rfl)
  case ladd =>
    obtain ⟨e0, e1⟩ := cz_n_some e
    have e0 : len = 1 := e0
    subst e0
    obtain ⟨y, x, r, rfl, tx, ty, e2⟩ := fx_l2_some e1
    obtain ⟨v1, cr, rfl, hy, hq1⟩ := S.cons
    obtain ⟨v2, cr, rfl, hx, hr⟩ := hq1.cons
    obtain ⟨a, rfl, ha⟩ := fx_P_l hx tx
    obtain ⟨b, rfl, hb⟩ := fx_P_l hy ty
    exact .inl (fx_bn_ys e2 J L hr (.inr ⟨rfl, _, rfl, by show (a + b).toInt = fx_ladd _ _; unfold fx_ladd; rw [← ha, ← hb, fx_ofL, fx_ofL]⟩) rfl)
  case land =>
    obtain ⟨e0, e1⟩ := cz_n_some e
    have e0 : len = 1 := e0
    subst e0
    obtain ⟨y, x, r, rfl, tx, ty, e2⟩ := fx_l2_some e1
    obtain ⟨v1, cr, rfl, hy, hq1⟩ := S.cons
    obtain ⟨v2, cr, rfl, hx, hr⟩ := hq1.cons
    obtain ⟨a, rfl, ha⟩ := fx_P_l hx tx
    obtain ⟨b, rfl, hb⟩ := fx_P_l hy ty
    exact .inl (fx_bn_ys e2 J L hr (.inr ⟨rfl, _, rfl, by show (a &&& b).toInt = fx_land _ _; unfold fx_land; rw [← ha, ← hb, fx_ofL, fx_ofL]⟩) rfl)
  case lor =>
    obtain ⟨e0, e1⟩ := cz_n_some e
    have e0 : len = 1 := e0
    subst e0
    obtain ⟨y, x, r, rfl, tx, ty, e2⟩ := fx_l2_some e1
    obtain ⟨v1, cr, rfl, hy, hq1⟩ := S.cons
    obtain ⟨v2, cr, rfl, hx, hr⟩ := hq1.cons
    obtain ⟨a, rfl, ha⟩ := fx_P_l hx tx
    obtain ⟨b, rfl, hb⟩ := fx_P_l hy ty
    exact .inl (fx_bn_ys e2 J L hr (.inr ⟨rfl, _, rfl, by show (a ||| b).toInt = fx_lor _ _; unfold fx_lor; rw [← ha, ← hb, fx_ofL, fx_ofL]⟩) rfl)
  case lshl =>
    obtain ⟨e0, e1⟩ := cz_n_some e
    have e0 : len = 1 := e0
    subst e0
    obtain ⟨y, x, r, rfl, tx, ty, e2⟩ := fx_il_some e1
    obtain ⟨v1, cr, rfl, hy, hq1⟩ := S.cons
    obtain ⟨v2, cr, rfl, hx, hr⟩ := hq1.cons
    obtain ⟨a, rfl, ha⟩ := fx_P_l hx tx
    obtain ⟨b, rfl, hb⟩ := fx_P_i hy ty
    exact .inl (fx_bn_ys e2 J L hr (.inr ⟨rfl, _, rfl, by show (a <<< (b.toInt64 &&& 63)).toInt = fx_lshl _ _; unfold fx_lshl; rw [← ha, ← hb, fx_ofL, fx_ofI]⟩) rfl)
  case lshr =>
    obtain ⟨e0, e1⟩ := cz_n_some e
    have e0 : len = 1 := e0
    subst e0
    obtain ⟨y, x, r, rfl, tx, ty, e2⟩ := fx_il_some e1
    obtain ⟨v1, cr, rfl, hy, hq1⟩ := S.cons
    obtain ⟨v2, cr, rfl, hx, hr⟩ := hq1.cons
    obtain ⟨a, rfl, ha⟩ := fx_P_l hx tx
    obtain ⟨b, rfl, hb⟩ := fx_P_i hy ty
    exact .inl (fx_bn_ys e2 J L hr (.inr ⟨rfl, _, rfl, by show (a >>> (b.toInt64 &&& 63)).toInt = fx_lshr _ _; unfold fx_lshr; rw [← ha, ← hb, fx_ofL, fx_ofI]⟩) rfl)
  case lcmp =>
    obtain ⟨e0, e1⟩ := cz_n_some e
    have e0 : len = 1 := e0
    subst e0
    obtain ⟨y, x, r, rfl, tx, ty, e2⟩ := fx_l2_some e1
    obtain ⟨v1, cr, rfl, hy, hq1⟩ := S.cons
    obtain ⟨v2, cr, rfl, hx, hr⟩ := hq1.cons
    obtain ⟨a, rfl, ha⟩ := fx_P_l hx tx
    obtain ⟨b, rfl, hb⟩ := fx_P_l hy ty
    exact .inl (fx_bn_ys e2 J L hr (.inl ⟨rfl, _, rfl, by show (lg_cmp a b).toInt = fx_lcm _ _; rw [← ha, ← hb]; exact fx_lgc a b⟩) rfl)
  case dup =>
    obtain ⟨e0, e1⟩ := cz_n_some e
    have e0 : len = 1 := e0
    subst e0
    obtain ⟨s, r, rfl, e2⟩ := fx_v1_some e1
    obtain ⟨g1, g2⟩ := cz_if_some e2
    have g1 : ¬ s.1 = 1 := by simpa using g1
    cases g2
    obtain ⟨v, cr, rfl, hs, hr⟩ := S.cons
    refine .inl (psh hs (cr := v :: cr) ⟨hs, hr⟩ ?_)
    show cz_n 1 1 (cz_if (v.category == 1) _) = _
    rw [hcat s v hs g1]; rfl
  case dup2 =>
    obtain ⟨e0, e1⟩ := cz_n_some e
    have e0 : len = 1 := e0
    subst e0
    obtain ⟨y, x, r, rfl, e2⟩ := fx_v2_some e1
    obtain ⟨g1, g2⟩ := cz_if_some e2
    obtain ⟨g3, g4⟩ := Bool.and_eq_true_iff.mp g1
    have g3 : ¬ y.1 = 1 := by simpa using g3
    have g4 : ¬ x.1 = 1 := by simpa using g4
    cases g2
    obtain ⟨v, cr, rfl, hy, hq1⟩ := S.cons
    obtain ⟨w, cr, rfl, hx, hr⟩ := hq1.cons
    refine .inl (psh hy (cr := w :: v :: w :: cr) ⟨hx, hy, hx, hr⟩ ?_)
    show cz_n 1 1 (cz_if (v.category == 1 && w.category == 1) _) = _
    rw [hcat y v hy g3, hcat x w hx g4]; rfl
  case pop =>
    obtain ⟨e0, e1⟩ := cz_n_some e
    have e0 : len = 1 := e0
    subst e0
    obtain ⟨s, r, rfl, e2⟩ := fx_v1_some e1
    obtain ⟨g1, g2⟩ := cz_if_some e2
    have g1 : ¬ s.1 = 1 := by simpa using g1
    cases g2
    obtain ⟨v, cr, rfl, hs, hr⟩ := S.cons
    refine .inl ⟨_, List.mem_singleton.mpr rfl, ν, fun _ _ r => r, clv, cr, ?_, J, L, hr⟩
    show cz_n 1 1 (cz_if (v.category == 1) _) = _
    rw [hcat s v hs g1]; rfl
  case goto off =>
    obtain ⟨e0, e1⟩ := cz_n_some e
    have e0 : len = 3 := e0
    subst e0
    obtain ⟨t, ht, e2⟩ := cz_j_some e1
    cases e2
    refine .inl ⟨_, List.mem_singleton.mpr rfl, ν, fun _ _ r => r, clv, cst, ?_, J, L, S⟩
    show cz_n 3 3 (cz_j pc off _) = _
    unfold cz_n cz_j
    rw [if_pos rfl, if_pos (by omega)]
    show some (((pc : Int) + off).toNat, clv, cst) = some (t, clv, cst)
    rw [ht, Int.toNat_natCast]
  all_goals cases e
end FXA
