/-! FX: instructions that read or write the heap are told rightly: what they rest on -/
section FXC
variable {E : cz_E} {M : fx_M} {ν0 : List Int} {S0 : fx_S} {h0 : cz_H} {σ : fx_Y} {ν : List Int} {h : cz_H} {n0 : Nat}
theorem fx_vr_h {h' : cz_H} {n1 : Nat} {φ φ' : fx_O × List fx_FC} {s : fx_V} {v : Value} (x : fx_ext h h') (hn : n0 ≤ n1) (hf : ∀ o : fx_O, o.1 ≤ ν.length → fx_fr φ o = true → ∀ p : Nat, (p : Int) = fx_o ν o → p < h.length → p < n1 ∨ fx_fr φ' o = true) (r : fx_vr E h n0 φ ν s v) : fx_vr E h' n1 φ' ν s v := by
  have := fx_vr_ext (δ := []) x hn hf r
  rw [List.append_nil] at this
  exact this
theorem fx_o_sub {o b : fx_O} (h : o.1 = b.1) : fx_o ν o = fx_o ν b + (o.2 - b.2) := by
  obtain ⟨n, k⟩ := o
  obtain ⟨m, k'⟩ := b
  have h : n = m := h
  subst h
  cases n with
  | zero => show k = k' + (k - k'); omega
  | succ n => rw [fx_o_s, fx_o_s]; show ν.getD n 0 + k = ν.getD n 0 + k' + (k - k'); omega
/-- the known fields of a new object -/
def fx_FR2 (E : cz_E) (h : cz_H) (n0 : Nat) (φ : fx_O × List fx_FC) (ν : List Int) (j : Nat) (c : fx_FC) : Prop := match c with
  | (0, ci, fs) => ∃ gs, h[n0 + j]? = some (.inr (ci, gs)) ∧ gs.length = fs.length ∧ ∀ (k : Nat) (s : fx_V), fx_dl ci k ≠ none → fs[k]? = some (some s) → ∃ v, gs[k]? = some v ∧ fx_vr E h n0 φ ν s v
  | (t + 1, n, _) => ∃ y, h[n0 + j]? = some (.inl (t, n, y))
theorem fx_FR_at (f : fx_FR E h n0 σ.2.1 ν) {j : Nat} {c : fx_FC} (e : σ.2.1.2[j]? = some c) : fx_FR2 E h n0 σ.2.1 ν j c := f j c e
/-- a cell is written: its shape, its references stay -/
theorem fx_J.write {e : fx_Ev} {p : Nat} {c c' : cz_C} (J : fx_J E M ν0 S0 h0 σ ν h n0) (hp : h[p]? = some c) (s : fx_sm c c') (hc : fx_cw E (h.set p c') n0 p c') (ho : ∀ ci gs gs', c = .inr (ci, gs) → c' = .inr (ci, gs') → ∀ k, fx_dl ci k ≠ none → gs'[k]? = gs[k]?) (hd : ∀ K, fx_d1 M e ν (fx_of E h) K → K ν (fx_of E (h.set p c'))) : fx_J E M ν0 S0 h0 (fx_ad σ e) ν (h.set p c') n0 := by
  obtain ⟨j1, j2, j3, j4, j5, j6, j7, j8⟩ := J
  have hx := fx_ext_set hp s
  have up : ∀ {s v}, fx_vr E h n0 σ.2.1 ν s v → fx_vr E (h.set p c') n0 σ.2.1 ν s v := fun r => fx_vr_h hx (Nat.le_refl _) (fun _ _ f _ _ _ => .inr f) r
  refine ⟨j1, fx_reach j2 hd, fx_WF_set j3 hp s hc, fx_ext_tr j4 hx, by rw [List.length_set]; exact j5, j6, j7, fun j d hj => ?_⟩
  have f := fx_FR_at j8 hj
  obtain ⟨t, n, fs⟩ := d
  have hpl := (List.getElem?_eq_some_iff.mp hp).1
  cases t with
  | zero =>
    obtain ⟨gs, a, b, g⟩ := f
    by_cases hpj : p = n0 + j
    · subst hpj
      cases hp.symm.trans a
      rcases c' with ⟨t, m, y⟩ | ⟨ci, gs'⟩
      · exact s.elim
      · obtain ⟨s1, s2⟩ := s
        subst s1
        refine ⟨gs', List.getElem?_set_self hpl, s2.trans b, fun k s hk hs => ?_⟩
        obtain ⟨v, hv, r⟩ := g k s hk hs
        exact ⟨v, (ho _ _ _ rfl rfl k hk).trans hv, up r⟩
    · refine ⟨gs, (List.getElem?_set_ne hpj).trans a, b, fun k s hk hs => ?_⟩
      obtain ⟨v, hv, r⟩ := g k s hk hs
      exact ⟨v, hv, up r⟩
  | succ t =>
    obtain ⟨y, a⟩ := f
    by_cases hpj : p = n0 + j
    · subst hpj
      cases hp.symm.trans a
      rcases c' with ⟨t', m, z⟩ | ⟨ci, gs'⟩
      · obtain ⟨rfl, rfl⟩ := s
        exact ⟨z, List.getElem?_set_self hpl⟩
      · exact s.elim
    · exact ⟨y, (List.getElem?_set_ne hpj).trans a⟩
theorem fx_P.set {p : Nat} {c c' : cz_C} {s : fx_V} {v : Value} {e : fx_Ev} (hp : h[p]? = some c) (sm : fx_sm c c') (r : fx_P E h n0 σ ν s v) : fx_P E (h.set p c') n0 (fx_ad σ e) ν s v := fx_vr_h (fx_ext_set hp sm) (Nat.le_refl _) (fun _ _ f _ _ _ => .inr f) r
/-- whole: all new cells are old ones from now on -/
theorem fx_cm_ok (J : fx_J E M ν0 S0 h0 σ ν h n0) (hne : ¬ σ.2.1.2 = []) (hc : fx_cm σ.2.1 = true) : fx_WF E h.length h := by
  obtain ⟨j1, j2, j3, j4, j5, j6, j7, j8⟩ := J
  have hb := j6 (j7.resolve_left hne)
  refine ⟨Nat.le_refl _, fun p c hp => ?_⟩
  have hpl := (List.getElem?_eq_some_iff.mp hp).1
  have w := j3.2 p c hp
  rcases c with ⟨tc, n, y⟩ | ⟨ci, gs⟩
  · exact fx_ar_ext (fx_ext_rf h) j3.1 w
  · refine ⟨w.1, w.2.1, fun k v hv => ?_⟩
    have f := w.2.2 k v hv
    unfold fx_fd at f ⊢
    cases hd : fx_dl ci k with
    | none => rw [hd] at f; exact f
    | some d =>
      obtain ⟨d, kd, a, b⟩ := d
      rw [hd] at f
      refine ⟨f.1, fun _ => ?_⟩
      rcases Nat.lt_or_ge p n0 with hlt | hge
      · obtain ⟨f1, f2, f3⟩ := f.2 hlt
        exact ⟨f1, Nat.lt_of_lt_of_le f2 j3.1, f3⟩
      · obtain ⟨j, rfl⟩ := Nat.exists_eq_add_of_le hge
        have hjl : j < σ.2.1.2.length := by omega
        have hj := List.getElem?_eq_getElem hjl
        have F := fx_FR_at j8 hj
        have hcm := List.all_eq_true.mp hc j (List.mem_range.mpr hjl)
        rw [hj] at hcm
        generalize σ.2.1.2[j] = c0 at F hcm
        obtain ⟨t, cj, fs⟩ := c0
        cases t with
        | succ t => obtain ⟨y, hy⟩ := F; rw [hp] at hy; cases hy
        | zero =>
          obtain ⟨gs', h1, h2, h3⟩ := F
          rw [hp] at h1
          cases h1
          have hk : k < fs.length := by rw [← h2]; exact (List.getElem?_eq_some_iff.mp hv).1
          have hck := List.all_eq_true.mp (show fx_cm1 σ.2.1 j (0, ci, fs) = true from hcm) k (List.mem_range.mpr hk)
          rw [hd] at hck
          obtain ⟨c1, c2⟩ := Bool.and_eq_true_iff.mp hck
          have hfk : fs.getD k none = fs[k] := by rw [List.getD_eq_getElem?_getD, List.getElem?_eq_getElem hk]; rfl
          rw [hfk] at c1
          cases hs : fs[k] with
          | none => rw [hs] at c1; cases c1
          | some s =>
            rw [hs] at c1
            obtain ⟨u, o, w'⟩ := s
            obtain ⟨c3, c4⟩ := Bool.and_eq_true_iff.mp c1
            obtain ⟨c5, c6⟩ := Bool.and_eq_true_iff.mp c4
            have c3 : u = 2 := by simpa using c3
            have c5e : o.1 = σ.2.1.1.1 := by simpa using c5
            have c6e : o.2 = σ.2.1.1.2 + (j + d : Nat) := of_decide_eq_true c6
            subst c3
            obtain ⟨v', hv', r⟩ := h3 k _ (by rw [hd]; exact fun z => by cases z) (by rw [List.getElem?_eq_getElem hk, hs])
            cases hv.symm.trans hv'
            obtain ⟨q, e1, e2, e3, -, -⟩ := r.2
            have e4 := fx_o_sub (ν := ν) c5e
            have e2 : (q : Int) = fx_o ν o := e2
            have eq : q = n0 + j + d := by rw [hb.1] at e4; omega
            subst eq
            refine ⟨e1, e3, ?_⟩
            cases hjd : σ.2.1.2[j + d]? with
            | none => rw [hjd] at c2; cases c2
            | some c9 =>
              rw [hjd] at c2
              have F9 := fx_FR_at j8 hjd
              obtain ⟨t9, a9, b9⟩ := c9
              cases t9 with
              | zero =>
                obtain ⟨x1, x2⟩ := Bool.and_eq_true_iff.mp c2
                have x1 : kd = 0 := by simpa using x1
                have x2 : a9 = a := by simpa using x2
                subst x1; subst x2
                obtain ⟨gs9, y1, -⟩ := F9
                show fx_shp h (n0 + j + d) 0 a9 b
                unfold fx_shp
                rw [if_pos rfl, Nat.add_assoc]
                exact ⟨gs9, y1⟩
              | succ t9 =>
                obtain ⟨x1, x2⟩ := Bool.and_eq_true_iff.mp c2
                obtain ⟨x3, x4⟩ := Bool.and_eq_true_iff.mp x2
                have x1 : kd = 1 := by simpa using x1
                have x3 : t9 = a := by simpa using x3
                have x4 : a9 = b := by simpa using x4
                subst x1; subst x3; subst x4
                obtain ⟨y9, y1⟩ := F9
                show fx_shp h (n0 + j + d) 1 t9 a9
                unfold fx_shp
                rw [if_neg (by decide), Nat.add_assoc]
                exact ⟨y9, y1⟩
theorem fx_fr_nil {φ : fx_O × List fx_FC} (h : φ.2 = []) (o : fx_O) : fx_fr φ o = false := by
  unfold fx_fr
  rw [h]
  rfl
theorem fx_cl0_ok {σ1 : fx_Y} (J : fx_J E M ν0 S0 h0 σ ν h n0) (e : fx_cl0 σ = some σ1) : fx_J E M ν0 S0 h0 σ1 ν h h.length ∧ σ1.2.1.2 = [] ∧ σ1.1 = σ.1 ∧ ∀ s v, fx_P E h n0 σ ν s v → fx_P E h h.length σ1 ν s v := by
  unfold fx_cl0 at e
  split at e
  · next hE =>
    cases e
    have hn : σ.2.1.2 = [] := List.isEmpty_iff.mp hE
    have : n0 = h.length := by
      have := J.2.2.2.2.1
      rw [hn] at this
      exact this
    subst this
    exact ⟨J, hn, rfl, fun s v r => r⟩
  · next hE =>
    split at e
    · next hc =>
      cases e
      have hne : ¬ σ.2.1.2 = [] := fun z => hE (by rw [z]; rfl)
      have W := fx_cm_ok J hne hc
      obtain ⟨j1, j2, j3, j4, j5, j6, j7, j8⟩ := J
      have hb := j6 (j7.resolve_left hne)
      refine ⟨⟨j1, j2, W, j4, rfl, fun _ => ⟨?_, hb.2⟩, .inl rfl, fun j c hj => by cases hj⟩, rfl, rfl, fun s v r => fx_vr_h (fx_ext_rf h) j3.1 (fun o _ _ p _ hp => .inl hp) r⟩
      have := fx_o_sub (ν := ν) (o := (σ.2.1.1.1, σ.2.1.1.2 + (σ.2.1.2.length : Int))) (b := σ.2.1.1) rfl
      show fx_o ν (σ.2.1.1.1, σ.2.1.1.2 + (σ.2.1.2.length : Int)) = (h.length : Int)
      have e2 : (σ.2.1.1.1, σ.2.1.1.2 + (σ.2.1.2.length : Int)).2 = σ.2.1.1.2 + (σ.2.1.2.length : Int) := rfl
      rw [e2] at this
      rw [this, hb.1]
      omega
    · cases e
/-- an index is within its row -/
theorem fx_bd_ok {o : fx_O} {hint q tc n : Nat} {y : (Nat → Int32) ⊕ (Nat → Int64) ⊕ (Nat → UInt32) ⊕ (Nat → UInt64) ⊕ (Nat → Option Nat)} (J : fx_J E M ν0 S0 h0 σ ν h n0) (hq : h[q]? = some (.inl (tc, n, y))) (hh : fx_hn h q hint) (hi0 : 0 ≤ fx_o ν o) (hi1 : fx_o ν o < n) : fx_J E M ν0 S0 h0 (fx_bd o hint σ) ν h n0 ∧ (fx_bd o hint σ).1 = σ.1 ∧ (fx_bd o hint σ).2.1 = σ.2.1 := by
  unfold fx_bd
  have J1 : fx_J E M ν0 S0 h0 (if fx_k o then σ else fx_ad σ (3, 5, [(0, 0), o])) ν h n0 ∧ (if fx_k o then σ else fx_ad σ (3, 5, [(0, 0), o])).1 = σ.1 ∧ (if fx_k o then σ else fx_ad σ (3, 5, [(0, 0), o])).2.1 = σ.2.1 := by
    split
    · exact ⟨J, rfl, rfl⟩
    · exact ⟨J.cond (op := 5) (a := (0, 0)) (b := o) hi0, rfl, rfl⟩
  generalize (if fx_k o then σ else fx_ad σ (3, 5, [(0, 0), o])) = σ1 at J1 ⊢
  obtain ⟨J1, a1, a2⟩ := J1
  show fx_J E M ν0 S0 h0 (if hint = 0 ∨ fx_k o = true then σ1 else _) ν h n0 ∧ (if hint = 0 ∨ fx_k o = true then σ1 else _).1 = σ.1 ∧ (if hint = 0 ∨ fx_k o = true then σ1 else _).2.1 = σ.2.1
  split
  · exact ⟨J1, a1, a2⟩
  · next hne =>
    refine ⟨J1.cond (op := 2) ?_, a1, a2⟩
    rcases hh with hh | ⟨tc', n', y', e, ht, hq'⟩
    · exact absurd (.inl hh) hne
    · cases hq.symm.trans hq'
      show fx_o ν o < ((hint / 8 : Nat) : Int)
      rw [show hint / 8 = n by omega]
      exact hi1
theorem fx_bd0 {o : fx_O} (J : fx_J E M ν0 S0 h0 σ ν h n0) (hi0 : 0 ≤ fx_o ν o) : fx_J E M ν0 S0 h0 (fx_bd o 0 σ) ν h n0 ∧ (fx_bd o 0 σ).1 = σ.1 ∧ (fx_bd o 0 σ).2.1 = σ.2.1 := by
  have e : fx_bd o 0 σ = (if fx_k o then σ else fx_ad σ (3, 5, [(0, 0), o])) := by
    unfold fx_bd
    exact if_pos (.inl rfl)
  rw [e]
  split
  · exact ⟨J, rfl, rfl⟩
  · exact ⟨J.cond (op := 5) (a := (0, 0)) (b := o) hi0, rfl, rfl⟩
/-- the place of a cell upon the stack -/
theorem fx_pl_ok {s : fx_V} {v : Value} {p : fx_O × fx_Y} (J : fx_J E M ν0 S0 h0 σ ν h n0) (r : fx_P E h n0 σ ν s v) (e : fx_pl s σ = some p) : v = .null ∨ ∃ q : Nat, v = .ref (E.1 + q) ∧ (q : Int) = fx_o ν p.1 ∧ q < h.length ∧ (q < n0 ∨ fx_fr σ.2.1 p.1 = true) ∧ fx_hn h q s.2.2 ∧ fx_J E M ν0 S0 h0 p.2 ν h n0 ∧ p.2.2.1 = σ.2.1 ∧ p.2.1 = σ.1 ∧ p.1 = s.2.1 ∧ s.2.1.1 ≤ ν.length := by
  obtain ⟨t, o, w⟩ := s
  have e : (if t = 2 then some (o, σ) else if t = 3 ∧ w = 0 then some (o, fx_ad σ (3, 1, [o, (0, -1)])) else none) = some p := e
  split at e
  · next ht =>
    subst ht
    cases e
    obtain ⟨q, h1, h2, h3, h4, h5⟩ := r.2
    exact .inr ⟨q, h1, h2, h3, h4, h5, J, rfl, rfl, rfl, r.1⟩
  · split at e
    · next ht =>
      obtain ⟨ht, hw⟩ := ht
      subst ht; subst hw
      cases e
      rcases r.2 with ⟨h1, h2⟩ | ⟨q, h1, h2, h3, h4⟩
      · exact .inl h1
      · have h2 : (q : Int) = fx_o ν o := h2
        refine .inr ⟨q, h1, h2, h3, .inl h4, .inl rfl, J.cond (op := 1) ?_, rfl, rfl, rfl, r.1⟩
        intro z
        have z : fx_o ν o = -1 := z
        omega
    · cases e
/-- a new region is begun -/
theorem fx_op_ok (J : fx_J E M ν0 S0 h0 σ ν h n0) : ∃ δ, fx_J E M ν0 S0 h0 (fx_op σ) (ν ++ δ) h n0 ∧ 0 ≤ (fx_op σ).2.1.1.2 ∧ (∀ s v, fx_P E h n0 σ ν s v → fx_P E h n0 (fx_op σ) (ν ++ δ) s v) := by
  unfold fx_op
  split
  · next hc =>
    obtain ⟨c1, c2⟩ := Bool.and_eq_true_iff.mp hc
    have hn : σ.2.1.2 = [] := List.isEmpty_iff.mp c1
    have J1 := J.push (e := (12, 0, [])) (z := (fx_of E h).2.2) (fun K hK => hK)
    obtain ⟨j1, j2, j3, j4, j5, j6, j7, j8⟩ := J1
    have hl : n0 = h.length := by
      have := J.2.2.2.2.1
      rw [hn] at this
      exact this
    refine ⟨[(fx_of E h).2.2], ⟨j1, j2, j3, j4, by show n0 + 0 = h.length; omega, fun _ => ⟨?_, ?_⟩, .inr (Int.le_refl _), fun j c hj => by cases hj⟩, Int.le_refl _, fun s v r => fx_vr_ext (fx_ext_rf h) (Nat.le_refl _) (fun o _ f => ?_) r⟩
    · show fx_o (ν ++ [(fx_of E h).2.2]) (σ.1 + 1, 0) = (n0 : Int)
      rw [fx_o_new J.1, hl]
      rfl
    · show σ.1 + 1 ≤ (ν ++ [(fx_of E h).2.2]).length
      rw [List.length_append, J.1]
      exact Nat.le_refl _
    · rw [fx_fr_nil hn] at f
      cases f
  · next hc =>
    refine ⟨[], ?_, ?_, ?_⟩
    · rw [List.append_nil]; exact J
    · rcases J.2.2.2.2.2.2.1 with hn | hn
      · by_cases hz : σ.2.1.1.2 < 0
        · exact absurd (by rw [hn]; show (true && decide (σ.2.1.1.2 < 0)) = true; rw [decide_eq_true hz]; rfl) hc
        · omega
      · exact hn
    · intro s v r
      rw [List.append_nil]
      exact r
/-- a cell more -/
theorem fx_nw_ok {c : fx_FC} {x : cz_C} (J : fx_J E M ν0 S0 h0 σ ν h n0) (hb : 0 ≤ σ.2.1.1.2) (hI : ∀ j, fx_cI (some x) j = 0) (hR : ∀ j, fx_cR E.1 (some x) j = -1) (hw : fx_cw E (h ++ [x]) n0 h.length x) (hx : match c with
    | (0, ci, fs) => ∃ gs, x = .inr (ci, gs) ∧ gs.length = fs.length ∧ ∀ (k : Nat) (s : fx_V), fs[k]? ≠ some (some s)
    | (t + 1, n, _) => ∃ y, x = .inl (t, n, y)) : fx_J E M ν0 S0 h0 (fx_nw c σ) ν (h ++ [x]) n0 ∧ (∀ s v, fx_P E h n0 σ ν s v → fx_P E (h ++ [x]) n0 (fx_nw c σ) ν s v) ∧ fx_fr (fx_nw c σ).2.1 (σ.2.1.1.1, σ.2.1.1.2 + σ.2.1.2.length) = true ∧ fx_o ν (σ.2.1.1.1, σ.2.1.1.2 + σ.2.1.2.length) = (h.length : Int) ∧ σ.2.1.1.1 ≤ ν.length := by
  obtain ⟨j1, j2, j3, j4, j5, j6, j7, j8⟩ := J
  have b := j6 hb
  have ex := fx_ext_app h x
  have hf : ∀ o : fx_O, fx_fr σ.2.1 o = true → fx_fr (fx_nw c σ).2.1 o = true := by
    intro o f
    obtain ⟨f1, f2⟩ := Bool.and_eq_true_iff.mp f
    refine Bool.and_eq_true_iff.mpr ⟨?_, f2⟩
    show (!(σ.2.1.2 ++ [c]).isEmpty) = true
    cases σ.2.1.2 <;> rfl
  have up : ∀ s v, fx_vr E h n0 σ.2.1 ν s v → fx_vr E (h ++ [x]) n0 (fx_nw c σ).2.1 ν s v := fun s v r => fx_vr_h ex (Nat.le_refl _) (fun o _ f _ _ _ => .inr (hf o f)) r
  have el : fx_o ν (σ.2.1.1.1, σ.2.1.1.2 + σ.2.1.2.length) = (h.length : Int) := by
    have := fx_o_sub (ν := ν) (o := (σ.2.1.1.1, σ.2.1.1.2 + (σ.2.1.2.length : Int))) (b := σ.2.1.1) rfl
    have e2 : (σ.2.1.1.1, σ.2.1.1.2 + (σ.2.1.2.length : Int)).2 = σ.2.1.1.2 + (σ.2.1.2.length : Int) := rfl
    rw [e2] at this
    rw [this, b.1]
    omega
  refine ⟨⟨j1, fx_reach (e := (6, 0, [])) j2 (fun K hK => by rw [fx_of_app hI hR]; exact hK), fx_WF_app j3 hw, fx_ext_tr j4 ex, ?_, j6, .inr hb, fun j d hj => ?_⟩, up, ?_, el, b.2⟩
  · show n0 + (σ.2.1.2 ++ [c]).length = (h ++ [x]).length
    rw [List.length_append, List.length_append]
    show n0 + (σ.2.1.2.length + 1) = h.length + 1
    omega
  · have hj : (σ.2.1.2 ++ [c])[j]? = some d := hj
    rcases Nat.lt_or_ge j σ.2.1.2.length with hlt | hge
    · rw [List.getElem?_append_left hlt] at hj
      have f := fx_FR_at j8 hj
      obtain ⟨t, n, fs⟩ := d
      cases t with
      | zero =>
        obtain ⟨gs, a, b, g⟩ := f
        refine ⟨gs, (List.getElem?_append_left (by omega)).trans a, b, fun k s hk hs => ?_⟩
        obtain ⟨v, hv, r⟩ := g k s hk hs
        exact ⟨v, hv, up s v r⟩
      | succ t =>
        obtain ⟨y, a⟩ := f
        exact ⟨y, (List.getElem?_append_left (by omega)).trans a⟩
    · have hjl := (List.getElem?_eq_some_iff.mp hj).1
      rw [List.length_append] at hjl
      have hjl : j < σ.2.1.2.length + 1 := hjl
      have : j = σ.2.1.2.length := by omega
      subst this
      rw [List.getElem?_concat_length] at hj
      cases hj
      obtain ⟨t, n, fs⟩ := c
      cases t with
      | zero =>
        obtain ⟨gs, rfl, a, b⟩ := hx
        refine ⟨gs, ?_, a, fun k s _ hs => absurd hs (b k s)⟩
        rw [j5, List.getElem?_concat_length]
      | succ t =>
        obtain ⟨y, rfl⟩ := hx
        exact ⟨y, by rw [j5, List.getElem?_concat_length]⟩
  · refine Bool.and_eq_true_iff.mpr ⟨?_, Bool.and_eq_true_iff.mpr ⟨by simp [fx_nw], decide_eq_true ?_⟩⟩
    · show (!(σ.2.1.2 ++ [c]).isEmpty) = true
      cases σ.2.1.2 <;> rfl
    · show σ.2.1.1.2 ≤ σ.2.1.1.2 + (σ.2.1.2.length : Int)
      omega
end FXC
def fx_dok : Bool := (List.range 13).all fun ci => (List.range (cz_df ci).length).all fun k => match fx_dl ci k with
  | none => decide ((cz_df ci)[k]? = some (.int 0))
  | some _ => decide ((cz_df ci)[k]? = some .null)
theorem fx_dok_ok : fx_dok = true := by decide +kernel
theorem fx_df {ci k : Nat} {v : Value} (hc : ci < 13) (hk : (cz_df ci)[k]? = some v) : (fx_dl ci k = none → v = .int 0) ∧ (fx_dl ci k ≠ none → v = .null) := by
  have h1 := List.all_eq_true.mp fx_dok_ok ci (List.mem_range.mpr hc)
  have h2 := List.all_eq_true.mp h1 k (List.mem_range.mpr (List.getElem?_eq_some_iff.mp hk).1)
  cases hd : fx_dl ci k with
  | none =>
    rw [hd] at h2
    have h2 : (cz_df ci)[k]? = some (.int 0) := of_decide_eq_true h2
    rw [hk] at h2
    cases h2
    exact ⟨fun _ => rfl, fun z => absurd rfl z⟩
  | some d =>
    rw [hd] at h2
    have h2 : (cz_df ci)[k]? = some .null := of_decide_eq_true h2
    rw [hk] at h2
    cases h2
    exact ⟨fun z => (by cases z), fun _ => rfl⟩
