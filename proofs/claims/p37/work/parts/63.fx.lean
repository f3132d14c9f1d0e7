/-! FX: ways that part are told rightly -/
section FXB
variable {E : cz_E} {M : fx_M} {ν0 : List Int} {S0 : fx_S} {h0 : cz_H} {σ : fx_Y} {ν : List Int} {h : cz_H} {n0 : Nat}
theorem fx_br_ok {op t u : Nat} {a b : fx_O} {lv : fx_L} {st : List fx_V} {clv : cz_LV} {cst : List Value} (J : fx_J E M ν0 S0 h0 σ ν h n0) (L : fx_LR (fx_P E h n0 σ ν) lv clv) (S : fx_SR (fx_P E h n0 σ ν) st cst) : (fx_c op (fx_o ν a) (fx_o ν b) → ∃ r ∈ fx_br σ op a b t u lv st, r.1 = t ∧ fx_ok2 E σ ν h n0 r.2.2.2 ν h n0 ∧ fx_Q E M ν0 S0 h0 r ν clv cst h n0) ∧ (¬ fx_c op (fx_o ν a) (fx_o ν b) → ∃ r ∈ fx_br σ op a b t u lv st, r.1 = u ∧ fx_ok2 E σ ν h n0 r.2.2.2 ν h n0 ∧ fx_Q E M ν0 S0 h0 r ν clv cst h n0) := by
  unfold fx_br
  split
  · next hk =>
    obtain ⟨k1, k2⟩ := Bool.and_eq_true_iff.mp hk
    rw [fx_k_ok k1, fx_k_ok k2]
    refine ⟨fun hc => ?_, fun hc => ?_⟩
    · rw [if_pos ((fx_cb_ok _ _ _).mpr hc)]
      exact ⟨_, List.mem_singleton.mpr rfl, rfl, fun _ _ r => r, J, L, S⟩
    · rw [if_neg (fun z => hc ((fx_cb_ok _ _ _).mp z))]
      exact ⟨_, List.mem_singleton.mpr rfl, rfl, fun _ _ r => r, J, L, S⟩
  · refine ⟨fun hc => ⟨_, List.mem_cons_self, rfl, fun _ _ r => r, J.cond hc, L, S⟩, fun hc => ⟨_, List.mem_cons_of_mem _ List.mem_cons_self, rfl, fun _ _ r => r, J.cond (fx_cn_ok hc), L, S⟩⟩
theorem fx_d1_true {M : fx_M} {e : fx_Ev} {ν : List Int} {S : fx_S} {K : List Int → fx_S → Prop} (h : ∀ ν S, K ν S) : fx_d1 M e ν S K := by
  unfold fx_d1
  split <;> first | exact h _ _ | exact fun _ => h _ _ | exact fun _ _ => h _ _ | exact fun _ _ _ _ _ => h _ _
theorem fx_d_true {M : fx_M} {K : List Int → fx_S → Prop} (h : ∀ ν S, K ν S) : ∀ {l : List fx_Ev} {ν : List Int} {S : fx_S}, fx_d M l ν S K := by
  intro l
  induction l with
  | nil => intro ν S; exact h _ _
  | cons e l ih => intro ν S; exact fx_d1_true fun ν' S' => ih
theorem fx_lc_ok {o : fx_O} (J : fx_J E M ν0 S0 h0 σ ν h n0) (op : Nat) : fx_c op (fx_o ν (fx_lc σ o).1) (fx_o ν (fx_lc σ o).2) ↔ fx_c op (fx_o ν o) 0 := by
  unfold fx_lc
  split
  · next a b rest he =>
    split
    · next hc =>
      obtain ⟨h1, h2, h3, h4⟩ := hc
      have hr := J.2.1 (fun ν' _ => ∃ μ, ν' = μ ++ [fx_lcm (fx_o μ a) (fx_o μ b)]) (by
        rw [he, List.reverse_cons, fx_d_app]
        exact fx_d_true fun μ S => ⟨μ, rfl⟩)
      obtain ⟨μ, hμ⟩ := hr
      have hl : μ.length + 1 = σ.1 := by
        have := J.1
        rw [hμ, List.length_append] at this
        exact this
      have ea : fx_o ν a = fx_o μ a := by rw [hμ]; exact fx_o_app (by omega)
      have eb : fx_o ν b = fx_o μ b := by rw [hμ]; exact fx_o_app (by omega)
      have eo : fx_o ν o = fx_lcm (fx_o μ a) (fx_o μ b) := by
        obtain ⟨n, k⟩ := o
        have h1n : n = σ.1 := h1
        have h2n : k = 0 := h2
        rw [h2n, h1n, ← hl, hμ]
        exact fx_o_new rfl
      show fx_c op (fx_o ν a) (fx_o ν b) ↔ _
      rw [ea, eb, eo]
      unfold fx_lcm
      match op with
      | 0 => show _ = _ ↔ _ = _; split <;> (try split) <;> omega
      | 1 => show ¬ _ = _ ↔ ¬ _ = _; split <;> (try split) <;> omega
      | 2 => show _ < _ ↔ _ < _; split <;> (try split) <;> omega
      | 3 => show _ ≤ _ ↔ _ ≤ _; split <;> (try split) <;> omega
      | 4 => show _ < _ ↔ _ < _; split <;> (try split) <;> omega
      | n + 5 => show _ ≤ _ ↔ _ ≤ _; split <;> (try split) <;> omega
    · exact Iff.rfl
  · exact Iff.rfl
theorem fx_b1 (c : Jvm.ClassFile.Cond) (x : Int32) : cz_b1 c x = true ↔ fx_c (fx_cc c) x.toInt 0 := by
  have e0 : (0 : Int32).toInt = 0 := by decide
  cases c with
  | eq => exact decide_eq_true_iff.trans ⟨fun e => by rw [e]; exact e0, fun e => Int32.toInt_inj.mp (Eq.trans e e0.symm)⟩
  | ne => exact decide_eq_true_iff.trans ⟨fun e g => e (Int32.toInt_inj.mp (Eq.trans g e0.symm)), fun e g => e (by rw [g]; exact e0)⟩
  | lt => exact decide_eq_true_iff.trans (by rw [Int32.lt_iff_toInt_lt, e0]; exact Iff.rfl)
  | ge => exact decide_eq_true_iff.trans (by rw [Int32.le_iff_toInt_le, e0]; exact Iff.rfl)
  | gt => exact decide_eq_true_iff.trans (by rw [Int32.lt_iff_toInt_lt, e0]; exact Iff.rfl)
  | le => exact decide_eq_true_iff.trans (by rw [Int32.le_iff_toInt_le, e0]; exact Iff.rfl)
theorem fx_b2 (c : Jvm.ClassFile.Cond) (x y : Int32) : cz_b2 c x y = true ↔ fx_c (fx_cc c) x.toInt y.toInt := by
  cases c with
  | eq => exact decide_eq_true_iff.trans ⟨fun e => by rw [e]; exact rfl, fun e => Int32.toInt_inj.mp e⟩
  | ne => exact decide_eq_true_iff.trans ⟨fun e g => e (Int32.toInt_inj.mp g), fun e g => e (by rw [g])⟩
  | lt => exact decide_eq_true_iff.trans Int32.lt_iff_toInt_lt
  | ge => exact decide_eq_true_iff.trans Int32.le_iff_toInt_le
  | gt => exact decide_eq_true_iff.trans Int32.lt_iff_toInt_lt
  | le => exact decide_eq_true_iff.trans Int32.le_iff_toInt_le
theorem cz_j_of {α : Type} {pc : Nat} {off : Int} {k : Nat → Option α} {t : Nat} (h : (pc : Int) + off = (t : Int)) : cz_j pc off k = k t := by
  unfold cz_j
  rw [if_pos (by omega), h, Int.toNat_natCast]
theorem fx_ts_ok {o : fx_O} {pc : Nat} {lv : fx_L} {st : List fx_V} : ∀ {offs : List Int} {k : Int} {l : List fx_R}, fx_ts σ o pc lv st k offs = some l → ∀ (i : Nat) (off : Int), offs[i]? = some off → ∃ t : Nat, (pc : Int) + off = (t : Int) ∧ (t, lv, st, fx_ad σ (3, 0, [o, (0, k + i)])) ∈ l := by
  intro offs
  induction offs with
  | nil => intro k l _ i off hi; cases hi
  | cons a offs ih =>
    intro k l e i off hi
    obtain ⟨r, hr, e1⟩ := cz_so_some e
    obtain ⟨t, ht, e2⟩ := cz_j_some e1
    cases e2
    cases i with
    | zero =>
      have hi : a = off := by simpa using hi
      subst hi
      refine ⟨t, ht, ?_⟩
      rw [show k + ((0 : Nat) : Int) = k by omega]
      exact List.mem_cons_self
    | succ i =>
      have hi : offs[i]? = some off := by simpa using hi
      obtain ⟨t', ht', hm⟩ := ih hr i off hi
      refine ⟨t', ht', List.mem_cons_of_mem _ ?_⟩
      rw [show k + ((i + 1 : Nat) : Int) = k + 1 + (i : Int) by omega]
      exact hm
theorem fx_ls_ok {o : fx_O} {pc : Nat} {dflt : Int} {lv : fx_L} {st : List fx_V} {clv : cz_LV} {cst : List Value} (L : fx_LR (fx_P E h n0 σ ν) lv clv) (S : fx_SR (fx_P E h n0 σ ν) st cst) : ∀ {ps : List (Int × Int)} {τ : fx_Y} {l : List fx_R}, τ.2.1 = σ.2.1 → fx_J E M ν0 S0 h0 τ ν h n0 → fx_ls τ o pc dflt lv st ps = some l → ∃ r ∈ l, (pc : Int) + Op.lookupswitch.offset ps dflt (fx_o ν o) = (r.1 : Int) ∧ fx_ok2 E σ ν h n0 r.2.2.2 ν h n0 ∧ fx_Q E M ν0 S0 h0 r ν clv cst h n0 := by
  intro ps
  induction ps with
  | nil =>
    intro τ l hτ J e
    obtain ⟨t, ht, e2⟩ := cz_j_some e
    cases e2
    refine ⟨_, List.mem_singleton.mpr rfl, ht, fun s v r => (by show fx_vr E h n0 τ.2.1 ν s v; rw [hτ]; exact r), J, ?_, ?_⟩
    · show fx_LR (fx_vr E h n0 τ.2.1 ν) lv clv
      rw [hτ]; exact L
    · show fx_SR (fx_vr E h n0 τ.2.1 ν) st cst
      rw [hτ]; exact S
  | cons p ps ih =>
    intro τ l hτ J e
    obtain ⟨k, off⟩ := p
    obtain ⟨r, hr, e1⟩ := cz_so_some e
    obtain ⟨t, ht, e2⟩ := cz_j_some e1
    cases e2
    by_cases hk : k = fx_o ν o
    · refine ⟨_, List.mem_cons_self, ?_, fun s v r => (by show fx_vr E h n0 τ.2.1 ν s v; rw [hτ]; exact r), J.cond (show fx_o ν o = k from hk.symm), ?_, ?_⟩
      · show (pc : Int) + (if k = fx_o ν o then off else _) = (t : Int)
        rw [if_pos hk]; exact ht
      · show fx_LR (fx_vr E h n0 τ.2.1 ν) lv clv
        rw [hτ]; exact L
      · show fx_SR (fx_vr E h n0 τ.2.1 ν) st cst
        rw [hτ]; exact S
    · obtain ⟨r1, hm, hj, U, Q⟩ := ih (τ := fx_ad τ (3, 1, [o, (0, k)])) hτ (J.cond (show fx_o ν o ≠ k from fun z => hk z.symm)) hr
      refine ⟨r1, List.mem_cons_of_mem _ hm, ?_, U, Q⟩
      show (pc : Int) + (if k = fx_o ν o then off else Op.lookupswitch.offset ps dflt (fx_o ν o)) = (r1.1 : Int)
      rw [if_neg hk]; exact hj
set_option maxHeartbeats 4000000 in
theorem fx_xb_ok {nL : Nat} {q : cz_I} {lv : fx_L} {st : List fx_V} {l : List fx_R} {clv : cz_LV} {cst : List Value} (e : fx_xb q lv st σ = some l) (J : fx_J E M ν0 S0 h0 σ ν h n0) (L : fx_LR (fx_P E h n0 σ ν) lv clv) (S : fx_SR (fx_P E h n0 σ ν) st cst) : fx_ys E M ν0 S0 h0 nL q l clv cst h n0 σ ν ∨ fx_no E nL q clv cst h := by
  obtain ⟨pc, ins, len, xa, xb⟩ := q
  cases ins
  case ifCond c off =>
    obtain ⟨e0, e1⟩ := cz_n_some e
    have e0 : len = 3 := e0
    subst e0
    obtain ⟨x, r, rfl, tx, e2⟩ := fx_i1_some e1
    obtain ⟨v1, cr, rfl, hx, hr⟩ := S.cons
    obtain ⟨a, rfl, ha⟩ := fx_P_i hx tx
    obtain ⟨t, ht, e3⟩ := cz_j_some e2
    cases e3
    have hs1 : cz_s1 E nL (pc, .ifCond c off, 3, xa, xb) clv (.int a :: cr) = some (if cz_b1 c a = true then t else pc + 3, clv, cr) := by
      show cz_n 3 3 (cz_j pc off fun t => some (if cz_b1 c a = true then t else pc + 3, clv, cr)) = _
      rw [cz_j_of ht]; rfl
    have hb : cz_b1 c a = true ↔ fx_c (fx_cc c) (fx_o ν (fx_lc σ x.2.1).1) (fx_o ν (fx_lc σ x.2.1).2) := by
      rw [fx_lc_ok J (fx_cc c), ← ha]
      exact fx_b1 c a
    obtain ⟨h1, h2⟩ := fx_br_ok (op := fx_cc c) (t := t) (u := pc + 3) (a := (fx_lc σ x.2.1).1) (b := (fx_lc σ x.2.1).2) J L hr
    by_cases hc : cz_b1 c a = true
    · obtain ⟨r1, m, e4, U, Q⟩ := h1 (hb.mp hc)
      exact .inl ⟨r1, m, ν, U, clv, cr, by rw [hs1, if_pos hc, e4], Q⟩
    · obtain ⟨r1, m, e4, U, Q⟩ := h2 (fun z => hc (hb.mpr z))
      exact .inl ⟨r1, m, ν, U, clv, cr, by rw [hs1, if_neg hc, e4], Q⟩
  case if_icmp c off =>
    obtain ⟨e0, e1⟩ := cz_n_some e
    have e0 : len = 3 := e0
    subst e0
    obtain ⟨y, x, r, rfl, tx, ty, e2⟩ := fx_i2_some e1
    obtain ⟨v1, cr, rfl, hy, hq1⟩ := S.cons
    obtain ⟨v2, cr, rfl, hx, hr⟩ := hq1.cons
    obtain ⟨a, rfl, ha⟩ := fx_P_i hx tx
    obtain ⟨b, rfl, hb⟩ := fx_P_i hy ty
    obtain ⟨t, ht, e3⟩ := cz_j_some e2
    cases e3
    have hs1 : cz_s1 E nL (pc, .if_icmp c off, 3, xa, xb) clv (.int b :: .int a :: cr) = some (if cz_b2 c a b = true then t else pc + 3, clv, cr) := by
      show cz_n 3 3 (cz_j pc off fun t => some (if cz_b2 c a b = true then t else pc + 3, clv, cr)) = _
      rw [cz_j_of ht]; rfl
    have hbb := fx_b2 c a b
    rw [ha, hb] at hbb
    obtain ⟨h1, h2⟩ := fx_br_ok (op := fx_cc c) (t := t) (u := pc + 3) (a := x.2.1) (b := y.2.1) J L hr
    by_cases hc : cz_b2 c a b = true
    · obtain ⟨r1, m, e4, U, Q⟩ := h1 (hbb.mp hc)
      exact .inl ⟨r1, m, ν, U, clv, cr, by rw [hs1, if_pos hc, e4], Q⟩
    · obtain ⟨r1, m, e4, U, Q⟩ := h2 (fun z => hc (hbb.mpr z))
      exact .inl ⟨r1, m, ν, U, clv, cr, by rw [hs1, if_neg hc, e4], Q⟩
  case ifnull off =>
    obtain ⟨e0, e1⟩ := cz_n_some e
    have e0 : len = 3 := e0
    subst e0
    obtain ⟨s, r, rfl, e2⟩ := fx_v1_some e1
    obtain ⟨v, cr, rfl, hs, hr⟩ := S.cons
    obtain ⟨t, ht, e3⟩ := cz_j_some e2
    obtain ⟨u, o, w⟩ := s
    have hs1 : cz_isA v = true → cz_s1 E nL (pc, .ifnull off, 3, xa, xb) clv (v :: cr) = some (if v = .null then t else pc + 3, clv, cr) := by
      intro hA
      show cz_n 3 3 (cz_if (cz_isA v) (cz_j pc off fun t => some (if v = .null then t else pc + 3, clv, cr))) = _
      rw [hA, cz_j_of ht]; rfl
    have e3 : (if u = 4 then some [(t, lv, r, σ)] else if u = 2 then some [(pc + 3, lv, r, σ)] else cz_if (u == 3) (some (fx_br σ 0 o (0, -1) t (pc + 3) lv r))) = some l := e3
    split at e3
    · next h4 =>
      subst h4
      cases e3
      have hv : v = .null := hs.2
      subst hv
      exact .inl ⟨_, List.mem_singleton.mpr rfl, ν, fun _ _ r => r, clv, cr, by rw [hs1 rfl, if_pos rfl], J, L, hr⟩
    · split at e3
      · next h2 =>
        subst h2
        cases e3
        obtain ⟨p, hp, -⟩ := hs.2
        subst hp
        exact .inl ⟨_, List.mem_singleton.mpr rfl, ν, fun _ _ r => r, clv, cr, by rw [hs1 rfl, if_neg (fun z => by cases z)], J, L, hr⟩
      · obtain ⟨h3, e4⟩ := cz_if_some e3
        have h3 : u = 3 := by simpa using h3
        subst h3
        cases e4
        obtain ⟨b1, b2⟩ := fx_br_ok (op := 0) (t := t) (u := pc + 3) (a := o) (b := (0, -1)) J L hr
        rcases hs.2 with ⟨hv, ho⟩ | ⟨p, hv, ho, -⟩
        · subst hv
          obtain ⟨r1, m, e5, U, Q⟩ := b1 ho
          exact .inl ⟨r1, m, ν, U, clv, cr, by rw [hs1 rfl, if_pos rfl, e5], Q⟩
        · subst hv
          obtain ⟨r1, m, e5, U, Q⟩ := b2 (fun z => by
            have z : fx_o ν o = -1 := z
            have ho : (p : Int) = fx_o ν o := ho
            omega)
          exact .inl ⟨r1, m, ν, U, clv, cr, by rw [hs1 rfl, if_neg (fun z => by cases z), e5], Q⟩
  case ifnonnull off =>
    obtain ⟨e0, e1⟩ := cz_n_some e
    have e0 : len = 3 := e0
    subst e0
    obtain ⟨s, r, rfl, e2⟩ := fx_v1_some e1
    obtain ⟨v, cr, rfl, hs, hr⟩ := S.cons
    obtain ⟨t, ht, e3⟩ := cz_j_some e2
    obtain ⟨u, o, w⟩ := s
    have hs1 : cz_isA v = true → cz_s1 E nL (pc, .ifnonnull off, 3, xa, xb) clv (v :: cr) = some (if v = .null then pc + 3 else t, clv, cr) := by
      intro hA
      show cz_n 3 3 (cz_if (cz_isA v) (cz_j pc off fun t => some (if v = .null then pc + 3 else t, clv, cr))) = _
      rw [hA, cz_j_of ht]; rfl
    have e3 : (if u = 4 then some [(pc + 3, lv, r, σ)] else if u = 2 then some [(t, lv, r, σ)] else cz_if (u == 3) (some (fx_br σ 0 o (0, -1) (pc + 3) t lv r))) = some l := e3
    split at e3
    · next h4 =>
      subst h4
      cases e3
      have hv : v = .null := hs.2
      subst hv
      exact .inl ⟨_, List.mem_singleton.mpr rfl, ν, fun _ _ r => r, clv, cr, by rw [hs1 rfl, if_pos rfl], J, L, hr⟩
    · split at e3
      · next h2 =>
        subst h2
        cases e3
        obtain ⟨p, hp, -⟩ := hs.2
        subst hp
        exact .inl ⟨_, List.mem_singleton.mpr rfl, ν, fun _ _ r => r, clv, cr, by rw [hs1 rfl, if_neg (fun z => by cases z)], J, L, hr⟩
      · obtain ⟨h3, e4⟩ := cz_if_some e3
        have h3 : u = 3 := by simpa using h3
        subst h3
        cases e4
        obtain ⟨b1, b2⟩ := fx_br_ok (op := 0) (t := pc + 3) (u := t) (a := o) (b := (0, -1)) J L hr
        rcases hs.2 with ⟨hv, ho⟩ | ⟨p, hv, ho, -⟩
        · subst hv
          obtain ⟨r1, m, e5, U, Q⟩ := b1 ho
          exact .inl ⟨r1, m, ν, U, clv, cr, by rw [hs1 rfl, if_pos rfl, e5], Q⟩
        · subst hv
          obtain ⟨r1, m, e5, U, Q⟩ := b2 (fun z => by
            have z : fx_o ν o = -1 := z
            have ho : (p : Int) = fx_o ν o := ho
            omega)
          exact .inl ⟨r1, m, ν, U, clv, cr, by rw [hs1 rfl, if_neg (fun z => by cases z), e5], Q⟩
  case tableswitch dflt lo hi offs =>
    have e : (fx_i1 st fun x r => cz_if (!(fx_k x)) (cz_so (fx_ts σ x pc lv r lo offs.toList) fun l => cz_j pc dflt fun t => some ((t, lv, r, fx_ad σ (3, 2, [x, (0, lo)])) :: (t, lv, r, fx_ad σ (3, 4, [x, (0, hi)])) :: l))) = some l := e
    obtain ⟨x, r, rfl, tx, e2⟩ := fx_i1_some e
    obtain ⟨g1, e3⟩ := cz_if_some e2
    obtain ⟨l1, hl1, e4⟩ := cz_so_some e3
    obtain ⟨t, ht, e5⟩ := cz_j_some e4
    cases e5
    obtain ⟨v1, cr, rfl, hx, hr⟩ := S.cons
    obtain ⟨a, rfl, ha⟩ := fx_P_i hx tx
    by_cases h1 : a.toInt < lo
    · refine .inl ⟨_, List.mem_cons_self, ν, fun _ _ r => r, clv, cr, ?_, J.cond (show fx_o ν x.2.1 < lo by rw [← ha]; exact h1), L, hr⟩
      show (if a.toInt < lo ∨ hi < a.toInt then cz_j pc dflt (fun t => some (t, clv, cr)) else _) = _
      rw [if_pos (.inl h1), cz_j_of ht]
    · by_cases h2 : hi < a.toInt
      · refine .inl ⟨_, List.mem_cons_of_mem _ List.mem_cons_self, ν, fun _ _ r => r, clv, cr, ?_, J.cond (show hi < fx_o ν x.2.1 by rw [← ha]; exact h2), L, hr⟩
        show (if a.toInt < lo ∨ hi < a.toInt then cz_j pc dflt (fun t => some (t, clv, cr)) else _) = _
        rw [if_pos (.inr h2), cz_j_of ht]
      · have hn : ¬ (a.toInt < lo ∨ hi < a.toInt) := fun z => z.elim h1 h2
        cases hof : offs[(a.toInt - lo).toNat]? with
        | none =>
          refine .inr ⟨?_, rfl, rfl⟩
          show (if a.toInt < lo ∨ hi < a.toInt then cz_j pc dflt (fun t => some (t, clv, cr)) else (match offs[(a.toInt - lo).toNat]? with | some off => cz_j pc off fun t => some (t, clv, cr) | none => none)) = none
          rw [if_neg hn, hof]
        | some off =>
          have hof' : offs.toList[(a.toInt - lo).toNat]? = some off := by rw [Array.getElem?_toList]; exact hof
          obtain ⟨t2, ht2, hm⟩ := fx_ts_ok hl1 _ off hof'
          refine .inl ⟨_, List.mem_cons_of_mem _ (List.mem_cons_of_mem _ hm), ν, fun _ _ r => r, clv, cr, ?_, J.cond (show fx_o ν x.2.1 = lo + ((a.toInt - lo).toNat : Int) by rw [← ha]; omega), L, hr⟩
          show (if a.toInt < lo ∨ hi < a.toInt then cz_j pc dflt (fun t => some (t, clv, cr)) else (match offs[(a.toInt - lo).toNat]? with | some off => cz_j pc off fun t => some (t, clv, cr) | none => none)) = _
          rw [if_neg hn, hof]
          show cz_j pc off (fun t => some (t, clv, cr)) = _
          rw [cz_j_of ht2]
  case lookupswitch dflt ps =>
    have e : (fx_i1 st fun x r => cz_if (!(fx_k x)) (fx_ls σ x pc dflt lv r ps.toList)) = some l := e
    obtain ⟨x, r, rfl, tx, e2⟩ := fx_i1_some e
    obtain ⟨g1, e3⟩ := cz_if_some e2
    obtain ⟨v1, cr, rfl, hx, hr⟩ := S.cons
    obtain ⟨a, rfl, ha⟩ := fx_P_i hx tx
    by_cases hsw : cz_sw ps.toList = true
    · obtain ⟨r1, m, e4, U, Q⟩ := fx_ls_ok L hr rfl J e3
      refine .inl ⟨r1, m, ν, U, clv, cr, ?_, Q⟩
      show cz_if (cz_sw ps.toList) (cz_j pc (Op.lookupswitch.offset ps.toList dflt a.toInt) fun t => some (t, clv, cr)) = _
      rw [hsw, ha, cz_j_of e4]; rfl
    · refine .inr ⟨?_, rfl, rfl⟩
      show cz_if (cz_sw ps.toList) _ = _
      rw [Bool.eq_false_iff.mpr hsw]; rfl
  case athrow => exact .inr ⟨rfl, rfl, rfl⟩
  case invokestatic m =>
    have e : (if xb < 0 ∧ ¬ xb = -5 then some [] else none) = some l := e
    split at e
    · next hc =>
      refine .inr ⟨rfl, ?_, ?_⟩
      · show cz_n len 3 (cz_if (xb == -5) _) = none
        rw [show (xb == -5) = false from by simpa using hc.2]
        unfold cz_n; split <;> rfl
      · show cz_n len 3 (cz_if (decide (0 ≤ xb)) _) = none
        rw [decide_eq_false (by omega)]
        unfold cz_n; split <;> rfl
    · cases e
  case invokespecial m =>
    have e : (if xb ≤ 0 ∧ ¬ xb = -4 then some [] else none) = some l := e
    split at e
    · next hc =>
      refine .inr ⟨rfl, ?_, ?_⟩
      · show cz_n len 3 (cz_if (xb == -4) _) = none
        rw [show (xb == -4) = false from by simpa using hc.2]
        unfold cz_n; split <;> rfl
      · show cz_n len 3 (cz_if (decide (0 < xb)) _) = none
        rw [decide_eq_false (by omega)]
        unfold cz_n; split <;> rfl
    · cases e
  case invokevirtual m =>
    have e : (if xb ≤ 0 then some [] else none) = some l := e
    split at e
    · next hc =>
      refine .inr ⟨rfl, rfl, ?_⟩
      show cz_n len 3 (cz_if (decide (0 < xb)) _) = none
      rw [decide_eq_false (by omega)]
      unfold cz_n; split <;> rfl
    · cases e
  all_goals cases e
end FXB
