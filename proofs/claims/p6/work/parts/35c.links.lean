/-! THE CHECKER IS SOUND: links -/
theorem ck_rfo {g : Nat → Option Nat} {i a : Nat} (e : va_rf (g i) = .ref a) : g i = some a := by
  cases hg : g i with
  | none =>
    rw [hg] at e
    cases e
  | some b =>
    rw [hg] at e
    have e : Value.ref b = .ref a := e
    injection e with e
    rw [e]
theorem ck_ak71 : ck_ak 71 = some (5, 3, 0, (3, 0, 0, 10)) := rfl
theorem ck_ak77 : ck_ak 77 = some (0, 8090, 1, (0, 0, 0, 0)) := rfl
theorem ck_ak78 : ck_ak 78 = some (0, 24270, 2, (0, 0, 0, 0)) := rfl
theorem ck_n3 {E : cz_E} {B : Int} {Γ : ck_G} {h : cz_H} (t : ck_HT E B Γ h) : ∀ (p tc nn : Nat) (g : Nat → Option Nat) (m : Nat), Γ[p]? = some (71, m) → h[p]? = some (.inl (tc, nn, .inr (.inr (.inr (.inr g))))) → nn = 3 := by
  intro p tc nn g m h1 h2
  obtain ⟨y, e, -⟩ := ck_arr t h1 ck_ak71
  cases h2.symm.trans e
  rfl
theorem ck_n8 {E : cz_E} {B : Int} {Γ : ck_G} {h : cz_H} (t : ck_HT E B Γ h) : ∀ (p tc nn : Nat) (f : Nat → Int32) (m : Nat), Γ[p]? = some (78, m) → h[p]? = some (.inl (tc, nn, .inl f)) → nn = 24270 := by
  intro p tc nn f m h1 h2
  obtain ⟨y, e, -⟩ := ck_arr t h1 ck_ak78
  cases h2.symm.trans e
  rfl
section CKLN
variable {E : cz_E} {Γ : ck_G} {B : Int} {ρ : List Int} {n n' : ck_N} {es es' : List ck_Q} {h : cz_H} {v w : ck_V} {x : Value}
theorem ck_f11_1 (hm : ∀ q ∈ es, ck_M E Γ h ρ q) {r k m : Nat} (e : ck_f11 es r k = some m) : ∃ p m' : Nat, (p : Int) = ρ.getD r 0 ∧ Γ[p]? = some (k, m') ∧ ck_sub1 m m' := by
  obtain ⟨y, hy⟩ := ck_f11_mem e
  exact hm _ hy
theorem ck_nz1 (hn : ck_nok n ρ) (hm : ∀ q ∈ es, ck_M E Γ h ρ q) (hv : ck_D E Γ ρ v x) : ck_D E Γ ρ (ck_nz n es v) x := by
  unfold ck_nz
  split
  · next t =>
    split
    · next b eb =>
      have hb := hn.1 _ _ eb
      split
      · next h0 =>
        rcases ck_D4 hv t with ⟨-, e⟩ | ⟨p, e1, e2, m, e3, e4⟩
        · omega
        · exact ck_D3i e1 e2 e3 e4
      · split
        · next h0 =>
          rcases ck_D4 hv t with ⟨e, -⟩ | ⟨p, e1, e2, m, e3, e4⟩
          · exact e
          · omega
        · exact hv
    · exact hv
  · split
    · next t =>
      split
      · next m em =>
        split
        · next hf =>
          obtain ⟨p', m', e1, e2, e3⟩ := ck_f11_1 hm em
          obtain ⟨p, d1, d2, m2, d3⟩ := ck_D9 hv t
          have : p' = p := by omega
          subst this
          cases e2.symm.trans d3
          exact ck_D3i d1 d2 d3 (ck_full_mono hf e3)
        · exact hv
      · exact hv
    · exact hv
theorem ck_f0_1 (hm : ∀ q ∈ es, ck_M E Γ h ρ q) {r ci k p : Nat} (hp : (p : Int) = ρ.getD r 0) (e : ck_f0 es r ci k = some w) : ∃ vs y, h[p]? = some (.inr (ci, vs)) ∧ vs[k]? = some y ∧ ck_D E Γ ρ w y := by
  obtain ⟨a, ha⟩ := ck_f0_mem e
  obtain ⟨p', vs, y, e1, e2, e3, e4⟩ := hm _ ha
  have e1 : (p' : Int) = ρ.getD r 0 := e1
  have : p' = p := by omega
  subst this
  exact ⟨vs, y, e2, e3, e4⟩
theorem ck_f1_1 (hm : ∀ q ∈ es, ck_M E Γ h ρ q) {r K p tc len : Nat} {ix : ck_A} {y : ((Nat → Int32) ⊕ (Nat → Int64) ⊕ (Nat → UInt32) ⊕ (Nat → UInt64) ⊕ (Nat → Option Nat))} (hp : (p : Int) = ρ.getD r 0) (ha : h[p]? = some (.inl (tc, len, y))) (e : ck_f1 es r K ix = some w) : ∃ i : Nat, (i : Int) = ck_ev ρ ix ∧ i < len ∧ ck_D E Γ ρ w (ck_el y i) := by
  obtain ⟨a, hq⟩ := ck_f1_mem e
  obtain ⟨p', m, tc', len', y', i, e1, e2, e3, e4, e5, e6⟩ := hm _ hq
  have e1 : (p' : Int) = ρ.getD r 0 := e1
  have : p' = p := by omega
  subst this
  cases ha.symm.trans e3
  exact ⟨i, e4, e5, e6⟩
/-- a part, found -/
theorem ck_ob1 (hn : ck_nok n ρ) (hm : ∀ q ∈ es, ck_M E Γ h ρ q) {r f o a : Nat} (ha : (a : Int) = ρ.getD r 0) (e : ck_ob n es r f = some o) : ∃ b : Nat, (b : Int) = ρ.getD o 0 ∧ ck_po E h a f = some b ∧ (f ≠ 0 → b < Γ.length) := by
  unfold ck_ob at e
  split at e
  · next h0 =>
    cases e
    refine ⟨a, ha, ?_, fun z => absurd h0 z⟩
    unfold ck_po
    rw [if_pos h0]
  · next h0 =>
    split at e
    · next w hw =>
      obtain ⟨vs, y, h1, h2, h3⟩ := ck_f0_1 hm ha hw
      have h4 := ck_nz1 hn hm h3
      try dsimp only at e
      split at e
      · next t3 =>
        cases e
        obtain ⟨b, e1, e2, m, e3, -⟩ := ck_D3 h4 t3
        refine ⟨b, e2, ?_, fun _ => (List.getElem?_eq_some_iff.mp e3).1⟩
        unfold ck_po
        rw [if_neg h0, ck_fd_of h1 h2, e1]
        show (if E.1 ≤ E.1 + b then some (E.1 + b - E.1) else none) = some b
        rw [if_pos (Nat.le_add_right _ _), Nat.add_sub_cancel_left]
      · cases e
    · cases e
/-- an image that is known -/
theorem ck_els1 (hn : ck_nok n ρ) (hm : ∀ q ∈ es, ck_M E Γ h ρ q) {ri p tc nn : Nat} {g : Nat → Option Nat} (hp : (p : Int) = ρ.getD ri 0) (ha : h[p]? = some (.inl (tc, nn, .inr (.inr (.inr (.inr g)))))) : ∀ {l : List ck_Q}, (∀ q ∈ l, ck_M E Γ h ρ q) → ∀ e ∈ ck_els n es ri l, ∃ i a : Nat, (i : Int) = ck_ev ρ e.1 ∧ i < nn ∧ g i = some (E.1 + a) ∧ (a : Int) = ρ.getD e.2 0
  | [], _, e, he => by cases he
  | q :: l, hl, e, he => by
    have ih := ck_els1 hn hm hp ha (l := l) (fun q' hq' => hl q' (List.mem_cons_of_mem _ hq'))
    unfold ck_els at he
    split at he
    · next hc =>
      simp only [Bool.and_eq_true, beq_iff_eq] at hc
      obtain ⟨⟨c1, c2⟩, c3⟩ := hc
      try dsimp only at he
      split at he
      · next t3 =>
        rcases List.mem_cons.mp he with rfl | he
        · have M := hl q List.mem_cons_self
          unfold ck_M at M
          rw [c1] at M
          obtain ⟨p', m, tc', nn', y, i, e1, e2, e3, e4, e5, e6⟩ := M
          rw [c2] at e1
          have : p' = p := by omega
          subst this
          cases ha.symm.trans e3
          obtain ⟨a, d1, d2, -⟩ := ck_D3 (ck_nz1 hn hm e6) t3
          exact ⟨i, a, e4, e5, ck_rfo d1, d2⟩
        · exact ih e he
      · exact ih e he
    · exact ih e he
theorem ck_iob1 (hn : ck_nok n ρ) (hm : ∀ q ∈ es, ck_M E Γ h ρ q) {r ci k o a p : Nat} (ha : (a : Int) = ρ.getD r 0) (ho : (p : Int) = ρ.getD o 0) (e : ck_iob n es r ci k o = true) {L : Nat × Nat × Nat × Nat} (hL : L ∈ ck_lks) (h1 : L.2.1 = ci) (h2 : L.2.2.1 = k) : ck_po E h a L.1 = some p := by
  have := List.all_eq_true.mp e L hL
  rcases Bool.or_eq_true_iff.mp this with z | z
  · unfold ck_lkm at z
    rw [h1, h2, beq_self_eq_true, beq_self_eq_true] at z
    cases z
  · unfold ck_obe at z
    split at z
    · next b hb =>
      have z : b = o := by simpa using z
      subst z
      obtain ⟨b', e1, e2, -⟩ := ck_ob1 hn hm ha hb
      have : b' = p := by omega
      subst this
      exact e2
    · cases z
theorem ck_f18_mem {q : ck_Q} : ∀ {es : List ck_Q}, ck_f18 es = some q → q ∈ es ∧ q.1 = 18
  | [], h => by cases h
  | a :: l, h => by
    unfold ck_f18 at h
    split at h
    · next e =>
      cases h
      exact ⟨List.mem_cons_self, by simpa using e⟩
    · obtain ⟨h1, h2⟩ := ck_f18_mem h
      exact ⟨List.mem_cons_of_mem _ h1, h2⟩
/-- what is told and its image's part are two -/
theorem ck_sep1 (hE3 : ∀ (p tc nn : Nat) (g : Nat → Option Nat) (m : Nat), Γ[p]? = some (71, m) → h[p]? = some (.inl (tc, nn, .inr (.inr (.inr (.inr g))))) → nn = 3) (hn : ck_nok n ρ) (hm : ∀ q ∈ es, ck_M E Γ h ρ q) {ci k r o p : Nat} (ho : (p : Int) = ρ.getD o 0) (e : ck_sep n es ci k r o = true) : (p : Int) ≠ ρ.getD r 0 := by
  intro hr
  unfold ck_sep at e
  split at e
  · next q hq =>
    obtain ⟨hqm, t⟩ := ck_f18_mem hq
    obtain ⟨e1, e2⟩ := Bool.and_eq_true_iff.mp e
    obtain ⟨L, hL, hLk⟩ := List.any_eq_true.mp e1
    unfold ck_lkm at hLk
    simp only [Bool.and_eq_true, beq_iff_eq] at hLk
    split at e2
    · next rt hrt =>
      obtain ⟨e3, e4⟩ := Bool.and_eq_true_iff.mp e2
      obtain ⟨el, hel, e5⟩ := List.any_eq_true.mp e4
      have M := hm q hqm
      unfold ck_M at M
      rw [t] at M
      obtain ⟨p1, m1, tc, nn, g, p2, m2, tc2, n2, f2, t0, T, I, a1, a2, a3, a4, a5, a6, a7, x1, x2, x3⟩ := M
      have h3 := hE3 _ _ _ _ _ a2 a3
      subst h3
      obtain ⟨i, a, b1, b2, b3, b4⟩ := ck_els1 hn hm a1 a3 hm el hel
      rw [ck_rt_ok hrt] at a7
      have c1 := ck_iob1 hn hm a7 hr e3 hL hLk.1 hLk.2
      have c2 := ck_iob1 hn hm b4 ho e5 hL hLk.1 hLk.2
      have hf := (ck_lks_ok L hL).1
      obtain ⟨d1, -⟩ := x2 L.1 hf
      obtain ⟨-, y2, -⟩ := x3 i b2 _ b3
      obtain ⟨d2, -, -, d3, -⟩ := y2 L.1 hf
      rw [Nat.add_sub_cancel_left] at d2
      rw [c1] at d1
      rw [c2] at d2
      exact d3 ((Option.some.inj d2).symm.trans (Option.some.inj d1))
    · cases e2
  · cases e
theorem ck_fd_put {p ci k : Nat} {vs : List Value} {v : Value} (hp : h[p]? = some (.inr (ci, vs))) {p' ci' k' : Nat} (hne : ¬ (p' = p ∧ ci' = ci ∧ k' = k)) : ck_fd (h.set p (.inr (ci, vs.set k v))) p' ci' k' = ck_fd h p' ci' k' := by
  unfold ck_fd
  by_cases e : p = p'
  · subst e
    rw [ck_set_eq hp, hp]
    show (if ci = ci' then (vs.set k v)[k']? else none) = (if ci = ci' then vs[k']? else none)
    by_cases ec : ci = ci'
    · rw [if_pos ec, if_pos ec, List.getElem?_set, if_neg (fun z => hne ⟨rfl, ec.symm, z.symm⟩)]
    · rw [if_neg ec, if_neg ec]
  · rw [List.getElem?_set, if_neg e]
theorem ck_X18_put {t md md' : Nat} {bd : Option Int} {exc exc' : Int} {g : Nat → Option Nat} {f2 : Nat → Int32} {T : Nat → Nat} {I : Nat → Nat → Nat} {p ci k : Nat} {vs : List Value} {v : Value} (X : ck_X18 E h t bd md exc g f2 T I) (hp : h[p]? = some (.inr (ci, vs)))
    (h1 : ∀ f ∈ ck_pfs, f ≠ 0 → ¬ (t = p ∧ 10 = ci ∧ f = k))
    (h2 : ∀ i : Nat, i < 3 → ∀ a : Nat, g i = some a → ∀ f ∈ ck_pfs, f ≠ 0 → ¬ (a - E.1 = p ∧ 10 = ci ∧ f = k))
    (h3 : ∀ i : Nat, i < 3 → ∀ a : Nat, g i = some a → (md' = 0 ∨ (i : Int) ≠ exc') → (md = 0 ∨ (i : Int) ≠ exc) ∧ ∀ L ∈ ck_lks, ¬ (I i L.1 = p ∧ L.2.1 = ci ∧ L.2.2.1 = k)) : ck_X18 E (h.set p (.inr (ci, vs.set k v))) t bd md' exc' g f2 T I := by
  obtain ⟨x1, x2, x3⟩ := X
  have hl : (h.set p (.inr (ci, vs.set k v))).length = h.length := List.length_set
  refine ⟨fun b hb => by rw [hl]; exact x1 b hb, fun f hf => ?_, fun i hi a ha => ?_⟩
  · obtain ⟨a1, a2, a3⟩ := x2 f hf
    exact ⟨ck_po_to a1 fun v0 h0 e => by rw [ck_fd_put hp (h1 f hf h0)]; exact e, by rw [hl]; exact a2, a3⟩
  · obtain ⟨b0, b1, b2⟩ := x3 i hi a ha
    refine ⟨b0, fun f hf => ?_, fun hmd L hL => ?_⟩
    · obtain ⟨c1, c2, c3⟩ := b1 f hf
      exact ⟨ck_po_to c1 fun v0 h0 e => by rw [ck_fd_put hp (h2 i hi a ha f hf h0)]; exact e, by rw [hl]; exact c2, c3⟩
    · obtain ⟨d1, d2⟩ := h3 i hi a ha hmd
      rw [ck_fd_put hp (d2 L hL)]
      exact b2 d1 L hL
theorem ck_X18_T0 {t md : Nat} {bd : Option Int} {exc : Int} {g : Nat → Option Nat} {f2 : Nat → Int32} {T : Nat → Nat} {I : Nat → Nat → Nat} (X : ck_X18 E h t bd md exc g f2 T I) : T 0 = t ∧ ∀ i : Nat, i < 3 → ∀ a : Nat, g i = some a → I i 0 = a - E.1 := by
  obtain ⟨-, x2, x3⟩ := X
  refine ⟨?_, fun i hi a ha => ?_⟩
  · have := (x2 0 ck_pfs0).1
    unfold ck_po at this
    rw [if_pos rfl] at this
    exact (Option.some.inj this).symm
  · have := ((x3 i hi a ha).2.1 0 ck_pfs0).1
    unfold ck_po at this
    rw [if_pos rfl] at this
    exact (Option.some.inj this).symm
/-- the field of a part -/
theorem ck_pfk {ci k f : Nat} (hf : f ∈ ck_pfs) (h0 : f ≠ 0) (h1 : 10 = ci) (h2 : f = k) : (ci == 10 && ck_pfs.any (fun f => !(f == 0) && f == k)) = true := by
  rw [Bool.and_eq_true]
  refine ⟨by rw [← h1]; rfl, List.any_eq_true.mpr ⟨f, hf, ?_⟩⟩
  rw [Bool.and_eq_true, Bool.not_eq_true', beq_eq_false_iff_ne, beq_iff_eq]
  exact ⟨h0, h2⟩
theorem ck_bo_some {a : ck_A} (e : ck_aeq a (ck_c 0) = false) : ck_bo ρ a = some (ck_ev ρ a) := by
  unfold ck_bo
  rw [e]
  rfl
/-- behind a field's write -/
theorem ck_k18_1 {Γ' : ck_G} {q : ck_Q} {p ci k o : Nat} {vs : List Value} {v : Value} (hE3 : ∀ (p tc nn : Nat) (g : Nat → Option Nat) (m : Nat), Γ[p]? = some (71, m) → h[p]? = some (.inl (tc, nn, .inr (.inr (.inr (.inr g))))) → nn = 3) (t : q.1 = 18) (hn : ck_nok n ρ) (hm : ∀ q ∈ es, ck_M E Γ h ρ q) (M : ck_M E Γ h ρ q) (hx : ck_ext Γ Γ') (hp : h[p]? = some (.inr (ci, vs))) (ho : (p : Int) = ρ.getD o 0) : ∀ q' ∈ ck_k18 n es ci k o q, ck_M E Γ' (h.set p (.inr (ci, vs.set k v))) ρ q' := by
  have M0 := M
  unfold ck_M at M
  rw [t] at M
  obtain ⟨p1, m1, tc, nn, g, p2, m2, tc2, n2, f2, t0, T, I, a1, a2, a3, a4, a5, a6, a7, X⟩ := M
  have h3 := hE3 _ _ _ _ _ a2 a3
  subst h3
  obtain ⟨m1', g1, -⟩ := hx _ _ _ a2
  obtain ⟨m2', g2, -⟩ := hx _ _ _ a5
  have n1 : p ≠ p1 := fun z => by subst z; cases hp.symm.trans a3
  have n2' : p ≠ p2 := fun z => by subst z; cases hp.symm.trans a6
  have same : ∀ {md' : Nat} {e' : ck_A}, ck_X18 E (h.set p (.inr (ci, vs.set k v))) t0 (ck_bo ρ q.2.2.2.2.2.2.2.2.2) md' (ck_ev ρ e') g f2 T I → ck_M E Γ' (h.set p (.inr (ci, vs.set k v))) ρ (18, q.2.1, q.2.2.1, md', e', q.2.2.2.2.2) := fun X' => ⟨p1, m1', tc, 3, g, p2, m2', tc2, n2, f2, t0, T, I, a1, g1, ck_set_ne n1 a3, a4, g2, ck_set_ne n2' a6, a7, X'⟩
  have eq : q = (18, q.2.1, q.2.2.1, q.2.2.2.1, q.2.2.2.2.1, q.2.2.2.2.2) := by
    obtain ⟨t', r', c', d', e', f'⟩ := q
    have t : t' = 18 := t
    subst t
    rfl
  have keep : ck_X18 E (h.set p (.inr (ci, vs.set k v))) t0 (ck_bo ρ q.2.2.2.2.2.2.2.2.2) q.2.2.2.1 (ck_ev ρ q.2.2.2.2.1) g f2 T I → ∀ q' ∈ [q], ck_M E Γ' (h.set p (.inr (ci, vs.set k v))) ρ q' := by
    intro X' q' hq'
    rw [List.mem_singleton.mp hq', eq]
    exact same X'
  obtain ⟨T0, I0⟩ := ck_X18_T0 X
  unfold ck_k18
  split
  · next hr =>
    refine keep (ck_X18_put X hp (fun f hf h0 z => ?_) (fun i hi a ha f hf h0 z => ?_) (fun i hi a ha hmd => ⟨hmd, fun L hL z => ?_⟩))
    · have := ck_r18_pf hf h0
      rw [z.2.1, z.2.2, hr] at this
      cases this
    · have := ck_r18_pf hf h0
      rw [z.2.1, z.2.2, hr] at this
      cases this
    · have := ck_r18_lk hL
      rw [z.2.1, z.2.2, hr] at this
      cases this
  split
  · next hc =>
    obtain ⟨c1, c2⟩ := Bool.and_eq_true_iff.mp hc
    rw [Bool.not_eq_true'] at c1
    have c2 := ck_le_ok hn c2
    rw [ck_sub_ev, ck_ev_v] at c2
    have hb : ck_bo ρ q.2.2.2.2.2.2.2.2.2 = some (ck_ev ρ q.2.2.2.2.2.2.2.2.2) := ck_bo_some c1
    have X0 := X
    obtain ⟨x1, x2, x3⟩ := X0
    refine keep (ck_X18_put X hp (fun f hf h0 z => ?_) (fun i hi a ha f hf h0 z => ?_) (fun i hi a ha hmd => ⟨hmd, fun L hL z => ?_⟩))
    · have := (x2 0 ck_pfs0).2.2 _ hb
      rw [T0] at this
      have := z.1
      omega
    · have := ((x3 i hi a ha).2.1 0 ck_pfs0).2.2.1 _ hb
      rw [I0 i hi a ha] at this
      have := z.1
      omega
    · have := ((x3 i hi a ha).2.1 L.1 (ck_lks_ok L hL).1).2.2.1 _ hb
      have := z.1
      omega
  split
  · next hc =>
    intro q' hq'
    cases hq'
  rename_i hpf
  have p1f : ∀ f ∈ ck_pfs, f ≠ 0 → 10 = ci → f = k → False := fun f hf h0 z1 z2 => hpf (ck_pfk hf h0 z1 z2)
  split
  · next hc =>
    unfold ck_tob at hc
    split at hc
    · next rt hrt =>
      rw [ck_rt_ok hrt] at a7
      have X0 := X
      obtain ⟨x1, x2, x3⟩ := X0
      refine keep (ck_X18_put X hp (fun f hf h0 z => p1f f hf h0 z.2.1 z.2.2) (fun i hi a ha f hf h0 z => p1f f hf h0 z.2.1 z.2.2) (fun i hi a ha hmd => ⟨hmd, fun L hL z => ?_⟩))
      have c1 := ck_iob1 hn hm a7 ho hc hL z.2.1 z.2.2
      have hf := (ck_lks_ok L hL).1
      have d1 := (x2 L.1 hf).1
      have d3 := ((x3 i hi a ha).2.1 L.1 hf).2.2.2.1
      rw [c1] at d1
      exact d3 (z.1.trans (Option.some.inj d1))
    · cases hc
  · have step : ∀ {l : List (ck_A × Nat)}, (∀ e ∈ l, ∃ i a : Nat, (i : Int) = ck_ev ρ e.1 ∧ i < 3 ∧ g i = some (E.1 + a) ∧ (a : Int) = ρ.getD e.2 0) → ∀ q' ∈ ck_k18e n es ci k o q l, ck_M E Γ' (h.set p (.inr (ci, vs.set k v))) ρ q' := by
      intro l
      induction l with
      | nil =>
        intro _ q' hq'
        cases hq'
      | cons e l ih =>
        intro hl
        have ih := ih (fun e' he' => hl e' (List.mem_cons_of_mem _ he'))
        obtain ⟨i0, a0, b1, b2, b3, b4⟩ := hl e List.mem_cons_self
        have X0 := X
        obtain ⟨x1, x2, x3⟩ := X0
        have core : ck_iob n es e.2 ci k o = true → ∀ i : Nat, i < 3 → ∀ a : Nat, g i = some a → i ≠ i0 → ∀ L ∈ ck_lks, ¬ (I i L.1 = p ∧ L.2.1 = ci ∧ L.2.2.1 = k) := by
          intro hio i hi a ha hne L hL z
          have c2 := ck_iob1 hn hm b4 ho hio hL z.2.1 z.2.2
          have hf := (ck_lks_ok L hL).1
          obtain ⟨d2, -, -, -, d5⟩ := (x3 i0 b2 _ b3).2.1 L.1 hf
          rw [Nat.add_sub_cancel_left, c2] at d2
          exact d5 i hi hne (by rw [ha]; exact Option.some_ne_none a) (z.1.trans (Option.some.inj d2))
        unfold ck_k18e
        split
        · next hio =>
          split
          · next hmd =>
            intro q' hq'
            rw [List.mem_singleton.mp hq']
            refine same (ck_X18_put X hp (fun f hf h0 z => p1f f hf h0 z.2.1 z.2.2) (fun i hi a ha f hf h0 z => p1f f hf h0 z.2.1 z.2.2) (fun i hi a ha hne => ⟨Or.inl hmd, core hio i hi a ha ?_⟩))
            rcases hne with z | z
            · cases z
            · intro z2
              exact z (by rw [z2]; exact b1)
          · next hmd =>
            split
            · next hae =>
              have hae := ck_aeq_ok hae
              refine keep (ck_X18_put X hp (fun f hf h0 z => p1f f hf h0 z.2.1 z.2.2) (fun i hi a ha f hf h0 z => p1f f hf h0 z.2.1 z.2.2) (fun i hi a ha hne => ⟨hne, core hio i hi a ha ?_⟩))
              rcases hne with z | z
              · exact absurd z hmd
              · intro z2
                exact z (by rw [z2, hae]; exact b1)
            · exact ih
        · exact ih
    exact step fun e he => ck_els1 hn hm a1 a3 hm e he
theorem ck_k18s_1 {Γ' : ck_G} {p ci k o : Nat} {vs : List Value} {v : Value} (hE3 : ∀ (p tc nn : Nat) (g : Nat → Option Nat) (m : Nat), Γ[p]? = some (71, m) → h[p]? = some (.inl (tc, nn, .inr (.inr (.inr (.inr g))))) → nn = 3) (hn : ck_nok n ρ) (hm : ∀ q ∈ es, ck_M E Γ h ρ q) (hx : ck_ext Γ Γ') (hp : h[p]? = some (.inr (ci, vs))) (ho : (p : Int) = ρ.getD o 0) : ∀ {l : List ck_Q}, (∀ q ∈ l, ck_M E Γ h ρ q) → ∀ q' ∈ ck_k18s n es ci k o l, ck_M E Γ' (h.set p (.inr (ci, vs.set k v))) ρ q'
  | [], _, q', hq' => by cases hq'
  | q :: l, hl, q', hq' => by
    have ih := ck_k18s_1 (k := k) (v := v) hE3 hn hm hx hp ho (l := l) (fun q2 hq2 => hl q2 (List.mem_cons_of_mem _ hq2))
    unfold ck_k18s at hq'
    split at hq'
    · next t =>
      rcases List.mem_append.mp hq' with hq' | hq'
      · exact ck_k18_1 hE3 t hn hm (hl q List.mem_cons_self) hx hp ho q' hq'
      · exact ih q' hq'
    · exact ih q' hq'
/-- a field of an image is read -/
theorem ck_g18_1 {ci k o p : Nat} {y : Value} (hE3 : ∀ (p tc nn : Nat) (g : Nat → Option Nat) (m : Nat), Γ[p]? = some (71, m) → h[p]? = some (.inl (tc, nn, .inr (.inr (.inr (.inr g))))) → nn = 3) (hE8 : ∀ (p tc nn : Nat) (f : Nat → Int32) (m : Nat), Γ[p]? = some (78, m) → h[p]? = some (.inl (tc, nn, .inl f)) → nn = 24270) (hn : ck_nok n ρ) (hm : ∀ q ∈ es, ck_M E Γ h ρ q) (hp : (p : Int) = ρ.getD o 0) (hy : ck_fd h p ci k = some y) (hv : ck_D E Γ ρ v y) : ∀ q ∈ ck_g18 n es ci k o v, ck_M E Γ h ρ q := by
  unfold ck_g18
  split
  · next q hq =>
    obtain ⟨hqm, t⟩ := ck_f18_mem hq
    split
    · next hmd =>
      have M := hm q hqm
      unfold ck_M at M
      rw [t] at M
      obtain ⟨p1, m1, tc, nn, g, p2, m2, tc2, n2, f2, t0, T, I, a1, a2, a3, a4, a5, a6, a7, x1, x2, x3⟩ := M
      have h3 := hE3 _ _ _ _ _ a2 a3
      subst h3
      have h8 := hE8 _ _ _ _ _ a5 a6
      subst h8
      have inner : ∀ {L : Nat × Nat × Nat × Nat}, L ∈ ck_lks → ck_lkm ci k L = true → ∀ {l : List (ck_A × Nat)}, (∀ e ∈ l, ∃ i a : Nat, (i : Int) = ck_ev ρ e.1 ∧ i < 3 ∧ g i = some (E.1 + a) ∧ (a : Int) = ρ.getD e.2 0) → ∀ q' ∈ ck_g18e n es q L o v l, ck_M E Γ h ρ q' := by
        intro L hL hLk l
        unfold ck_lkm at hLk
        simp only [Bool.and_eq_true, beq_iff_eq] at hLk
        induction l with
        | nil =>
          intro _ q' hq'
          cases hq'
        | cons e l ih =>
          intro hl q' hq'
          unfold ck_g18e at hq'
          split at hq'
          · next hc =>
            rw [List.mem_singleton.mp hq']
            unfold ck_obe at hc
            split at hc
            · next b hb =>
              have hc : b = o := by simpa using hc
              subst hc
              obtain ⟨i0, a0, b1, b2, b3, b4⟩ := hl e List.mem_cons_self
              obtain ⟨b', c1, c2, -⟩ := ck_ob1 hn hm b4 hb
              have : b' = p := by omega
              subst this
              have hf := ck_lks_ok L hL
              have hf2 := hf.2.1
              obtain ⟨-, y2, y3⟩ := x3 i0 b2 _ b3
              have d2 := (y2 L.1 hf.1).1
              rw [Nat.add_sub_cancel_left, c2] at d2
              have d3 := y3 (Or.inl hmd) L hL
              rw [← Option.some.inj d2, hLk.1, hLk.2, hy] at d3
              have d3 := Option.some.inj d3
              refine ⟨p2, m2, tc2, 24270, .inl f2, 8090 * i0 + L.2.2.2, a4, a5, a6, ?_, by omega, ?_⟩
              · show ((8090 * i0 + L.2.2.2 : Nat) : Int) = ck_ev ρ (ck_add (ck_mul 8090 e.1) (ck_c (L.2.2.2 : Int)))
                rw [ck_add_ev, ck_mul_ev, ck_ev_c, ← b1]
                omega
              · show ck_D E Γ ρ v (.int (f2 (8090 * i0 + L.2.2.2)))
                rw [← d3]
                exact hv
            · cases hc
          · exact ih (fun e' he' => hl e' (List.mem_cons_of_mem _ he')) q' hq'
      have outer : ∀ {ls : List (Nat × Nat × Nat × Nat)}, (∀ L ∈ ls, L ∈ ck_lks) → ∀ q' ∈ ck_g18l n es ci k o q v ls, ck_M E Γ h ρ q' := by
        intro ls
        induction ls with
        | nil =>
          intro _ q' hq'
          cases hq'
        | cons L ls ih =>
          intro hls q' hq'
          have ih := ih (fun L' hL' => hls L' (List.mem_cons_of_mem _ hL'))
          unfold ck_g18l at hq'
          split at hq'
          · next hLk =>
            have inn := inner (hls L List.mem_cons_self) hLk (fun e he => ck_els1 hn hm a1 a3 hm e he)
            split at hq'
            · exact ih q' hq'
            · next x y hxy =>
              rw [← hxy] at hq'
              exact inn q' hq'
          · exact ih q' hq'
      exact outer (fun _ z => z)
    · intro q' hq'
      cases hq'
  · intro q' hq'
    cases hq'
end CKLN
