/-! THE CHECKER IS SOUND: links -/
theorem ck_rfo {g : Nat → Option Nat} {i a : Nat} (e : va_rf (g i) = .ref a) : g i = some a := by
  cases hg : g i with
  | none =>
    rw [hg] at e
    cases e
  | some b =>
    rw [hg] at e
    have e : Value.ref b = .ref a := e
    injection e with e
    rw [e]
theorem ck_ak71 : ck_ak 71 = some (5, 3, 0, (3, 0, 0, 10)) := rfl
theorem ck_ak77 : ck_ak 77 = some (0, 8090, 1, (0, 0, 0, 0)) := rfl
theorem ck_ak78 : ck_ak 78 = some (0, 24270, 2, (0, 0, 0, 0)) := rfl
theorem ck_las_ak0 : (ck_las.all fun L => match ck_ak L.2.2.2.1 with
  | some k => k.1 == 0 && decide (L.2.2.2.2.2.2 ≤ k.2.1)
  | none => false) = true := by decide +kernel
theorem ck_las_akx {j : Nat} {L : ck_L} (hL : ck_las[j]? = some L) : ∃ k, ck_ak L.2.2.2.1 = some k ∧ k.1 = 0 ∧ L.2.2.2.2.2.2 ≤ k.2.1 := by
  have h : (match ck_ak L.2.2.2.1 with
    | some k => k.1 == 0 && decide (L.2.2.2.2.2.2 ≤ k.2.1)
    | none => false) = true := List.all_eq_true.mp ck_las_ak0 L (List.mem_of_getElem? hL)
  split at h
  · next k hk =>
    simp only [Bool.and_eq_true, beq_iff_eq, decide_eq_true_eq] at h
    exact ⟨k, hk, h.1, h.2⟩
  · cases h
theorem ck_las_ak {j : Nat} {L : ck_L} {k : Nat × Nat × Nat × ck_S} (hL : ck_las[j]? = some L) (hk : ck_ak L.2.2.2.1 = some k) : k.1 = 0 ∧ L.2.2.2.2.2.2 ≤ k.2.1 := by
  obtain ⟨k', h1, h2⟩ := ck_las_akx hL
  cases hk.symm.trans h1
  exact h2
theorem ck_sh0 {y : ((Nat → Int32) ⊕ (Nat → Int64) ⊕ (Nat → UInt32) ⊕ (Nat → UInt64) ⊕ (Nat → Option Nat))} (e : ck_sh 0 y) : ∃ f, y = .inl f := by
  rcases y with f | f | f | f | f
  · exact ⟨f, rfl⟩
  · have e : (0 : Nat) = 2 := e
    omega
  · exact e.elim
  · exact e.elim
  · have e : (0 : Nat) = 5 ∨ (0 : Nat) = 6 := e
    omega
theorem ck_n3 {E : cz_E} {B : Int} {Γ : ck_G} {h : cz_H} (t : ck_HT E B Γ h) : ∀ (p tc nn : Nat) (g : Nat → Option Nat) (m : Nat), Γ[p]? = some (71, m) → h[p]? = some (.inl (tc, nn, .inr (.inr (.inr (.inr g))))) → nn = 3 := by
  intro p tc nn g m h1 h2
  obtain ⟨y, e, -⟩ := ck_arr t h1 ck_ak71
  cases h2.symm.trans e
  rfl
theorem ck_n8 {E : cz_E} {B : Int} {Γ : ck_G} {h : cz_H} (t : ck_HT E B Γ h) : ∀ (p tc nn : Nat) (f : Nat → Int32) (m : Nat), Γ[p]? = some (78, m) → h[p]? = some (.inl (tc, nn, .inl f)) → nn = 24270 := by
  intro p tc nn f m h1 h2
  obtain ⟨y, e, -⟩ := ck_arr t h1 ck_ak78
  cases h2.symm.trans e
  rfl
section CKLN
variable {E : cz_E} {Γ : ck_G} {B : Int} {ρ : List Int} {n n' : ck_N} {es es' : List ck_Q} {h : cz_H} {v w : ck_V} {x : Value}
theorem ck_f11_1 (hm : ∀ q ∈ es, ck_M E Γ h ρ q) {r k m : Nat} (e : ck_f11 es r k = some m) : ∃ p m' : Nat, (p : Int) = ρ.getD r 0 ∧ Γ[p]? = some (k, m') ∧ ck_sub1 m m' := by
  obtain ⟨y, hy⟩ := ck_f11_mem e
  exact hm _ hy
theorem ck_nz1 (hn : ck_nok n ρ) (hm : ∀ q ∈ es, ck_M E Γ h ρ q) (hv : ck_D E Γ ρ v x) : ck_D E Γ ρ (ck_nz n es v) x := by
  unfold ck_nz
  split
  · next t =>
    split
    · next b eb =>
      have hb := hn.1 _ _ eb
      split
      · next h0 =>
        rcases ck_D4 hv t with ⟨-, e⟩ | ⟨p, e1, e2, m, e3, e4⟩
        · omega
        · exact ck_D3i e1 e2 e3 e4
      · split
        · next h0 =>
          rcases ck_D4 hv t with ⟨e, -⟩ | ⟨p, e1, e2, m, e3, e4⟩
          · exact e
          · omega
        · exact hv
    · exact hv
  · split
    · next t =>
      split
      · next m em =>
        split
        · next hf =>
          obtain ⟨p', m', e1, e2, e3⟩ := ck_f11_1 hm em
          obtain ⟨p, d1, d2, m2, d3⟩ := ck_D9 hv t
          have : p' = p := by omega
          subst this
          cases e2.symm.trans d3
          exact ck_D3i d1 d2 d3 (ck_full_mono hf e3)
        · exact hv
      · exact hv
    · exact hv
theorem ck_f0_1 (hm : ∀ q ∈ es, ck_M E Γ h ρ q) {r ci k p : Nat} (hp : (p : Int) = ρ.getD r 0) (e : ck_f0 es r ci k = some w) : ∃ vs y, h[p]? = some (.inr (ci, vs)) ∧ vs[k]? = some y ∧ ck_D E Γ ρ w y := by
  obtain ⟨a, ha⟩ := ck_f0_mem e
  obtain ⟨p', vs, y, e1, e2, e3, e4⟩ := hm _ ha
  have e1 : (p' : Int) = ρ.getD r 0 := e1
  have : p' = p := by omega
  subst this
  exact ⟨vs, y, e2, e3, e4⟩
theorem ck_f1_1 (hm : ∀ q ∈ es, ck_M E Γ h ρ q) {r K p tc len : Nat} {ix : ck_A} {y : ((Nat → Int32) ⊕ (Nat → Int64) ⊕ (Nat → UInt32) ⊕ (Nat → UInt64) ⊕ (Nat → Option Nat))} (hp : (p : Int) = ρ.getD r 0) (ha : h[p]? = some (.inl (tc, len, y))) (e : ck_f1 es r K ix = some w) : ∃ i : Nat, (i : Int) = ck_ev ρ ix ∧ i < len ∧ ck_D E Γ ρ w (ck_el y i) := by
  obtain ⟨a, hq⟩ := ck_f1_mem e
  obtain ⟨p', m, tc', len', y', i, e1, e2, e3, e4, e5, e6⟩ := hm _ hq
  have e1 : (p' : Int) = ρ.getD r 0 := e1
  have : p' = p := by omega
  subst this
  cases ha.symm.trans e3
  exact ⟨i, e4, e5, e6⟩
theorem ck_rp_ref (E : cz_E) (b : Nat) : ck_rp E (some (.ref (E.1 + b))) = some b := by
  show (if E.1 ≤ E.1 + b then some (E.1 + b - E.1) else none) = some b
  rw [if_pos (Nat.le_add_right _ _), Nat.add_sub_cancel_left]
/-- on the way to a part -/
theorem ck_wlk1 (hn : ck_nok n ρ) (hm : ∀ q ∈ es, ck_M E Γ h ρ q) : ∀ {l : List (Nat × Nat)} {o o' : Nat × Nat} {a : Nat}, (a : Int) = ρ.getD o.1 0 → ck_wlk n es l o = some o' → ∃ b : Nat, (b : Int) = ρ.getD o'.1 0 ∧ ck_prw E h l a = some b ∧ (l ≠ [] → ∃ m, Γ[b]? = some (o'.2, m))
  | [], o, o', a, ha, e => by
    cases e
    exact ⟨a, ha, rfl, fun z => absurd rfl z⟩
  | p :: l, o, o', a, ha, e => by
    unfold ck_wlk at e
    split at e
    · next w hw =>
      obtain ⟨vs, y, h1, h2, h3⟩ := ck_f0_1 hm ha hw
      have h4 := ck_nz1 hn hm h3
      try dsimp only at e
      split at e
      · next t3 =>
        obtain ⟨b, e1, e2, m, e3, -⟩ := ck_D3 h4 t3
        obtain ⟨b', g1, g2, g3⟩ := ck_wlk1 hn hm (l := l) (o := ((ck_nz n es w).2.1, (ck_nz n es w).2.2.1)) e2 e
        refine ⟨b', g1, ?_, fun _ => ?_⟩
        · unfold ck_prw
          rw [ck_fd_of h1 h2, e1, ck_rp_ref]
          exact g2
        · cases l with
          | nil =>
            cases e
            have g2 : some b = some b' := g2
            cases g2
            exact ⟨m, e3⟩
          | cons _ _ => exact g3 (by intro z; cases z)
      · cases e
    · cases e
/-- a part, found -/
theorem ck_ob1 (hn : ck_nok n ρ) (hm : ∀ q ∈ es, ck_M E Γ h ρ q) {r f o a : Nat} (ha : (a : Int) = ρ.getD r 0) (e : ck_ob n es r f = some o) : ∃ b : Nat, (b : Int) = ρ.getD o 0 ∧ ck_po E h a f = some b ∧ (ck_pth f ≠ [] → b < Γ.length) ∧ (100 ≤ f → ck_pth f ≠ [] → ∃ m, Γ[b]? = some (ck_pkd f, m)) := by
  unfold ck_ob at e
  split at e
  · next o' ho =>
    split at e
    · next hc =>
      cases e
      obtain ⟨b, b1, b2, b3⟩ := ck_wlk1 hn hm (o := (r, 10)) ha ho
      refine ⟨b, b1, b2, fun z => ?_, fun h1 z => ?_⟩
      · obtain ⟨m, hm2⟩ := b3 z
        exact (List.getElem?_eq_some_iff.mp hm2).1
      · obtain ⟨m, hm2⟩ := b3 z
        rcases Bool.or_eq_true_iff.mp hc with q | q
        · have q := of_decide_eq_true q
          omega
        · have q : o'.2 = ck_pkd f := by simpa using q
          exact ⟨m, by rw [← q]; exact hm2⟩
    · cases e
  · cases e
theorem ck_po_nil {t f b : Nat} (z : ck_pth f = []) (e : ck_po E h t f = some b) : b = t := by
  unfold ck_po at e
  rw [z] at e
  have e : some t = some b := e
  exact (Option.some.inj e).symm
/-- an image that is known -/
theorem ck_els1 (hn : ck_nok n ρ) (hm : ∀ q ∈ es, ck_M E Γ h ρ q) {ri p tc nn : Nat} {g : Nat → Option Nat} (hp : (p : Int) = ρ.getD ri 0) (ha : h[p]? = some (.inl (tc, nn, .inr (.inr (.inr (.inr g)))))) : ∀ {l : List ck_Q}, (∀ q ∈ l, ck_M E Γ h ρ q) → ∀ e ∈ ck_els n es ri l, ∃ i a : Nat, (i : Int) = ck_ev ρ e.1 ∧ i < nn ∧ g i = some (E.1 + a) ∧ (a : Int) = ρ.getD e.2 0
  | [], _, e, he => by cases he
  | q :: l, hl, e, he => by
    have ih := ck_els1 hn hm hp ha (l := l) (fun q' hq' => hl q' (List.mem_cons_of_mem _ hq'))
    unfold ck_els at he
    split at he
    · next hc =>
      simp only [Bool.and_eq_true, beq_iff_eq] at hc
      obtain ⟨⟨c1, c2⟩, c3⟩ := hc
      try dsimp only at he
      split at he
      · next t3 =>
        rcases List.mem_cons.mp he with rfl | he
        · have M := hl q List.mem_cons_self
          unfold ck_M at M
          rw [c1] at M
          obtain ⟨p', m, tc', nn', y, i, e1, e2, e3, e4, e5, e6⟩ := M
          rw [c2] at e1
          have : p' = p := by omega
          subst this
          cases ha.symm.trans e3
          obtain ⟨a, d1, d2, -⟩ := ck_D3 (ck_nz1 hn hm e6) t3
          exact ⟨i, a, e4, e5, ck_rfo d1, d2⟩
        · exact ih e he
      · exact ih e he
    · exact ih e he
theorem ck_iob1 (hn : ck_nok n ρ) (hm : ∀ q ∈ es, ck_M E Γ h ρ q) {r ci k o a p : Nat} (ha : (a : Int) = ρ.getD r 0) (ho : (p : Int) = ρ.getD o 0) (e : ck_iob n es r ci k o = true) {L : Nat × Nat × Nat × Nat} (hL : L ∈ ck_lks) (h1 : L.2.1 = ci) (h2 : L.2.2.1 = k) : ck_po E h a L.1 = some p := by
  have := List.all_eq_true.mp e L hL
  rcases Bool.or_eq_true_iff.mp this with z | z
  · unfold ck_lkm at z
    rw [h1, h2, beq_self_eq_true, beq_self_eq_true] at z
    cases z
  · unfold ck_obe at z
    split at z
    · next b hb =>
      have z : b = o := by simpa using z
      subst z
      obtain ⟨b', e1, e2, -⟩ := ck_ob1 hn hm ha hb
      have : b' = p := by omega
      subst this
      exact e2
    · cases z
theorem ck_ibb1 (hn : ck_nok n ρ) (hm : ∀ q ∈ es, ck_M E Γ h ρ q) {r K o a p j : Nat} {L : ck_L} (ha : (a : Int) = ρ.getD r 0) (ho : (p : Int) = ρ.getD o 0) (e : ck_ibb n es r K o = true) (hL : ck_las[j]? = some L) (hK : L.2.2.2.1 = K) : ck_po E h a (100 + j) = some p := by
  have z := List.all_eq_true.mp e j (ck_lam_mem hL hK)
  unfold ck_obe at z
  split at z
  · next b hb =>
    have z : b = o := by simpa using z
    subst z
    obtain ⟨b', e1, e2, -⟩ := ck_ob1 hn hm ha hb
    have : b' = p := by omega
    subst this
    exact e2
  · cases z
theorem ck_lam_ex {K : Nat} (h : (ck_lam K).isEmpty = false) : ∃ (j : Nat) (L : ck_L), ck_las[j]? = some L ∧ L.2.2.2.1 = K := by
  cases hl : ck_lam K with
  | nil =>
    rw [hl] at h
    cases h
  | cons j l =>
    have hj : j ∈ ck_lam K := by rw [hl]; exact List.mem_cons_self
    obtain ⟨-, h2⟩ := List.mem_filter.mp hj
    split at h2
    · next L hL => exact ⟨j, L, hL, by simpa using h2⟩
    · cases h2
theorem ck_f18_mem {q : ck_Q} : ∀ {es : List ck_Q}, ck_f18 es = some q → q ∈ es ∧ q.1 = 18
  | [], h => by cases h
  | a :: l, h => by
    unfold ck_f18 at h
    split at h
    · next e =>
      cases h
      exact ⟨List.mem_cons_self, by simpa using e⟩
    · obtain ⟨h1, h2⟩ := ck_f18_mem h
      exact ⟨List.mem_cons_of_mem _ h1, h2⟩
/-- what is told and its image's part are two -/
theorem ck_sep1 (hE3 : ∀ (p tc nn : Nat) (g : Nat → Option Nat) (m : Nat), Γ[p]? = some (71, m) → h[p]? = some (.inl (tc, nn, .inr (.inr (.inr (.inr g))))) → nn = 3) (hn : ck_nok n ρ) (hm : ∀ q ∈ es, ck_M E Γ h ρ q) {ci k r o p : Nat} (ho : (p : Int) = ρ.getD o 0) (e : ck_sep n es ci k r o = true) : (p : Int) ≠ ρ.getD r 0 := by
  intro hr
  unfold ck_sep at e
  split at e
  · next q hq =>
    obtain ⟨hqm, t⟩ := ck_f18_mem hq
    obtain ⟨e1, e2⟩ := Bool.and_eq_true_iff.mp e
    obtain ⟨L, hL, hLk⟩ := List.any_eq_true.mp e1
    unfold ck_lkm at hLk
    simp only [Bool.and_eq_true, beq_iff_eq] at hLk
    split at e2
    · next rt hrt =>
      obtain ⟨e3, e4⟩ := Bool.and_eq_true_iff.mp e2
      obtain ⟨el, hel, e5⟩ := List.any_eq_true.mp e4
      have M := hm q hqm
      unfold ck_M at M
      rw [t] at M
      obtain ⟨p1, m1, tc, nn, g, p2, m2, tc2, n2, f2, t0, T, I, a1, a2, a3, a4, a5, a6, a7, x1, x2, x3⟩ := M
      have h3 := hE3 _ _ _ _ _ a2 a3
      subst h3
      obtain ⟨i, a, b1, b2, b3, b4⟩ := ck_els1 hn hm a1 a3 hm el hel
      rw [ck_rt_ok hrt] at a7
      have c1 := ck_iob1 hn hm a7 hr e3 hL hLk.1 hLk.2
      have c2 := ck_iob1 hn hm b4 ho e5 hL hLk.1 hLk.2
      have hf := (ck_lks_ok L hL).1
      obtain ⟨d1, -⟩ := x2 L.1 hf
      obtain ⟨-, y2, -⟩ := x3 i b2 _ b3
      obtain ⟨d2, -, -, -, d3, -⟩ := y2 L.1 hf
      rw [Nat.add_sub_cancel_left] at d2
      rw [c1] at d1
      rw [c2] at d2
      exact d3 ((Option.some.inj d2).symm.trans (Option.some.inj d1))
    · cases e2
  · cases e
theorem ck_sepA1 (hE3 : ∀ (p tc nn : Nat) (g : Nat → Option Nat) (m : Nat), Γ[p]? = some (71, m) → h[p]? = some (.inl (tc, nn, .inr (.inr (.inr (.inr g))))) → nn = 3) (hn : ck_nok n ρ) (hm : ∀ q ∈ es, ck_M E Γ h ρ q) {K r o p : Nat} (ho : (p : Int) = ρ.getD o 0) (e : ck_sepA n es K r o = true) : (p : Int) ≠ ρ.getD r 0 := by
  intro hr
  unfold ck_sepA at e
  split at e
  · next q hq =>
    obtain ⟨hqm, t⟩ := ck_f18_mem hq
    obtain ⟨e1, e2⟩ := Bool.and_eq_true_iff.mp e
    obtain ⟨j, L, hL, hLk⟩ := ck_lam_ex (by simpa using e1)
    split at e2
    · next rt hrt =>
      obtain ⟨e3, e4⟩ := Bool.and_eq_true_iff.mp e2
      obtain ⟨el, hel, e5⟩ := List.any_eq_true.mp e4
      have M := hm q hqm
      unfold ck_M at M
      rw [t] at M
      obtain ⟨p1, m1, tc, nn, g, p2, m2, tc2, n2, f2, t0, T, I, a1, a2, a3, a4, a5, a6, a7, x1, x2, x3⟩ := M
      have h3 := hE3 _ _ _ _ _ a2 a3
      subst h3
      obtain ⟨i, a, b1, b2, b3, b4⟩ := ck_els1 hn hm a1 a3 hm el hel
      rw [ck_rt_ok hrt] at a7
      have c1 := ck_ibb1 hn hm a7 hr e3 hL hLk
      have c2 := ck_ibb1 hn hm b4 ho e5 hL hLk
      have hf := ck_las_in hL
      obtain ⟨d1, -⟩ := x2 _ hf
      obtain ⟨-, y2, -⟩ := x3 i b2 _ b3
      obtain ⟨d2, -, -, -, d3, -⟩ := y2 _ hf
      rw [Nat.add_sub_cancel_left] at d2
      rw [c1] at d1
      rw [c2] at d2
      exact d3 ((Option.some.inj d2).symm.trans (Option.some.inj d1))
    · cases e2
  · cases e
theorem ck_fd_put {p ci k : Nat} {vs : List Value} {v : Value} (hp : h[p]? = some (.inr (ci, vs))) {p' ci' k' : Nat} (hne : ¬ (p' = p ∧ ci' = ci ∧ k' = k)) : ck_fd (h.set p (.inr (ci, vs.set k v))) p' ci' k' = ck_fd h p' ci' k' := by
  unfold ck_fd
  by_cases e : p = p'
  · subst e
    rw [ck_set_eq hp, hp]
    show (if ci = ci' then (vs.set k v)[k']? else none) = (if ci = ci' then vs[k']? else none)
    by_cases ec : ci = ci'
    · rw [if_pos ec, if_pos ec, List.getElem?_set, if_neg (fun z => hne ⟨rfl, ec.symm, z.symm⟩)]
    · rw [if_neg ec, if_neg ec]
  · rw [List.getElem?_set, if_neg e]
theorem ck_X18_put {Γ' : ck_G} {t md md' : Nat} {bd : Option Int} {exc exc' : Int} {g : Nat → Option Nat} {f2 : Nat → Int32} {T : Nat → Nat} {I : Nat → Nat → Nat} {p ci k : Nat} {vs : List Value} {v : Value} (X : ck_X18 E Γ h t bd md exc g f2 T I) (hx : ck_ext Γ Γ') (hp : h[p]? = some (.inr (ci, vs)))
    (h1 : ∀ f ∈ ck_pfs, ∀ (i : Nat) (pp : Nat × Nat), (ck_pth f)[i]? = some pp → ∀ t', ck_prw E h ((ck_pth f).take i) t = some t' → ¬ (t' = p ∧ pp.1 = ci ∧ pp.2 = k))
    (h2 : ∀ i : Nat, i < 3 → ∀ a : Nat, g i = some a → ∀ f ∈ ck_pfs, ∀ (j : Nat) (pp : Nat × Nat), (ck_pth f)[j]? = some pp → ∀ t', ck_prw E h ((ck_pth f).take j) (a - E.1) = some t' → ¬ (t' = p ∧ pp.1 = ci ∧ pp.2 = k))
    (h3 : ∀ i : Nat, i < 3 → ∀ a : Nat, g i = some a → (md' = 0 ∨ (i : Int) ≠ exc') → (md = 0 ∨ (i : Int) ≠ exc) ∧ ∀ L ∈ ck_lks, ¬ (I i L.1 = p ∧ L.2.1 = ci ∧ L.2.2.1 = k)) : ck_X18 E Γ' (h.set p (.inr (ci, vs.set k v))) t bd md' exc' g f2 T I := by
  obtain ⟨x1, x2, x3⟩ := X
  have hl : (h.set p (.inr (ci, vs.set k v))).length = h.length := List.length_set
  have kd : ∀ {f p : Nat}, (100 ≤ f → ∃ m, Γ[p]? = some (ck_pkd f, m)) → (100 ≤ f → ∃ m, Γ'[p]? = some (ck_pkd f, m)) := fun a b => by
    obtain ⟨m, e⟩ := a b
    obtain ⟨m', e', -⟩ := hx _ _ _ e
    exact ⟨m', e'⟩
  refine ⟨fun b hb => by rw [hl]; exact x1 b hb, fun f hf => ?_, fun i hi a ha => ?_⟩
  · obtain ⟨a1, a2, a3, a4⟩ := x2 f hf
    exact ⟨ck_po_to a1 fun i0 pp t' h5 h6 v0 e => by rw [ck_fd_put hp (h1 f hf i0 pp h5 t' h6)]; exact e, by rw [hl]; exact a2, a3, kd a4⟩
  · obtain ⟨b0, b1, b2⟩ := x3 i hi a ha
    refine ⟨b0, fun f hf => ?_, fun hmd => ?_⟩
    · obtain ⟨c1, c2, c3, c4, c5⟩ := b1 f hf
      exact ⟨ck_po_to c1 fun i0 pp t' h5 h6 v0 e => by rw [ck_fd_put hp (h2 i hi a ha f hf i0 pp h5 t' h6)]; exact e, by rw [hl]; exact c2, c3, kd c4, c5⟩
    · obtain ⟨d1, d2⟩ := h3 i hi a ha hmd
      refine ⟨fun L hL => ?_, fun j L hL => ?_⟩
      · rw [ck_fd_put hp (d2 L hL)]
        exact (b2 d1).1 L hL
      · exact ((b2 d1).2 j L hL).to fun x e => ck_set_ne (fun z => by subst z; cases hp.symm.trans e) e
/-- a row is written -/
theorem ck_X18_row {t md md' : Nat} {bd : Option Int} {exc exc' : Int} {g : Nat → Option Nat} {f2 : Nat → Int32} {T : Nat → Nat} {I : Nat → Nat → Nat} {p : Nat} {x : Nat × vp_A} {c' : cz_C} (X : ck_X18 E Γ h t bd md exc g f2 T I) (hp : h[p]? = some (.inl x))
    (h3 : ∀ i : Nat, i < 3 → ∀ a : Nat, g i = some a → (md' = 0 ∨ (i : Int) ≠ exc') → (md = 0 ∨ (i : Int) ≠ exc) ∧ ∀ (j : Nat) (L : ck_L), ck_las[j]? = some L → I i (100 + j) ≠ p) : ck_X18 E Γ (h.set p c') t bd md' exc' g f2 T I := by
  obtain ⟨x1, x2, x3⟩ := X
  have hl : (h.set p c').length = h.length := List.length_set
  refine ⟨fun b hb => by rw [hl]; exact x1 b hb, fun f hf => ?_, fun i hi a ha => ?_⟩
  · obtain ⟨a1, a2, a3, a4⟩ := x2 f hf
    exact ⟨ck_po_to a1 fun _ _ _ _ _ _ e => ck_fd_arr hp e, by rw [hl]; exact a2, a3, a4⟩
  · obtain ⟨b0, b1, b2⟩ := x3 i hi a ha
    refine ⟨b0, fun f hf => ?_, fun hmd => ?_⟩
    · obtain ⟨c1, c2, c3, c4, c5⟩ := b1 f hf
      exact ⟨ck_po_to c1 fun _ _ _ _ _ _ e => ck_fd_arr hp e, by rw [hl]; exact c2, c3, c4, c5⟩
    · obtain ⟨d1, d2⟩ := h3 i hi a ha hmd
      refine ⟨fun L hL => ck_fd_arr hp ((b2 d1).1 L hL), fun j L hL => ?_⟩
      exact ((b2 d1).2 j L hL).to fun x e => ck_set_ne (fun z => d2 j L hL z.symm) e
theorem ck_X18_T0 {t md : Nat} {bd : Option Int} {exc : Int} {g : Nat → Option Nat} {f2 : Nat → Int32} {T : Nat → Nat} {I : Nat → Nat → Nat} (X : ck_X18 E Γ h t bd md exc g f2 T I) : T 0 = t ∧ ∀ i : Nat, i < 3 → ∀ a : Nat, g i = some a → I i 0 = a - E.1 := by
  obtain ⟨-, x2, x3⟩ := X
  exact ⟨ck_po_nil ck_pth0 (x2 0 ck_pfs0).1, fun i hi a ha => ck_po_nil ck_pth0 ((x3 i hi a ha).2.1 0 ck_pfs0).1⟩
theorem ck_bo_some {a : ck_A} (e : ck_aeq a (ck_c 0) = false) : ck_bo ρ a = some (ck_ev ρ a) := by
  unfold ck_bo
  rw [e]
  rfl
/-- behind a field's write -/
theorem ck_k18_1 {Γ' : ck_G} {q : ck_Q} {p ci k o : Nat} {vs : List Value} {v : Value} (hE3 : ∀ (p tc nn : Nat) (g : Nat → Option Nat) (m : Nat), Γ[p]? = some (71, m) → h[p]? = some (.inl (tc, nn, .inr (.inr (.inr (.inr g))))) → nn = 3) (t : q.1 = 18) (hn : ck_nok n ρ) (hm : ∀ q ∈ es, ck_M E Γ h ρ q) (M : ck_M E Γ h ρ q) (hx : ck_ext Γ Γ') (hp : h[p]? = some (.inr (ci, vs))) (ho : (p : Int) = ρ.getD o 0) : ∀ q' ∈ ck_k18 n es ci k o q, ck_M E Γ' (h.set p (.inr (ci, vs.set k v))) ρ q' := by
  have M0 := M
  unfold ck_M at M
  rw [t] at M
  obtain ⟨p1, m1, tc, nn, g, p2, m2, tc2, n2, f2, t0, T, I, a1, a2, a3, a4, a5, a6, a7, X⟩ := M
  have h3 := hE3 _ _ _ _ _ a2 a3
  subst h3
  obtain ⟨m1', g1, -⟩ := hx _ _ _ a2
  obtain ⟨m2', g2, -⟩ := hx _ _ _ a5
  have n1 : p ≠ p1 := fun z => by subst z; cases hp.symm.trans a3
  have n2' : p ≠ p2 := fun z => by subst z; cases hp.symm.trans a6
  have same : ∀ {md' : Nat} {e' : ck_A}, ck_X18 E Γ' (h.set p (.inr (ci, vs.set k v))) t0 (ck_bo ρ q.2.2.2.2.2.2.2.2.2) md' (ck_ev ρ e') g f2 T I → ck_M E Γ' (h.set p (.inr (ci, vs.set k v))) ρ (18, q.2.1, q.2.2.1, md', e', q.2.2.2.2.2) := fun X' => ⟨p1, m1', tc, 3, g, p2, m2', tc2, n2, f2, t0, T, I, a1, g1, ck_set_ne n1 a3, a4, g2, ck_set_ne n2' a6, a7, X'⟩
  have eq : q = (18, q.2.1, q.2.2.1, q.2.2.2.1, q.2.2.2.2.1, q.2.2.2.2.2) := by
    obtain ⟨t', r', c', d', e', f'⟩ := q
    have t : t' = 18 := t
    subst t
    rfl
  have keep : ck_X18 E Γ' (h.set p (.inr (ci, vs.set k v))) t0 (ck_bo ρ q.2.2.2.2.2.2.2.2.2) q.2.2.2.1 (ck_ev ρ q.2.2.2.2.1) g f2 T I → ∀ q' ∈ [q], ck_M E Γ' (h.set p (.inr (ci, vs.set k v))) ρ q' := by
    intro X' q' hq'
    rw [List.mem_singleton.mp hq', eq]
    exact same X'
  unfold ck_k18
  split
  · next hr =>
    refine keep (ck_X18_put X hx hp (fun f hf i5 pp h5 t5 h6 z => ?_) (fun i hi a ha f hf i5 pp h5 t5 h6 z => ?_) (fun i hi a ha hmd => ⟨hmd, fun L hL z => ?_⟩))
    · have := ck_r18_pf hf h5
      rw [z.2.1, z.2.2, hr] at this
      cases this
    · have := ck_r18_pf hf h5
      rw [z.2.1, z.2.2, hr] at this
      cases this
    · have := ck_r18_lk hL
      rw [z.2.1, z.2.2, hr] at this
      cases this
  split
  · next hc =>
    obtain ⟨c1, c2⟩ := Bool.and_eq_true_iff.mp hc
    rw [Bool.not_eq_true'] at c1
    have c2 := ck_le_ok hn c2
    rw [ck_sub_ev, ck_ev_v] at c2
    have hb : ck_bo ρ q.2.2.2.2.2.2.2.2.2 = some (ck_ev ρ q.2.2.2.2.2.2.2.2.2) := ck_bo_some c1
    have X0 := X
    obtain ⟨x1, x2, x3⟩ := X0
    refine keep (ck_X18_put X hx hp (fun f hf i5 pp h5 t5 h6 z => ?_) (fun i hi a ha f hf i5 pp h5 t5 h6 z => ?_) (fun i hi a ha hmd => ⟨hmd, fun L hL z => ?_⟩))
    · obtain ⟨f', hf', e'⟩ := ck_pcl f hf i5 (List.getElem?_eq_some_iff.mp h5).1
      obtain ⟨u1, -, u3, -⟩ := x2 f' hf'
      unfold ck_po at u1
      rw [e', h6] at u1
      have u1 := Option.some.inj u1
      have := u3 _ hb
      have := z.1
      omega
    · obtain ⟨f', hf', e'⟩ := ck_pcl f hf i5 (List.getElem?_eq_some_iff.mp h5).1
      obtain ⟨u1, -, u3, -⟩ := (x3 i hi a ha).2.1 f' hf'
      unfold ck_po at u1
      rw [e', h6] at u1
      have u1 := Option.some.inj u1
      have := u3 _ hb
      have := z.1
      omega
    · have := ((x3 i hi a ha).2.1 L.1 (ck_lks_ok L hL).1).2.2.1 _ hb
      have := z.1
      omega
  split
  · next hc =>
    intro q' hq'
    cases hq'
  rename_i hpf
  have p1f : ∀ {f i5 : Nat} {pp : Nat × Nat}, f ∈ ck_pfs → (ck_pth f)[i5]? = some pp → pp.1 = ci → pp.2 = k → False := fun hf h5 z1 z2 => hpf (by rw [← z1, ← z2]; exact ck_pref_of hf h5)
  split
  · next hc =>
    unfold ck_tob at hc
    split at hc
    · next rt hrt =>
      rw [ck_rt_ok hrt] at a7
      have X0 := X
      obtain ⟨x1, x2, x3⟩ := X0
      refine keep (ck_X18_put X hx hp (fun f hf i5 pp h5 t5 h6 z => p1f hf h5 z.2.1 z.2.2) (fun i hi a ha f hf i5 pp h5 t5 h6 z => p1f hf h5 z.2.1 z.2.2) (fun i hi a ha hmd => ⟨hmd, fun L hL z => ?_⟩))
      have c1 := ck_iob1 hn hm a7 ho hc hL z.2.1 z.2.2
      have hf := (ck_lks_ok L hL).1
      have d1 := (x2 L.1 hf).1
      have d3 := ((x3 i hi a ha).2.1 L.1 hf).2.2.2.2.1
      rw [c1] at d1
      exact d3 (z.1.trans (Option.some.inj d1))
    · cases hc
  · have step : ∀ {l : List (ck_A × Nat)}, (∀ e ∈ l, ∃ i a : Nat, (i : Int) = ck_ev ρ e.1 ∧ i < 3 ∧ g i = some (E.1 + a) ∧ (a : Int) = ρ.getD e.2 0) → ∀ q' ∈ ck_k18e n es ci k o q l, ck_M E Γ' (h.set p (.inr (ci, vs.set k v))) ρ q' := by
      intro l
      induction l with
      | nil =>
        intro _ q' hq'
        cases hq'
      | cons e l ih =>
        intro hl
        have ih := ih (fun e' he' => hl e' (List.mem_cons_of_mem _ he'))
        obtain ⟨i0, a0, b1, b2, b3, b4⟩ := hl e List.mem_cons_self
        have X0 := X
        obtain ⟨x1, x2, x3⟩ := X0
        have core : ck_iob n es e.2 ci k o = true → ∀ i : Nat, i < 3 → ∀ a : Nat, g i = some a → i ≠ i0 → ∀ L ∈ ck_lks, ¬ (I i L.1 = p ∧ L.2.1 = ci ∧ L.2.2.1 = k) := by
          intro hio i hi a ha hne L hL z
          have c2 := ck_iob1 hn hm b4 ho hio hL z.2.1 z.2.2
          have hf := (ck_lks_ok L hL).1
          obtain ⟨d2, -, -, -, -, d5⟩ := (x3 i0 b2 _ b3).2.1 L.1 hf
          rw [Nat.add_sub_cancel_left, c2] at d2
          exact d5 i hi hne (by rw [ha]; exact Option.some_ne_none a) (z.1.trans (Option.some.inj d2))
        unfold ck_k18e
        split
        · next hio =>
          split
          · next hmd =>
            intro q' hq'
            rw [List.mem_singleton.mp hq']
            refine same (ck_X18_put X hx hp (fun f hf i5 pp h5 t5 h6 z => p1f hf h5 z.2.1 z.2.2) (fun i hi a ha f hf i5 pp h5 t5 h6 z => p1f hf h5 z.2.1 z.2.2) (fun i hi a ha hne => ⟨Or.inl hmd, core hio i hi a ha ?_⟩))
            rcases hne with z | z
            · cases z
            · intro z2
              exact z (by rw [z2]; exact b1)
          · next hmd =>
            split
            · next hae =>
              have hae := ck_aeq_ok hae
              refine keep (ck_X18_put X hx hp (fun f hf i5 pp h5 t5 h6 z => p1f hf h5 z.2.1 z.2.2) (fun i hi a ha f hf i5 pp h5 t5 h6 z => p1f hf h5 z.2.1 z.2.2) (fun i hi a ha hne => ⟨hne, core hio i hi a ha ?_⟩))
              rcases hne with z | z
              · exact absurd z hmd
              · intro z2
                exact z (by rw [z2, hae]; exact b1)
            · exact ih
        · exact ih
    exact step fun e he => ck_els1 hn hm a1 a3 hm e he
theorem ck_k18s_1 {Γ' : ck_G} {p ci k o : Nat} {vs : List Value} {v : Value} (hE3 : ∀ (p tc nn : Nat) (g : Nat → Option Nat) (m : Nat), Γ[p]? = some (71, m) → h[p]? = some (.inl (tc, nn, .inr (.inr (.inr (.inr g))))) → nn = 3) (hn : ck_nok n ρ) (hm : ∀ q ∈ es, ck_M E Γ h ρ q) (hx : ck_ext Γ Γ') (hp : h[p]? = some (.inr (ci, vs))) (ho : (p : Int) = ρ.getD o 0) : ∀ {l : List ck_Q}, (∀ q ∈ l, ck_M E Γ h ρ q) → ∀ q' ∈ ck_k18s n es ci k o l, ck_M E Γ' (h.set p (.inr (ci, vs.set k v))) ρ q'
  | [], _, q', hq' => by cases hq'
  | q :: l, hl, q', hq' => by
    have ih := ck_k18s_1 (k := k) (v := v) hE3 hn hm hx hp ho (l := l) (fun q2 hq2 => hl q2 (List.mem_cons_of_mem _ hq2))
    unfold ck_k18s at hq'
    split at hq'
    · next t =>
      rcases List.mem_append.mp hq' with hq' | hq'
      · exact ck_k18_1 hE3 t hn hm (hl q List.mem_cons_self) hx hp ho q' hq'
      · exact ih q' hq'
    · exact ih q' hq'
/-- a field of an image is read -/
theorem ck_g18_1 {ci k o p : Nat} {y : Value} (hE3 : ∀ (p tc nn : Nat) (g : Nat → Option Nat) (m : Nat), Γ[p]? = some (71, m) → h[p]? = some (.inl (tc, nn, .inr (.inr (.inr (.inr g))))) → nn = 3) (hE8 : ∀ (p tc nn : Nat) (f : Nat → Int32) (m : Nat), Γ[p]? = some (78, m) → h[p]? = some (.inl (tc, nn, .inl f)) → nn = 24270) (hn : ck_nok n ρ) (hm : ∀ q ∈ es, ck_M E Γ h ρ q) (hp : (p : Int) = ρ.getD o 0) (hy : ck_fd h p ci k = some y) (hv : ck_D E Γ ρ v y) : ∀ q ∈ ck_g18 n es ci k o v, ck_M E Γ h ρ q := by
  unfold ck_g18
  split
  · next q hq =>
    obtain ⟨hqm, t⟩ := ck_f18_mem hq
    split
    · next hmd =>
      have M := hm q hqm
      unfold ck_M at M
      rw [t] at M
      obtain ⟨p1, m1, tc, nn, g, p2, m2, tc2, n2, f2, t0, T, I, a1, a2, a3, a4, a5, a6, a7, x1, x2, x3⟩ := M
      have h3 := hE3 _ _ _ _ _ a2 a3
      subst h3
      have h8 := hE8 _ _ _ _ _ a5 a6
      subst h8
      have inner : ∀ {L : Nat × Nat × Nat × Nat}, L ∈ ck_lks → ck_lkm ci k L = true → ∀ {l : List (ck_A × Nat)}, (∀ e ∈ l, ∃ i a : Nat, (i : Int) = ck_ev ρ e.1 ∧ i < 3 ∧ g i = some (E.1 + a) ∧ (a : Int) = ρ.getD e.2 0) → ∀ q' ∈ ck_g18e n es q L o v l, ck_M E Γ h ρ q' := by
        intro L hL hLk l
        unfold ck_lkm at hLk
        simp only [Bool.and_eq_true, beq_iff_eq] at hLk
        induction l with
        | nil =>
          intro _ q' hq'
          cases hq'
        | cons e l ih =>
          intro hl q' hq'
          unfold ck_g18e at hq'
          split at hq'
          · next hc =>
            rw [List.mem_singleton.mp hq']
            unfold ck_obe at hc
            split at hc
            · next b hb =>
              have hc : b = o := by simpa using hc
              subst hc
              obtain ⟨i0, a0, b1, b2, b3, b4⟩ := hl e List.mem_cons_self
              obtain ⟨b', c1, c2, -⟩ := ck_ob1 hn hm b4 hb
              have : b' = p := by omega
              subst this
              have hf := ck_lks_ok L hL
              have hf2 := hf.2.1
              obtain ⟨-, y2, y3⟩ := x3 i0 b2 _ b3
              have d2 := (y2 L.1 hf.1).1
              rw [Nat.add_sub_cancel_left, c2] at d2
              have d3 := (y3 (Or.inl hmd)).1 L hL
              rw [← Option.some.inj d2, hLk.1, hLk.2, hy] at d3
              have d3 := Option.some.inj d3
              refine ⟨p2, m2, tc2, 24270, .inl f2, 8090 * i0 + L.2.2.2, a4, a5, a6, ?_, by omega, ?_⟩
              · show ((8090 * i0 + L.2.2.2 : Nat) : Int) = ck_ev ρ (ck_add (ck_mul 8090 e.1) (ck_c (L.2.2.2 : Int)))
                rw [ck_add_ev, ck_mul_ev, ck_ev_c, ← b1]
                omega
              · show ck_D E Γ ρ v (.int (f2 (8090 * i0 + L.2.2.2)))
                rw [← d3]
                exact hv
            · cases hc
          · exact ih (fun e' he' => hl e' (List.mem_cons_of_mem _ he')) q' hq'
      have outer : ∀ {ls : List (Nat × Nat × Nat × Nat)}, (∀ L ∈ ls, L ∈ ck_lks) → ∀ q' ∈ ck_g18l n es ci k o q v ls, ck_M E Γ h ρ q' := by
        intro ls
        induction ls with
        | nil =>
          intro _ q' hq'
          cases hq'
        | cons L ls ih =>
          intro hls q' hq'
          have ih := ih (fun L' hL' => hls L' (List.mem_cons_of_mem _ hL'))
          unfold ck_g18l at hq'
          split at hq'
          · next hLk =>
            have inn := inner (hls L List.mem_cons_self) hLk (fun e he => ck_els1 hn hm a1 a3 hm e he)
            split at hq'
            · exact ih q' hq'
            · next x y hxy =>
              rw [← hxy] at hq'
              exact inn q' hq'
          · exact ih q' hq'
      exact outer (fun _ z => z)
    · intro q' hq'
      cases hq'
  · intro q' hq'
    cases hq'
/-- behind a write into a row -/
theorem ck_b18_1 {q : ck_Q} {p K o m tc len : Nat} {y y' : ((Nat → Int32) ⊕ (Nat → Int64) ⊕ (Nat → UInt32) ⊕ (Nat → UInt64) ⊕ (Nat → Option Nat))} (hE3 : ∀ (p tc nn : Nat) (g : Nat → Option Nat) (m : Nat), Γ[p]? = some (71, m) → h[p]? = some (.inl (tc, nn, .inr (.inr (.inr (.inr g))))) → nn = 3) (t : q.1 = 18) (hn : ck_nok n ρ) (hm : ∀ q ∈ es, ck_M E Γ h ρ q) (M : ck_M E Γ h ρ q) (h71 : K ≠ 71) (h78 : K ≠ 78) (hg : Γ[p]? = some (K, m)) (ha : h[p]? = some (.inl (tc, len, y))) (ho : (p : Int) = ρ.getD o 0) : ∀ q' ∈ ck_b18 n es K o q, ck_M E Γ (h.set p (.inl (tc, len, y'))) ρ q' := by
  unfold ck_M at M
  rw [t] at M
  obtain ⟨p1, m1, tc1, nn, g, p2, m2, tc2, n2, f2, t0, T, I, a1, a2, a3, a4, a5, a6, a7, X⟩ := M
  have h3 := hE3 _ _ _ _ _ a2 a3
  subst h3
  have n1 : p ≠ p1 := fun z => by
    subst z
    exact h71 (congrArg Prod.fst (Option.some.inj (hg.symm.trans a2)))
  have n2' : p ≠ p2 := fun z => by
    subst z
    exact h78 (congrArg Prod.fst (Option.some.inj (hg.symm.trans a5)))
  have same : ∀ {md' : Nat} {e' : ck_A}, ck_X18 E Γ (h.set p (.inl (tc, len, y'))) t0 (ck_bo ρ q.2.2.2.2.2.2.2.2.2) md' (ck_ev ρ e') g f2 T I → ck_M E Γ (h.set p (.inl (tc, len, y'))) ρ (18, q.2.1, q.2.2.1, md', e', q.2.2.2.2.2) := fun X' => ⟨p1, m1, tc1, 3, g, p2, m2, tc2, n2, f2, t0, T, I, a1, a2, ck_set_ne n1 a3, a4, a5, ck_set_ne n2' a6, a7, X'⟩
  have eq : q = (18, q.2.1, q.2.2.1, q.2.2.2.1, q.2.2.2.2.1, q.2.2.2.2.2) := by
    obtain ⟨t', r', c', d', e', f'⟩ := q
    have t : t' = 18 := t
    subst t
    rfl
  have keep : ck_X18 E Γ (h.set p (.inl (tc, len, y'))) t0 (ck_bo ρ q.2.2.2.2.2.2.2.2.2) q.2.2.2.1 (ck_ev ρ q.2.2.2.2.1) g f2 T I → ∀ q' ∈ [q], ck_M E Γ (h.set p (.inl (tc, len, y'))) ρ q' := by
    intro X' q' hq'
    rw [List.mem_singleton.mp hq', eq]
    exact same X'
  have kd : ∀ i : Nat, i < 3 → ∀ a : Nat, g i = some a → ∀ (j : Nat) (L : ck_L), ck_las[j]? = some L → I i (100 + j) = p → L.2.2.2.1 = K := by
    intro i hi a hga j L hL z
    obtain ⟨m', e⟩ := ((X.2.2 i hi a hga).2.1 _ (ck_las_in hL)).2.2.2.1 (Nat.le_add_right _ _)
    rw [z, hg, ck_pkd_of hL] at e
    exact (congrArg Prod.fst (Option.some.inj e)).symm
  unfold ck_b18
  split
  · next hr => exact keep (ck_X18_row X ha fun i hi a hga hmd => ⟨hmd, fun j L hL z => ck_lam_no hr hL (kd i hi a hga j L hL z)⟩)
  split
  · next hc =>
    obtain ⟨c1, c2⟩ := Bool.and_eq_true_iff.mp hc
    rw [Bool.not_eq_true'] at c1
    have c2 := ck_le_ok hn c2
    rw [ck_sub_ev, ck_ev_v] at c2
    have hb : ck_bo ρ q.2.2.2.2.2.2.2.2.2 = some (ck_ev ρ q.2.2.2.2.2.2.2.2.2) := ck_bo_some c1
    refine keep (ck_X18_row X ha fun i hi a hga hmd => ⟨hmd, fun j L hL z => ?_⟩)
    have := ((X.2.2 i hi a hga).2.1 _ (ck_las_in hL)).2.2.1 _ hb
    omega
  split
  · next hc =>
    unfold ck_tbb at hc
    split at hc
    · next rt hrt =>
      rw [ck_rt_ok hrt] at a7
      refine keep (ck_X18_row X ha fun i hi a hga hmd => ⟨hmd, fun j L hL z => ?_⟩)
      have c1 := ck_ibb1 hn hm a7 ho hc hL (kd i hi a hga j L hL z)
      have d1 := (X.2.1 _ (ck_las_in hL)).1
      have d3 := ((X.2.2 i hi a hga).2.1 _ (ck_las_in hL)).2.2.2.2.1
      rw [c1] at d1
      exact d3 (z.trans (Option.some.inj d1))
    · cases hc
  · have step : ∀ {l : List (ck_A × Nat)}, (∀ e ∈ l, ∃ i a : Nat, (i : Int) = ck_ev ρ e.1 ∧ i < 3 ∧ g i = some (E.1 + a) ∧ (a : Int) = ρ.getD e.2 0) → ∀ q' ∈ ck_b18e n es K o q l, ck_M E Γ (h.set p (.inl (tc, len, y'))) ρ q' := by
      intro l
      induction l with
      | nil =>
        intro _ q' hq'
        cases hq'
      | cons e l ih =>
        intro hl
        have ih := ih (fun e' he' => hl e' (List.mem_cons_of_mem _ he'))
        obtain ⟨i0, a0, b1, b2, b3, b4⟩ := hl e List.mem_cons_self
        have core : ck_ibb n es e.2 K o = true → ∀ i : Nat, i < 3 → ∀ a : Nat, g i = some a → i ≠ i0 → ∀ (j : Nat) (L : ck_L), ck_las[j]? = some L → I i (100 + j) ≠ p := by
          intro hio i hi a hga hne j L hL z
          have c2 := ck_ibb1 hn hm b4 ho hio hL (kd i hi a hga j L hL z)
          obtain ⟨d2, -, -, -, -, d5⟩ := (X.2.2 i0 b2 _ b3).2.1 _ (ck_las_in hL)
          rw [Nat.add_sub_cancel_left, c2] at d2
          exact d5 i hi hne (by rw [hga]; exact Option.some_ne_none a) (z.trans (Option.some.inj d2))
        unfold ck_b18e
        split
        · next hio =>
          split
          · next hmd =>
            intro q' hq'
            rw [List.mem_singleton.mp hq']
            refine same (ck_X18_row X ha fun i hi a hga hne => ⟨Or.inl hmd, core hio i hi a hga ?_⟩)
            rcases hne with z | z
            · cases z
            · intro z2
              exact z (by rw [z2]; exact b1)
          · next hmd =>
            split
            · next hae =>
              have hae := ck_aeq_ok hae
              refine keep (ck_X18_row X ha fun i hi a hga hne => ⟨hne, core hio i hi a hga ?_⟩)
              rcases hne with z | z
              · exact absurd z hmd
              · intro z2
                exact z (by rw [z2, hae]; exact b1)
            · exact ih
        · exact ih
    exact step fun e he => ck_els1 hn hm a1 a3 hm e he
theorem ck_b18s_1 {p K o m tc len : Nat} {y y' : ((Nat → Int32) ⊕ (Nat → Int64) ⊕ (Nat → UInt32) ⊕ (Nat → UInt64) ⊕ (Nat → Option Nat))} (hE3 : ∀ (p tc nn : Nat) (g : Nat → Option Nat) (m : Nat), Γ[p]? = some (71, m) → h[p]? = some (.inl (tc, nn, .inr (.inr (.inr (.inr g))))) → nn = 3) (hn : ck_nok n ρ) (hm : ∀ q ∈ es, ck_M E Γ h ρ q) (h71 : K ≠ 71) (h78 : K ≠ 78) (hg : Γ[p]? = some (K, m)) (ha : h[p]? = some (.inl (tc, len, y))) (ho : (p : Int) = ρ.getD o 0) : ∀ {l : List ck_Q}, (∀ q ∈ l, ck_M E Γ h ρ q) → ∀ q' ∈ ck_b18s n es K o l, ck_M E Γ (h.set p (.inl (tc, len, y'))) ρ q'
  | [], _, q', hq' => by cases hq'
  | q :: l, hl, q', hq' => by
    have ih := ck_b18s_1 (y' := y') hE3 hn hm h71 h78 hg ha ho (l := l) (fun q2 hq2 => hl q2 (List.mem_cons_of_mem _ hq2))
    unfold ck_b18s at hq'
    split at hq'
    · next t =>
      rcases List.mem_append.mp hq' with hq' | hq'
      · exact ck_b18_1 hE3 t hn hm (hl q List.mem_cons_self) h71 h78 hg ha ho q' hq'
      · exact ih q' hq'
    · exact ih q' hq'
/-! rows beside rows -/
theorem ck_ap0_ok {md : Nat} {exc a : ck_A} (hn : ck_nok n ρ) (e : ck_ap0 n md exc a = true) : md = 0 ∨ ck_ev ρ a ≠ ck_ev ρ exc := by
  unfold ck_ap0 at e
  rcases Bool.or_eq_true_iff.mp e with e | e
  · exact Or.inl (by simpa using e)
  · right
    unfold ck_apt at e
    rcases Bool.or_eq_true_iff.mp e with e | e
    · have := ck_le_ok hn e
      simp only [ck_add_ev, ck_sub_ev, ck_ev_c] at this
      omega
    · have := ck_le_ok hn e
      simp only [ck_add_ev, ck_sub_ev, ck_ev_c] at this
      omega
theorem ck_w19_ev {b i : ck_A} {L : ck_L} : ck_ev ρ (ck_w19 b L i) = ck_ev ρ b + ((L.2.2.2.2.1 : Int) + (L.2.2.2.2.2.1 : Int) * ck_ev ρ i) := by
  unfold ck_w19
  rw [ck_add_ev, ck_add_ev, ck_ev_c, ck_mul_ev]
theorem ck_i19_some {b ix i : ck_A} {L : ck_L} (hn : ck_nok n ρ) (e : ck_i19 n b L ix = some (some i)) : ∃ k : Nat, (k : Int) = ck_ev ρ i ∧ k < L.2.2.2.2.2.2 ∧ ck_ev ρ ix = ck_ev ρ b + ((L.2.2.2.2.1 : Int) + (L.2.2.2.2.2.1 : Int) * (k : Int)) := by
  unfold ck_i19 at e
  try dsimp only at e
  split at e
  · cases e
  · split at e
    · next i' hd =>
      split at e
      · next hin =>
        have e : i' = i := Option.some.inj (Option.some.inj e)
        rw [e] at hd hin
        obtain ⟨h1, h2⟩ := ck_inr_ok hn hin
        have h3 := ck_dv_ok hd ρ
        simp only [ck_sub_ev, ck_ev_c] at h3
        rw [ck_ev_c] at h2
        refine ⟨(ck_ev ρ i).toNat, by omega, by omega, ?_⟩
        rw [show (((ck_ev ρ i).toNat : Nat) : Int) = ck_ev ρ i by omega]
        omega
      · cases e
    · split at e <;> cases e
theorem ck_i19_none {b ix : ck_A} {L : ck_L} (hn : ck_nok n ρ) (e : ck_i19 n b L ix = some none) (hst : 0 < L.2.2.2.2.2.1) {k : Nat} (hk : k < L.2.2.2.2.2.2) : ck_ev ρ ix ≠ ck_ev ρ b + ((L.2.2.2.2.1 : Int) + (L.2.2.2.2.2.1 : Int) * (k : Int)) := by
  intro z
  have hkm : L.2.2.2.2.2.1 * k ≤ L.2.2.2.2.2.1 * (L.2.2.2.2.2.2 - 1) := Nat.mul_le_mul_left _ (by omega)
  have hki : (L.2.2.2.2.2.1 : Int) * (k : Int) = ((L.2.2.2.2.2.1 * k : Nat) : Int) := (Int.natCast_mul _ _).symm
  rw [hki] at z
  unfold ck_i19 at e
  try dsimp only at e
  split at e
  · next hc =>
    rcases Bool.or_eq_true_iff.mp hc with hc | hc
    · have := ck_le_ok hn hc
      simp only [ck_add_ev, ck_sub_ev, ck_ev_c] at this
      omega
    · have := ck_le_ok hn hc
      simp only [ck_sub_ev, ck_ev_c] at this
      omega
  · split at e
    · split at e <;> cases e
    · split at e
      · next hb =>
        obtain ⟨h1, h2⟩ := ck_btw_ok hn hb
        have h3 := ck_rmd_ev (st := L.2.2.2.2.2.1) (a := 0) (ix := ck_sub (ck_sub ix b) (ck_c (L.2.2.2.2.1 : Int))) (ρ := ρ)
        have h4 := Int.emod_eq_of_lt (a := ck_ev ρ (ck_rmd L.2.2.2.2.2.1 0 (ck_sub (ck_sub ix b) (ck_c (L.2.2.2.2.1 : Int))))) (b := (L.2.2.2.2.2.1 : Int)) (by omega) (by omega)
        have h5 : ck_ev ρ (ck_sub (ck_sub ix b) (ck_c (L.2.2.2.2.1 : Int))) - ((0 : Nat) : Int) = ((L.2.2.2.2.2.1 * k : Nat) : Int) := by
          simp only [ck_sub_ev, ck_ev_c]
          omega
        rw [h4, h5, Int.natCast_mul, Int.mul_emod_right] at h3
        omega
      · cases e
theorem ck_r19_1 {r K p tc len i : Nat} {ix : ck_A} {y : ((Nat → Int32) ⊕ (Nat → Int64) ⊕ (Nat → UInt32) ⊕ (Nat → UInt64) ⊕ (Nat → Option Nat))} (hn : ck_nok n ρ) (hm : ∀ q ∈ es, ck_M E Γ h ρ q) (hp : (p : Int) = ρ.getD r 0) (ha : h[p]? = some (.inl (tc, len, y))) (hi : (i : Int) = ck_ev ρ ix) : ∀ {l : List ck_Q}, (∀ q ∈ l, ck_M E Γ h ρ q) → ck_r19 n es r K ix l = some w → ck_D E Γ ρ w (ck_el y i)
  | [], _, e => by cases e
  | q :: l, hl, e => by
    have ih := ck_r19_1 (K := K) hn hm hp ha hi (l := l) (fun q' hq' => hl q' (List.mem_cons_of_mem _ hq'))
    unfold ck_r19 at e
    split at e
    · next t =>
      have M := hl q List.mem_cons_self
      unfold ck_M at M
      rw [t] at M
      obtain ⟨p1, m1, tc1, n1, f, p2, m2, tc2, n2, f2, b, L, e1, e2, e3, e4, e5, e6, e7, e8, e9, e10, e11, e12⟩ := M
      rw [e8] at e
      try dsimp only at e
      split at e
      · next hc =>
        simp only [Bool.and_eq_true, beq_iff_eq] at hc
        obtain ⟨⟨⟨c1, c2⟩, c3⟩, c4⟩ := hc
        split at e
        · next w' hw =>
          rw [← Option.some.inj e]
          rw [c1] at e1
          have hpp : p1 = p := by omega
          rw [hpp] at e3
          cases ha.symm.trans e3
          obtain ⟨j, j1, j2, j3⟩ := ck_f1_1 hm e4 e6 hw
          obtain ⟨k1, k2⟩ := ck_inr_ok hn c4
          rw [ck_ev_c, ← hi] at k2
          rw [ck_w19_ev, ← e7, ← hi, ← Int.natCast_mul] at j1
          have hj : j = b + L.2.2.2.2.1 + L.2.2.2.2.2.1 * i := by omega
          have := e12 i (by omega) ((ck_ap0_ok hn c3).imp id (fun z => by rw [hi]; exact z))
          show ck_D E Γ ρ w' (.int (f i))
          rw [this, ← hj]
          exact j3
        · exact ih e
      · split at e
        · next hc =>
          simp only [Bool.and_eq_true, beq_iff_eq] at hc
          split at e
          · next i' hi' =>
            split at e
            · next hap =>
              split at e
              · next w' hw =>
                rw [← Option.some.inj e]
                rw [hc.1] at e4
                have hpp : p2 = p := by omega
                rw [hpp] at e6
                cases ha.symm.trans e6
                obtain ⟨k, k1, k2, k3⟩ := ck_i19_some hn hi'
                obtain ⟨j, j1, j2, j3⟩ := ck_f1_1 hm e1 e3 hw
                have hjk : j = k := by omega
                rw [hjk] at j3
                have := e12 k k2 ((ck_ap0_ok hn hap).imp id (fun z => by rw [k1]; exact z))
                rw [← e7, ← hi, ← Int.natCast_mul] at k3
                show ck_D E Γ ρ w' (.int (f2 i))
                rw [show i = b + L.2.2.2.2.1 + L.2.2.2.2.2.1 * k by omega, ← this]
                exact j3
              · exact ih e
            · exact ih e
          · exact ih e
        · exact ih e
    · exact ih e
theorem ck_g19_1 {r K p tc len i : Nat} {ix : ck_A} {y : ((Nat → Int32) ⊕ (Nat → Int64) ⊕ (Nat → UInt32) ⊕ (Nat → UInt64) ⊕ (Nat → Option Nat))} (hn : ck_nok n ρ) (hp : (p : Int) = ρ.getD r 0) (ha : h[p]? = some (.inl (tc, len, y))) (hi : (i : Int) = ck_ev ρ ix) (hv : ck_D E Γ ρ v (ck_el y i)) : ∀ {l : List ck_Q}, (∀ q ∈ l, ck_M E Γ h ρ q) → ∀ q' ∈ ck_g19 n r K ix v l, ck_M E Γ h ρ q'
  | [], _, q', hq' => by cases hq'
  | q :: l, hl, q', hq' => by
    have ih := ck_g19_1 (K := K) hn hp ha hi hv (l := l) (fun q' hq' => hl q' (List.mem_cons_of_mem _ hq'))
    unfold ck_g19 at hq'
    split at hq'
    · next t =>
      have M := hl q List.mem_cons_self
      unfold ck_M at M
      rw [t] at M
      obtain ⟨p1, m1, tc1, n1, f, p2, m2, tc2, n2, f2, b, L, e1, e2, e3, e4, e5, e6, e7, e8, e9, e10, e11, e12⟩ := M
      rw [e8] at hq'
      try dsimp only at hq'
      split at hq'
      · next hc =>
        simp only [Bool.and_eq_true, beq_iff_eq] at hc
        obtain ⟨⟨⟨c1, c2⟩, c3⟩, c4⟩ := hc
        rcases List.mem_cons.mp hq' with hq' | hq'
        · rw [hq']
          rw [c1] at e1
          have hpp : p1 = p := by omega
          rw [hpp] at e3
          cases ha.symm.trans e3
          obtain ⟨k1, k2⟩ := ck_inr_ok hn c4
          rw [ck_ev_c, ← hi] at k2
          have hkm : L.2.2.2.2.2.1 * i ≤ L.2.2.2.2.2.1 * (L.2.2.2.2.2.2 - 1) := Nat.mul_le_mul_left _ (by omega)
          have h12 := e12 i (by omega) ((ck_ap0_ok hn c3).imp id (fun z => by rw [hi]; exact z))
          refine ⟨p2, m2, tc2, n2, .inl f2, b + L.2.2.2.2.1 + L.2.2.2.2.2.1 * i, e4, e5, e6, ?_, by omega, ?_⟩
          · show ((b + L.2.2.2.2.1 + L.2.2.2.2.2.1 * i : Nat) : Int) = ck_ev ρ (ck_w19 q.2.2.2.2.1 L ix)
            rw [ck_w19_ev, ← e7, ← hi, ← Int.natCast_mul]
            omega
          · show ck_D E Γ ρ v (.int (f2 (b + L.2.2.2.2.1 + L.2.2.2.2.2.1 * i)))
            rw [← h12]
            exact hv
        · exact ih q' hq'
      · split at hq'
        · next hc =>
          simp only [Bool.and_eq_true, beq_iff_eq] at hc
          split at hq'
          · next i' hi' =>
            split at hq'
            · next hap =>
              rcases List.mem_cons.mp hq' with hq' | hq'
              · rw [hq']
                rw [hc.1] at e4
                have hpp : p2 = p := by omega
                rw [hpp] at e6
                cases ha.symm.trans e6
                obtain ⟨k, k1, k2, k3⟩ := ck_i19_some hn hi'
                have h12 := e12 k k2 ((ck_ap0_ok hn hap).imp id (fun z => by rw [k1]; exact z))
                rw [← e7, ← hi, ← Int.natCast_mul] at k3
                refine ⟨p1, m1, tc1, n1, .inl f, k, e1, e2, e3, k1, by omega, ?_⟩
                show ck_D E Γ ρ v (.int (f k))
                rw [h12, show b + L.2.2.2.2.1 + L.2.2.2.2.2.1 * k = i by omega]
                exact hv
              · exact ih q' hq'
            · exact ih q' hq'
          · exact ih q' hq'
        · exact ih q' hq'
    · exact ih q' hq'
theorem ck_wq1 {o : Option ck_V} (e : ck_wq o v = true) : ∃ w, o = some w ∧ w.1 = 0 ∧ v.1 = 0 ∧ w.2.2.2.1 = v.2.2.2.1 := by
  unfold ck_wq at e
  split at e
  · next w =>
    simp only [Bool.and_eq_true, beq_iff_eq] at e
    exact ⟨w, rfl, e.1.1, e.1.2, ck_aeq_ok e.2⟩
  · cases e
theorem ck_wqv {a b : Int32} (h1 : ck_D E Γ ρ w (.int a)) (h2 : ck_D E Γ ρ v (.int b)) (t1 : w.1 = 0) (t2 : v.1 = 0) (e : w.2.2.2.1 = v.2.2.2.1) : a = b := by
  obtain ⟨z1, r1, s1⟩ := ck_D_i h1 t1
  obtain ⟨z2, r2, s2⟩ := ck_D_i h2 t2
  have r1 : a = z1 := by injection r1
  have r2 : b = z2 := by injection r2
  rw [r1, r2]
  apply Int32.toInt_inj.mp
  rw [s1, s2, e]
theorem ck_t19_1 {q : ck_Q} {h' : cz_H} {ii : ck_A} {o : Option ck_V} {p1 m1 tc1 n1 p2 m2 tc2 n2 b k0 : Nat} {f f2 : Nat → Int32} {L : ck_L} (t : q.1 = 19) (e1 : (p1 : Int) = ρ.getD q.2.1 0) (e2 : Γ[p1]? = some (q.2.2.1, m1)) (e3 : h'[p1]? = some (.inl (tc1, n1, .inl f))) (e4 : (p2 : Int) = ρ.getD q.2.2.2.2.2.2.1 0) (e5 : Γ[p2]? = some (q.2.2.2.2.2.2.2.1, m2)) (e6 : h'[p2]? = some (.inl (tc2, n2, .inl f2))) (e7 : (b : Int) = ck_ev ρ q.2.2.2.2.1) (e8 : ck_las[q.2.2.2.1]? = some L) (e9 : q.2.2.1 = L.2.2.2.1) (e10 : L.2.2.2.2.2.2 ≤ n1) (e11 : b + L.2.2.2.2.1 + L.2.2.2.2.2.1 * (L.2.2.2.2.2.2 - 1) < n2) (hk : (k0 : Int) = ck_ev ρ ii) (eqv : ∀ k : Nat, k < L.2.2.2.2.2.2 → k ≠ k0 → (q.2.2.2.2.2.1 = 0 ∨ (k : Int) ≠ ck_ev ρ q.2.2.2.2.2.2.2.2.1) → f k = f2 (b + L.2.2.2.2.1 + L.2.2.2.2.2.1 * k)) (new : ck_wq o v = true → f k0 = f2 (b + L.2.2.2.2.1 + L.2.2.2.2.2.1 * k0)) : ∀ q' ∈ ck_t19 q ii o v, ck_M E Γ h' ρ q' := by
  intro q' hq'
  have all : ck_wq o v = true → (∀ k : Nat, k ≠ k0 → (q.2.2.2.2.2.1 = 0 ∨ (k : Int) ≠ ck_ev ρ q.2.2.2.2.2.2.2.2.1)) → ∀ k : Nat, k < L.2.2.2.2.2.2 → f k = f2 (b + L.2.2.2.2.1 + L.2.2.2.2.2.1 * k) := fun hw hne k h1 => by
    by_cases hkk : k = k0
    · rw [hkk]
      exact new hw
    · exact eqv k h1 hkk (hne k hkk)
  unfold ck_t19 at hq'
  split at hq'
  · next hmd =>
    split at hq'
    · next hw =>
      rw [List.mem_singleton.mp hq']
      unfold ck_M
      rw [t]
      exact ⟨p1, m1, tc1, n1, f, p2, m2, tc2, n2, f2, b, L, e1, e2, e3, e4, e5, e6, e7, e8, e9, e10, e11, fun k h1 _ => all hw (fun _ _ => Or.inl hmd) k h1⟩
    · rw [List.mem_singleton.mp hq']
      refine ⟨p1, m1, tc1, n1, f, p2, m2, tc2, n2, f2, b, L, e1, e2, e3, e4, e5, e6, e7, e8, e9, e10, e11, fun k h1 hne => ?_⟩
      rcases hne with z | z
      · exact absurd (show (1 : Nat) = 0 from z) (by decide)
      · exact eqv k h1 (fun z2 => z (by rw [z2]; exact hk)) (Or.inl hmd)
  · next hmd =>
    split at hq'
    · next hex =>
      have hex := ck_aeq_ok hex
      split at hq'
      · next hw =>
        rw [List.mem_singleton.mp hq']
        exact ⟨p1, m1, tc1, n1, f, p2, m2, tc2, n2, f2, b, L, e1, e2, e3, e4, e5, e6, e7, e8, e9, e10, e11, fun k h1 _ => all hw (fun k' hkk => Or.inr (fun z => hkk (by rw [hex] at z; omega))) k h1⟩
      · rw [List.mem_singleton.mp hq']
        unfold ck_M
        rw [t]
        refine ⟨p1, m1, tc1, n1, f, p2, m2, tc2, n2, f2, b, L, e1, e2, e3, e4, e5, e6, e7, e8, e9, e10, e11, fun k h1 hne => eqv k h1 (fun z2 => ?_) hne⟩
        rcases hne with z | z
        · exact hmd z
        · exact z (by rw [z2, hex]; exact hk)
    · cases hq'
/-- a row beside a row, behind a write -/
theorem ck_s19_1 {q : ck_Q} {K r p m tc len i : Nat} {ix : ck_A} {x' : Value} {y y' : ((Nat → Int32) ⊕ (Nat → Int64) ⊕ (Nat → UInt32) ⊕ (Nat → UInt64) ⊕ (Nat → Option Nat))} (hE3 : ∀ (p tc nn : Nat) (g : Nat → Option Nat) (m : Nat), Γ[p]? = some (71, m) → h[p]? = some (.inl (tc, nn, .inr (.inr (.inr (.inr g))))) → nn = 3) (t : q.1 = 19) (hn : ck_nok n ρ) (hm : ∀ q ∈ es, ck_M E Γ h ρ q) (M : ck_M E Γ h ρ q) (hp : (p : Int) = ρ.getD r 0) (hg : Γ[p]? = some (K, m)) (ha : h[p]? = some (.inl (tc, len, y))) (hi : (i : Int) = ck_ev ρ ix) (hv : ck_D E Γ ρ v x') (hnew : ck_el y' i = x') (hf : ∀ f, y = .inl f → ∃ f', y' = .inl f' ∧ ∀ j, j ≠ i → f' j = f j) : ∀ q' ∈ ck_s19 n es K r ix v q, ck_M E Γ (h.set p (.inl (tc, len, y'))) ρ q' := by
  unfold ck_M at M
  rw [t] at M
  obtain ⟨p1, m1, tc1, n1, f, p2, m2, tc2, n2, f2, b, L, e1, e2, e3, e4, e5, e6, e7, e8, e9, e10, e11, e12⟩ := M
  have hst := (ck_lac_pos e8).2
  have stay : p1 ≠ p → p2 ≠ p → ∀ q' ∈ [q], ck_M E Γ (h.set p (.inl (tc, len, y'))) ρ q' := fun z1 z2 q' hq' => by
    rw [List.mem_singleton.mp hq']
    unfold ck_M
    rw [t]
    exact ⟨p1, m1, tc1, n1, f, p2, m2, tc2, n2, f2, b, L, e1, e2, ck_set_ne z1.symm e3, e4, e5, ck_set_ne z2.symm e6, e7, e8, e9, e10, e11, e12⟩
  have kne : ∀ {p0 K0 m0 : Nat}, Γ[p0]? = some (K0, m0) → K0 ≠ K → p0 ≠ p := fun h1 h2 z => by
    rw [z] at h1
    exact h2 (congrArg Prod.fst (Option.some.inj (h1.symm.trans hg)))
  unfold ck_s19
  rw [e8]
  try dsimp only
  split
  · next hK =>
    split
    · intro q' hq'
      cases hq'
    · next hKW =>
      have z2 : p2 ≠ p := kne e5 hKW
      split
      · next hr =>
        split
        · next hin =>
          have hpp : p1 = p := by rw [hr] at e1; omega
          rw [hpp] at e1 e2 e3
          cases ha.symm.trans e3
          obtain ⟨f', rfl, hf'⟩ := hf f rfl
          refine ck_t19_1 (f := f') (k0 := i) t e1 e2 (ck_set_eq ha) e4 e5 (ck_set_ne z2.symm e6) e7 e8 e9 e10 e11 hi (fun k h1 h2 h3 => by rw [hf' k h2]; exact e12 k h1 h3) (fun hw => ?_)
          obtain ⟨w0, o1, o2, o3, o4⟩ := ck_wq1 hw
          obtain ⟨j, j1, j2, j3⟩ := ck_f1_1 hm e4 e6 o1
          rw [ck_w19_ev, ← e7, ← hi, ← Int.natCast_mul] at j1
          have hj : j = b + L.2.2.2.2.1 + L.2.2.2.2.2.1 * i := by omega
          have hv2 : ck_D E Γ ρ v (.int (f' i)) := by rw [← hnew] at hv; exact hv
          rw [← hj]
          exact (ck_wqv (a := f2 j) j3 hv2 o2 o3 o4).symm
        · intro q' hq'
          cases hq'
      · next hr =>
        split
        · next hc =>
          rcases Bool.or_eq_true_iff.mp hc with hc | hc
          · refine stay (fun z => ?_) z2
            unfold ck_apt at hc
            rcases Bool.or_eq_true_iff.mp hc with hc | hc
            · have := ck_le_ok hn hc
              simp only [ck_add_ev, ck_sub_ev, ck_ev_c, ck_ev_v] at this
              omega
            · have := ck_le_ok hn hc
              simp only [ck_add_ev, ck_sub_ev, ck_ev_c, ck_ev_v] at this
              omega
          · exact stay (fun z => ck_sepA1 hE3 hn hm hp hc (by rw [z] at e1; exact e1)) z2
        · intro q' hq'
          cases hq'
  · next hK =>
    have z1 : p1 ≠ p := kne e2 hK
    split
    · next hKW =>
      split
      · next hRI =>
        have hpp : p2 = p := by rw [hRI] at e4; omega
        rw [hpp] at e4 e5 e6
        cases ha.symm.trans e6
        obtain ⟨f2', rfl, hf2'⟩ := hf f2 rfl
        split
        · next i' hi' =>
          obtain ⟨k, k1, k2, k3⟩ := ck_i19_some hn hi'
          rw [← e7, ← hi, ← Int.natCast_mul] at k3
          have hik : b + L.2.2.2.2.1 + L.2.2.2.2.2.1 * k = i := by omega
          refine ck_t19_1 (f2 := f2') (k0 := k) t e1 e2 (ck_set_ne z1.symm e3) e4 e5 (ck_set_eq ha) e7 e8 e9 e10 e11 k1 (fun k' h1 h2 h3 => ?_) (fun hw => ?_)
          · rw [hf2' _ (fun z => ?_)]
            · exact e12 k' h1 h3
            · rw [← hik] at z
              exact h2 (Nat.eq_of_mul_eq_mul_left hst (show L.2.2.2.2.2.1 * k' = L.2.2.2.2.2.1 * k by omega))
          · obtain ⟨w0, o1, o2, o3, o4⟩ := ck_wq1 hw
            obtain ⟨j, j1, j2, j3⟩ := ck_f1_1 hm e1 e3 o1
            have hjk : j = k := by omega
            rw [hjk] at j3
            have hv2 : ck_D E Γ ρ v (.int (f2' i)) := by rw [← hnew] at hv; exact hv
            rw [hik]
            exact ck_wqv (a := f k) j3 hv2 o2 o3 o4
        · next hi' =>
          intro q' hq'
          rw [List.mem_singleton.mp hq']
          unfold ck_M
          rw [t]
          refine ⟨p1, m1, tc1, n1, f, p, m2, tc, len, f2', b, L, e1, e2, ck_set_ne z1.symm e3, e4, e5, ck_set_eq ha, e7, e8, e9, e10, e11, fun k h1 h2 => ?_⟩
          rw [hf2' _ (fun z => ck_i19_none hn hi' hst h1 (by rw [← hi, ← e7, ← Int.natCast_mul]; omega))]
          exact e12 k h1 h2
        · intro q' hq'
          cases hq'
      · intro q' hq'
        cases hq'
    · next hKW => exact stay z1 (kne e5 hKW)
theorem ck_s19s_1 {K r p m tc len i : Nat} {ix : ck_A} {x' : Value} {y y' : ((Nat → Int32) ⊕ (Nat → Int64) ⊕ (Nat → UInt32) ⊕ (Nat → UInt64) ⊕ (Nat → Option Nat))} (hE3 : ∀ (p tc nn : Nat) (g : Nat → Option Nat) (m : Nat), Γ[p]? = some (71, m) → h[p]? = some (.inl (tc, nn, .inr (.inr (.inr (.inr g))))) → nn = 3) (hn : ck_nok n ρ) (hm : ∀ q ∈ es, ck_M E Γ h ρ q) (hp : (p : Int) = ρ.getD r 0) (hg : Γ[p]? = some (K, m)) (ha : h[p]? = some (.inl (tc, len, y))) (hi : (i : Int) = ck_ev ρ ix) (hv : ck_D E Γ ρ v x') (hnew : ck_el y' i = x') (hf : ∀ f, y = .inl f → ∃ f', y' = .inl f' ∧ ∀ j, j ≠ i → f' j = f j) : ∀ {l : List ck_Q}, (∀ q ∈ l, ck_M E Γ h ρ q) → ∀ q' ∈ ck_s19s n es K r ix v l, ck_M E Γ (h.set p (.inl (tc, len, y'))) ρ q'
  | [], _, q', hq' => by cases hq'
  | q :: l, hl, q', hq' => by
    have ih := ck_s19s_1 hE3 hn hm hp hg ha hi hv hnew hf (l := l) (fun q2 hq2 => hl q2 (List.mem_cons_of_mem _ hq2))
    unfold ck_s19s at hq'
    split at hq'
    · next t =>
      rcases List.mem_append.mp hq' with hq' | hq'
      · exact ck_s19_1 hE3 t hn hm (hl q List.mem_cons_self) hp hg ha hi hv hnew hf q' hq'
      · exact ih q' hq'
    · exact ih q' hq'
/-- rows beside rows, behind a copy -/
theorem ck_c19_1 {K r p m tc len : Nat} {y y' : ((Nat → Int32) ⊕ (Nat → Int64) ⊕ (Nat → UInt32) ⊕ (Nat → UInt64) ⊕ (Nat → Option Nat))} (hE3 : ∀ (p tc nn : Nat) (g : Nat → Option Nat) (m : Nat), Γ[p]? = some (71, m) → h[p]? = some (.inl (tc, nn, .inr (.inr (.inr (.inr g))))) → nn = 3) (hn : ck_nok n ρ) (hm : ∀ q ∈ es, ck_M E Γ h ρ q) (hp : (p : Int) = ρ.getD r 0) (hg : Γ[p]? = some (K, m)) (ha : h[p]? = some (.inl (tc, len, y))) : ∀ {l : List ck_Q}, (∀ q ∈ l, ck_M E Γ h ρ q) → ∀ q' ∈ ck_c19 n es K r l, ck_M E Γ (h.set p (.inl (tc, len, y'))) ρ q'
  | [], _, q', hq' => by cases hq'
  | q :: l, hl, q', hq' => by
    have ih := ck_c19_1 (y' := y') hE3 hn hm hp hg ha (l := l) (fun q2 hq2 => hl q2 (List.mem_cons_of_mem _ hq2))
    unfold ck_c19 at hq'
    split at hq'
    · next t =>
      have M := hl q List.mem_cons_self
      unfold ck_M at M
      rw [t] at M
      obtain ⟨p1, m1, tc1, n1, f, p2, m2, tc2, n2, f2, b, L, e1, e2, e3, e4, e5, e6, e7, e8, e9, e10, e11, e12⟩ := M
      have stay : p1 ≠ p → p2 ≠ p → ck_M E Γ (h.set p (.inl (tc, len, y'))) ρ q := fun z1 z2 => by
        unfold ck_M
        rw [t]
        exact ⟨p1, m1, tc1, n1, f, p2, m2, tc2, n2, f2, b, L, e1, e2, ck_set_ne z1.symm e3, e4, e5, ck_set_ne z2.symm e6, e7, e8, e9, e10, e11, e12⟩
      have kne : ∀ {p0 K0 m0 : Nat}, Γ[p0]? = some (K0, m0) → K0 ≠ K → p0 ≠ p := fun h1 h2 z => by
        rw [z] at h1
        exact h2 (congrArg Prod.fst (Option.some.inj (h1.symm.trans hg)))
      split at hq'
      · next hK =>
        split at hq'
        · next hc =>
          obtain ⟨hKW, hc⟩ := Bool.and_eq_true_iff.mp hc
          have z2 : p2 ≠ p := kne e5 (by simpa using hKW)
          rcases List.mem_cons.mp hq' with hq' | hq'
          · rw [hq']
            refine stay (fun z => ?_) z2
            rcases Bool.or_eq_true_iff.mp hc with hc | hc
            · unfold ck_apt at hc
              rcases Bool.or_eq_true_iff.mp hc with hc | hc
              · have := ck_le_ok hn hc
                simp only [ck_add_ev, ck_sub_ev, ck_ev_c, ck_ev_v] at this
                omega
              · have := ck_le_ok hn hc
                simp only [ck_add_ev, ck_sub_ev, ck_ev_c, ck_ev_v] at this
                omega
            · exact ck_sepA1 hE3 hn hm hp hc (by rw [z] at e1; exact e1)
          · exact ih q' hq'
        · exact ih q' hq'
      · next hK =>
        split at hq'
        · exact ih q' hq'
        · next hKW =>
          rcases List.mem_cons.mp hq' with hq' | hq'
          · rw [hq']
            exact stay (kne e2 hK) (kne e5 hKW)
          · exact ih q' hq'
    · exact ih q' hq'
theorem ck_n19a_1 {a K b pa pb mb tca tcb len : Nat} {fa f' : Nat → Int32} {yb : ((Nat → Int32) ⊕ (Nat → Int64) ⊕ (Nat → UInt32) ⊕ (Nat → UInt64) ⊕ (Nat → Option Nat))} (hpa : (pa : Int) = ρ.getD a 0) (haa : h[pa]? = some (.inl (tca, len, .inl fa))) (hpb : (pb : Int) = ρ.getD b 0) (hgb : Γ[pb]? = some (K, mb)) (hab : h[pb]? = some (.inl (tcb, len, yb))) (hcp : ∀ j : Nat, j < len → f' j = fa j) : ∀ {l : List ck_Q}, (∀ q ∈ l, ck_M E Γ h ρ q) → ∀ q' ∈ ck_n19a a K b l, ck_M E Γ (h.set pb (.inl (tcb, len, .inl f'))) ρ q'
  | [], _, q', hq' => by cases hq'
  | q :: l, hl, q', hq' => by
    have ih := ck_n19a_1 hpa haa hpb hgb hab hcp (l := l) (fun q2 hq2 => hl q2 (List.mem_cons_of_mem _ hq2))
    unfold ck_n19a at hq'
    split at hq'
    · next hc =>
      simp only [Bool.and_eq_true, beq_iff_eq] at hc
      obtain ⟨⟨⟨⟨c1, c2⟩, c3⟩, c4⟩, c5⟩ := hc
      rcases List.mem_cons.mp hq' with hq' | hq'
      · rw [hq']
        have M := hl q List.mem_cons_self
        unfold ck_M at M
        rw [c1] at M
        obtain ⟨p1, m1, tc1, n1, f, p2, m2, tc2, n2, f2, bb, L, e1, e2, e3, e4, e5, e6, e7, e8, e9, e10, e11, e12⟩ := M
        have hpp : p1 = pa := by rw [c2] at e1; omega
        rw [hpp] at e3
        cases haa.symm.trans e3
        have z2 : pb ≠ p2 := fun z => by
          rw [← z] at e5
          have := congrArg Prod.fst (Option.some.inj (e5.symm.trans hgb))
          have this : q.2.2.2.2.2.2.2.1 = K := this
          rw [this] at c5
          simp at c5
        exact ⟨pb, mb, tcb, len, f', p2, m2, tc2, n2, f2, bb, L, hpb, hgb, ck_set_eq hab, e4, e5, ck_set_ne z2 e6, e7, e8, by rw [← e9]; exact c3.symm, e10, e11, fun k h1 _ => by rw [hcp k (by omega)]; exact e12 k h1 (Or.inl c4)⟩
      · exact ih q' hq'
    · exact ih q' hq'
theorem ck_n19_1 {a K b pa pb mb tca tcb len : Nat} {fa f' : Nat → Int32} {yb : ((Nat → Int32) ⊕ (Nat → Int64) ⊕ (Nat → UInt32) ⊕ (Nat → UInt64) ⊕ (Nat → Option Nat))} (hE3 : ∀ (p tc nn : Nat) (g : Nat → Option Nat) (m : Nat), Γ[p]? = some (71, m) → h[p]? = some (.inl (tc, nn, .inr (.inr (.inr (.inr g))))) → nn = 3) (hE8 : ∀ (p tc nn : Nat) (f : Nat → Int32) (m : Nat), Γ[p]? = some (78, m) → h[p]? = some (.inl (tc, nn, .inl f)) → nn = 24270) (hn : ck_nok n ρ) (hm : ∀ q ∈ es, ck_M E Γ h ρ q) (hlen : ∀ (j : Nat) (L : ck_L), ck_las[j]? = some L → L.2.2.2.1 = K → L.2.2.2.2.2.2 ≤ len) (hpa : (pa : Int) = ρ.getD a 0) (haa : h[pa]? = some (.inl (tca, len, .inl fa))) (hpb : (pb : Int) = ρ.getD b 0) (hgb : Γ[pb]? = some (K, mb)) (hab : h[pb]? = some (.inl (tcb, len, yb))) (hcp : ∀ j : Nat, j < len → f' j = fa j) : ∀ q' ∈ ck_n19 n es a K b, ck_M E Γ (h.set pb (.inl (tcb, len, .inl f'))) ρ q' := by
  intro q' hq'
  unfold ck_n19 at hq'
  rcases List.mem_append.mp hq' with hq' | hq'
  · exact ck_n19a_1 hpa haa hpb hgb hab hcp hm q' hq'
  split at hq'
  · next q hq =>
    obtain ⟨hqm, t⟩ := ck_f18_mem hq
    split at hq'
    · next hmd =>
      have M := hm q hqm
      unfold ck_M at M
      rw [t] at M
      obtain ⟨p1, m1, tc, nn, g, p2, m2, tc2, n2, f2, t0, T, I, a1, a2, a3, a4, a5, a6, a7, x1, x2, x3⟩ := M
      have h3 := hE3 _ _ _ _ _ a2 a3
      subst h3
      have h8 := hE8 _ _ _ _ _ a5 a6
      subst h8
      obtain ⟨j, hj, hq'⟩ := List.mem_flatMap.mp hq'
      obtain ⟨L, hL, hLK⟩ : ∃ L : ck_L, ck_las[j]? = some L ∧ L.2.2.2.1 = K := by
        obtain ⟨-, h2⟩ := List.mem_filter.mp hj
        split at h2
        · next L hL => exact ⟨L, hL, by simpa using h2⟩
        · cases h2
      obtain ⟨l1, l2, l3, l4, l5, l6⟩ := ck_las_ok hL
      have z2 : pb ≠ p2 := fun z => by
        rw [← z] at a5
        have := congrArg Prod.fst (Option.some.inj (a5.symm.trans hgb))
        have this : 78 = K := this
        omega
      have go : ∀ {l : List (ck_A × Nat)}, (∀ e ∈ l, ∃ i a : Nat, (i : Int) = ck_ev ρ e.1 ∧ i < 3 ∧ g i = some (E.1 + a) ∧ (a : Int) = ρ.getD e.2 0) → ∀ q' ∈ ck_n19e n es a K b j q.2.2.2.2.2.2.1 l, ck_M E Γ (h.set pb (.inl (tcb, len, .inl f'))) ρ q' := by
        intro l
        induction l with
        | nil =>
          intro _ q' hq'
          cases hq'
        | cons e l ih =>
          intro hl q' hq'
          unfold ck_n19e at hq'
          split at hq'
          · next hc =>
            rw [List.mem_singleton.mp hq']
            obtain ⟨i0, a0, b1, b2, b3, b4⟩ := hl e List.mem_cons_self
            unfold ck_obe at hc
            split at hc
            · next bb hb =>
              have hc : bb = a := by simpa using hc
              rw [hc] at hb
              obtain ⟨b', r1, r2, -⟩ := ck_ob1 hn hm b4 hb
              have hbp : b' = pa := by omega
              obtain ⟨-, y2, y3⟩ := x3 i0 b2 _ b3
              have d2 := (y2 _ (ck_las_in hL)).1
              rw [Nat.add_sub_cancel_left, r2, hbp] at d2
              have d2 := Option.some.inj d2
              obtain ⟨tc3, n3, f3, w1, w2⟩ := (y3 (Or.inl hmd)).2 j L hL
              rw [← d2] at w1
              cases haa.symm.trans w1
              refine ⟨pb, mb, tcb, len, f', p2, m2, tc2, 24270, f2, 8090 * i0, L, hpb, hgb, ck_set_eq hab, a4, a5, ck_set_ne z2 a6, ?_, hL, hLK.symm, hlen j L hL hLK, by omega, fun k h1 _ => ?_⟩
              · show ((8090 * i0 : Nat) : Int) = ck_ev ρ (ck_mul 8090 e.1)
                rw [ck_mul_ev, ← b1]
                omega
              · rw [hcp k (Nat.lt_of_lt_of_le h1 (hlen j L hL hLK))]
                exact w2 k h1
            · cases hc
          · exact ih (fun e' he' => hl e' (List.mem_cons_of_mem _ he')) q' hq'
      exact go (fun e he => ck_els1 hn hm a1 a3 hm e he) q' hq'
    · cases hq'
  · cases hq'
end CKLN
