/-! THE CHECKER IS SOUND: elements are read -/
theorem ck_in_of {z : Int32} {len : Nat} (h0 : 0 ≤ z.toInt) (h1 : z.toInt < len) : cz_in z len = true ∧ ((z.toNatClampNeg : Nat) : Int) = z.toInt := by
  have e : ((z.toNatClampNeg : Nat) : Int) = z.toInt := by
    show ((z.toInt.toNat : Nat) : Int) = z.toInt
    omega
  refine ⟨?_, e⟩
  unfold cz_in
  rw [Bool.and_eq_true, decide_eq_true_eq, decide_eq_true_eq]
  refine ⟨fun hz => ?_, by omega⟩
  have := Int32.lt_iff_toInt_lt.mp hz
  have e0 : (0 : Int32).toInt = 0 := rfl
  omega
theorem ck_inr_ok {n : ck_N} {ρ : List Int} {a l : ck_A} (hn : ck_nok n ρ) (e : ck_inr n a l = true) : 0 ≤ ck_ev ρ a ∧ ck_ev ρ a < ck_ev ρ l := by
  obtain ⟨e1, e2⟩ := Bool.and_eq_true_iff.mp e
  have h1 := ck_le_ok hn e1
  have h2 := ck_le_ok hn e2
  rw [ck_mul_ev] at h1
  rw [ck_sub_ev, ck_add_ev, ck_ev_c] at h2
  omega
section CKL
variable {E : cz_E} {Γ : ck_G} {B : Int} {ρ : List Int} {n n' : ck_N} {st st' : List ck_V} {es es' : List ck_Q} {cst : List Value} {h : cz_H}
/-- a cell of one's own is neither the script nor a text's row -/
theorem ck_own (hE : cz_Eok E) (p : Nat) : ¬ (E.1 + p = E.2.1.1 ∧ E.1 + p < E.1) ∧ cz_vs E (E.1 + p) = none := by
  refine ⟨fun z => by omega, cz_fd_no fun i hi z => ?_⟩
  have := (hE.2.2.2.2.1 i hi).2.1
  omega
theorem ck_el_load {ins : Instr} {pc xa tc len p : Nat} {xb : Int} {z : Int32} {cr : List Value} {y : (Nat → Int32) ⊕ (Nat → Int64) ⊕ (Nat → UInt32) ⊕ (Nat → UInt64) ⊕ (Nat → Option Nat)} (hE : cz_Eok E) (htc : ck_tcl ins tc = true) (hsh : ck_sh tc y) (ha : h[p]? = some (.inl (tc, len, y))) (hz : cz_in z len = true) : cz_s2 E (pc, ins, 1, xa, xb) (.int z :: .ref (E.1 + p) :: cr) h = some (pc + 1, ck_el y z.toNatClampNeg :: cr, h) := by
  obtain ⟨o1, o2⟩ := ck_own hE p
  unfold ck_tcl at htc
  split at htc
  · have htc : tc = 0 := by simpa using htc
    subst htc
    show cz_n 1 1 (if E.1 + p = E.2.1.1 ∧ E.1 + p < E.1 then _ else cz_ai (cz_at E h (E.1 + p)) fun tc n f => cz_if (tc == 0 && cz_in z n) (some (pc + 1, .int (f z.toNatClampNeg) :: cr, h))) = _
    rw [if_neg o1, cz_at_add, ha]
    rcases y with f | g | g | g | g
    · show cz_n 1 1 (cz_if (0 == 0 && cz_in z len) _) = _
      rw [hz]
      rfl
    · cases hsh
    · exact hsh.elim
    · exact hsh.elim
    · rcases hsh with c | c <;> cases c
  · have htc : tc = 1 ∨ tc = 4 := by simpa using htc
    show cz_n 1 1 (match cz_vs E (E.1 + p) with
      | some k => cz_if (cz_in z (cz_sl.getD k 0)) (some (pc + 1, .int ((cz_sb.getD k []).getD z.toNatClampNeg 0) :: cr, h))
      | none => cz_ai (cz_at E h (E.1 + p)) fun tc n f => cz_if ((tc == 1 || tc == 4) && cz_in z n) (some (pc + 1, .int (f z.toNatClampNeg) :: cr, h))) = _
    rw [o2]
    simp only
    rw [cz_at_add, ha]
    rcases y with f | g | g | g | g
    · show cz_n 1 1 (cz_if ((tc == 1 || tc == 4) && cz_in z len) _) = _
      rw [hz]
      rcases htc with rfl | rfl <;> rfl
    · rcases htc with rfl | rfl <;> cases hsh
    · exact hsh.elim
    · exact hsh.elim
    · rcases htc with rfl | rfl <;> rcases hsh with c | c <;> cases c
  · have htc : tc = 3 := by simpa using htc
    subst htc
    show cz_n 1 1 (cz_ai (cz_at E h (E.1 + p)) fun tc n f => cz_if (tc == 3 && cz_in z n) (some (pc + 1, .int (f z.toNatClampNeg) :: cr, h))) = _
    rw [cz_at_add, ha]
    rcases y with f | g | g | g | g
    · show cz_n 1 1 (cz_if (3 == 3 && cz_in z len) _) = _
      rw [hz]
      rfl
    · cases hsh
    · exact hsh.elim
    · exact hsh.elim
    · rcases hsh with c | c <;> cases c
  · have htc : tc = 2 := by simpa using htc
    subst htc
    show cz_n 1 1 (cz_al (cz_at E h (E.1 + p)) fun tc n f => cz_if (tc == 2 && cz_in z n) (some (pc + 1, .long (f z.toNatClampNeg) :: cr, h))) = _
    rw [cz_at_add, ha]
    rcases y with f | g | g | g | g
    · rcases hsh with c | c | c | c <;> cases c
    · show cz_n 1 1 (cz_if (2 == 2 && cz_in z len) _) = _
      rw [hz]
      rfl
    · exact hsh.elim
    · exact hsh.elim
    · rcases hsh with c | c <;> cases c
  · have htc : tc = 5 ∨ tc = 6 := by simpa using htc
    show cz_n 1 1 (cz_aq (cz_at E h (E.1 + p)) fun tc n f => cz_if ((tc == 5 || tc == 6) && cz_in z n) (some (pc + 1, va_rf (f z.toNatClampNeg) :: cr, h))) = _
    rw [cz_at_add, ha]
    rcases y with f | g | g | g | g
    · rcases htc with rfl | rfl <;> rcases hsh with c | c | c | c <;> cases c
    · rcases htc with rfl | rfl <;> cases hsh
    · exact hsh.elim
    · exact hsh.elim
    · show cz_n 1 1 (cz_if ((tc == 5 || tc == 6) && cz_in z len) _) = _
      rw [hz]
      rcases htc with rfl | rfl <;> rfl
  · cases htc
theorem ck_nu_ok {w : ck_V} {x : Value} (hn : ck_nok n ρ) (hd : ck_D E Γ ρ w x) : (ck_nu n (some w) = 5 → x = .null) ∧ (ck_nu n (some w) = 3 → ∃ a, x = .ref a) := by
  unfold ck_nu
  dsimp only
  split
  · next t5 =>
    unfold ck_D at hd
    rw [t5] at hd
    exact ⟨fun _ => hd, fun z => by omega⟩
  · split
    · next t3 =>
      obtain ⟨p, hx, -⟩ := ck_D3 hd t3
      exact ⟨fun z => by omega, fun _ => ⟨_, hx⟩⟩
    · split
      · next t4 =>
        split
        · next b hb =>
          have hbb := hn.1 _ _ hb
          rcases ck_D4 hd t4 with ⟨hx, q⟩ | ⟨p, hx, q, -⟩
          · split
            · omega
            · split
              · exact ⟨fun _ => hx, fun z => by omega⟩
              · exact ⟨fun z => by omega, fun z => by omega⟩
          · split
            · exact ⟨fun z => by omega, fun _ => ⟨_, hx⟩⟩
            · split
              · omega
              · exact ⟨fun z => by omega, fun z => by omega⟩
        · exact ⟨fun z => by omega, fun z => by omega⟩
      · exact ⟨fun z => by omega, fun z => by omega⟩
theorem ck_rf_null {g : Option Nat} : (va_rf g = .null ↔ g = none) := by
  cases g with
  | none => exact ⟨fun _ => rfl, fun _ => rfl⟩
  | some a => exact ⟨fun z => (by cases z), fun z => (by cases z)⟩
theorem ck_rf_inj {g g' : Option Nat} (e : va_rf g = va_rf g') : g = g' := by
  cases g with
  | none => cases g' with
    | none => rfl
    | some a => cases e
  | some a => cases g' with
    | none => cases e
    | some b =>
      have e : Value.ref a = .ref b := e
      injection e with e
      rw [e]
theorem ck_rn_ok {es0 : List ck_Q} {r K p tc len i : Nat} {ix : ck_A} {b : Int} {f2 : Nat → Int32} (hn : ∀ σ, ck_nok n (ρ ++ σ)) (hm0 : ck_Ms E Γ h ρ es0) (hp : ∀ σ, (p : Int) = (ρ ++ σ).getD r 0) (ha : h[p]? = some (.inl (tc, len, .inl f2))) (hi : ∀ σ, (i : Int) = ck_ev (ρ ++ σ) ix) (hil : i < len) (h01 : 0 ≤ (f2 i).toInt ∧ (f2 i).toInt ≤ 1) : ∀ {es : List ck_Q}, ck_Ms E Γ h ρ es → ck_rn n es0 es r K ix = some b → ck_Ds E Γ ρ (ck_vi (ck_c b)) (.int (f2 i))
  | [], _, e => by cases e
  | q :: l, hm, e => by
    have hm2 : ck_Ms E Γ h ρ l := fun q' hq' => hm q' (List.mem_cons_of_mem _ hq')
    unfold ck_rn at e
    split at e
    · next h1 =>
      simp only [Bool.and_eq_true, beq_iff_eq] at h1
      obtain ⟨⟨t, h1⟩, h2⟩ := h1
      have fact : ∀ σ, ∃ g : Nat → Option Nat, (g i = none ↔ f2 i = 0) ∧ ∀ w, ck_f1 es0 q.2.1 q.2.2.1 ix = some w → ck_D E Γ (ρ ++ σ) w (va_rf (g i)) := by
        intro σ
        have M := hm q List.mem_cons_self σ
        unfold ck_M at M
        rw [t] at M
        obtain ⟨p1, m1, tc1, nn, g, p2, m2, tc2, f3, e1, e2, e3, e4, e5, e6, e7⟩ := M
        have hpσ := hp σ
        rw [h1] at e4
        have : p2 = p := by omega
        subst this
        cases ha.symm.trans e6
        refine ⟨g, e7 i hil, fun w hw => ?_⟩
        obtain ⟨a0, hq1⟩ := ck_f1_mem hw
        obtain ⟨p3, m3, tc3, n3, y3, i3, g1, g2, g3, g4, g5, g6⟩ := hm0 _ hq1 σ
        have g1 : (p3 : Int) = (ρ ++ σ).getD q.2.1 0 := g1
        have : p3 = p1 := by omega
        subst this
        cases g3.symm.trans e3
        have g4 : (i3 : Int) = ck_ev (ρ ++ σ) ix := g4
        have hiσ := hi σ
        have : i3 = i := by omega
        subst this
        exact g6
      have e0 : (0 : Int32).toInt = 0 := rfl
      split at e
      · next h5 =>
        cases e
        intro σ
        obtain ⟨g, g1, g2⟩ := fact σ
        cases hw : ck_f1 es0 q.2.1 q.2.2.1 ix with
        | none =>
          rw [hw] at h5
          cases h5
        | some w =>
          rw [hw] at h5
          have := ck_rf_null.mp ((ck_nu_ok (hn σ) (g2 w hw)).1 h5)
          exact ⟨_, rfl, by show _ = ck_ev _ (ck_c 0); rw [ck_ev_c, g1.mp this]; rfl⟩
      · split at e
        · next h3 =>
          cases e
          intro σ
          obtain ⟨g, g1, g2⟩ := fact σ
          cases hw : ck_f1 es0 q.2.1 q.2.2.1 ix with
          | none =>
            rw [hw] at h3
            cases h3
          | some w =>
            rw [hw] at h3
            obtain ⟨a, ha2⟩ := (ck_nu_ok (hn σ) (g2 w hw)).2 h3
            have hne : f2 i ≠ 0 := fun z => by
              have := ck_rf_null.mpr (g1.mpr z)
              rw [this] at ha2
              cases ha2
            have hne2 : (f2 i).toInt ≠ 0 := fun z => hne (Int32.toInt_inj.mp (z.trans e0.symm))
            exact ⟨_, rfl, by show _ = ck_ev _ (ck_c 1); rw [ck_ev_c]; omega⟩
        · exact ck_rn_ok hn hm0 hp ha hi hil h01 hm2 e
    · exact ck_rn_ok hn hm0 hp ha hi hil h01 hm2 e
theorem ck_rd_ok {es0 : List ck_Q} {r K p tc len i : Nat} {ix : ck_A} {w : ck_V} {y : (Nat → Int32) ⊕ (Nat → Int64) ⊕ (Nat → UInt32) ⊕ (Nat → UInt64) ⊕ (Nat → Option Nat)} (hm0 : ck_Ms E Γ h ρ es0) (hp : ∀ σ, (p : Int) = (ρ ++ σ).getD r 0) (ha : h[p]? = some (.inl (tc, len, y))) (hi : ∀ σ, (i : Int) = ck_ev (ρ ++ σ) ix) (hil : i < len) : ∀ {es : List ck_Q}, ck_Ms E Γ h ρ es → ck_rd es0 es r K ix = some w → ck_Ds E Γ ρ w (ck_el y i)
  | [], _, e => by cases e
  | q :: l, hm, e => by
    have hm2 : ck_Ms E Γ h ρ l := fun q' hq' => hm q' (List.mem_cons_of_mem _ hq')
    unfold ck_rd at e
    split at e
    · next h1 =>
      simp only [Bool.and_eq_true, beq_iff_eq] at h1
      obtain ⟨⟨t, h1⟩, h2⟩ := h1
      split at e
      · next w' hw =>
        cases e
        intro σ
        have M := hm q List.mem_cons_self σ
        unfold ck_M at M
        rw [t] at M
        obtain ⟨p1, m1, tc1, nn, f, p2, m2, tc2, f2, e1, e2, e3, e4, e5, e6, e7⟩ := M
        have hpσ := hp σ
        rw [h1] at e1
        have : p1 = p := by omega
        subst this
        cases ha.symm.trans e3
        obtain ⟨a0, hq1⟩ := ck_f1_mem hw
        obtain ⟨p3, m3, tc3, n3, y3, i3, g1, g2, g3, g4, g5, g6⟩ := hm0 _ hq1 σ
        have g1 : (p3 : Int) = (ρ ++ σ).getD q.2.2.2.2.2.2.1 0 := g1
        have : p3 = p2 := by omega
        subst this
        cases g3.symm.trans e6
        have g4 : (i3 : Int) = ck_ev (ρ ++ σ) ix := g4
        have hiσ := hi σ
        have : i3 = i := by omega
        subst this
        show ck_D E Γ (ρ ++ σ) w (.int (f i3))
        rw [e7 i3 hil]
        exact g6
      · exact ck_rd_ok hm0 hp ha hi hil hm2 e
    · split at e
      · next h1 =>
        simp only [Bool.and_eq_true, beq_iff_eq] at h1
        obtain ⟨⟨t, h1⟩, h2⟩ := h1
        split at e
        · next w' hw =>
          cases e
          intro σ
          have M := hm q List.mem_cons_self σ
          unfold ck_M at M
          rw [t] at M
          obtain ⟨p1, m1, tc1, nn, f, p2, m2, tc2, f2, e1, e2, e3, e4, e5, e6, e7⟩ := M
          have hpσ := hp σ
          rw [h1] at e4
          have : p2 = p := by omega
          subst this
          cases ha.symm.trans e6
          obtain ⟨a0, hq1⟩ := ck_f1_mem hw
          obtain ⟨p3, m3, tc3, n3, y3, i3, g1, g2, g3, g4, g5, g6⟩ := hm0 _ hq1 σ
          have g1 : (p3 : Int) = (ρ ++ σ).getD q.2.1 0 := g1
          have : p3 = p1 := by omega
          subst this
          cases g3.symm.trans e3
          have g4 : (i3 : Int) = ck_ev (ρ ++ σ) ix := g4
          have hiσ := hi σ
          have : i3 = i := by omega
          subst this
          show ck_D E Γ (ρ ++ σ) w (.int (f2 i3))
          rw [← e7 i3 hil]
          exact g6
        · exact ck_rd_ok hm0 hp ha hi hil hm2 e
      · exact ck_rd_ok hm0 hp ha hi hil hm2 e
theorem ck_al_ok {ins : Instr} {pc xa : Nat} {xb : Int} (hE : cz_Eok E) (hB : B ≤ ck_BM) (hH : (Γ.length : Int) ≤ ck_HM) (J : ck_J E Γ B ρ n st es cst h) (e : ck_al (pc, ins, 1, xa, xb) n st es = some (n', st', es')) : ∃ ρ2 cst', cz_s2 E (pc, ins, 1, xa, xb) cst h = some (pc + 1, cst', h) ∧ ck_J E Γ B (ρ ++ ρ2) n' st' es' cst' h := by
  obtain ⟨hl, t, hn, hs, hm⟩ := J
  unfold ck_al at e
  obtain ⟨i0, r0, rfl, t0, e1⟩ := ck_qi_some e
  obtain ⟨a0, r, rfl, e2⟩ := ck_qv_some e1
  clear e e1
  obtain ⟨xi, cr0, rfl, hi0, hr0⟩ := ck_Ls.cons hs
  obtain ⟨xa0, cr, rfl, ha0, hr⟩ := ck_Ls.cons hr0
  obtain ⟨z, rfl, hz⟩ := ck_int hi0 t0
  generalize i0.2.2.2.1 = ix at e2 hz
  simp only at e2
  have hv := ck_nz_ok hn hm ha0
  generalize ck_nz n es a0 = a at e2 hv
  split at e2
  · next t7 =>
    obtain ⟨c, e3⟩ := cz_if_some e2
    obtain ⟨c1, c2⟩ := Bool.and_eq_true_iff.mp c
    have hins : ins = .iaload := by
      unfold ck_ia at c1
      split at c1
      · rfl
      · cases c1
    subst hins
    have h7 : ∀ σ, xa0 = .ref E.2.1.1 ∧ ((E.2.1.2.1 : Nat) : Int) = (ρ ++ σ).getD a.2.1 0 := by
      intro σ
      have := hv σ
      unfold ck_D at this
      rw [t7] at this
      exact this
    have b1 := ck_inr_ok (hn []) c2
    rw [ck_ev_v, ← (h7 []).2, ← hz []] at b1
    obtain ⟨z1, z2⟩ := ck_in_of b1.1 b1.2
    have step : cz_s2 E (pc, .iaload, 1, xa, xb) (.int z :: xa0 :: cr) h = some (pc + 1, .int (E.2.1.2.2 z.toNatClampNeg) :: cr, h) := by
      rw [(h7 []).1]
      show cz_n 1 1 (if E.2.1.1 = E.2.1.1 ∧ E.2.1.1 < E.1 then cz_if (cz_in z E.2.1.2.1) (some (pc + 1, .int (E.2.1.2.2 z.toNatClampNeg) :: cr, h)) else _) = _
      rw [if_pos ⟨rfl, hE.1⟩, z1]
      rfl
    have hzi : ∀ σ, ((z.toNatClampNeg : Nat) : Int) = ck_ev (ρ ++ σ) ix := fun σ => by rw [z2, hz σ]
    split at e3
    · next w hw =>
      cases e3
      refine ⟨[], _, step, ?_⟩
      rw [List.append_nil]
      refine ⟨hl, t, hn, ⟨fun σ => ?_, hr⟩, hm⟩
      obtain ⟨b, c, d, hq⟩ := ck_f2_mem hw
      obtain ⟨i, d1, d2, d3⟩ := hm _ hq σ
      have d1 : (i : Int) = ck_ev (ρ ++ σ) ix := d1
      have := hzi σ
      have : i = z.toNatClampNeg := by omega
      subst this
      exact d3
    · cases e3
      obtain ⟨ρ2, J2⟩ := ck_J.push (B := B) (new := [(2, 0, 0, 0, ix, (ck_fr n (-2147483648) 2147483647).2)]) t hr hm (ck_full_ok hl hn (E.2.1.2.2 z.toNatClampNeg)) (by
        intro ρ2 hy q hq σ
        rw [List.mem_singleton.mp hq]
        exact ⟨z.toNatClampNeg, by rw [List.append_assoc]; exact hzi _, by omega, hy σ⟩)
      exact ⟨ρ2, _, step, J2⟩
  · next t10 =>
    obtain ⟨c, e3⟩ := cz_if_some e2
    obtain ⟨c1, c2⟩ := Bool.and_eq_true_iff.mp c
    have hins : ins = .baload := by
      unfold ck_ba at c1
      split at c1
      · rfl
      · cases c1
    subst hins
    have h10 := hv []
    unfold ck_D at h10
    rw [t10] at h10
    obtain ⟨k, k1, rfl, k3, k4⟩ := h10
    have b1 := ck_inr_ok (hn []) c2
    rw [ck_ev_v, ← k4, ← hz []] at b1
    obtain ⟨z1, z2⟩ := ck_in_of b1.1 b1.2
    have hvs : cz_vs E (E.2.2.2.1 k) = some k := cz_fd_of k1 hE.2.2.2.1
    cases e3
    have hb : -128 ≤ ((cz_sb.getD k []).getD z.toNatClampNeg 0).toInt ∧ ((cz_sb.getD k []).getD z.toNatClampNeg 0).toInt ≤ 127 := by
      have hall : ∀ k, k < 14 → ∀ i, i < 8 → -128 ≤ ((cz_sb.getD k []).getD i 0).toInt ∧ ((cz_sb.getD k []).getD i 0).toInt ≤ 127 := by decide +kernel
      have := cz_n9 k k1
      exact hall k k1 _ (by omega)
    obtain ⟨ρ2, J2⟩ := ck_J.push (B := B) (new := []) t hr hm (ck_fr_ok hl hn hb) (fun _ _ _ hq => by cases hq)
    refine ⟨ρ2, _, ?_, J2⟩
    show cz_n 1 1 (match cz_vs E (E.2.2.2.1 k) with
      | some k => cz_if (cz_in z (cz_sl.getD k 0)) (some (pc + 1, .int ((cz_sb.getD k []).getD z.toNatClampNeg 0) :: cr, h))
      | none => _) = _
    rw [hvs]
    simp only
    rw [z1]
    rfl
  · next t3 =>
    obtain ⟨k, hk, e3⟩ := cz_so_some e2
    obtain ⟨c, e4⟩ := cz_if_some e3
    obtain ⟨c1, c2⟩ := Bool.and_eq_true_iff.mp c
    obtain ⟨p, rfl, hp, m, hg, -⟩ := ck_D39 hv (Or.inl t3)
    obtain ⟨y, ha, hsh, hrw, hty⟩ := ck_arr t hg hk
    have b1 := ck_inr_ok (hn []) c2
    rw [ck_ev_c, ← hz []] at b1
    obtain ⟨z1, z2⟩ := ck_in_of b1.1 b1.2
    have hzi : ∀ σ, ((z.toNatClampNeg : Nat) : Int) = ck_ev (ρ ++ σ) ix := fun σ => by rw [z2, hz σ]
    have hzl : z.toNatClampNeg < k.2.1 := by omega
    have step := ck_el_load (pc := pc) (xa := xa) (xb := xb) (cr := cr) hE c1 hsh ha z1
    split at e4
    · next w hw =>
      cases e4
      obtain ⟨tc2, len2, y2, d1, d2, d3, -⟩ := ck_f1_ok hm hw hp hzi
      cases ha.symm.trans d1
      refine ⟨[], _, step, ?_⟩
      rw [List.append_nil]
      exact ⟨hl, t, hn, ⟨d3, hr⟩, hm⟩
    · split at e4
      · next w hw =>
        cases e4
        have d3 := ck_rd_ok hm hp ha hzi hzl hm hw
        refine ⟨[], _, step, ?_⟩
        rw [List.append_nil]
        refine ⟨hl, t, hn, ⟨d3, hr⟩, fun q hq σ => ?_⟩
        rcases List.mem_cons.mp hq with rfl | hq
        · exact ⟨p, m, k.1, k.2.1, y, z.toNatClampNeg, hp σ, hg, ha, hzi σ, hzl, d3 σ⟩
        · exact hm q hq σ
      split at e4
      · next b hb =>
        cases e4
        split at hb
        · next hk4 =>
          obtain ⟨q1, q2, q3, q4⟩ := hk4
          have hel := hty _ hzl
          unfold ck_es at hel
          rw [if_pos q1] at hel
          unfold ck_vs at hel
          rw [q2] at hel
          obtain ⟨x0, hx0, hx1, hx2⟩ := hel
          rcases y with f | f | f | f | f
          · have hx0 : Value.int (f z.toNatClampNeg) = .int x0 := hx0
            have hx0 : f z.toNatClampNeg = x0 := by injection hx0
            have d3 : ck_Ds E Γ ρ (ck_vi (ck_c b)) (ck_el (.inl f) z.toNatClampNeg) := ck_rn_ok hn hm hp ha hzi hzl (by rw [hx0]; omega) hm hb
            refine ⟨[], _, step, ?_⟩
            rw [List.append_nil]
            refine ⟨hl, t, hn, ⟨d3, hr⟩, fun q hq σ => ?_⟩
            rcases List.mem_cons.mp hq with rfl | hq
            · exact ⟨p, m, k.1, k.2.1, .inl f, z.toNatClampNeg, hp σ, hg, ha, hzi σ, hzl, d3 σ⟩
            · exact hm q hq σ
          · cases hx0
          · cases hx0
          · cases hx0
          · exfalso
            have hx0 : va_rf (f z.toNatClampNeg) = .int x0 := hx0
            cases hfz : f z.toNatClampNeg with
            | none => rw [hfz] at hx0; cases hx0
            | some _ => rw [hfz] at hx0; cases hx0
        · cases hb
      obtain ⟨pp, hs2, e5⟩ := cz_so_some e4
      cases e5
      have Y : ck_Y E Γ ρ pp.1 pp.2 (ck_el y z.toNatClampNeg) := ck_sv_ok hl hn hB hH hs2 (ck_esp_ok (hn []) hm (hp []) hg ha (hzi []) hrw (hty _ hzl))
      obtain ⟨ρ2, J2⟩ := ck_J.push (B := B) (new := [(1, a.2.1, a.2.2.1, 0, ix, pp.2)]) t hr hm Y (by
        intro ρ2 hy q hq σ
        rw [List.mem_singleton.mp hq]
        exact ⟨p, m, k.1, k.2.1, y, z.toNatClampNeg, by rw [List.append_assoc]; exact hp _, hg, ha, by rw [List.append_assoc]; exact hzi _, hzl, hy σ⟩)
      exact ⟨ρ2, _, step, J2⟩
  · cases e2
end CKL
