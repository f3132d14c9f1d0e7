/-! the law's start gives what the clean machine rests on -/
/-- what is known of the addresses below -/
def cz_Eok (E : cz_E) : Prop := E.2.1.1 < E.1 ∧ E.2.1.2.1 ≤ 3072 ∧ (∀ i j : Nat, i < 14 → j < 14 → E.2.2.1 i = E.2.2.1 j → i = j) ∧ (∀ i j : Nat, i < 14 → j < 14 → E.2.2.2.1 i = E.2.2.2.1 j → i = j) ∧
  (∀ i : Nat, i < 14 → E.2.2.1 i < E.1 ∧ E.2.2.2.1 i < E.1 ∧ E.2.2.2.1 i ≠ E.2.1.1) ∧ cz_isA E.2.2.2.2 = true
def cz_tm (i : Nat) : Term := .string RX7 (cz_tix.getD i 0)
def cz_nn : List Cond := flatC (Jvm.Cond.and given_1 narrow_1)
theorem cz_n1 : ∀ i, i < 14 → Cond.exactly (cz_tm i) "java/lang/String" ∈ cz_nn := by decide +kernel
theorem cz_n2 : ∀ i, i < 14 → Cond.eq (.field (cz_tm i) "java/lang/String" "coder" "B") (.int 0) ∈ cz_nn := by decide +kernel
theorem cz_n3 : ∀ i, i < 14 → Cond.arrayOf (.field (cz_tm i) "java/lang/String" "value" "[B") .byte ∈ cz_nn := by decide +kernel
theorem cz_n4 : ∀ i, i < 14 → Cond.eq (.length (.field (cz_tm i) "java/lang/String" "value" "[B")) (.int (Int32.ofNat (cz_sl.getD i 0))) ∈ cz_nn := by decide +kernel
theorem cz_n5 : ∀ i, i < 14 → ∀ j, j < cz_sl.getD i 0 → Cond.eq (.elem (.field (cz_tm i) "java/lang/String" "value" "[B") (.int (Int32.ofNat j))) (.int ((cz_sb.getD i []).getD j 0)) ∈ cz_nn := by decide +kernel
theorem cz_n6 : ∀ i, i < 14 → Cond.eq (.string RX7 (cz_tix.getD i 0)) (.string RX12 (cz_tiy.getD i 0)) ∈ cz_nn := by decide +kernel
theorem cz_n7 : Cond.eq (.static "java/lang/String" "COMPACT_STRINGS" "Z") (.int 1) ∈ cz_nn ∧ Cond.isRef (.static "jdk/internal/util/Preconditions" "SIOOBE_FORMATTER" "Ljava/util/function/BiFunction;") ∈ cz_nn := by decide +kernel
theorem cz_w1 : Cond.laysStatic "java/lang/String" "COMPACT_STRINGS" "Z" ∈ lw_tbl ∧ Cond.initialized "java/lang/String" ∈ lw_tbl ∧ Cond.laysStatic "jdk/internal/util/Preconditions" "SIOOBE_FORMATTER" "Ljava/util/function/BiFunction;" ∈ lw_tbl ∧ Cond.initialized "jdk/internal/util/Preconditions" ∈ lw_tbl := by decide +kernel
theorem cz_w2 : Cond.arrayClass .int ∈ lw_tbl ∧ Cond.arrayClass .byte ∈ lw_tbl ∧ Cond.arrayClass .long ∈ lw_tbl ∧ Cond.arrayClass .char ∈ lw_tbl ∧ Cond.arrayClass .boolean ∈ lw_tbl ∧ Cond.arrayOver (.object RX10) ∈ lw_tbl ∧ Cond.arrayOver (.object RX9) ∈ lw_tbl := by decide +kernel
/-- different texts differ in their rows of bytes -/
theorem cz_n8 : ∀ i, i < 14 → ∀ j, j < 14 → cz_sl.getD i 0 = cz_sl.getD j 0 → (∀ k, k < cz_sl.getD i 0 → (cz_sb.getD i []).getD k 0 = (cz_sb.getD j []).getD k 0) → i = j := by decide +kernel
theorem cz_n9 : ∀ i, i < 14 → cz_sl.getD i 0 < 8 := by decide +kernel
theorem cz_n10 : ∀ t ∈ cz_sr, t.2.2 < 14 ∧ ((t.1 = 7 ∧ t.2.1 = cz_tix.getD t.2.2 0) ∨ (t.1 = 12 ∧ t.2.1 = cz_tiy.getD t.2.2 0)) := by decide +kernel
theorem cz_T_inj {A : Nat → Prop} {s : State} {a : Nat} {n1 n2 : Nat} {f1 f2 : Nat → Value} (h1 : va_T .byte a n1 f1 A s s.heap) (h2 : va_T .byte a n2 f2 A s s.heap) (l1 : n1 < 8) (l2 : n2 < 8) : n1 = n2 ∧ ∀ k, k < n1 → f1 k = f2 k := by
  obtain ⟨c1, a1, a2, a3, a4, a5, a6, -⟩ := h1
  obtain ⟨c2, b1, b2, b3, b4, b5, b6, -⟩ := h2
  cases a1.symm.trans b1
  have e : Int32.ofNat n1 = Int32.ofNat n2 := a5.symm.trans b5
  have e1 : n1 = n2 := by
    have h := congrArg Int32.toInt e
    rw [Int32.toInt_ofNat_of_lt (by omega), Int32.toInt_ofNat_of_lt (by omega)] at h
    omega
  refine ⟨e1, fun k hk => ?_⟩
  exact Option.some.inj ((a6 k hk).symm.trans (b6 k (e1 ▸ hk)))
theorem cz_OF_inj {A : Nat → Prop} {s : State} {a : Nat} {o n d : String} {v1 v2 : Value} (h1 : va_OF o n d v1 a A s s.heap) (h2 : va_OF o n d v2 a A s s.heap) : v1 = v2 := by
  obtain ⟨cf, k, i, f, cell, a1, a2, a3, a4, a5, -⟩ := h1
  obtain ⟨cf', k', i', f', cell', b1, b2, b3, b4, b5, -⟩ := h2
  cases a1.symm.trans b1
  cases a3.symm.trans b3
  exact Option.some.inj (a5.symm.trans b5)
theorem cz_arr {s : State} {args : Array Value} {ty : FieldType} (h : (Cond.arrayClass ty).before args s = true) (hp : ∀ C, ty ≠ .object C) : ∃ cA, ArrOfT s cA ty ∧ va_RA s cA ty := by
  obtain ⟨c, k, comp, h1, h2, h3⟩ := Cond.arrayClass_spec (args := args) (first := s) (o := none) (idx := []) h
  refine ⟨c, fun N z => ⟨(fun k h => by cases h), k, h2, comp, h3⟩, ?_⟩
  unfold va_RA
  split
  · next C => exact absurd rfl (hp C)
  · exact h1
theorem cz_arq {s : State} {args : Array Value} {C : String} (h : (Cond.arrayOver (.object C)).before args s = true) : ∃ cA, ArrOfT s cA (.object C) ∧ va_RA s cA (.object C) := by
  obtain ⟨comp, c, k, h1, h2, h3, h4, h5⟩ := Cond.arrayOver_spec (args := args) (first := s) (o := none) (idx := []) h
  exact ⟨c, fun N z => ⟨(fun k h => by cases h), k, h3, comp, h4⟩, k, comp, h3, h4, h1, h5⟩
set_option maxHeartbeats 4000000 in
theorem cz_start {p : Program} {s : State} {m : MethodId} {meth : Method} {c : Code} {b L : Nat} {xs : Nat → Int32} (hL : L ≤ 3072) (C0 : lw_At p s m meth c b L xs) : ∃ (E : cz_E) (cy : Nat → ClassId) (D : va_G), E.1 = s.heap.size ∧ E.2.1 = (b, L, xs) ∧ cz_Eok E ∧ cz_G E cy D s := by
  obtain ⟨hx, hb, hr, hml, hown, hts, hX, hbl, hlocks, hgv⟩ := C0
  have hs : ∀ w ∈ cz_nn, w.before #[Value.ref b] s = true := flat_of_before _ hgv
  have hA : ∀ a : Nat, a < s.heap.size → ¬ (fun q : Nat => s.heap.size ≤ q) a := fun a h => Nat.not_le.mpr h
  -- the classes
  have hk : ∀ i : Nat, ∃ q : ClassId × (Nat → Nat), ∀ r : vw_C, vwCl[i]? = some r → u_Kn s r.1 r.2.1 r.2.2 q.1 q.2 := by
    intro i
    cases hi : vwCl[i]? with
    | none => exact ⟨(0, fun _ => 0), fun r h => by cases h⟩
    | some r =>
      obtain ⟨o1, -, -, -, o5, -⟩ := cz_okc_all i r hi
      obtain ⟨cC, iS, hK⟩ := u_known (C := r.1) (T := r.2.1) (N := r.2.2) (n := r.2.2) (ws := lw_tbl) hts (fun w hw => (List.mem_filter.mp (o1 w hw)).1) (hts _ (List.mem_filter.mp o5).1)
      exact ⟨(cC, iS), fun r' h => by cases h; exact hK⟩
  obtain ⟨dq, hdq⟩ := Classical.axiomOfChoice hk
  -- the arrays
  have ha : ∀ k : Nat, ∃ cA : ClassId, k < 7 → ArrOfT s cA (cz_ty k) ∧ va_RA s cA (cz_ty k) := by
    intro k
    obtain ⟨w0, w1, w2, w3, w4, w5, w6⟩ := cz_w2
    match k with
    | 0 => obtain ⟨cA, h⟩ := cz_arr (hts _ w0) (by intro C h; cases h); exact ⟨cA, fun _ => h⟩
    | 1 => obtain ⟨cA, h⟩ := cz_arr (hts _ w1) (by intro C h; cases h); exact ⟨cA, fun _ => h⟩
    | 2 => obtain ⟨cA, h⟩ := cz_arr (hts _ w2) (by intro C h; cases h); exact ⟨cA, fun _ => h⟩
    | 3 => obtain ⟨cA, h⟩ := cz_arr (hts _ w3) (by intro C h; cases h); exact ⟨cA, fun _ => h⟩
    | 4 => obtain ⟨cA, h⟩ := cz_arr (hts _ w4) (by intro C h; cases h); exact ⟨cA, fun _ => h⟩
    | 5 => obtain ⟨cA, h⟩ := cz_arq (hts _ w5); exact ⟨cA, fun _ => h⟩
    | 6 => obtain ⟨cA, h⟩ := cz_arq (hts _ w6); exact ⟨cA, fun _ => h⟩
    | n + 7 => exact ⟨0, fun h => by omega⟩
  obtain ⟨cy, hcy⟩ := Classical.axiomOfChoice ha
  -- the texts
  have h0 : ∀ i : Nat, ∃ q : Nat × Nat, i < 14 → (cz_tm i).eval #[Value.ref b] s none [] s = some (.ref q.1) ∧ va_O "java/lang/String" q.1 (fun q : Nat => s.heap.size ≤ q) s s.heap ∧ va_OF "java/lang/String" "coder" "B" (.int 0) q.1 (fun q : Nat => s.heap.size ≤ q) s s.heap ∧ va_OF "java/lang/String" "value" "[B" (.ref q.2) q.1 (fun q : Nat => s.heap.size ≤ q) s s.heap ∧ va_T .byte q.2 (cz_sl.getD i 0) (fun j => .int ((cz_sb.getD i []).getD j 0)) (fun q : Nat => s.heap.size ≤ q) s s.heap := by
    intro i
    by_cases hi : i < 14
    · obtain ⟨a, c, cA, kA, q1, q2, q3, q4, q5, q6, -⟩ := Cond.exactly_spec (args := #[Value.ref b]) (first := s) (o := none) (s := s) (idx := []) (t := cz_tm i) (cls := "java/lang/String") (hs _ (cz_n1 i hi))
      obtain ⟨t, ht, hT⟩ := va_Tof (f := fun j => .int ((cz_sb.getD i []).getD j 0)) (A := fun q : Nat => s.heap.size ≤ q) (Nat.lt_trans (cz_n9 i hi) (by decide)) (hs _ (cz_n3 i hi)) (va_eqt (hs _ (cz_n4 i hi))) (fun j hj => va_eqt (hs _ (cz_n5 i hi j hj))) hA
      exact ⟨(a, t), fun _ => ⟨q1, ⟨cA, q3, q5, by rw [q6]; exact q2, hA a (Array.getElem?_eq_some_iff.mp q3).1⟩, vk_OFof q1 (va_eqt (hs _ (cz_n2 i hi))) hA, vk_OFof q1 ht hA, hT⟩⟩
    · exact ⟨(0, 0), fun h => absurd h hi⟩
  obtain ⟨ad, had⟩ := Classical.axiomOfChoice h0
  have inj2 : ∀ i j : Nat, i < 14 → j < 14 → (ad i).2 = (ad j).2 → i = j := by
    intro i j hi hj e
    have t1 := (had i hi).2.2.2.2
    have t2 := (had j hj).2.2.2.2
    rw [← e] at t2
    obtain ⟨e1, e2⟩ := cz_T_inj t1 t2 (cz_n9 i hi) (cz_n9 j hj)
    exact cz_n8 i hi j hj e1 (fun k hk => by have := e2 k hk; simpa using this)
  have inj1 : ∀ i j : Nat, i < 14 → j < 14 → (ad i).1 = (ad j).1 → i = j := by
    intro i j hi hj e
    have t1 := (had i hi).2.2.2.1
    have t2 := (had j hj).2.2.2.1
    rw [← e] at t2
    have e1 := cz_OF_inj t1 t2
    exact inj2 i j hi hj (by simpa using e1)
  -- the formatter
  obtain ⟨fv, hfv, hfr⟩ := Cond.isRef_spec (args := #[Value.ref b]) (first := s) (o := none) (s := s) (idx := []) (hs _ cz_n7.2)
  obtain ⟨v1, v2, v3, v4⟩ := cz_w1
  refine ⟨(s.heap.size, (b, L, xs), fun i => (ad i).1, fun i => (ad i).2, fv), cy, (fun i => (dq i).1, fun i => (dq i).2), rfl, rfl, ⟨hbl, hL, inj1, inj2, fun i hi => ⟨?_, ?_, ?_⟩, ?_⟩, ⟨?_, ?_⟩, ⟨fun i hi => (had i hi).2, inj1⟩, hX, hbl, va_Zof (hts _ v1) (hts _ v2) (va_eqt (hs _ cz_n7.1)) hA, va_Zof (hts _ v3) (hts _ v4) hfv hA, ?_, Nat.le_refl _, ?_⟩
  · obtain ⟨cell, g1, -⟩ := (had i hi).2.1
    exact (Array.getElem?_eq_some_iff.mp g1).1
  · obtain ⟨cell, g1, -⟩ := (had i hi).2.2.2.2
    exact (Array.getElem?_eq_some_iff.mp g1).1
  · intro e
    have e : (ad i).2 = b := e
    obtain ⟨cell, g1, g2, -⟩ := (had i hi).2.2.2.2
    obtain ⟨scr, k1, k2, -⟩ := hX
    rw [e] at g1
    cases g1.symm.trans k1
    obtain ⟨-, ka, ka1, comp, ka2⟩ := g2
    obtain ⟨-, kb, kb1, comp', kb2⟩ := k2
    cases ka1.symm.trans kb1
    rw [ka2] at kb2
    cases kb2
  · cases fv <;> first | rfl | cases hfr
  · exact fun i r hi => hdq i r hi
  · intro k q hk
    have h7 : k < 7 := by
      have := (List.getElem?_eq_some_iff.mp hk).1
      simpa [cz_tys] using this
    rw [cz_tys_get h7] at hk
    cases hk
    exact hcy k h7
  · intro t ht
    obtain ⟨i14, h2⟩ := cz_n10 t ht
    have hw := hts _ (cz_sr_in t ht)
    have e1 := (had t.2.2 i14).1
    unfold cz_srw at hw
    rcases h2 with ⟨g1, g2⟩ | ⟨g1, g2⟩
    · refine ⟨RX7, _, by rw [g1]; rfl, vk_R.of (A := #[Value.ref b]) (tx := cz_tx.getD t.2.2 "") ?_ ?_⟩
      · rw [g1] at hw
        exact hw
      · rw [g2]
        exact e1
    · refine ⟨RX12, _, by rw [g1]; rfl, vk_R.of (A := #[Value.ref b]) (tx := cz_tx.getD t.2.2 "") ?_ ?_⟩
      · rw [g1] at hw
        exact hw
      · obtain ⟨y, y1, y2⟩ := Cond.eq_one (args := #[Value.ref b]) (first := s) (o := none) (s := s) (idx := []) (hs _ (cz_n6 t.2.2 i14))
        rw [g2]
        rw [show (Term.string RX7 (cz_tix.getD t.2.2 0)).eval #[Value.ref b] s none [] s = some (.ref (ad t.2.2).1) from e1] at y1
        cases y1
        exact y2
  · intro w hw hbw
    unfold cz_isB at hbw
    split at hbw
    · exact va_Nw.of rfl (hts _ hw)
    · exact hts _ hw
    · cases hbw
set_option maxHeartbeats 4000000 in
/-- the claim's walk, out of a run of the clean machine -/
theorem cz_whole {p : Program} {e : Env} {s : State} {m : MethodId} {below : List Frame} {meth : Method} {c : Code} (l : Launch) {b L : Nat} {xs : Nat → Int32} (hL : L ≤ 3072) (C0 : lw_At p s m meth c b L xs) (hok : ∀ i, i < 335 → ∀ q ∈ cz_cd i, cz_ok1 i q = true) (hom : ∀ i, i < 334 → cz_okm i = true)
    (pure : ∀ E : cz_E, cz_Eok E → ∃ (f : Nat) (h' : cz_H), cz_go E f 40 334 0 [(0, .ref E.2.1.1)] [] [] = some (some (.int 1), h') ∧ h'.length ≤ 600000 ∧ cz_sz h' ≤ 7302250) : W p l e room_1 s m #[Value.ref b] below meth c s.heap [] 0 0 (lw_Z below #[Value.ref b] s) (entryFrame m ([Value.ref b] : List Value).toArray 4) := by
  obtain ⟨E, cy, D, hE1, hE2, hEok, hG⟩ := cz_start hL C0
  obtain ⟨hx, hb, hr, hml, hown, hts, hX, hbl, hlocks, hgv⟩ := C0
  obtain ⟨f, h', hgo, hc1, hc2⟩ := pure E hEok
  rw [hE2] at hgo
  have hl := lv_entry ([.ref b]) (n := 4) (Nat.le_of_ble_eq_true rfl)
  rw [lg_entry_eq]
  have e4 : (cz_mf 334).2.2.2.2.1 = 4 := by decide +kernel
  have e5 : (cz_mf 334).2.2.2.2.2 = some .boolean := by decide +kernel
  have e6 : cz_on (cz_mf 334).1 = R_law := by decide +kernel
  have e7 : cz_ini 334 = false := by decide +kernel
  have hbt : cz_bt 334 = code := by unfold cz_bt; rw [if_pos rfl]
  have C : cz_Cx 334 p s m #[Value.ref b] meth c := ⟨hx, hb.trans hbt.symm, hml.trans e4.symm, by rw [e6]; exact hown, fun w hw => hts w (List.mem_filter.mp hw).1, (fun h => by rw [e7] at h; exact absurd h (by decide)), hr.trans e5.symm, hlocks⟩
  refine cz_runs hok hom f 40 334 0 [(0, .ref b)] [] [] (some (.int 1)) h' hgo (by decide) p e room_1 s m #[Value.ref b] below meth c s.heap [] 0 0 _ _ 0 0 C hG (by rw [e4]; exact hl) ⟨fun k q h => by simp [cz_ws] at h, ⟨fun i j p q h => by simp [cz_ws] at h, fun k q h => by simp [cz_ws] at h⟩, va_S.rf⟩ rfl rfl (by rw [hE1]; rfl) ?_ ?_ ?_ ?_ ?_
  · show h'.length ≤ 0 + 600000
    omega
  · show cz_sz h' ≤ 0 + 7302250
    omega
  · show 40 + 8 ≤ 2048
    omega
  · show 64 + 100 * 40 ≤ 84000
    omega
  · intro H1 locs1 cells1 slots1 ls1 q st1 hq h3 hR hn hz
    have hq1 := hok 334 (by decide) q hq
    have hd := of_decide_eq_true (Bool.and_eq_true_iff.mp hq1).1
    have hw := (Bool.and_eq_true_iff.mp hq1).2
    clear hq1
    rw [hbt] at hd
    refine va_forget (fun q hq => by have := hR.2.2.2.2 q hq; rw [← hE1]; exact this) ?_
    refine W.widen (k := 600000) (n := 7302250) (by omega) (by omega) ?_
    obtain ⟨pc, ins, len, xa, xb⟩ := q
    cases ins
    case ireturn =>
      obtain ⟨e0, g1⟩ := cz_n_some h3
      have e0 : len = 1 := e0
      subst e0
      obtain ⟨x, r, rfl, g2⟩ := cz_i1_some g1
      obtain ⟨g4, g3⟩ := cz_if_some g2
      obtain ⟨hr0, hnr⟩ := Bool.and_eq_true_iff.mp g4
      have hr0 : r = [] := by simpa using hr0
      subst hr0
      have hv : x = 1 := by cases g3; rfl
      subst hv
      exact lw_ret hx hb hr hlocks hd
    case lreturn =>
      obtain ⟨-, g1⟩ := cz_n_some h3
      obtain ⟨x, r, rfl, g2⟩ := cz_l1_some g1
      cases (cz_if_some g2).2
    case areturn =>
      have hw : (match (cz_mf 334).2.2.2.2.2 with | some (.object _) => true | some (.array _) => true | _ => false) = true := hw
      rw [e5] at hw
      cases hw
    case return_ =>
      obtain ⟨-, g1⟩ := cz_n_some h3
      cases (cz_if_some g1).2
    case invokevirtual i =>
      obtain ⟨-, g1⟩ := cz_n_some h3
      obtain ⟨-, g2⟩ := cz_if_some g1
      obtain ⟨_, _, -, -, g3⟩ := cz_pop_some g2
      cases (cz_if_some g3).2
    case invokestatic i =>
      obtain ⟨-, g1⟩ := cz_n_some h3
      obtain ⟨-, g2⟩ := cz_if_some g1
      obtain ⟨_, _, -, -, g3⟩ := cz_pop_some g2
      cases (cz_if_some g3).2
    case invokespecial i =>
      obtain ⟨-, g1⟩ := cz_n_some h3
      obtain ⟨-, g2⟩ := cz_if_some g1
      obtain ⟨_, _, -, -, g3⟩ := cz_pop_some g2
      cases (cz_if_some g3).2
    all_goals cases h3
