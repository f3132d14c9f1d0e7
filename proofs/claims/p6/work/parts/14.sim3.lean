/-! the clean machine's run is the machine's: calls, and the induction on the fuel -/
theorem cz_cl13 : ∀ i, i < 13 → cz_on i = (vwCl.getD i (RX0, TX0, 0)).1 := by decide +kernel
def cz_ww (mi : Nat) : List Cond := Cond.code (cz_yw mi) (cz_bt mi) (cz_mf mi).2.2.2.2.1 (cz_mf mi).2.2.2.2.2 :: lw_tg
def cz_rm (d mc ms : Nat) : Room := { frames := d + 8, cells := mc, slots := ms, locals := 64 + 100 * d }
def cz_Pre (E : cz_E) (cy : Nat → ClassId) (D : va_G) (h : cz_H) (U : State) : Prop := cz_G E cy D U ∧ va_P D vwCl (cz_ws E.1 cy h) U.heap ∧ va_D (cz_A E) (cz_ws E.1 cy h) ∧ U.heap.size = E.1 + h.length
def cz_Qc (E : cz_E) (cy : Nat → ClassId) (D : va_G) (v : Option Value) (h' : cz_H) : Array Value → State → Outcome → State → Prop := fun _ st o t => o = .returned v ∧ va_P D vwCl (cz_ws E.1 cy h') t.heap ∧ va_D (cz_A E) (cz_ws E.1 cy h') ∧ va_F (cz_A E) st t
def cz_Cx (mi : Nat) (p : Program) (s : State) (m : MethodId) (args : Array Value) (meth : Method) (c : Code) : Prop :=
  p.tables.exec = Jvm.exec ∧ c.code = cz_bt mi ∧ c.maxLocals = (cz_mf mi).2.2.2.2.1 ∧ s.vm.findClass (cz_on (cz_mf mi).1) = some m.cls ∧ (∀ w ∈ lw_tg, w.before args s = true) ∧ (cz_ini mi = true → meth.name = "<init>") ∧ meth.sig.returnType = (cz_mf mi).2.2.2.2.2 ∧ meth.locks = false
def cz_MetC (l : Launch) (E : cz_E) (cy : Nat → ClassId) (D : va_G) (d mj : Nat) (as : List Value) (h : cz_H) (v : Option Value) (h' : cz_H) : Prop :=
  Met l (cz_yw mj) (cz_ww mj) (cz_rm d (h'.length - h.length) (cz_sz h' - cz_sz h)) (va_Pc as (cz_Pre E cy D h)) (cz_Qc E cy D v h') (h'.length - h.length) (cz_sz h' - cz_sz h) (cz_A E)
theorem cz_sum_sl (as : List Value) : (lg_sl as).length = cz_sum as := by
  induction as with
  | nil => rfl
  | cons v t ih =>
    have h1 : (lg_sl (v :: t)).length = (if v.category = 2 then [Slot.val v, .second] else [Slot.val v]).length + (lg_sl t).length := by simp [lg_sl]
    have h2 : cz_sum (v :: t) = v.category + cz_sum t := by simp [cz_sum]
    rw [h1, h2, ih]
    cases v <;> rfl
theorem cz_pre_blind {E : cz_E} {cy : Nat → ClassId} {D : va_G} {as : List Value} {h : cz_H} : FrameBlind (va_Pc as (cz_Pre E cy D h)) := by
  rintro a U g mk ⟨h1, h2, h3, h4, h5⟩
  exact ⟨h1, h2.calling g mk a, h3, h4, h5⟩
section CZ3
variable {p : Program} {l : Launch} {e : Env} {R : Room} {s : State} {m : MethodId} {args : Array Value} {below : List Frame} {meth : Method} {c : Code} {H : Heap} {locs : List Loc} {cells slots : Nat} {Q : State → Prop}
theorem cz_cont {E : cz_E} {cy : Nat → ClassId} {D : va_G} {pc mc ms : Nat} {ls : Array Slot} {st0 rest : List Value} {a : Array Value} {h h1 : cz_H} {v1 : Option Value} (hr : va_Run p l e R s m args below meth c H locs cells slots mc ms (F0 m pc ls st0) rest (cz_Qc E cy D v1 h1 a) (cz_A E)) (hR : cz_R E cy D s h H locs)
    (kk : ∀ (H1 : Heap) (locs1 : List Loc), cz_R E cy D s h1 H1 locs1 → W p l e R s m args below meth c H1 locs1 (cells + mc) (slots + ms) Q (F0 m (pc + 3) ls (v1.toList ++ rest))) : W p l e R s m args below meth c H locs cells slots Q (F0 m pc ls st0) := by
  intro T hT X
  obtain ⟨v, st₀, t, T', L, h0, X', hL, e1, e2, ⟨hv, hp, hd, hz, hk⟩, st⟩ := hr T hT X
  cases hv
  rw [h0] at hz hk
  obtain ⟨t2, a1, b1⟩ := kk T'.heap (locs ++ L) ⟨by rw [e1]; exact hp, hd, ⟨Nat.le_trans hR.2.2.1 (by rw [e1]; exact hz), fun q g1 g2 => by rw [e1, hk q (Nat.lt_of_lt_of_le g1 hR.2.2.1) g2]; exact hR.2.2.2.1 q g1 g2, fun q hq => by
      rcases List.mem_append.mp hq with h | h
      · exact hR.2.2.2.2 q h
      · exact hL q h⟩⟩ T' rfl X'
  exact ⟨t2, st t2 a1, b1⟩
/-- the heap's size at a point of a run -/
theorem cz_size {E : cz_E} {cy : Nat → ClassId} {D : va_G} {h : cz_H} {n0 : Nat} (hR : cz_R E cy D s h H locs) (hn : h.length = n0 + cells) (hs0 : s.heap.size = E.1 + n0) {g : JFrame} (kk : H.size = E.1 + h.length → W p l e R s m args below meth c H locs cells slots Q g) : W p l e R s m args below meth c H locs cells slots Q g := by
  refine cz_sized fun hsz => kk ?_
  have h1 : H.size ≤ E.1 + h.length := by omega
  have h2 : E.1 + h.length ≤ H.size := by
    by_cases h0 : cells = 0
    · have := hR.2.2.1
      omega
    · have hi : h.length - 1 < h.length := by omega
      have h3 := (hR.1 _ _ (cz_ws_get (B := E.1) (cy := cy) (List.getElem?_eq_getElem hi))).lt
      have h4 : E.1 + (h.length - 1) < H.size := h3
      omega
  omega
/-- a call in the clean machine is the machine's call -/
theorem cz_call {E : cz_E} {cy : Nat → ClassId} {D : va_G} (hok : ∀ i, i < 335 → ∀ q ∈ cz_cd i, cz_ok1 i q = true) (hom : ∀ i, i < 334 → cz_okm i = true) {mi d' mj : Nat} {q : cz_I} {ls : Array Slot} {st as rr : List Value} {h h1 h' : cz_H} {v1 : Option Value} {n0 z0 : Nat} (hmi : mi < 335) (hq : q ∈ cz_cd mi) (C : cz_Cx mi p s m args meth c) (hG : cz_G E cy D s) (hls : ls.size = (cz_mf mi).2.2.2.2.1) (hR : cz_R E cy D s h H locs)
    (hn : h.length = n0 + cells) (hz : cz_sz h = z0 + slots) (hs0 : s.heap.size = E.1 + n0) (hm1 : h.length ≤ h1.length ∧ cz_sz h ≤ cz_sz h1) (hm2 : h1.length ≤ h'.length ∧ cz_sz h1 ≤ cz_sz h') (hc1 : h'.length ≤ n0 + R.cells) (hc2 : cz_sz h' ≤ z0 + R.slots) (hfr : (d' + 1) + 8 ≤ R.frames) (hlo : 64 + 100 * (d' + 1) ≤ R.locals)
    (h3 : cz_s3 E q st h = some (.inl (mj, as, rr))) (hM : mj < 334 → cz_sum as ≤ (cz_mf mj).2.2.2.2.1 → cz_MetC l E cy D d' mj as h v1 h1)
    (kk : ∀ (H1 : Heap) (locs1 : List Loc) (cells1 slots1 : Nat), cz_R E cy D s h1 H1 locs1 → h1.length = n0 + cells1 → cz_sz h1 = z0 + slots1 → W p l e R s m args below meth c H1 locs1 cells1 slots1 Q (F0 m (q.1 + 3) ls (v1.toList ++ rr))) :
    W p l e R s m args below meth c H locs cells slots Q (F0 m q.1 ls st) := by
  refine cz_size hR hn hs0 fun hsize => ?_
  have hq1 := hok mi hmi q hq
  have hd := of_decide_eq_true (Bool.and_eq_true_iff.mp hq1).1
  have hw := (Bool.and_eq_true_iff.mp hq1).2
  clear hq1
  obtain ⟨hx, hb, hml, hown, hts, hin, hret, hlocks⟩ := C
  obtain ⟨pc, ins, len, xa, xb⟩ := q
  have kk2 : ∀ (H1 : Heap) (locs1 : List Loc), cz_R E cy D s h1 H1 locs1 → W p l e R s m args below meth c H1 locs1 (cells + (h1.length - h.length)) (slots + (cz_sz h1 - cz_sz h)) Q (F0 m (pc + 3) ls (v1.toList ++ rr)) := fun H1 locs1 f => kk H1 locs1 _ _ f (by omega) (by omega)
  have hfit : cells + (h1.length - h.length) ≤ R.cells ∧ slots + (cz_sz h1 - cz_sz h) ≤ R.slots := by omega
  have hrooms : ∀ {j : Nat}, (cz_mf j).2.2.2.2.1 ≤ 80 → (cz_rm d' (h1.length - h.length) (cz_sz h1 - cz_sz h)).frames + 1 ≤ R.frames ∧ 8 + ((cz_mf j).2.2.2.2.1 + 11) + (cz_rm d' (h1.length - h.length) (cz_sz h1 - cz_sz h)).locals ≤ R.locals := by
    intro j hj
    show d' + 8 + 1 ≤ R.frames ∧ 8 + ((cz_mf j).2.2.2.2.1 + 11) + (64 + 100 * d') ≤ R.locals
    omega
  have hpre : ∀ U : State, U.heap = H → s.WarmedH U.vm → va_Pc as (cz_Pre E cy D h) as.toArray U := fun U hU hW => ⟨rfl, hG.moved hW (by rw [hU]; exact hR.2.2), by rw [hU]; exact hR.1, hR.2.1, by rw [hU]; exact hsize⟩
  have hgood : ∀ {j : Nat}, j < 334 → GoodIn lw_tg (cz_ww j) := by
    intro j hj w hwm
    rcases List.mem_cons.mp hwm with rfl | hwm
    · exact ⟨lw_tg_in (cz_okm_code hj (hom j hj)) rfl, Or.inl rfl⟩
    · exact ⟨hwm, lw_tg_good _ hwm⟩
  cases ins
  case invokevirtual i =>
    obtain ⟨e0, g1⟩ := cz_n_some h3
    obtain ⟨e1, g2⟩ := cz_if_some g1
    have e9 : 0 < xb := of_decide_eq_true e1
    have e0 : len = 3 := e0
    subst e0
    obtain ⟨as', r', rfl, hlen, g3⟩ := cz_pop_some g2
    obtain ⟨e2, g4⟩ := cz_if_some g3
    cases g4
    simp only [Bool.and_eq_true, decide_eq_true_eq] at e2
    obtain ⟨⟨hrc, hsum⟩, hsas⟩ := e2
    have hw : (if 0 < xb then decide (((cz_mf mi).1, i, xa, 0) ∈ cz_ml) && decide (xa < 334) && decide (cz_kd.getD xa 9 = 0) && decide (xb.toNat = cz_np.getD xa 0 + 1) else true) = true := hw
    rw [if_pos e9] at hw
    simp only [Bool.and_eq_true, decide_eq_true_eq] at hw
    obtain ⟨⟨⟨hml4, hxa⟩, hkd⟩, hnp⟩ := hw
    have hmt := hM hxa hsas
    have ho := hom xa hxa
    unfold cz_okm at ho
    rw [hkd] at ho
    simp only [Bool.and_eq_true, decide_eq_true_eq] at ho
    obtain ⟨⟨⟨⟨⟨⟨⟨hcode, hini⟩, honn⟩, hplain⟩, hmh⟩, hml80⟩, hnpar⟩, hinst, hsel⟩ := ho
    have hini := lw_tg_in (cz_tin_mem hini) rfl
    have hinst := lw_tg_in (cz_tin_mem hinst) rfl
    have hsel := lw_tg_in (cz_lin_mem hsel) rfl
    have hlink : (Cond.methodLink (cz_on (cz_mf mi).1) i (cz_yw xa)).before args s = true := hts _ (lw_tg_in (cz_ml_in _ hml4) rfl)
    obtain ⟨b, as2, rfl⟩ : ∃ b as2, as = .ref b :: as2 := by
      unfold cz_rc at hrc
      split at hrc
      · exact ⟨_, _, rfl⟩
      · cases hrc
    have hcw : CallW R s args (cz_on (cz_mf mi).1) (cz_yw xa).cls i (cz_yw xa) (cz_bt xa) (cz_mf xa).2.2.2.2.1 (cz_mf xa).2.2.2.2.2 (cz_ww xa) (cz_rm d' (h1.length - h.length) (cz_sz h1 - cz_sz h)) (h1.length - h.length) (cz_sz h1 - cz_sz h) (cz_np.getD xa 0) :=
      ⟨callB_of _ hts (hgood hxa) rfl rfl rfl (hts _ hini) hlink ⟨hmh.1, hmh.2, hnpar⟩ (hrooms hml80), hts _ hinst, hts _ hsel⟩
    have hcell : ∃ cellB : Cell, H[b]? = some cellB ∧ cellB.vm.isStatics = false ∧ s.vm.findClass (cz_yw xa).cls = some cellB.cls := by
      have hrc : (if (cz_mf xa).1 = 15 then (cz_ks E b).isSome else match cz_at E h b with
        | some (.inr (ci, _)) => ci == (cz_mf xa).1 && decide ((cz_mf xa).1 < 13)
        | _ => false) = true := hrc
      rw [← honn]
      by_cases h15 : (cz_mf xa).1 = 15
      · rw [if_pos h15] at hrc
        obtain ⟨k, hk⟩ := Option.isSome_iff_exists.mp hrc
        obtain ⟨hk1, hk2⟩ := cz_fd_some hk
        subst hk2
        rw [h15]
        exact vk_recv hG.2.1 hk1 hR.2.2
      · rw [if_neg h15] at hrc
        split at hrc
        · next ci fs hat =>
          simp only [Bool.and_eq_true, beq_iff_eq, decide_eq_true_eq] at hrc
          obtain ⟨rfl, hlt⟩ := hrc
          have hv := cz_cl13 _ hlt
          have hwat := cz_ws_at (cy := cy) hat
          obtain ⟨r0, hr0, -⟩ := hR.1 _ _ hwat
          obtain ⟨cell, f1, f2, f3⟩ := va_recv hG.1 hR.1 hr0 hwat
          exact ⟨cell, f1, f2, by rw [hv, cz_vw_of hr0]; exact f3⟩
        · cases hrc
    refine cz_cont (va_runV (As := as2) (rest := rr) ⟨hx, hb, hml, hown, hts⟩ hmt hcw ⟨cz_pre_blind, hcell, hpre⟩ rfl ?_ hls (by simp) ?_ hd hfit) hR kk2
    · have : (Value.ref b :: as2).length = xb.toNat := hlen
      simp only [List.length_cons] at this
      omega
    · show 2 * 0 + cz_sum rr ≤ 8
      omega
  case invokestatic i =>
    obtain ⟨e0, g1⟩ := cz_n_some h3
    obtain ⟨e1, g2⟩ := cz_if_some g1
    have e9 : 0 ≤ xb := of_decide_eq_true e1
    have e0 : len = 3 := e0
    subst e0
    obtain ⟨as', r', rfl, hlen, g3⟩ := cz_pop_some g2
    obtain ⟨e2, g4⟩ := cz_if_some g3
    cases g4
    simp only [Bool.and_eq_true, decide_eq_true_eq] at e2
    obtain ⟨hsum, hsas⟩ := e2
    have hw : (if xb = -5 then decide (((cz_mf mi).1, i, 0, 5) ∈ cz_ml) else if 0 ≤ xb then decide (((cz_mf mi).1, i, xa, 1) ∈ cz_ml) && decide (xa < 334) && decide (cz_kd.getD xa 9 = 1) && decide (xb.toNat = cz_np.getD xa 0) else true) = true := hw
    rw [if_neg (show ¬ xb = -5 by omega), if_pos e9] at hw
    simp only [Bool.and_eq_true, decide_eq_true_eq] at hw
    obtain ⟨⟨⟨hml4, hxa⟩, hkd⟩, hnp⟩ := hw
    have hmt := hM hxa hsas
    have ho := hom xa hxa
    unfold cz_okm at ho
    rw [hkd] at ho
    simp only [Bool.and_eq_true, decide_eq_true_eq] at ho
    obtain ⟨⟨⟨⟨⟨⟨⟨hcode, hini⟩, honn⟩, hplain⟩, hmh⟩, hml80⟩, hnpar⟩, hstat⟩ := ho
    have hini := lw_tg_in (cz_tin_mem hini) rfl
    have hstat := lw_tg_in (cz_tin_mem hstat) rfl
    have hlink : (Cond.methodLink (cz_on (cz_mf mi).1) i (cz_yw xa)).before args s = true := hts _ (lw_tg_in (cz_ml_in _ hml4) rfl)
    have hcw : CallB R s args (cz_on (cz_mf mi).1) i (cz_yw xa) (cz_bt xa) (cz_mf xa).2.2.2.2.1 (cz_mf xa).2.2.2.2.2 (cz_ww xa) (cz_rm d' (h1.length - h.length) (cz_sz h1 - cz_sz h)) (h1.length - h.length) (cz_sz h1 - cz_sz h) (cz_np.getD xa 0) :=
      callB_of _ hts (hgood hxa) rfl rfl rfl (hts _ hini) hlink ⟨hmh.1, hmh.2, hnpar⟩ (hrooms hml80)
    refine cz_cont (va_runS (As := as) (rest := rr) ⟨hx, hb, hml, hown, hts⟩ hmt ⟨hcw, hts _ hstat⟩ ⟨cz_pre_blind, hpre⟩ rfl ?_ hls rfl ?_ hd hfit) hR kk2
    · have : as.length = xb.toNat := hlen
      omega
    · show 2 * 0 + cz_sum rr ≤ 8
      omega
  case invokespecial i =>
    obtain ⟨e0, g1⟩ := cz_n_some h3
    obtain ⟨e1, g2⟩ := cz_if_some g1
    have e9 : 0 < xb := of_decide_eq_true e1
    have e0 : len = 3 := e0
    subst e0
    obtain ⟨as', r', rfl, hlen, g3⟩ := cz_pop_some g2
    obtain ⟨e2, g4⟩ := cz_if_some g3
    cases g4
    simp only [Bool.and_eq_true, decide_eq_true_eq] at e2
    obtain ⟨⟨hrc, hsum⟩, hsas⟩ := e2
    have hw : (if xb = -4 then decide (((cz_mf mi).1, i, 0, 4) ∈ cz_ml) else if 0 < xb then (decide (((cz_mf mi).1, i, xa, 2) ∈ cz_ml) || decide (((cz_mf mi).1, i, xa, 3) ∈ cz_ml)) && decide (xa < 334) && decide (cz_kd.getD xa 9 = 2) && decide (xb.toNat = cz_np.getD xa 0 + 1) else true) = true := hw
    rw [if_neg (show ¬ xb = -4 by omega), if_pos e9] at hw
    simp only [Bool.and_eq_true, Bool.or_eq_true, decide_eq_true_eq] at hw
    obtain ⟨⟨⟨hml4, hxa⟩, hkd⟩, hnp⟩ := hw
    have hmt := hM hxa hsas
    have hgd := hgood hxa
    have ho := hom xa hxa
    unfold cz_okm at ho
    rw [hkd] at ho
    simp only [Bool.and_eq_true, decide_eq_true_eq] at ho
    obtain ⟨⟨⟨⟨⟨⟨⟨hcode, hini⟩, honn⟩, hplain⟩, hmh⟩, hml80⟩, hnpar⟩, ⟨hinst, hname⟩, hretn⟩ := ho
    have hini := lw_tg_in (cz_tin_mem hini) rfl
    have hinst := lw_tg_in (cz_tin_mem hinst) rfl
    obtain ⟨b, as2, rfl⟩ : ∃ b as2, as = .ref b :: as2 := by
      unfold cz_rc at hrc
      split at hrc
      · exact ⟨_, _, rfl⟩
      · cases hrc
    have hnn : as2.length = cz_np.getD xa 0 := by
      have : (Value.ref b :: as2).length = xb.toNat := hlen
      simp only [List.length_cons] at this
      omega
    have hww : cz_ww xa = Cond.code (cz_yw xa) (cz_bt xa) (cz_mf xa).2.2.2.2.1 none :: lw_tg := by unfold cz_ww; rw [hretn]
    rcases hml4 with hml4 | hml4
    · have hlink : (Cond.methodLink (cz_on (cz_mf mi).1) i (cz_yw xa)).before args s = true := hts _ (lw_tg_in (cz_ml_in _ hml4) rfl)
      have hcw : CallB R s args (cz_on (cz_mf mi).1) i (cz_yw xa) (cz_bt xa) (cz_mf xa).2.2.2.2.1 none (cz_ww xa) (cz_rm d' (h1.length - h.length) (cz_sz h1 - cz_sz h)) (h1.length - h.length) (cz_sz h1 - cz_sz h) (cz_np.getD xa 0) :=
        callB_of _ hts hgd hww rfl rfl (hts _ hini) hlink ⟨hmh.1, hmh.2, hnpar⟩ (hrooms hml80)
      exact cz_cont (va_runI (As := as2) (rest := rr) ⟨hx, hb, hml, hown, hts⟩ hmt ⟨hcw, hname, hts _ hinst⟩ ⟨cz_pre_blind, hpre⟩ rfl hnn hls (by simp) (by show 2 * 0 + cz_sum rr ≤ 8; omega) hd hfit) hR kk2
    · have hlink : va_Nw (Cond.methodLinkNest (cz_on (cz_mf mi).1) i (cz_yw xa) "NationSchool") s := hG.2.2.2.2.2.2.2.2 _ (cz_ml_in _ hml4) rfl
      have hcw := va_cnB (R := R) (bytes := cz_bt xa) (maxL := (cz_mf xa).2.2.2.2.1) (ret := none) (rm := cz_rm d' (h1.length - h.length) (cz_sz h1 - cz_sz h)) (mc := h1.length - h.length) (ms := cz_sz h1 - cz_sz h) (cz_np.getD xa 0) hts hgd hww rfl rfl hlink (hts _ hini) ⟨hmh.1, hmh.2, hnpar⟩ (hrooms hml80)
      exact cz_cont (va_runIN (As := as2) (rest := rr) ⟨hx, hb, hml, hown, hts⟩ hmt ⟨hcw, hname, hts _ hinst⟩ ⟨cz_pre_blind, hpre⟩ rfl hnn hls (by simp) (by show 2 * 0 + cz_sum rr ≤ 8; omega) hd hfit) hR kk2
  case ireturn =>
    obtain ⟨-, g1⟩ := cz_n_some h3
    obtain ⟨x, r, -, g2⟩ := cz_i1_some g1
    cases (cz_if_some g2).2
  case lreturn =>
    obtain ⟨-, g1⟩ := cz_n_some h3
    obtain ⟨x, r, -, g2⟩ := cz_l1_some g1
    cases (cz_if_some g2).2
  case areturn =>
    obtain ⟨-, g1⟩ := cz_n_some h3
    obtain ⟨x, r, -, g2⟩ := cz_v1_some g1
    cases (cz_if_some g2).2
  case return_ =>
    obtain ⟨-, g1⟩ := cz_n_some h3
    cases (cz_if_some g1).2
  all_goals cases h3
end CZ3
