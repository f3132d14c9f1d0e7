/-! the clean machine's instructions upon the heap are the machine's -/
def cz_hc (own : String) (meth : Method) (q : cz_I) (args : Array Value) (s : State) : Prop := match q.2.1 with
  | .getfield i => (q.2.2.2.1 = 100 → (q.2.2.2.2 = 0 → (Jvm.Cond.fieldLink own i "java/lang/String" "value" "[B").before args s = true) ∧ (¬ q.2.2.2.2 = 0 → (Jvm.Cond.fieldLink own i "java/lang/String" "coder" "B").before args s = true)) ∧
      (¬ q.2.2.2.1 = 100 → ∀ r : vw_C, vwCl[q.2.2.2.1]? = some r → q.2.2.2.2.toNat < r.2.2 ∧ (Jvm.Cond.fieldLink own i (r.2.1 q.2.2.2.2.toNat).1 (r.2.1 q.2.2.2.2.toNat).2.1 (r.2.1 q.2.2.2.2.toNat).2.2.1).before args s = true)
  | .putfield i => ∀ r : vw_C, vwCl[q.2.2.2.1]? = some r → q.2.2.2.2.toNat < r.2.2 ∧ (Jvm.Cond.fieldLink own i (r.2.1 q.2.2.2.2.toNat).1 (r.2.1 q.2.2.2.2.toNat).2.1 (r.2.1 q.2.2.2.2.toNat).2.2.1).before args s = true ∧ ((r.2.1 q.2.2.2.2.toNat).2.2.2 = true → meth.name = "<init>" ∧ (r.2.1 q.2.2.2.2.toNat).1 = own)
  | .new i => q.2.2.2.2 = 0 → ∀ r : vw_C, vwCl[q.2.2.2.1]? = some r → (Jvm.Cond.classLink own i r.1).before args s = true
  | .anewarray i => (q.2.2.2.1 = 5 → (Jvm.Cond.classLink own i RX10).before args s = true) ∧ (q.2.2.2.1 = 6 → (Jvm.Cond.classLink own i RX9).before args s = true)
  | .invokespecial i => q.2.2.2.2 = -4 → (Jvm.Cond.methodLink own i objectInit).before args s = true
  | .invokestatic i => q.2.2.2.2 = -5 → (Jvm.Cond.methodLink own i arraycopyName).before args s = true
  | .getstatic i => (q.2.2.2.1 = 0 → (Jvm.Cond.fieldLink own i "java/lang/String" "COMPACT_STRINGS" "Z").before args s = true) ∧ (q.2.2.2.1 = 1 → (Jvm.Cond.fieldLink own i "jdk/internal/util/Preconditions" "SIOOBE_FORMATTER" "Ljava/util/function/BiFunction;").before args s = true)
  | _ => True
section CZ2
variable {p : Program} {l : Launch} {e : Env} {R : Room} {s : State} {m : MethodId} {args : Array Value} {below : List Frame} {meth : Method} {c : Code} {H : Heap} {locs : List Loc} {cells slots : Nat} {Q : State → Prop}
theorem cz_sized {g : JFrame} (k : H.size ≤ s.heap.size + cells → W p l e R s m args below meth c H locs cells slots Q g) : W p l e R s m args below meth c H locs cells slots Q g := fun T hT X => k (by rw [← hT]; exact X.heapSize) T hT X
/-- the newest cell's address -/
theorem cz_new_at {E : cz_E} {cy : Nat → ClassId} {D : va_G} {hp : cz_H} {q n0 : Nat} {x : va_E} {H1 : Heap} (hP : va_P D vwCl (cz_ws E.1 cy hp ++ [(q, x)]) H1) (hD : va_D (cz_A E) (cz_ws E.1 cy hp ++ [(q, x)])) (hn : hp.length = n0 + cells) (hs0 : s.heap.size = E.1 + n0) (hz : H1.size ≤ s.heap.size + (cells + 1)) : q = E.1 + hp.length := by
  have hl : (cz_ws E.1 cy hp).length = hp.length := cz_ws_len _ _ _
  have hlast : (cz_ws E.1 cy hp ++ [(q, x)])[hp.length]? = some (q, x) := by
    rw [List.getElem?_append_right (by omega), hl, Nat.sub_self]
    rfl
  have h1 : E.1 ≤ q := hD.2 _ _ hlast
  have h2 : q < H1.size := (hP _ _ hlast).lt
  by_cases hq : q < E.1 + hp.length
  · exfalso
    have hi : q - E.1 < hp.length := by omega
    obtain ⟨cc, hcc⟩ : ∃ cc, hp[q - E.1]? = some cc := ⟨_, List.getElem?_eq_getElem hi⟩
    have h3 : (cz_ws E.1 cy hp ++ [(q, x)])[q - E.1]? = some (E.1 + (q - E.1), cz_en cy cc) := by
      rw [List.getElem?_append_left (by omega)]
      exact cz_ws_get hcc
    have h4 := hD.1 _ _ _ _ h3 hlast (by show E.1 + (q - E.1) = q; omega)
    omega
  · omega
theorem cz_all_of {n : Nat} {f : Nat → Bool} (h : (List.range n).all f = true) {i : Nat} (hi : i < n) : f i = true := List.all_eq_true.mp h i (List.mem_range.mpr hi)
set_option maxHeartbeats 4000000 in
theorem cz_sim2 {cc : ByteArray} {own : String} {E : cz_E} {cy : Nat → ClassId} {D : va_G} {nL : Nat} {q : cz_I} {st st' : List Value} {pc' n0 z0 : Nat} {hp hp' : cz_H} (hx : p.tables.exec = Jvm.exec) (hb : c.code = cc) (hml : c.maxLocals = nL) (hown : s.vm.findClass own = some m.cls) (hts : ∀ w ∈ lw_tg, w.before args s = true)
    (hG : cz_G E cy D s) (hc : cz_hc own meth q args s) (hd : decode cc q.1 = .ok (q.2.1, q.2.2.1)) {ls : Array Slot} (hls : ls.size = nL) (hR : cz_R E cy D s hp H locs)
    (hn : hp.length = n0 + cells) (hz : cz_sz hp = z0 + slots) (hs0 : s.heap.size = E.1 + n0) (hc1 : hp'.length ≤ n0 + R.cells) (hc2 : cz_sz hp' ≤ z0 + R.slots) (hfr : 8 ≤ R.frames) (hlo : 64 ≤ R.locals)
    (h : cz_s2 E q st hp = some (pc', st', hp'))
    (kk : ∀ (H1 : Heap) (locs1 : List Loc) (cells1 slots1 : Nat), cz_R E cy D s hp' H1 locs1 → hp'.length = n0 + cells1 → cz_sz hp' = z0 + slots1 → W p l e R s m args below meth c H1 locs1 cells1 slots1 Q (F0 m pc' ls st')) :
    W p l e R s m args below meth c H locs cells slots Q (F0 m q.1 ls st) := by
  obtain ⟨pc, ins, len, xa, xb⟩ := q
  change decode cc pc = .ok (ins, len) at hd
  show W p l e R s m args below meth c H locs cells slots Q (F0 m pc ls st)
  obtain ⟨hK, hStr, hX, hbB, hZ1, hZ2, hSr, hBs, hB9⟩ := id hG
  obtain ⟨hP, hD, hS⟩ := id hR
  have hA : ∀ q : Nat, s.heap.size ≤ q → cz_A E q := fun q hq => Nat.le_trans hBs hq
  have hbl : E.2.1.1 < s.heap.size := Nat.lt_of_lt_of_le hbB hBs
  have hbA : ¬ cz_A E E.2.1.1 := Nat.not_le.mpr hbB
  have same : ∀ {st2 : List Value} {pc2 : Nat}, hp' = hp → pc' = pc2 → st' = st2 → W p l e R s m args below meth c H locs cells slots Q (F0 m pc2 ls st2) := by
    intro st2 pc2 e1 e2 e3
    subst e1 e2 e3
    exact kk H locs cells slots hR hn hz
  have stored : ∀ {a : Nat} {c0 c1 : cz_C} {st2 : List Value} {pc2 : Nat}, cz_at E hp a = some c0 → cz_cz c1 = cz_cz c0 → hp' = hp.set (a - E.1) c1 → pc' = pc2 → st' = st2 → ∀ (H1 : Heap) (locs1 : List Loc), va_P D vwCl ((cz_ws E.1 cy hp).set (a - E.1) (a, cz_en cy c1)) H1 → va_D (cz_A E) ((cz_ws E.1 cy hp).set (a - E.1) (a, cz_en cy c1)) → va_S (cz_A E) s.heap H1 locs1 → W p l e R s m args below meth c H1 locs1 cells slots Q (F0 m pc2 ls st2) := by
    intro a c0 c1 st2 pc2 e0 ez e1 e2 e3 H1 locs1 f1 f2 f3
    subst e1 e2 e3
    obtain ⟨g1, g2⟩ := cz_at_some e0
    rw [cz_ws_sett g1] at f1 f2
    exact kk H1 locs1 cells slots ⟨f1, f2, f3⟩ (by rw [List.length_set]; exact hn) (by rw [cz_sz_set g2 ez]; exact hz)
  have made : ∀ {c1 : cz_C} {st2 : List Value} {pc2 : Nat}, hp' = hp ++ [c1] → pc' = pc2 → st' = .ref (E.1 + hp.length) :: st2 → ∀ (q : Nat) (H1 : Heap), va_P D vwCl (cz_ws E.1 cy hp ++ [(q, cz_en cy c1)]) H1 → va_D (cz_A E) (cz_ws E.1 cy hp ++ [(q, cz_en cy c1)]) → va_S (cz_A E) s.heap H1 locs → W p l e R s m args below meth c H1 locs (cells + 1) (slots + cz_cz c1) Q (F0 m pc2 ls (.ref q :: st2)) := by
    intro c1 st2 pc2 e1 e2 e3 q H1 f1 f2 f3
    refine cz_sized fun hsz => ?_
    have hq := cz_new_at f1 f2 hn hs0 hsz
    subst hq e1 e2 e3
    rw [← cz_ws_push] at f1 f2
    exact kk H1 locs (cells + 1) (slots + cz_cz c1) ⟨f1, f2, f3⟩ (by rw [List.length_append, hn]; rfl) (by rw [cz_sz_push, hz]; omega)
  have mroom : ∀ {c1 : cz_C}, hp' = hp ++ [c1] → cells + 1 ≤ R.cells ∧ slots + cz_cz c1 ≤ R.slots := by
    intro c1 e1
    subst e1
    rw [List.length_append, hn] at hc1
    rw [cz_sz_push, hz] at hc2
    simp only [List.length_singleton] at hc1
    exact ⟨by omega, by omega⟩
  cases ins
  case getfield i =>
    obtain ⟨e0, h1⟩ := cz_n_some h
    have e0 : len = 3 := e0
    subst e0
    obtain ⟨a, r, rfl, h2⟩ := cz_r1_some h1
    by_cases h100 : xa = 100
    · rw [if_pos h100] at h2
      obtain ⟨k, hk, h3⟩ := cz_so_some h2
      obtain ⟨hk1, hk2⟩ := cz_fd_some hk
      subst hk2
      have hc := hc.1 h100
      by_cases hb0 : xb = 0
      · rw [if_pos hb0] at h3
        cases h3
        exact vk_getf hx hb (hStr.1 k hk1).2.2.1 hS hown (hc.1 hb0) (fun _ z => z) hd (same rfl rfl rfl)
      · rw [if_neg hb0] at h3
        cases h3
        exact vk_getf hx hb (hStr.1 k hk1).2.1 hS hown (hc.2 hb0) (fun _ z => z) hd (same rfl rfl rfl)
    · rw [if_neg h100] at h2
      obtain ⟨ci, fs, hat, h3⟩ := cz_ob_some h2
      obtain ⟨hci, h4⟩ := cz_if_some h3
      have hci : ci = xa := by simpa using hci
      subst hci
      obtain ⟨v, hv, h5⟩ := cz_so_some h4
      cases h5
      have hw := cz_ws_at (cy := cy) hat
      obtain ⟨r0, hr0, -⟩ := hP _ _ hw
      obtain ⟨g1, g2⟩ := hc.2 h100 r0 hr0
      exact va_get hx hb hts (cz_okc_all ci r0 hr0).1 hown hK hP _ hw hr0 xb.toNat g1 g2 (fun _ z => z) hv hd (same rfl rfl rfl)
  case putfield i =>
    obtain ⟨e0, h1⟩ := cz_n_some h
    have e0 : len = 3 := e0
    subst e0
    obtain ⟨v, a, r, rfl, h2⟩ := cz_vo_some h1
    obtain ⟨ci, fs, hat, h3⟩ := cz_ob_some h2
    obtain ⟨hck, h4⟩ := cz_if_some h3
    simp only [Bool.and_eq_true, beq_iff_eq, decide_eq_true_eq] at hck
    obtain ⟨⟨⟨hci, hlen⟩, hnar⟩, hfit⟩ := hck
    subst hci
    have hw := cz_ws_at (cy := cy) hat
    obtain ⟨r0, hr0, -⟩ := hP _ _ hw
    obtain ⟨g1, g2, g3⟩ := hc r0 hr0
    obtain ⟨o1, o2, o3, -⟩ := cz_okc_all ci r0 hr0
    have hst := stored (c1 := .inr (ci, fs.set xb.toNat v)) (st2 := r) (pc2 := pc + 3) hat (by simp [cz_cz]) (by cases h4; rfl) (by cases h4; rfl) (by cases h4; rfl)
    by_cases hfin : (r0.2.1 xb.toNat).2.2.2 = true
    · obtain ⟨g4, g5⟩ := g3 hfin
      exact va_putF hx hb hts o1 (cz_fty ci) o2 o3 hown hK hP hD hS _ hw hr0 xb.toNat g1 g2 (fun _ z => z) hfin g4 g5 (o2 _ g1) hnar hfit hlen hd hst
    · exact va_put hx hb hts o1 (cz_fty ci) o2 o3 hown hK hP hD hS _ hw hr0 xb.toNat g1 g2 (fun _ z => z) (by simpa using hfin) (o2 _ g1) hnar hfit hlen hd hst
  case iaload =>
    obtain ⟨e0, h1⟩ := cz_n_some h
    have e0 : len = 1 := e0
    subst e0
    obtain ⟨i, a, r, rfl, h2⟩ := cz_ir_some h1
    by_cases hab : a = E.2.1.1 ∧ a < E.1
    · rw [if_pos hab] at h2
      obtain ⟨hin, h3⟩ := cz_if_some h2
      cases h3
      obtain ⟨hab, -⟩ := hab
      subst hab
      exact va_sld hx hb hX hbl hbA hS (cz_in_of hin) hd (same rfl rfl rfl)
    · rw [if_neg hab] at h2
      obtain ⟨tc, n, f, hat, h3⟩ := cz_ai_some h2
      obtain ⟨hck, h4⟩ := cz_if_some h3
      simp only [Bool.and_eq_true, beq_iff_eq] at hck
      obtain ⟨rfl, hin⟩ := hck
      cases h4
      exact va_iald hx hb hK hP _ 0 (cz_ws_at (cy := cy) hat) (cz_tys_get (by decide)) (cz_in_of hin) hd (same rfl rfl rfl)
  case baload =>
    obtain ⟨e0, h1⟩ := cz_n_some h
    have e0 : len = 1 := e0
    subst e0
    obtain ⟨i, a, r, rfl, h2⟩ := cz_ir_some h1
    split at h2
    · next k hk =>
      obtain ⟨hk1, hk2⟩ := cz_fd_some hk
      subst hk2
      obtain ⟨hin, h3⟩ := cz_if_some h2
      cases h3
      exact va_tb hx hb (hStr.1 k hk1).2.2.2 hS (cz_in_of hin) rfl hd (same rfl rfl rfl)
    · obtain ⟨tc, n, f, hat, h3⟩ := cz_ai_some h2
      obtain ⟨hck, h4⟩ := cz_if_some h3
      simp only [Bool.and_eq_true, Bool.or_eq_true, beq_iff_eq] at hck
      obtain ⟨htc, hin⟩ := hck
      cases h4
      rcases htc with rfl | rfl
      · exact va_bald hx hb hK hP _ 1 (cz_ws_at (cy := cy) hat) (cz_tys_get (by decide)) (cz_in_of hin) hd (same rfl rfl rfl)
      · exact va_zald hx hb hK hP _ 4 (cz_ws_at (cy := cy) hat) (cz_tys_get (by decide)) (cz_in_of hin) hd (same rfl rfl rfl)
  case caload =>
    obtain ⟨e0, h1⟩ := cz_n_some h
    have e0 : len = 1 := e0
    subst e0
    obtain ⟨i, a, r, rfl, h2⟩ := cz_ir_some h1
    obtain ⟨tc, n, f, hat, h3⟩ := cz_ai_some h2
    obtain ⟨hck, h4⟩ := cz_if_some h3
    simp only [Bool.and_eq_true, beq_iff_eq] at hck
    obtain ⟨rfl, hin⟩ := hck
    cases h4
    exact va_cald hx hb hK hP _ 3 (cz_ws_at (cy := cy) hat) (cz_tys_get (by decide)) (cz_in_of hin) hd (same rfl rfl rfl)
  case laload =>
    obtain ⟨e0, h1⟩ := cz_n_some h
    have e0 : len = 1 := e0
    subst e0
    obtain ⟨i, a, r, rfl, h2⟩ := cz_ir_some h1
    obtain ⟨tc, n, f, hat, h3⟩ := cz_al_some h2
    obtain ⟨hck, h4⟩ := cz_if_some h3
    simp only [Bool.and_eq_true, beq_iff_eq] at hck
    obtain ⟨rfl, hin⟩ := hck
    cases h4
    exact va_lald hx hb hK hP _ 2 (cz_ws_at (cy := cy) hat) (cz_tys_get (by decide)) (cz_in_of hin) hd (same rfl rfl rfl)
  case aaload =>
    obtain ⟨e0, h1⟩ := cz_n_some h
    have e0 : len = 1 := e0
    subst e0
    obtain ⟨i, a, r, rfl, h2⟩ := cz_ir_some h1
    obtain ⟨tc, n, f, hat, h3⟩ := cz_aq_some h2
    obtain ⟨hck, h4⟩ := cz_if_some h3
    simp only [Bool.and_eq_true, Bool.or_eq_true, beq_iff_eq] at hck
    obtain ⟨htc, hin⟩ := hck
    cases h4
    rcases htc with rfl | rfl
    · exact va_aldq hx hb hK hP _ 5 (cz_ws_at (cy := cy) hat) (cz_tys_get (by decide)) (cz_in_of hin) hd (same rfl rfl rfl)
    · exact va_aldq hx hb hK hP _ 6 (cz_ws_at (cy := cy) hat) (cz_tys_get (by decide)) (cz_in_of hin) hd (same rfl rfl rfl)
  case iastore =>
    obtain ⟨e0, h1⟩ := cz_n_some h
    have e0 : len = 1 := e0
    subst e0
    obtain ⟨v, i, a, r, rfl, h2⟩ := cz_vr_some h1
    obtain ⟨x, hv, h3⟩ := cz_ki_some h2
    cases hv
    obtain ⟨tc, n, f, hat, h4⟩ := cz_ai_some h3
    obtain ⟨hck, h5⟩ := cz_if_some h4
    simp only [Bool.and_eq_true, beq_iff_eq] at hck
    obtain ⟨rfl, hin⟩ := hck
    exact va_iast hx hb hK hP hD hS _ 0 (cz_ws_at (cy := cy) hat) (cz_tys_get (by decide)) (cz_in_of hin) hd (stored (c1 := .inl (0, n, .inl (upd f i.toNatClampNeg x))) hat rfl (by cases h5; rfl) (by cases h5; rfl) (by cases h5; rfl))
  case bastore =>
    obtain ⟨e0, h1⟩ := cz_n_some h
    have e0 : len = 1 := e0
    subst e0
    obtain ⟨v, i, a, r, rfl, h2⟩ := cz_vr_some h1
    obtain ⟨x, hv, h3⟩ := cz_ki_some h2
    cases hv
    obtain ⟨tc, n, f, hat, h4⟩ := cz_ai_some h3
    obtain ⟨hck, h5⟩ := cz_if_some h4
    simp only [Bool.and_eq_true, Bool.or_eq_true, beq_iff_eq] at hck
    obtain ⟨htc, hin⟩ := hck
    rcases htc with rfl | rfl
    · exact va_bast hx hb hK hP hD hS _ 1 (cz_ws_at (cy := cy) hat) (cz_tys_get (by decide)) (cz_in_of hin) hd (stored (c1 := .inl (1, n, .inl (upd f i.toNatClampNeg (vp_nar .byte x)))) hat rfl (by cases h5; rfl) (by cases h5; rfl) (by cases h5; rfl))
    · exact va_zast hx hb hK hP hD hS _ 4 (cz_ws_at (cy := cy) hat) (cz_tys_get (by decide)) (cz_in_of hin) hd (stored (c1 := .inl (4, n, .inl (upd f i.toNatClampNeg (vp_nar .boolean x)))) hat rfl (by cases h5; rfl) (by cases h5; rfl) (by cases h5; rfl))
  case castore =>
    obtain ⟨e0, h1⟩ := cz_n_some h
    have e0 : len = 1 := e0
    subst e0
    obtain ⟨v, i, a, r, rfl, h2⟩ := cz_vr_some h1
    obtain ⟨x, hv, h3⟩ := cz_ki_some h2
    cases hv
    obtain ⟨tc, n, f, hat, h4⟩ := cz_ai_some h3
    obtain ⟨hck, h5⟩ := cz_if_some h4
    simp only [Bool.and_eq_true, beq_iff_eq] at hck
    obtain ⟨rfl, hin⟩ := hck
    exact va_cast hx hb hK hP hD hS _ 3 (cz_ws_at (cy := cy) hat) (cz_tys_get (by decide)) (cz_in_of hin) hd (stored (c1 := .inl (3, n, .inl (upd f i.toNatClampNeg (vp_nar .char x)))) hat rfl (by cases h5; rfl) (by cases h5; rfl) (by cases h5; rfl))
  case lastore =>
    obtain ⟨e0, h1⟩ := cz_n_some h
    have e0 : len = 1 := e0
    subst e0
    obtain ⟨v, i, a, r, rfl, h2⟩ := cz_vr_some h1
    obtain ⟨x, hv, h3⟩ := cz_kl_some h2
    cases hv
    obtain ⟨tc, n, f, hat, h4⟩ := cz_al_some h3
    obtain ⟨hck, h5⟩ := cz_if_some h4
    simp only [Bool.and_eq_true, beq_iff_eq] at hck
    obtain ⟨rfl, hin⟩ := hck
    exact va_last hx hb hK hP hD hS _ 2 (cz_ws_at (cy := cy) hat) (cz_tys_get (by decide)) (cz_in_of hin) hd (stored (c1 := .inl (2, n, .inr (.inl (vp_updL f i.toNatClampNeg x)))) hat rfl (by cases h5; rfl) (by cases h5; rfl) (by cases h5; rfl))
  case aastore =>
    obtain ⟨e0, h1⟩ := cz_n_some h
    have e0 : len = 1 := e0
    subst e0
    obtain ⟨v, i, a, r, rfl, h2⟩ := cz_vr_some h1
    obtain ⟨tc, n, f, hat, h3⟩ := cz_aq_some h2
    obtain ⟨hck, h4⟩ := cz_if_some h3
    simp only [Bool.and_eq_true, Bool.or_eq_true, beq_iff_eq] at hck
    obtain ⟨htc, hin⟩ := hck
    split at h4
    · rcases htc with rfl | rfl
      · exact va_astqN hx hb hK hP hD hS _ 5 (cz_ws_at (cy := cy) hat) (cz_tys_get (by decide)) (cz_in_of hin) hd (stored (c1 := .inl (5, n, .inr (.inr (.inr (.inr (va_up f i.toNatClampNeg none)))))) hat rfl (by cases h4; rfl) (by cases h4; rfl) (by cases h4; rfl))
      · exact va_astqN hx hb hK hP hD hS _ 6 (cz_ws_at (cy := cy) hat) (cz_tys_get (by decide)) (cz_in_of hin) hd (stored (c1 := .inl (6, n, .inr (.inr (.inr (.inr (va_up f i.toNatClampNeg none)))))) hat rfl (by cases h4; rfl) (by cases h4; rfl) (by cases h4; rfl))
    · next o =>
      obtain ⟨ci, fs, hao, h5⟩ := cz_ob_some h4
      obtain ⟨hck, h6⟩ := cz_if_some h5
      simp only [Bool.and_eq_true, Bool.or_eq_true, beq_iff_eq] at hck
      rcases hck with ⟨rfl, rfl⟩ | ⟨rfl, rfl⟩
      · exact va_astq (r := (RX10, TX10, 7)) hx hb hK hP hD hS _ 5 _ 10 (cz_ws_at (cy := cy) hat) (cz_tys_get (by decide)) (cz_ws_at (cy := cy) hao) rfl (cz_in_of hin) hd (stored (c1 := .inl (5, n, .inr (.inr (.inr (.inr (va_up f i.toNatClampNeg (some o))))))) hat rfl (by cases h6; rfl) (by cases h6; rfl) (by cases h6; rfl))
      · exact va_astq (r := (RX9, TX9, 14)) hx hb hK hP hD hS _ 6 _ 9 (cz_ws_at (cy := cy) hat) (cz_tys_get (by decide)) (cz_ws_at (cy := cy) hao) rfl (cz_in_of hin) hd (stored (c1 := .inl (6, n, .inr (.inr (.inr (.inr (va_up f i.toNatClampNeg (some o))))))) hat rfl (by cases h6; rfl) (by cases h6; rfl) (by cases h6; rfl))
    · cases h4
  case arraylength =>
    obtain ⟨e0, h1⟩ := cz_n_some h
    have e0 : len = 1 := e0
    subst e0
    obtain ⟨a, r, rfl, h2⟩ := cz_r1_some h1
    by_cases hab : a = E.2.1.1 ∧ a < E.1
    · rw [if_pos hab] at h2
      cases h2
      obtain ⟨hab, -⟩ := hab
      subst hab
      exact va_slen hx hb hX hbl hbA hS hd (same rfl rfl rfl)
    · rw [if_neg hab] at h2
      split at h2
      · next k hk =>
        obtain ⟨hk1, hk2⟩ := cz_fd_some hk
        subst hk2
        cases h2
        exact va_tlen hx hb (hStr.1 k hk1).2.2.2 hS rfl hd (same rfl rfl rfl)
      · obtain ⟨tc, x, hat, h3⟩ := cz_an_some h2
        obtain ⟨hck, h4⟩ := cz_if_some h3
        cases h4
        exact va_alen hx hb hK hP _ tc (cz_ws_at (cy := cy) hat) (cz_tys_get (of_decide_eq_true hck)) rfl hd (same rfl rfl rfl)
  case new i =>
    obtain ⟨e0, h1⟩ := cz_n_some h
    have e0 : len = 3 := e0
    subst e0
    obtain ⟨hck, h2⟩ := cz_if_some h1
    simp only [Bool.and_eq_true, beq_iff_eq, decide_eq_true_eq] at hck
    obtain ⟨hb0, hxa⟩ := hck
    obtain ⟨r0, hr0⟩ : ∃ r, vwCl[xa]? = some r := ⟨_, List.getElem?_eq_getElem hxa⟩
    obtain ⟨o1, o2, o3, o4, o5, o6⟩ := cz_okc_all xa r0 hr0
    have o4' : cz_nf[xa]?.getD 0 = r0.2.2 := by rw [← o4, List.getD_eq_getElem?_getD]
    have hlen : (cz_df xa).length = r0.2.2 := by simp [cz_df, o4']
    have hm := made (c1 := .inr (xa, cz_df xa)) (st2 := st) (pc2 := pc + 3) (by cases h2; rfl) (by cases h2; rfl) (by cases h2; rfl)
    obtain ⟨hr1, hr2⟩ := mroom (c1 := .inr (xa, cz_df xa)) (by cases h2; rfl)
    have hcz : cz_cz (.inr (xa, cz_df xa)) = r0.2.2 := hlen
    rw [hcz] at hm hr2
    exact va_new hx hb hts o1 (cz_fty xa) o2 hown (hc hb0 r0 hr0) (hts _ o5) (hts _ o6) hK hP hD hS hA hr0 (fun j hj => by simp [vp_V, cz_df, o4', hj]) hr1 hr2 hd hm
  case newarray ty =>
    obtain ⟨e0, h1⟩ := cz_n_some h
    have e0 : len = 2 := e0
    subst e0
    obtain ⟨n, r, rfl, h2⟩ := cz_i1_some h1
    obtain ⟨hck, h3⟩ := cz_if_some h2
    obtain ⟨c1, hna, h4⟩ := cz_so_some h3
    simp only [cz_ck, Bool.and_eq_true, decide_eq_true_eq] at hck
    obtain ⟨⟨hn0, hn1⟩, -⟩ := hck
    have hm := made (c1 := c1) (st2 := r) (pc2 := pc + 2) (by cases h4; rfl) (by cases h4; rfl) (by cases h4; rfl)
    obtain ⟨hr1, hr2⟩ := mroom (c1 := c1) (by cases h4; rfl)
    cases ty <;> first | (cases hna; done) | skip
    case int =>
      cases hna
      refine va_newa hx hb (hts _ (lw_tg_in (by decide +kernel) rfl)) (ty := .int) rfl hK hP hD hS hA (a0 := (n.toNatClampNeg, .inl fun _ => 0)) (fun cA => rfl) hn0 rfl (by simp only [componentBytes]; omega) hr1 hr2 hd fun q cA H1 k1 k2 k3 k4 => ?_
      have e1 : cy 0 = cA := Option.some.inj ((k1.2 0 (cy 0, .int) (by simp [cz_tys, List.range, List.range.loop, cz_ty])).2.symm.trans (k1.2 7 (cA, .int) (by simp [cz_tys, List.range, List.range.loop, cz_ty])).2)
      rw [← e1] at k2 k3
      exact hm q H1 k2 k3 k4
    case byte =>
      cases hna
      refine va_newa hx hb (hts _ (lw_tg_in (by decide +kernel) rfl)) (ty := .byte) rfl hK hP hD hS hA (a0 := (n.toNatClampNeg, .inl fun _ => 0)) (fun cA => rfl) hn0 rfl (by simp only [componentBytes]; omega) hr1 hr2 hd fun q cA H1 k1 k2 k3 k4 => ?_
      have e1 : cy 1 = cA := Option.some.inj ((k1.2 1 (cy 1, .byte) (by simp [cz_tys, List.range, List.range.loop, cz_ty])).2.symm.trans (k1.2 7 (cA, .byte) (by simp [cz_tys, List.range, List.range.loop, cz_ty])).2)
      rw [← e1] at k2 k3
      exact hm q H1 k2 k3 k4
    case long =>
      cases hna
      refine va_newa hx hb (hts _ (lw_tg_in (by decide +kernel) rfl)) (ty := .long) rfl hK hP hD hS hA (a0 := (n.toNatClampNeg, .inr (.inl fun _ => 0))) (fun cA => rfl) hn0 rfl (by simp only [componentBytes]; omega) hr1 hr2 hd fun q cA H1 k1 k2 k3 k4 => ?_
      have e1 : cy 2 = cA := Option.some.inj ((k1.2 2 (cy 2, .long) (by simp [cz_tys, List.range, List.range.loop, cz_ty])).2.symm.trans (k1.2 7 (cA, .long) (by simp [cz_tys, List.range, List.range.loop, cz_ty])).2)
      rw [← e1] at k2 k3
      exact hm q H1 k2 k3 k4
    case char =>
      cases hna
      refine va_newa hx hb (hts _ (lw_tg_in (by decide +kernel) rfl)) (ty := .char) rfl hK hP hD hS hA (a0 := (n.toNatClampNeg, .inl fun _ => 0)) (fun cA => rfl) hn0 rfl (by simp only [componentBytes]; omega) hr1 hr2 hd fun q cA H1 k1 k2 k3 k4 => ?_
      have e1 : cy 3 = cA := Option.some.inj ((k1.2 3 (cy 3, .char) (by simp [cz_tys, List.range, List.range.loop, cz_ty])).2.symm.trans (k1.2 7 (cA, .char) (by simp [cz_tys, List.range, List.range.loop, cz_ty])).2)
      rw [← e1] at k2 k3
      exact hm q H1 k2 k3 k4
    case boolean =>
      cases hna
      refine va_newa hx hb (hts _ (lw_tg_in (by decide +kernel) rfl)) (ty := .boolean) rfl hK hP hD hS hA (a0 := (n.toNatClampNeg, .inl fun _ => 0)) (fun cA => rfl) hn0 rfl (by simp only [componentBytes]; omega) hr1 hr2 hd fun q cA H1 k1 k2 k3 k4 => ?_
      have e1 : cy 4 = cA := Option.some.inj ((k1.2 4 (cy 4, .boolean) (by simp [cz_tys, List.range, List.range.loop, cz_ty])).2.symm.trans (k1.2 7 (cA, .boolean) (by simp [cz_tys, List.range, List.range.loop, cz_ty])).2)
      rw [← e1] at k2 k3
      exact hm q H1 k2 k3 k4
  case anewarray i =>
    obtain ⟨e0, h1⟩ := cz_n_some h
    have e0 : len = 3 := e0
    subst e0
    obtain ⟨n, r, rfl, h2⟩ := cz_i1_some h1
    obtain ⟨hck, h3⟩ := cz_if_some h2
    simp only [cz_ck, Bool.and_eq_true, Bool.or_eq_true, beq_iff_eq, decide_eq_true_eq] at hck
    obtain ⟨⟨hn0, hn1⟩, hxa⟩ := hck
    have hm := made (c1 := .inl (xa, n.toNatClampNeg, .inr (.inr (.inr (.inr fun _ => none))))) (st2 := r) (pc2 := pc + 3) (by cases h3; rfl) (by cases h3; rfl) (by cases h3; rfl)
    obtain ⟨hr1, hr2⟩ := mroom (c1 := .inl (xa, n.toNatClampNeg, .inr (.inr (.inr (.inr fun _ => none))))) (by cases h3; rfl)
    rcases hxa with rfl | rfl
    · refine va_newq hx hb hown (hc.1 rfl) (hB9 (.arrayOver (.object RX10)) (by decide +kernel) rfl) hK hP hD hS hA hn0 rfl (by omega) hr1 hr2 hd fun q cA H1 k1 k2 k3 k4 => ?_
      obtain ⟨_, _, _, _, _, y1⟩ := (k1.2 5 (cy 5, .object RX10) (by simp [cz_tys, List.range, List.range.loop, cz_ty])).2
      obtain ⟨_, _, _, _, _, y2⟩ := (k1.2 7 (cA, .object RX10) (by simp [cz_tys, List.range, List.range.loop, cz_ty])).2
      have e1 : cy 5 = cA := Option.some.inj (y1.symm.trans y2)
      rw [← e1] at k2 k3
      exact hm q H1 k2 k3 k4
    · refine va_newq hx hb hown (hc.2 rfl) (hB9 (.arrayOver (.object RX9)) (by decide +kernel) rfl) hK hP hD hS hA hn0 rfl (by omega) hr1 hr2 hd fun q cA H1 k1 k2 k3 k4 => ?_
      obtain ⟨_, _, _, _, _, y1⟩ := (k1.2 6 (cy 6, .object RX9) (by simp [cz_tys, List.range, List.range.loop, cz_ty])).2
      obtain ⟨_, _, _, _, _, y2⟩ := (k1.2 7 (cA, .object RX9) (by simp [cz_tys, List.range, List.range.loop, cz_ty])).2
      have e1 : cy 6 = cA := Option.some.inj (y1.symm.trans y2)
      rw [← e1] at k2 k3
      exact hm q H1 k2 k3 k4
  case invokespecial i =>
    obtain ⟨e0, h1⟩ := cz_n_some h
    have e0 : len = 3 := e0
    subst e0
    obtain ⟨hb4, h2⟩ := cz_if_some h1
    have hb4 : xb = -4 := by simpa using hb4
    obtain ⟨a, r, rfl, h3⟩ := cz_r1_some h2
    obtain ⟨hsum, h4⟩ := cz_if_some h3
    have hsum : (r.map fun v => v.category).sum ≤ 8 := of_decide_eq_true hsum
    cases h4
    exact W.objInit hx hb hown (hc hb4) (hts _ (lw_tg_in (by decide +kernel) rfl)) (hts _ (lw_tg_in (by decide +kernel) rfl)) rfl (hls.trans hml.symm) rfl hd (by omega) (by show 2 * 0 + _ + 12 ≤ _; omega) (same rfl rfl rfl)
  case invokestatic i =>
    obtain ⟨e0, h1⟩ := cz_n_some h
    have e0 : len = 3 := e0
    subst e0
    obtain ⟨hb5, h2⟩ := cz_if_some h1
    have hb5 : xb = -5 := by simpa using hb5
    obtain ⟨n, dp, a, sp, a0, r, rfl, h3⟩ := cz_ac_some h2
    obtain ⟨hck, h4⟩ := cz_if_some h3
    simp only [Bool.and_eq_true, decide_eq_true_eq] at hck
    obtain ⟨⟨⟨g1, g2⟩, g3⟩, g4⟩ := hck
    have g4 : (r.map fun v => v.category).sum ≤ 8 := g4
    have hnf : nativeFrameWords "java/lang/System" "arraycopy" 5 = 7 := by decide +kernel
    split at h4
    · next t0 m0 f hat0 =>
      obtain ⟨t1, m1, g, hat1, h5⟩ := cz_ai_some h4
      obtain ⟨hck, h6⟩ := cz_if_some h5
      simp only [Bool.and_eq_true, Bool.or_eq_true, beq_iff_eq, decide_eq_true_eq] at hck
      obtain ⟨⟨⟨⟨rfl, htc⟩, q1⟩, q2⟩, q3⟩ := hck
      have hst := stored (c1 := .inl (t0, m1, .inl (va_cpy f g sp.toNatClampNeg dp.toNatClampNeg n.toNatClampNeg))) (st2 := r) (pc2 := pc + 3) hat1 rfl (by cases h6; rfl) (by cases h6; rfl) (by cases h6; rfl)
      have htc : t0 < 7 ∧ refKind (cz_ty t0) = false := by
        rcases htc with ((rfl | rfl) | rfl) | rfl <;> exact ⟨by decide, rfl⟩
      exact va_copyi hx hb (hml.trans hls.symm) hown (hc hb5) (hts _ (lw_tg_in (by decide +kernel) rfl)) (hts _ (lw_tg_in (by decide +kernel) rfl)) (hts _ (lw_tg_in (by decide +kernel) rfl)) hK hP hD hS _ _ t0 t0 (cz_ws_at (cy := cy) hat0) (cz_ws_at (cy := cy) hat1) (cz_tys_get htc.1) (cz_tys_get htc.1) htc.2 g1 g2 g3 q1 q2 (fun i hi => cz_all_of q3 hi) (by omega) (by omega) hd hst
    · next t0 m0 f hat0 =>
      obtain ⟨t1, m1, g, hat1, h5⟩ := cz_al_some h4
      obtain ⟨hck, h6⟩ := cz_if_some h5
      simp only [Bool.and_eq_true, beq_iff_eq, decide_eq_true_eq] at hck
      obtain ⟨⟨⟨rfl, rfl⟩, q1⟩, q2⟩ := hck
      have hst := stored (c1 := .inl (2, m1, .inr (.inl (va_cpy f g sp.toNatClampNeg dp.toNatClampNeg n.toNatClampNeg)))) (st2 := r) (pc2 := pc + 3) hat1 rfl (by cases h6; rfl) (by cases h6; rfl) (by cases h6; rfl)
      exact va_copyl hx hb (hml.trans hls.symm) hown (hc hb5) (hts _ (lw_tg_in (by decide +kernel) rfl)) (hts _ (lw_tg_in (by decide +kernel) rfl)) (hts _ (lw_tg_in (by decide +kernel) rfl)) hK hP hD hS _ _ 2 2 (cz_ws_at (cy := cy) hat0) (cz_ws_at (cy := cy) hat1) (cz_tys_get (by decide)) (cz_tys_get (by decide)) rfl g1 g2 g3 q1 q2 (fun i hi => rfl) (by omega) (by omega) hd hst
    · cases h4
  case getstatic i =>
    obtain ⟨e0, h1⟩ := cz_n_some h
    have e0 : len = 3 := e0
    subst e0
    by_cases h0 : xa = 0
    · rw [if_pos h0] at h1
      cases h1
      exact va_gets hx hb hZ1 hS hown (hc.1 h0) (fun _ z => z) hd (same rfl rfl rfl)
    · rw [if_neg h0] at h1
      obtain ⟨h2, h3⟩ := cz_if_some h1
      cases h3
      exact va_gets hx hb hZ2 hS hown (hc.2 (by simpa using h2)) (fun _ z => z) hd (same rfl rfl rfl)
  all_goals (have h2 : (none : Option (Nat × List Value × cz_H)) = some (pc', st', hp') := h; cases h2)
end CZ2
