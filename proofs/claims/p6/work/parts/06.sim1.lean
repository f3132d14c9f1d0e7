/-! the clean machine's instructions that leave the heap alone are the machine's -/
def cz_lc (E : cz_E) (own : String) (q : cz_I) (args : Array Value) (s : State) : Prop := match q.2.1 with
  | .ldc i => (q.2.2.2.1 = 0 → (Jvm.Cond.constant own i (Int32.ofInt q.2.2.2.2)).before args s = true) ∧ (q.2.2.2.1 = 1 → ∃ tx : String, vk_R own i tx (E.2.2.1 q.2.2.2.2.toNat) s)
  | .ldc_w i => q.2.2.2.1 = 0 → (Jvm.Cond.constant own i (Int32.ofInt q.2.2.2.2)).before args s = true
  | .ldc2_w i => (Jvm.Cond.constantLong own i (Int64.ofInt q.2.2.2.2)).before args s = true
  | _ => True
section CZ1
variable {p : Program} {l : Launch} {e : Env} {R : Room} {s : State} {m : MethodId} {args : Array Value} {below : List Frame} {meth : Method} {c : Code} {H : Heap} {locs : List Loc} {cells slots : Nat} {Q : State → Prop}
theorem cz_has_st1 {ls : Array Slot} {nL : Nat} {lv : cz_LV} {i : Nat} {v : Value} (h : lv_has ls nL lv) (hk : cz_lk lv i = some v) : ls[i]? = some (.val v) := h.2.2 (i, v) (cz_lk_mem hk)
set_option maxHeartbeats 4000000 in
theorem cz_sim1 {cc : ByteArray} {own : String} {E : cz_E} {nL : Nat} {q : cz_I} {lv lv' : cz_LV} {st st' : List Value} {pc' : Nat} (hx : p.tables.exec = Jvm.exec) (hb : c.code = cc) (hown : s.vm.findClass own = some m.cls) (hc : cz_lc E own q args s)
    (hd : decode cc q.1 = .ok (q.2.1, q.2.2.1)) {ls : Array Slot} (hl : lv_has ls nL lv) (h : cz_s1 E nL q lv st = some (pc', lv', st'))
    (kk : ∀ ls' : Array Slot, lv_has ls' nL lv' → W p l e R s m args below meth c H locs cells slots Q (F0 m pc' ls' st')) : W p l e R s m args below meth c H locs cells slots Q (F0 m q.1 ls st) := by
  obtain ⟨pc, ins, len, xa, xb⟩ := q
  change decode cc pc = .ok (ins, len) at hd
  show W p l e R s m args below meth c H locs cells slots Q (F0 m pc ls st)
  cases ins
  case iconst n =>
    obtain ⟨e0, h_1⟩ := cz_n_some h
    have e0 : len = 1 := e0
    subst e0
    cases h_1
    exact lv_iconst hx hb hd rfl (kk ls hl)
  case bipush n =>
    obtain ⟨e0, h_1⟩ := cz_n_some h
    have e0 : len = 2 := e0
    subst e0
    cases h_1
    exact lv_bipush hx hb hd rfl (kk ls hl)
  case sipush n =>
    obtain ⟨e0, h_1⟩ := cz_n_some h
    have e0 : len = 3 := e0
    subst e0
    cases h_1
    exact lv_sipush hx hb hd rfl (kk ls hl)
  case lconst n =>
    obtain ⟨e0, h_1⟩ := cz_n_some h
    have e0 : len = 1 := e0
    subst e0
    cases h_1
    exact lv_lconst hx hb hd rfl (kk ls hl)
  case aconst_null =>
    obtain ⟨e0, h_1⟩ := cz_n_some h
    have e0 : len = 1 := e0
    subst e0
    cases h_1
    exact lv_null hx hb hd (kk ls hl)
  case ldc i =>
    obtain ⟨e0, h_1⟩ := cz_n_some h
    have e0 : len = 2 := e0
    subst e0
    have h_2 : (if xa = 0 then some (pc + 2, lv, Value.int (Int32.ofInt xb) :: st) else cz_if (xa == 1) (some (pc + 2, lv, Value.ref (E.2.2.1 xb.toNat) :: st))) = some (pc', lv', st') := h_1
    by_cases h0 : xa = 0
    · rw [if_pos h0] at h_2
      cases h_2
      exact lv_ldc hx hb hown (hc.1 h0) hd (kk ls hl)
    · rw [if_neg h0] at h_2
      obtain ⟨h1, h_3⟩ := cz_if_some h_2
      obtain ⟨tx, hr⟩ := hc.2 (by simpa using h1)
      cases h_3
      exact va_ldcS hx hb hown hr hd (kk ls hl)
  case ldc_w i =>
    obtain ⟨e0, h_1⟩ := cz_n_some h
    have e0 : len = 3 := e0
    subst e0
    obtain ⟨h1, h_2⟩ := cz_if_some h_1
    have h1 : xa = 0 := by simpa using h1
    cases h_2
    exact lv_ldcw hx hb hown (hc h1) hd (kk ls hl)
  case ldc2_w i =>
    obtain ⟨e0, h_1⟩ := cz_n_some h
    have e0 : len = 3 := e0
    subst e0
    cases h_1
    exact lv_ldc2 hx hb hown hc hd (kk ls hl)
  case iload_n k =>
    obtain ⟨e0, h_1⟩ := cz_n_some h
    have e0 : len = 1 := e0
    subst e0
    obtain ⟨x, hk, h_2⟩ := cz_ki_some h_1
    cases h_2
    exact lv_iload_n hx hb hd rfl (cz_has_st1 hl hk) (kk ls hl)
  case iload k =>
    obtain ⟨e0, h_1⟩ := cz_n_some h
    have e0 : len = 2 := e0
    subst e0
    obtain ⟨x, hk, h_2⟩ := cz_ki_some h_1
    cases h_2
    exact lv_iload hx hb hd (cz_has_st1 hl hk) (kk ls hl)
  case lload_n k =>
    obtain ⟨e0, h_1⟩ := cz_n_some h
    have e0 : len = 1 := e0
    subst e0
    obtain ⟨x, hk, h_2⟩ := cz_kl_some h_1
    cases h_2
    exact lv_lload_n hx hb hd rfl (cz_has_st1 hl hk) (kk ls hl)
  case lload k =>
    obtain ⟨e0, h_1⟩ := cz_n_some h
    have e0 : len = 2 := e0
    subst e0
    obtain ⟨x, hk, h_2⟩ := cz_kl_some h_1
    cases h_2
    exact lv_lload hx hb hd (cz_has_st1 hl hk) (kk ls hl)
  case aload_n k =>
    obtain ⟨e0, h_1⟩ := cz_n_some h
    have e0 : len = 1 := e0
    subst e0
    obtain ⟨x, hk, ha, h_2⟩ := cz_ka_some h_1
    rcases cz_isA_of ha with rfl | ⟨a, rfl⟩
    · cases h_2
      exact lv_aload_nN hx hb hd rfl (cz_has_st1 hl hk) (kk ls hl)
    · cases h_2
      exact lv_aload_n hx hb hd rfl (cz_has_st1 hl hk) (kk ls hl)
  case aload k =>
    obtain ⟨e0, h_1⟩ := cz_n_some h
    have e0 : len = 2 := e0
    subst e0
    obtain ⟨x, hk, ha, h_2⟩ := cz_ka_some h_1
    rcases cz_isA_of ha with rfl | ⟨a, rfl⟩
    · cases h_2
      exact lv_aloadN hx hb hd (cz_has_st1 hl hk) (kk ls hl)
    · cases h_2
      exact lv_aload hx hb hd (cz_has_st1 hl hk) (kk ls hl)
  case istore_n k =>
    obtain ⟨e0, h_1⟩ := cz_n_some h
    have e0 : len = 1 := e0
    subst e0
    obtain ⟨x, r, rfl, h_2⟩ := cz_i1_some h_1
    obtain ⟨h1, h_3⟩ := cz_if_some h_2
    cases h_3
    exact lv_istore_n hx hb hd rfl hl (of_decide_eq_true h1) rfl kk
  case istore k =>
    obtain ⟨e0, h_1⟩ := cz_n_some h
    have e0 : len = 2 := e0
    subst e0
    obtain ⟨x, r, rfl, h_2⟩ := cz_i1_some h_1
    obtain ⟨h1, h_3⟩ := cz_if_some h_2
    cases h_3
    exact lv_istore hx hb hd hl (of_decide_eq_true h1) rfl kk
  case lstore k =>
    obtain ⟨e0, h_1⟩ := cz_n_some h
    have e0 : len = 2 := e0
    subst e0
    obtain ⟨x, r, rfl, h_2⟩ := cz_l1_some h_1
    obtain ⟨h1, h_3⟩ := cz_if_some h_2
    cases h_3
    exact lv_lstore hx hb hd hl (of_decide_eq_true h1) rfl kk
  case astore_n k =>
    obtain ⟨e0, h_1⟩ := cz_n_some h
    have e0 : len = 1 := e0
    subst e0
    obtain ⟨x, r, rfl, h_2⟩ := cz_v1_some h_1
    obtain ⟨h1, h_3⟩ := cz_if_some h_2
    obtain ⟨ha, h1⟩ := Bool.and_eq_true_iff.mp h1
    rcases cz_isA_of ha with rfl | ⟨a, rfl⟩
    · cases h_3
      exact lv_astore_nN hx hb hd rfl hl (of_decide_eq_true h1) rfl kk
    · cases h_3
      exact lv_astore_n hx hb hd rfl hl (of_decide_eq_true h1) rfl kk
  case astore k =>
    obtain ⟨e0, h_1⟩ := cz_n_some h
    have e0 : len = 2 := e0
    subst e0
    obtain ⟨x, r, rfl, h_2⟩ := cz_v1_some h_1
    obtain ⟨h1, h_3⟩ := cz_if_some h_2
    obtain ⟨ha, h1⟩ := Bool.and_eq_true_iff.mp h1
    rcases cz_isA_of ha with rfl | ⟨a, rfl⟩
    · cases h_3
      exact lv_astoreN hx hb hd hl (of_decide_eq_true h1) rfl kk
    · cases h_3
      exact lv_astore hx hb hd hl (of_decide_eq_true h1) rfl kk
  case iinc k n =>
    obtain ⟨h0, h_1⟩ := cz_if_some h
    obtain ⟨x, hk, h_2⟩ := cz_ki_some h_1
    obtain ⟨h1, h_3⟩ := cz_if_some h_2
    obtain ⟨j, hj⟩ := List.mem_iff_getElem?.mp (cz_lk_mem hk)
    have h0 : len = 3 ∨ len = 6 := by simpa using h0
    rcases h0 with rfl | rfl
    · cases h_3
      exact lv_iinc hx hb hd hl hj rfl (of_decide_eq_true h1) rfl kk
    · cases h_3
      exact lv_iincW hx hb hd hl hj rfl (of_decide_eq_true h1) rfl kk
  case iadd =>
    obtain ⟨e0, h_1⟩ := cz_n_some h
    have e0 : len = 1 := e0
    subst e0
    obtain ⟨x, y, r, rfl, h_2⟩ := cz_i2_some h_1
    cases h_2
    exact lv_iadd hx hb hd (kk ls hl)
  case isub =>
    obtain ⟨e0, h_1⟩ := cz_n_some h
    have e0 : len = 1 := e0
    subst e0
    obtain ⟨x, y, r, rfl, h_2⟩ := cz_i2_some h_1
    cases h_2
    exact lv_isub hx hb hd (kk ls hl)
  case imul =>
    obtain ⟨e0, h_1⟩ := cz_n_some h
    have e0 : len = 1 := e0
    subst e0
    obtain ⟨x, y, r, rfl, h_2⟩ := cz_i2_some h_1
    cases h_2
    exact lv_imul hx hb hd (kk ls hl)
  case iand =>
    obtain ⟨e0, h_1⟩ := cz_n_some h
    have e0 : len = 1 := e0
    subst e0
    obtain ⟨x, y, r, rfl, h_2⟩ := cz_i2_some h_1
    cases h_2
    exact lv_iand hx hb hd (kk ls hl)
  case ior =>
    obtain ⟨e0, h_1⟩ := cz_n_some h
    have e0 : len = 1 := e0
    subst e0
    obtain ⟨x, y, r, rfl, h_2⟩ := cz_i2_some h_1
    cases h_2
    exact lv_ior hx hb hd (kk ls hl)
  case ishl =>
    obtain ⟨e0, h_1⟩ := cz_n_some h
    have e0 : len = 1 := e0
    subst e0
    obtain ⟨x, y, r, rfl, h_2⟩ := cz_i2_some h_1
    cases h_2
    exact lv_ishl hx hb hd (kk ls hl)
  case ishr =>
    obtain ⟨e0, h_1⟩ := cz_n_some h
    have e0 : len = 1 := e0
    subst e0
    obtain ⟨x, y, r, rfl, h_2⟩ := cz_i2_some h_1
    cases h_2
    exact lv_ishr hx hb hd (kk ls hl)
  case idiv =>
    obtain ⟨e0, h_1⟩ := cz_n_some h
    have e0 : len = 1 := e0
    subst e0
    obtain ⟨x, y, r, rfl, h_2⟩ := cz_i2_some h_1
    obtain ⟨h1, h_3⟩ := cz_if_some h_2
    cases h_3
    exact lv_idiv hx hb hd (of_decide_eq_true h1) (kk ls hl)
  case irem =>
    obtain ⟨e0, h_1⟩ := cz_n_some h
    have e0 : len = 1 := e0
    subst e0
    obtain ⟨x, y, r, rfl, h_2⟩ := cz_i2_some h_1
    obtain ⟨h1, h_3⟩ := cz_if_some h_2
    cases h_3
    exact lv_irem hx hb hd (of_decide_eq_true h1) (kk ls hl)
  case ineg =>
    obtain ⟨e0, h_1⟩ := cz_n_some h
    have e0 : len = 1 := e0
    subst e0
    obtain ⟨x, r, rfl, h_2⟩ := cz_i1_some h_1
    cases h_2
    exact lv_ineg hx hb hd (kk ls hl)
  case iushr =>
    obtain ⟨e0, h_1⟩ := cz_n_some h
    have e0 : len = 1 := e0
    subst e0
    obtain ⟨x, y, r, rfl, h_2⟩ := cz_i2_some h_1
    cases h_2
    exact lv_iushr hx hb hd rfl (kk ls hl)
  case i2l =>
    obtain ⟨e0, h_1⟩ := cz_n_some h
    have e0 : len = 1 := e0
    subst e0
    obtain ⟨x, r, rfl, h_2⟩ := cz_i1_some h_1
    cases h_2
    exact lv_i2l hx hb hd rfl (kk ls hl)
  case l2i =>
    obtain ⟨e0, h_1⟩ := cz_n_some h
    have e0 : len = 1 := e0
    subst e0
    obtain ⟨x, r, rfl, h_2⟩ := cz_l1_some h_1
    cases h_2
    exact lv_l2i hx hb hd rfl (kk ls hl)
  case i2b =>
    obtain ⟨e0, h_1⟩ := cz_n_some h
    have e0 : len = 1 := e0
    subst e0
    obtain ⟨x, r, rfl, h_2⟩ := cz_i1_some h_1
    cases h_2
    exact lv_i2b hx hb hd rfl (kk ls hl)
  case i2c =>
    obtain ⟨e0, h_1⟩ := cz_n_some h
    have e0 : len = 1 := e0
    subst e0
    obtain ⟨x, r, rfl, h_2⟩ := cz_i1_some h_1
    cases h_2
    exact lv_i2c hx hb hd rfl (kk ls hl)
  case lshl =>
    obtain ⟨e0, h_1⟩ := cz_n_some h
    have e0 : len = 1 := e0
    subst e0
    obtain ⟨x, y, r, rfl, h_2⟩ := cz_il_some h_1
    cases h_2
    exact lv_lshl hx hb hd rfl (kk ls hl)
  case lshr =>
    obtain ⟨e0, h_1⟩ := cz_n_some h
    have e0 : len = 1 := e0
    subst e0
    obtain ⟨x, y, r, rfl, h_2⟩ := cz_il_some h_1
    cases h_2
    exact lv_lshr hx hb hd rfl (kk ls hl)
  case ladd =>
    obtain ⟨e0, h_1⟩ := cz_n_some h
    have e0 : len = 1 := e0
    subst e0
    obtain ⟨x, y, r, rfl, h_2⟩ := cz_l2_some h_1
    cases h_2
    exact lv_ladd hx hb hd (kk ls hl)
  case land =>
    obtain ⟨e0, h_1⟩ := cz_n_some h
    have e0 : len = 1 := e0
    subst e0
    obtain ⟨x, y, r, rfl, h_2⟩ := cz_l2_some h_1
    cases h_2
    exact lv_land hx hb hd (kk ls hl)
  case lor =>
    obtain ⟨e0, h_1⟩ := cz_n_some h
    have e0 : len = 1 := e0
    subst e0
    obtain ⟨x, y, r, rfl, h_2⟩ := cz_l2_some h_1
    cases h_2
    exact lv_lor hx hb hd (kk ls hl)
  case lcmp =>
    obtain ⟨e0, h_1⟩ := cz_n_some h
    have e0 : len = 1 := e0
    subst e0
    obtain ⟨x, y, r, rfl, h_2⟩ := cz_l2_some h_1
    cases h_2
    exact W.lcmp hx hb hd (kk ls hl)
  case dup =>
    obtain ⟨e0, h_1⟩ := cz_n_some h
    have e0 : len = 1 := e0
    subst e0
    obtain ⟨x, r, rfl, h_2⟩ := cz_v1_some h_1
    obtain ⟨h1, h_3⟩ := cz_if_some h_2
    cases h_3
    exact lv_dup hx hb hd (by simpa using h1) (kk ls hl)
  case pop =>
    obtain ⟨e0, h_1⟩ := cz_n_some h
    have e0 : len = 1 := e0
    subst e0
    obtain ⟨x, r, rfl, h_2⟩ := cz_v1_some h_1
    obtain ⟨h1, h_3⟩ := cz_if_some h_2
    cases h_3
    exact lv_pop hx hb hd (by simpa using h1) (kk ls hl)
  case dup2 =>
    obtain ⟨e0, h_1⟩ := cz_n_some h
    have e0 : len = 1 := e0
    subst e0
    obtain ⟨y, x, r, rfl, h_2⟩ := cz_v2_some h_1
    obtain ⟨h1, h_3⟩ := cz_if_some h_2
    obtain ⟨h1, h2⟩ := Bool.and_eq_true_iff.mp h1
    cases h_3
    exact lv_dup2_11 hx hb hd (by simpa using h1) (by simpa using h2) (kk ls hl)
  case ifCond cond off =>
    obtain ⟨e0, h_1⟩ := cz_n_some h
    have e0 : len = 3 := e0
    subst e0
    obtain ⟨x, r, rfl, h_2⟩ := cz_i1_some h_1
    obtain ⟨t, ht, h_3⟩ := cz_j_some h_2
    have ht : (pc : Int) + off = (t : Int) := ht
    have e1 : pc' = if cz_b1 cond x = true then t else pc + 3 := by cases h_3; rfl
    have e2 : lv' = lv := by cases h_3; rfl
    have e3 : st' = r := by cases h_3; rfl
    subst e2 e3
    have kt : cz_b1 cond x = true → W p l e R s m args below meth c H locs cells slots Q (F0 m t ls st') := fun b => by rw [if_pos b] at e1; subst e1; exact kk ls hl
    have kf : ¬ cz_b1 cond x = true → W p l e R s m args below meth c H locs cells slots Q (F0 m (pc + 3) ls st') := fun b => by rw [if_neg b] at e1; subst e1; exact kk ls hl
    cases cond
    case eq => exact lv_if_eq hx hb hd ht (fun b => kt (decide_eq_true b)) (fun b => kf (fun z => b (of_decide_eq_true z)))
    case ne => exact lv_if_ne hx hb hd ht (fun b => kt (decide_eq_true b)) (fun b => kf (fun z => (of_decide_eq_true z) b))
    case lt => exact lv_if_lt hx hb hd ht (fun b => kt (decide_eq_true b)) (fun b => kf (fun z => b (of_decide_eq_true z)))
    case ge => exact lv_if_ge hx hb hd ht (fun b => kt (decide_eq_true b)) (fun b => kf (fun z => b (of_decide_eq_true z)))
    case gt => exact lv_if_gt hx hb hd ht (fun b => kt (decide_eq_true b)) (fun b => kf (fun z => b (of_decide_eq_true z)))
    case le => exact lv_if_le hx hb hd ht (fun b => kt (decide_eq_true b)) (fun b => kf (fun z => b (of_decide_eq_true z)))
  case if_icmp cond off =>
    obtain ⟨e0, h_1⟩ := cz_n_some h
    have e0 : len = 3 := e0
    subst e0
    obtain ⟨x, y, r, rfl, h_2⟩ := cz_i2_some h_1
    obtain ⟨t, ht, h_3⟩ := cz_j_some h_2
    have ht : (pc : Int) + off = (t : Int) := ht
    have e1 : pc' = if cz_b2 cond x y = true then t else pc + 3 := by cases h_3; rfl
    have e2 : lv' = lv := by cases h_3; rfl
    have e3 : st' = r := by cases h_3; rfl
    subst e2 e3
    have kt : cz_b2 cond x y = true → W p l e R s m args below meth c H locs cells slots Q (F0 m t ls st') := fun b => by rw [if_pos b] at e1; subst e1; exact kk ls hl
    have kf : ¬ cz_b2 cond x y = true → W p l e R s m args below meth c H locs cells slots Q (F0 m (pc + 3) ls st') := fun b => by rw [if_neg b] at e1; subst e1; exact kk ls hl
    cases cond
    case eq => exact lv_icmp_eq hx hb hd ht (fun b => kt (decide_eq_true b)) (fun b => kf (fun z => b (of_decide_eq_true z)))
    case ne => exact lv_icmp_ne hx hb hd ht (fun b => kt (decide_eq_true b)) (fun b => kf (fun z => (of_decide_eq_true z) b))
    case lt => exact lv_icmp_lt hx hb hd ht (fun b => kt (decide_eq_true b)) (fun b => kf (fun z => b (of_decide_eq_true z)))
    case ge => exact lv_icmp_ge hx hb hd ht (fun b => kt (decide_eq_true b)) (fun b => kf (fun z => b (of_decide_eq_true z)))
    case gt => exact lv_icmp_gt hx hb hd ht (fun b => kt (decide_eq_true b)) (fun b => kf (fun z => b (of_decide_eq_true z)))
    case le => exact lv_icmp_le hx hb hd ht (fun b => kt (decide_eq_true b)) (fun b => kf (fun z => b (of_decide_eq_true z)))
  case ifnull off =>
    obtain ⟨e0, h_1⟩ := cz_n_some h
    have e0 : len = 3 := e0
    subst e0
    obtain ⟨x, r, rfl, h_2⟩ := cz_v1_some h_1
    obtain ⟨ha, h_3⟩ := cz_if_some h_2
    obtain ⟨t, ht, h_4⟩ := cz_j_some h_3
    rcases cz_isA_of ha with rfl | ⟨a, rfl⟩
    · rw [if_pos rfl] at h_4
      cases h_4
      exact lv_ifnullN hx hb hd ht (kk ls hl)
    · rw [if_neg (fun z => by cases z)] at h_4
      cases h_4
      exact lv_ifnull hx hb hd (kk ls hl)
  case ifnonnull off =>
    obtain ⟨e0, h_1⟩ := cz_n_some h
    have e0 : len = 3 := e0
    subst e0
    obtain ⟨x, r, rfl, h_2⟩ := cz_v1_some h_1
    obtain ⟨ha, h_3⟩ := cz_if_some h_2
    obtain ⟨t, ht, h_4⟩ := cz_j_some h_3
    rcases cz_isA_of ha with rfl | ⟨a, rfl⟩
    · rw [if_pos rfl] at h_4
      cases h_4
      exact lv_ifnonnullN hx hb hd (kk ls hl)
    · rw [if_neg (fun z => by cases z)] at h_4
      cases h_4
      exact lv_ifnonnull hx hb hd ht (kk ls hl)
  case goto off =>
    obtain ⟨e0, h_1⟩ := cz_n_some h
    have e0 : len = 3 := e0
    subst e0
    obtain ⟨t, ht, h_2⟩ := cz_j_some h_1
    cases h_2
    exact lv_goto hx hb hd ht (kk ls hl)
  case tableswitch dflt lo hi offs =>
    obtain ⟨x, r, rfl, g⟩ := cz_i1_some h
    by_cases hz : x.toInt < lo ∨ hi < x.toInt
    · rw [if_pos hz] at g
      obtain ⟨t, ht, g1⟩ := cz_j_some g
      cases g1
      exact lv_tableOut hx hb hd hz ht (kk ls hl)
    · rw [if_neg hz] at g
      split at g
      · next off ho =>
        obtain ⟨t, ht, g1⟩ := cz_j_some g
        cases g1
        exact lv_tableIn hx hb hd (fun z => hz (Or.inl z)) (fun z => hz (Or.inr z)) ho ht (kk ls hl)
      · cases g
  case lookupswitch dflt ps =>
    obtain ⟨x, r, rfl, h_1⟩ := cz_i1_some h
    obtain ⟨h1, h_2⟩ := cz_if_some h_1
    obtain ⟨t, ht, h_3⟩ := cz_j_some h_2
    cases h_3
    exact lv_lookup hx hb hd h1 rfl ht (kk ls hl)
  all_goals (have h2 : (none : Option (Nat × cz_LV × List Value)) = some (pc', lv', st') := h; cases h2)
end CZ1
