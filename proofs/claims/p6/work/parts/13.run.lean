theorem cz_kk_tg : ∀ t ∈ cz_kk, cz_kw t ∈ lw_tg := fun t ht => lw_tg_in (cz_kk_in t ht) (by unfold cz_kw; (repeat' split) <;> rfl)
theorem cz_fs_tg : ∀ t ∈ cz_fs, cz_fsw t ∈ lw_tg := fun t ht => lw_tg_in (cz_fs_in t ht) (by unfold cz_fsw; (repeat' split) <;> rfl)
theorem cz_fl_tg : ∀ t ∈ cz_fl, cz_fw t ∈ lw_tg := fun t ht => lw_tg_in (cz_fl_in t ht) (by unfold cz_fw; (repeat' split) <;> rfl)
theorem cz_nl_tg : ∀ t ∈ cz_nl, cz_nw t ∈ lw_tg := fun t ht => lw_tg_in (cz_nl_in t ht) (by unfold cz_nw; (repeat' split) <;> rfl)
theorem cz_gs_tg : ∀ t ∈ cz_gs, cz_gsw t ∈ lw_tg := fun t ht => lw_tg_in (cz_gs_in t ht) (by unfold cz_gsw; (repeat' split) <;> rfl)
/-! the clean machine's run is the machine's: words of an instruction -/
theorem cz_on_of {o : Nat} {own : String} (h : cz_cn[o]? = some own) : cz_on o = own := by simp [cz_on, List.getD, h]
theorem cz_vw_of {k : Nat} {r : vw_C} (h : vwCl[k]? = some r) : vwCl.getD k (RX0, TX0, 0) = r := by simp [List.getD, h]
theorem cz_lc_of {E : cz_E} {cy : Nat → ClassId} {D : va_G} {args : Array Value} {s : State} {o : Nat} {ini : Bool} {ret : Option FieldType} {q : cz_I} (hG : cz_G E cy D s) (hts : ∀ w ∈ lw_tg, w.before args s = true) (hw : cz_wq o ini ret q = true) : cz_lc E (cz_on o) q args s := by
  obtain ⟨pc, ins, len, xa, xb⟩ := q
  cases ins
  case ldc i =>
    refine ⟨fun h0 => ?_, fun h1 => ?_⟩
    · have h0 : xa = 0 := h0
      subst h0
      have hm : (o, i, 0, xb) ∈ cz_kk := by simpa [cz_wq] using hw
      exact hts _ (cz_kk_tg _ hm)
    · have h1 : xa = 1 := h1
      subst h1
      have hm : (o, i, xb.toNat) ∈ cz_sr := by simpa [cz_wq] using hw
      obtain ⟨own, tx, e1, e2⟩ := hG.2.2.2.2.2.2.1 _ hm
      refine ⟨tx, ?_⟩
      rw [cz_on_of e1]
      exact e2
  case ldc_w i =>
    intro h0
    have h0 : xa = 0 := h0
    subst h0
    have hm : (o, i, 0, xb) ∈ cz_kk := by simpa [cz_wq] using hw
    exact hts _ (cz_kk_tg _ hm)
  case ldc2_w i =>
    have hm : (o, i, 1, xb) ∈ cz_kk := by simpa [cz_wq] using hw
    exact hts _ (cz_kk_tg _ hm)
  all_goals trivial
theorem cz_fl_lt : ∀ t ∈ cz_fl, t.2.2.2 < (vwCl.getD t.2.2.1 (RX0, TX0, 0)).2.2 := by decide +kernel
theorem cz_hc_of {args : Array Value} {s : State} {o : Nat} {ini : Bool} {ret : Option FieldType} {meth : Method} {q : cz_I} (hts : ∀ w ∈ lw_tg, w.before args s = true) (hin : ini = true → meth.name = "<init>") (hw : cz_wq o ini ret q = true) : cz_hc (cz_on o) meth q args s := by
  obtain ⟨pc, ins, len, xa, xb⟩ := q
  cases ins
  case getfield i =>
    refine ⟨fun h0 => ?_, fun h1 => ?_⟩
    · have h0 : xa = 100 := h0
      subst h0
      refine ⟨fun h2 => ?_, fun h2 => ?_⟩
      · have h2 : xb = 0 := h2
        subst h2
        have hm : (o, i, 0) ∈ cz_fs := by simpa [cz_wq] using hw
        exact hts _ (cz_fs_tg _ hm)
      · have h2 : ¬ xb = 0 := h2
        have hm : (o, i, 1) ∈ cz_fs := by simpa [cz_wq, h2] using hw
        exact hts _ (cz_fs_tg _ hm)
    · have h1 : ¬ xa = 100 := h1
      intro r hr
      have hm : (o, i, xa, xb.toNat) ∈ cz_fl := by simpa [cz_wq, h1] using hw
      have h2 := cz_fl_tg _ hm
      have h3 := cz_fl_lt _ hm
      unfold cz_fw at h2
      rw [cz_vw_of hr] at h2 h3
      exact ⟨h3, hts _ h2⟩
  case putfield i =>
    intro r hr
    have hw : (decide ((o, i, xa, xb.toNat) ∈ cz_fl) && (!(cz_fd4 (pc, .putfield i, len, xa, xb)).2.2.2 || (ini && decide ((cz_fd4 (pc, .putfield i, len, xa, xb)).1 = cz_on o)))) = true := hw
    have hm : (o, i, xa, xb.toNat) ∈ cz_fl := of_decide_eq_true (Bool.and_eq_true_iff.mp hw).1
    have h4 := (Bool.and_eq_true_iff.mp hw).2
    have h2 := cz_fl_tg _ hm
    have h3 := cz_fl_lt _ hm
    unfold cz_fw at h2
    rw [cz_vw_of hr] at h2 h3
    refine ⟨h3, hts _ h2, fun hf => ?_⟩
    have e4 : cz_fd4 (pc, .putfield i, len, xa, xb) = r.2.1 xb.toNat := by unfold cz_fd4; rw [cz_vw_of hr]
    rw [e4] at h4
    have hf : (r.2.1 xb.toNat).2.2.2 = true := hf
    rw [hf] at h4
    simp only [Bool.not_true, Bool.false_or, Bool.and_eq_true, decide_eq_true_eq] at h4
    exact ⟨hin h4.1, h4.2⟩
  case new i =>
    intro h0 r hr
    have h0 : xb = 0 := h0
    subst h0
    have hm : (o, i, xa) ∈ cz_nl ∧ xa < 13 := by simpa [cz_wq] using hw
    have h2 := hts _ (cz_nl_tg _ hm.1)
    unfold cz_nw at h2
    have e1 : ¬ xa = 25 := by omega
    have e2 : ¬ xa = 26 := by omega
    have h3 : (Cond.classLink (cz_on o) i (if xa = 25 then RX10 else if xa = 26 then RX9 else (vwCl.getD xa (RX0, TX0, 0)).1)).before args s = true := h2
    rw [if_neg e1, if_neg e2, cz_vw_of hr] at h3
    exact h3
  case anewarray i =>
    have hm : (o, i, 20 + xa) ∈ cz_nl := by simpa [cz_wq] using hw
    have h2 := hts _ (cz_nl_tg _ hm)
    refine ⟨fun h5 => ?_, fun h6 => ?_⟩
    · have h5 : xa = 5 := h5
      subst h5
      exact h2
    · have h6 : xa = 6 := h6
      subst h6
      exact h2
  case invokespecial i =>
    intro h0
    have h0 : xb = -4 := h0
    subst h0
    have hm : (o, i, 0, 4) ∈ cz_ml := by simpa [cz_wq] using hw
    exact hts _ (lw_tg_in (cz_ml_in _ hm) rfl)
  case invokestatic i =>
    intro h0
    have h0 : xb = -5 := h0
    subst h0
    have hm : (o, i, 0, 5) ∈ cz_ml := by simpa [cz_wq] using hw
    exact hts _ (lw_tg_in (cz_ml_in _ hm) rfl)
  case getstatic i =>
    refine ⟨fun h0 => ?_, fun h1 => ?_⟩
    · have h0 : xa = 0 := h0
      subst h0
      have hm : (o, i, 0) ∈ cz_gs := by simpa [cz_wq] using hw
      exact hts _ (cz_gs_tg _ hm)
    · have h1 : xa = 1 := h1
      subst h1
      have hm : (o, i, 1) ∈ cz_gs := by simpa [cz_wq] using hw
      exact hts _ (cz_gs_tg _ hm)
  all_goals trivial
/-! the heap never shrinks -/
theorem cz_s2_grow {E : cz_E} {q : cz_I} {st st' : List Value} {pc' : Nat} {hp hp' : cz_H} (h : cz_s2 E q st hp = some (pc', st', hp')) : (hp'.length = hp.length ∧ cz_sz hp' = cz_sz hp) ∨ ∃ c1, hp' = hp ++ [c1] := by
  obtain ⟨pc, ins, len, xa, xb⟩ := q
  have sto : ∀ {a : Nat} {c0 c1 : cz_C}, cz_at E hp a = some c0 → cz_cz c1 = cz_cz c0 → hp' = hp.set (a - E.1) c1 → (hp'.length = hp.length ∧ cz_sz hp' = cz_sz hp) ∨ ∃ c1, hp' = hp ++ [c1] := by
    intro a c0 c1 e0 ez e1
    subst e1
    exact Or.inl ⟨List.length_set, cz_sz_set (cz_at_some e0).2 ez⟩
  cases ins
  case getfield i =>
    obtain ⟨-, h1⟩ := cz_n_some h
    obtain ⟨a, r, rfl, h2⟩ := cz_r1_some h1
    by_cases h100 : xa = 100
    · rw [if_pos h100] at h2
      obtain ⟨k, -, h3⟩ := cz_so_some h2
      cases h3
      exact Or.inl ⟨rfl, rfl⟩
    · rw [if_neg h100] at h2
      obtain ⟨ci, fs, -, h3⟩ := cz_ob_some h2
      obtain ⟨-, h4⟩ := cz_if_some h3
      obtain ⟨v, -, h5⟩ := cz_so_some h4
      cases h5
      exact Or.inl ⟨rfl, rfl⟩
  case putfield i =>
    obtain ⟨-, h1⟩ := cz_n_some h
    obtain ⟨v, a, r, rfl, h2⟩ := cz_vo_some h1
    obtain ⟨ci, fs, hat, h3⟩ := cz_ob_some h2
    obtain ⟨-, h4⟩ := cz_if_some h3
    exact sto hat (c1 := .inr (ci, fs.set xb.toNat v)) (by simp [cz_cz]) (by cases h4; rfl)
  case iaload =>
    obtain ⟨-, h1⟩ := cz_n_some h
    obtain ⟨i, a, r, rfl, h2⟩ := cz_ir_some h1
    split at h2
    · obtain ⟨-, h3⟩ := cz_if_some h2
      cases h3
      exact Or.inl ⟨rfl, rfl⟩
    · obtain ⟨tc, n, f, -, h3⟩ := cz_ai_some h2
      obtain ⟨-, h4⟩ := cz_if_some h3
      cases h4
      exact Or.inl ⟨rfl, rfl⟩
  case baload =>
    obtain ⟨-, h1⟩ := cz_n_some h
    obtain ⟨i, a, r, rfl, h2⟩ := cz_ir_some h1
    split at h2
    · obtain ⟨-, h3⟩ := cz_if_some h2
      cases h3
      exact Or.inl ⟨rfl, rfl⟩
    · obtain ⟨tc, n, f, -, h3⟩ := cz_ai_some h2
      obtain ⟨-, h4⟩ := cz_if_some h3
      cases h4
      exact Or.inl ⟨rfl, rfl⟩
  case caload =>
    obtain ⟨-, h1⟩ := cz_n_some h
    obtain ⟨i, a, r, rfl, h2⟩ := cz_ir_some h1
    obtain ⟨tc, n, f, -, h3⟩ := cz_ai_some h2
    obtain ⟨-, h4⟩ := cz_if_some h3
    cases h4
    exact Or.inl ⟨rfl, rfl⟩
  case laload =>
    obtain ⟨-, h1⟩ := cz_n_some h
    obtain ⟨i, a, r, rfl, h2⟩ := cz_ir_some h1
    obtain ⟨tc, n, f, -, h3⟩ := cz_al_some h2
    obtain ⟨-, h4⟩ := cz_if_some h3
    cases h4
    exact Or.inl ⟨rfl, rfl⟩
  case aaload =>
    obtain ⟨-, h1⟩ := cz_n_some h
    obtain ⟨i, a, r, rfl, h2⟩ := cz_ir_some h1
    obtain ⟨tc, n, f, -, h3⟩ := cz_aq_some h2
    obtain ⟨-, h4⟩ := cz_if_some h3
    cases h4
    exact Or.inl ⟨rfl, rfl⟩
  case iastore =>
    obtain ⟨-, h1⟩ := cz_n_some h
    obtain ⟨v, i, a, r, rfl, h2⟩ := cz_vr_some h1
    obtain ⟨x, -, h3⟩ := cz_ki_some h2
    obtain ⟨tc, n, f, hat, h4⟩ := cz_ai_some h3
    obtain ⟨-, h5⟩ := cz_if_some h4
    exact sto hat (c1 := .inl (0, n, .inl (upd f i.toNatClampNeg x))) rfl (by cases h5; rfl)
  case bastore =>
    obtain ⟨-, h1⟩ := cz_n_some h
    obtain ⟨v, i, a, r, rfl, h2⟩ := cz_vr_some h1
    obtain ⟨x, -, h3⟩ := cz_ki_some h2
    obtain ⟨tc, n, f, hat, h4⟩ := cz_ai_some h3
    obtain ⟨-, h5⟩ := cz_if_some h4
    exact sto hat (c1 := .inl (tc, n, .inl (upd f i.toNatClampNeg (vp_nar (cz_ty tc) x)))) rfl (by cases h5; rfl)
  case castore =>
    obtain ⟨-, h1⟩ := cz_n_some h
    obtain ⟨v, i, a, r, rfl, h2⟩ := cz_vr_some h1
    obtain ⟨x, -, h3⟩ := cz_ki_some h2
    obtain ⟨tc, n, f, hat, h4⟩ := cz_ai_some h3
    obtain ⟨-, h5⟩ := cz_if_some h4
    exact sto hat (c1 := .inl (3, n, .inl (upd f i.toNatClampNeg (vp_nar .char x)))) rfl (by cases h5; rfl)
  case lastore =>
    obtain ⟨-, h1⟩ := cz_n_some h
    obtain ⟨v, i, a, r, rfl, h2⟩ := cz_vr_some h1
    obtain ⟨x, -, h3⟩ := cz_kl_some h2
    obtain ⟨tc, n, f, hat, h4⟩ := cz_al_some h3
    obtain ⟨-, h5⟩ := cz_if_some h4
    exact sto hat (c1 := .inl (2, n, .inr (.inl (vp_updL f i.toNatClampNeg x)))) rfl (by cases h5; rfl)
  case aastore =>
    obtain ⟨-, h1⟩ := cz_n_some h
    obtain ⟨v, i, a, r, rfl, h2⟩ := cz_vr_some h1
    obtain ⟨tc, n, f, hat, h3⟩ := cz_aq_some h2
    obtain ⟨-, h4⟩ := cz_if_some h3
    cases v
    case null => exact sto hat (c1 := .inl (tc, n, .inr (.inr (.inr (.inr (va_up f i.toNatClampNeg none)))))) rfl (by cases h4; rfl)
    case ref o =>
      obtain ⟨ci, fs, -, h5⟩ := cz_ob_some h4
      obtain ⟨-, h6⟩ := cz_if_some h5
      exact sto hat (c1 := .inl (tc, n, .inr (.inr (.inr (.inr (va_up f i.toNatClampNeg (some o))))))) rfl (by cases h6; rfl)
    all_goals cases h4
  case arraylength =>
    obtain ⟨-, h1⟩ := cz_n_some h
    obtain ⟨a, r, rfl, h2⟩ := cz_r1_some h1
    split at h2
    · cases h2
      exact Or.inl ⟨rfl, rfl⟩
    · split at h2
      · cases h2
        exact Or.inl ⟨rfl, rfl⟩
      · obtain ⟨tc, x, -, h3⟩ := cz_an_some h2
        obtain ⟨-, h4⟩ := cz_if_some h3
        cases h4
        exact Or.inl ⟨rfl, rfl⟩
  case new i =>
    obtain ⟨-, h1⟩ := cz_n_some h
    obtain ⟨-, h2⟩ := cz_if_some h1
    cases h2
    exact Or.inr ⟨_, rfl⟩
  case newarray ty =>
    obtain ⟨-, h1⟩ := cz_n_some h
    obtain ⟨n, r, rfl, h2⟩ := cz_i1_some h1
    obtain ⟨-, h3⟩ := cz_if_some h2
    obtain ⟨c, -, h4⟩ := cz_so_some h3
    cases h4
    exact Or.inr ⟨_, rfl⟩
  case anewarray i =>
    obtain ⟨-, h1⟩ := cz_n_some h
    obtain ⟨n, r, rfl, h2⟩ := cz_i1_some h1
    obtain ⟨-, h3⟩ := cz_if_some h2
    cases h3
    exact Or.inr ⟨_, rfl⟩
  case invokespecial i =>
    obtain ⟨-, h1⟩ := cz_n_some h
    obtain ⟨-, h2⟩ := cz_if_some h1
    obtain ⟨a, r, rfl, h3⟩ := cz_r1_some h2
    obtain ⟨-, h4⟩ := cz_if_some h3
    cases h4
    exact Or.inl ⟨rfl, rfl⟩
  case invokestatic i =>
    obtain ⟨-, h1⟩ := cz_n_some h
    obtain ⟨-, h2⟩ := cz_if_some h1
    obtain ⟨n, dp, a, sp, a0, r, rfl, h3⟩ := cz_ac_some h2
    obtain ⟨-, h4⟩ := cz_if_some h3
    split at h4
    · obtain ⟨t1, n1, g, hat, h5⟩ := cz_ai_some h4
      obtain ⟨-, h6⟩ := cz_if_some h5
      exact sto hat (c1 := .inl (t1, n1, .inl (va_cpy _ g sp.toNatClampNeg dp.toNatClampNeg n.toNatClampNeg))) rfl (by cases h6; rfl)
    · obtain ⟨t1, n1, g, hat, h5⟩ := cz_al_some h4
      obtain ⟨-, h6⟩ := cz_if_some h5
      exact sto hat (c1 := .inl (t1, n1, .inr (.inl (va_cpy _ g sp.toNatClampNeg dp.toNatClampNeg n.toNatClampNeg)))) rfl (by cases h6; rfl)
    · cases h4
  case getstatic i =>
    obtain ⟨-, h1⟩ := cz_n_some h
    split at h1
    · cases h1
      exact Or.inl ⟨rfl, rfl⟩
    · obtain ⟨-, h2⟩ := cz_if_some h1
      cases h2
      exact Or.inl ⟨rfl, rfl⟩
  all_goals cases h
theorem cz_s2_mono {E : cz_E} {q : cz_I} {st st' : List Value} {pc' : Nat} {hp hp' : cz_H} (h : cz_s2 E q st hp = some (pc', st', hp')) : hp.length ≤ hp'.length ∧ cz_sz hp ≤ cz_sz hp' := by
  rcases cz_s2_grow h with ⟨h1, h2⟩ | ⟨c1, rfl⟩
  · exact ⟨Nat.le_of_eq h1.symm, Nat.le_of_eq h2.symm⟩
  · rw [cz_sz_push, List.length_append]
    exact ⟨Nat.le_add_right _ _, Nat.le_add_right _ _⟩
/-- one step of a run -/
theorem cz_go_inv {E : cz_E} {f d mi pc : Nat} {lv : cz_LV} {st : List Value} {h : cz_H} {r : Option Value × cz_H} (g : cz_go E (f + 1) d mi pc lv st h = some r) : ∃ q, q ∈ cz_cd mi ∧ q.1 = pc ∧
    ((∃ pc' lv' st', cz_s1 E (cz_mf mi).2.2.2.2.1 q lv st = some (pc', lv', st') ∧ cz_go E f d mi pc' lv' st' h = some r) ∨ (∃ pc' st' h1, cz_s2 E q st h = some (pc', st', h1) ∧ cz_go E f d mi pc' lv st' h1 = some r) ∨ (∃ v, cz_s3 E q st h = some (.inr v) ∧ r = (v, h)) ∨
     ∃ mj as rr d' v1 h1, cz_s3 E q st h = some (.inl (mj, as, rr)) ∧ d = d' + 1 ∧ cz_go E f d' mj 0 (lv_args 0 as) [] h = some (v1, h1) ∧ cz_go E f d mi (pc + 3) lv (v1.toList ++ rr) h1 = some r) := by
  unfold cz_go at g
  split at g
  · cases g
  · next q hq =>
    obtain ⟨hq1, hq2⟩ := cz_ft2_mem hq
    refine ⟨q, hq1, hq2, ?_⟩
    split at g
    · next pc' lv' st' e1 => exact Or.inl ⟨_, _, _, e1, g⟩
    · split at g
      · next pc' st' h1 e2 => exact Or.inr (Or.inl ⟨_, _, _, e2, g⟩)
      · split at g
        · cases g
        · next v e3 => cases g; exact Or.inr (Or.inr (Or.inl ⟨_, e3, rfl⟩))
        · next mj as rr e3 =>
          split at g
          · cases g
          · next d' =>
            split at g
            · cases g
            · next v1 h1 e4 => exact Or.inr (Or.inr (Or.inr ⟨_, _, _, _, _, _, e3, rfl, e4, g⟩))
theorem cz_go_mono {E : cz_E} : ∀ (f : Nat) {d mi pc : Nat} {lv : cz_LV} {st : List Value} {h h' : cz_H} {v : Option Value}, cz_go E f d mi pc lv st h = some (v, h') → h.length ≤ h'.length ∧ cz_sz h ≤ cz_sz h'
  | 0, _, _, _, _, _, _, _, _, g => by cases g
  | f + 1, _, _, _, _, _, _, _, _, g => by
    obtain ⟨q, -, -, ⟨_, _, _, -, g1⟩ | ⟨_, _, _, e2, g1⟩ | ⟨_, -, e3⟩ | ⟨_, _, _, _, _, _, -, -, g1, g2⟩⟩ := cz_go_inv g
    · exact cz_go_mono f g1
    · have a1 := cz_s2_mono e2
      have a2 := cz_go_mono f g1
      exact ⟨Nat.le_trans a1.1 a2.1, Nat.le_trans a1.2 a2.2⟩
    · cases e3
      exact ⟨Nat.le_refl _, Nat.le_refl _⟩
    · have a1 := cz_go_mono f g1
      have a2 := cz_go_mono f g2
      exact ⟨Nat.le_trans a1.1 a2.1, Nat.le_trans a1.2 a2.2⟩
