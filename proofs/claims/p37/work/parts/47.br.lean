/-! THE CHECKER IS SOUND: tests -/
def ck_hol (c : Jvm.ClassFile.Cond) (x : Int) : Prop := match c with
  | .eq => x = 0
  | .ne => x ≠ 0
  | .lt => x < 0
  | .ge => 0 ≤ x
  | .gt => 0 < x
  | .le => x ≤ 0
theorem ck_hol_ng {c : Jvm.ClassFile.Cond} {x : Int} (h : ¬ ck_hol c x) : ck_hol (ck_ng c) x := by
  cases c <;> simp only [ck_hol, ck_ng] at h ⊢ <;> omega
theorem ck_ase_all {n : ck_N} {ρ : List Int} {a : ck_A} (hn : ∀ σ, ck_nok n (ρ ++ σ)) (ha : ∀ σ, ck_ev (ρ ++ σ) a = 0) : ∃ n', ck_ase n a = some n' ∧ n'.1.length = n.1.length ∧ ∀ σ, ck_nok n' (ρ ++ σ) := by
  obtain ⟨n1, e1, l1, h1⟩ := ck_asm_all hn (a := a) (fun σ => by rw [ha σ]; exact Int.le_refl _)
  obtain ⟨n2, e2, l2, h2⟩ := ck_asm_all h1 (a := ck_mul (-1) a) (fun σ => by rw [ck_mul_ev, ha σ]; decide)
  exact ⟨n2, by unfold ck_ase; rw [e1]; exact e2, l2.trans l1, h2⟩
theorem ck_asn_all {n : ck_N} {ρ : List Int} {a : ck_A} (hn : ∀ σ, ck_nok n (ρ ++ σ)) (ha : ∀ σ, ck_ev (ρ ++ σ) a ≠ 0) : ∃ n', ck_asn n a = some n' ∧ n'.1.length = n.1.length ∧ ∀ σ, ck_nok n' (ρ ++ σ) := by
  unfold ck_asn
  split
  · next e =>
    exact ck_asm_all hn (fun σ => by rw [ck_add_ev, ck_ev_c]; have := ck_le_ok (hn σ) e; have := ha σ; omega)
  · split
    · next e =>
      exact ck_asm_all hn (fun σ => by rw [ck_sub_ev, ck_ev_c]; have := ck_le_ok (hn σ) e; rw [ck_mul_ev] at this; have := ha σ; omega)
    · exact ⟨n, rfl, rfl, hn⟩
theorem ck_cnd_all {n : ck_N} {ρ : List Int} {a : ck_A} {c : Jvm.ClassFile.Cond} (hn : ∀ σ, ck_nok n (ρ ++ σ)) (ha : ∀ σ, ck_hol c (ck_ev (ρ ++ σ) a)) : ∃ n', ck_cnd n c a = some n' ∧ n'.1.length = n.1.length ∧ ∀ σ, ck_nok n' (ρ ++ σ) := by
  cases c
  case eq => exact ck_ase_all hn ha
  case ne => exact ck_asn_all hn ha
  case lt => exact ck_asm_all hn (fun σ => by rw [ck_add_ev, ck_ev_c]; have : ck_ev (ρ ++ σ) a < 0 := ha σ; omega)
  case ge => exact ck_asm_all hn (fun σ => by rw [ck_mul_ev]; have : 0 ≤ ck_ev (ρ ++ σ) a := ha σ; omega)
  case gt => exact ck_asm_all hn (fun σ => by rw [ck_sub_ev, ck_ev_c]; have : 0 < ck_ev (ρ ++ σ) a := ha σ; omega)
  case le => exact ck_asm_all hn (fun σ => ha σ)
theorem ck_b1_iff {c : Jvm.ClassFile.Cond} {x : Int32} : cz_b1 c x = true ↔ ck_hol c x.toInt := by
  have e0 : (0 : Int32).toInt = 0 := rfl
  cases c
  case eq =>
    simp only [cz_b1, ck_hol, decide_eq_true_eq]
    exact ⟨fun h => by rw [h]; rfl, fun h => Int32.toInt_inj.mp (h.trans e0.symm)⟩
  case ne =>
    simp only [cz_b1, ck_hol, decide_eq_true_eq]
    exact ⟨fun h z => h (Int32.toInt_inj.mp (z.trans e0.symm)), fun h z => h (by rw [z]; rfl)⟩
  case lt =>
    simp only [cz_b1, ck_hol, decide_eq_true_eq, Int32.lt_iff_toInt_lt, e0]
  case ge =>
    simp only [cz_b1, ck_hol, decide_eq_true_eq, Int32.le_iff_toInt_le, e0]
  case gt =>
    simp only [cz_b1, ck_hol, decide_eq_true_eq, Int32.lt_iff_toInt_lt, e0]
  case le =>
    simp only [cz_b1, ck_hol, decide_eq_true_eq, Int32.le_iff_toInt_le, e0]
theorem ck_b2_iff {c : Jvm.ClassFile.Cond} {x y : Int32} : cz_b2 c x y = true ↔ ck_hol c (x.toInt - y.toInt) := by
  cases c
  case eq =>
    simp only [cz_b2, ck_hol, decide_eq_true_eq]
    exact ⟨fun h => by rw [h]; omega, fun h => Int32.toInt_inj.mp (by omega)⟩
  case ne =>
    simp only [cz_b2, ck_hol, decide_eq_true_eq]
    exact ⟨fun h z => h (Int32.toInt_inj.mp (by omega)), fun h z => h (by rw [z]; omega)⟩
  case lt =>
    simp only [cz_b2, ck_hol, decide_eq_true_eq, Int32.lt_iff_toInt_lt]
    omega
  case ge =>
    simp only [cz_b2, ck_hol, decide_eq_true_eq, Int32.le_iff_toInt_le]
    omega
  case gt =>
    simp only [cz_b2, ck_hol, decide_eq_true_eq, Int32.lt_iff_toInt_lt]
    omega
  case le =>
    simp only [cz_b2, ck_hol, decide_eq_true_eq, Int32.le_iff_toInt_le]
    omega
theorem ck_cmp_sgn (x y : Int64) : (lg_cmp x y).toInt = if y.toInt < x.toInt then 1 else if x.toInt = y.toInt then 0 else -1 := by
  unfold lg_cmp
  simp only [gt_iff_lt, Int64.lt_iff_toInt_lt, ← Int64.toInt_inj]
  split
  · rfl
  · split <;> rfl
theorem ck_b1_cmp {c : Jvm.ClassFile.Cond} {x y : Int64} : cz_b1 c (lg_cmp x y) = true ↔ ck_hol c (x.toInt - y.toInt) := by
  rw [ck_b1_iff, ck_cmp_sgn]
  cases c <;> simp only [ck_hol] <;> (split <;> (try split) <;> omega)
theorem ck_way_mem {x : Option ck_N} {pc : Nat} {l : List (ck_N × Nat)} {w : ck_N × Nat} (h : w ∈ l) : w ∈ ck_way x pc l := by
  unfold ck_way
  split
  · exact List.mem_cons_of_mem _ h
  · exact h
theorem ck_way_self {n : ck_N} {pc : Nat} {l : List (ck_N × Nat)} : (n, pc) ∈ ck_way (some n) pc l := List.mem_cons_self
theorem ck_j_of {α : Type} {pc t : Nat} {off : Int} {k : Nat → Option α} (h : (pc : Int) + off = (t : Int)) : cz_j pc off k = k t := by
  unfold cz_j
  rw [if_pos (by omega), h]
  rfl
section CKBR
variable {E : cz_E} {Γ : ck_G} {ρ : List Int} {n : ck_N} {st st' : List ck_V} {cst : List Value} {ws : List (ck_N × Nat)}
theorem ck_two {c : Jvm.ClassFile.Cond} {a : ck_A} {t u : Nat} {b : Bool} (hn : ∀ σ, ck_nok n (ρ ++ σ)) (hb : ∀ σ, (b = true ↔ ck_hol c (ck_ev (ρ ++ σ) a))) : ∃ w ∈ ck_way (ck_cnd n c a) t (ck_way (ck_cnd n (ck_ng c) a) u []), w.2 = (if b = true then t else u) ∧ w.1.1.length = n.1.length ∧ ∀ σ, ck_nok w.1 (ρ ++ σ) := by
  by_cases h : b = true
  · obtain ⟨n', e, l, h'⟩ := ck_cnd_all (c := c) hn (fun σ => (hb σ).mp h)
    rw [e]
    exact ⟨(n', t), ck_way_self, by rw [if_pos h], l, h'⟩
  · obtain ⟨n', e, l, h'⟩ := ck_cnd_all (c := ck_ng c) (a := a) hn (fun σ => ck_hol_ng (fun z => h ((hb σ).mpr z)))
    refine ⟨(n', u), ck_way_mem ?_, by rw [if_neg h], l, h'⟩
    rw [e]
    exact ck_way_self
theorem ck_tsw_ok {a : ck_A} {pc : Nat} {x : Int} (hn : ∀ σ, ck_nok n (ρ ++ σ)) (hx : ∀ σ, x = ck_ev (ρ ++ σ) a) : ∀ {offs : List Int} {k : Int} {r : List (ck_N × Nat)}, ck_tsw n a pc offs k = some r → k ≤ x → x < k + (offs.length : Int) → ∃ off, offs[(x - k).toNat]? = some off ∧ ∃ t : Nat, (pc : Int) + off = (t : Int) ∧ ∃ w ∈ r, w.2 = t ∧ w.1.1.length = n.1.length ∧ ∀ σ, ck_nok w.1 (ρ ++ σ)
  | [], k, r, _, h1, h2 => by
    have h2 : x < k + ((0 : Nat) : Int) := h2
    omega
  | o :: l, k, r, e, h1, h2 => by
    unfold ck_tsw at e
    obtain ⟨r1, e1, e2⟩ := cz_so_some e
    obtain ⟨t, ht, e3⟩ := cz_j_some e2
    cases e3
    by_cases hk : x = k
    · obtain ⟨n', e4, l4, h4⟩ := ck_ase_all (a := ck_sub a (ck_c k)) hn (fun σ => by rw [ck_sub_ev, ck_ev_c, ← hx σ]; omega)
      refine ⟨o, ?_, t, ht, (n', t), ?_, rfl, l4, h4⟩
      · have : (x - k).toNat = 0 := by omega
        rw [this]
        rfl
      · rw [e4]
        exact ck_way_self
    · have h2 : x < k + ((l.length + 1 : Nat) : Int) := h2
      obtain ⟨off, g1, t', g2, w, g3, g4⟩ := ck_tsw_ok hn hx e1 (by omega) (by push_cast at h2; omega)
      refine ⟨off, ?_, t', g2, w, ck_way_mem g3, g4⟩
      have : (x - k).toNat = (x - (k + 1)).toNat + 1 := by omega
      rw [this]
      exact g1
theorem ck_lsw_ok {a : ck_A} {pc t0 : Nat} {x df : Int} (hn : ∀ σ, ck_nok n (ρ ++ σ)) (hx : ∀ σ, x = ck_ev (ρ ++ σ) a) (hd : (pc : Int) + df = (t0 : Int)) : ∀ {ps : List (Int × Int)} {r : List (ck_N × Nat)}, ck_lsw n a pc ps = some r → ∃ t : Nat, (pc : Int) + Op.lookupswitch.offset ps df x = (t : Int) ∧ ∃ w ∈ (n, t0) :: r, w.2 = t ∧ w.1.1.length = n.1.length ∧ ∀ σ, ck_nok w.1 (ρ ++ σ)
  | [], r, _ => ⟨t0, hd, (n, t0), List.mem_cons_self, rfl, rfl, hn⟩
  | (a0, o) :: l, r, e => by
    unfold ck_lsw at e
    obtain ⟨r1, e1, e2⟩ := cz_so_some e
    obtain ⟨t, ht, e3⟩ := cz_j_some e2
    cases e3
    rw [Op.lookupswitch.offset_cons]
    by_cases hk : a0 = x
    · rw [if_pos hk]
      obtain ⟨n', e4, l4, h4⟩ := ck_ase_all (a := ck_sub a (ck_c a0)) hn (fun σ => by rw [ck_sub_ev, ck_ev_c, ← hx σ]; omega)
      refine ⟨t, ht, (n', t), List.mem_cons_of_mem _ ?_, rfl, l4, h4⟩
      rw [e4]
      exact ck_way_self
    · rw [if_neg hk]
      obtain ⟨t', g2, w, g3, g4⟩ := ck_lsw_ok hn hx hd e1
      refine ⟨t', g2, w, ?_, g4⟩
      rcases List.mem_cons.mp g3 with g3 | g3
      · rw [g3]
        exact List.mem_cons_self
      · exact List.mem_cons_of_mem _ (ck_way_mem g3)
theorem ck_br_ok {nL : Nat} {q : cz_I} {clv : cz_LV} (hn : ∀ σ, ck_nok n (ρ ++ σ)) (hs : ck_Ls (ck_Ds E Γ ρ) st cst) (e : ck_br q n st = some (ws, st')) : ∃ w ∈ ws, ∃ cst', cz_s1 E nL q clv cst = some (w.2, clv, cst') ∧ w.1.1.length = n.1.length ∧ (∀ σ, ck_nok w.1 (ρ ++ σ)) ∧ ck_Ls (ck_Ds E Γ ρ) st' cst' := by
  obtain ⟨pc, ins, len, xa, xb⟩ := q
  cases ins
  case ifCond c off =>
    obtain ⟨e0, e1⟩ := cz_n_some e
    have e0 : len = 3 := e0
    subst e0
    obtain ⟨v, r, rfl, e2⟩ := ck_qv_some e1
    obtain ⟨t, ht, e3⟩ := cz_j_some e2
    obtain ⟨hv, e4⟩ := cz_if_some e3
    simp only [Bool.or_eq_true, beq_iff_eq] at hv
    dsimp only at e4
    obtain ⟨x, cr, rfl, hx, hr⟩ := ck_Ls.cons hs
    have key : ∃ y : Int32, x = .int y ∧ ∀ σ, (cz_b1 c y = true ↔ ck_hol c (ck_ev (ρ ++ σ) (if v.1 = 0 then v.2.2.2.1 else ck_sub v.2.2.2.1 v.2.2.2.2))) := by
      rcases hv with t0 | t2
      · obtain ⟨z, rfl, hz⟩ := ck_int hx t0
        refine ⟨z, rfl, fun σ => ?_⟩
        rw [if_pos t0, ← hz σ]
        exact ck_b1_iff
      · have d : ∀ σ, ∃ z w : Int64, x = .int (lg_cmp z w) ∧ z.toInt = ck_ev (ρ ++ σ) v.2.2.2.1 ∧ w.toInt = ck_ev (ρ ++ σ) v.2.2.2.2 := by
          intro σ
          have := hx σ
          unfold ck_D at this
          rw [t2] at this
          exact this
        obtain ⟨z0, w0, rfl, -⟩ := d []
        refine ⟨_, rfl, fun σ => ?_⟩
        obtain ⟨z, w, q1, q2, q3⟩ := d σ
        have q1 : lg_cmp z0 w0 = lg_cmp z w := by injection q1
        rw [q1, if_neg (by omega), ck_sub_ev, ← q2, ← q3]
        exact ck_b1_cmp
    obtain ⟨y, rfl, hy⟩ := key
    obtain ⟨w, g1, g2, g3, g4⟩ := ck_two (t := t) (u := pc + 3) hn hy
    injection e4 with e4
    injection e4 with a1 a2
    rw [← a1, ← a2]
    refine ⟨w, g1, cr, ?_, g3, g4, hr⟩
    show cz_n 3 3 (cz_j pc off fun t => some (if cz_b1 c y = true then t else pc + 3, clv, cr)) = _
    rw [ck_j_of ht, g2]
    rfl
  case if_icmp c off =>
    obtain ⟨e0, e1⟩ := cz_n_some e
    have e0 : len = 3 := e0
    subst e0
    obtain ⟨yv, xv, r, rfl, ty, tx, e2⟩ := ck_qj_some e1
    obtain ⟨t, ht, e3⟩ := cz_j_some e2
    dsimp only at e3
    obtain ⟨y, cr0, rfl, hy, hr0⟩ := ck_Ls.cons hs
    obtain ⟨x, cr, rfl, hx, hr⟩ := ck_Ls.cons hr0
    obtain ⟨zy, rfl, hzy⟩ := ck_int hy ty
    obtain ⟨zx, rfl, hzx⟩ := ck_int hx tx
    obtain ⟨w, g1, g2, g3, g4⟩ := ck_two (c := c) (a := ck_sub xv.2.2.2.1 yv.2.2.2.1) (b := cz_b2 c zx zy) (t := t) (u := pc + 3) hn (fun σ => by rw [ck_sub_ev, ← hzx σ, ← hzy σ]; exact ck_b2_iff)
    injection e3 with e3
    injection e3 with a1 a2
    rw [← a1, ← a2]
    refine ⟨w, g1, cr, ?_, g3, g4, hr⟩
    show cz_n 3 3 (cz_j pc off fun t => some (if cz_b2 c zx zy = true then t else pc + 3, clv, cr)) = _
    rw [ck_j_of ht, g2]
    rfl
  case ifnull off =>
    obtain ⟨e0, e1⟩ := cz_n_some e
    have e0 : len = 3 := e0
    subst e0
    obtain ⟨v, r, rfl, e2⟩ := ck_qv_some e1
    obtain ⟨t, ht, e3⟩ := cz_j_some e2
    obtain ⟨x, cr, rfl, hx, hr⟩ := ck_Ls.cons hs
    have go : cz_isA x = true → cz_s1 E nL (pc, .ifnull off, 3, xa, xb) clv (x :: cr) = some (if x = .null then t else pc + 3, clv, cr) := by
      intro hi
      show cz_n 3 3 (cz_if (cz_isA x) (cz_j pc off fun t => some (if x = .null then t else pc + 3, clv, cr))) = _
      rw [hi, ck_j_of ht]
      rfl
    simp only at e3
    split at e3
    · next t3 =>
      cases e3
      obtain ⟨p, rfl, -⟩ := ck_D39 hx (Or.inl t3)
      refine ⟨(n, pc + 3), List.mem_cons_self, cr, ?_, rfl, hn, hr⟩
      rw [go rfl, if_neg (by intro z; cases z)]
    · next t5 =>
      cases e3
      have hx0 := hx []
      unfold ck_D at hx0
      rw [t5] at hx0
      have hx0 : x = .null := hx0
      subst hx0
      refine ⟨(n, t), List.mem_cons_self, cr, ?_, rfl, hn, hr⟩
      rw [go rfl, if_pos rfl]
    · next t4 =>
      cases e3
      rcases ck_D4 (hx []) t4 with ⟨rfl, -⟩ | ⟨p, rfl, -⟩
      · obtain ⟨n', e4, l4, h4⟩ := ck_ase_all (a := ck_add (ck_v v.2.1) (ck_c 1)) hn (fun σ => by
          rcases ck_D4 (hx σ) t4 with ⟨-, q⟩ | ⟨p, q, -⟩
          · rw [ck_add_ev, ck_ev_v, ck_ev_c, q]; rfl
          · cases q)
        refine ⟨(n', t), ?_, cr, ?_, l4, h4, hr⟩
        · rw [e4]
          exact ck_way_self
        · rw [go rfl, if_pos rfl]
      · obtain ⟨n', e4, l4, h4⟩ := ck_asm_all (a := ck_mul (-1) (ck_v v.2.1)) hn (fun σ => by
          rcases ck_D4 (hx σ) t4 with ⟨q, -⟩ | ⟨p', -, q, -⟩
          · cases q
          · rw [ck_mul_ev, ck_ev_v, ← q]; omega)
        refine ⟨(n', pc + 3), ck_way_mem ?_, cr, ?_, l4, h4, hr⟩
        · rw [e4]
          exact ck_way_self
        · rw [go rfl, if_neg (by intro z; cases z)]
    · cases e3
  case ifnonnull off =>
    obtain ⟨e0, e1⟩ := cz_n_some e
    have e0 : len = 3 := e0
    subst e0
    obtain ⟨v, r, rfl, e2⟩ := ck_qv_some e1
    obtain ⟨t, ht, e3⟩ := cz_j_some e2
    obtain ⟨x, cr, rfl, hx, hr⟩ := ck_Ls.cons hs
    have go : cz_isA x = true → cz_s1 E nL (pc, .ifnonnull off, 3, xa, xb) clv (x :: cr) = some (if x = .null then pc + 3 else t, clv, cr) := by
      intro hi
      show cz_n 3 3 (cz_if (cz_isA x) (cz_j pc off fun t => some (if x = .null then pc + 3 else t, clv, cr))) = _
      rw [hi, ck_j_of ht]
      rfl
    simp only at e3
    split at e3
    · next t3 =>
      cases e3
      obtain ⟨p, rfl, -⟩ := ck_D39 hx (Or.inl t3)
      refine ⟨(n, t), List.mem_cons_self, cr, ?_, rfl, hn, hr⟩
      rw [go rfl, if_neg (by intro z; cases z)]
    · next t5 =>
      cases e3
      have hx0 := hx []
      unfold ck_D at hx0
      rw [t5] at hx0
      have hx0 : x = .null := hx0
      subst hx0
      refine ⟨(n, pc + 3), List.mem_cons_self, cr, ?_, rfl, hn, hr⟩
      rw [go rfl, if_pos rfl]
    · next t4 =>
      cases e3
      rcases ck_D4 (hx []) t4 with ⟨rfl, -⟩ | ⟨p, rfl, -⟩
      · obtain ⟨n', e4, l4, h4⟩ := ck_ase_all (a := ck_add (ck_v v.2.1) (ck_c 1)) hn (fun σ => by
          rcases ck_D4 (hx σ) t4 with ⟨-, q⟩ | ⟨p, q, -⟩
          · rw [ck_add_ev, ck_ev_v, ck_ev_c, q]; rfl
          · cases q)
        refine ⟨(n', pc + 3), ?_, cr, ?_, l4, h4, hr⟩
        · rw [e4]
          exact ck_way_self
        · rw [go rfl, if_pos rfl]
      · obtain ⟨n', e4, l4, h4⟩ := ck_asm_all (a := ck_mul (-1) (ck_v v.2.1)) hn (fun σ => by
          rcases ck_D4 (hx σ) t4 with ⟨q, -⟩ | ⟨p', -, q, -⟩
          · cases q
          · rw [ck_mul_ev, ck_ev_v, ← q]; omega)
        refine ⟨(n', t), ck_way_mem ?_, cr, ?_, l4, h4, hr⟩
        · rw [e4]
          exact ck_way_self
        · rw [go rfl, if_neg (by intro z; cases z)]
    · cases e3
  case tableswitch df lo hi offs =>
    unfold ck_br at e
    dsimp only at e
    obtain ⟨v, r, rfl, t0, e1⟩ := ck_qi_some e
    obtain ⟨t, ht, e2⟩ := cz_j_some e1
    obtain ⟨hlen, e3⟩ := cz_if_some e2
    have hlen : (offs.toList.length : Int) = hi - lo + 1 := of_decide_eq_true hlen
    obtain ⟨l, e4, e5⟩ := cz_so_some e3
    cases e5
    obtain ⟨x, cr, rfl, hx, hr⟩ := ck_Ls.cons hs
    obtain ⟨z, rfl, hz⟩ := ck_int hx t0
    have go : cz_s1 E nL (pc, .tableswitch df lo hi offs, len, xa, xb) clv (.int z :: cr) = if z.toInt < lo ∨ hi < z.toInt then cz_j pc df fun t => some (t, clv, cr) else match offs[(z.toInt - lo).toNat]? with
      | some off => cz_j pc off fun t => some (t, clv, cr)
      | none => none := rfl
    rw [go]
    by_cases h1 : z.toInt < lo
    · obtain ⟨n', e6, l6, h6⟩ := ck_asm_all (a := ck_add (ck_sub v.2.2.2.1 (ck_c lo)) (ck_c 1)) hn (fun σ => by rw [ck_add_ev, ck_sub_ev, ck_ev_c, ck_ev_c, ← hz σ]; omega)
      refine ⟨(n', t), ?_, cr, ?_, l6, h6, hr⟩
      · rw [e6]
        exact ck_way_self
      · rw [if_pos (Or.inl h1), ck_j_of ht]
    · by_cases h2 : hi < z.toInt
      · obtain ⟨n', e6, l6, h6⟩ := ck_asm_all (a := ck_add (ck_sub (ck_c hi) v.2.2.2.1) (ck_c 1)) hn (fun σ => by rw [ck_add_ev, ck_sub_ev, ck_ev_c, ck_ev_c, ← hz σ]; omega)
        refine ⟨(n', t), ck_way_mem ?_, cr, ?_, l6, h6, hr⟩
        · rw [e6]
          exact ck_way_self
        · rw [if_pos (Or.inr h2), ck_j_of ht]
      · obtain ⟨off, g1, t', g2, w, g3, g4, g5, g6⟩ := ck_tsw_ok hn hz e4 (by omega) (by omega)
        refine ⟨w, ck_way_mem (ck_way_mem g3), cr, ?_, g5, g6, hr⟩
        have g1 : offs[(z.toInt - lo).toNat]? = some off := by rw [← g1]; simp
        rw [if_neg (by omega), g1]
        show cz_j pc off (fun t => some (t, clv, cr)) = _
        rw [ck_j_of g2, g4]
  case lookupswitch df ps =>
    unfold ck_br at e
    dsimp only at e
    obtain ⟨v, r, rfl, t0, e1⟩ := ck_qi_some e
    obtain ⟨t, ht, e2⟩ := cz_j_some e1
    obtain ⟨hsw, e3⟩ := cz_if_some e2
    obtain ⟨l, e4, e5⟩ := cz_so_some e3
    cases e5
    obtain ⟨x, cr, rfl, hx, hr⟩ := ck_Ls.cons hs
    obtain ⟨z, rfl, hz⟩ := ck_int hx t0
    obtain ⟨t', g2, w, g3, g4, g5, g6⟩ := ck_lsw_ok hn hz ht e4
    refine ⟨w, g3, cr, ?_, g5, g6, hr⟩
    show cz_if (cz_sw ps.toList) (cz_j pc (Op.lookupswitch.offset ps.toList df z.toInt) fun t => some (t, clv, cr)) = _
    rw [hsw, ck_j_of g2, g4]
    rfl
  all_goals cases e
end CKBR
