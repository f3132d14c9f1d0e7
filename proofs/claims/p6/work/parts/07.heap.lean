/-! the clean machine: instructions that read or write the heap -/
def cz_so {α β : Type} (x : Option β) (k : β → Option α) : Option α := match x with
  | some v => k v
  | none => none
theorem cz_so_some {α β : Type} {x : Option β} {k : β → Option α} {r : α} (h : cz_so x k = some r) : ∃ v, x = some v ∧ k v = some r := by
  unfold cz_so at h
  split at h
  · exact ⟨_, rfl, h⟩
  · cases h
def cz_ob {α : Type} (x : Option cz_C) (k : Nat → List Value → Option α) : Option α := match x with
  | some (.inr (ci, fs)) => k ci fs
  | _ => none
theorem cz_ob_some {α : Type} {x : Option cz_C} {k : Nat → List Value → Option α} {r : α} (h : cz_ob x k = some r) : ∃ ci fs, x = some (.inr (ci, fs)) ∧ k ci fs = some r := by
  unfold cz_ob at h
  split at h
  · exact ⟨_, _, rfl, h⟩
  · cases h
def cz_ai {α : Type} (x : Option cz_C) (k : Nat → Nat → (Nat → Int32) → Option α) : Option α := match x with
  | some (.inl (tc, n, .inl f)) => k tc n f
  | _ => none
theorem cz_ai_some {α : Type} {x : Option cz_C} {k : Nat → Nat → (Nat → Int32) → Option α} {r : α} (h : cz_ai x k = some r) : ∃ tc n f, x = some (.inl (tc, n, .inl f)) ∧ k tc n f = some r := by
  unfold cz_ai at h
  split at h
  · exact ⟨_, _, _, rfl, h⟩
  · cases h
def cz_al {α : Type} (x : Option cz_C) (k : Nat → Nat → (Nat → Int64) → Option α) : Option α := match x with
  | some (.inl (tc, n, .inr (.inl f))) => k tc n f
  | _ => none
theorem cz_al_some {α : Type} {x : Option cz_C} {k : Nat → Nat → (Nat → Int64) → Option α} {r : α} (h : cz_al x k = some r) : ∃ tc n f, x = some (.inl (tc, n, .inr (.inl f))) ∧ k tc n f = some r := by
  unfold cz_al at h
  split at h
  · exact ⟨_, _, _, rfl, h⟩
  · cases h
def cz_aq {α : Type} (x : Option cz_C) (k : Nat → Nat → (Nat → Option Nat) → Option α) : Option α := match x with
  | some (.inl (tc, n, .inr (.inr (.inr (.inr f))))) => k tc n f
  | _ => none
theorem cz_aq_some {α : Type} {x : Option cz_C} {k : Nat → Nat → (Nat → Option Nat) → Option α} {r : α} (h : cz_aq x k = some r) : ∃ tc n f, x = some (.inl (tc, n, .inr (.inr (.inr (.inr f))))) ∧ k tc n f = some r := by
  unfold cz_aq at h
  split at h
  · exact ⟨_, _, _, rfl, h⟩
  · cases h
def cz_an {α : Type} (x : Option cz_C) (k : Nat → vp_A → Option α) : Option α := match x with
  | some (.inl (tc, y)) => k tc y
  | _ => none
theorem cz_an_some {α : Type} {x : Option cz_C} {k : Nat → vp_A → Option α} {r : α} (h : cz_an x k = some r) : ∃ tc y, x = some (.inl (tc, y)) ∧ k tc y = some r := by
  unfold cz_an at h
  split at h
  · exact ⟨_, _, rfl, h⟩
  · cases h
def cz_vo {α : Type} (st : List Value) (k : Value → Nat → List Value → Option α) : Option α := match st with
  | v :: .ref a :: r => k v a r
  | _ => none
theorem cz_vo_some {α : Type} {st : List Value} {k : Value → Nat → List Value → Option α} {r : α} (h : cz_vo st k = some r) : ∃ v a rest, st = v :: .ref a :: rest ∧ k v a rest = some r := by
  unfold cz_vo at h
  split at h
  · exact ⟨_, _, _, rfl, h⟩
  · cases h
def cz_ac {α : Type} (st : List Value) (k : Int32 → Int32 → Nat → Int32 → Nat → List Value → Option α) : Option α := match st with
  | .int n :: .int dp :: .ref a :: .int sp :: .ref a0 :: r => k n dp a sp a0 r
  | _ => none
theorem cz_ac_some {α : Type} {st : List Value} {k : Int32 → Int32 → Nat → Int32 → Nat → List Value → Option α} {r : α} (h : cz_ac st k = some r) : ∃ n dp a sp a0 rest, st = .int n :: .int dp :: .ref a :: .int sp :: .ref a0 :: rest ∧ k n dp a sp a0 rest = some r := by
  unfold cz_ac at h
  split at h
  · exact ⟨_, _, _, _, _, _, rfl, h⟩
  · cases h
def cz_at (E : cz_E) (h : cz_H) (a : Nat) : Option cz_C := if E.1 ≤ a then h[a - E.1]? else none
theorem cz_at_some {E : cz_E} {h : cz_H} {a : Nat} {c : cz_C} (g : cz_at E h a = some c) : E.1 ≤ a ∧ h[a - E.1]? = some c := by
  unfold cz_at at g
  split at g
  · exact ⟨by assumption, g⟩
  · cases g
def cz_in (i : Int32) (n : Nat) : Bool := decide (¬ i < 0) && decide (i.toNatClampNeg < n)
theorem cz_in_of {i : Int32} {n : Nat} (h : cz_in i n = true) : vp_in i n := by
  obtain ⟨h1, h2⟩ := Bool.and_eq_true_iff.mp h
  rintro (z | z)
  · exact (of_decide_eq_true h1) z
  · exact absurd (of_decide_eq_true h2) (Nat.not_lt.mpr z)
def cz_sl : List Nat := [6, 3, 4, 4, 4, 2, 3, 4, 1, 1, 4, 3, 5, 7]
def cz_sb : List (List Int32) := [[110, 97, 116, 105, 111, 110], [102, 101, 101], [118, 111, 116, 101], [112, 97, 114, 116], [116, 117, 114, 110], [105, 102], [110, 111, 116], [108, 97, 110, 100], [120], [121], [110, 101, 97, 114], [97, 110, 100], [104, 101, 97, 100, 115], [110, 97, 116, 105, 111, 110, 115]]
def cz_fd (f : Nat → Nat) (a : Nat) : Nat → Option Nat
  | 0 => none
  | n + 1 => match cz_fd f a n with
    | some i => some i
    | none => if f n = a then some n else none
theorem cz_fd_some {f : Nat → Nat} {a n i : Nat} (h : cz_fd f a n = some i) : i < n ∧ f i = a := by
  induction n with
  | zero => cases h
  | succ n ih =>
    unfold cz_fd at h
    split at h
    · next j hj => cases h; exact ⟨Nat.lt_succ_of_lt (ih hj).1, (ih hj).2⟩
    · split at h
      · next e => cases h; exact ⟨Nat.lt_succ_self _, e⟩
      · cases h
/-- which text a cell is; which text's row of bytes -/
def cz_ks (E : cz_E) (a : Nat) : Option Nat := cz_fd E.2.2.1 a 14
def cz_vs (E : cz_E) (a : Nat) : Option Nat := cz_fd E.2.2.2.1 a 14
def cz_sum (r : List Value) : Nat := (r.map fun v => v.category).sum
def cz_na (ty : ArrayType) (n : Nat) : Option cz_C := match ty with
  | .int => some (.inl (0, n, .inl fun _ => 0))
  | .byte => some (.inl (1, n, .inl fun _ => 0))
  | .long => some (.inl (2, n, .inr (.inl fun _ => 0)))
  | .char => some (.inl (3, n, .inl fun _ => 0))
  | .boolean => some (.inl (4, n, .inl fun _ => 0))
  | _ => none
def cz_ck (b : Bool) (n : Int32) : Bool := decide (¬ n < 0) && decide (n.toNatClampNeg ≤ 100000) && b
def cz_s2 (E : cz_E) (q : cz_I) (st : List Value) (h : cz_H) : Option (Nat × List Value × cz_H) :=
  match q.2.1 with
  | .getfield _ => cz_n q.2.2.1 3 (cz_r1 st fun a r => if q.2.2.2.1 = 100 then (cz_so (cz_ks E a) fun i => some (q.1 + 3, (if q.2.2.2.2 = 0 then Value.ref (E.2.2.2.1 i) else Value.int 0) :: r, h)) else cz_ob (cz_at E h a) fun ci fs => cz_if (ci == q.2.2.2.1) (cz_so fs[q.2.2.2.2.toNat]? fun v => some (q.1 + 3, v :: r, h)))
  | .putfield _ => cz_n q.2.2.1 3 (cz_vo st fun v a r => cz_ob (cz_at E h a) fun ci fs => cz_if (ci == q.2.2.2.1 && decide (q.2.2.2.2.toNat < fs.length) && decide (narrow (cz_fty ci q.2.2.2.2.toNat) v = v) && fits (cz_fty ci q.2.2.2.2.toNat) v) (some (q.1 + 3, r, h.set (a - E.1) (.inr (ci, fs.set q.2.2.2.2.toNat v)))))
  | .iaload => cz_n q.2.2.1 1 (cz_ir st fun i a r => if a = E.2.1.1 ∧ a < E.1 then cz_if (cz_in i E.2.1.2.1) (some (q.1 + 1, .int (E.2.1.2.2 i.toNatClampNeg) :: r, h)) else cz_ai (cz_at E h a) fun tc n f => cz_if (tc == 0 && cz_in i n) (some (q.1 + 1, .int (f i.toNatClampNeg) :: r, h)))
  | .baload => cz_n q.2.2.1 1 (cz_ir st fun i a r => match cz_vs E a with
    | some k => cz_if (cz_in i (cz_sl.getD k 0)) (some (q.1 + 1, .int ((cz_sb.getD k []).getD i.toNatClampNeg 0) :: r, h))
    | none => cz_ai (cz_at E h a) fun tc n f => cz_if ((tc == 1 || tc == 4) && cz_in i n) (some (q.1 + 1, .int (f i.toNatClampNeg) :: r, h)))
  | .caload => cz_n q.2.2.1 1 (cz_ir st fun i a r => cz_ai (cz_at E h a) fun tc n f => cz_if (tc == 3 && cz_in i n) (some (q.1 + 1, .int (f i.toNatClampNeg) :: r, h)))
  | .laload => cz_n q.2.2.1 1 (cz_ir st fun i a r => cz_al (cz_at E h a) fun tc n f => cz_if (tc == 2 && cz_in i n) (some (q.1 + 1, .long (f i.toNatClampNeg) :: r, h)))
  | .aaload => cz_n q.2.2.1 1 (cz_ir st fun i a r => cz_aq (cz_at E h a) fun tc n f => cz_if ((tc == 5 || tc == 6) && cz_in i n) (some (q.1 + 1, va_rf (f i.toNatClampNeg) :: r, h)))
  | .iastore => cz_n q.2.2.1 1 (cz_vr st fun v i a r => cz_ki (some v) fun x => cz_ai (cz_at E h a) fun tc n f => cz_if (tc == 0 && cz_in i n) (some (q.1 + 1, r, h.set (a - E.1) (.inl (0, n, .inl (upd f i.toNatClampNeg x))))))
  | .bastore => cz_n q.2.2.1 1 (cz_vr st fun v i a r => cz_ki (some v) fun x => cz_ai (cz_at E h a) fun tc n f => cz_if ((tc == 1 || tc == 4) && cz_in i n) (some (q.1 + 1, r, h.set (a - E.1) (.inl (tc, n, .inl (upd f i.toNatClampNeg (vp_nar (cz_ty tc) x)))))))
  | .castore => cz_n q.2.2.1 1 (cz_vr st fun v i a r => cz_ki (some v) fun x => cz_ai (cz_at E h a) fun tc n f => cz_if (tc == 3 && cz_in i n) (some (q.1 + 1, r, h.set (a - E.1) (.inl (3, n, .inl (upd f i.toNatClampNeg (vp_nar .char x)))))))
  | .lastore => cz_n q.2.2.1 1 (cz_vr st fun v i a r => cz_kl (some v) fun x => cz_al (cz_at E h a) fun tc n f => cz_if (tc == 2 && cz_in i n) (some (q.1 + 1, r, h.set (a - E.1) (.inl (2, n, .inr (.inl (vp_updL f i.toNatClampNeg x)))))))
  | .aastore => cz_n q.2.2.1 1 (cz_vr st fun v i a r => cz_aq (cz_at E h a) fun tc n f => cz_if ((tc == 5 || tc == 6) && cz_in i n) (match v with
    | .null => some (q.1 + 1, r, h.set (a - E.1) (.inl (tc, n, .inr (.inr (.inr (.inr (va_up f i.toNatClampNeg none)))))))
    | .ref o => cz_ob (cz_at E h o) fun ci _ => cz_if ((tc == 5 && ci == 10) || (tc == 6 && ci == 9)) (some (q.1 + 1, r, h.set (a - E.1) (.inl (tc, n, .inr (.inr (.inr (.inr (va_up f i.toNatClampNeg (some o)))))))))
    | _ => none))
  | .arraylength => cz_n q.2.2.1 1 (cz_r1 st fun a r => if a = E.2.1.1 ∧ a < E.1 then some (q.1 + 1, .int (Int32.ofNat E.2.1.2.1) :: r, h) else match cz_vs E a with
    | some k => some (q.1 + 1, .int (Int32.ofNat (cz_sl.getD k 0)) :: r, h)
    | none => cz_an (cz_at E h a) fun tc x => cz_if (decide (tc < 7)) (some (q.1 + 1, .int (Int32.ofNat x.1) :: r, h)))
  | .new _ => cz_n q.2.2.1 3 (cz_if (q.2.2.2.2 == 0 && decide (q.2.2.2.1 < 13)) (some (q.1 + 3, .ref (E.1 + h.length) :: st, h ++ [.inr (q.2.2.2.1, cz_df q.2.2.2.1)])))
  | .newarray ty => cz_n q.2.2.1 2 (cz_i1 st fun n r => cz_if (cz_ck true n) (cz_so (cz_na ty n.toNatClampNeg) fun c => some (q.1 + 2, .ref (E.1 + h.length) :: r, h ++ [c])))
  | .anewarray _ => cz_n q.2.2.1 3 (cz_i1 st fun n r => cz_if (cz_ck (q.2.2.2.1 == 5 || q.2.2.2.1 == 6) n) (some (q.1 + 3, .ref (E.1 + h.length) :: r, h ++ [.inl (q.2.2.2.1, n.toNatClampNeg, .inr (.inr (.inr (.inr fun _ => none))))])))
  | .invokespecial _ => cz_n q.2.2.1 3 (cz_if (q.2.2.2.2 == -4) (cz_r1 st fun _ r => cz_if (decide (cz_sum r ≤ 8)) (some (q.1 + 3, r, h))))
  | .invokestatic _ => cz_n q.2.2.1 3 (cz_if (q.2.2.2.2 == -5) (cz_ac st fun n dp a sp a0 r => cz_if (decide (¬ sp < 0) && decide (¬ dp < 0) && decide (¬ n < 0) && decide (cz_sum r ≤ 8)) (match cz_at E h a0 with
    | some (.inl (t0, n0, .inl f)) => cz_ai (cz_at E h a) fun t1 n1 g => cz_if (t0 == t1 && (t0 == 0 || t0 == 1 || t0 == 3 || t0 == 4) && decide (sp.toNatClampNeg + n.toNatClampNeg ≤ n0) && decide (dp.toNatClampNeg + n.toNatClampNeg ≤ n1) && (List.range n.toNatClampNeg).all (fun i => fits (cz_ty t0) (.int (f (sp.toNatClampNeg + i))))) (some (q.1 + 3, r, h.set (a - E.1) (.inl (t1, n1, .inl (va_cpy f g sp.toNatClampNeg dp.toNatClampNeg n.toNatClampNeg)))))
    | some (.inl (t0, n0, .inr (.inl f))) => cz_al (cz_at E h a) fun t1 n1 g => cz_if (t0 == 2 && t1 == 2 && decide (sp.toNatClampNeg + n.toNatClampNeg ≤ n0) && decide (dp.toNatClampNeg + n.toNatClampNeg ≤ n1)) (some (q.1 + 3, r, h.set (a - E.1) (.inl (t1, n1, .inr (.inl (va_cpy f g sp.toNatClampNeg dp.toNatClampNeg n.toNatClampNeg))))))
    | _ => none)))
  | .getstatic _ => cz_n q.2.2.1 3 (if q.2.2.2.1 = 0 then some (q.1 + 3, .int 1 :: st, h) else cz_if (q.2.2.2.1 == 1) (some (q.1 + 3, E.2.2.2.2 :: st, h)))
  | _ => none
/-! calls and returns -/
def cz_pop {α : Type} (n : Nat) (st : List Value) (k : List Value → List Value → Option α) : Option α := if n ≤ st.length then k (st.take n).reverse (st.drop n) else none
theorem cz_pop_some {α : Type} {n : Nat} {st : List Value} {k : List Value → List Value → Option α} {r : α} (h : cz_pop n st k = some r) : ∃ as rest, st = as.reverse ++ rest ∧ as.length = n ∧ k as rest = some r := by
  unfold cz_pop at h
  split at h
  · next e => exact ⟨_, _, by rw [List.reverse_reverse, List.take_append_drop], by simp [e], h⟩
  · cases h
def cz_mf (i : Nat) : Nat × String × MethodName × ByteArray × Nat × Option FieldType := cz_mi.getD i (0, "", yL_law, code, 0, none)
/-- the object that a call is made upon: of the method's own kind -/
def cz_rc (E : cz_E) (h : cz_H) (cn : Nat) (as : List Value) : Bool := match as with
  | .ref a :: _ => if cn = 15 then (cz_ks E a).isSome else match cz_at E h a with
    | some (.inr (ci, _)) => ci == cn && decide (cn < 13)
    | _ => false
  | _ => false
def cz_nr (tc : Nat) (x : Int32) : Bool := match tc with
  | 0 => true
  | 1 => decide (narrow .boolean (.int x) = .int x)
  | 2 => decide (narrow .char (.int x) = .int x)
  | _ => decide (narrow .byte (.int x) = .int x)
def cz_s3 (E : cz_E) (q : cz_I) (st : List Value) (h : cz_H) : Option ((Nat × List Value × List Value) ⊕ Option Value) :=
  match q.2.1 with
  | .invokevirtual _ => cz_n q.2.2.1 3 (cz_if (decide (0 < q.2.2.2.2)) (cz_pop q.2.2.2.2.toNat st fun as r => cz_if (cz_rc E h (cz_mf q.2.2.2.1).1 as && decide (cz_sum r ≤ 8) && decide (cz_sum as ≤ (cz_mf q.2.2.2.1).2.2.2.2.1)) (some (.inl (q.2.2.2.1, as, r)))))
  | .invokestatic _ => cz_n q.2.2.1 3 (cz_if (decide (0 ≤ q.2.2.2.2)) (cz_pop q.2.2.2.2.toNat st fun as r => cz_if (decide (cz_sum r ≤ 8) && decide (cz_sum as ≤ (cz_mf q.2.2.2.1).2.2.2.2.1)) (some (.inl (q.2.2.2.1, as, r)))))
  | .invokespecial _ => cz_n q.2.2.1 3 (cz_if (decide (0 < q.2.2.2.2)) (cz_pop q.2.2.2.2.toNat st fun as r => cz_if (cz_rc E h (cz_mf q.2.2.2.1).1 as && decide (cz_sum r ≤ 8) && decide (cz_sum as ≤ (cz_mf q.2.2.2.1).2.2.2.2.1)) (some (.inl (q.2.2.2.1, as, r)))))
  | .ireturn => cz_n q.2.2.1 1 (cz_i1 st fun x r => cz_if (r.isEmpty && cz_nr q.2.2.2.1 x) (some (.inr (some (.int x)))))
  | .lreturn => cz_n q.2.2.1 1 (cz_l1 st fun x r => cz_if r.isEmpty (some (.inr (some (.long x)))))
  | .areturn => cz_n q.2.2.1 1 (cz_v1 st fun x r => cz_if (r.isEmpty && cz_isA x) (some (.inr (some x))))
  | .return_ => cz_n q.2.2.1 1 (cz_if st.isEmpty (some (.inr none)))
  | _ => none
def cz_cd (mi : Nat) : List cz_I := cz_mt.getD mi []
def cz_ft2 (l : List cz_I) (pc : Nat) : Option cz_I := match l with
  | [] => none
  | q :: l => if q.1 = pc then some q else cz_ft2 l pc
theorem cz_ft2_mem {l : List cz_I} {pc : Nat} {q : cz_I} (h : cz_ft2 l pc = some q) : q ∈ l ∧ q.1 = pc := by
  induction l with
  | nil => cases h
  | cons x l ih =>
    unfold cz_ft2 at h
    split at h
    · next e => cases h; exact ⟨List.mem_cons_self, e⟩
    · exact ⟨List.mem_cons_of_mem _ (ih h).1, (ih h).2⟩
/-- a run: fuel, depth of calls that is left, the method, its frame, the heap; the answer and the heap behind it -/
def cz_go (E : cz_E) : Nat → Nat → Nat → Nat → cz_LV → List Value → cz_H → Option (Option Value × cz_H)
  | 0, _, _, _, _, _, _ => none
  | f + 1, d, mi, pc, lv, st, h => match cz_ft2 (cz_cd mi) pc with
    | none => none
    | some q => match cz_s1 E (cz_mf mi).2.2.2.2.1 q lv st with
      | some (pc', lv', st') => cz_go E f d mi pc' lv' st' h
      | none => match cz_s2 E q st h with
        | some (pc', st', h') => cz_go E f d mi pc' lv st' h'
        | none => match cz_s3 E q st h with
          | none => none
          | some (.inr v) => some (v, h)
          | some (.inl (mj, as, r)) => match d with
            | 0 => none
            | d' + 1 => match cz_go E f d' mj 0 (lv_args 0 as) [] h with
              | none => none
              | some (v, h') => cz_go E f d mi (pc + 3) lv (v.toList ++ r) h'
