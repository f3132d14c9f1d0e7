/-! THE CHECKER: affine forms over roots (a list of integers), their ranges by intervals, facts -/
abbrev ck_A : Type := List (Nat × Int) × Int
abbrev ck_IV : Type := List (Int × Int)
def ck_tv (ρ : List Int) (t : List (Nat × Int)) : Int := match t with
  | [] => 0
  | q :: l => q.2 * ρ.getD q.1 0 + ck_tv ρ l
def ck_ev (ρ : List Int) (a : ck_A) : Int := ck_tv ρ a.1 + a.2
def ck_c (n : Int) : ck_A := ([], n)
def ck_v (r : Nat) : ck_A := ([(r, 1)], 0)
theorem ck_ev_c (ρ : List Int) (n : Int) : ck_ev ρ (ck_c n) = n := by simp [ck_ev, ck_c, ck_tv]
theorem ck_ev_v (ρ : List Int) (r : Nat) : ck_ev ρ (ck_v r) = ρ.getD r 0 := by simp [ck_ev, ck_v, ck_tv]
/-- a term more, in the order of the roots -/
def ck_ins (r : Nat) (c : Int) (t : List (Nat × Int)) : List (Nat × Int) := match t with
  | [] => [(r, c)]
  | q :: l => if r < q.1 then (r, c) :: q :: l else if r = q.1 then (if q.2 + c = 0 then l else (r, q.2 + c) :: l) else q :: ck_ins r c l
theorem ck_ins_ev (ρ : List Int) (r : Nat) (c : Int) (t : List (Nat × Int)) : ck_tv ρ (ck_ins r c t) = c * ρ.getD r 0 + ck_tv ρ t := by
  induction t with
  | nil => simp [ck_ins, ck_tv]
  | cons q l ih =>
    unfold ck_ins
    split
    · simp [ck_tv]
    · split
      · next e =>
        subst e
        split
        · next e2 =>
          simp only [ck_tv]
          have e3 : q.2 * ρ.getD q.1 0 + c * ρ.getD q.1 0 = 0 := by rw [← Int.add_mul, e2, Int.zero_mul]
          omega
        · simp only [ck_tv, Int.add_mul]
          omega
      · simp only [ck_tv, ih]
        omega
/-- a + k b -/
def ck_lin (k : Int) (b t : List (Nat × Int)) : List (Nat × Int) := match b with
  | [] => t
  | q :: l => if k * q.2 = 0 then ck_lin k l t else ck_ins q.1 (k * q.2) (ck_lin k l t)
theorem ck_lin_ev (ρ : List Int) (k : Int) (b t : List (Nat × Int)) : ck_tv ρ (ck_lin k b t) = ck_tv ρ t + k * ck_tv ρ b := by
  induction b with
  | nil => simp [ck_lin, ck_tv]
  | cons q l ih =>
    unfold ck_lin
    simp only [ck_tv, Int.mul_add, ← Int.mul_assoc]
    split
    · next e =>
      rw [ih, e, Int.zero_mul]
      omega
    · rw [ck_ins_ev, ih]
      omega
def ck_add (a b : ck_A) : ck_A := (ck_lin 1 b.1 a.1, a.2 + b.2)
def ck_sub (a b : ck_A) : ck_A := (ck_lin (-1) b.1 a.1, a.2 - b.2)
def ck_mul (k : Int) (a : ck_A) : ck_A := (ck_lin k a.1 [], k * a.2)
theorem ck_add_ev (ρ : List Int) (a b : ck_A) : ck_ev ρ (ck_add a b) = ck_ev ρ a + ck_ev ρ b := by
  simp only [ck_ev, ck_add, ck_lin_ev]
  omega
theorem ck_sub_ev (ρ : List Int) (a b : ck_A) : ck_ev ρ (ck_sub a b) = ck_ev ρ a - ck_ev ρ b := by
  simp only [ck_ev, ck_sub, ck_lin_ev]
  omega
theorem ck_mul_ev (ρ : List Int) (k : Int) (a : ck_A) : ck_ev ρ (ck_mul k a) = k * ck_ev ρ a := by
  simp only [ck_ev, ck_mul, ck_lin_ev, ck_tv, Int.mul_add]
  omega
/-! intervals -/
def ck_ok (iv : ck_IV) (ρ : List Int) : Prop := ∀ (i : Nat) (q : Int × Int), iv[i]? = some q → q.1 ≤ ρ.getD i 0 ∧ ρ.getD i 0 ≤ q.2
def ck_ib (iv : ck_IV) (r : Nat) : Option (Int × Int) := iv[r]?
/-- the greatest value; none: a root without an interval -/
def ck_tmax (iv : ck_IV) (t : List (Nat × Int)) : Option Int := match t with
  | [] => some 0
  | q :: l => match iv[q.1]?, ck_tmax iv l with
    | some b, some m => some ((if 0 ≤ q.2 then q.2 * b.2 else q.2 * b.1) + m)
    | _, _ => none
def ck_max (iv : ck_IV) (a : ck_A) : Option Int := match ck_tmax iv a.1 with
  | some m => some (m + a.2)
  | none => none
theorem ck_tmax_ok {iv : ck_IV} {ρ : List Int} (h : ck_ok iv ρ) : ∀ (t : List (Nat × Int)) (m : Int), ck_tmax iv t = some m → ck_tv ρ t ≤ m := by
  intro t
  induction t with
  | nil => intro m e; cases e; exact Int.le_refl _
  | cons q l ih =>
    intro m e
    unfold ck_tmax at e
    split at e
    · next b m' e1 e2 =>
      cases e
      have h1 := h q.1 b e1
      have h2 := ih m' e2
      simp only [ck_tv]
      split
      · next h0 =>
        have := Int.mul_le_mul_of_nonneg_left h1.2 h0
        omega
      · next h0 =>
        have := Int.mul_le_mul_of_nonpos_left (show q.2 ≤ 0 by omega) h1.1
        omega
    · cases e
theorem ck_max_ok {iv : ck_IV} {ρ : List Int} (h : ck_ok iv ρ) {a : ck_A} {m : Int} (e : ck_max iv a = some m) : ck_ev ρ a ≤ m := by
  unfold ck_max at e
  split at e
  · next m' e1 =>
    cases e
    have := ck_tmax_ok h a.1 m' e1
    simp only [ck_ev]
    omega
  · cases e
def ck_le0 (iv : ck_IV) (a : ck_A) : Bool := match ck_max iv a with
  | some m => decide (m ≤ 0)
  | none => false
theorem ck_le0_ok {iv : ck_IV} {ρ : List Int} (h : ck_ok iv ρ) {a : ck_A} (e : ck_le0 iv a = true) : ck_ev ρ a ≤ 0 := by
  unfold ck_le0 at e
  split at e
  · next m e1 =>
    have h1 := ck_max_ok h e1
    have h2 : m ≤ 0 := of_decide_eq_true e
    omega
  · cases e
/-- by the intervals, by one fact, by two -/
def ck_F1 (iv : ck_IV) (fs : List ck_A) (a : ck_A) : Bool := ck_le0 iv a || fs.any (fun f => ck_le0 iv (ck_sub a f))
def ck_shr1 (t u : List (Nat × Int)) : Bool := t.any fun q => u.any fun p => q.1 == p.1
def ck_F2 (iv : ck_IV) (fs : List ck_A) (a : ck_A) : Bool := ck_F1 iv fs a || fs.any (fun f => ck_shr1 a.1 f.1 && fs.any (fun g => ck_le0 iv (ck_sub (ck_sub a f) g)))
def ck_fok (fs : List ck_A) (ρ : List Int) : Prop := ∀ f ∈ fs, ck_ev ρ f ≤ 0
theorem ck_F1_ok {iv : ck_IV} {fs : List ck_A} {ρ : List Int} (h : ck_ok iv ρ) (hf : ck_fok fs ρ) {a : ck_A} (e : ck_F1 iv fs a = true) : ck_ev ρ a ≤ 0 := by
  rcases Bool.or_eq_true_iff.mp e with e | e
  · exact ck_le0_ok h e
  · obtain ⟨f, h1, h2⟩ := List.any_eq_true.mp e
    have h3 := ck_le0_ok h h2
    have h4 := hf f h1
    rw [ck_sub_ev] at h3
    omega
theorem ck_F2_ok {iv : ck_IV} {fs : List ck_A} {ρ : List Int} (h : ck_ok iv ρ) (hf : ck_fok fs ρ) {a : ck_A} (e : ck_F2 iv fs a = true) : ck_ev ρ a ≤ 0 := by
  rcases Bool.or_eq_true_iff.mp e with e | e
  · exact ck_F1_ok h hf e
  · obtain ⟨f, h1, e⟩ := List.any_eq_true.mp e
    obtain ⟨g, h2, e⟩ := List.any_eq_true.mp (Bool.and_eq_true_iff.mp e).2
    have h3 := ck_le0_ok h e
    have h4 := hf f h1
    have h5 := hf g h2
    rw [ck_sub_ev, ck_sub_ev] at h3
    omega
/-! a test that was passed: a ≤ 0 -/
/-- one root's interval, by c r + rest ≤ 0, where rest is at least m -/
def ck_cut (b : Int × Int) (c m : Int) : Int × Int := if 0 < c then (b.1, min b.2 ((-m) / c)) else if c < 0 then (max b.1 (-((-m) / (-c))), b.2) else b
theorem ck_cut_ok {b : Int × Int} {c m x y : Int} (h1 : b.1 ≤ x ∧ x ≤ b.2) (hm : m ≤ y) (h : c * x + y ≤ 0) : (ck_cut b c m).1 ≤ x ∧ x ≤ (ck_cut b c m).2 := by
  unfold ck_cut
  split
  · next hc =>
    refine ⟨h1.1, ?_⟩
    have h2 : x ≤ (-m) / c := (Int.le_ediv_iff_mul_le hc).mpr (by rw [Int.mul_comm]; omega)
    show x ≤ min b.2 ((-m) / c)
    omega
  · split
    · next hc hc2 =>
      refine ⟨?_, h1.2⟩
      have h2 : -x ≤ (-m) / (-c) := (Int.le_ediv_iff_mul_le (by omega)).mpr (by
        have e : -x * -c = c * x := by rw [Int.neg_mul_neg, Int.mul_comm]
        rw [e]; omega)
      show max b.1 (-((-m) / (-c))) ≤ x
      omega
    · exact h1
/-- all roots of a test: for each the least of the rest, by the intervals as they were -/
def ck_ref (iv0 : ck_IV) (a : ck_A) (t : List (Nat × Int)) (iv : ck_IV) : ck_IV := match t with
  | [] => iv
  | q :: l => ck_ref iv0 a l (match iv[q.1]?, ck_max iv0 (ck_sub (ck_mul q.2 (ck_v q.1)) a) with
    | some b, some M => iv.set q.1 (ck_cut b q.2 (-M))
    | _, _ => iv)
theorem ck_set_ok {iv : ck_IV} {ρ : List Int} (h : ck_ok iv ρ) {r : Nat} {b : Int × Int} (hb : b.1 ≤ ρ.getD r 0 ∧ ρ.getD r 0 ≤ b.2) : ck_ok (iv.set r b) ρ := by
  intro i q hq
  rw [List.getElem?_set] at hq
  split at hq
  · next e =>
    subst e
    split at hq
    · cases hq; exact hb
    · cases hq
  · exact h i q hq
theorem ck_ref_ok {iv0 : ck_IV} {ρ : List Int} (h0 : ck_ok iv0 ρ) {a : ck_A} (ha : ck_ev ρ a ≤ 0) : ∀ (t : List (Nat × Int)) (iv : ck_IV), ck_ok iv ρ → ck_ok (ck_ref iv0 a t iv) ρ := by
  intro t
  induction t with
  | nil => intro iv h; exact h
  | cons q l ih =>
    intro iv h
    unfold ck_ref
    apply ih
    split
    · next b M e1 e2 =>
      have h1 := h q.1 b e1
      have h2 := ck_max_ok h0 e2
      rw [ck_sub_ev, ck_mul_ev, ck_ev_v] at h2
      exact ck_set_ok h (ck_cut_ok (y := ck_ev ρ a - q.2 * ρ.getD q.1 0) h1 (by omega) (by omega))
    · exact h
/-- the state of numbers: intervals and facts -/
abbrev ck_N : Type := ck_IV × List ck_A
def ck_nok (n : ck_N) (ρ : List Int) : Prop := ck_ok n.1 ρ ∧ ck_fok n.2 ρ
def ck_le (n : ck_N) (a : ck_A) : Bool := ck_F2 n.1 n.2 a
theorem ck_le_ok {n : ck_N} {ρ : List Int} (h : ck_nok n ρ) {a : ck_A} (e : ck_le n a = true) : ck_ev ρ a ≤ 0 := ck_F2_ok h.1 h.2 e
/-- a ≤ 0 taken as known; none: it can't be -/
def ck_asm (n : ck_N) (a : ck_A) : Option ck_N := if ck_le0 n.1 a = true then some n else if ck_F1 n.1 n.2 (ck_sub (ck_c 1) a) = true then none else some (ck_ref n.1 a a.1 n.1, if decide (2 ≤ a.1.length) && !(n.2.contains a) then a :: n.2 else n.2)
theorem ck_asm_ok {n : ck_N} {ρ : List Int} (h : ck_nok n ρ) {a : ck_A} (ha : ck_ev ρ a ≤ 0) : ∃ n', ck_asm n a = some n' ∧ ck_nok n' ρ := by
  unfold ck_asm
  split
  · exact ⟨n, rfl, h⟩
  · split
    · next e =>
      have h1 := ck_F1_ok h.1 h.2 e
      rw [ck_sub_ev, ck_ev_c] at h1
      omega
    · refine ⟨_, rfl, ck_ref_ok h.1 ha _ _ h.1, ?_⟩
      show ck_fok (if (decide (2 ≤ a.1.length) && !(n.2.contains a)) = true then a :: n.2 else n.2) ρ
      split
      · intro f hf
        rcases List.mem_cons.mp hf with rfl | hf
        · exact ha
        · exact h.2 f hf
      · exact h.2
/-- a = 0 -/
def ck_ase (n : ck_N) (a : ck_A) : Option ck_N := match ck_asm n a with
  | some n1 => ck_asm n1 (ck_mul (-1) a)
  | none => none
theorem ck_ase_ok {n : ck_N} {ρ : List Int} (h : ck_nok n ρ) {a : ck_A} (ha : ck_ev ρ a = 0) : ∃ n', ck_ase n a = some n' ∧ ck_nok n' ρ := by
  obtain ⟨n1, e1, h1⟩ := ck_asm_ok h (a := a) (by omega)
  obtain ⟨n2, e2, h2⟩ := ck_asm_ok h1 (a := ck_mul (-1) a) (by rw [ck_mul_ev]; omega)
  exact ⟨n2, by unfold ck_ase; rw [e1]; exact e2, h2⟩
/-- a ≠ 0 -/
def ck_asn (n : ck_N) (a : ck_A) : Option ck_N := if ck_le n a = true then ck_asm n (ck_add a (ck_c 1)) else if ck_le n (ck_mul (-1) a) = true then ck_asm n (ck_sub (ck_c 1) a) else some n
theorem ck_asn_ok {n : ck_N} {ρ : List Int} (h : ck_nok n ρ) {a : ck_A} (ha : ck_ev ρ a ≠ 0) : ∃ n', ck_asn n a = some n' ∧ ck_nok n' ρ := by
  unfold ck_asn
  split
  · next e =>
    have h1 := ck_le_ok h e
    exact ck_asm_ok h (by rw [ck_add_ev, ck_ev_c]; omega)
  · split
    · next e =>
      have h1 := ck_le_ok h e
      rw [ck_mul_ev] at h1
      exact ck_asm_ok h (by rw [ck_sub_ev, ck_ev_c]; omega)
    · exact ⟨n, rfl, h⟩
/-! a root more -/
def ck_new (n : ck_N) (b : Int × Int) : ck_N := (n.1 ++ [b], n.2)
theorem ck_new_ok {n : ck_N} {b : Int × Int} {ρ : List Int} (h : ck_nok n ρ) (hb : b.1 ≤ ρ.getD n.1.length 0 ∧ ρ.getD n.1.length 0 ≤ b.2) : ck_nok (ck_new n b) ρ := by
  refine ⟨fun i q hq => ?_, h.2⟩
  have hq : (n.1 ++ [b])[i]? = some q := hq
  rw [List.getElem?_append] at hq
  split at hq
  · exact h.1 i q hq
  · next e =>
    have h1 := (List.getElem?_eq_some_iff.mp hq).1
    simp only [List.length_singleton] at h1
    have h2 : i = n.1.length := by omega
    subst h2
    simp only [Nat.sub_self, List.getElem?_cons_zero] at hq
    cases hq
    exact hb
/-- a fact more -/
def ck_fact (n : ck_N) (a : ck_A) : ck_N := (n.1, a :: n.2)
theorem ck_fact_ok {n : ck_N} {a : ck_A} {ρ : List Int} (h : ck_nok n ρ) (ha : ck_ev ρ a ≤ 0) : ck_nok (ck_fact n a) ρ := by
  refine ⟨h.1, fun f hf => ?_⟩
  rcases List.mem_cons.mp hf with rfl | hf
  · exact ha
  · exact h.2 f hf
