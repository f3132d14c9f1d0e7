/-! THE CHECKER: instructions that leave the heap alone, and give one state -/
abbrev ck_S1 : Type := ck_N × Nat × ck_LV × List ck_V
def ck_Q1 (E : cz_E) (Γ : ck_G) (ρ : List Int) (s : ck_S1) (clv : cz_LV) (cst : List Value) : Prop := ρ.length = s.1.1.length ∧ ∀ σ : List Int, ck_nok s.1 (ρ ++ σ) ∧ ck_LR E Γ (ρ ++ σ) s.2.2.1 clv ∧ ck_Ls (ck_D E Γ (ρ ++ σ)) s.2.2.2 cst
theorem ck_Q1.push {E : cz_E} {Γ : ck_G} {ρ : List Int} {n' : ck_N} {pc : Nat} {lv : ck_LV} {r : List ck_V} {v : ck_V} {x : Value} {clv : cz_LV} {cr : List Value} (hlv : ∀ σ, ck_LR E Γ (ρ ++ σ) lv clv) (hr : ∀ σ, ck_Ls (ck_D E Γ (ρ ++ σ)) r cr) (Y : ck_Y E Γ ρ n' v x) : ∃ ρ2, ck_Q1 E Γ (ρ ++ ρ2) (n', pc, lv, v :: r) clv (x :: cr) := by
  obtain ⟨ρ2, h1, h2⟩ := Y
  refine ⟨ρ2, h1, fun σ => ⟨(h2 σ).1, ?_, (h2 σ).2, ?_⟩⟩
  · rw [List.append_assoc]; exact hlv _
  · rw [List.append_assoc]; exact hr _
theorem ck_Q1.store {E : cz_E} {Γ : ck_G} {ρ : List Int} {n' : ck_N} {pc i : Nat} {lv : ck_LV} {r : List ck_V} {v : ck_V} {x : Value} {clv : cz_LV} {cr : List Value} (hlv : ∀ σ, ck_LR E Γ (ρ ++ σ) lv clv) (hr : ∀ σ, ck_Ls (ck_D E Γ (ρ ++ σ)) r cr) (Y : ck_Y E Γ ρ n' v x) : ∃ ρ2, ck_Q1 E Γ (ρ ++ ρ2) (n', pc, ck_st1 lv i v, r) (cz_st1 clv i x) cr := by
  obtain ⟨ρ2, h1, h2⟩ := Y
  refine ⟨ρ2, h1, fun σ => ⟨(h2 σ).1, ck_st1_ok (by rw [List.append_assoc]; exact hlv _) (h2 σ).2, ?_⟩⟩
  rw [List.append_assoc]; exact hr _
/-- nothing new -/
theorem ck_Y.same {E : cz_E} {Γ : ck_G} {ρ : List Int} {n : ck_N} {v : ck_V} {x : Value} (hl : ρ.length = n.1.length) (hn : ∀ σ, ck_nok n (ρ ++ σ)) (h : ∀ σ, ck_D E Γ (ρ ++ σ) v x) : ck_Y E Γ ρ n v x := ⟨[], by simpa using hl, fun σ => by rw [List.append_nil]; exact ⟨hn σ, h σ⟩⟩
def ck_o1 (s : ck_S1) : Option (List ck_S1) := some [s]
def ck_qv {α : Type} (st : List ck_V) (k : ck_V → List ck_V → Option α) : Option α := match st with
  | v :: r => k v r
  | _ => none
def ck_qi {α : Type} (st : List ck_V) (k : ck_A → List ck_V → Option α) : Option α := match st with
  | v :: r => if v.1 = 0 then k v.2.2.2.1 r else none
  | _ => none
def ck_qj {α : Type} (st : List ck_V) (k : ck_A → ck_A → List ck_V → Option α) : Option α := match st with
  | y :: x :: r => if y.1 = 0 ∧ x.1 = 0 then k x.2.2.2.1 y.2.2.2.1 r else none
  | _ => none
def ck_ql {α : Type} (st : List ck_V) (k : ck_A → List ck_V → Option α) : Option α := match st with
  | v :: r => if v.1 = 1 then k v.2.2.2.1 r else none
  | _ => none
def ck_qk {α : Type} (st : List ck_V) (k : ck_A → ck_A → List ck_V → Option α) : Option α := match st with
  | y :: x :: r => if y.1 = 1 ∧ x.1 = 1 then k x.2.2.2.1 y.2.2.2.1 r else none
  | _ => none
def ck_lo {α : Type} (v : Option ck_V) (k : ck_V → Option α) : Option α := match v with
  | some x => k x
  | none => none
def ck_k32 (k : Int) : Bool := decide (-2147483648 ≤ k) && decide (k ≤ 2147483647)
def ck_k64 (k : Int) : Bool := decide (-9223372036854775808 ≤ k) && decide (k ≤ 9223372036854775807)
/-- the greatest and the least of a form, by the intervals alone -/
def ck_hi (n : ck_N) (a : ck_A) : Int := (ck_max n.1 a).getD 2147483647
def ck_lw (n : ck_N) (a : ck_A) : Int := -((ck_max n.1 (ck_mul (-1) a)).getD 2147483648)
theorem ck_hi_ok {n : ck_N} {ρ : List Int} (h : ck_nok n ρ) {a : ck_A} (hi : ck_ev ρ a ≤ 2147483647) : ck_ev ρ a ≤ ck_hi n a := by
  unfold ck_hi
  cases e : ck_max n.1 a with
  | none => exact hi
  | some m => exact ck_max_ok h.1 e
theorem ck_lw_ok {n : ck_N} {ρ : List Int} (h : ck_nok n ρ) {a : ck_A} (hi : -2147483648 ≤ ck_ev ρ a) : ck_lw n a ≤ ck_ev ρ a := by
  unfold ck_lw
  cases e : ck_max n.1 (ck_mul (-1) a) with
  | none => show -2147483648 ≤ _; exact hi
  | some m =>
    have := ck_max_ok h.1 e
    rw [ck_mul_ev] at this
    show -m ≤ _
    omega
/-- products, quotients, rests, sets of bits, shifts -/
def ck_prd (n : ck_N) (a b : ck_A) : ck_N × ck_V := if b.1.isEmpty then ck_res n (ck_mul b.2 a) else if a.1.isEmpty then ck_res n (ck_mul a.2 b) else
  let l1 := ck_lw n a; let h1 := ck_hi n a; let l2 := ck_lw n b; let h2 := ck_hi n b
  if decide (0 ≤ l1) && decide (0 ≤ l2) && decide (h1 * h2 ≤ 2147483647) then ck_fr n 0 (h1 * h2) else ck_fr n (-2147483648) 2147483647
/-- the least of a divisor, by facts too -/
def ck_lp (n : ck_N) (b : ck_A) : Int := if ck_le n (ck_sub (ck_c 1) b) = true then max 1 (ck_lw n b) else ck_lw n b
def ck_quo (n : ck_N) (a b : ck_A) : Option (ck_N × ck_V) := let l1 := ck_lw n a; let h1 := ck_hi n a; let l2 := ck_lp n b
  if 0 < l2 then some (if 0 ≤ l1 then ck_fr n 0 (h1 / l2) else ck_fr n (-2147483648) 2147483647) else if ck_hi n b < 0 then some (ck_fr n (-2147483648) 2147483647) else none
def ck_rst (n : ck_N) (a b : ck_A) : Option (ck_N × ck_V) := let l1 := ck_lw n a; let h1 := ck_hi n a; let l2 := ck_lp n b; let h2 := ck_hi n b
  if 0 < l2 then some (if 0 ≤ l1 then ck_fr n 0 (min h1 (h2 - 1)) else ck_fr n (-2147483648) 2147483647) else if h2 < 0 then some (ck_fr n (-2147483648) 2147483647) else none
def ck_and (n : ck_N) (a b : ck_A) : ck_N × ck_V := let l1 := ck_lw n a; let l2 := ck_lw n b
  if 0 ≤ l1 then (if 0 ≤ l2 then ck_fr n 0 (min (ck_hi n a) (ck_hi n b)) else ck_fr n 0 (ck_hi n a)) else if 0 ≤ l2 then ck_fr n 0 (ck_hi n b) else ck_fr n (-2147483648) 2147483647
/-- the first power of two above -/
def ck_pw (x : Int) : Nat → Nat → Nat
  | 0, k => k
  | f + 1, k => if x < 2 ^ k then k else ck_pw x f (k + 1)
def ck_or (n : ck_N) (a b : ck_A) : ck_N × ck_V := let k := ck_pw (max (ck_hi n a) (ck_hi n b)) 31 0
  if decide (0 ≤ ck_lw n a) && decide (0 ≤ ck_lw n b) && decide (max (ck_hi n a) (ck_hi n b) < 2 ^ k) && decide (k ≤ 31) then ck_fr n 0 (2 ^ k - 1) else ck_fr n (-2147483648) 2147483647
def ck_shl (n : ck_N) (a b : ck_A) : ck_N × ck_V := if decide (0 ≤ ck_lw n a) && decide (0 ≤ ck_lw n b) && decide (ck_hi n b ≤ 31) && decide (ck_hi n a * 2 ^ (ck_hi n b).toNat ≤ 2147483647) then ck_fr n (ck_lw n a * 2 ^ (ck_lw n b).toNat) (ck_hi n a * 2 ^ (ck_hi n b).toNat) else ck_fr n (-2147483648) 2147483647
def ck_shr (n : ck_N) (a b : ck_A) : ck_N × ck_V := if b.1.isEmpty && decide (b.2 = 0) then (n, ck_vi a) else if 0 ≤ ck_lw n a then ck_fr n 0 (ck_hi n a) else ck_fr n (-2147483648) 2147483647
def ck_shu (n : ck_N) (a : ck_A) : ck_N × ck_V := if 0 ≤ ck_lw n a then ck_fr n 0 (ck_hi n a) else ck_fr n (-2147483648) 2147483647
section CKA
variable {E : cz_E} {Γ : ck_G} {n : ck_N} {ρ : List Int} {a b : ck_A} {x y : Int32}
theorem ck_full_ok (hl : ρ.length = n.1.length) (h : ∀ σ, ck_nok n (ρ ++ σ)) (z : Int32) : ck_Y E Γ ρ (ck_fr n (-2147483648) 2147483647).1 (ck_fr n (-2147483648) 2147483647).2 (.int z) := ck_fr_ok hl h (ck_range z)
theorem ck_bds (h : ∀ σ, ck_nok n (ρ ++ σ)) (hx : ∀ σ, x.toInt = ck_ev (ρ ++ σ) a) : ck_lw n a ≤ x.toInt ∧ x.toInt ≤ ck_hi n a := by
  have e := hx []
  have r := ck_range x
  rw [e] at r ⊢
  exact ⟨ck_lw_ok (h []) r.1, ck_hi_ok (h []) r.2⟩
theorem ck_bdp (h : ∀ σ, ck_nok n (ρ ++ σ)) (hx : ∀ σ, x.toInt = ck_ev (ρ ++ σ) a) : ck_lp n a ≤ x.toInt ∧ x.toInt ≤ ck_hi n a := by
  have b1 := ck_bds h hx
  refine ⟨?_, b1.2⟩
  unfold ck_lp
  split
  · next e =>
    have h1 := ck_le_ok (h []) e
    rw [ck_sub_ev, ck_ev_c, ← hx []] at h1
    omega
  · exact b1.1
theorem ck_ev_nil {a : ck_A} (h : a.1.isEmpty = true) (ρ : List Int) : ck_ev ρ a = a.2 := by
  have : a.1 = [] := by simpa using h
  simp [ck_ev, this, ck_tv]
theorem ck_prd_ok (hl : ρ.length = n.1.length) (h : ∀ σ, ck_nok n (ρ ++ σ)) (hx : ∀ σ, x.toInt = ck_ev (ρ ++ σ) a) (hy : ∀ σ, y.toInt = ck_ev (ρ ++ σ) b) : ck_Y E Γ ρ (ck_prd n a b).1 (ck_prd n a b).2 (.int (x * y)) := by
  unfold ck_prd
  split
  · next e =>
    refine ck_res_ok hl h fun σ hz => ?_
    rw [ck_mul_ev, ← hx, ← ck_ev_nil e (ρ ++ σ), ← hy] at hz ⊢
    rw [Int.mul_comm] at hz ⊢
    exact ck_imul hz
  · split
    · next e =>
      refine ck_res_ok hl h fun σ hz => ?_
      rw [ck_mul_ev, ← hy, ← ck_ev_nil e (ρ ++ σ), ← hx] at hz ⊢
      exact ck_imul hz
    · simp only
      split
      · next e =>
        simp only [Bool.and_eq_true, decide_eq_true_eq] at e
        have b1 := ck_bds h hx
        have b2 := ck_bds h hy
        have p0 : 0 ≤ x.toInt * y.toInt := Int.mul_nonneg (by omega) (by omega)
        have p1 : x.toInt * y.toInt ≤ ck_hi n a * ck_hi n b := Int.mul_le_mul b1.2 b2.2 (by omega) (by omega)
        refine ck_fr_ok hl h ?_
        rw [ck_imul ⟨by omega, by omega⟩]
        exact ⟨p0, p1⟩
      · exact ck_full_ok hl h _
theorem ck_quo_ok {r : ck_N × ck_V} (hl : ρ.length = n.1.length) (h : ∀ σ, ck_nok n (ρ ++ σ)) (hx : ∀ σ, x.toInt = ck_ev (ρ ++ σ) a) (hy : ∀ σ, y.toInt = ck_ev (ρ ++ σ) b) (e : ck_quo n a b = some r) : ¬ y = 0 ∧ ck_Y E Γ ρ r.1 r.2 (.int (x / y)) := by
  have b1 := ck_bds h hx
  have b2 := ck_bdp h hy
  unfold ck_quo at e
  simp only at e
  split at e
  · next h0 =>
    refine ⟨fun z => ?_, ?_⟩
    · rw [z] at b2
      have : (0 : Int32).toInt = 0 := rfl
      omega
    · cases e
      split
      · next h1 =>
        refine ck_fr_ok hl h ?_
        rw [ck_idiv (by omega) (by omega)]
        refine ⟨Int.ediv_nonneg (by omega) (by omega), ?_⟩
        have q1 : x.toInt / y.toInt ≤ x.toInt / ck_lp n b := by
          apply (Int.le_ediv_iff_mul_le h0).mpr
          have := Int.ediv_mul_le x.toInt (show y.toInt ≠ 0 by omega)
          have q3 : 0 ≤ x.toInt / y.toInt := Int.ediv_nonneg (by omega) (by omega)
          have q4 := Int.mul_le_mul_of_nonneg_left b2.1 q3
          omega
        exact Int.le_trans q1 (Int.ediv_le_ediv h0 b1.2)
      · exact ck_full_ok hl h _
  · split at e
    · next h0 =>
      cases e
      refine ⟨fun z => ?_, ck_full_ok hl h _⟩
      rw [z] at b2
      have : (0 : Int32).toInt = 0 := rfl
      omega
    · cases e
theorem ck_rst_ok {r : ck_N × ck_V} (hl : ρ.length = n.1.length) (h : ∀ σ, ck_nok n (ρ ++ σ)) (hx : ∀ σ, x.toInt = ck_ev (ρ ++ σ) a) (hy : ∀ σ, y.toInt = ck_ev (ρ ++ σ) b) (e : ck_rst n a b = some r) : ¬ y = 0 ∧ ck_Y E Γ ρ r.1 r.2 (.int (x - x / y * y)) := by
  have b1 := ck_bds h hx
  have b2 := ck_bdp h hy
  unfold ck_rst at e
  simp only at e
  split at e
  · next h0 =>
    refine ⟨fun z => ?_, ?_⟩
    · rw [z] at b2
      have : (0 : Int32).toInt = 0 := rfl
      omega
    · cases e
      split
      · next h1 =>
        refine ck_fr_ok hl h ?_
        rw [ck_irem (by omega) (by omega)]
        have q1 := Int.emod_nonneg x.toInt (show y.toInt ≠ 0 by omega)
        have q2 := Int.emod_lt_of_pos x.toInt (show 0 < y.toInt by omega)
        have q3 : x.toInt % y.toInt ≤ x.toInt := by
          have := Int.ediv_mul_add_emod x.toInt y.toInt
          have q4 : 0 ≤ x.toInt / y.toInt * y.toInt := Int.mul_nonneg (Int.ediv_nonneg (by omega) (by omega)) (by omega)
          omega
        exact ⟨q1, by omega⟩
      · exact ck_full_ok hl h _
  · split at e
    · next h0 =>
      cases e
      refine ⟨fun z => ?_, ck_full_ok hl h _⟩
      rw [z] at b2
      have : (0 : Int32).toInt = 0 := rfl
      omega
    · cases e
theorem ck_and_ok (hl : ρ.length = n.1.length) (h : ∀ σ, ck_nok n (ρ ++ σ)) (hx : ∀ σ, x.toInt = ck_ev (ρ ++ σ) a) (hy : ∀ σ, y.toInt = ck_ev (ρ ++ σ) b) : ck_Y E Γ ρ (ck_and n a b).1 (ck_and n a b).2 (.int (x &&& y)) := by
  have b1 := ck_bds h hx
  have b2 := ck_bds h hy
  unfold ck_and
  simp only
  split
  · split
    · have q1 := ck_iand_l (x := x) (y := y) (by omega)
      have q2 := ck_iand_r (x := x) (y := y) (by omega)
      exact ck_fr_ok hl h ⟨q1.1, by omega⟩
    · have q1 := ck_iand_l (x := x) (y := y) (by omega)
      exact ck_fr_ok hl h ⟨q1.1, by omega⟩
  · split
    · have q2 := ck_iand_r (x := x) (y := y) (by omega)
      exact ck_fr_ok hl h ⟨q2.1, by omega⟩
    · exact ck_full_ok hl h _
theorem ck_or_ok (hl : ρ.length = n.1.length) (h : ∀ σ, ck_nok n (ρ ++ σ)) (hx : ∀ σ, x.toInt = ck_ev (ρ ++ σ) a) (hy : ∀ σ, y.toInt = ck_ev (ρ ++ σ) b) : ck_Y E Γ ρ (ck_or n a b).1 (ck_or n a b).2 (.int (x ||| y)) := by
  have b1 := ck_bds h hx
  have b2 := ck_bds h hy
  unfold ck_or
  simp only
  split
  · next e =>
    simp only [Bool.and_eq_true, decide_eq_true_eq] at e
    have q := ck_ior (x := x) (y := y) e.2 (by omega) (by omega) (by omega) (by omega)
    exact ck_fr_ok hl h ⟨q.1, by omega⟩
  · exact ck_full_ok hl h _
theorem ck_shl_ok (hl : ρ.length = n.1.length) (h : ∀ σ, ck_nok n (ρ ++ σ)) (hx : ∀ σ, x.toInt = ck_ev (ρ ++ σ) a) (hy : ∀ σ, y.toInt = ck_ev (ρ ++ σ) b) : ck_Y E Γ ρ (ck_shl n a b).1 (ck_shl n a b).2 (.int (x <<< (y &&& 31))) := by
  have b1 := ck_bds h hx
  have b2 := ck_bds h hy
  unfold ck_shl
  split
  · next e =>
    simp only [Bool.and_eq_true, decide_eq_true_eq] at e
    obtain ⟨⟨⟨e1, e2⟩, e3⟩, e4⟩ := e
    have t1 : (2 : Int) ^ y.toInt.toNat ≤ 2 ^ (ck_hi n b).toNat := by exact_mod_cast Nat.pow_le_pow_right (n := 2) (by decide) (show y.toInt.toNat ≤ (ck_hi n b).toNat by omega)
    have t2 : (2 : Int) ^ (ck_lw n b).toNat ≤ 2 ^ y.toInt.toNat := by exact_mod_cast Nat.pow_le_pow_right (n := 2) (by decide) (show (ck_lw n b).toNat ≤ y.toInt.toNat by omega)
    have t0 : (0 : Int) ≤ 2 ^ (ck_lw n b).toNat := Int.pow_nonneg (by decide)
    have t3 : x.toInt * 2 ^ y.toInt.toNat ≤ ck_hi n a * 2 ^ (ck_hi n b).toNat := Int.mul_le_mul b1.2 t1 (by omega) (by omega)
    have t4 : ck_lw n a * 2 ^ (ck_lw n b).toNat ≤ x.toInt * 2 ^ y.toInt.toNat := Int.mul_le_mul b1.1 t2 t0 (by omega)
    refine ck_fr_ok hl h ?_
    rw [ck_ishl (by omega) (by omega) (by omega) (by omega)]
    exact ⟨t4, t3⟩
  · exact ck_full_ok hl h _
theorem ck_shr_ok (hl : ρ.length = n.1.length) (h : ∀ σ, ck_nok n (ρ ++ σ)) (hx : ∀ σ, x.toInt = ck_ev (ρ ++ σ) a) (hy : ∀ σ, y.toInt = ck_ev (ρ ++ σ) b) : ck_Y E Γ ρ (ck_shr n a b).1 (ck_shr n a b).2 (.int (x >>> (y &&& 31))) := by
  have b1 := ck_bds h hx
  unfold ck_shr
  split
  · next e =>
    simp only [Bool.and_eq_true, decide_eq_true_eq] at e
    have y0 : y = 0 := by
      have := hy []
      rw [ck_ev_nil e.1, e.2] at this
      exact Int32.toInt_inj.mp (this.trans rfl)
    subst y0
    rw [ck_ishr0]
    exact ck_Y.same hl h fun σ => ⟨x, rfl, hx σ⟩
  · split
    · have q := ck_ishr (x := x) (y &&& 31) (by omega)
      exact ck_fr_ok hl h ⟨q.1, by omega⟩
    · exact ck_full_ok hl h _
theorem ck_shu_ok (hl : ρ.length = n.1.length) (h : ∀ σ, ck_nok n (ρ ++ σ)) (hx : ∀ σ, x.toInt = ck_ev (ρ ++ σ) a) (y : UInt32) : ck_Y E Γ ρ (ck_shu n a).1 (ck_shu n a).2 (.int (x.toUInt32 >>> y).toInt32) := by
  have b1 := ck_bds h hx
  unfold ck_shu
  split
  · have q := ck_iushr (x := x) y (by omega)
    exact ck_fr_ok hl h ⟨q.1, by omega⟩
  · exact ck_full_ok hl h _
end CKA
