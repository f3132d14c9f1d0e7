/-! FX: runs told in numbers. Operands (0: a number, n + 1: value n and a number more), values, events, states -/
abbrev fx_O : Type := Nat × Int
/-- a value: its sort (0 int, 1 long, 2 a cell by its place, 3 such a cell or null (-1), 4 null, 5 a text, 6 a text's bytes, 7 the script, 8 the formatter), its operand, what is known of an array (0: nothing; 8 length + type + 1) -/
abbrev fx_V : Type := Nat × fx_O × Nat
/-- numbers by place and index; places in rows of references by place and index (-1: null); how many cells -/
abbrev fx_S : Type := (Int → Int → Int) × (Int → Int → Int) × Int
abbrev fx_Ev : Type := Nat × Nat × List fx_O
/-- a new cell: 0, its sort of object, its fields as far as known; or type + 1, length -/
abbrev fx_FC : Type := Nat × Nat × List (Option fx_V)
/-- values so far; where the new cells begin (second number below 0: not known), the new cells; events, the latest first -/
abbrev fx_Y : Type := Nat × (fx_O × List fx_FC) × List fx_Ev
abbrev fx_L : Type := List (Nat × fx_V)
abbrev fx_En : Type := fx_Y × (Option fx_V ⊕ (Nat × List fx_O))
/-- an entry: method, place, what its locals are (number, sort, a fixed number, hint), the sort of its answer (9: none) -/
abbrev fx_T1 : Type := Nat × Nat × List (Nat × Nat × Option Int × Nat) × Nat
abbrev fx_R : Type := Nat × fx_L × List fx_V × fx_Y
def fx_o (ν : List Int) (o : fx_O) : Int := match o.1 with
  | 0 => o.2
  | n + 1 => if o.2 = 0 then ν.getD n 0 else ν.getD n 0 + o.2
theorem fx_o_s (ν : List Int) (n : Nat) (k : Int) : fx_o ν (n + 1, k) = ν.getD n 0 + k := by
  show (if k = 0 then ν.getD n 0 else ν.getD n 0 + k) = _
  split
  · next e => rw [e]; omega
  · rfl
def fx_add (x y : Int) : Int := (Int32.ofInt x + Int32.ofInt y).toInt
def fx_sub (x y : Int) : Int := (Int32.ofInt x - Int32.ofInt y).toInt
def fx_mul (x y : Int) : Int := (Int32.ofInt x * Int32.ofInt y).toInt
def fx_div (x y : Int) : Int := (Int32.ofInt x / Int32.ofInt y).toInt
def fx_rem (x y : Int) : Int := (Int32.ofInt x - Int32.ofInt x / Int32.ofInt y * Int32.ofInt y).toInt
def fx_and (x y : Int) : Int := (Int32.ofInt x &&& Int32.ofInt y).toInt
def fx_or (x y : Int) : Int := (Int32.ofInt x ||| Int32.ofInt y).toInt
def fx_shl (x y : Int) : Int := (Int32.ofInt x <<< (Int32.ofInt y &&& 31)).toInt
def fx_shr (x y : Int) : Int := (Int32.ofInt x >>> (Int32.ofInt y &&& 31)).toInt
def fx_ush (x y : Int) : Int := ((Int32.ofInt x).toUInt32 >>> ((Int32.ofInt y).toUInt32 &&& Int32.toUInt32 31)).toInt32.toInt
def fx_neg (x : Int) : Int := (-Int32.ofInt x).toInt
def fx_i2b (x : Int) : Int := (Int32.ofInt x).toInt8.toInt32.toInt
def fx_i2c (x : Int) : Int := ((Int32.ofInt x).toUInt32 % 65536).toInt32.toInt
def fx_l2i (x : Int) : Int := (Int64.ofInt x).toInt32.toInt
def fx_ladd (x y : Int) : Int := (Int64.ofInt x + Int64.ofInt y).toInt
def fx_land (x y : Int) : Int := (Int64.ofInt x &&& Int64.ofInt y).toInt
def fx_lor (x y : Int) : Int := (Int64.ofInt x ||| Int64.ofInt y).toInt
def fx_lshl (x y : Int) : Int := (Int64.ofInt x <<< ((Int32.ofInt y).toInt64 &&& 63)).toInt
def fx_lshr (x y : Int) : Int := (Int64.ofInt x >>> ((Int32.ofInt y).toInt64 &&& 63)).toInt
def fx_lcm (x y : Int) : Int := if y < x then 1 else if x = y then 0 else -1
/-- what a row of a small type keeps -/
def fx_nar (tc : Nat) (x : Int) : Int := (vp_nar (cz_ty tc) (Int32.ofInt x)).toInt
def fx_b (op : Nat) (x y : Int) : Int := match op with
  | 0 => fx_add x y
  | 1 => fx_sub x y
  | 2 => fx_mul x y
  | 3 => fx_div x y
  | 4 => fx_rem x y
  | 5 => fx_and x y
  | 6 => fx_or x y
  | 7 => fx_shl x y
  | 8 => fx_shr x y
  | 9 => fx_ush x y
  | 10 => fx_neg x
  | 11 => fx_i2b x
  | 12 => fx_i2c x
  | 13 => fx_l2i x
  | 14 => fx_ladd x y
  | 15 => fx_land x y
  | 16 => fx_lor x y
  | 17 => fx_lshl x y
  | 18 => fx_lshr x y
  | 19 => fx_lcm x y
  | 21 => fx_nar 1 x
  | 23 => fx_nar 3 x
  | 24 => fx_nar 4 x
  | _ => 0
def fx_c (op : Nat) (x y : Int) : Prop := match op with
  | 0 => x = y
  | 1 => x ≠ y
  | 2 => x < y
  | 3 => y ≤ x
  | 4 => y < x
  | _ => x ≤ y
def fx_cb (op : Nat) (x y : Int) : Bool := match op with
  | 0 => decide (x = y)
  | 1 => decide (x ≠ y)
  | 2 => decide (x < y)
  | 3 => decide (y ≤ x)
  | 4 => decide (y < x)
  | _ => decide (x ≤ y)
theorem fx_cb_ok (op : Nat) (x y : Int) : fx_cb op x y = true ↔ fx_c op x y := by
  unfold fx_cb fx_c
  split <;> exact decide_eq_true_iff
def fx_cn (op : Nat) : Nat := match op with
  | 0 => 1
  | 1 => 0
  | 2 => 3
  | 3 => 2
  | 4 => 5
  | _ => 4
theorem fx_cn_ok {op : Nat} {x y : Int} (h : ¬ fx_c op x y) : fx_c (fx_cn op) x y := by
  revert h
  match op with
  | 0 => exact fun h => h
  | 1 => exact fun h => Classical.byContradiction fun g => h g
  | 2 => exact fun h => Int.not_lt.mp h
  | 3 => exact fun h => Int.not_le.mp h
  | 4 => exact fun h => Int.not_lt.mp h
  | n + 5 => exact fun h => Int.not_le.mp h
def fx_cc (c : Jvm.ClassFile.Cond) : Nat := match c with
  | .eq => 0
  | .ne => 1
  | .lt => 2
  | .ge => 3
  | .gt => 4
  | .le => 5
def fx_up (F : Int → Int → Int) (p i v : Int) : Int → Int → Int := fun q j => if q = p ∧ j = i then v else F q j
def fx_cy (F : Int → Int → Int) (s sp t tp n : Int) : Int → Int → Int := fun q j => if q = t ∧ tp ≤ j ∧ j < tp + n then F s (sp + (j - tp)) else F q j
def fx_rl (c : Nat) : Int × Int := match c with
  | 1 => (-128, 127)
  | 2 => (-9223372036854775808, 9223372036854775807)
  | 3 => (0, 65535)
  | 4 => (0, 1)
  | _ => (-2147483648, 2147483647)
def fx_Sok (S : fx_S) : Prop := 0 ≤ S.2.2 ∧ (∀ p i, -1 ≤ S.2.1 p i ∧ S.2.1 p i < S.2.2) ∧ (∀ p i, S.2.2 ≤ p → S.1 p i = 0 ∧ S.2.1 p i = -1) ∧ (∀ p i, -9223372036854775808 ≤ S.1 p i ∧ S.1 p i ≤ 9223372036854775807)
def fx_zr (t : Nat) (z : Int) (S : fx_S) : Prop := match t with
  | 0 => -2147483648 ≤ z ∧ z ≤ 2147483647
  | 1 => -9223372036854775808 ≤ z ∧ z ≤ 9223372036854775807
  | 2 => 0 ≤ z ∧ z < S.2.2
  | 3 => -1 ≤ z ∧ z < S.2.2
  | 9 => z = 0
  | _ => True
def fx_g (l : List fx_O) (i : Nat) : fx_O := l.getD i (0, 0)
/-- what is told of a run: the script, the entries' meanings, the sorts of their answers -/
abbrev fx_M : Type := ((Int → Int) × Int) × (Nat → fx_S → List Int → Int → fx_S → Prop) × (Nat → Nat)
def fx_d1 (M : fx_M) (e : fx_Ev) (ν : List Int) (S : fx_S) (K : List Int → fx_S → Prop) : Prop := match e.1 with
  | 0 => K (ν ++ [fx_b e.2.1 (fx_o ν (fx_g e.2.2 0)) (fx_o ν (fx_g e.2.2 1))]) S
  | 1 => (fx_rl e.2.1).1 ≤ S.1 (fx_o ν (fx_g e.2.2 0)) (fx_o ν (fx_g e.2.2 1)) → S.1 (fx_o ν (fx_g e.2.2 0)) (fx_o ν (fx_g e.2.2 1)) ≤ (fx_rl e.2.1).2 → K (ν ++ [S.1 (fx_o ν (fx_g e.2.2 0)) (fx_o ν (fx_g e.2.2 1))]) S
  | 2 => K (ν ++ [S.2.1 (fx_o ν (fx_g e.2.2 0)) (fx_o ν (fx_g e.2.2 1))]) S
  | 3 => fx_c e.2.1 (fx_o ν (fx_g e.2.2 0)) (fx_o ν (fx_g e.2.2 1)) → K ν S
  | 4 => K ν (fx_up S.1 (fx_o ν (fx_g e.2.2 0)) (fx_o ν (fx_g e.2.2 1)) (fx_o ν (fx_g e.2.2 2)), S.2)
  | 5 => K ν (S.1, fx_up S.2.1 (fx_o ν (fx_g e.2.2 0)) (fx_o ν (fx_g e.2.2 1)) (fx_o ν (fx_g e.2.2 2)), S.2.2)
  | 6 => K ν (S.1, S.2.1, S.2.2 + 1)
  | 7 => K (ν ++ [((cz_sb.getD (fx_o ν (fx_g e.2.2 0)).toNat []).getD (fx_o ν (fx_g e.2.2 1)).toNat 0).toInt]) S
  | 8 => K (ν ++ [((cz_sl.getD (fx_o ν (fx_g e.2.2 0)).toNat 0 : Nat) : Int)]) S
  | 9 => (fx_rl 0).1 ≤ M.1.1 (fx_o ν (fx_g e.2.2 0)) → M.1.1 (fx_o ν (fx_g e.2.2 0)) ≤ (fx_rl 0).2 → K (ν ++ [M.1.1 (fx_o ν (fx_g e.2.2 0))]) S
  | 10 => 0 ≤ M.1.2 → M.1.2 ≤ 3072 → K (ν ++ [M.1.2]) S
  | 11 => ∀ (z : Int) (S' : fx_S), fx_Sok S' → fx_zr (M.2.2 e.2.1) z S' → M.2.1 e.2.1 S (e.2.2.map (fx_o ν)) z S' → K (ν ++ [z]) S'
  | 12 => K (ν ++ [S.2.2]) S
  | 14 => K ν (fx_cy S.1 (fx_o ν (fx_g e.2.2 0)) (fx_o ν (fx_g e.2.2 1)) (fx_o ν (fx_g e.2.2 2)) (fx_o ν (fx_g e.2.2 3)) (fx_o ν (fx_g e.2.2 4)), S.2)
  | _ => K ν S
def fx_d (M : fx_M) (l : List fx_Ev) (ν : List Int) (S : fx_S) (K : List Int → fx_S → Prop) : Prop := match l with
  | [] => K ν S
  | e :: l => fx_d1 M e ν S (fun ν' S' => fx_d M l ν' S' K)
theorem fx_d_app {M : fx_M} {K : List Int → fx_S → Prop} {l' : List fx_Ev} : ∀ {l : List fx_Ev} {ν : List Int} {S : fx_S}, fx_d M (l ++ l') ν S K = fx_d M l ν S (fun ν' S' => fx_d M l' ν' S' K) := by
  intro l
  induction l with
  | nil => intro ν S; rfl
  | cons e l ih =>
    intro ν S
    show fx_d1 M e ν S _ = fx_d1 M e ν S _
    congr 1
    funext ν' S'
    exact ih
/-! the walk -/
def fx_pu (σ : fx_Y) (e : fx_Ev) : fx_Y := (σ.1 + 1, σ.2.1, e :: σ.2.2)
def fx_ad (σ : fx_Y) (e : fx_Ev) : fx_Y := (σ.1, σ.2.1, e :: σ.2.2)
def fx_k (o : fx_O) : Bool := o.1 == 0
def fx_lk (lv : fx_L) (i : Nat) : Option fx_V := match lv with
  | [] => none
  | q :: l => if q.1 = i then some q.2 else fx_lk l i
def fx_lg (lv : fx_L) (i : Nat) : Bool := match fx_lk lv (i - 1) with
  | some s => s.1 == 1
  | none => false
def fx_s1 (lv : fx_L) (i : Nat) (s : fx_V) : fx_L := (i, s) :: lv.filter (fun q => !(q.1 == i) && !(q.1 + 1 == i && fx_lg lv i))
def fx_s2 (lv : fx_L) (i : Nat) (s : fx_V) : fx_L := (i, s) :: lv.filter (fun q => !(q.1 == i) && (!(q.1 == i + 1) && !(q.1 + 1 == i && fx_lg lv i)))
def fx_i1 {α : Type} (st : List fx_V) (k : fx_O → List fx_V → Option α) : Option α := match st with
  | s :: r => if s.1 = 0 then k s.2.1 r else none
  | _ => none
def fx_i2 {α : Type} (st : List fx_V) (k : fx_O → fx_O → List fx_V → Option α) : Option α := match st with
  | y :: x :: r => if x.1 = 0 ∧ y.1 = 0 then k x.2.1 y.2.1 r else none
  | _ => none
def fx_l1 {α : Type} (st : List fx_V) (k : fx_O → List fx_V → Option α) : Option α := match st with
  | s :: r => if s.1 = 1 then k s.2.1 r else none
  | _ => none
def fx_l2 {α : Type} (st : List fx_V) (k : fx_O → fx_O → List fx_V → Option α) : Option α := match st with
  | y :: x :: r => if x.1 = 1 ∧ y.1 = 1 then k x.2.1 y.2.1 r else none
  | _ => none
def fx_il {α : Type} (st : List fx_V) (k : fx_O → fx_O → List fx_V → Option α) : Option α := match st with
  | y :: x :: r => if x.1 = 1 ∧ y.1 = 0 then k x.2.1 y.2.1 r else none
  | _ => none
def fx_v1 {α : Type} (st : List fx_V) (k : fx_V → List fx_V → Option α) : Option α := match st with
  | x :: r => k x r
  | _ => none
def fx_v2 {α : Type} (st : List fx_V) (k : fx_V → fx_V → List fx_V → Option α) : Option α := match st with
  | y :: x :: r => k y x r
  | _ => none
/-- an int, a long upon the stack; computed of two -/
def fx_ci (a : Int) : fx_V := (0, (0, a), 0)
def fx_cl (a : Int) : fx_V := (1, (0, a), 0)
def fx_bn (t op : Nat) (a b : fx_O) (pc : Nat) (lv : fx_L) (st : List fx_V) (σ : fx_Y) : Option (List fx_R) :=
  if fx_k a && fx_k b then some [(pc, lv, (t, (0, fx_b op a.2 b.2), 0) :: st, σ)] else some [(pc, lv, (t, (σ.1 + 1, 0), 0) :: st, fx_pu σ (0, op, [a, b]))]
def fx_x1 (q : cz_I) (lv : fx_L) (st : List fx_V) (σ : fx_Y) : Option (List fx_R) :=
  match q.2.1 with
  | .iconst n => cz_n q.2.2.1 1 (some [(q.1 + 1, lv, fx_ci (Int32.ofInt n).toInt :: st, σ)])
  | .bipush n => cz_n q.2.2.1 2 (some [(q.1 + 2, lv, fx_ci (Int8.ofInt n).toInt32.toInt :: st, σ)])
  | .sipush n => cz_n q.2.2.1 3 (some [(q.1 + 3, lv, fx_ci (Int16.ofInt n).toInt32.toInt :: st, σ)])
  | .lconst n => cz_n q.2.2.1 1 (some [(q.1 + 1, lv, fx_cl (Int64.ofNat (n : Nat)).toInt :: st, σ)])
  | .aconst_null => cz_n q.2.2.1 1 (some [(q.1 + 1, lv, (4, (0, -1), 0) :: st, σ)])
  | .ldc _ => cz_n q.2.2.1 2 (if q.2.2.2.1 = 0 then some [(q.1 + 2, lv, fx_ci (Int32.ofInt q.2.2.2.2).toInt :: st, σ)] else cz_if (q.2.2.2.1 == 1 && decide (q.2.2.2.2.toNat < 14)) (some [(q.1 + 2, lv, (5, (0, (q.2.2.2.2.toNat : Int)), 0) :: st, σ)]))
  | .ldc_w _ => cz_n q.2.2.1 3 (cz_if (q.2.2.2.1 == 0) (some [(q.1 + 3, lv, fx_ci (Int32.ofInt q.2.2.2.2).toInt :: st, σ)]))
  | .ldc2_w _ => cz_n q.2.2.1 3 (some [(q.1 + 3, lv, fx_cl (Int64.ofInt q.2.2.2.2).toInt :: st, σ)])
  | .iload_n k => cz_n q.2.2.1 1 (cz_so (fx_lk lv k) fun s => cz_if (s.1 == 0) (some [(q.1 + 1, lv, s :: st, σ)]))
  | .iload k => cz_n q.2.2.1 2 (cz_so (fx_lk lv k) fun s => cz_if (s.1 == 0) (some [(q.1 + 2, lv, s :: st, σ)]))
  | .lload_n k => cz_n q.2.2.1 1 (cz_so (fx_lk lv k) fun s => cz_if (s.1 == 1) (some [(q.1 + 1, lv, s :: st, σ)]))
  | .lload k => cz_n q.2.2.1 2 (cz_so (fx_lk lv k) fun s => cz_if (s.1 == 1) (some [(q.1 + 2, lv, s :: st, σ)]))
  | .aload_n k => cz_n q.2.2.1 1 (cz_so (fx_lk lv k) fun s => some [(q.1 + 1, lv, s :: st, σ)])
  | .aload k => cz_n q.2.2.1 2 (cz_so (fx_lk lv k) fun s => some [(q.1 + 2, lv, s :: st, σ)])
  | .istore_n k => cz_n q.2.2.1 1 (fx_i1 st fun x r => some [(q.1 + 1, fx_s1 lv k (0, x, 0), r, σ)])
  | .istore k => cz_n q.2.2.1 2 (fx_i1 st fun x r => some [(q.1 + 2, fx_s1 lv k (0, x, 0), r, σ)])
  | .lstore k => cz_n q.2.2.1 2 (fx_l1 st fun x r => some [(q.1 + 2, fx_s2 lv k (1, x, 0), r, σ)])
  | .astore_n k => cz_n q.2.2.1 1 (fx_v1 st fun x r => some [(q.1 + 1, fx_s1 lv k x, r, σ)])
  | .astore k => cz_n q.2.2.1 2 (fx_v1 st fun x r => some [(q.1 + 2, fx_s1 lv k x, r, σ)])
  | .iinc k n => cz_so (fx_lk lv k) fun s => cz_if (s.1 == 0) (if fx_k s.2.1 then some [(q.1 + q.2.2.1, fx_s1 lv k (fx_ci (fx_add s.2.1.2 (Int32.ofInt n).toInt)), st, σ)] else some [(q.1 + q.2.2.1, fx_s1 lv k (0, (σ.1 + 1, 0), 0), st, fx_pu σ (0, 0, [s.2.1, (0, (Int32.ofInt n).toInt)]))])
  | .iadd => cz_n q.2.2.1 1 (fx_i2 st fun x y r => fx_bn 0 0 x y (q.1 + 1) lv r σ)
  | .isub => cz_n q.2.2.1 1 (fx_i2 st fun x y r => fx_bn 0 1 x y (q.1 + 1) lv r σ)
  | .imul => cz_n q.2.2.1 1 (fx_i2 st fun x y r => fx_bn 0 2 x y (q.1 + 1) lv r σ)
  | .idiv => cz_n q.2.2.1 1 (fx_i2 st fun x y r => fx_bn 0 3 x y (q.1 + 1) lv r (if fx_k y then σ else fx_ad σ (3, 1, [y, (0, 0)])))
  | .irem => cz_n q.2.2.1 1 (fx_i2 st fun x y r => fx_bn 0 4 x y (q.1 + 1) lv r (if fx_k y then σ else fx_ad σ (3, 1, [y, (0, 0)])))
  | .iand => cz_n q.2.2.1 1 (fx_i2 st fun x y r => fx_bn 0 5 x y (q.1 + 1) lv r σ)
  | .ior => cz_n q.2.2.1 1 (fx_i2 st fun x y r => fx_bn 0 6 x y (q.1 + 1) lv r σ)
  | .ishl => cz_n q.2.2.1 1 (fx_i2 st fun x y r => fx_bn 0 7 x y (q.1 + 1) lv r σ)
  | .ishr => cz_n q.2.2.1 1 (fx_i2 st fun x y r => fx_bn 0 8 x y (q.1 + 1) lv r σ)
  | .iushr => cz_n q.2.2.1 1 (fx_i2 st fun x y r => fx_bn 0 9 x y (q.1 + 1) lv r σ)
  | .ineg => cz_n q.2.2.1 1 (fx_i1 st fun x r => fx_bn 0 10 x (0, 0) (q.1 + 1) lv r σ)
  | .i2b => cz_n q.2.2.1 1 (fx_i1 st fun x r => fx_bn 0 11 x (0, 0) (q.1 + 1) lv r σ)
  | .i2c => cz_n q.2.2.1 1 (fx_i1 st fun x r => fx_bn 0 12 x (0, 0) (q.1 + 1) lv r σ)
  | .i2l => cz_n q.2.2.1 1 (fx_i1 st fun x r => some [(q.1 + 1, lv, (1, x, 0) :: r, σ)])
  | .l2i => cz_n q.2.2.1 1 (fx_l1 st fun x r => fx_bn 0 13 x (0, 0) (q.1 + 1) lv r σ)
  | .ladd => cz_n q.2.2.1 1 (fx_l2 st fun x y r => fx_bn 1 14 x y (q.1 + 1) lv r σ)
  | .land => cz_n q.2.2.1 1 (fx_l2 st fun x y r => fx_bn 1 15 x y (q.1 + 1) lv r σ)
  | .lor => cz_n q.2.2.1 1 (fx_l2 st fun x y r => fx_bn 1 16 x y (q.1 + 1) lv r σ)
  | .lshl => cz_n q.2.2.1 1 (fx_il st fun x y r => fx_bn 1 17 x y (q.1 + 1) lv r σ)
  | .lshr => cz_n q.2.2.1 1 (fx_il st fun x y r => fx_bn 1 18 x y (q.1 + 1) lv r σ)
  | .lcmp => cz_n q.2.2.1 1 (fx_l2 st fun x y r => fx_bn 0 19 x y (q.1 + 1) lv r σ)
  | .dup => cz_n q.2.2.1 1 (fx_v1 st fun x r => cz_if (!(x.1 == 1)) (some [(q.1 + 1, lv, x :: x :: r, σ)]))
  | .dup2 => cz_n q.2.2.1 1 (fx_v2 st fun y x r => cz_if (!(y.1 == 1) && !(x.1 == 1)) (some [(q.1 + 1, lv, y :: x :: y :: x :: r, σ)]))
  | .pop => cz_n q.2.2.1 1 (fx_v1 st fun x r => cz_if (!(x.1 == 1)) (some [(q.1 + 1, lv, r, σ)]))
  | .goto off => cz_n q.2.2.1 3 (cz_j q.1 off fun t => some [(t, lv, st, σ)])
  | _ => none
/-- two ways -/
def fx_br (σ : fx_Y) (op : Nat) (a b : fx_O) (t u : Nat) (lv : fx_L) (st : List fx_V) : List fx_R :=
  if fx_k a && fx_k b then (if fx_cb op a.2 b.2 then [(t, lv, st, σ)] else [(u, lv, st, σ)]) else [(t, lv, st, fx_ad σ (3, op, [a, b])), (u, lv, st, fx_ad σ (3, fx_cn op, [a, b]))]
/-- a comparison of longs that was made just now is told by what was compared -/
def fx_lc (σ : fx_Y) (o : fx_O) : fx_O × fx_O := match σ.2.2 with
  | (0, 19, [a, b]) :: _ => if o.1 = σ.1 ∧ o.2 = 0 ∧ a.1 < σ.1 ∧ b.1 < σ.1 then (a, b) else (o, (0, 0))
  | _ => (o, (0, 0))
def fx_ts (σ : fx_Y) (o : fx_O) (pc : Nat) (lv : fx_L) (st : List fx_V) : Int → List Int → Option (List fx_R)
  | _, [] => some []
  | k, off :: l => cz_so (fx_ts σ o pc lv st (k + 1) l) fun r => cz_j pc off fun t => some ((t, lv, st, fx_ad σ (3, 0, [o, (0, k)])) :: r)
def fx_ls (σ : fx_Y) (o : fx_O) (pc : Nat) (dflt : Int) (lv : fx_L) (st : List fx_V) : List (Int × Int) → Option (List fx_R)
  | [] => cz_j pc dflt fun t => some [(t, lv, st, σ)]
  | (k, off) :: l => cz_so (fx_ls (fx_ad σ (3, 1, [o, (0, k)])) o pc dflt lv st l) fun r => cz_j pc off fun t => some ((t, lv, st, fx_ad σ (3, 0, [o, (0, k)])) :: r)
def fx_xb (q : cz_I) (lv : fx_L) (st : List fx_V) (σ : fx_Y) : Option (List fx_R) :=
  match q.2.1 with
  | .ifCond c off => cz_n q.2.2.1 3 (fx_i1 st fun x r => cz_j q.1 off fun t => some (fx_br σ (fx_cc c) (fx_lc σ x).1 (fx_lc σ x).2 t (q.1 + 3) lv r))
  | .if_icmp c off => cz_n q.2.2.1 3 (fx_i2 st fun x y r => cz_j q.1 off fun t => some (fx_br σ (fx_cc c) x y t (q.1 + 3) lv r))
  | .ifnull off => cz_n q.2.2.1 3 (fx_v1 st fun x r => cz_j q.1 off fun t => if x.1 = 4 then some [(t, lv, r, σ)] else if x.1 = 2 then some [(q.1 + 3, lv, r, σ)] else cz_if (x.1 == 3) (some (fx_br σ 0 x.2.1 (0, -1) t (q.1 + 3) lv r)))
  | .ifnonnull off => cz_n q.2.2.1 3 (fx_v1 st fun x r => cz_j q.1 off fun t => if x.1 = 4 then some [(q.1 + 3, lv, r, σ)] else if x.1 = 2 then some [(t, lv, r, σ)] else cz_if (x.1 == 3) (some (fx_br σ 0 x.2.1 (0, -1) (q.1 + 3) t lv r)))
  | .tableswitch dflt lo hi offs => fx_i1 st fun x r => cz_if (!(fx_k x)) (cz_so (fx_ts σ x q.1 lv r lo offs.toList) fun l => cz_j q.1 dflt fun t => some ((t, lv, r, fx_ad σ (3, 2, [x, (0, lo)])) :: (t, lv, r, fx_ad σ (3, 4, [x, (0, hi)])) :: l))
  | .lookupswitch dflt ps => fx_i1 st fun x r => cz_if (!(fx_k x)) (fx_ls σ x q.1 dflt lv r ps.toList)
  | .athrow => some []
  | .invokestatic _ => if q.2.2.2.2 < 0 ∧ ¬ q.2.2.2.2 = -5 then some [] else none
  | .invokespecial _ => if q.2.2.2.2 ≤ 0 ∧ ¬ q.2.2.2.2 = -4 then some [] else none
  | .invokevirtual _ => if q.2.2.2.2 ≤ 0 then some [] else none
  | _ => none
/-! where an object's parts lie behind it -/
def fx_dt : List (List (Option (Nat × Nat × Nat × Nat))) := [[some (1, 1, 0, 2), some (2, 1, 0, 14), some (3, 1, 0, 14), some (4, 1, 0, 14)], [none, some (1, 1, 0, 40), some (2, 1, 0, 40), some (3, 1, 0, 40), none, some (4, 1, 0, 40), some (5, 1, 0, 40), some (6, 1, 0, 40), none, some (7, 1, 6, 10), some (8, 1, 0, 10), some (9, 1, 0, 10), some (10, 1, 0, 10)], [none, some (1, 1, 0, 20), some (2, 1, 0, 20), some (3, 1, 0, 20), some (4, 1, 0, 20), some (5, 1, 1, 1600), some (6, 1, 0, 105), some (7, 1, 0, 105), some (8, 1, 0, 12)], [none, some (1, 1, 0, 12), some (2, 1, 0, 12), some (3, 1, 0, 12), some (4, 1, 0, 12), some (5, 1, 0, 12)], [some (1, 1, 0, 7), none, none, none, some (2, 1, 0, 49), some (3, 1, 0, 1024), some (4, 1, 0, 1024)], [none, some (1, 1, 0, 80), some (2, 1, 0, 80), some (3, 1, 0, 80), some (4, 1, 0, 80), some (5, 1, 0, 80), some (6, 1, 0, 80), some (7, 1, 0, 320)], [some (1, 1, 0, 4), some (2, 1, 0, 4), none, some (3, 1, 0, 300), some (4, 1, 0, 300), some (5, 1, 0, 300), none, none, some (6, 1, 0, 4), some (7, 1, 0, 4)], [some (1, 1, 1, 600), none, none, none, none, none, none], [some (1, 1, 0, 4), some (2, 1, 0, 4), some (3, 1, 2, 240)], [some (1, 1, 0, 4), none, none, none, none, some (2, 1, 0, 16), some (3, 1, 0, 16), none, some (4, 1, 0, 48), some (5, 1, 4, 48), some (6, 1, 3, 48), some (7, 1, 0, 48), some (8, 1, 0, 48), some (9, 1, 0, 48)], [none, some (1, 0, 1, 0), some (12, 0, 5, 0), some (20, 0, 6, 0), some (28, 0, 2, 0), some (37, 0, 3, 0), some (43, 0, 0, 0)], [some (1, 0, 10, 0), some (49, 1, 5, 3), some (50, 0, 7, 0), some (52, 0, 8, 0), some (56, 0, 4, 0), some (61, 1, 0, 80), some (62, 1, 0, 80), some (63, 1, 0, 4), some (64, 1, 1, 80), some (65, 1, 0, 80), none], [none, some (1, 1, 0, 8090), some (2, 1, 0, 24270), some (3, 1, 4, 3), some (4, 1, 1, 600), none, some (5, 1, 0, 5), none, none, none, none, none, none, none, some (6, 1, 0, 260), none, some (7, 1, 0, 4), some (8, 1, 0, 4), some (9, 1, 4, 4), some (10, 1, 0, 4), some (11, 1, 0, 4), some (12, 1, 0, 9), some (13, 1, 0, 9), some (14, 1, 0, 80), some (15, 1, 0, 80), none, some (16, 1, 0, 12), some (17, 1, 4, 80), some (18, 1, 0, 80), none, none, some (19, 1, 0, 7), some (20, 1, 0, 7), none, none, none, some (21, 1, 0, 4), some (22, 1, 0, 4), some (23, 1, 2, 240), some (24, 1, 2, 60)]]
def fx_dl (ci k : Nat) : Option (Nat × Nat × Nat × Nat) := (fx_dt.getD ci []).getD k none
def fx_hh (d : Nat × Nat × Nat × Nat) : Nat := if d.2.1 = 1 then 8 * d.2.2.2 + d.2.2.1 + 1 else 0
def fx_fr (φ : fx_O × List fx_FC) (o : fx_O) : Bool := !φ.2.isEmpty && (o.1 == φ.1.1 && decide (φ.1.2 ≤ o.2))
/-- the fields of a new object that are known -/
def fx_fg (φ : fx_O × List fx_FC) (o : fx_O) (ci k : Nat) : Option fx_V := match φ.2[(o.2 - φ.1.2).toNat]? with
  | some (0, cj, fs) => if cj = ci then fs.getD k none else none
  | _ => none
def fx_fs (φ : fx_O × List fx_FC) (o : fx_O) (ci k : Nat) (v : fx_V) : Option (fx_O × List fx_FC) := match φ.2[(o.2 - φ.1.2).toNat]? with
  | some (0, cj, fs) => if cj = ci ∧ k < fs.length then some (φ.1, φ.2.set (o.2 - φ.1.2).toNat (0, cj, fs.set k (some v))) else none
  | _ => none
/-- all that is new is whole: it is old from now on -/
def fx_cm1 (φ : fx_O × List fx_FC) (j : Nat) (c : fx_FC) : Bool := match c with
  | (0, ci, fs) => (List.range fs.length).all fun k => match fx_dl ci k with
    | none => true
    | some (d, kd, a, b) => (match fs.getD k none with
      | some s => s.1 == 2 && (s.2.1.1 == φ.1.1 && decide (s.2.1.2 = φ.1.2 + (j + d : Nat)))
      | none => false) && (match φ.2[j + d]? with
      | some (0, cj, _) => kd == 0 && cj == a
      | some (t + 1, n, _) => kd == 1 && (t == a && n == b)
      | none => false)
  | _ => true
def fx_cm (φ : fx_O × List fx_FC) : Bool := (List.range φ.2.length).all fun j => match φ.2[j]? with
  | some c => fx_cm1 φ j c
  | none => false
def fx_cl0 (σ : fx_Y) : Option fx_Y := if σ.2.1.2.isEmpty then some σ else if fx_cm σ.2.1 then some (σ.1, ((σ.2.1.1.1, σ.2.1.1.2 + σ.2.1.2.length), []), σ.2.2) else none
/-- a row's index is within it -/
def fx_bd (o : fx_O) (hint : Nat) (σ : fx_Y) : fx_Y :=
  let σ1 := if fx_k o then σ else fx_ad σ (3, 5, [(0, 0), o])
  if hint = 0 ∨ fx_k o = true then σ1 else fx_ad σ1 (3, 2, [o, (0, ((hint / 8 : Nat) : Int))])
/-- a cell upon the stack: its place; that it isn't null is told -/
def fx_pl (s : fx_V) (σ : fx_Y) : Option (fx_O × fx_Y) := if s.1 = 2 then some (s.2.1, σ) else if s.1 = 3 ∧ s.2.2 = 0 then some (s.2.1, fx_ad σ (3, 1, [s.2.1, (0, -1)])) else none
def fx_op (σ : fx_Y) : fx_Y := if σ.2.1.2.isEmpty && decide (σ.2.1.1.2 < 0) then ((fx_pu σ (12, 0, [])).1, ((σ.1 + 1, 0), []), (fx_pu σ (12, 0, [])).2.2) else σ
/-- a cell more -/
def fx_nw (c : fx_FC) (σ : fx_Y) : fx_Y := (σ.1, (σ.2.1.1, σ.2.1.2 ++ [c]), (6, 0, []) :: σ.2.2)
def fx_nf (ci : Nat) : Nat := (cz_df ci).length
def fx_na (ty : ArrayType) : Option Nat := match ty with
  | .int => some 0
  | .byte => some 1
  | .long => some 2
  | .char => some 3
  | .boolean => some 4
  | _ => none
/-- index, row -/
def fx_ir {α : Type} (st : List fx_V) (k : fx_O → fx_V → List fx_V → Option α) : Option α := match st with
  | i :: s :: r => if i.1 = 0 then k i.2.1 s r else none
  | _ => none
def fx_vr3 {α : Type} (st : List fx_V) (k : fx_V → fx_O → fx_V → List fx_V → Option α) : Option α := match st with
  | v :: i :: s :: r => if i.1 = 0 then k v i.2.1 s r else none
  | _ => none
/-- an element is read: of the sort t, in bounds c -/
def fx_rd (t c : Nat) (i : fx_O) (s : fx_V) (pc : Nat) (lv : fx_L) (r : List fx_V) (σ : fx_Y) : Option (List fx_R) :=
  cz_so (fx_pl s σ) fun p => some [(pc, lv, (t, ((fx_bd i s.2.2 p.2).1 + 1, 0), 0) :: r, fx_pu (fx_bd i s.2.2 p.2) (1, c, [p.1, i]))]
/-- an element is written -/
def fx_wr (v : fx_O) (i : fx_O) (s : fx_V) (pc : Nat) (lv : fx_L) (r : List fx_V) (σ : fx_Y) : Option (List fx_R) :=
  cz_so (fx_pl s σ) fun p => some [(pc, lv, r, fx_ad (fx_bd i s.2.2 p.2) (4, 0, [p.1, i, v]))]
/-- what a row of a small type keeps of a number -/
def fx_nv (tc : Nat) (v : fx_O) (σ : fx_Y) : fx_Y × fx_O := if fx_k v then (σ, (0, fx_nar tc v.2)) else (fx_pu σ (0, 20 + tc, [v]), (σ.1 + 1, 0))
def fx_x2 (q : cz_I) (lv : fx_L) (st : List fx_V) (σ : fx_Y) : Option (List fx_R) :=
  match q.2.1 with
  | .getfield _ => cz_n q.2.2.1 3 (fx_v1 st fun s r =>
      if q.2.2.2.1 = 100 then cz_if (s.1 == 5) (some [(q.1 + 3, lv, (if q.2.2.2.2 = 0 then (6, s.2.1, 0) else fx_ci 0) :: r, σ)])
      else cz_so (fx_pl s σ) fun p => match fx_dl q.2.2.2.1 q.2.2.2.2.toNat with
        | none => some [(q.1 + 3, lv, (0, (p.2.1 + 1, 0), 0) :: r, fx_pu p.2 (1, 0, [p.1, (0, (q.2.2.2.2.toNat : Int))]))]
        | some d => if fx_fr p.2.2.1 p.1 then cz_so (fx_fg p.2.2.1 p.1 q.2.2.2.1 q.2.2.2.2.toNat) fun v => some [(q.1 + 3, lv, v :: r, p.2)]
          else some [(q.1 + 3, lv, (2, (p.1.1, p.1.2 + d.1), fx_hh d) :: r, p.2)])
  | .putfield _ => cz_n q.2.2.1 3 (fx_v2 st fun v s r => match fx_dl q.2.2.2.1 q.2.2.2.2.toNat with
      | none => cz_if (v.1 == 0) (cz_so (fx_pl s σ) fun p => some [(q.1 + 3, lv, r, fx_ad p.2 (4, 0, [p.1, (0, (q.2.2.2.2.toNat : Int)), v.2.1]))])
      | some _ => cz_if (s.1 == 2 && (fx_fr σ.2.1 s.2.1 && v.1 == 2)) (cz_so (fx_fs σ.2.1 s.2.1 q.2.2.2.1 q.2.2.2.2.toNat v) fun φ => some [(q.1 + 3, lv, r, (σ.1, φ, σ.2.2))]))
  | .iaload => cz_n q.2.2.1 1 (fx_ir st fun i s r => if s.1 = 7 then some [(q.1 + 1, lv, (0, (σ.1 + 1, 0), 0) :: r, fx_pu σ (9, 0, [i]))] else fx_rd 0 0 i s (q.1 + 1) lv r σ)
  | .baload => cz_n q.2.2.1 1 (fx_ir st fun i s r => if s.1 = 6 then some [(q.1 + 1, lv, (0, (σ.1 + 1, 0), 0) :: r, fx_pu σ (7, 0, [s.2.1, i]))] else fx_rd 0 (if s.2.2 % 8 = 2 then 1 else if s.2.2 % 8 = 5 then 4 else 0) i s (q.1 + 1) lv r σ)
  | .caload => cz_n q.2.2.1 1 (fx_ir st fun i s r => fx_rd 0 3 i s (q.1 + 1) lv r σ)
  | .laload => cz_n q.2.2.1 1 (fx_ir st fun i s r => fx_rd 1 2 i s (q.1 + 1) lv r σ)
  | .aaload => cz_n q.2.2.1 1 (fx_ir st fun i s r => cz_if (s.1 == 2 && !(fx_fr σ.2.1 s.2.1)) (some [(q.1 + 1, lv, (3, ((fx_bd i s.2.2 σ).1 + 1, 0), 0) :: r, fx_pu (fx_bd i s.2.2 σ) (2, 0, [s.2.1, i]))]))
  | .iastore => cz_n q.2.2.1 1 (fx_vr3 st fun v i s r => cz_if (v.1 == 0) (fx_wr v.2.1 i s (q.1 + 1) lv r σ))
  | .bastore => cz_n q.2.2.1 1 (fx_vr3 st fun v i s r => cz_if (v.1 == 0 && (s.2.2 % 8 == 2 || s.2.2 % 8 == 5)) (fx_wr (fx_nv (s.2.2 % 8 - 1) v.2.1 σ).2 i s (q.1 + 1) lv r (fx_nv (s.2.2 % 8 - 1) v.2.1 σ).1))
  | .castore => cz_n q.2.2.1 1 (fx_vr3 st fun v i s r => cz_if (v.1 == 0) (fx_wr (fx_nv 3 v.2.1 σ).2 i s (q.1 + 1) lv r (fx_nv 3 v.2.1 σ).1))
  | .lastore => cz_n q.2.2.1 1 (fx_vr3 st fun v i s r => cz_if (v.1 == 1) (fx_wr v.2.1 i s (q.1 + 1) lv r σ))
  | .aastore => cz_n q.2.2.1 1 (fx_vr3 st fun v i s r => cz_so (fx_cl0 σ) fun σ1 => cz_if (s.1 == 2 && (v.1 == 2 || v.1 == 3 || v.1 == 4)) (some [(q.1 + 1, lv, r, fx_ad (fx_bd i s.2.2 σ1) (5, 0, [s.2.1, i, if v.1 = 4 then (0, -1) else v.2.1]))]))
  | .arraylength => cz_n q.2.2.1 1 (fx_v1 st fun s r => if s.1 = 7 then some [(q.1 + 1, lv, (0, (σ.1 + 1, 0), 0) :: r, fx_pu σ (10, 0, []))] else if s.1 = 6 then (if fx_k s.2.1 then some [(q.1 + 1, lv, fx_ci ((cz_sl.getD s.2.1.2.toNat 0 : Nat) : Int) :: r, σ)] else some [(q.1 + 1, lv, (0, (σ.1 + 1, 0), 0) :: r, fx_pu σ (8, 0, [s.2.1]))]) else cz_if (s.1 == 2 && (!(s.2.2 == 0) && decide (s.2.2 / 8 < 2147483648))) (some [(q.1 + 1, lv, fx_ci ((s.2.2 / 8 : Nat) : Int) :: r, σ)]))
  | .new _ => cz_n q.2.2.1 3 (if q.2.2.2.2 == 0 && decide (q.2.2.2.1 < 13) then some [(q.1 + 3, lv, (2, ((fx_op σ).2.1.1.1, (fx_op σ).2.1.1.2 + (fx_op σ).2.1.2.length), 0) :: st, fx_nw (0, q.2.2.2.1, List.replicate (fx_nf q.2.2.2.1) none) (fx_op σ))] else some [])
  | .newarray ty => cz_n q.2.2.1 2 (fx_i1 st fun o r => cz_if (fx_k o && decide (0 ≤ o.2)) (cz_so (fx_na ty) fun tc => some [(q.1 + 2, lv, (2, ((fx_op σ).2.1.1.1, (fx_op σ).2.1.1.2 + (fx_op σ).2.1.2.length), 8 * o.2.toNat + tc + 1) :: r, fx_nw (tc + 1, o.2.toNat, []) (fx_op σ))]))
  | .anewarray _ => cz_n q.2.2.1 3 (fx_i1 st fun o r => cz_if (fx_k o && decide (0 ≤ o.2) && (q.2.2.2.1 == 5 || q.2.2.2.1 == 6)) (some [(q.1 + 3, lv, (2, ((fx_op σ).2.1.1.1, (fx_op σ).2.1.1.2 + (fx_op σ).2.1.2.length), 8 * o.2.toNat + q.2.2.2.1 + 1) :: r, fx_nw (q.2.2.2.1 + 1, o.2.toNat, []) (fx_op σ))]))
  | .invokespecial _ => cz_n q.2.2.1 3 (cz_if (q.2.2.2.2 == -4) (fx_v1 st fun _ r => some [(q.1 + 3, lv, r, σ)]))
  | .invokestatic _ => cz_n q.2.2.1 3 (cz_if (q.2.2.2.2 == -5) (match st with
      | n :: dp :: a :: sp :: a0 :: r => if n.1 = 0 ∧ dp.1 = 0 ∧ a.1 = 2 ∧ sp.1 = 0 ∧ a0.1 = 2 then some [(q.1 + 3, lv, r, fx_ad (fx_bd n.2.1 0 (fx_bd dp.2.1 0 (fx_bd sp.2.1 0 σ))) (14, 0, [a0.2.1, sp.2.1, a.2.1, dp.2.1, n.2.1]))] else none
      | _ => none))
  | .getstatic _ => cz_n q.2.2.1 3 (if q.2.2.2.1 = 0 then some [(q.1 + 3, lv, fx_ci 1 :: st, σ)] else cz_if (q.2.2.2.1 == 1) (some [(q.1 + 3, lv, (8, (0, 0), 0) :: st, σ)]))
  | _ => none
/-! calls, returns, runs -/
def fx_pop {α : Type} (n : Nat) (st : List fx_V) (k : List fx_V → List fx_V → Option α) : Option α := if n ≤ st.length then k (st.take n).reverse (st.drop n) else none
def fx_x3 (q : cz_I) (st : List fx_V) : Option ((Nat × List fx_V × List fx_V) ⊕ Option fx_V) :=
  match q.2.1 with
  | .invokevirtual _ => cz_n q.2.2.1 3 (cz_if (decide (0 < q.2.2.2.2)) (fx_pop q.2.2.2.2.toNat st fun as r => some (.inl (q.2.2.2.1, as, r))))
  | .invokestatic _ => cz_n q.2.2.1 3 (cz_if (decide (0 ≤ q.2.2.2.2)) (fx_pop q.2.2.2.2.toNat st fun as r => some (.inl (q.2.2.2.1, as, r))))
  | .invokespecial _ => cz_n q.2.2.1 3 (cz_if (decide (0 < q.2.2.2.2)) (fx_pop q.2.2.2.2.toNat st fun as r => some (.inl (q.2.2.2.1, as, r))))
  | .ireturn => cz_n q.2.2.1 1 (fx_v1 st fun s r => cz_if (s.1 == 0 && r.isEmpty) (some (.inr (some s))))
  | .lreturn => cz_n q.2.2.1 1 (fx_v1 st fun s r => cz_if (s.1 == 1 && r.isEmpty) (some (.inr (some s))))
  | .areturn => cz_n q.2.2.1 1 (fx_v1 st fun s r => cz_if (r.isEmpty) (some (.inr (some s))))
  | .return_ => cz_n q.2.2.1 1 (cz_if st.isEmpty (some (.inr none)))
  | _ => none
def fx_as : Nat → List fx_V → fx_L
  | _, [] => []
  | i, s :: l => (i, s) :: fx_as (if s.1 = 1 then i + 2 else i + 1) l
/-- the locals that an entry wants: a fixed number, or told -/
def fx_mt1 (lv : fx_L) (p : Nat × Nat × Option Int × Nat) : Option (List fx_O) := match fx_lk lv p.1 with
  | none => none
  | some s => if s.1 = p.2.1 ∧ (p.2.2.2 = 0 ∨ s.2.2 = p.2.2.2) then (match p.2.2.1 with
    | some k => if s.2.1.1 = 0 ∧ s.2.1.2 = k then some [] else none
    | none => some [s.2.1]) else none
def fx_mt (lv : fx_L) : List (Nat × Nat × Option Int × Nat) → Option (List fx_O)
  | [] => some []
  | p :: l => match fx_mt1 lv p with
    | none => none
    | some a => match fx_mt lv l with
      | none => none
      | some b => some (a ++ b)
/-- the first entry that fits -/
def fx_fe (T : List fx_T1) (mi pc : Nat) (lv : fx_L) (k : Nat) : Option (Nat × List fx_O × Nat) := match T with
  | [] => none
  | t :: T => if (Nat.beq t.1 mi && Nat.beq t.2.1 pc) = true then (match fx_mt lv t.2.2.1 with
    | some ops => some (k, ops, t.2.2.2)
    | none => fx_fe T mi pc lv (k + 1)) else fx_fe T mi pc lv (k + 1)
def fx_all {α β : Type} (l : List α) (f : α → Option (List β)) : Option (List β) := match l with
  | [] => some []
  | a :: l => match f a with
    | none => none
    | some r => match fx_all l f with
      | none => none
      | some r' => some (r ++ r')
def fx_nx (T : List fx_T1) (top : Bool) (mi : Nat) (go : Nat → fx_L → List fx_V → fx_Y → Option (List fx_En)) (r : fx_R) : Option (List fx_En) :=
  if top && r.2.2.1.isEmpty then (match fx_fe T mi r.1 r.2.1 0 with
    | some (k, ops, _) => (match fx_cl0 r.2.2.2 with
      | some σ => some [(σ, .inr (k, ops))]
      | none => none)
    | none => go r.1 r.2.1 r.2.2.1 r.2.2.2) else go r.1 r.2.1 r.2.2.1 r.2.2.2
/-- the answer of a call by an entry: value n -/
def fx_rv (t : Nat) (n : Nat) : List fx_V := if t = 9 then [] else [(t, (n, 0), 0)]
/-- a call by an entry: all that is new must be whole -/
def fx_ca (T : List fx_T1) (σ : fx_Y) (mj : Nat) (as : List fx_V) : Option (fx_Y × Nat × List fx_O × Nat) := if σ.2.1.1.1 = 0 ∧ 0 ≤ σ.2.1.1.2 then none else match fx_fe T mj 0 (fx_as 0 as) 0 with
  | some x => (match fx_cl0 σ with
    | some σ1 => some (σ1, x)
    | none => none)
  | none => none
def fx_run (T : List fx_T1) : Nat → Bool → Nat → Nat → fx_L → List fx_V → fx_Y → Option (List fx_En)
  | 0, _, _, _, _, _, _ => none
  | f + 1, top, mi, pc, lv, st, σ => match ck_ft mi pc with
    | none => none
    | some q => match fx_x1 q lv st σ with
      | some l => fx_all l (fun r => fx_nx T top mi (fun a b c d => fx_run T f top mi a b c d) r)
      | none => match fx_xb q lv st σ with
        | some l => fx_all l (fun r => fx_nx T top mi (fun a b c d => fx_run T f top mi a b c d) r)
        | none => match fx_x2 q lv st σ with
          | some l => fx_all l (fun r => fx_nx T top mi (fun a b c d => fx_run T f top mi a b c d) r)
          | none => match fx_x3 q st with
            | none => none
            | some (.inr v) => some [(σ, .inl v)]
            | some (.inl (mj, as, r)) => match fx_ca T σ mj as with
              | some (σ1, k, ops, t) => fx_nx T top mi (fun a b c d => fx_run T f top mi a b c d) (pc + 3, lv, fx_rv t (σ1.1 + 1) ++ r, ((σ1.1 + 1, ((0, -1), []), (11, k, ops) :: σ1.2.2)))
              | none => match fx_run T f false mj 0 (fx_as 0 as) [] σ with
                | none => none
                | some es => fx_all es (fun e => match e.2 with
                  | .inl v => fx_nx T top mi (fun a b c d => fx_run T f top mi a b c d) (pc + 3, lv, v.toList ++ r, e.1)
                  | .inr _ => none)
/-! an entry's paths -/
abbrev fx_Pa : Type := List fx_Ev × (fx_O ⊕ (Nat × List fx_O))
def fx_lv0 : List (Nat × Nat × Option Int × Nat) → Nat → fx_L × Nat
  | [], n => ([], n)
  | p :: l, n => match p.2.2.1 with
    | some k => ((p.1, p.2.1, (0, k), p.2.2.2) :: (fx_lv0 l n).1, (fx_lv0 l n).2)
    | none => ((p.1, p.2.1, (n + 1, 0), p.2.2.2) :: (fx_lv0 l (n + 1)).1, (fx_lv0 l (n + 1)).2)
def fx_end (T : List fx_T1) (t : Nat) (e : fx_En) : Option fx_Pa := match e.2 with
  | .inr (k, ops) => (match T[k]? with
    | some t' => if t'.2.2.2 = t then some (e.1.2.2.reverse, .inr (k, ops)) else none
    | none => none)
  | .inl none => cz_so (fx_cl0 e.1) fun σ => if t = 9 then some (σ.2.2.reverse, .inl (0, 0)) else none
  | .inl (some s) => cz_so (fx_cl0 e.1) fun σ => if s.1 = t ∧ t < 3 then some (σ.2.2.reverse, .inl s.2.1) else if t = 3 ∧ (s.1 = 2 ∨ s.1 = 3) then some (σ.2.2.reverse, .inl s.2.1) else if t = 3 ∧ s.1 = 4 then some (σ.2.2.reverse, .inl (0, -1)) else none
def fx_ends (T : List fx_T1) (t : Nat) : List fx_En → Option (List fx_Pa)
  | [] => some []
  | e :: l => match fx_end T t e with
    | none => none
    | some p => match fx_ends T t l with
      | none => none
      | some r => some (p :: r)
def fx_chk (T : List fx_T1) (t : fx_T1) : Option (List fx_Pa) := match fx_run T 2000 true t.1 t.2.1 (fx_lv0 t.2.2.1 0).1 [] ((fx_lv0 t.2.2.1 0).2, ((0, -1), []), []) with
  | none => none
  | some es => fx_ends T t.2.2.2 es
/-- what is to be shown of an entry, path by path -/
def fx_VC (M : fx_M) (k : Nat) (ν : List Int) (S : fx_S) (p : fx_Pa) : Prop := fx_d M p.1 ν S (fun ν' S' => match p.2 with
  | .inl o => M.2.1 k S ν (fx_o ν' o) S'
  | .inr (k', ops) => ∀ (z : Int) (S'' : fx_S), fx_Sok S'' → fx_zr (M.2.2 k') z S'' → M.2.1 k' S' (ops.map (fx_o ν')) z S'' → M.2.1 k S ν z S'')
