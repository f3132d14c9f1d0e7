/-! THE CLEAN MACHINE: the instructions that the program uses, over locals, stack and a heap as plain lists; 'none' wherever something would go wrong -/
abbrev cz_LV : Type := List (Nat × Value)
abbrev cz_C : Type := (Nat × vp_A) ⊕ (Nat × List Value)
abbrev cz_H : Type := List cz_C
/-- the first own address; the script (its cell, its length, its ints); the texts' cells, their rows of bytes; the formatter -/
abbrev cz_E : Type := Nat × (Nat × Nat × (Nat → Int32)) × (Nat → Nat) × (Nat → Nat) × Value
def cz_ty : Nat → FieldType := fun k => match k with
  | 0 => .int
  | 1 => .byte
  | 2 => .long
  | 3 => .char
  | 4 => .boolean
  | 5 => .object RX10
  | _ => .object RX9
def cz_ft : List (Nat → FieldType) := [tyX0, tyX1, tyX2, tyX3, tyX4, tyX5, tyX6, tyX7, tyX8, tyX9, tyX10, tyX11, tyX12]
def cz_fty (ci k : Nat) : FieldType := (cz_ft.getD ci tyX0) k
def cz_nf : List Nat := vwCl.map (fun q => q.2.2)
def cz_df (ci : Nat) : List Value := (List.range (cz_nf.getD ci 0)).map (fun k => defaultValue (cz_fty ci k))
def cz_n {α : Type} (len k : Nat) (x : Option α) : Option α := if len = k then x else none
theorem cz_n_some {α : Type} {len k : Nat} {x : Option α} {r : α} (h : cz_n len k x = some r) : len = k ∧ x = some r := by
  unfold cz_n at h
  split at h
  · exact ⟨by assumption, h⟩
  · cases h
def cz_if {α : Type} (b : Bool) (x : Option α) : Option α := if b = true then x else none
theorem cz_if_some {α : Type} {b : Bool} {x : Option α} {r : α} (h : cz_if b x = some r) : b = true ∧ x = some r := by
  unfold cz_if at h
  split at h
  · exact ⟨by assumption, h⟩
  · cases h
def cz_i1 {α : Type} (st : List Value) (k : Int32 → List Value → Option α) : Option α := match st with
  | .int x :: r => k x r
  | _ => none
theorem cz_i1_some {α : Type} {st : List Value} {k : Int32 → List Value → Option α} {r : α} (h : cz_i1 st k = some r) : ∃ x rest, st = .int x :: rest ∧ k x rest = some r := by
  unfold cz_i1 at h
  split at h
  · exact ⟨_, _, rfl, h⟩
  · cases h
def cz_i2 {α : Type} (st : List Value) (k : Int32 → Int32 → List Value → Option α) : Option α := match st with
  | .int y :: .int x :: r => k x y r
  | _ => none
theorem cz_i2_some {α : Type} {st : List Value} {k : Int32 → Int32 → List Value → Option α} {r : α} (h : cz_i2 st k = some r) : ∃ x y rest, st = .int y :: .int x :: rest ∧ k x y rest = some r := by
  unfold cz_i2 at h
  split at h
  · exact ⟨_, _, _, rfl, h⟩
  · cases h
def cz_l1 {α : Type} (st : List Value) (k : Int64 → List Value → Option α) : Option α := match st with
  | .long x :: r => k x r
  | _ => none
theorem cz_l1_some {α : Type} {st : List Value} {k : Int64 → List Value → Option α} {r : α} (h : cz_l1 st k = some r) : ∃ x rest, st = .long x :: rest ∧ k x rest = some r := by
  unfold cz_l1 at h
  split at h
  · exact ⟨_, _, rfl, h⟩
  · cases h
def cz_l2 {α : Type} (st : List Value) (k : Int64 → Int64 → List Value → Option α) : Option α := match st with
  | .long y :: .long x :: r => k x y r
  | _ => none
theorem cz_l2_some {α : Type} {st : List Value} {k : Int64 → Int64 → List Value → Option α} {r : α} (h : cz_l2 st k = some r) : ∃ x y rest, st = .long y :: .long x :: rest ∧ k x y rest = some r := by
  unfold cz_l2 at h
  split at h
  · exact ⟨_, _, _, rfl, h⟩
  · cases h
def cz_il {α : Type} (st : List Value) (k : Int64 → Int32 → List Value → Option α) : Option α := match st with
  | .int y :: .long x :: r => k x y r
  | _ => none
theorem cz_il_some {α : Type} {st : List Value} {k : Int64 → Int32 → List Value → Option α} {r : α} (h : cz_il st k = some r) : ∃ x y rest, st = .int y :: .long x :: rest ∧ k x y rest = some r := by
  unfold cz_il at h
  split at h
  · exact ⟨_, _, _, rfl, h⟩
  · cases h
def cz_r1 {α : Type} (st : List Value) (k : Nat → List Value → Option α) : Option α := match st with
  | .ref x :: r => k x r
  | _ => none
theorem cz_r1_some {α : Type} {st : List Value} {k : Nat → List Value → Option α} {r : α} (h : cz_r1 st k = some r) : ∃ x rest, st = .ref x :: rest ∧ k x rest = some r := by
  unfold cz_r1 at h
  split at h
  · exact ⟨_, _, rfl, h⟩
  · cases h
/-- an index upon a row -/
def cz_ir {α : Type} (st : List Value) (k : Int32 → Nat → List Value → Option α) : Option α := match st with
  | .int i :: .ref a :: r => k i a r
  | _ => none
theorem cz_ir_some {α : Type} {st : List Value} {k : Int32 → Nat → List Value → Option α} {r : α} (h : cz_ir st k = some r) : ∃ i a rest, st = .int i :: .ref a :: rest ∧ k i a rest = some r := by
  unfold cz_ir at h
  split at h
  · exact ⟨_, _, _, rfl, h⟩
  · cases h
/-- a value, an index upon a row -/
def cz_vr {α : Type} (st : List Value) (k : Value → Int32 → Nat → List Value → Option α) : Option α := match st with
  | v :: .int i :: .ref a :: r => k v i a r
  | _ => none
theorem cz_vr_some {α : Type} {st : List Value} {k : Value → Int32 → Nat → List Value → Option α} {r : α} (h : cz_vr st k = some r) : ∃ v i a rest, st = v :: .int i :: .ref a :: rest ∧ k v i a rest = some r := by
  unfold cz_vr at h
  split at h
  · exact ⟨_, _, _, _, rfl, h⟩
  · cases h
/-- any one value; any two -/
def cz_v1 {α : Type} (st : List Value) (k : Value → List Value → Option α) : Option α := match st with
  | x :: r => k x r
  | _ => none
theorem cz_v1_some {α : Type} {st : List Value} {k : Value → List Value → Option α} {r : α} (h : cz_v1 st k = some r) : ∃ x rest, st = x :: rest ∧ k x rest = some r := by
  unfold cz_v1 at h
  split at h
  · exact ⟨_, _, rfl, h⟩
  · cases h
def cz_v2 {α : Type} (st : List Value) (k : Value → Value → List Value → Option α) : Option α := match st with
  | y :: x :: r => k y x r
  | _ => none
theorem cz_v2_some {α : Type} {st : List Value} {k : Value → Value → List Value → Option α} {r : α} (h : cz_v2 st k = some r) : ∃ y x rest, st = y :: x :: rest ∧ k y x rest = some r := by
  unfold cz_v2 at h
  split at h
  · exact ⟨_, _, _, rfl, h⟩
  · cases h
/-- a value that is a reference or null -/
def cz_isA : Value → Bool
  | .ref _ => true
  | .null => true
  | _ => false
theorem cz_isA_of {v : Value} (h : cz_isA v = true) : v = .null ∨ ∃ a, v = .ref a := by
  cases v <;> first | exact Or.inl rfl | exact Or.inr ⟨_, rfl⟩ | cases h
def cz_lk (lv : cz_LV) (i : Nat) : Option Value := match lv with
  | [] => none
  | q :: l => if q.1 = i then some q.2 else cz_lk l i
theorem cz_lk_mem {lv : cz_LV} {i : Nat} {v : Value} (h : cz_lk lv i = some v) : (i, v) ∈ lv := by
  induction lv with
  | nil => cases h
  | cons q l ih =>
    unfold cz_lk at h
    split at h
    · next e => cases h; subst e; exact List.mem_cons_self
    · exact List.mem_cons_of_mem _ (ih h)
def cz_ki {α : Type} (v : Option Value) (k : Int32 → Option α) : Option α := match v with
  | some (.int x) => k x
  | _ => none
theorem cz_ki_some {α : Type} {v : Option Value} {k : Int32 → Option α} {r : α} (h : cz_ki v k = some r) : ∃ x, v = some (.int x) ∧ k x = some r := by
  unfold cz_ki at h
  split at h
  · exact ⟨_, rfl, h⟩
  · cases h
def cz_kl {α : Type} (v : Option Value) (k : Int64 → Option α) : Option α := match v with
  | some (.long x) => k x
  | _ => none
theorem cz_kl_some {α : Type} {v : Option Value} {k : Int64 → Option α} {r : α} (h : cz_kl v k = some r) : ∃ x, v = some (.long x) ∧ k x = some r := by
  unfold cz_kl at h
  split at h
  · exact ⟨_, rfl, h⟩
  · cases h
def cz_ka {α : Type} (v : Option Value) (k : Value → Option α) : Option α := match v with
  | some x => cz_if (cz_isA x) (k x)
  | _ => none
theorem cz_ka_some {α : Type} {v : Option Value} {k : Value → Option α} {r : α} (h : cz_ka v k = some r) : ∃ x, v = some x ∧ cz_isA x = true ∧ k x = some r := by
  unfold cz_ka at h
  split at h
  · exact ⟨_, rfl, (cz_if_some h).1, (cz_if_some h).2⟩
  · cases h
def cz_st1 (lv : cz_LV) (i : Nat) (v : Value) : cz_LV := (i, v) :: lv.filter (fun q => !(q.1 == i) && !(q.1 + 1 == i && q.2.category == 2))
def cz_st2 (lv : cz_LV) (i : Nat) (v : Value) : cz_LV := (i, v) :: lv.filter (fun q => !(q.1 == i) && (!(q.1 == i + 1) && !(q.1 + 1 == i && q.2.category == 2)))
def cz_j {α : Type} (pc : Nat) (off : Int) (k : Nat → Option α) : Option α := if 0 ≤ (pc : Int) + off then k ((pc : Int) + off).toNat else none
theorem cz_j_some {α : Type} {pc : Nat} {off : Int} {k : Nat → Option α} {r : α} (h : cz_j pc off k = some r) : ∃ t : Nat, (pc : Int) + off = (t : Int) ∧ k t = some r := by
  unfold cz_j at h
  split at h
  · next e => exact ⟨_, (Int.toNat_of_nonneg e).symm, h⟩
  · cases h
def cz_b1 (c : Jvm.ClassFile.Cond) (x : Int32) : Bool := match c with
  | .eq => decide (x = 0)
  | .ne => decide (¬ x = 0)
  | .lt => decide (x < 0)
  | .ge => decide (0 ≤ x)
  | .gt => decide (0 < x)
  | .le => decide (x ≤ 0)
def cz_b2 (c : Jvm.ClassFile.Cond) (x y : Int32) : Bool := match c with
  | .eq => decide (x = y)
  | .ne => decide (¬ x = y)
  | .lt => decide (x < y)
  | .ge => decide (y ≤ x)
  | .gt => decide (y < x)
  | .le => decide (x ≤ y)
def cz_sw (ps : List (Int × Int)) : Bool := (ps.zip (ps.drop 1)).all (fun (a, next) => a.1 < next.1)
/-- an instruction that leaves the heap alone -/
def cz_s1 (E : cz_E) (nL : Nat) (q : cz_I) (lv : cz_LV) (st : List Value) : Option (Nat × cz_LV × List Value) :=
  match q.2.1 with
  | .iconst n => cz_n q.2.2.1 1 (some (q.1 + 1, lv, .int (Int32.ofInt n) :: st))
  | .bipush n => cz_n q.2.2.1 2 (some (q.1 + 2, lv, .int (Int8.ofInt n).toInt32 :: st))
  | .sipush n => cz_n q.2.2.1 3 (some (q.1 + 3, lv, .int (Int16.ofInt n).toInt32 :: st))
  | .lconst n => cz_n q.2.2.1 1 (some (q.1 + 1, lv, .long (Int64.ofNat (n : Nat)) :: st))
  | .aconst_null => cz_n q.2.2.1 1 (some (q.1 + 1, lv, .null :: st))
  | .ldc _ => cz_n q.2.2.1 2 (if q.2.2.2.1 = 0 then some (q.1 + 2, lv, .int (Int32.ofInt q.2.2.2.2) :: st) else cz_if (q.2.2.2.1 == 1) (some (q.1 + 2, lv, .ref (E.2.2.1 q.2.2.2.2.toNat) :: st)))
  | .ldc_w _ => cz_n q.2.2.1 3 (cz_if (q.2.2.2.1 == 0) (some (q.1 + 3, lv, .int (Int32.ofInt q.2.2.2.2) :: st)))
  | .ldc2_w _ => cz_n q.2.2.1 3 (some (q.1 + 3, lv, .long (Int64.ofInt q.2.2.2.2) :: st))
  | .iload_n k => cz_n q.2.2.1 1 (cz_ki (cz_lk lv k) fun x => some (q.1 + 1, lv, .int x :: st))
  | .iload k => cz_n q.2.2.1 2 (cz_ki (cz_lk lv k) fun x => some (q.1 + 2, lv, .int x :: st))
  | .lload_n k => cz_n q.2.2.1 1 (cz_kl (cz_lk lv k) fun x => some (q.1 + 1, lv, .long x :: st))
  | .lload k => cz_n q.2.2.1 2 (cz_kl (cz_lk lv k) fun x => some (q.1 + 2, lv, .long x :: st))
  | .aload_n k => cz_n q.2.2.1 1 (cz_ka (cz_lk lv k) fun x => some (q.1 + 1, lv, x :: st))
  | .aload k => cz_n q.2.2.1 2 (cz_ka (cz_lk lv k) fun x => some (q.1 + 2, lv, x :: st))
  | .istore_n k => cz_n q.2.2.1 1 (cz_i1 st fun x r => cz_if (decide ((k : Nat) < nL)) (some (q.1 + 1, cz_st1 lv k (.int x), r)))
  | .istore k => cz_n q.2.2.1 2 (cz_i1 st fun x r => cz_if (decide (k < nL)) (some (q.1 + 2, cz_st1 lv k (.int x), r)))
  | .lstore k => cz_n q.2.2.1 2 (cz_l1 st fun x r => cz_if (decide (k + 1 < nL)) (some (q.1 + 2, cz_st2 lv k (.long x), r)))
  | .astore_n k => cz_n q.2.2.1 1 (cz_v1 st fun x r => cz_if (cz_isA x && decide ((k : Nat) < nL)) (some (q.1 + 1, cz_st1 lv k x, r)))
  | .astore k => cz_n q.2.2.1 2 (cz_v1 st fun x r => cz_if (cz_isA x && decide (k < nL)) (some (q.1 + 2, cz_st1 lv k x, r)))
  | .iinc k n => cz_if (q.2.2.1 == 3 || q.2.2.1 == 6) (cz_ki (cz_lk lv k) fun x => cz_if (decide (k < nL)) (some (q.1 + q.2.2.1, cz_st1 lv k (.int (x + Int32.ofInt n)), st)))
  | .iadd => cz_n q.2.2.1 1 (cz_i2 st fun x y r => some (q.1 + 1, lv, .int (x + y) :: r))
  | .isub => cz_n q.2.2.1 1 (cz_i2 st fun x y r => some (q.1 + 1, lv, .int (x - y) :: r))
  | .imul => cz_n q.2.2.1 1 (cz_i2 st fun x y r => some (q.1 + 1, lv, .int (x * y) :: r))
  | .iand => cz_n q.2.2.1 1 (cz_i2 st fun x y r => some (q.1 + 1, lv, .int (x &&& y) :: r))
  | .ior => cz_n q.2.2.1 1 (cz_i2 st fun x y r => some (q.1 + 1, lv, .int (x ||| y) :: r))
  | .idiv => cz_n q.2.2.1 1 (cz_i2 st fun x y r => cz_if (decide (¬ y = 0)) (some (q.1 + 1, lv, .int (x / y) :: r)))
  | .irem => cz_n q.2.2.1 1 (cz_i2 st fun x y r => cz_if (decide (¬ y = 0)) (some (q.1 + 1, lv, .int (x - x / y * y) :: r)))
  | .ineg => cz_n q.2.2.1 1 (cz_i1 st fun x r => some (q.1 + 1, lv, .int (-x) :: r))
  | .ishl => cz_n q.2.2.1 1 (cz_i2 st fun x y r => some (q.1 + 1, lv, .int (x <<< (y &&& 31)) :: r))
  | .ishr => cz_n q.2.2.1 1 (cz_i2 st fun x y r => some (q.1 + 1, lv, .int (x >>> (y &&& 31)) :: r))
  | .iushr => cz_n q.2.2.1 1 (cz_i2 st fun x y r => some (q.1 + 1, lv, .int (x.toUInt32 >>> (y.toUInt32 &&& Int32.toUInt32 31)).toInt32 :: r))
  | .i2l => cz_n q.2.2.1 1 (cz_i1 st fun x r => some (q.1 + 1, lv, .long x.toInt64 :: r))
  | .l2i => cz_n q.2.2.1 1 (cz_l1 st fun x r => some (q.1 + 1, lv, .int x.toInt32 :: r))
  | .i2b => cz_n q.2.2.1 1 (cz_i1 st fun x r => some (q.1 + 1, lv, .int x.toInt8.toInt32 :: r))
  | .i2c => cz_n q.2.2.1 1 (cz_i1 st fun x r => some (q.1 + 1, lv, .int (x.toUInt32 % 65536).toInt32 :: r))
  | .lshl => cz_n q.2.2.1 1 (cz_il st fun x y r => some (q.1 + 1, lv, .long (x <<< (y.toInt64 &&& 63)) :: r))
  | .lshr => cz_n q.2.2.1 1 (cz_il st fun x y r => some (q.1 + 1, lv, .long (x >>> (y.toInt64 &&& 63)) :: r))
  | .ladd => cz_n q.2.2.1 1 (cz_l2 st fun x y r => some (q.1 + 1, lv, .long (x + y) :: r))
  | .land => cz_n q.2.2.1 1 (cz_l2 st fun x y r => some (q.1 + 1, lv, .long (x &&& y) :: r))
  | .lor => cz_n q.2.2.1 1 (cz_l2 st fun x y r => some (q.1 + 1, lv, .long (x ||| y) :: r))
  | .lcmp => cz_n q.2.2.1 1 (cz_l2 st fun x y r => some (q.1 + 1, lv, .int (lg_cmp x y) :: r))
  | .dup => cz_n q.2.2.1 1 (cz_v1 st fun x r => cz_if (x.category == 1) (some (q.1 + 1, lv, x :: x :: r)))
  | .dup2 => cz_n q.2.2.1 1 (cz_v2 st fun y x r => cz_if (y.category == 1 && x.category == 1) (some (q.1 + 1, lv, y :: x :: y :: x :: r)))
  | .pop => cz_n q.2.2.1 1 (cz_v1 st fun x r => cz_if (x.category == 1) (some (q.1 + 1, lv, r)))
  | .ifCond c off => cz_n q.2.2.1 3 (cz_i1 st fun x r => cz_j q.1 off fun t => some (if cz_b1 c x = true then t else q.1 + 3, lv, r))
  | .if_icmp c off => cz_n q.2.2.1 3 (cz_i2 st fun x y r => cz_j q.1 off fun t => some (if cz_b2 c x y = true then t else q.1 + 3, lv, r))
  | .ifnull off => cz_n q.2.2.1 3 (cz_v1 st fun x r => cz_if (cz_isA x) (cz_j q.1 off fun t => some (if x = .null then t else q.1 + 3, lv, r)))
  | .ifnonnull off => cz_n q.2.2.1 3 (cz_v1 st fun x r => cz_if (cz_isA x) (cz_j q.1 off fun t => some (if x = .null then q.1 + 3 else t, lv, r)))
  | .goto off => cz_n q.2.2.1 3 (cz_j q.1 off fun t => some (t, lv, st))
  | .tableswitch dflt lo hi offs => cz_i1 st fun x r => if x.toInt < lo ∨ hi < x.toInt then cz_j q.1 dflt fun t => some (t, lv, r) else match offs[(x.toInt - lo).toNat]? with
    | some off => cz_j q.1 off fun t => some (t, lv, r)
    | none => none
  | .lookupswitch dflt ps => cz_i1 st fun x r => cz_if (cz_sw ps.toList) (cz_j q.1 (Op.lookupswitch.offset ps.toList dflt x.toInt) fun t => some (t, lv, r))
  | _ => none
