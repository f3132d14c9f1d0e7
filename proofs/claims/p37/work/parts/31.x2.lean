/-! THE CHECKER: instructions that read or write the heap -/
def ck_sum (st : List ck_V) : Nat := (st.map ck_cat).sum
/-- numbers, stack, what is known of the heap, cells, their size, counts -/
abbrev ck_U : Type := ck_N × List ck_V × List ck_Q × Nat × Nat × Nat
def ck_bit (es : List ck_Q) (r ci k : Nat) : Bool := match ck_f11 es r ci with
  | some m => m.testBit k
  | none => false
def ck_k4 (n : ck_N) (es : List ck_Q) (r : Nat) : Bool := match ck_f0 es r 7 6 with
  | some x => x.1 == 0 && ck_le n (ck_sub x.2.2.2.1 (ck_c 4))
  | none => false
def ck_gf (q : cz_I) (n : ck_N) (st : List ck_V) (es : List ck_Q) : Option (ck_N × List ck_V × List ck_Q) := ck_qv st fun v0 r =>
  if q.2.2.2.1 = 100 then cz_if (v0.1 == 6) (some (n, (if q.2.2.2.2 = 0 then (10, v0.2.1, v0.2.2.1, ck_c 0, ck_c 0) else ck_vi (ck_c 0)) :: r, es)) else
    let v := ck_nz n es v0
    cz_if ((v.1 == 3 || v.1 == 9) && v.2.2.1 == q.2.2.2.1) (match ck_f0 es v.2.1 q.2.2.2.1 q.2.2.2.2.toNat with
      | some w => some (n, w :: r, es)
      | none => cz_if (v.1 == 3 || ck_bit es v.2.1 q.2.2.2.1 q.2.2.2.2.toNat) (cz_so (ck_fs q.2.2.2.1 q.2.2.2.2.toNat) fun s =>
        cz_so (ck_sv n (if q.2.2.2.1 == 7 && q.2.2.2.2.toNat == 5 && ck_f6 es v.2.1 && ck_k4 n es v.2.1 then (0, 0, 599, 0) else s)) fun p => some (p.1, p.2 :: r, (0, v.2.1, q.2.2.2.1, q.2.2.2.2.toNat, ck_c 0, p.2) :: es)))
def ck_ms (r ci k : Nat) (es : List ck_Q) : List ck_Q := (11, r, ci, ((ck_f11 es r ci).getD 0) ||| 2 ^ k, ck_c 0, ck_vn) :: es.filter (fun q => !(q.1 == 11 && q.2.1 == r && q.2.2.1 == ci))
def ck_pf (W : List (Nat × Nat)) (q : cz_I) (n : ck_N) (st : List ck_V) (es : List ck_Q) : Option (ck_N × List ck_V × List ck_Q) := ck_qv st fun v0 r0 => ck_qv r0 fun o0 r =>
  let o := ck_nz n es o0
  let v := ck_nz n es v0
  let k := q.2.2.2.2.toNat
  cz_if ((o.1 == 3 || o.1 == 9) && o.2.2.1 == q.2.2.2.1 && ck_win W q.2.2.2.1 k) (cz_so (ck_fs q.2.2.2.1 k) fun s => cz_if (ck_fit n v s && ck_fto (cz_fty q.2.2.2.1 k) s)
    (let e1 : List ck_Q := (0, o.2.1, q.2.2.2.1, k, ck_c 0, v) :: es.filter (ck_kf q.2.2.2.1 k)
     some (n, r, ck_cl n q.2.2.2.1 k o.2.1 (if o.1 == 9 then ck_ms o.2.1 q.2.2.2.1 k e1 else e1))))
/-- which row an instruction reads or writes -/
def ck_tcl (i : Instr) (tc : Nat) : Bool := match i with
  | .iaload => tc == 0
  | .baload => tc == 1 || tc == 4
  | .caload => tc == 3
  | .laload => tc == 2
  | .aaload => tc == 5 || tc == 6
  | _ => false
def ck_tcs (i : Instr) (k : Nat × Nat × Nat × ck_S) : Bool := match i with
  | .iastore => k.1 == 0 && (decide (0 < k.2.2.1) || k.2.2.2.1 == 0 || k.2.2.2.1 == 4)
  | .bastore => k.2.2.1 == 0 && k.2.2.2.1 == 0 && (k.1 == 1 || (k.1 == 4 && decide (0 ≤ k.2.2.2.2.1) && decide (k.2.2.2.2.2.1 ≤ 1)))
  | .castore => k.2.2.1 == 0 && k.2.2.2.1 == 0 && k.1 == 3 && decide (0 ≤ k.2.2.2.2.1) && decide (k.2.2.2.2.2.1 ≤ 65535)
  | .lastore => k.2.2.1 == 0 && k.2.2.2.1 == 1 && k.1 == 2
  | .aastore => k.2.2.1 == 0 && ((k.1 == 5 && k.2.2.2.1 == 3 && k.2.2.2.2.2.2 == 10) || (k.1 == 6 && k.2.2.2.1 == 3 && k.2.2.2.2.2.2 == 9))
  | _ => false
def ck_ia (i : Instr) : Bool := match i with
  | .iaload => true
  | _ => false
def ck_ba (i : Instr) : Bool := match i with
  | .baload => true
  | _ => false
/-- a number from 0 up to below another -/
def ck_inr (n : ck_N) (a l : ck_A) : Bool := ck_le n (ck_mul (-1) a) && ck_le n (ck_sub (ck_add a (ck_c 1)) l)
def ck_al (q : cz_I) (n : ck_N) (st : List ck_V) (es : List ck_Q) : Option (ck_N × List ck_V × List ck_Q) := ck_qi st fun ix r0 => ck_qv r0 fun a0 r =>
  let a := ck_nz n es a0
  match a.1 with
  | 7 => cz_if (ck_ia q.2.1 && ck_inr n ix (ck_v a.2.1)) (match ck_f2 es ix with
    | some w => some (n, w :: r, es)
    | none => let p := ck_fr n (-2147483648) 2147483647; some (p.1, p.2 :: r, (2, 0, 0, 0, ix, p.2) :: es))
  | 10 => cz_if (ck_ba q.2.1 && ck_inr n ix (ck_v a.2.2.1)) (let p := ck_fr n (-128) 127; some (p.1, p.2 :: r, es))
  | 3 => cz_so (ck_ak a.2.2.1) fun k => cz_if (ck_tcl q.2.1 k.1 && ck_inr n ix (ck_c k.2.1)) (match ck_f1 es a.2.1 a.2.2.1 ix with
    | some w => some (n, w :: r, es)
    | none => cz_so (ck_sv n (ck_esp n es a.2.1 a.2.2.1 k ix)) fun p => some (p.1, p.2 :: r, (1, a.2.1, a.2.2.1, 0, ix, p.2) :: es))
  | _ => none
/-- a byte is cut -/
def ck_nar (n : ck_N) (tc : Nat) (v : ck_V) : ck_N × ck_V := if tc = 1 ∧ v.1 = 0 ∧ ck_btw n v.2.2.2.1 (-128) 127 = false then ck_fr n (-128) 127 else (n, v)
def ck_as (W : List (Nat × Nat)) (q : cz_I) (n0 : ck_N) (st : List ck_V) (es : List ck_Q) : Option (ck_N × List ck_V × List ck_Q × Nat) := ck_qv st fun v0 r0 => ck_qi r0 fun ix r1 => ck_qv r1 fun a0 r =>
  let a := ck_nz n0 es a0
  cz_if (a.1 == 3) (cz_so (ck_ak a.2.2.1) fun k => cz_if (ck_tcs q.2.1 k && ck_inr n0 ix (ck_c k.2.1) && ck_win W a.2.2.1 0)
    (let p := ck_nar n0 k.1 (ck_nz n0 es v0)
     cz_so (ck_stv p.1 es a.2.1 a.2.2.1 k ix p.2) fun c =>
      let e1 : List ck_Q := (1, a.2.1, a.2.2.1, 0, ix, p.2) :: es.filter (ck_ka p.1 a.2.2.1 a.2.1 ix)
      let e2 := ck_cnt p.1 es a.2.2.1 a.2.1 ix p.2 0 (ck_cnt p.1 es a.2.2.1 a.2.1 ix p.2 1 e1)
      some (ck_rc3 k.2.1 p.1 e2, r, (if k.2.2.1 = 3 then ck_pre4 p.1 a.2.1 a.2.2.1 e2 else e2), c)))
def ck_len (n : ck_N) (st : List ck_V) (es : List ck_Q) : Option (List ck_V) := ck_qv st fun a0 r =>
  let a := ck_nz n es a0
  match a.1 with
  | 7 => some (ck_vi (ck_v a.2.1) :: r)
  | 10 => some (ck_vi (ck_v a.2.2.1) :: r)
  | 3 => cz_so (ck_ak a.2.2.1) fun k => some (ck_vi (ck_c (k.2.1 : Int)) :: r)
  | _ => none
/-- fields that a new object's zeros and nulls fit -/
def ck_z0 (s : ck_S) : Bool := match s.1 with
  | 0 => decide (s.2.1 ≤ 0) && decide (0 ≤ s.2.2.1)
  | 1 => true
  | 3 => true
  | 4 => true
  | _ => false
def ck_dm (ci : Nat) : Nat := match ck_kt[ci]? with
  | some (.inl o) => ((List.range o.2.length).map fun k => match o.2[k]? with
    | some s => if (ck_z0 s && ck_fto (cz_fty ci k) s) = true then 2 ^ k else 0
    | none => 0).foldl (· ||| ·) 0
  | _ => 0
def ck_nwo (ci : Nat) (n : ck_N) (st : List ck_V) (es : List ck_Q) : Option (ck_N × List ck_V × List ck_Q × Nat) := match ck_kt[ci]? with
  | some (.inl o) => cz_if (o.1 == ci && o.2.length == (cz_df ci).length) (some (ck_new n (0, ck_HM), (9, n.1.length, ci, ck_c 0, ck_c 0) :: st, (if ci = 7 then [(6, n.1.length, 7, 0, ck_c 0, ck_vn)] else []) ++ (11, n.1.length, ci, ck_dm ci, ck_c 0, ck_vn) :: es, o.2.length))
  | _ => none
def ck_site (S : List (Nat × Nat × Nat)) (mi pc : Nat) : Option Nat := match S with
  | [] => none
  | q :: l => if q.1 == mi && q.2.1 == pc then some q.2.2 else ck_site l mi pc
def ck_nty (i : Instr) : Nat := match i with
  | .newarray ty => (match ty with | .int => 0 | .byte => 1 | .long => 2 | .char => 3 | .boolean => 4 | _ => 9)
  | _ => 9
def ck_nwa (tc K : Nat) (n : ck_N) (st : List ck_V) (es : List ck_Q) : Option (ck_N × List ck_V × List ck_Q × Nat) := ck_qi st fun a r => cz_so (ck_ak K) fun k =>
  cz_if (k.1 == tc && ck_aeq a (ck_c (k.2.1 : Int)) && decide (k.2.1 ≤ 100000) && (decide (0 < k.2.2.1) || ck_z0 k.2.2.2) && decide (k.2.2.1 ≤ 3)) (some (ck_new n (0, ck_HM), (3, n.1.length, K, ck_c 0, ck_c 0) :: r, es, k.2.1))
/-- numbers of one row may stand in another -/
def ck_cps (k0 k1 : Nat × Nat × Nat × ck_S) : Bool := k0.1 == k1.1 && k0.2.2.1 == 0 && k1.2.2.1 == 0 && (match k0.1 with
    | 0 => true
    | 1 => k0.2.2.2.1 == 0 && decide (-128 ≤ k0.2.2.2.2.1) && decide (k0.2.2.2.2.2.1 ≤ 127)
    | 2 => true
    | _ => false) && k0.2.2.2.1 == k1.2.2.2.1 && decide (k1.2.2.2.2.1 ≤ k0.2.2.2.2.1) && decide (k0.2.2.2.2.2.1 ≤ k1.2.2.2.2.2.1)
def ck_acp (W : List (Nat × Nat)) (n : ck_N) (st : List ck_V) (es : List ck_Q) : Option (List ck_V × List ck_Q) := ck_qi st fun c r0 => ck_qi r0 fun dp r1 => ck_qv r1 fun b0 r2 => ck_qi r2 fun sp r3 => ck_qv r3 fun a0 r =>
  let a := ck_nz n es a0
  let b := ck_nz n es b0
  cz_if (a.1 == 3 && b.1 == 3) (cz_so (ck_ak a.2.2.1) fun k0 => cz_so (ck_ak b.2.2.1) fun k1 => cz_if (ck_cps k0 k1 && ck_win W b.2.2.1 0 && ck_le n (ck_mul (-1) c) && ck_le n (ck_mul (-1) dp) && ck_le n (ck_mul (-1) sp) && ck_le n (ck_sub (ck_add sp c) (ck_c (k0.2.1 : Int))) && ck_le n (ck_sub (ck_add dp c) (ck_c (k1.2.1 : Int))) && decide (ck_sum r ≤ 8)) (some (r, es.filter (ck_kc b.2.2.1))))
/-- one instruction: where it goes on, and what is known then -/
def ck_x2 (S : List (Nat × Nat × Nat)) (W : List (Nat × Nat)) (c1 c3 : Nat) (mi : Nat) (q : cz_I) (u : ck_U) : Option (Nat × ck_U) := match q.2.1 with
  | .getfield _ => cz_n q.2.2.1 3 (cz_so (ck_gf q u.1 u.2.1 u.2.2.1) fun p => some (q.1 + 3, p.1, p.2.1, p.2.2, u.2.2.2))
  | .putfield _ => cz_n q.2.2.1 3 (cz_so (ck_pf W q u.1 u.2.1 u.2.2.1) fun p => some (q.1 + 3, p.1, p.2.1, p.2.2, u.2.2.2))
  | .iaload => cz_n q.2.2.1 1 (cz_so (ck_al q u.1 u.2.1 u.2.2.1) fun p => some (q.1 + 1, p.1, p.2.1, p.2.2, u.2.2.2))
  | .baload => cz_n q.2.2.1 1 (cz_so (ck_al q u.1 u.2.1 u.2.2.1) fun p => some (q.1 + 1, p.1, p.2.1, p.2.2, u.2.2.2))
  | .caload => cz_n q.2.2.1 1 (cz_so (ck_al q u.1 u.2.1 u.2.2.1) fun p => some (q.1 + 1, p.1, p.2.1, p.2.2, u.2.2.2))
  | .laload => cz_n q.2.2.1 1 (cz_so (ck_al q u.1 u.2.1 u.2.2.1) fun p => some (q.1 + 1, p.1, p.2.1, p.2.2, u.2.2.2))
  | .aaload => cz_n q.2.2.1 1 (cz_so (ck_al q u.1 u.2.1 u.2.2.1) fun p => some (q.1 + 1, p.1, p.2.1, p.2.2, u.2.2.2))
  | .iastore => cz_n q.2.2.1 1 (cz_so (ck_as W q u.1 u.2.1 u.2.2.1) fun p => cz_if (decide (u.2.2.2.2.2 + p.2.2.2 ≤ c3)) (some (q.1 + 1, p.1, p.2.1, p.2.2.1, u.2.2.2.1, u.2.2.2.2.1, u.2.2.2.2.2 + p.2.2.2)))
  | .bastore => cz_n q.2.2.1 1 (cz_so (ck_as W q u.1 u.2.1 u.2.2.1) fun p => cz_if (decide (u.2.2.2.2.2 + p.2.2.2 ≤ c3)) (some (q.1 + 1, p.1, p.2.1, p.2.2.1, u.2.2.2.1, u.2.2.2.2.1, u.2.2.2.2.2 + p.2.2.2)))
  | .castore => cz_n q.2.2.1 1 (cz_so (ck_as W q u.1 u.2.1 u.2.2.1) fun p => cz_if (decide (u.2.2.2.2.2 + p.2.2.2 ≤ c3)) (some (q.1 + 1, p.1, p.2.1, p.2.2.1, u.2.2.2.1, u.2.2.2.2.1, u.2.2.2.2.2 + p.2.2.2)))
  | .lastore => cz_n q.2.2.1 1 (cz_so (ck_as W q u.1 u.2.1 u.2.2.1) fun p => cz_if (decide (u.2.2.2.2.2 + p.2.2.2 ≤ c3)) (some (q.1 + 1, p.1, p.2.1, p.2.2.1, u.2.2.2.1, u.2.2.2.2.1, u.2.2.2.2.2 + p.2.2.2)))
  | .aastore => cz_n q.2.2.1 1 (cz_so (ck_as W q u.1 u.2.1 u.2.2.1) fun p => cz_if (decide (u.2.2.2.2.2 + p.2.2.2 ≤ c3)) (some (q.1 + 1, p.1, p.2.1, p.2.2.1, u.2.2.2.1, u.2.2.2.2.1, u.2.2.2.2.2 + p.2.2.2)))
  | .arraylength => cz_n q.2.2.1 1 (cz_so (ck_len u.1 u.2.1 u.2.2.1) fun st => some (q.1 + 1, u.1, st, u.2.2))
  | .new _ => cz_n q.2.2.1 3 (cz_if (q.2.2.2.2 == 0 && decide (q.2.2.2.1 < 13) && decide (u.2.2.2.1 + 1 ≤ c1)) (cz_so (ck_nwo q.2.2.2.1 u.1 u.2.1 u.2.2.1) fun p => some (q.1 + 3, p.1, p.2.1, p.2.2.1, u.2.2.2.1 + 1, u.2.2.2.2.1 + p.2.2.2, u.2.2.2.2.2)))
  | .newarray _ => cz_n q.2.2.1 2 (cz_if (decide (u.2.2.2.1 + 1 ≤ c1)) (cz_so (ck_site S mi q.1) fun K => cz_if (decide (ck_nty q.2.1 ≤ 4)) (cz_so (ck_nwa (ck_nty q.2.1) K u.1 u.2.1 u.2.2.1) fun p => some (q.1 + 2, p.1, p.2.1, p.2.2.1, u.2.2.2.1 + 1, u.2.2.2.2.1 + p.2.2.2, u.2.2.2.2.2))))
  | .anewarray _ => cz_n q.2.2.1 3 (cz_if (decide (u.2.2.2.1 + 1 ≤ c1) && (q.2.2.2.1 == 5 || q.2.2.2.1 == 6)) (cz_so (ck_site S mi q.1) fun K => cz_so (ck_nwa q.2.2.2.1 K u.1 u.2.1 u.2.2.1) fun p => some (q.1 + 3, p.1, p.2.1, p.2.2.1, u.2.2.2.1 + 1, u.2.2.2.2.1 + p.2.2.2, u.2.2.2.2.2)))
  | .invokespecial _ => cz_n q.2.2.1 3 (cz_if (q.2.2.2.2 == -4) (ck_qv u.2.1 fun v r => cz_if ((v.1 == 3 || v.1 == 9) && decide (ck_sum r ≤ 8)) (some (q.1 + 3, u.1, r, u.2.2))))
  | .invokestatic _ => cz_n q.2.2.1 3 (cz_if (q.2.2.2.2 == -5) (cz_so (ck_acp W u.1 u.2.1 u.2.2.1) fun p => some (q.1 + 3, u.1, p.1, p.2, u.2.2.2)))
  | .getstatic _ => cz_n q.2.2.1 3 (if q.2.2.2.1 = 0 then some (q.1 + 3, u.1, ck_vi (ck_c 1) :: u.2.1, u.2.2) else cz_if (q.2.2.2.1 == 1) (some (q.1 + 3, u.1, (8, 0, 0, ck_c 0, ck_c 0) :: u.2.1, u.2.2)))
  | _ => none
