/-! THE CHECKER: forms put into forms; matching -/
def ck_sbt (θ : List ck_A) (t : List (Nat × Int)) : ck_A := match t with
  | [] => ck_c 0
  | q :: l => ck_add (ck_mul q.2 (θ.getD q.1 (ck_c 0))) (ck_sbt θ l)
def ck_sb (θ : List ck_A) (a : ck_A) : ck_A := ck_add (ck_sbt θ a.1) (ck_c a.2)
/-- all roots lie below -/
def ck_ab (m : Nat) (a : ck_A) : Bool := a.1.all fun q => decide (q.1 < m)
def ck_rt (a : ck_A) : Option Nat := match a.1 with
  | [q] => if q.2 = 1 ∧ a.2 = 0 then some q.1 else none
  | _ => none
def ck_rr (θ : List ck_A) (r : Nat) : Option Nat := match θ[r]? with
  | some a => ck_rt a
  | none => none
def ck_sbv (θ : List ck_A) (v : ck_V) : Option ck_V := match v.1 with
  | 0 => cz_if (ck_ab θ.length v.2.2.2.1) (some (ck_vi (ck_sb θ v.2.2.2.1)))
  | 1 => cz_if (ck_ab θ.length v.2.2.2.1) (some (ck_vl (ck_sb θ v.2.2.2.1)))
  | 3 => cz_so (ck_rr θ v.2.1) fun r => some (3, r, v.2.2.1, ck_c 0, ck_c 0)
  | 4 => cz_so (ck_rr θ v.2.1) fun r => some (4, r, v.2.2.1, ck_c 0, ck_c 0)
  | 5 => some ck_vn
  | _ => none
def ck_sbq (θ : List ck_A) (q : ck_Q) : Option ck_Q := cz_so (ck_rr θ q.2.1) fun r => match q.1 with
  | 0 => cz_so (ck_sbv θ q.2.2.2.2.2) fun v => some (0, r, q.2.2.1, q.2.2.2.1, ck_c 0, v)
  | 1 => cz_if (ck_ab θ.length q.2.2.2.2.1) (cz_so (ck_sbv θ q.2.2.2.2.2) fun v => some (1, r, q.2.2.1, 0, ck_sb θ q.2.2.2.2.1, v))
  | 3 => cz_if (ck_ab θ.length q.2.2.2.2.1) (some (3, r, q.2.2.1, q.2.2.2.1, ck_sb θ q.2.2.2.2.1, ck_vn))
  | 4 => cz_if (ck_ab θ.length q.2.2.2.2.1) (some (4, r, q.2.2.1, q.2.2.2.1, ck_sb θ q.2.2.2.2.1, ck_vn))
  | 6 => some (6, r, q.2.2.1, 0, ck_c 0, ck_vn)
  | 11 => some (11, r, q.2.2.1, q.2.2.2.1, ck_c 0, ck_vn)
  | _ => none
/-- a number's form against a pattern's: a new root's, or one of those that stand -/
def ck_ma (θ : List ck_A) (p a : ck_A) : Option (List ck_A) := match p.1 with
  | [q] => if q.1 = θ.length then (if 0 < q.2 then cz_so (ck_dv q.2 (ck_sub a (ck_c p.2))) fun b => some (θ ++ [b]) else none) else cz_if (ck_ab θ.length p && ck_aeq (ck_sb θ p) a) (some θ)
  | _ => cz_if (ck_ab θ.length p && ck_aeq (ck_sb θ p) a) (some θ)
def ck_mr (θ : List ck_A) (p r : Nat) : Option (List ck_A) := if p = θ.length then some (θ ++ [ck_v r]) else cz_so (ck_rr θ p) fun r' => cz_if (r' == r) (some θ)
def ck_mv (n : ck_N) (es : List ck_Q) (θ : List ck_A) (p v0 : ck_V) : Option (List ck_A) :=
  let v := ck_nz n es v0
  match p.1 with
  | 0 => cz_if (v.1 == 0) (ck_ma θ p.2.2.2.1 v.2.2.2.1)
  | 1 => cz_if (v.1 == 1) (ck_ma θ p.2.2.2.1 v.2.2.2.1)
  | 3 => cz_if (v.1 == 3 && v.2.2.1 == p.2.2.1) (ck_mr θ p.2.1 v.2.1)
  | 4 => if p.2.1 = θ.length then (if v.1 = 5 then some (θ ++ [ck_c (-1)]) else cz_if ((v.1 == 3 || v.1 == 4) && v.2.2.1 == p.2.2.1) (some (θ ++ [ck_v v.2.1]))) else cz_if (v0.1 == 4 && v0.2.2.1 == p.2.2.1) (ck_mr θ p.2.1 v0.2.1)
  | 5 => cz_if (v.1 == 5) (some θ)
  | 6 => cz_if (v.1 == 6) (cz_so (ck_mr θ p.2.1 v.2.1) fun θ1 => ck_mr θ1 p.2.2.1 v.2.2.1)
  | 7 => cz_if (v.1 == 7) (ck_mr θ p.2.1 v.2.1)
  | 8 => cz_if (v.1 == 8) (some θ)
  | 9 => cz_if (v0.1 == 9 && v0.2.2.1 == p.2.2.1) (ck_mr θ p.2.1 v0.2.1)
  | 10 => cz_if (v.1 == 10) (cz_so (ck_mr θ p.2.1 v.2.1) fun θ1 => ck_mr θ1 p.2.2.1 v.2.2.1)
  | _ => none
def ck_ml (n : ck_N) (es : List ck_Q) (lv : ck_LV) : List (Nat × ck_V) → List ck_A → Option (List ck_A)
  | [], θ => some θ
  | p :: l, θ => cz_so (ck_lk lv p.1) fun v => cz_so (ck_mv n es θ p.2 v) fun θ1 => ck_ml n es lv l θ1
def ck_m1 (n : ck_N) (es : List ck_Q) (θ : List ck_A) (p : ck_Q) : Option (List ck_A) := if p.1 = 2 then cz_if (ck_ab θ.length p.2.2.2.2.1) (cz_so (ck_f2 es (ck_sb θ p.2.2.2.2.1)) fun v => ck_mv n es θ p.2.2.2.2.2 v) else cz_so (ck_rr θ p.2.1) fun r => match p.1 with
  | 0 => cz_so (ck_f0 es r p.2.2.1 p.2.2.2.1) fun v => ck_mv n es θ p.2.2.2.2.2 v
  | 1 => cz_if (ck_ab θ.length p.2.2.2.2.1) (cz_so (ck_f1 es r p.2.2.1 (ck_sb θ p.2.2.2.2.1)) fun v => ck_mv n es θ p.2.2.2.2.2 v)
  | 3 => cz_so (ck_f3 es 3 r p.2.2.1 p.2.2.2.1) fun a => ck_ma θ p.2.2.2.2.1 a
  | 4 => cz_so (ck_f3 es 4 r p.2.2.1 p.2.2.2.1) fun a => cz_if (ck_ab θ.length p.2.2.2.2.1 && ck_le n (ck_sub (ck_sb θ p.2.2.2.2.1) a)) (some θ)
  | 6 => cz_if (ck_f6 es r) (some θ)
  | 11 => cz_so (ck_f11 es r p.2.2.1) fun m => cz_if ((m &&& p.2.2.2.1) == p.2.2.2.1) (some θ)
  | _ => none
def ck_me (n : ck_N) (es : List ck_Q) : List ck_Q → List ck_A → Option (List ck_A)
  | [], θ => some θ
  | p :: l, θ => cz_so (ck_m1 n es θ p) fun θ1 => ck_me n es l θ1
/-- the new roots lie in their intervals; facts hold -/
def ck_mb (n : ck_N) (θ : List ck_A) : List (Int × Int) → Nat → Bool
  | [], _ => true
  | b :: l, i => ck_btw n (θ.getD i (ck_c 0)) b.1 b.2 && ck_mb n θ l (i + 1)
/-- a pattern: roots that stand, intervals of the new ones, facts, locals, what is known of the heap -/
abbrev ck_H : Type := Nat × List (Int × Int) × List ck_A × List (Nat × ck_V) × List ck_Q
def ck_idn (m : Nat) : List ck_A := (List.range m).map ck_v
def ck_mt (n : ck_N) (lv : ck_LV) (es : List ck_Q) (H : ck_H) : Option (List ck_A) := cz_so (ck_ml n es lv H.2.2.2.1 (ck_idn H.1)) fun θ1 => cz_so (ck_me n es H.2.2.2.2 θ1) fun θ =>
  cz_if (θ.length == H.1 + H.2.1.length && ck_mb n θ H.2.1 H.1 && H.2.2.1.all fun f => ck_ab θ.length f && ck_le n (ck_sb θ f)) (some θ)
/-! contracts: the method, its depth, what it costs (cells, their size, counts), what it writes, its start, its ends -/
abbrev ck_Z : Type := Nat × Nat × (Nat × Nat × Nat) × List (Nat × Nat) × ck_H × List (List (Int × Int) × Option ck_V × List ck_Q × List ck_A)
/-- loops: what a head is to be. Names of forms: below 100 a local, from 100 on a further place, from 200 on what that was ahead of the loop, from 300 on what a local was -/
abbrev ck_vt : Type := Nat × Nat × Nat × Nat × Nat × ck_A × ck_S
abbrev ck_dj : Type := List (Nat × ck_S) × List ck_vt × List ck_A × ck_A
/-- what is written in it, the rank's bound, its step, what a unit of it costs, the cases -/
abbrev ck_md : Type := List (Nat × Nat) × Nat × Nat × (Nat × Nat × Nat) × List ck_dj
/-- a head: the method, its place, what is read ahead, the ways -/
abbrev ck_an : Type := Nat × Nat × List ck_vt × List ck_md
def ck_pv (s : ck_S) (i : Nat) : ck_V := match s.1 with
  | 0 => ck_vi (ck_v i)
  | 1 => ck_vl (ck_v i)
  | 2 => (3, i, s.2.2.2, ck_c 0, ck_c 0)
  | _ => (4, i, s.2.2.2, ck_c 0, ck_c 0)
def ck_pi (s : ck_S) : Int × Int := match s.1 with
  | 0 => (s.2.1, s.2.2.1)
  | 1 => (-9223372036854775808, 9223372036854775807)
  | 2 => (0, ck_HM)
  | _ => (-1, ck_HM)
def ck_psl : List (Nat × ck_S) → Nat → List (Nat × ck_V)
  | [], _ => []
  | q :: l, i => (q.1, ck_pv q.2 i) :: ck_psl l (i + 1)
/-- a form by names -/
def ck_loc (lv : ck_LV) (j : Nat) : Option ck_A := match ck_lk lv j with
  | some v => if v.1 = 0 then some v.2.2.2.1 else none
  | none => none
def ck_nf (l0 lv : ck_LV) (ve vv : List ck_A) : List (Nat × Int) → Option ck_A
  | [] => some (ck_c 0)
  | q :: l => cz_so (if q.1 < 100 then ck_loc lv q.1 else if q.1 < 200 then vv[q.1 - 100]? else if q.1 < 300 then ve[q.1 - 200]? else ck_loc l0 (q.1 - 300)) fun a => cz_so (ck_nf l0 lv ve vv l) fun b => some (ck_add (ck_mul q.2 a) b)
def ck_na (l0 lv : ck_LV) (ve vv : List ck_A) (a : ck_A) : Option ck_A := cz_so (ck_nf l0 lv ve vv a.1) fun b => some (ck_add b (ck_c a.2))
def ck_root (n : ck_N) (es : List ck_Q) (v0 : ck_V) : Option (Nat × Nat) := let v := ck_nz n es v0; if v.1 = 3 then some (v.2.1, v.2.2.1) else none
/-- further places: what is known there, the forms by name, the new intervals -/
def ck_vts (n : ck_N) (l0 lv : ck_LV) (es : List ck_Q) : List ck_vt → Nat → List ck_A → Option (List ck_Q × List ck_A × List (Int × Int))
  | [], _, vv => some ([], vv, [])
  | t :: l, i, vv => cz_so (ck_lk lv t.2.1) fun b => cz_so (ck_root n es b) fun o => match t.1 with
    | 0 => cz_so (ck_vts n l0 lv es l (i + 1) (vv ++ [ck_v i])) fun z => some ((0, o.1, t.2.2.1, t.2.2.2.1, ck_c 0, ck_pv t.2.2.2.2.2.2 i) :: z.1, z.2.1, ck_pi t.2.2.2.2.2.2 :: z.2.2)
    | 6 => cz_so (ck_vts n l0 lv es l i (vv ++ [ck_c 0])) fun z => some ((6, o.1, 7, 0, ck_c 0, ck_vn) :: z.1, z.2.1, z.2.2)
    | _ => cz_so (ck_f0 es o.1 t.2.2.1 t.2.2.2.1) fun w => cz_so (ck_root n es w) fun a => match t.1 with
      | 1 => cz_so (ck_na l0 lv [] vv t.2.2.2.2.2.1) fun ix => if t.2.2.2.2.1 = 1 then cz_so (ck_vts n l0 lv es l i (vv ++ [ck_c t.2.2.2.2.2.2.2.1])) fun z => some ((1, a.1, a.2, 0, ix, ck_vi (ck_c t.2.2.2.2.2.2.2.1)) :: z.1, z.2.1, z.2.2) else cz_so (ck_vts n l0 lv es l (i + 1) (vv ++ [ck_v i])) fun z => some ((1, a.1, a.2, 0, ix, ck_pv t.2.2.2.2.2.2 i) :: z.1, z.2.1, ck_pi t.2.2.2.2.2.2 :: z.2.2)
      | 3 => cz_so (ck_vts n l0 lv es l (i + 1) (vv ++ [ck_v i])) fun z => some ((3, a.1, a.2, t.2.2.2.2.1, ck_v i, ck_vn) :: z.1, z.2.1, ck_pi t.2.2.2.2.2.2 :: z.2.2)
      | 4 => cz_so (ck_na l0 lv [] vv t.2.2.2.2.2.1) fun ix => cz_so (ck_vts n l0 lv es l i (vv ++ [ix])) fun z => some ((4, a.1, a.2, 0, ix, ck_vn) :: z.1, z.2.1, z.2.2)
      | 5 => cz_so (ck_vts n l0 lv es l i (vv ++ [ck_c 0])) fun z => some ((6, a.1, 7, 0, ck_c 0, ck_vn) :: z.1, z.2.1, z.2.2)
      | _ => none
/-- read ahead -/
def ck_ld (n : ck_N) (lv : ck_LV) (es : List ck_Q) (t : ck_vt) : Option (ck_N × List ck_Q) := cz_so (ck_lk lv t.2.1) fun b => cz_so (ck_root n es b) fun o => match t.1 with
  | 0 => cz_if (o.2 == t.2.2.1) (match ck_f0 es o.1 t.2.2.1 t.2.2.2.1 with
    | some _ => some (n, es)
    | none => cz_so (ck_fs t.2.2.1 t.2.2.2.1) fun s => cz_so (ck_sv n s) fun p => some (p.1, (0, o.1, t.2.2.1, t.2.2.2.1, ck_c 0, p.2) :: es))
  | _ => cz_so (ck_f0 es o.1 t.2.2.1 t.2.2.2.1) fun w => cz_so (ck_root n es w) fun a => cz_so (ck_ak a.2) fun k => match t.1 with
    | 1 => cz_so (ck_na lv lv [] [] t.2.2.2.2.2.1) fun ix => (match ck_f1 es a.1 a.2 ix with
      | some _ => some (n, es)
      | none => cz_if (ck_inr n ix (ck_c (k.2.1 : Int))) (cz_so (ck_sv n (ck_esp n es a.1 a.2 k ix)) fun p => some (p.1, (1, a.1, a.2, 0, ix, p.2) :: es)))
    | 3 => some (ck_new n (0, (k.2.1 : Int)), (3, a.1, a.2, t.2.2.2.2.1, ck_v n.1.length, ck_vn) :: es)
    | 4 => cz_if (a.2 == 82) (some (n, (4, a.1, a.2, 0, ck_c 0, ck_vn) :: es))
    | _ => none
def ck_lds (lv : ck_LV) : List ck_vt → ck_N → List ck_Q → Option (ck_N × List ck_Q)
  | [], n, es => some (n, es)
  | t :: l, n, es => cz_so (ck_ld n lv es t) fun p => ck_lds lv l p.1 p.2
/-- products and quotients are kept in one method -/
def ck_nl (mi : Nat) (q : cz_I) (n : ck_N) (st : List ck_V) : List ck_Q := if mi = 260 then (match q.2.1 with
    | .imul => (match st with
      | y :: x :: _ => if (y.1 == 0 && x.1 == 0 && !(x.2.2.2.1.1.isEmpty) && !(y.2.2.2.1.1.isEmpty) && decide (0 ≤ ck_lw n x.2.2.2.1) && decide (0 ≤ ck_lw n y.2.2.2.1) && decide (ck_hi n x.2.2.2.1 * ck_hi n y.2.2.2.1 ≤ 2147483647)) = true then [(9, n.1.length, 0, 0, x.2.2.2.1, y)] else []
      | _ => [])
    | .idiv => (match st with
      | y :: x :: _ => if (y.1 == 0 && x.1 == 0 && decide (0 ≤ ck_lw n x.2.2.2.1) && decide (0 < ck_lp n y.2.2.2.1)) = true then [(10, n.1.length, 0, 0, x.2.2.2.1, y)] else []
      | _ => [])
    | _ => []) else []
def ck_f9 (es : List ck_Q) (r : Nat) : Option (ck_A × ck_A) := match es with
  | [] => none
  | q :: l => if q.1 == 9 && q.2.1 == r then some (q.2.2.2.2.1, q.2.2.2.2.2.2.2.2.1) else ck_f9 l r
/-- quotients of products: the quotient, the two factors, the divisor -/
def ck_q4 (es0 : List ck_Q) : List ck_Q → List (Nat × ck_A × ck_A × ck_A)
  | [] => []
  | q :: l => if q.1 = 10 then (match ck_rt q.2.2.2.2.1 with
      | some p => (match ck_f9 es0 p with
        | some c => (q.2.1, c.1, c.2, q.2.2.2.2.2.2.2.2.1) :: ck_q4 es0 l
        | none => ck_q4 es0 l)
      | none => ck_q4 es0 l) else ck_q4 es0 l
/-- four shares by the greatest rest: three coins at most are left -/
def ck_four (n : ck_N) (es : List ck_Q) : ck_N := match ck_q4 es es with
  | a :: b :: c :: d :: _ => if (ck_aeq a.2.1 b.2.1 && ck_aeq a.2.1 c.2.1 && ck_aeq a.2.1 d.2.1 && ck_aeq a.2.2.2 b.2.2.2 && ck_aeq a.2.2.2 c.2.2.2 && ck_aeq a.2.2.2 d.2.2.2 && ck_aeq a.2.2.2 (ck_add (ck_add (ck_add a.2.2.1 b.2.2.1) c.2.2.1) d.2.2.1)) = true then
      ck_fact n (ck_sub (ck_sub (ck_sub (ck_sub (ck_sub a.2.1 (ck_v a.1)) (ck_v b.1)) (ck_v c.1)) (ck_v d.1)) (ck_c 3)) else n
  | _ => n
def ck_nas (l0 lv : ck_LV) (ve vv : List ck_A) : List ck_A → Option (List ck_A)
  | [] => some []
  | a :: l => cz_so (ck_na l0 lv ve vv a) fun b => cz_so (ck_nas l0 lv ve vv l) fun c => some (b :: c)
/-- what further places were ahead of the loop (by what was known then) -/
def ck_ves (es : List ck_Q) : List ck_Q → List ck_A
  | [] => []
  | q :: l => (match q.1 with
    | 0 => (match ck_f0 es q.2.1 q.2.2.1 q.2.2.2.1 with | some v => v.2.2.2.1 | none => ck_c 0)
    | 3 => (ck_f3 es 3 q.2.1 q.2.2.1 q.2.2.2.1).getD (ck_c 0)
    | _ => ck_c 0) :: ck_ves es l
/-- a head's pattern, and its rank -/
def ck_hd (n : ck_N) (lv : ck_LV) (es : List ck_Q) (HW : List (Nat × Nat)) (d : ck_dj) : Option (ck_H × ck_A) :=
  let e1 := es.filter (ck_kh HW)
  let l1 := ck_psl d.1 n.1.length ++ (lv.filter (fun q => !(d.1.any fun p => p.1 == q.1))).map (fun q => (q.1, ck_nz n es q.2))
  cz_so (ck_vts n lv l1 e1 d.2.1 (n.1.length + d.1.length) []) fun z => let ve := ck_ves es z.1
    cz_so (ck_nas lv l1 ve z.2.1 d.2.2.1) fun fs => cz_so (ck_na lv l1 ve z.2.1 d.2.2.2) fun rk =>
    some ((n.1.length, d.1.map (fun p => ck_pi p.2) ++ z.2.2, fs, l1, z.1 ++ e1), rk)
def ck_hds (n : ck_N) (lv : ck_LV) (es : List ck_Q) (HW : List (Nat × Nat)) : List ck_dj → Option (List (ck_H × ck_A))
  | [] => some []
  | d :: l => cz_so (ck_hd n lv es HW d) fun h => cz_so (ck_hds n lv es HW l) fun r => some (h :: r)
/-- a loop under way: its head, the step of the rank, the cost of its unit, counters at the head, the patterns with their ranks, the rank of this turn -/
abbrev ck_tg : Type := Nat × Nat × (Nat × Nat × Nat) × (Nat × Nat × Nat) × List (ck_H × ck_A) × ck_A
def ck_ftg (l : List ck_tg) (pc : Nat) : Option ck_tg := match l with
  | [] => none
  | t :: r => if t.1 == pc then some t else ck_ftg r pc
def ck_fan (l : List ck_an) (mi pc : Nat) : Option (List ck_vt × List ck_md) := match l with
  | [] => none
  | t :: r => if t.1 == mi && t.2.1 == pc then some t.2.2 else ck_fan r mi pc
def ck_bk1 (n : ck_N) (lv : ck_LV) (es : List ck_Q) (t : ck_tg) (h : ck_H × ck_A) : Bool := match ck_mt n lv es h.1 with
  | some θ => ck_ab θ.length h.2 && ck_le n (ck_add (ck_sub (ck_sb θ h.2) t.2.2.2.2.2) (ck_c (t.2.1 : Int))) && ck_le n (ck_mul (-1) (ck_sb θ h.2))
  | none => false
def ck_bk (n : ck_N) (lv : ck_LV) (st : List ck_V) (es : List ck_Q) (c : Nat × Nat × Nat) (t : ck_tg) : Bool := st.isEmpty && decide (0 < t.2.1) && t.2.2.2.2.1.any (ck_bk1 n lv es t) &&
  decide (c.1 ≤ t.2.2.2.1.1 + t.2.2.1.1 * t.2.1) && decide (c.2.1 ≤ t.2.2.2.1.2.1 + t.2.2.1.2.1 * t.2.1) && decide (c.2.2 ≤ t.2.2.2.1.2.2 + t.2.2.1.2.2 * t.2.1)
/-- the first way of a loop whose first case is here -/
def ck_pm (n : ck_N) (lv : ck_LV) (es : List ck_Q) : List ck_md → Option ck_md
  | [] => none
  | m :: l => match (match m.2.2.2.2 with
      | d :: _ => (match ck_hd n lv es m.1 d with
        | some h => (match ck_mt n lv es h.1 with
          | some θ => ck_ab θ.length h.2 && ((m.2.2.2.1.1 == 0 && m.2.2.2.1.2.1 == 0 && m.2.2.2.1.2.2 == 0) || ck_le n (ck_sub (ck_sb θ h.2) (ck_c (m.2.1 : Int))))
          | none => false)
        | none => false)
      | [] => false) with
    | true => some m
    | false => ck_pm n lv es l
/-- a place behind a loop where ways meet: its pattern; as a loop that is left once -/
def ck_jn (n : ck_N) (lv : ck_LV) (es : List ck_Q) (a : Option (List ck_vt × List ck_md)) : Option (List (Nat × ck_H)) := match a with
  | none => some []
  | some ms => match ms.2 with
    | [] => none
    | m :: _ => match m.2.2.2.2 with
      | [] => none
      | d :: _ => cz_so (ck_hd n lv es m.1 d) fun h => some [(m.2.1, h.1)]
def ck_jt (c : Nat × Nat × Nat) (j : Nat × ck_H) : ck_tg := (j.1, 1, (0, 0, 0), c, [(j.2, ck_c 0)], ck_c 1)
/-- an end of a run -/
abbrev ck_O : Type := ck_N × Option ck_V × List ck_Q × Nat × Nat × Nat
def ck_cc {α : Type} (g : α → Option (List ck_O)) : List α → Option (List ck_O)
  | [] => some []
  | a :: l => cz_so (g a) fun x => cz_so (ck_cc g l) fun y => some (x ++ y)
/-- tests -/
def ck_cnd (n : ck_N) (c : Jvm.ClassFile.Cond) (a : ck_A) : Option ck_N := match c with
  | .eq => ck_ase n a
  | .ne => ck_asn n a
  | .lt => ck_asm n (ck_add a (ck_c 1))
  | .ge => ck_asm n (ck_mul (-1) a)
  | .gt => ck_asm n (ck_sub (ck_c 1) a)
  | .le => ck_asm n a
def ck_ng (c : Jvm.ClassFile.Cond) : Jvm.ClassFile.Cond := match c with
  | .eq => .ne
  | .ne => .eq
  | .lt => .ge
  | .ge => .lt
  | .gt => .le
  | .le => .gt
def ck_way (x : Option ck_N) (pc : Nat) (l : List (ck_N × Nat)) : List (ck_N × Nat) := match x with
  | some n => (n, pc) :: l
  | none => l
def ck_tsw (n : ck_N) (a : ck_A) (pc : Nat) : List Int → Int → Option (List (ck_N × Nat))
  | [], _ => some []
  | o :: l, k => cz_so (ck_tsw n a pc l (k + 1)) fun r => cz_j pc o fun t => some (ck_way (ck_ase n (ck_sub a (ck_c k))) t r)
def ck_lsw (n : ck_N) (a : ck_A) (pc : Nat) : List (Int × Int) → Option (List (ck_N × Nat))
  | [] => some []
  | p :: l => cz_so (ck_lsw n a pc l) fun r => cz_j pc p.2 fun t => some (ck_way (ck_ase n (ck_sub a (ck_c p.1))) t r)
def ck_br (q : cz_I) (n : ck_N) (st : List ck_V) : Option (List (ck_N × Nat) × List ck_V) := match q.2.1 with
  | .ifCond c off => cz_n q.2.2.1 3 (ck_qv st fun v r => cz_j q.1 off fun t => cz_if (v.1 == 0 || v.1 == 2) (let a := if v.1 = 0 then v.2.2.2.1 else ck_sub v.2.2.2.1 v.2.2.2.2; some (ck_way (ck_cnd n c a) t (ck_way (ck_cnd n (ck_ng c) a) (q.1 + 3) []), r)))
  | .if_icmp c off => cz_n q.2.2.1 3 (ck_qj st fun x y r => cz_j q.1 off fun t => let a := ck_sub x y; some (ck_way (ck_cnd n c a) t (ck_way (ck_cnd n (ck_ng c) a) (q.1 + 3) []), r))
  | .ifnull off => cz_n q.2.2.1 3 (ck_qv st fun v r => cz_j q.1 off fun t => match v.1 with
    | 3 => some ([(n, q.1 + 3)], r)
    | 5 => some ([(n, t)], r)
    | 4 => some (ck_way (ck_ase n (ck_add (ck_v v.2.1) (ck_c 1))) t (ck_way (ck_asm n (ck_mul (-1) (ck_v v.2.1))) (q.1 + 3) []), r)
    | _ => none)
  | .ifnonnull off => cz_n q.2.2.1 3 (ck_qv st fun v r => cz_j q.1 off fun t => match v.1 with
    | 3 => some ([(n, t)], r)
    | 5 => some ([(n, q.1 + 3)], r)
    | 4 => some (ck_way (ck_ase n (ck_add (ck_v v.2.1) (ck_c 1))) (q.1 + 3) (ck_way (ck_asm n (ck_mul (-1) (ck_v v.2.1))) t []), r)
    | _ => none)
  | .tableswitch df lo hi offs => ck_qi st fun a r => cz_j q.1 df fun t => cz_if (decide ((offs.toList.length : Int) = hi - lo + 1)) (cz_so (ck_tsw n a q.1 offs.toList lo) fun l => some (ck_way (ck_asm n (ck_add (ck_sub a (ck_c lo)) (ck_c 1))) t (ck_way (ck_asm n (ck_add (ck_sub (ck_c hi) a) (ck_c 1))) t l), r))
  | .lookupswitch df ps => ck_qi st fun a r => cz_j q.1 df fun t => cz_if (cz_sw ps.toList) (cz_so (ck_lsw n a q.1 ps.toList) fun l => some ((n, t) :: l, r))
  | _ => none
/-- three loops that copy rows, each in one step -/
def ck_mac (W : List (Nat × Nat)) (mi pc : Nat) (n : ck_N) (lv : ck_LV) (es : List ck_Q) : Option (Nat × ck_LV × List ck_Q) :=
  if mi = 203 ∧ pc = 17 then cz_so (ck_lk lv 0) fun o => cz_so (ck_lk lv 1) fun k => cz_so (ck_lk lv 2) fun i => cz_if (o.1 == 3 && o.2.2.1 == 12 && k.1 == 0 && ck_btw n k.2.2.2.1 0 2 && i.1 == 0 && ck_aeq i.2.2.2.1 (ck_c 0) && ck_win W 78 0) (some (48, ck_st1 lv 2 (ck_vi (ck_c 8090)), es.filter (ck_kc 78)))
  else if mi = 204 ∧ pc = 29 then cz_so (ck_lk lv 0) fun o => cz_so (ck_lk lv 1) fun k => cz_so (ck_lk lv 2) fun i => cz_if (o.1 == 3 && o.2.2.1 == 12 && k.1 == 0 && ck_btw n k.2.2.2.1 0 2 && i.1 == 0 && ck_aeq i.2.2.2.1 (ck_c 0) && ck_win W 77 0) (some (60, ck_st1 lv 2 (ck_vi (ck_c 8090)), es.filter (ck_kc 77)))
  else if mi = 230 ∧ pc = 185 then cz_so (ck_lk lv 0) fun o => cz_so (ck_lk lv 3) fun k => cz_so (ck_lk lv 4) fun i => cz_if (o.1 == 3 && o.2.2.1 == 12 && k.1 == 0 && i.1 == 0 && ck_aeq i.2.2.2.1 (ck_c 0) && ck_win W 77 0) (cz_so (ck_dv 260 (ck_sub k.2.2.2.1 (ck_c 1100))) fun S => cz_so (ck_f0 es o.2.1 12 14) fun w => cz_if (ck_btw n S 0 9 && w.1 == 3 && w.2.2.1 == 82) (cz_so (ck_f3 es 4 w.2.1 82 0) fun m => cz_so (ck_f1 es w.2.1 82 (ck_c 3)) fun c => cz_if (c.1 == 0 && ck_le n (ck_sub c.2.2.2.1 m)) (some (215, ck_st1 lv 4 (ck_vi (ck_c 260)), es.filter (fun q => ck_kc 77 q || (q.1 == 1 && ck_le n (ck_sub (ck_add q.2.2.2.2.1 (ck_c 1)) k.2.2.2.1)))))))
  else none
/-- what is at hand: contracts, heads, what may be written, how many cells and counts -/
abbrev ck_X : Type := List ck_Z × List ck_an × List (Nat × Nat) × Nat × Nat
def ck_zip : List ck_V → Nat → ck_LV
  | [], _ => []
  | v :: l, i => (i, v) :: ck_zip l (i + 1)
def ck_args : Nat → List ck_V → ck_LV
  | _, [] => []
  | i, v :: l => (i, v) :: ck_args (if ck_cat v = 2 then i + 2 else i + 1) l
/-- the first contract of a method that can be used; whether the method has any -/
def ck_fz (n : ck_N) (es : List ck_Q) (as : ck_LV) (mj : Nat) : List ck_Z → Option (ck_Z × List ck_A)
  | [] => none
  | z :: l => if z.1 == mj then (match ck_mt n as es z.2.2.2.2.1 with
    | some θ => some (z, θ)
    | none => ck_fz n es as mj l) else ck_fz n es as mj l
def ck_hz (mj : Nat) (l : List ck_Z) : Bool := l.any fun z => z.1 == mj
def ck_sbqs (θ : List ck_A) : List ck_Q → Option (List ck_Q)
  | [] => some []
  | q :: l => cz_so (ck_sbq θ q) fun x => cz_so (ck_sbqs θ l) fun y => some (x :: y)
def ck_sbf (θ : List ck_A) : List ck_A → Option (List ck_A)
  | [] => some []
  | a :: l => cz_if (ck_ab θ.length a) (cz_so (ck_sbf θ l) fun r => some (ck_sb θ a :: r))
def ck_ends (n : ck_N) (es : List ck_Q) (z : ck_Z) (θ : List ck_A) (p : List (Int × Int) × Option ck_V × List ck_Q × List ck_A) : Option (ck_N × Option ck_V × List ck_Q) :=
  let θ1 := θ ++ (List.range p.1.length).map (fun i => ck_v (n.1.length + i))
  cz_so (ck_sbqs θ1 p.2.2.1) fun e => cz_so (ck_sbf θ1 p.2.2.2) fun fs => match p.2.1 with
    | none => some ((n.1 ++ p.1, fs ++ n.2), none, e ++ es.filter (ck_kw z.2.2.2.1))
    | some v => cz_so (ck_sbv θ1 v) fun w => some ((n.1 ++ p.1, fs ++ n.2), some w, e ++ es.filter (ck_kw z.2.2.2.1))
def ck_sbw (W W2 : List (Nat × Nat)) : Bool := W2.all fun q => ck_win W q.1 q.2
/-- the same of rows in one order -/
def ck_sbm : List (Nat × Nat) → List (Nat × Nat) → Bool
  | _, [] => true
  | [], _ :: _ => false
  | w :: W, q :: l => if w.1 = q.1 ∧ w.2 = q.2 then ck_sbm W l else ck_sbm W (q :: l)
/-- the object of a call -/
def ck_rc (n : ck_N) (es : List ck_Q) (cn : Nat) (as : List ck_V) : Bool := match as with
  | v0 :: _ => let v := ck_nz n es v0; if cn = 15 then v.1 == 6 else (v.1 == 3 || v.1 == 9) && v.2.2.1 == cn && decide (cn < 13)
  | [] => false
/-- a call: the method, its arguments, what stays -/
def ck_cl3 (q : cz_I) (n : ck_N) (st : List ck_V) (es : List ck_Q) : Option (Nat × List ck_V × List ck_V) :=
  let na := q.2.2.2.2.toNat
  let as := (st.take na).reverse
  let r := st.drop na
  let ok := decide (na ≤ st.length) && decide (ck_sum r ≤ 8) && decide (ck_sum as ≤ (cz_mf q.2.2.2.1).2.2.2.2.1)
  match q.2.1 with
  | .invokevirtual _ => cz_n q.2.2.1 3 (cz_if (decide (0 < q.2.2.2.2) && ok && ck_rc n es (cz_mf q.2.2.2.1).1 as) (some (q.2.2.2.1, as, r)))
  | .invokestatic _ => cz_n q.2.2.1 3 (cz_if (decide (0 ≤ q.2.2.2.2) && ok) (some (q.2.2.2.1, as, r)))
  | .invokespecial _ => cz_n q.2.2.1 3 (cz_if (decide (0 < q.2.2.2.2) && ok && ck_rc n es (cz_mf q.2.2.2.1).1 as) (some (q.2.2.2.1, as, r)))
  | _ => none
def ck_nr (n : ck_N) (tc : Nat) (a : ck_A) : Bool := match tc with
  | 0 => true
  | 1 => ck_btw n a 0 1
  | 2 => ck_btw n a 0 65535
  | _ => ck_btw n a (-128) 127
def ck_rt3 (q : cz_I) (n : ck_N) (st : List ck_V) : Option (Option ck_V) := match q.2.1 with
  | .ireturn => cz_n q.2.2.1 1 (ck_qi st fun a r => cz_if (r.isEmpty && ck_nr n q.2.2.2.1 a) (some (some (ck_vi a))))
  | .lreturn => cz_n q.2.2.1 1 (ck_ql st fun a r => cz_if r.isEmpty (some (some (ck_vl a))))
  | .areturn => cz_n q.2.2.1 1 (ck_qv st fun v r => cz_if (r.isEmpty && decide (3 ≤ v.1)) (some (some v)))
  | .return_ => cz_n q.2.2.1 1 (cz_if st.isEmpty (some none))
  | _ => none
/-- a state: numbers, locals, stack, what is known of the heap, counters -/
abbrev ck_ST : Type := ck_N × ck_LV × List ck_V × List ck_Q × Nat × Nat × Nat
def ck_run (X : ck_X) (S : List (Nat × Nat × Nat)) : Nat → Nat → Nat → Nat → ck_ST → List ck_tg → Bool → Option (List ck_O)
  | 0, _, _, _, _, _, _ => none
  | f + 1, d, mi, pc, s, tg, sk => match (if sk = true then none else ck_ftg tg pc) with
    | some t => cz_if (ck_bk s.1 s.2.1 s.2.2.1 s.2.2.2.1 s.2.2.2.2 t) (some [])
    | none => match (if sk = true then none else ck_fan X.2.1 mi pc) with
      | some ms => cz_if s.2.2.1.isEmpty (cz_so (ck_lds s.2.1 ms.1 s.1 s.2.2.2.1) fun ne => let n := if mi = 260 ∧ pc = 117 then ck_four ne.1 ne.2 else ne.1
          cz_so (ck_pm n s.2.1 ne.2 ms.2) fun m => cz_so (ck_hds n s.2.1 ne.2 m.1 m.2.2.2.2) fun hs =>
          let c : Nat × Nat × Nat := (s.2.2.2.2.1 + m.2.2.2.1.1 * m.2.1, s.2.2.2.2.2.1 + m.2.2.2.1.2.1 * m.2.1, s.2.2.2.2.2.2 + m.2.2.2.1.2.2 * m.2.1)
          cz_if (decide (c.2.2 ≤ X.2.2.2.2) && decide (c.1 ≤ X.2.2.2.1)) (cz_so (ck_jn n s.2.1 ne.2 (ck_fan X.2.1 mi (pc + 100000))) fun js => cz_so (ck_cc (fun j : Nat × ck_H => ck_run X S f d mi j.1 ((n.1 ++ j.2.2.1, j.2.2.2.1 ++ n.2), j.2.2.2.2.1, [], j.2.2.2.2.2, c) tg true) js) fun o1 => cz_so (ck_cc (fun h : ck_H × ck_A => ck_run X S f d mi pc ((n.1 ++ h.1.2.1, h.1.2.2.1 ++ n.2), h.1.2.2.2.1, [], h.1.2.2.2.2, c) (js.map (ck_jt c) ++ ((pc, m.2.2.1, m.2.2.2.1, c, hs, h.2) :: tg)) true) hs) fun o2 => some (o1 ++ o2)))
      | none => match ck_mac X.2.2.1 mi pc s.1 s.2.1 s.2.2.2.1 with
        | some p => cz_if s.2.2.1.isEmpty (ck_run X S f d mi p.1 (s.1, p.2.1, [], p.2.2, s.2.2.2.2) tg false)
        | none => match ck_ft mi pc with
          | none => none
          | some q => match ck_x1 (cz_mf mi).2.2.2.2.1 q s.1 s.2.1 s.2.2.1 with
            | some p => ck_run X S f d mi p.2.1 (p.1, p.2.2.1, p.2.2.2, ck_nl mi q s.1 s.2.2.1 ++ s.2.2.2.1, s.2.2.2.2) tg false
            | none => match ck_br q s.1 s.2.2.1 with
              | some p => ck_cc (fun w : ck_N × Nat => ck_run X S f d mi w.2 (w.1, s.2.1, p.2, s.2.2.2) tg false) p.1
              | none => match ck_x2 S X.2.2.1 X.2.2.2.1 X.2.2.2.2 mi q (s.1, s.2.2) with
                | some p => ck_run X S f d mi p.1 (p.2.1, s.2.1, p.2.2) tg false
                | none => match ck_rt3 q s.1 s.2.2.1 with
                  | some v => some [(s.1, v, s.2.2.2)]
                  | none => cz_so (ck_cl3 q s.1 s.2.2.1 s.2.2.2.1) fun a => match d with
                    | 0 => none
                    | d' + 1 => if ck_hz a.1 X.1 = true then (cz_so (ck_fz s.1 s.2.2.2.1 (ck_zip a.2.1 0) a.1 X.1) fun z =>
                        let c : Nat × Nat × Nat := (s.2.2.2.2.1 + z.1.2.2.1.1, s.2.2.2.2.2.1 + z.1.2.2.1.2.1, s.2.2.2.2.2.2 + z.1.2.2.1.2.2)
                        cz_if (decide (z.1.2.1 ≤ d') && ck_sbm X.2.2.1 z.1.2.2.2.1 && decide (c.1 ≤ X.2.2.2.1) && decide (c.2.2 ≤ X.2.2.2.2)) (ck_cc (fun p => cz_so (ck_ends s.1 s.2.2.2.1 z.1 z.2 p) fun o => ck_run X S f d mi (pc + 3) (o.1, s.2.1, o.2.1.toList ++ a.2.2, o.2.2, c) tg false) z.1.2.2.2.2.2))
                      else (cz_so (ck_run X S f d' a.1 0 (s.1, ck_args 0 a.2.1, [], s.2.2.2) [] false) fun os => ck_cc (fun o : ck_O => ck_run X S f d mi (pc + 3) (o.1, s.2.1, o.2.1.toList ++ a.2.2, o.2.2) tg false) os)
/-- an end fits one of the contract's -/
def ck_oke (m : Nat) (o : ck_O) (z : ck_Z) : Bool := decide (o.2.2.2.1 ≤ z.2.2.1.1) && decide (o.2.2.2.2.1 ≤ z.2.2.1.2.1) && decide (o.2.2.2.2.2 ≤ z.2.2.1.2.2) && z.2.2.2.2.2.any fun p => match o.2.1, p.2.1 with
  | none, none => (ck_mt o.1 [] o.2.2.1 (m, p.1, p.2.2.2, [], p.2.2.1)).isSome
  | some v, some w => (ck_mt o.1 [(0, v)] o.2.2.1 (m, p.1, p.2.2.2, [(0, w)], p.2.2.1)).isSome
  | _, _ => false
def ck_a2 : List (Nat × ck_V) → List ck_V := List.map fun q => q.2
/-- a contract holds, by those before it -/
def ck_ok1 (S : List (Nat × Nat × Nat)) (ct : List ck_Z) (an : List ck_an) (fu : Nat) (z : ck_Z) : Bool := let H := z.2.2.2.2.1
  match ck_run (ct, an, z.2.2.2.1, z.2.2.1.1, z.2.2.1.2.2) S fu z.2.1 z.1 0 ((H.2.1, H.2.2.1), ck_args 0 (ck_a2 H.2.2.2.1), [], H.2.2.2.2, 0, 0, 0) [] false with
  | some os => H.1 == 0 && os.all fun o => ck_oke H.2.1.length o z
  | none => false
