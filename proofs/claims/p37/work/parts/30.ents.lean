/-! THE CHECKER: what is known of the heap. Tag 0 a field (root of the object, class, field), 1 an element (root, kind, -, index), 2 the script's, 3 how many elements are 1 (number 0), or -1 (number 1), 4 so many rows of a statute are good, 6 a reader is whole, 9 a product, 10 a quotient, 11 fields that are set -/
abbrev ck_Q : Type := Nat × Nat × Nat × Nat × ck_A × ck_V
def ck_HM : Int := 4611686018427387904
def ck_BM : Int := 10000000
def ck_teq (a b : List (Nat × Int)) : Bool := match a, b with
  | [], [] => true
  | p :: l, q :: r => p.1 == q.1 && p.2 == q.2 && ck_teq l r
  | _, _ => false
def ck_aeq (a b : ck_A) : Bool := a.2 == b.2 && ck_teq a.1 b.1
def ck_f0 (es : List ck_Q) (r ci k : Nat) : Option ck_V := match es with
  | [] => none
  | q :: l => if q.1 == 0 && q.2.1 == r && q.2.2.1 == ci && q.2.2.2.1 == k then some q.2.2.2.2.2 else ck_f0 l r ci k
def ck_f1 (es : List ck_Q) (r K : Nat) (a : ck_A) : Option ck_V := match es with
  | [] => none
  | q :: l => if q.1 == 1 && q.2.1 == r && q.2.2.1 == K && ck_aeq q.2.2.2.2.1 a then some q.2.2.2.2.2 else ck_f1 l r K a
def ck_f2 (es : List ck_Q) (a : ck_A) : Option ck_V := match es with
  | [] => none
  | q :: l => if q.1 == 2 && ck_aeq q.2.2.2.2.1 a then some q.2.2.2.2.2 else ck_f2 l a
/-- a count, or good rows -/
def ck_f3 (es : List ck_Q) (t r K w : Nat) : Option ck_A := match es with
  | [] => none
  | q :: l => if q.1 == t && q.2.1 == r && q.2.2.1 == K && q.2.2.2.1 == w then some q.2.2.2.2.1 else ck_f3 l t r K w
def ck_f6 (es : List ck_Q) (r : Nat) : Bool := match es with
  | [] => false
  | q :: l => (q.1 == 6 && q.2.1 == r) || ck_f6 l r
def ck_f11 (es : List ck_Q) (r k : Nat) : Option Nat := match es with
  | [] => none
  | q :: l => if q.1 == 11 && q.2.1 == r && q.2.2.1 == k then some q.2.2.2.1 else ck_f11 l r k
/-- a reference in its plainest form -/
def ck_nz (n : ck_N) (es : List ck_Q) (v : ck_V) : ck_V := if v.1 = 4 then (match n.1[v.2.1]? with
    | some b => if 0 ≤ b.1 then (3, v.2.1, v.2.2.1, ck_c 0, ck_c 0) else if b.2 < 0 then ck_vn else v
    | none => v) else if v.1 = 9 then (match ck_f11 es v.2.1 v.2.2.1 with
    | some m => if ck_full v.2.2.1 m = true then (3, v.2.1, v.2.2.1, ck_c 0, ck_c 0) else v
    | none => v) else v
def ck_fs (ci k : Nat) : Option ck_S := match ck_kt[ci]? with
  | some (.inl o) => if o.1 = ci then o.2[k]? else none
  | _ => none
def ck_ak (k : Nat) : Option (Nat × Nat × Nat × ck_S) := match ck_kt[k]? with
  | some (.inr r) => some r
  | _ => none
/-- a value by what a place holds -/
def ck_sv (n : ck_N) (s : ck_S) : Option (ck_N × ck_V) := match s.1 with
  | 0 => some (if s.2.1 = s.2.2.1 then (n, ck_vi (ck_c s.2.1)) else ck_fr n s.2.1 s.2.2.1)
  | 1 => some (ck_frl n)
  | 2 => some (ck_new n (0, ck_HM), (3, n.1.length, s.2.2.2, ck_c 0, ck_c 0))
  | 3 => some (ck_new n (-1, ck_HM), (4, n.1.length, s.2.2.2, ck_c 0, ck_c 0))
  | 4 => some (ck_fr n 0 ck_BM)
  | _ => none
def ck_fit (n : ck_N) (v : ck_V) (s : ck_S) : Bool := match s.1 with
  | 0 => v.1 == 0 && ((decide (s.2.1 ≤ -2147483648) && decide (2147483647 ≤ s.2.2.1)) || ck_btw n v.2.2.2.1 s.2.1 s.2.2.1)
  | 1 => v.1 == 1
  | 2 => v.1 == 3 && v.2.2.1 == s.2.2.2
  | 3 => v.1 == 5 || ((v.1 == 3 || v.1 == 4) && v.2.2.1 == s.2.2.2)
  | _ => false
def ck_fto (ty : FieldType) (s : ck_S) : Bool := match ty with
  | .int => s.1 == 0
  | .boolean => s.1 == 0 && decide (0 ≤ s.2.1) && decide (s.2.2.1 ≤ 1)
  | .long => s.1 == 1
  | .object _ => s.1 == 2 || s.1 == 3
  | .array _ => s.1 == 2 || s.1 == 3
  | _ => false
def ck_win (W : List (Nat × Nat)) (a b : Nat) : Bool := match W with
  | [] => false
  | q :: l => (q.1 == a && q.2 == b) || ck_win l a b
/-- what stays known: behind a field's write, behind an element's, behind a row's -/
def ck_kf (ci k : Nat) (q : ck_Q) : Bool := match q.1 with
  | 0 => !(q.2.2.1 == ci && q.2.2.2.1 == k)
  | 6 => !(ci == 7 && (k == 5 || k == 6))
  | _ => true
def ck_apt (n : ck_N) (a b : ck_A) : Bool := ck_le n (ck_add (ck_sub a b) (ck_c 1)) || ck_le n (ck_add (ck_sub b a) (ck_c 1))
/-- a place of a statute's row that is neither its first nor its second -/
def ck_r16 (n : ck_N) (ix : ck_A) : Bool := ck_btw n (ix.1.filter (fun q => !(q.2 % 16 == 0)), (ix.2 - 4) % 16) 2 15
def ck_ka (n : ck_N) (K r : Nat) (ix : ck_A) (q : ck_Q) : Bool := match q.1 with
  | 1 => !(q.2.2.1 == K) || (q.2.1 == r && ck_apt n ix q.2.2.2.2.1)
  | 3 => !(q.2.2.1 == K)
  | 4 => !(q.2.2.1 == K) || ck_le n (ck_sub (ck_add (ck_mul 16 q.2.2.2.2.1) (ck_c 4)) ix) || ck_r16 n ix
  | _ => true
def ck_kc (K : Nat) (q : ck_Q) : Bool := match q.1 with
  | 1 => !(q.2.2.1 == K)
  | 3 => !(q.2.2.1 == K)
  | 4 => !(q.2.2.1 == K)
  | _ => true
/-- behind a call, or at a loop's head: by what is written there -/
def ck_kw (W : List (Nat × Nat)) (q : ck_Q) : Bool := match q.1 with
  | 0 => !(ck_win W q.2.2.1 q.2.2.2.1)
  | 1 => !(ck_win W q.2.2.1 0)
  | 3 => !(ck_win W q.2.2.1 0)
  | 4 => !(ck_win W q.2.2.1 0)
  | 6 => !(ck_win W 7 5) && !(ck_win W 7 6)
  | _ => true
/-- at a loop's head -/
def ck_kh (W : List (Nat × Nat)) (q : ck_Q) : Bool := match q.1 with
  | 4 => true
  | 9 => false
  | 10 => false
  | _ => ck_kw W q
/-- whether a number is P: known so, known not so, not known -/
def ck_isP (n : ck_N) (v : ck_V) (P : Int) : Option Bool := if v.1 = 0 then (if ck_lw n v.2.2.2.1 = P ∧ ck_hi n v.2.2.2.1 = P then some true else if P < ck_lw n v.2.2.2.1 ∨ ck_hi n v.2.2.2.1 < P then some false else none) else none
def ck_P01 (w : Nat) : Int := if w = 0 then 1 else -1
def ck_b01 (b : Bool) : Int := if b = true then 1 else 0
/-- a count behind a store at r, ix -/
def ck_cnt (n : ck_N) (es : List ck_Q) (K r : Nat) (ix : ck_A) (v : ck_V) (w : Nat) (l : List ck_Q) : List ck_Q := match ck_f3 es 3 r K w, ck_f1 es r K ix with
  | some a, some old => (match ck_isP n old (ck_P01 w), ck_isP n v (ck_P01 w) with
    | some b, some b' => (3, r, K, w, ck_add a (ck_c (ck_b01 b' - ck_b01 b)), ck_vn) :: l
    | _, _ => l)
  | _, _ => l
/-- a count lies from 0 to the row's length -/
def ck_rc3 (len : Nat) (n : ck_N) (es : List ck_Q) : ck_N := match es with
  | q :: _ => if q.1 = 3 then (let n1 := (ck_asm n (ck_sub q.2.2.2.2.1 (ck_c (len : Int)))).getD n; (ck_asm n1 (ck_mul (-1) q.2.2.2.2.1)).getD n1) else n
  | [] => n
/-- two numbers are a good row's -/
def ck_prs (n : ck_N) (x y : ck_V) : Bool := x.1 == 0 && y.1 == 0 && (let l := ck_lw n x.2.2.2.1; let h := ck_hi n x.2.2.2.1
  ((decide (0 < l) || decide (h < 0)) || ck_btw n y.2.2.2.1 0 3) && ((decide (4 < l) || decide (h < 4)) || ck_btw n y.2.2.2.1 1 99))
/-- one good row more -/
def ck_pre4 (n : ck_N) (r K : Nat) (l : List ck_Q) : List ck_Q := match ck_f3 l 4 r K 0 with
  | some m => (match ck_f1 l r K (ck_add (ck_mul 16 m) (ck_c 4)), ck_f1 l r K (ck_add (ck_mul 16 m) (ck_c 5)) with
    | some x, some y => if ck_prs n x y = true then (4, r, K, 0, ck_add m (ck_c 1), ck_vn) :: l else l
    | _, _ => l)
  | none => l
/-- a reader is whole again -/
def ck_cl (n : ck_N) (ci k r : Nat) (l : List ck_Q) : List ck_Q := if ci = 7 ∧ (k = 5 ∨ k = 6) then (match ck_f0 l r 7 6, ck_f0 l r 7 5 with
    | some x, some y => if x.1 = 0 ∧ y.1 = 0 ∧ (ck_btw n x.2.2.2.1 5 5 = true ∨ ck_le n (ck_sub y.2.2.2.1 (ck_c 599)) = true) then (6, r, 7, 0, ck_c 0, ck_vn) :: l else l
    | _, _ => l) else l
/-- all numbers that a form may be, from the roots' intervals -/
def ck_all (iv : ck_IV) : List (Nat × Int) → Int → (Int → Bool) → Bool
  | [], c, g => g c
  | q :: l, c, g => match iv[q.1]? with
    | some b => (List.range (b.2 - b.1 + 1).toNat).all fun j => ck_all iv l (c + q.2 * (b.1 + (j : Int))) g
    | none => false
/-- all numbers that a form may be -/
def ck_vals (iv : ck_IV) : List (Nat × Int) → Int → List Int
  | [], c => [c]
  | q :: l, c => match iv[q.1]? with
    | some b => (List.range (b.2 - b.1 + 1).toNat).flatMap fun (j : Nat) => ck_vals iv l (c + q.2 * (b.1 + (j : Int)))
    | none => []
/-- the least and the greatest, one behind the other -/
def ck_mml (f : Int → Int × Int) : List Int → Int → Int → Int × Int
  | [], lo, hi => (lo, hi)
  | x :: l, lo, hi => if lo ≤ (f x).1 then (if (f x).2 ≤ hi then ck_mml f l lo hi else ck_mml f l lo (f x).2) else (if (f x).2 ≤ hi then ck_mml f l (f x).1 hi else ck_mml f l (f x).1 (f x).2)
def ck_mm (iv : ck_IV) (f : Int → Int × Int) (t : List (Nat × Int)) (c : Int) (acc : Int × Int) : Int × Int := ck_mml f (ck_vals iv t c) acc.1 acc.2
def ck_TI (t : Nat) (i : Int) : Int × Int := ck_T t i.toNat
def ck_one (iv : ck_IV) (a : ck_A) : Bool := (a.1.all fun q => (iv[q.1]?).isSome) && decide ((a.1.map fun q => match iv[q.1]? with | some b => (b.2 - b.1 + 1).toNat | none => 100000).foldl (· * ·) 1 ≤ 12000)
/-- places of the world that no plain store may touch -/
def ck_grd (i : Int) : Bool := decide (1100 ≤ i) && decide (i < 3700) && (decide ((i - 1100) % 260 = 3) || (decide (4 ≤ (i - 1100) % 260) && decide (((i - 1100) % 260 - 4) % 16 < 2)))
def ck_dv (k : Int) (a : ck_A) : Option ck_A := if a.1.all (fun q => q.2 % k == 0) && a.2 % k == 0 then some (a.1.map (fun q => (q.1, q.2 / k)), a.2 / k) else none
/-- the second number of a statute's row, by its first -/
def ck_row (n : ck_N) (es : List ck_Q) (r K : Nat) (ix : ck_A) : Option (Int × Int) := match ck_f1 es r K (ck_sub ix (ck_c 1)) with
  | some x => if x.1 = 0 ∧ ((ck_lw n x.2.2.2.1 = 0 ∧ ck_hi n x.2.2.2.1 = 0) ∨ (ck_lw n x.2.2.2.1 = 4 ∧ ck_hi n x.2.2.2.1 = 4)) ∧ es.any (fun q => q.1 == 1 && q.2.1 == r && q.2.2.1 == K && q.2.2.2.2.2.1 == 0 && (match ck_dv 260 (ck_sub q.2.2.2.2.1 (ck_c 1103)), ck_dv 16 (ck_sub (ck_sub ix q.2.2.2.2.1) (ck_c 2)) with
      | some S, some L => ck_btw n S 0 9 && ck_btw n L 0 15 && ck_le n (ck_sub (ck_add L (ck_c 1)) q.2.2.2.2.2.2.2.2.1)
      | _, _ => false)) = true then (if ck_lw n x.2.2.2.1 = 0 then some (0, 3) else some (1, 99)) else none
  | none => none
/-- what an element may be -/
def ck_esp (n : ck_N) (es : List ck_Q) (r K : Nat) (k : Nat × Nat × Nat × ck_S) (ix : ck_A) : ck_S := if k.2.2.1 = 0 then k.2.2.2 else match (if k.2.2.1 = 1 then ck_row n es r K ix else none) with
  | some b => (0, b.1, b.2, 0)
  | none => if ck_one n.1 ix = true then (let b := ck_mm n.1 (ck_TI k.2.2.1) ix.1 ix.2 (2147483647, -2147483648); (0, b.1, b.2, 0)) else (0, -2147483648, 2147483647, 0)
/-- what a store costs in counts; none: it may not be -/
def ck_stv (n : ck_N) (es : List ck_Q) (r K : Nat) (k : Nat × Nat × Nat × ck_S) (ix : ck_A) (v : ck_V) : Option Nat := match k.2.2.1 with
  | 0 => if k.2.2.2.1 = 4 then (if v.1 = 0 then (if ck_btw n v.2.2.2.1 0 0 = true then some 0 else match ck_f1 es r K ix with
      | some w => if w.1 = 0 ∧ ck_aeq v.2.2.2.1 (ck_add w.2.2.2.1 (ck_c 1)) = true then some 1 else none
      | none => none) else none) else if ck_fit n v k.2.2.2 = true then some 0 else none
  | 1 => if v.1 = 0 ∧ (let l := ck_lw n v.2.2.2.1; let h := ck_hi n v.2.2.2.1; ck_one n.1 ix && ck_all n.1 ix.1 ix.2 (fun i => let b := ck_TI 1 i; (decide (b.1 ≤ l) || ck_le n (ck_sub (ck_c b.1) v.2.2.2.1)) && (decide (h ≤ b.2) || ck_le n (ck_sub v.2.2.2.1 (ck_c b.2))) && !(ck_grd i))) = true then some 0 else none
  | 3 => if v.1 = 0 ∧ (let l := ck_lw n v.2.2.2.1; let h := ck_hi n v.2.2.2.1; ck_one n.1 ix && ck_all n.1 ix.1 ix.2 (fun i => let b := ck_TI 3 i; (decide (b.1 ≤ l) || ck_le n (ck_sub (ck_c b.1) v.2.2.2.1)) && (decide (h ≤ b.2) || ck_le n (ck_sub v.2.2.2.1 (ck_c b.2))))) = true then some 0 else none
  | _ => none
