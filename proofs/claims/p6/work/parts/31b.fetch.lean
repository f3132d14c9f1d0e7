/-! THE CHECKER: instructions are fetched by pieces where a method is long -/
def ck_fc : List (Nat × List cz_I) → Nat → Option cz_I
  | [], _ => none
  | c :: l, pc => if pc < c.1 then cz_ft2 c.2 pc else ck_fc l pc
def ck_ch334 : List (Nat × List cz_I) := [(358, cz_m334_0), (482, cz_m334_1), (602, cz_m334_2), (730, cz_m334_3), (850, cz_m334_4), (968, cz_m334_5), (1102, cz_m334_6), (1228, cz_m334_7), (1354, cz_m334_8), (1482, cz_m334_9), (1610, cz_m334_10), (1742, cz_m334_11), (1870, cz_m334_12), (1986, cz_m334_13), (2017, cz_m334_14)]
def ck_ft (mi pc : Nat) : Option cz_I := if mi = 334 then ck_fc ck_ch334 pc else cz_ft2 (cz_cd mi) pc
theorem cz_ft2_l {a b : List cz_I} {pc : Nat} {q : cz_I} (h : cz_ft2 a pc = some q) : cz_ft2 (a ++ b) pc = some q := by
  induction a with
  | nil => cases h
  | cons x l ih =>
    unfold cz_ft2 at h
    show (if x.1 = pc then some x else cz_ft2 (l ++ b) pc) = some q
    split at h
    · next e => rw [if_pos e]; exact h
    · next e => rw [if_neg e]; exact ih h
theorem cz_ft2_r {a b : List cz_I} {pc : Nat} (h : ∀ q ∈ a, q.1 ≠ pc) : cz_ft2 (a ++ b) pc = cz_ft2 b pc := by
  induction a with
  | nil => rfl
  | cons x l ih =>
    show (if x.1 = pc then some x else cz_ft2 (l ++ b) pc) = _
    rw [if_neg (h x List.mem_cons_self)]
    exact ih fun q hq => h q (List.mem_cons_of_mem _ hq)
theorem ck_fc_ok {pc : Nat} {q : cz_I} : ∀ {cs : List (Nat × List cz_I)}, (∀ c ∈ cs, c.2.all (fun q => decide (q.1 < c.1)) = true) → ck_fc cs pc = some q → cz_ft2 (cs.map Prod.snd).flatten pc = some q
  | [], _, e => by cases e
  | c :: l, h, e => by
    rw [List.map_cons, List.flatten_cons]
    unfold ck_fc at e
    split at e
    · exact cz_ft2_l e
    · next hn =>
      rw [cz_ft2_r fun q hq => by
        have := of_decide_eq_true (List.all_eq_true.mp (h c List.mem_cons_self) q hq)
        omega]
      exact ck_fc_ok (fun c' hc' => h c' (List.mem_cons_of_mem _ hc')) e
theorem ck_ch334_ok : ck_ch334.all (fun c => c.2.all (fun q => decide (q.1 < c.1))) = true := by decide +kernel
theorem ck_ch334_eq : (ck_ch334.map Prod.snd).flatten = cz_cd 334 := by
  show _ = cz_m334
  unfold ck_ch334 cz_m334
  simp only [List.map_cons, List.map_nil, List.flatten_cons, List.flatten_nil, List.append_nil]
theorem ck_ft_ok {mi pc : Nat} {q : cz_I} (h : ck_ft mi pc = some q) : cz_ft2 (cz_cd mi) pc = some q := by
  unfold ck_ft at h
  split at h
  · next e =>
    subst e
    rw [← ck_ch334_eq]
    exact ck_fc_ok (fun c hc => List.all_eq_true.mp ck_ch334_ok c hc) h
  · exact h
