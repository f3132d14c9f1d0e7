def cz_lin (i : Nat) (c : Cond) : Bool := match lw_tbl[i]? with
  | some d => decide (d = c)
  | none => false
theorem cz_lin_mem {i : Nat} {c : Cond} (h : cz_lin i c = true) : c ∈ lw_tbl := by
  unfold cz_lin at h
  split at h
  · next d hd => rw [← of_decide_eq_true h]; exact List.mem_of_getElem? hd
  · cases h
/-- a method's bytes, as the tables have them -/
def cz_bt (i : Nat) : ByteArray := if i = 334 then code else match tables_1[cz_cx.getD i 0]? with
  | some (.code _ b _ _) => b
  | _ => code
/-- a method's words stand in the tables -/
def cz_okm (i : Nat) : Bool :=
  (match tables_1[cz_cx.getD i 0]? with
    | some (.code y _ n r) => decide (y = cz_yw i) && decide (n = (cz_mf i).2.2.2.2.1) && decide (r = (cz_mf i).2.2.2.2.2)
    | _ => false) && cz_tin (cz_ix.getD i 0) (.initialized (cz_yw i).cls) && decide (cz_on (cz_mf i).1 = (cz_yw i).cls) &&
  plainFor (cz_yw i) && decide ((cz_yw i).cls ≠ "java/lang/invoke/MethodHandle" ∧ (cz_yw i).cls ≠ "java/lang/invoke/VarHandle") && decide ((cz_mf i).2.2.2.2.1 ≤ 80) && decide ((parseMethodDescriptor (cz_yw i).desc).map (fun d => d.parameters.length) = some (cz_np.getD i 0)) &&
  (match cz_kd.getD i 9 with
    | 0 => cz_tin (cz_sx.getD i 0) (.instanceMethod (cz_yw i)) && cz_lin (cz_vx.getD i 0) (.selects (cz_yw i).cls (cz_yw i) (cz_yw i))
    | 1 => cz_tin (cz_sx.getD i 0) (.static (cz_yw i))
    | 2 => cz_tin (cz_sx.getD i 0) (.instanceMethod (cz_yw i)) && decide ((cz_yw i).name = "<init>") && decide ((cz_mf i).2.2.2.2.2 = none)
    | _ => true)
theorem cz_okm_code {i : Nat} (hi : i < 334) (h : cz_okm i = true) : Cond.code (cz_yw i) (cz_bt i) (cz_mf i).2.2.2.2.1 (cz_mf i).2.2.2.2.2 ∈ lw_tbl := by
  unfold cz_okm at h
  simp only [Bool.and_eq_true] at h
  have h1 := h.1.1.1.1.1.1.1
  have h2 : ¬ i = 334 := by omega
  unfold cz_bt
  rw [if_neg h2]
  generalize hz : tables_1[cz_cx.getD i 0]? = z at h1 ⊢
  match z, hz, h1 with
  | some (.code y b n r), hz, h1 =>
    simp only [Bool.and_eq_true, decide_eq_true_eq] at h1
    obtain ⟨⟨rfl, rfl⟩, rfl⟩ := h1
    exact List.mem_append_right _ (List.mem_of_getElem? hz)
def cz_fd4 (q : cz_I) : String × String × String × Bool := (vwCl.getD q.2.2.2.1 (RX0, TX0, 0)).2.1 q.2.2.2.2.toNat
def cz_rt (k : Nat) : FieldType := match k with
  | 0 => .int
  | 1 => .boolean
  | 2 => .char
  | _ => .byte
/-- an instruction's words: by number of the method's class, whether it is a constructor, its answer's type -/
def cz_wq (o : Nat) (ini : Bool) (ret : Option FieldType) (q : cz_I) : Bool := match q.2.1 with
  | .ldc i => if q.2.2.2.1 = 0 then decide ((o, i, 0, q.2.2.2.2) ∈ cz_kk) else if q.2.2.2.1 = 1 then decide ((o, i, q.2.2.2.2.toNat) ∈ cz_sr) else true
  | .ldc_w i => if q.2.2.2.1 = 0 then decide ((o, i, 0, q.2.2.2.2) ∈ cz_kk) else true
  | .ldc2_w i => decide ((o, i, 1, q.2.2.2.2) ∈ cz_kk)
  | .getfield i => if q.2.2.2.1 = 100 then decide ((o, i, if q.2.2.2.2 = 0 then 0 else 1) ∈ cz_fs) else decide ((o, i, q.2.2.2.1, q.2.2.2.2.toNat) ∈ cz_fl)
  | .putfield i => decide ((o, i, q.2.2.2.1, q.2.2.2.2.toNat) ∈ cz_fl) && (!(cz_fd4 q).2.2.2 || (ini && decide ((cz_fd4 q).1 = cz_on o)))
  | .new i => if q.2.2.2.2 = 0 then decide ((o, i, q.2.2.2.1) ∈ cz_nl) && decide (q.2.2.2.1 < 13) else true
  | .anewarray i => decide ((o, i, 20 + q.2.2.2.1) ∈ cz_nl)
  | .invokevirtual i => if 0 < q.2.2.2.2 then decide ((o, i, q.2.2.2.1, 0) ∈ cz_ml) && decide (q.2.2.2.1 < 334) && decide (cz_kd.getD q.2.2.2.1 9 = 0) && decide (q.2.2.2.2.toNat = cz_np.getD q.2.2.2.1 0 + 1) else true
  | .invokestatic i => if q.2.2.2.2 = -5 then decide ((o, i, 0, 5) ∈ cz_ml) else if 0 ≤ q.2.2.2.2 then decide ((o, i, q.2.2.2.1, 1) ∈ cz_ml) && decide (q.2.2.2.1 < 334) && decide (cz_kd.getD q.2.2.2.1 9 = 1) && decide (q.2.2.2.2.toNat = cz_np.getD q.2.2.2.1 0) else true
  | .invokespecial i => if q.2.2.2.2 = -4 then decide ((o, i, 0, 4) ∈ cz_ml) else if 0 < q.2.2.2.2 then (decide ((o, i, q.2.2.2.1, 2) ∈ cz_ml) || decide ((o, i, q.2.2.2.1, 3) ∈ cz_ml)) && decide (q.2.2.2.1 < 334) && decide (cz_kd.getD q.2.2.2.1 9 = 2) && decide (q.2.2.2.2.toNat = cz_np.getD q.2.2.2.1 0 + 1) else true
  | .getstatic i => if q.2.2.2.1 ≤ 1 then decide ((o, i, q.2.2.2.1) ∈ cz_gs) else true
  | .ireturn => decide (ret = some (cz_rt q.2.2.2.1))
  | .lreturn => decide (ret = some .long)
  | .areturn => (match ret with | some (.object _) => true | some (.array _) => true | _ => false)
  | .return_ => decide (ret = none)
  | _ => true
def cz_ini (i : Nat) : Bool := cz_kd.getD i 9 == 2
def cz_ok1 (i : Nat) (q : cz_I) : Bool := decide (decode (cz_bt i) q.1 = .ok (q.2.1, q.2.2.1)) && cz_wq (cz_mf i).1 (cz_ini i) (cz_mf i).2.2.2.2.2 q
def cz_okc2 (a n : Nat) : Bool := (List.range' a n).all (fun i => (cz_cd i).all (cz_ok1 i))
