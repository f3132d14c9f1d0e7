/-! FX: instructions that read or write the heap are told rightly -/
section FXD
variable {E : cz_E} {M : fx_M} {ν0 : List Int} {S0 : fx_S} {h0 : cz_H} {σ : fx_Y} {ν : List Int} {h : cz_H} {n0 : Nat}
def fx_no2 (E : cz_E) (q : cz_I) (cst : List Value) (h : cz_H) : Prop := cz_s2 E q cst h = none ∧ cz_s3 E q cst h = none
def fx_y2 (E : cz_E) (M : fx_M) (ν0 : List Int) (S0 : fx_S) (h0 : cz_H) (q : cz_I) (l : List fx_R) (clv : cz_LV) (cst : List Value) (h : cz_H) (n0 : Nat) (σ : fx_Y) (ν : List Int) : Prop := ∃ r ∈ l, ∃ ν' cst' h' n0', fx_ok2 E σ ν h n0 r.2.2.2 ν' h' n0' ∧ cz_s2 E q cst h = some (r.1, cst', h') ∧ fx_Q E M ν0 S0 h0 r ν' clv cst' h' n0'
theorem fx_ofF {q k : Nat} {c : cz_C} (e : h[q]? = some c) : (fx_of E h).1 (q : Int) (k : Int) = fx_cI (some c) k := by
  show (if 0 ≤ (q : Int) ∧ 0 ≤ (k : Int) then fx_cI h[(q : Int).toNat]? (k : Int).toNat else 0) = _
  rw [if_pos ⟨Int.natCast_nonneg _, Int.natCast_nonneg _⟩, Int.toNat_natCast, Int.toNat_natCast, e]
theorem fx_ofR {q k : Nat} {c : cz_C} (e : h[q]? = some c) : (fx_of E h).2.1 (q : Int) (k : Int) = fx_cR E.1 (some c) k := by
  show (if 0 ≤ (q : Int) ∧ 0 ≤ (k : Int) then fx_cR E.1 h[(q : Int).toNat]? (k : Int).toNat else -1) = _
  rw [if_pos ⟨Int.natCast_nonneg _, Int.natCast_nonneg _⟩, Int.toNat_natCast, Int.toNat_natCast, e]
theorem fx_i32 (x : Int32) : -2147483648 ≤ x.toInt ∧ x.toInt ≤ 2147483647 := by
  have h1 := Int32.le_toInt x
  have h2 := Int32.toInt_lt x
  omega
theorem fx_i64 (x : Int64) : -9223372036854775808 ≤ x.toInt ∧ x.toInt ≤ 9223372036854775807 := by
  have h1 := Int64.le_toInt x
  have h2 := Int64.toInt_lt x
  omega
theorem fx_in {z : Int32} {n : Nat} (h : cz_in z n = true) : 0 ≤ z.toInt ∧ z.toInt < n ∧ ((z.toNatClampNeg : Nat) : Int) = z.toInt := by
  obtain ⟨h1, h2⟩ := Bool.and_eq_true_iff.mp h
  have h1 := of_decide_eq_true h1
  have h2 := of_decide_eq_true h2
  have h3 : ¬ z.toInt < 0 := fun w => h1 (Int32.lt_iff_toInt_lt.mpr w)
  have h4 : ((z.toNatClampNeg : Nat) : Int) = z.toInt := by
    show ((z.toInt.toNat : Nat) : Int) = z.toInt
    omega
  omega
theorem fx_Q.psh {pc : Nat} {lv : fx_L} {r : List fx_V} {s : fx_V} {v : Value} {clv : cz_LV} {cr : List Value} {e : fx_Ev} {z : Int} {τ : fx_Y} (J : fx_J E M ν0 S0 h0 τ ν h n0) (hτ : τ.2.1 = σ.2.1) (hd : ∀ K, fx_d1 M e ν (fx_of E h) K → K (ν ++ [z]) (fx_of E h)) (L : fx_LR (fx_P E h n0 σ ν) lv clv) (S : fx_SR (fx_P E h n0 σ ν) r cr) (hs : fx_vr E h n0 σ.2.1 (ν ++ [z]) s v) : fx_Q E M ν0 S0 h0 (pc, lv, s :: r, fx_pu τ e) (ν ++ [z]) clv (v :: cr) h n0 := by
  have up : ∀ s v, fx_vr E h n0 σ.2.1 ν s v → fx_vr E h n0 τ.2.1 (ν ++ [z]) s v := fun s v r => by
    rw [hτ]
    exact fx_vr_ext (fx_ext_rf h) (Nat.le_refl _) (fun _ _ f _ _ _ => .inr f) r
  exact ⟨J.push hd, L.imp up, (show fx_vr E h n0 τ.2.1 (ν ++ [z]) s v by rw [hτ]; exact hs), S.imp up⟩
theorem fx_psh_up {z : Int} {e : fx_Ev} {τ : fx_Y} (hτ : τ.2.1 = σ.2.1) : fx_ok2 E σ ν h n0 (fx_pu τ e) (ν ++ [z]) h n0 := fun s v r => by
  show fx_vr E h n0 τ.2.1 (ν ++ [z]) s v
  rw [hτ]
  exact fx_vr_ext (fx_ext_rf h) (Nat.le_refl _) (fun _ _ f _ _ _ => .inr f) r
theorem fx_same_up {τ : fx_Y} (hτ : τ.2.1 = σ.2.1) : fx_ok2 E σ ν h n0 τ ν h n0 := fun s v r => by
  show fx_vr E h n0 τ.2.1 ν s v
  rw [hτ]
  exact r
theorem fx_Q.same {pc : Nat} {lv : fx_L} {st : List fx_V} {clv : cz_LV} {cst : List Value} {τ : fx_Y} (J : fx_J E M ν0 S0 h0 τ ν h n0) (hτ : τ.2.1 = σ.2.1) (L : fx_LR (fx_P E h n0 σ ν) lv clv) (S : fx_SR (fx_P E h n0 σ ν) st cst) : fx_Q E M ν0 S0 h0 (pc, lv, st, τ) ν clv cst h n0 := by
  have up : ∀ s v, fx_vr E h n0 σ.2.1 ν s v → fx_vr E h n0 τ.2.1 ν s v := fun s v r => by rw [hτ]; exact r
  exact ⟨J, L.imp up, S.imp up⟩
/-- an element is read -/
theorem fx_rd_ok {t c pc : Nat} {i : fx_O} {s : fx_V} {lv : fx_L} {r : List fx_V} {l : List fx_R} {clv : cz_LV} {cr : List Value} {z : Int32} {q tc n : Nat} {w v : Value} {y : (Nat → Int32) ⊕ (Nat → Int64) ⊕ (Nat → UInt32) ⊕ (Nat → UInt64) ⊕ (Nat → Option Nat)} (e : fx_rd t c i s pc lv r σ = some l) (J : fx_J E M ν0 S0 h0 σ ν h n0) (L : fx_LR (fx_P E h n0 σ ν) lv clv) (S : fx_SR (fx_P E h n0 σ ν) r cr) (hs : fx_P E h n0 σ ν s w) (hw : w = .ref (E.1 + q)) (hz : z.toInt = fx_o ν i) (hq : h[q]? = some (.inl (tc, n, y))) (hin : cz_in z n = true) (hv : (t = 0 ∧ ∃ x : Int32, v = .int x ∧ x.toInt = fx_cI (some (.inl (tc, n, y))) z.toNatClampNeg) ∨ (t = 1 ∧ ∃ x : Int64, v = .long x ∧ x.toInt = fx_cI (some (.inl (tc, n, y))) z.toNatClampNeg)) (hc : (fx_rl c).1 ≤ fx_cI (some (.inl (tc, n, y))) z.toNatClampNeg ∧ fx_cI (some (.inl (tc, n, y))) z.toNatClampNeg ≤ (fx_rl c).2) : ∃ r' ∈ l, r'.1 = pc ∧ ∃ ν', fx_ok2 E σ ν h n0 r'.2.2.2 ν' h n0 ∧ fx_Q E M ν0 S0 h0 r' ν' clv (v :: cr) h n0 := by
  obtain ⟨p, hp, e1⟩ := cz_so_some e
  cases e1
  obtain ⟨i0, i1, i2⟩ := fx_in hin
  rcases fx_pl_ok J hs hp with hN | ⟨q', a1, a2, a3, a4, a5, a6, a7, a8, a9, a10⟩
  · rw [hw] at hN; cases hN
  · have : q' = q := by
      rw [hw] at a1
      exact (Nat.add_left_cancel (Value.ref.inj a1)).symm
    subst this
    obtain ⟨b1, b2, b3⟩ := fx_bd_ok (o := i) a6 hq a5 (by rw [← hz]; exact i0) (by rw [← hz]; exact i1)
    have hF : (fx_of E h).1 (fx_o ν p.1) (fx_o ν i) = fx_cI (some (.inl (tc, n, y))) z.toNatClampNeg := by rw [← a2, ← hz, ← i2]; exact fx_ofF hq
    refine ⟨_, List.mem_singleton.mpr rfl, rfl, ν ++ [fx_cI (some (.inl (tc, n, y))) z.toNatClampNeg], fx_psh_up (b3.trans a7), fx_Q.psh b1 (b3.trans a7) (fun K hK => ?_) L S ?_⟩
    · have hK : (fx_rl c).1 ≤ (fx_of E h).1 (fx_o ν p.1) (fx_o ν i) → (fx_of E h).1 (fx_o ν p.1) (fx_o ν i) ≤ (fx_rl c).2 → K (ν ++ [(fx_of E h).1 (fx_o ν p.1) (fx_o ν i)]) (fx_of E h) := hK
      rw [hF] at hK
      exact hK hc.1 hc.2
    · have hl : (fx_bd i s.2.2 p.2).1 + 1 ≤ (ν ++ [fx_cI (some (.inl (tc, n, y))) z.toNatClampNeg]).length := by rw [b2, a8, List.length_append, J.1]; exact Nat.le_refl _
      have hn : fx_o (ν ++ [fx_cI (some (.inl (tc, n, y))) z.toNatClampNeg]) ((fx_bd i s.2.2 p.2).1 + 1, 0) = fx_cI (some (.inl (tc, n, y))) z.toNatClampNeg := fx_o_new (by rw [b2, a8]; exact J.1)
      rcases hv with ⟨rfl, x, rfl, hx⟩ | ⟨rfl, x, rfl, hx⟩
      · exact ⟨hl, x, rfl, hx.trans hn.symm⟩
      · exact ⟨hl, x, rfl, hx.trans hn.symm⟩
/-- an element is written -/
theorem fx_wr_ok {pc : Nat} {v i : fx_O} {s : fx_V} {lv : fx_L} {r : List fx_V} {l : List fx_R} {clv : cz_LV} {cr : List Value} {z : Int32} {q tc n : Nat} {w : Value} {y y' : (Nat → Int32) ⊕ (Nat → Int64) ⊕ (Nat → UInt32) ⊕ (Nat → UInt64) ⊕ (Nat → Option Nat)} (e : fx_wr v i s pc lv r σ = some l) (J : fx_J E M ν0 S0 h0 σ ν h n0) (L : fx_LR (fx_P E h n0 σ ν) lv clv) (S : fx_SR (fx_P E h n0 σ ν) r cr) (hs : fx_P E h n0 σ ν s w) (hw : w = .ref (E.1 + q)) (hz : z.toInt = fx_o ν i) (hq : h[q]? = some (.inl (tc, n, y))) (hin : cz_in z n = true) (hI : ∀ j, fx_cI (some (.inl (tc, n, y'))) j = if j = z.toNatClampNeg then fx_o ν v else fx_cI (some (.inl (tc, n, y))) j) (hR : ∀ j, fx_cR E.1 (some (.inl (tc, n, y'))) j = fx_cR E.1 (some (.inl (tc, n, y))) j) (hA : fx_ar E (h.set q (.inl (tc, n, y'))) n0 tc y') : ∃ r' ∈ l, r'.1 = pc ∧ ∃ ν', fx_ok2 E σ ν h n0 r'.2.2.2 ν' (h.set q (.inl (tc, n, y'))) n0 ∧ fx_Q E M ν0 S0 h0 r' ν' clv cr (h.set q (.inl (tc, n, y'))) n0 := by
  obtain ⟨p, hp, e1⟩ := cz_so_some e
  cases e1
  obtain ⟨i0, i1, i2⟩ := fx_in hin
  rcases fx_pl_ok J hs hp with hN | ⟨q', a1, a2, a3, a4, a5, a6, a7, a8, a9, a10⟩
  · rw [hw] at hN; cases hN
  · have : q' = q := by
      rw [hw] at a1
      exact (Nat.add_left_cancel (Value.ref.inj a1)).symm
    subst this
    obtain ⟨b1, b2, b3⟩ := fx_bd_ok (o := i) a6 hq a5 (by rw [← hz]; exact i0) (by rw [← hz]; exact i1)
    have sm : fx_sm (.inl (tc, n, y)) (.inl (tc, n, y')) := ⟨rfl, rfl⟩
    have hτ : (fx_bd i s.2.2 p.2).2.1 = σ.2.1 := b3.trans a7
    have hO := fx_of_set (E := E) hq hI hR
    have U : fx_ok2 E σ ν h n0 (fx_ad (fx_bd i s.2.2 p.2) (4, 0, [p.1, i, v])) ν (h.set q' (.inl (tc, n, y'))) n0 := by
      intro s9 v9 r9
      have r9 : fx_vr E h n0 σ.2.1 ν s9 v9 := r9
      rw [← hτ] at r9
      exact fx_P.set hq sm r9
    refine ⟨_, List.mem_singleton.mpr rfl, rfl, ν, U, b1.write hq sm hA (fun ci gs gs' hc => by cases hc) (fun K hK => ?_), L.imp U, S.imp U⟩
    · have hK : K ν (fx_up (fx_of E h).1 (fx_o ν p.1) (fx_o ν i) (fx_o ν v), (fx_of E h).2) := hK
      rw [hO, i2, a2, hz]
      exact hK
theorem fx_upI {f : Nat → Int32} {i : Nat} {x : Int32} {tc n : Nat} {z : Int} (hx : x.toInt = z) (j : Nat) : fx_cI (some (.inl (tc, n, .inl (upd f i x)))) j = if j = i then z else fx_cI (some (.inl (tc, n, .inl f))) j := by
  show (if j = i then x else f j).toInt = if j = i then z else (f j).toInt
  split
  · exact hx
  · rfl
theorem fx_nar_rng (x : Int32) : (-128 ≤ (vp_nar (cz_ty 1) x).toInt ∧ (vp_nar (cz_ty 1) x).toInt ≤ 127) ∧ (0 ≤ (vp_nar (cz_ty 3) x).toInt ∧ (vp_nar (cz_ty 3) x).toInt ≤ 65535) ∧ (0 ≤ (vp_nar (cz_ty 4) x).toInt ∧ (vp_nar (cz_ty 4) x).toInt ≤ 1) := by
  refine ⟨?_, ?_, ?_⟩
  · show -128 ≤ (x.toInt8.toInt32).toInt ∧ (x.toInt8.toInt32).toInt ≤ 127
    rw [Int8.toInt_toInt32]
    have h1 := Int8.le_toInt x.toInt8
    have h2 := Int8.toInt_lt x.toInt8
    omega
  · show 0 ≤ (x.toUInt32.toUInt16.toUInt32.toInt32).toInt ∧ (x.toUInt32.toUInt16.toUInt32.toInt32).toInt ≤ 65535
    have h1 : (x.toUInt32.toUInt16.toUInt32).toNat < 65536 := by
      rw [UInt16.toNat_toUInt32]
      exact UInt16.toNat_lt _
    have h2 : (x.toUInt32.toUInt16.toUInt32.toInt32).toInt = ((x.toUInt32.toUInt16.toUInt32).toNat : Int) := by
      show (x.toUInt32.toUInt16.toUInt32.toBitVec).toInt = _
      rw [BitVec.toInt_eq_toNat_of_lt]
      · rfl
      · show 2 * (x.toUInt32.toUInt16.toUInt32).toNat < 2 ^ 32
        omega
    omega
  · show 0 ≤ (x &&& 1).toInt ∧ (x &&& 1).toInt ≤ 1
    have h1 : ((x &&& 1).toBitVec).toNat < 2 := by
      show (x.toBitVec &&& 1#32).toNat < 2
      rw [BitVec.toNat_and]
      show (x.toBitVec.toNat &&& 1) < 2
      rw [Nat.and_one_is_mod]
      omega
    have h2 : (x &&& 1).toInt = ((x &&& 1).toBitVec.toNat : Int) := BitVec.toInt_eq_toNat_of_lt (by omega)
    omega
theorem fx_nv_ok {tc : Nat} {v : fx_O} {x : Int32} {lv : fx_L} {clv : cz_LV} {st : List fx_V} {cst : List Value} (htc : tc = 1 ∨ tc = 3 ∨ tc = 4) (J : fx_J E M ν0 S0 h0 σ ν h n0) (L : fx_LR (fx_P E h n0 σ ν) lv clv) (S : fx_SR (fx_P E h n0 σ ν) st cst) (hx : x.toInt = fx_o ν v) : ∃ δ, fx_ok2 E σ ν h n0 (fx_nv tc v σ).1 (ν ++ δ) h n0 ∧ fx_J E M ν0 S0 h0 (fx_nv tc v σ).1 (ν ++ δ) h n0 ∧ fx_LR (fx_P E h n0 (fx_nv tc v σ).1 (ν ++ δ)) lv clv ∧ fx_SR (fx_P E h n0 (fx_nv tc v σ).1 (ν ++ δ)) st cst ∧ (vp_nar (cz_ty tc) x).toInt = fx_o (ν ++ δ) (fx_nv tc v σ).2 := by
  have hb : fx_b (20 + tc) (fx_o ν v) 0 = (vp_nar (cz_ty tc) x).toInt := by
    rw [← hx]
    rcases htc with rfl | rfl | rfl
    · show (vp_nar (cz_ty 1) (Int32.ofInt x.toInt)).toInt = _; rw [fx_ofI]
    · show (vp_nar (cz_ty 3) (Int32.ofInt x.toInt)).toInt = _; rw [fx_ofI]
    · show (vp_nar (cz_ty 4) (Int32.ofInt x.toInt)).toInt = _; rw [fx_ofI]
  unfold fx_nv
  split
  · next hk =>
    refine ⟨[], ?_, ?_, ?_, ?_, ?_⟩
    · rw [List.append_nil]; exact fun _ _ r => r
    · rw [List.append_nil]; exact J
    · rw [List.append_nil]; exact L
    · rw [List.append_nil]; exact S
    · rw [fx_k_ok hk] at hx
      show _ = (vp_nar (cz_ty tc) (Int32.ofInt v.2)).toInt
      rw [← hx, fx_ofI]
  · refine ⟨[fx_b (20 + tc) (fx_o ν v) 0], fun _ _ => fx_P.up, J.push (fun K hK => hK), L.imp (fun s v => fx_P.up), S.imp (fun s v => fx_P.up), ?_⟩
    rw [← hb]
    exact (fx_o_new J.1).symm
theorem fx_ir_some {α : Type} {st : List fx_V} {k : fx_O → fx_V → List fx_V → Option α} {r : α} (h : fx_ir st k = some r) : ∃ i s l, st = i :: s :: l ∧ i.1 = 0 ∧ k i.2.1 s l = some r := by
  unfold fx_ir at h
  split at h
  · split at h
    · next e => exact ⟨_, _, _, rfl, e, h⟩
    · cases h
  · cases h
theorem fx_vr3_some {α : Type} {st : List fx_V} {k : fx_V → fx_O → fx_V → List fx_V → Option α} {r : α} (h : fx_vr3 st k = some r) : ∃ v i s l, st = v :: i :: s :: l ∧ i.1 = 0 ∧ k v i.2.1 s l = some r := by
  unfold fx_vr3 at h
  split at h
  · split at h
    · next e => exact ⟨_, _, _, _, rfl, e, h⟩
    · cases h
  · cases h
end FXD
