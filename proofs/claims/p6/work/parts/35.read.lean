/-! THE CHECKER IS SOUND: what is read fits, what fits may be written -/
def ck_J (E : cz_E) (Γ : ck_G) (B : Int) (ρ : List Int) (n : ck_N) (st : List ck_V) (es : List ck_Q) (cst : List Value) (h : cz_H) : Prop := ρ.length = n.1.length ∧ ck_HT E B Γ h ∧ (∀ σ, ck_nok n (ρ ++ σ)) ∧ ck_Ls (ck_Ds E Γ ρ) st cst ∧ ck_Ms E Γ h ρ es
theorem ck_Ds_app {E : cz_E} {Γ : ck_G} {ρ : List Int} (ρ2 : List Int) {v : ck_V} {x : Value} (h : ck_Ds E Γ ρ v x) : ck_Ds E Γ (ρ ++ ρ2) v x := fun σ => by rw [List.append_assoc]; exact h _
theorem ck_Ms_app {E : cz_E} {Γ : ck_G} {h : cz_H} {ρ : List Int} (ρ2 : List Int) {es : List ck_Q} (hm : ck_Ms E Γ h ρ es) : ck_Ms E Γ h (ρ ++ ρ2) es := fun q hq σ => by rw [List.append_assoc]; exact hm q hq _
theorem cz_at_add {E : cz_E} {h : cz_H} {p : Nat} : cz_at E h (E.1 + p) = h[p]? := by
  unfold cz_at
  rw [if_pos (Nat.le_add_right _ _), Nat.add_sub_cancel_left]
theorem cz_fd_of {f : Nat → Nat} : ∀ {n k : Nat}, k < n → (∀ i j : Nat, i < n → j < n → f i = f j → i = j) → cz_fd f (f k) n = some k
  | 0, _, h, _ => by omega
  | n + 1, k, h, hi => by
    unfold cz_fd
    by_cases hk : k = n
    · subst hk
      have : cz_fd f (f k) k = none := by
        cases e : cz_fd f (f k) k with
        | none => rfl
        | some j =>
          obtain ⟨a, b⟩ := cz_fd_some e
          have := hi j k (by omega) (by omega) b
          omega
      rw [this]
      simp
    · rw [cz_fd_of (show k < n by omega) fun i j a b e => hi i j (by omega) (by omega) e]
theorem cz_fd_no {f : Nat → Nat} {a n : Nat} (h : ∀ i : Nat, i < n → f i ≠ a) : cz_fd f a n = none := by
  cases e : cz_fd f a n with
  | none => rfl
  | some j =>
    obtain ⟨b, c⟩ := cz_fd_some e
    exact absurd c (h j b)
section CKR
variable {E : cz_E} {Γ : ck_G} {B : Int} {h : cz_H} {ρ : List Int} {n : ck_N} {es : List ck_Q} {v : ck_V} {x : Value} {s : ck_S}
theorem ck_newroot {b : Int × Int} {w : Int} (hl : ρ.length = n.1.length) (hn : ∀ σ, ck_nok n (ρ ++ σ)) (hw : b.1 ≤ w ∧ w ≤ b.2) : (ρ ++ [w]).length = (ck_new n b).1.length ∧ ∀ σ, ck_nok (ck_new n b) ((ρ ++ [w]) ++ σ) ∧ ((ρ ++ [w]) ++ σ).getD n.1.length 0 = w := by
  have hg : ∀ σ : List Int, ((ρ ++ [w]) ++ σ).getD n.1.length 0 = w := by
    intro σ
    rw [List.append_assoc, ← hl]
    simp [List.getD]
  exact ⟨by simp [ck_new, hl], fun σ => ⟨ck_new_ok (by rw [List.append_assoc]; exact hn _) (by rw [hg]; exact hw), hg σ⟩⟩
theorem ck_sv_ok (hl : ρ.length = n.1.length) (hn : ∀ σ, ck_nok n (ρ ++ σ)) (hB : B ≤ ck_BM) (hH : (Γ.length : Int) ≤ ck_HM) {p : ck_N × ck_V} (e : ck_sv n s = some p) (hv : ck_vs E B Γ s x) : ck_Y E Γ ρ p.1 p.2 x := by
  have hr : ∀ {a k : Nat}, ck_is E Γ a k → ∃ w : Nat, a = E.1 + w ∧ (0 : Int) ≤ w ∧ (w : Int) ≤ ck_HM := by
    intro a k hi
    obtain ⟨h1, m, h2, -⟩ := hi
    have := (List.getElem?_eq_some_iff.mp h2).1
    exact ⟨a - E.1, by omega, by omega, by omega⟩
  unfold ck_sv at e
  unfold ck_vs at hv
  split at e
  · next t =>
    rw [t] at hv
    obtain ⟨z, rfl, b1, b2⟩ := hv
    cases e
    split
    · next e1 => exact ck_cst hl hn (by omega)
    · exact ck_fr_ok hl hn ⟨b1, b2⟩
  · next t =>
    rw [t] at hv
    obtain ⟨z, rfl⟩ := hv
    cases e
    exact ck_frl_ok hl hn z
  · next t =>
    rw [t] at hv
    obtain ⟨a, rfl, hi⟩ := hv
    obtain ⟨w, rfl, w1, w2⟩ := hr hi
    cases e
    obtain ⟨g1, g2⟩ := ck_newroot (b := (0, ck_HM)) (w := (w : Int)) hl hn ⟨w1, w2⟩
    exact ⟨[(w : Int)], g1, fun σ => ⟨(g2 σ).1, E.1 + w, rfl, by
      show ((E.1 + w : Nat) : Int) = (E.1 : Int) + List.getD _ n.1.length 0
      rw [(g2 σ).2]
      push_cast
      rfl, hi⟩⟩
  · next t =>
    rw [t] at hv
    rcases hv with rfl | ⟨a, rfl, hi⟩
    · cases e
      obtain ⟨g1, g2⟩ := ck_newroot (b := (-1, ck_HM)) (w := -1) hl hn ⟨Int.le_refl _, by unfold ck_HM; decide⟩
      exact ⟨[-1], g1, fun σ => ⟨(g2 σ).1, Or.inl ⟨rfl, (g2 σ).2⟩⟩⟩
    · obtain ⟨w, rfl, w1, w2⟩ := hr hi
      cases e
      obtain ⟨g1, g2⟩ := ck_newroot (b := (-1, ck_HM)) (w := (w : Int)) hl hn ⟨by show (-1 : Int) ≤ w; omega, w2⟩
      exact ⟨[(w : Int)], g1, fun σ => ⟨(g2 σ).1, Or.inr ⟨E.1 + w, rfl, by
        show ((E.1 + w : Nat) : Int) = (E.1 : Int) + List.getD _ n.1.length 0
        rw [(g2 σ).2]
        push_cast
        rfl, hi⟩⟩⟩
  · next t =>
    rw [t] at hv
    obtain ⟨z, rfl, b1, b2⟩ := hv
    cases e
    exact ck_fr_ok hl hn ⟨b1, Int.le_trans b2 hB⟩
  · cases e
theorem ck_fit_ok (hn : ck_nok n ρ) (hv : ck_D E Γ ρ v x) (e : ck_fit n v s = true) : ck_vs E B Γ s x := by
  unfold ck_fit at e
  unfold ck_vs
  split at e
  · next t =>
    rw [t]
    simp only [Bool.and_eq_true, beq_iff_eq] at e
    obtain ⟨z, e1, e2⟩ := ck_D_i hv e.1
    refine ⟨z, e1, ?_⟩
    have hr := ck_range z
    unfold ck_i32 at hr
    rcases Bool.or_eq_true_iff.mp e.2 with h1 | h1
    · simp only [Bool.and_eq_true, decide_eq_true_eq] at h1
      omega
    · have := ck_btw_ok hn h1
      rw [← e2] at this
      exact this
  · next t =>
    rw [t]
    obtain ⟨z, e1, -⟩ := ck_D_l hv (by simpa using e)
    exact ⟨z, e1⟩
  · next t =>
    rw [t]
    simp only [Bool.and_eq_true, beq_iff_eq] at e
    obtain ⟨p, e1, e2, m, e3, e4⟩ := ck_D3 hv e.1
    refine ⟨E.1 + p, e1, Nat.le_add_right _ _, m, ?_, ?_⟩
    · rw [Nat.add_sub_cancel_left, ← e.2]
      exact e3
    · rw [← e.2]
      exact e4
  · next t =>
    rw [t]
    simp only [Bool.or_eq_true, Bool.and_eq_true, beq_iff_eq] at e
    rcases e with e | ⟨e, ek⟩
    · unfold ck_D at hv
      rw [e] at hv
      exact Or.inl hv
    · have : x = .null ∨ ∃ p : Nat, x = .ref (E.1 + p) ∧ (p : Int) = ρ.getD v.2.1 0 ∧ ∃ m : Nat, Γ[p]? = some (v.2.2.1, m) ∧ ck_full v.2.2.1 m = true := by
        rcases e with e | e
        · exact Or.inr (ck_D3 hv e)
        · rcases ck_D4 hv e with ⟨h1, -⟩ | h1
          · exact Or.inl h1
          · exact Or.inr h1
      rcases this with h1 | ⟨p, e1, e2, m, e3, e4⟩
      · exact Or.inl h1
      · refine Or.inr ⟨E.1 + p, e1, Nat.le_add_right _ _, m, ?_, ?_⟩
        · rw [Nat.add_sub_cancel_left, ← ek]
          exact e3
        · rw [← ek]
          exact e4
  · cases e
theorem ck_01 {z : Int32} (h0 : 0 ≤ z.toInt) (h1 : z.toInt ≤ 1) : z = 0 ∨ z = 1 := by
  rcases (show z.toInt = 0 ∨ z.toInt = 1 by omega) with e | e
  · exact Or.inl (Int32.toInt_inj.mp (e.trans rfl))
  · exact Or.inr (Int32.toInt_inj.mp (e.trans rfl))
theorem ck_fto_ok {ty : FieldType} (e : ck_fto ty s = true) (hv : ck_vs E B Γ s x) : narrow ty x = x ∧ fits ty x = true := by
  unfold ck_fto at e
  unfold ck_vs at hv
  have href : s.1 = 2 ∨ s.1 = 3 → x = .null ∨ ∃ a, x = .ref a := by
    intro t
    rcases t with t | t
    · rw [t] at hv
      obtain ⟨a, e, -⟩ := hv
      exact Or.inr ⟨a, e⟩
    · rw [t] at hv
      rcases hv with e | ⟨a, e, -⟩
      · exact Or.inl e
      · exact Or.inr ⟨a, e⟩
  split at e
  · have t : s.1 = 0 := by simpa using e
    rw [t] at hv
    obtain ⟨z, rfl, -⟩ := hv
    exact ⟨rfl, rfl⟩
  · simp only [Bool.and_eq_true, beq_iff_eq, decide_eq_true_eq] at e
    rw [e.1.1] at hv
    obtain ⟨z, rfl, b1, b2⟩ := hv
    rcases ck_01 (z := z) (by omega) (by omega) with rfl | rfl
    · exact ⟨rfl, rfl⟩
    · exact ⟨rfl, rfl⟩
  · have t : s.1 = 1 := by simpa using e
    rw [t] at hv
    obtain ⟨z, rfl⟩ := hv
    exact ⟨rfl, rfl⟩
  · rcases href (by simpa using e) with rfl | ⟨a, rfl⟩ <;> exact ⟨rfl, rfl⟩
  · rcases href (by simpa using e) with rfl | ⟨a, rfl⟩ <;> exact ⟨rfl, rfl⟩
  · cases e
/-- an object of a kind, found -/
theorem ck_obj (t : ck_HT E B Γ h) {p ci m k : Nat} (hg : Γ[p]? = some (ci, m)) (hs : ck_fs ci k = some s) : ∃ vs y, h[p]? = some (.inr (ci, vs)) ∧ vs[k]? = some y ∧ (m.testBit k = true → ck_vs E B Γ s y) ∧ ∃ o : Nat × List ck_S, ck_kt[ci]? = some (.inl o) ∧ o.2[k]? = some s ∧ vs.length = o.2.length ∧ ∀ (j : Nat) (s' : ck_S) (v : Value), o.2[j]? = some s' → vs[j]? = some v → m.testBit j = true → ck_vs E B Γ s' v := by
  unfold ck_fs at hs
  split at hs
  · next o ho =>
    split at hs
    · next e1 =>
      have hl : p < h.length := by rw [← t.1]; exact (List.getElem?_eq_some_iff.mp hg).1
      have hc := t.2 p _ _ hg (List.getElem?_eq_getElem hl)
      unfold ck_cell at hc
      simp only [ho] at hc
      obtain ⟨vs, c1, c2, c3⟩ := hc
      have hk : k < vs.length := by rw [c2]; exact (List.getElem?_eq_some_iff.mp hs).1
      refine ⟨vs, vs[k], by rw [List.getElem?_eq_getElem hl, c1, e1], List.getElem?_eq_getElem hk, fun b => c3 k s _ hs (List.getElem?_eq_getElem hk) b, o, ho, hs, c2, c3⟩
    · cases hs
  · cases hs
theorem ck_full_bit {ci m k : Nat} (hs : ck_fs ci k = some s) (hf : ck_full ci m = true) : m.testBit k = true := by
  unfold ck_fs at hs
  unfold ck_full at hf
  split at hs
  · next o ho =>
    rw [ho] at hf
    split at hs
    · exact List.all_eq_true.mp hf k (List.mem_range.mpr (List.getElem?_eq_some_iff.mp hs).1)
    · cases hs
  · cases hs
/-- an array of a kind, found -/
theorem ck_arr (t : ck_HT E B Γ h) {p K m : Nat} {k : Nat × Nat × Nat × ck_S} (hg : Γ[p]? = some (K, m)) (hk : ck_ak K = some k) : ∃ y, h[p]? = some (.inl (k.1, k.2.1, y)) ∧ ck_sh k.1 y ∧ ck_rw k.2.2.1 y ∧ ∀ i : Nat, i < k.2.1 → ck_vs E B Γ (ck_es k.2.2.1 k.2.2.2 i) (ck_el y i) := by
  unfold ck_ak at hk
  split at hk
  · next r hr =>
    cases hk
    have hl : p < h.length := by rw [← t.1]; exact (List.getElem?_eq_some_iff.mp hg).1
    have hc := t.2 p _ _ hg (List.getElem?_eq_getElem hl)
    unfold ck_cell at hc
    simp only [hr] at hc
    obtain ⟨y, c1, c2⟩ := hc
    exact ⟨y, by rw [List.getElem?_eq_getElem hl, c1], c2⟩
  · cases hk
end CKR
