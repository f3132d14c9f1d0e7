/-! THE CHECKER IS SOUND: matching -/
theorem ck_gl {τ σ : List Int} {i : Nat} (h : i < τ.length) : (τ ++ σ).getD i 0 = τ.getD i 0 := by
  rw [List.getD_eq_getElem?_getD, List.getD_eq_getElem?_getD, List.getElem?_append_left h]
theorem ck_gr {τ σ : List Int} {w : Int} : ((τ ++ [w]) ++ σ).getD τ.length 0 = w := by
  rw [List.append_assoc]
  simp [List.getD]
def ck_TH (ρ : List Int) (θ : List ck_A) (τ : List Int) : Prop := τ.length = θ.length ∧ ∀ (i : Nat) (a : ck_A), θ[i]? = some a → ∀ σ, ck_ev (ρ ++ σ) a = τ.getD i 0
theorem ck_rt_ok : ∀ {a : ck_A} {r : Nat}, ck_rt a = some r → ∀ ρ : List Int, ck_ev ρ a = ρ.getD r 0
  | ([q], c), r, e, ρ => by
    have e : (if q.2 = 1 ∧ c = 0 then some q.1 else none) = some r := e
    split at e
    · next h =>
      cases e
      show (q.2 * ρ.getD q.1 0 + 0) + c = _
      rw [h.1, h.2]
      omega
    · cases e
  | ([], c), r, e, _ => by cases e
  | (_ :: _ :: _, c), r, e, _ => by cases e
section CKT
variable {E : cz_E} {Γ : ck_G} {ρ τ : List Int} {θ θ1 : List ck_A} {n : ck_N} {es : List ck_Q} {h : cz_H}
theorem ck_TH.app {a : ck_A} {w : Int} (H : ck_TH ρ θ τ) (hw : ∀ σ, ck_ev (ρ ++ σ) a = w) : ck_TH ρ (θ ++ [a]) (τ ++ [w]) := by
  refine ⟨by simp [H.1], fun i b e σ => ?_⟩
  by_cases hi : i < θ.length
  · rw [List.getElem?_append_left hi] at e
    rw [ck_gl (by rw [H.1]; exact hi)]
    exact H.2 i b e σ
  · have hl := (List.getElem?_eq_some_iff.mp e).1
    simp only [List.length_append, List.length_singleton] at hl
    have hi2 : i = θ.length := by omega
    subst hi2
    rw [List.getElem?_append_right (Nat.le_refl _), Nat.sub_self, List.getElem?_cons_zero] at e
    cases e
    rw [hw σ]
    have := ck_gr (τ := τ) (σ := []) (w := w)
    rw [List.append_nil, H.1] at this
    exact this.symm
theorem ck_TH.at (H : ck_TH ρ θ τ) {i : Nat} (hi : i < θ.length) (σ : List Int) : ck_ev (ρ ++ σ) (θ.getD i (ck_c 0)) = τ.getD i 0 := by
  have e : θ.getD i (ck_c 0) = θ[i] := by
    rw [List.getD_eq_getElem?_getD, List.getElem?_eq_getElem hi]
    rfl
  rw [e]
  exact H.2 i _ (List.getElem?_eq_getElem hi) σ
theorem ck_sbt_ev (H : ck_TH ρ θ τ) (σ σ' : List Int) : ∀ {t : List (Nat × Int)}, (t.all fun q => decide (q.1 < θ.length)) = true → ck_ev (ρ ++ σ) (ck_sbt θ t) = ck_tv (τ ++ σ') t
  | [], _ => ck_ev_c _ _
  | q :: l, hq => by
    rw [List.all_cons, Bool.and_eq_true] at hq
    have h1 : q.1 < θ.length := of_decide_eq_true hq.1
    show ck_ev (ρ ++ σ) (ck_add (ck_mul q.2 (θ.getD q.1 (ck_c 0))) (ck_sbt θ l)) = q.2 * (τ ++ σ').getD q.1 0 + ck_tv (τ ++ σ') l
    rw [ck_add_ev, ck_mul_ev, ck_sbt_ev H σ σ' hq.2, ck_gl (by rw [H.1]; exact h1), H.at h1]
theorem ck_sb_ev (H : ck_TH ρ θ τ) {a : ck_A} (ha : ck_ab θ.length a = true) (σ σ' : List Int) : ck_ev (ρ ++ σ) (ck_sb θ a) = ck_ev (τ ++ σ') a := by
  unfold ck_sb
  rw [ck_add_ev, ck_ev_c, ck_sbt_ev H σ σ' ha]
  rfl
theorem ck_rr_ok (H : ck_TH ρ θ τ) {r r' : Nat} (e : ck_rr θ r = some r') : r < τ.length ∧ ∀ σ, (ρ ++ σ).getD r' 0 = τ.getD r 0 := by
  unfold ck_rr at e
  split at e
  · next a ha =>
    refine ⟨by rw [H.1]; exact (List.getElem?_eq_some_iff.mp ha).1, fun σ => ?_⟩
    rw [← ck_rt_ok e, H.2 r a ha σ]
  · cases e
theorem ck_ma_ok (H : ck_TH ρ θ τ) {p a : ck_A} {w : Int} (e : ck_ma θ p a = some θ1) (hw : ∀ σ, ck_ev (ρ ++ σ) a = w) : ∃ τ2, ck_TH ρ θ1 (τ ++ τ2) ∧ ∀ σ', ck_ev ((τ ++ τ2) ++ σ') p = w := by
  have old : cz_if (ck_ab θ.length p && ck_aeq (ck_sb θ p) a) (some θ) = some θ1 → ∃ τ2, ck_TH ρ θ1 (τ ++ τ2) ∧ ∀ σ', ck_ev ((τ ++ τ2) ++ σ') p = w := by
    intro e0
    obtain ⟨h1, h2⟩ := cz_if_some e0
    cases h2
    obtain ⟨h3, h4⟩ := Bool.and_eq_true_iff.mp h1
    refine ⟨[], by rw [List.append_nil]; exact H, fun σ' => ?_⟩
    rw [List.append_nil, ← ck_sb_ev H h3 [] σ', ck_aeq_ok h4, hw]
  obtain ⟨t, c⟩ := p
  rcases t with _ | ⟨q, _ | ⟨q2, l⟩⟩
  · exact old e
  · have e : (if q.1 = θ.length then (if 0 < q.2 then cz_so (ck_dv q.2 (ck_sub a (ck_c c))) fun b => some (θ ++ [b]) else none) else cz_if (ck_ab θ.length ([q], c) && ck_aeq (ck_sb θ ([q], c)) a) (some θ)) = some θ1 := e
    split at e
    · next hq =>
      split at e
      · next h0 =>
        obtain ⟨b, hb, e1⟩ := cz_so_some e
        cases e1
        have val : ∀ σ, q.2 * ck_ev (ρ ++ σ) b = w - c := fun σ => by
          have := ck_dv_ok hb (ρ ++ σ)
          rw [ck_sub_ev, ck_ev_c, hw σ] at this
          exact this.symm
        have cst : ∀ σ, ck_ev (ρ ++ σ) b = ck_ev (ρ ++ []) b := fun σ => Int.eq_of_mul_eq_mul_left (show q.2 ≠ 0 by omega) ((val σ).trans (val []).symm)
        refine ⟨[ck_ev (ρ ++ []) b], H.app cst, fun σ' => ?_⟩
        show (q.2 * ((τ ++ [ck_ev (ρ ++ []) b]) ++ σ').getD q.1 0 + 0) + c = w
        rw [hq, ← H.1, ck_gr, val []]
        omega
      · cases e
    · exact old e
  · exact old e
theorem ck_mr_ok (H : ck_TH ρ θ τ) {p r : Nat} {w : Int} (e : ck_mr θ p r = some θ1) (hw : ∀ σ, (ρ ++ σ).getD r 0 = w) : ∃ τ2, ck_TH ρ θ1 (τ ++ τ2) ∧ ∀ σ', ((τ ++ τ2) ++ σ').getD p 0 = w := by
  unfold ck_mr at e
  split at e
  · next hp =>
    cases e
    refine ⟨[w], H.app (fun σ => by rw [ck_ev_v]; exact hw σ), fun σ' => ?_⟩
    rw [hp, ← H.1]
    exact ck_gr
  · obtain ⟨r', h1, e1⟩ := cz_so_some e
    obtain ⟨h2, e2⟩ := cz_if_some e1
    cases e2
    have h2 : r' = r := by simpa using h2
    subst h2
    obtain ⟨k1, k2⟩ := ck_rr_ok H h1
    refine ⟨[], by rw [List.append_nil]; exact H, fun σ' => ?_⟩
    rw [List.append_nil, ck_gl k1, ← k2 [], hw]
theorem ck_D3j {v : ck_V} {p m : Nat} (tp : v.1 = 3) (e2 : (p : Int) = ρ.getD v.2.1 0) (e3 : Γ[p]? = some (v.2.2.1, m)) (e4 : ck_full v.2.2.1 m = true) : ck_D E Γ ρ v (.ref (E.1 + p)) := by
  unfold ck_D
  rw [tp]
  exact ⟨E.1 + p, rfl, by push_cast; rw [← e2], Nat.le_add_right _ _, m, by rw [Nat.add_sub_cancel_left]; exact e3, e4⟩
theorem ck_D4j {v : ck_V} {p m : Nat} (tp : v.1 = 4) (e2 : (p : Int) = ρ.getD v.2.1 0) (e3 : Γ[p]? = some (v.2.2.1, m)) (e4 : ck_full v.2.2.1 m = true) : ck_D E Γ ρ v (.ref (E.1 + p)) := by
  unfold ck_D
  rw [tp]
  exact Or.inr ⟨E.1 + p, rfl, by push_cast; rw [← e2], Nat.le_add_right _ _, m, by rw [Nat.add_sub_cancel_left]; exact e3, e4⟩
theorem ck_D4n {v : ck_V} (tp : v.1 = 4) (e : ρ.getD v.2.1 0 = -1) : ck_D E Γ ρ v .null := by
  unfold ck_D
  rw [tp]
  exact Or.inl ⟨rfl, e⟩
theorem ck_D4w {v : ck_V} {x : Value} (hw : ck_Ds E Γ ρ v x) (t4 : v.1 = 4) : (x = .null ∧ ∀ σ, (ρ ++ σ).getD v.2.1 0 = -1) ∨ ∃ p m : Nat, x = .ref (E.1 + p) ∧ (∀ σ, (ρ ++ σ).getD v.2.1 0 = (p : Int)) ∧ Γ[p]? = some (v.2.2.1, m) ∧ ck_full v.2.2.1 m = true := by
  rcases ck_D4 (hw []) t4 with ⟨rfl, -⟩ | ⟨p, rfl, -, m, g1, g2⟩
  · refine Or.inl ⟨rfl, fun σ => ?_⟩
    rcases ck_D4 (hw σ) t4 with ⟨-, q⟩ | ⟨_, q, -⟩
    · exact q
    · cases q
  · refine Or.inr ⟨p, m, rfl, fun σ => ?_, g1, g2⟩
    rcases ck_D4 (hw σ) t4 with ⟨q, -⟩ | ⟨p', q, q2, -⟩
    · cases q
    · have : E.1 + p = E.1 + p' := by injection q
      omega
theorem ck_D6w {v : ck_V} {x : Value} (hE : cz_Eok E) (hw : ck_Ds E Γ ρ v x) (t : v.1 = 6) : ∃ k : Nat, k < 14 ∧ x = .ref (E.2.2.1 k) ∧ (∀ σ, (ρ ++ σ).getD v.2.1 0 = (k : Int)) ∧ ∀ σ, (ρ ++ σ).getD v.2.2.1 0 = ((cz_sl.getD k 0 : Nat) : Int) := by
  have one : ∀ σ, ∃ k : Nat, k < 14 ∧ x = .ref (E.2.2.1 k) ∧ (k : Int) = (ρ ++ σ).getD v.2.1 0 ∧ ((cz_sl.getD k 0 : Nat) : Int) = (ρ ++ σ).getD v.2.2.1 0 := by
    intro σ
    have := hw σ
    unfold ck_D at this
    rw [t] at this
    exact this
  obtain ⟨k, k1, k2, -⟩ := one []
  have all : ∀ σ, (k : Int) = (ρ ++ σ).getD v.2.1 0 ∧ ((cz_sl.getD k 0 : Nat) : Int) = (ρ ++ σ).getD v.2.2.1 0 := by
    intro σ
    obtain ⟨k', d1, d2, d3, d4⟩ := one σ
    have : k = k' := hE.2.2.1 k k' k1 d1 (by have := k2.symm.trans d2; injection this)
    subst this
    exact ⟨d3, d4⟩
  exact ⟨k, k1, k2, fun σ => (all σ).1.symm, fun σ => (all σ).2.symm⟩
theorem ck_D10w {v : ck_V} {x : Value} (hE : cz_Eok E) (hw : ck_Ds E Γ ρ v x) (t : v.1 = 10) : ∃ k : Nat, k < 14 ∧ x = .ref (E.2.2.2.1 k) ∧ (∀ σ, (ρ ++ σ).getD v.2.1 0 = (k : Int)) ∧ ∀ σ, (ρ ++ σ).getD v.2.2.1 0 = ((cz_sl.getD k 0 : Nat) : Int) := by
  have one : ∀ σ, ∃ k : Nat, k < 14 ∧ x = .ref (E.2.2.2.1 k) ∧ (k : Int) = (ρ ++ σ).getD v.2.1 0 ∧ ((cz_sl.getD k 0 : Nat) : Int) = (ρ ++ σ).getD v.2.2.1 0 := by
    intro σ
    have := hw σ
    unfold ck_D at this
    rw [t] at this
    exact this
  obtain ⟨k, k1, k2, -⟩ := one []
  have all : ∀ σ, (k : Int) = (ρ ++ σ).getD v.2.1 0 ∧ ((cz_sl.getD k 0 : Nat) : Int) = (ρ ++ σ).getD v.2.2.1 0 := by
    intro σ
    obtain ⟨k', d1, d2, d3, d4⟩ := one σ
    have : k = k' := hE.2.2.2.1 k k' k1 d1 (by have := k2.symm.trans d2; injection this)
    subst this
    exact ⟨d3, d4⟩
  exact ⟨k, k1, k2, fun σ => (all σ).1.symm, fun σ => (all σ).2.symm⟩
/-- two roots, one behind the other -/
theorem ck_mr2_ok (H : ck_TH ρ θ τ) {p p' r r' : Nat} {w w' : Int} (e : (cz_so (ck_mr θ p r) fun θ2 => ck_mr θ2 p' r') = some θ1) (hw : ∀ σ, (ρ ++ σ).getD r 0 = w) (hw' : ∀ σ, (ρ ++ σ).getD r' 0 = w') : ∃ τ2, ck_TH ρ θ1 (τ ++ τ2) ∧ ∀ σ', ((τ ++ τ2) ++ σ').getD p 0 = w ∧ ((τ ++ τ2) ++ σ').getD p' 0 = w' := by
  obtain ⟨θ2, e1, e2⟩ := cz_so_some e
  obtain ⟨τ2, H2, h2⟩ := ck_mr_ok H e1 hw
  obtain ⟨τ3, H3, h3⟩ := ck_mr_ok H2 e2 hw'
  refine ⟨τ2 ++ τ3, by rw [← List.append_assoc]; exact H3, fun σ' => ⟨?_, ?_⟩⟩
  · have := h2 (τ3 ++ σ')
    simpa [List.append_assoc] using this
  · have := h3 σ'
    simpa [List.append_assoc] using this
theorem ck_mv_ok {p v0 : ck_V} {x : Value} (hE : cz_Eok E) (hn : ∀ σ, ck_nok n (ρ ++ σ)) (hm : ck_Ms E Γ h ρ es) (H : ck_TH ρ θ τ) (hv : ck_Ds E Γ ρ v0 x) (e : ck_mv n es θ p v0 = some θ1) : ∃ τ2, ck_TH ρ θ1 (τ ++ τ2) ∧ ck_Ds E Γ (τ ++ τ2) p x := by
  have hw := ck_nz_ok hn hm hv
  have H0 : ck_TH ρ θ (τ ++ []) := by rw [List.append_nil]; exact H
  unfold ck_mv at e
  generalize ck_nz n es v0 = v at e hw
  simp only at e
  split at e
  · next tp =>
    obtain ⟨tv, e1⟩ := cz_if_some e
    have tv : v.1 = 0 := by simpa using tv
    obtain ⟨z, rfl, hz⟩ := ck_int hw tv
    obtain ⟨τ2, h1, h2⟩ := ck_ma_ok H e1 (w := z.toInt) (fun σ => (hz σ).symm)
    refine ⟨τ2, h1, fun σ' => ?_⟩
    unfold ck_D
    rw [tp]
    exact ⟨z, rfl, (h2 σ').symm⟩
  · next tp =>
    obtain ⟨tv, e1⟩ := cz_if_some e
    have tv : v.1 = 1 := by simpa using tv
    obtain ⟨z, rfl, hz⟩ := ck_lng hw tv
    obtain ⟨τ2, h1, h2⟩ := ck_ma_ok H e1 (w := z.toInt) (fun σ => (hz σ).symm)
    refine ⟨τ2, h1, fun σ' => ?_⟩
    unfold ck_D
    rw [tp]
    exact ⟨z, rfl, (h2 σ').symm⟩
  · next tp =>
    obtain ⟨tv, e1⟩ := cz_if_some e
    simp only [Bool.and_eq_true, beq_iff_eq] at tv
    obtain ⟨pp, rfl, hpp, m, hg, hf⟩ := ck_D39 hw (Or.inl tv.1)
    obtain ⟨τ2, h1, h2⟩ := ck_mr_ok H e1 (w := (pp : Int)) (fun σ => (hpp σ).symm)
    exact ⟨τ2, h1, fun σ' => ck_D3j tp (h2 σ').symm (by rw [← tv.2]; exact hg) (by rw [← tv.2]; exact hf tv.1)⟩
  · next tp =>
    split at e
    · next hp =>
      have new : ∀ σ' w, ((τ ++ [w]) ++ σ').getD p.2.1 0 = w := fun σ' w => by
        rw [hp, ← H.1]
        exact ck_gr
      split at e
      · next t5 =>
        cases e
        have hx0 := hw []
        unfold ck_D at hx0
        rw [t5] at hx0
        have hx0 : x = .null := hx0
        subst hx0
        exact ⟨[-1], H.app (fun σ => ck_ev_c _ _), fun σ' => ck_D4n tp (new σ' _)⟩
      · obtain ⟨tv, e1⟩ := cz_if_some e
        cases e1
        simp only [Bool.and_eq_true, Bool.or_eq_true, beq_iff_eq] at tv
        obtain ⟨tv, tk⟩ := tv
        rcases tv with t3 | t4
        · obtain ⟨pp, rfl, hpp, m, hg, hf⟩ := ck_D39 hw (Or.inl t3)
          exact ⟨[(pp : Int)], H.app (fun σ => by rw [ck_ev_v]; exact (hpp σ).symm), fun σ' => ck_D4j tp (new σ' _).symm (by rw [← tk]; exact hg) (by rw [← tk]; exact hf t3)⟩
        · rcases ck_D4w hw t4 with ⟨rfl, hq⟩ | ⟨pp, m, rfl, hq, hg, hf⟩
          · exact ⟨[-1], H.app (fun σ => by rw [ck_ev_v]; exact hq σ), fun σ' => ck_D4n tp (new σ' _)⟩
          · exact ⟨[(pp : Int)], H.app (fun σ => by rw [ck_ev_v]; exact hq σ), fun σ' => ck_D4j tp (new σ' _).symm (by rw [← tk]; exact hg) (by rw [← tk]; exact hf)⟩
    · obtain ⟨tv, e1⟩ := cz_if_some e
      simp only [Bool.and_eq_true, beq_iff_eq] at tv
      obtain ⟨t4, tk⟩ := tv
      rcases ck_D4w hv t4 with ⟨rfl, hq⟩ | ⟨pp, m, rfl, hq, hg, hf⟩
      · obtain ⟨τ2, h1, h2⟩ := ck_mr_ok H e1 hq
        exact ⟨τ2, h1, fun σ' => ck_D4n tp (h2 σ')⟩
      · obtain ⟨τ2, h1, h2⟩ := ck_mr_ok H e1 hq
        exact ⟨τ2, h1, fun σ' => ck_D4j tp (h2 σ').symm (by rw [← tk]; exact hg) (by rw [← tk]; exact hf)⟩
  · next tp =>
    obtain ⟨tv, e1⟩ := cz_if_some e
    have tv : v.1 = 5 := by simpa using tv
    cases e1
    have hx0 := hw []
    unfold ck_D at hx0
    rw [tv] at hx0
    have hx0 : x = .null := hx0
    refine ⟨[], H0, fun σ' => ?_⟩
    unfold ck_D
    rw [tp]
    exact hx0
  · next tp =>
    obtain ⟨tv, e1⟩ := cz_if_some e
    have tv : v.1 = 6 := by simpa using tv
    obtain ⟨k, k1, k2, k3, k4⟩ := ck_D6w hE hw tv
    obtain ⟨τ2, h1, h2⟩ := ck_mr2_ok H e1 k3 k4
    refine ⟨τ2, h1, fun σ' => ?_⟩
    unfold ck_D
    rw [tp]
    exact ⟨k, k1, k2, (h2 σ').1.symm, (h2 σ').2.symm⟩
  · next tp =>
    obtain ⟨tv, e1⟩ := cz_if_some e
    have tv : v.1 = 7 := by simpa using tv
    have h7 : ∀ σ, x = .ref E.2.1.1 ∧ ((E.2.1.2.1 : Nat) : Int) = (ρ ++ σ).getD v.2.1 0 := by
      intro σ
      have := hw σ
      unfold ck_D at this
      rw [tv] at this
      exact this
    obtain ⟨τ2, h1, h2⟩ := ck_mr_ok H e1 (fun σ => (h7 σ).2.symm)
    refine ⟨τ2, h1, fun σ' => ?_⟩
    unfold ck_D
    rw [tp]
    exact ⟨(h7 []).1, (h2 σ').symm⟩
  · next tp =>
    obtain ⟨tv, e1⟩ := cz_if_some e
    have tv : v.1 = 8 := by simpa using tv
    cases e1
    have hx0 := hw []
    unfold ck_D at hx0
    rw [tv] at hx0
    refine ⟨[], H0, fun σ' => ?_⟩
    unfold ck_D
    rw [tp]
    exact hx0
  · next tp =>
    obtain ⟨tv, e1⟩ := cz_if_some e
    simp only [Bool.and_eq_true, beq_iff_eq] at tv
    obtain ⟨pp, rfl, hpp, m, hg, -⟩ := ck_D39 hv (Or.inr tv.1)
    obtain ⟨τ2, h1, h2⟩ := ck_mr_ok H e1 (w := (pp : Int)) (fun σ => (hpp σ).symm)
    refine ⟨τ2, h1, fun σ' => ?_⟩
    unfold ck_D
    rw [tp]
    exact ⟨E.1 + pp, rfl, by rw [h2 σ']; push_cast; rfl, Nat.le_add_right _ _, m, by rw [Nat.add_sub_cancel_left, ← tv.2]; exact hg⟩
  · next tp =>
    obtain ⟨tv, e1⟩ := cz_if_some e
    have tv : v.1 = 10 := by simpa using tv
    obtain ⟨k, k1, k2, k3, k4⟩ := ck_D10w hE hw tv
    obtain ⟨τ2, h1, h2⟩ := ck_mr2_ok H e1 k3 k4
    refine ⟨τ2, h1, fun σ' => ?_⟩
    unfold ck_D
    rw [tp]
    exact ⟨k, k1, k2, (h2 σ').1.symm, (h2 σ').2.symm⟩
  · cases e
theorem ck_ml_ok {lv : ck_LV} {clv : cz_LV} (hE : cz_Eok E) (hn : ∀ σ, ck_nok n (ρ ++ σ)) (hm : ck_Ms E Γ h ρ es) (hL : ∀ σ, ck_LR E Γ (ρ ++ σ) lv clv) : ∀ {L : List (Nat × ck_V)} {θ θ1 : List ck_A} {τ : List Int}, ck_TH ρ θ τ → ck_ml n es lv L θ = some θ1 → ∃ τ2, ck_TH ρ θ1 (τ ++ τ2) ∧ ∀ p ∈ L, ∃ x, cz_lk clv p.1 = some x ∧ ck_Ds E Γ (τ ++ τ2) p.2 x
  | [], θ, θ1, τ, H, e => by
    cases e
    exact ⟨[], by rw [List.append_nil]; exact H, fun p hp => by cases hp⟩
  | p :: l, θ, θ1, τ, H, e => by
    unfold ck_ml at e
    obtain ⟨v, hv, e1⟩ := cz_so_some e
    obtain ⟨θ2, e2, e3⟩ := cz_so_some e1
    obtain ⟨x, hx, dx⟩ := ck_lkA hL hv
    obtain ⟨τ2, H2, d2⟩ := ck_mv_ok hE hn hm H dx e2
    obtain ⟨τ3, H3, d3⟩ := ck_ml_ok hE hn hm hL H2 e3
    refine ⟨τ2 ++ τ3, by rw [← List.append_assoc]; exact H3, fun q hq => ?_⟩
    rw [← List.append_assoc]
    rcases List.mem_cons.mp hq with rfl | hq
    · exact ⟨x, hx, ck_Ds_app τ3 d2⟩
    · exact d3 q hq
theorem ck_m1_ok {p : ck_Q} (hE : cz_Eok E) (hn : ∀ σ, ck_nok n (ρ ++ σ)) (hm : ck_Ms E Γ h ρ es) (H : ck_TH ρ θ τ) (e : ck_m1 n es θ p = some θ1) : ∃ τ2, ck_TH ρ θ1 (τ ++ τ2) ∧ ∀ σ', ck_M E Γ h ((τ ++ τ2) ++ σ') p := by
  unfold ck_m1 at e
  split at e
  · next t2 =>
    obtain ⟨hab, e1⟩ := cz_if_some e
    obtain ⟨v, hv, e2⟩ := cz_so_some e1
    obtain ⟨a1, a2, a3, hq⟩ := ck_f2_mem hv
    obtain ⟨i, i1, i2, i3⟩ := hm _ hq []
    have i1 : (i : Int) = ck_ev (ρ ++ []) (ck_sb θ p.2.2.2.2.1) := i1
    have dv : ck_Ds E Γ ρ v (.int (E.2.1.2.2 i)) := by
      intro σ
      obtain ⟨j, j1, j2, j3⟩ := hm _ hq σ
      have j1 : (j : Int) = ck_ev (ρ ++ σ) (ck_sb θ p.2.2.2.2.1) := j1
      rw [ck_sb_ev H hab σ []] at j1
      rw [ck_sb_ev H hab [] []] at i1
      have : i = j := by omega
      subst this
      exact j3
    obtain ⟨τ2, H2, d2⟩ := ck_mv_ok hE hn hm H dv e2
    refine ⟨τ2, H2, fun σ' => ?_⟩
    unfold ck_M
    rw [t2]
    exact ⟨i, by rw [i1, ck_sb_ev H hab [] (τ2 ++ σ'), List.append_assoc], i2, d2 σ'⟩
  · obtain ⟨r, hr, e1⟩ := cz_so_some e
    obtain ⟨k1, k2⟩ := ck_rr_ok H hr
    have root : ∀ τ2 σ' : List Int, ((τ ++ τ2) ++ σ').getD p.2.1 0 = (ρ ++ []).getD r 0 := fun τ2 σ' => by rw [List.append_assoc, ck_gl k1, k2 []]
    have cst : ∀ {pp : Nat}, (pp : Int) = (ρ ++ []).getD r 0 → ∀ σ, (pp : Int) = (ρ ++ σ).getD r 0 := fun {pp} hp σ => by rw [k2 σ, ← k2 []]; exact hp
    have H0 : ck_TH ρ θ (τ ++ []) := by rw [List.append_nil]; exact H
    split at e1
    · next t0 =>
      obtain ⟨v, hv, e2⟩ := cz_so_some e1
      obtain ⟨a0, hq⟩ := ck_f0_mem hv
      obtain ⟨pp, vs, x, p1, p2, p3, p4⟩ := hm _ hq []
      obtain ⟨vs', y, q1, q2, q3⟩ := ck_f0_ok hm hv (cst p1)
      obtain ⟨τ2, H2, d2⟩ := ck_mv_ok hE hn hm H q3 e2
      refine ⟨τ2, H2, fun σ' => ?_⟩
      unfold ck_M
      rw [t0]
      exact ⟨pp, vs', y, by rw [root]; exact p1, q1, q2, d2 σ'⟩
    · next t1 =>
      obtain ⟨hab, e2⟩ := cz_if_some e1
      obtain ⟨v, hv, e3⟩ := cz_so_some e2
      obtain ⟨a0, hq⟩ := ck_f1_mem hv
      obtain ⟨pp, m, tc, nn, y, i, p1, p2, p3, p4, p5, p6⟩ := hm _ hq []
      have p4 : (i : Int) = ck_ev (ρ ++ []) (ck_sb θ p.2.2.2.2.1) := p4
      obtain ⟨tc', len', y', q1, q2, q3, m', q4⟩ := ck_f1_ok (i := i) hm hv (cst p1) (fun σ => by rw [ck_sb_ev H hab σ [], ← ck_sb_ev H hab [] []]; exact p4)
      obtain ⟨τ2, H2, d2⟩ := ck_mv_ok hE hn hm H q3 e3
      refine ⟨τ2, H2, fun σ' => ?_⟩
      unfold ck_M
      rw [t1]
      exact ⟨pp, m', tc', len', y', i, by rw [root]; exact p1, q4, q1, by rw [p4, ck_sb_ev H hab [] (τ2 ++ σ'), List.append_assoc], q2, d2 σ'⟩
    · next t3 =>
      obtain ⟨a, ha, e2⟩ := cz_so_some e1
      obtain ⟨a0, hq⟩ := ck_f3_mem ha
      obtain ⟨pp, m, tc, nn, y, p1, p2, p3, p4⟩ := hm _ hq []
      have hw : ∀ σ, ck_ev (ρ ++ σ) a = ((ck_cn (ck_el y) (ck_P01 p.2.2.2.1) nn : Nat) : Int) := by
        intro σ
        obtain ⟨pp', m', tc', nn', y', j1, j2, j3, j4⟩ := hm _ hq σ
        have c1 := cst p1 σ
        have j1 : (pp' : Int) = (ρ ++ σ).getD r 0 := j1
        have : pp' = pp := by omega
        subst this
        cases j3.symm.trans p3
        exact j4.symm
      obtain ⟨τ2, H2, h2⟩ := ck_ma_ok H e2 hw
      refine ⟨τ2, H2, fun σ' => ?_⟩
      unfold ck_M
      rw [t3]
      exact ⟨pp, m, tc, nn, y, by rw [root]; exact p1, p2, p3, (h2 σ').symm⟩
    · next t4 =>
      obtain ⟨a, ha, e2⟩ := cz_so_some e1
      obtain ⟨hc, e3⟩ := cz_if_some e2
      cases e3
      obtain ⟨hab, hle⟩ := Bool.and_eq_true_iff.mp hc
      have hle := ck_le_ok (hn []) hle
      rw [ck_sub_ev] at hle
      obtain ⟨a0, hq⟩ := ck_f3_mem ha
      obtain ⟨pp, m, tc, nn, f, p1, p2, p3, p4⟩ := hm _ hq []
      refine ⟨[], H0, fun σ' => ?_⟩
      unfold ck_M
      rw [t4]
      refine ⟨pp, m, tc, nn, f, by rw [root]; exact p1, p2, p3, fun l hl1 hl2 => p4 l hl1 ?_⟩
      rw [List.append_nil, ← ck_sb_ev H hab [] σ'] at hl2
      show (l : Int) < ck_ev (ρ ++ []) a
      omega
    · next t6 =>
      obtain ⟨hc, e2⟩ := cz_if_some e1
      cases e2
      obtain ⟨a0, hq⟩ := ck_f6_mem hc
      obtain ⟨pp, vs, k, s, p1, p2⟩ := hm _ hq []
      refine ⟨[], H0, fun σ' => ?_⟩
      unfold ck_M
      rw [t6]
      exact ⟨pp, vs, k, s, by rw [root]; exact p1, p2⟩
    · next t11 =>
      obtain ⟨m, hm1, e2⟩ := cz_so_some e1
      obtain ⟨hc, e3⟩ := cz_if_some e2
      cases e3
      have hc : m &&& p.2.2.2.1 = p.2.2.2.1 := by simpa using hc
      obtain ⟨a0, hq⟩ := ck_f11_mem hm1
      obtain ⟨pp, mm, p1, p2, p3⟩ := hm _ hq []
      refine ⟨[], H0, fun σ' => ?_⟩
      unfold ck_M
      rw [t11]
      refine ⟨pp, mm, by rw [root]; exact p1, p2, fun j hj => p3 j ?_⟩
      show m.testBit j = true
      rw [← hc, Nat.testBit_and, Bool.and_eq_true] at hj
      exact hj.1
    · cases e1
theorem ck_me_ok (hE : cz_Eok E) (hn : ∀ σ, ck_nok n (ρ ++ σ)) (hm : ck_Ms E Γ h ρ es) : ∀ {L : List ck_Q} {θ θ1 : List ck_A} {τ : List Int}, ck_TH ρ θ τ → ck_me n es L θ = some θ1 → ∃ τ2, ck_TH ρ θ1 (τ ++ τ2) ∧ ck_Ms E Γ h (τ ++ τ2) L
  | [], θ, θ1, τ, H, e => by
    cases e
    exact ⟨[], by rw [List.append_nil]; exact H, fun p hp => by cases hp⟩
  | p :: l, θ, θ1, τ, H, e => by
    unfold ck_me at e
    obtain ⟨θ2, e2, e3⟩ := cz_so_some e
    obtain ⟨τ2, H2, d2⟩ := ck_m1_ok hE hn hm H e2
    obtain ⟨τ3, H3, d3⟩ := ck_me_ok hE hn hm H2 e3
    refine ⟨τ2 ++ τ3, by rw [← List.append_assoc]; exact H3, ?_⟩
    rw [← List.append_assoc]
    intro q hq σ
    rcases List.mem_cons.mp hq with rfl | hq
    · rw [List.append_assoc]
      exact d2 _
    · exact d3 q hq σ
theorem ck_mb_ok (hn : ∀ σ, ck_nok n (ρ ++ σ)) : ∀ {l : List (Int × Int)} {i : Nat}, ck_mb n θ l i = true → ∀ (j : Nat) (b : Int × Int), l[j]? = some b → b.1 ≤ ck_ev (ρ ++ []) (θ.getD (i + j) (ck_c 0)) ∧ ck_ev (ρ ++ []) (θ.getD (i + j) (ck_c 0)) ≤ b.2
  | [], _, _, j, b, hb => by simp at hb
  | c :: l, i, e, j, b, hb => by
    unfold ck_mb at e
    obtain ⟨e1, e2⟩ := Bool.and_eq_true_iff.mp e
    cases j with
    | zero =>
      rw [List.getElem?_cons_zero] at hb
      cases hb
      exact ck_btw_ok (hn []) e1
    | succ j =>
      rw [List.getElem?_cons_succ] at hb
      have := ck_mb_ok hn e2 j b hb
      rw [show i + 1 + j = i + (j + 1) by omega] at this
      exact this
/-- a pattern holds: the new roots, their intervals, facts, locals, what is known of the heap -/
def ck_MT (E : cz_E) (Γ : ck_G) (h : cz_H) (clv : cz_LV) (ρ0 : List Int) (H : ck_H) (τ : List Int) : Prop := τ.length = H.2.1.length ∧ (∀ (j : Nat) (b : Int × Int), H.2.1[j]? = some b → b.1 ≤ τ.getD j 0 ∧ τ.getD j 0 ≤ b.2) ∧ (∀ f ∈ H.2.2.1, ∀ σ, ck_ev ((ρ0 ++ τ) ++ σ) f ≤ 0) ∧ (∀ p ∈ H.2.2.2.1, ∃ x, cz_lk clv p.1 = some x ∧ ck_Ds E Γ (ρ0 ++ τ) p.2 x) ∧ ck_Ms E Γ h (ρ0 ++ τ) H.2.2.2.2
theorem ck_idn_ok (ρ0 ρ1 : List Int) : ck_TH (ρ0 ++ ρ1) (ck_idn ρ0.length) ρ0 := by
  refine ⟨by simp [ck_idn], fun i a e σ => ?_⟩
  have hi := (List.getElem?_eq_some_iff.mp e).1
  have hi : i < ρ0.length := by simpa [ck_idn] using hi
  have ha : a = ck_v i := by
    unfold ck_idn at e
    rw [List.getElem?_map, List.getElem?_range hi] at e
    cases e
    rfl
  rw [ha, ck_ev_v, List.append_assoc, ck_gl hi]
theorem ck_mt_ok {lv : ck_LV} {clv : cz_LV} {H : ck_H} {ρ0 ρ1 : List Int} (hE : cz_Eok E) (hρ : ρ = ρ0 ++ ρ1) (hH : H.1 = ρ0.length) (hn : ∀ σ, ck_nok n (ρ ++ σ)) (hm : ck_Ms E Γ h ρ es) (hL : ∀ σ, ck_LR E Γ (ρ ++ σ) lv clv) (e : ck_mt n lv es H = some θ) : ∃ τ, θ.length = H.1 + H.2.1.length ∧ ck_TH ρ θ (ρ0 ++ τ) ∧ ck_MT E Γ h clv ρ0 H τ := by
  unfold ck_mt at e
  obtain ⟨θ1, e1, e2⟩ := cz_so_some e
  obtain ⟨θ2, e3, e4⟩ := cz_so_some e2
  obtain ⟨hc, e5⟩ := cz_if_some e4
  cases e5
  simp only [Bool.and_eq_true, beq_iff_eq] at hc
  obtain ⟨⟨hlen, hmb⟩, hfs⟩ := hc
  have I := ck_idn_ok ρ0 ρ1
  rw [← hρ, ← hH] at I
  obtain ⟨τ1, T1, L1⟩ := ck_ml_ok hE hn hm hL I e1
  obtain ⟨τ2, T2, M2⟩ := ck_me_ok hE hn hm T1 e3
  have T2' : ck_TH ρ θ (ρ0 ++ (τ1 ++ τ2)) := by rw [← List.append_assoc]; exact T2
  have hl : (τ1 ++ τ2).length = H.2.1.length := by
    have := T2'.1
    rw [List.length_append, hlen] at this
    omega
  refine ⟨τ1 ++ τ2, hlen, T2', hl, fun j b hb => ?_, fun f hf σ => ?_, fun p hp => ?_, ?_⟩
  · have hj := (List.getElem?_eq_some_iff.mp hb).1
    have := ck_mb_ok (θ := θ) hn hmb j b hb
    rw [T2'.at (by omega) [], hH] at this
    have e9 : (ρ0 ++ (τ1 ++ τ2)).getD (ρ0.length + j) 0 = (τ1 ++ τ2).getD j 0 := by
      rw [List.getD_eq_getElem?_getD, List.getD_eq_getElem?_getD, List.getElem?_append_right (by omega), Nat.add_sub_cancel_left]
    rw [e9] at this
    exact this
  · have := List.all_eq_true.mp hfs f hf
    obtain ⟨a1, a2⟩ := Bool.and_eq_true_iff.mp this
    have a2 := ck_le_ok (hn []) a2
    rw [ck_sb_ev T2' a1 [] σ] at a2
    exact a2
  · obtain ⟨x, x1, x2⟩ := L1 p hp
    refine ⟨x, x1, ?_⟩
    rw [← List.append_assoc]
    exact ck_Ds_app τ2 x2
  · rw [← List.append_assoc]
    exact M2
end CKT
