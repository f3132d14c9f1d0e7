/-! THE CHECKER IS SOUND: a run of it -/
/-- how far it has come since a start: kinds, what was written, how much room -/
def ck_wl (W : List (Nat × Nat)) (Γ0 : ck_G) (h0 : cz_H) (Γ : ck_G) (B : Int) (h : cz_H) (H Z Bm : Int) : Prop := 0 ≤ B ∧ ck_ext Γ0 Γ ∧ ck_Fr W Γ0 h0 h ∧ (h.length : Int) ≤ H ∧ (cz_sz h : Int) ≤ Z ∧ B ≤ Bm
theorem ck_wl.mono {W : List (Nat × Nat)} {Γ0 Γ : ck_G} {h0 h : cz_H} {B H Z Bm H' Z' Bm' : Int} (w : ck_wl W Γ0 h0 Γ B h H Z Bm) (a : H ≤ H') (b : Z ≤ Z') (c : Bm ≤ Bm') : ck_wl W Γ0 h0 Γ B h H' Z' Bm' := ⟨w.1, w.2.1, w.2.2.1, Int.le_trans w.2.2.2.1 a, Int.le_trans w.2.2.2.2.1 b, Int.le_trans w.2.2.2.2.2 c⟩
theorem ck_wl.step {W : List (Nat × Nat)} {Γ0 Γ Γ' : ck_G} {h0 h h' : cz_H} {B B' H Z Bm H' Z' Bm' : Int} (w : ck_wl W Γ0 h0 Γ B h H Z Bm) (hx : ck_ext Γ Γ') (fr : ck_Fr W Γ h h') (hB : 0 ≤ B') (a : (h'.length : Int) ≤ H') (b : (cz_sz h' : Int) ≤ Z') (c : B' ≤ Bm') : ck_wl W Γ0 h0 Γ' B' h' H' Z' Bm' := ⟨hB, w.2.1.trans hx, w.2.2.1.trans w.2.1 fr, a, b, c⟩
/-- a loop under way may be gone round again -/
def ck_TG (E : cz_E) (d mi : Nat) (Q : Option Value → cz_H → Prop) (W : List (Nat × Nat)) (Γ0 : ck_G) (h0 : cz_H) (ρ : List Int) (H0 Z0 B0 : Int) (t : ck_tg) : Prop := ∃ (ρ0 ρ1 : List Int) (r : Int), ρ = ρ0 ++ ρ1 ∧ (∀ k ∈ t.2.2.2.2.1, k.1.1 = ρ0.length) ∧ (∀ σ, ck_ev (ρ ++ σ) t.2.2.2.2.2 = r) ∧ (0 < t.2.1 → ∀ k ∈ t.2.2.2.2.1, ∀ (τ : List Int) (Γ : ck_G) (B : Int) (clv : cz_LV) (h : cz_H) (r' : Int), ck_HT E B Γ h → ck_MT E Γ h clv ρ0 k.1 τ → (∀ σ, ck_ev ((ρ0 ++ τ) ++ σ) k.2 = r') → 0 ≤ r' → r' + (t.2.1 : Int) ≤ r → ck_wl W Γ0 h0 Γ B h (H0 + ((t.2.2.2.1.1 + t.2.2.1.1 * t.2.1 : Nat) : Int)) (Z0 + ((t.2.2.2.1.2.1 + t.2.2.1.2.1 * t.2.1 : Nat) : Int)) (B0 + ((t.2.2.2.1.2.2 + t.2.2.1.2.2 * t.2.1 : Nat) : Int)) → cz_W E d mi t.1 clv [] h Q)
theorem ck_TG.mono {E : cz_E} {d mi : Nat} {Q : Option Value → cz_H → Prop} {W : List (Nat × Nat)} {Γ0 : ck_G} {h0 : cz_H} {ρ : List Int} {H0 Z0 B0 H1 Z1 B1 : Int} {t : ck_tg} (T : ck_TG E d mi Q W Γ0 h0 ρ H0 Z0 B0 t) (ρ2 : List Int) (a : H1 ≤ H0) (b : Z1 ≤ Z0) (c : B1 ≤ B0) : ck_TG E d mi Q W Γ0 h0 (ρ ++ ρ2) H1 Z1 B1 t := by
  obtain ⟨ρ0, ρ1, r, e, h1, h2, h3⟩ := T
  refine ⟨ρ0, ρ1 ++ ρ2, r, by rw [e, List.append_assoc], h1, fun σ => by rw [List.append_assoc]; exact h2 _, fun hp k hk τ Γ B clv h r' a1 a2 a3 a4 a5 w => h3 hp k hk τ Γ B clv h r' a1 a2 a3 a4 a5 (w.mono ?_ ?_ ?_)⟩
  · exact Int.add_le_add_right a _
  · exact Int.add_le_add_right b _
  · exact Int.add_le_add_right c _
/-- every end of a run serves -/
def ck_EN (E : cz_E) (X : ck_X) (Γ0 : ck_G) (h0 : cz_H) (ρ : List Int) (H0 Z0 B0 : Int) (os : List ck_O) (Q : Option Value → cz_H → Prop) : Prop := ∀ o ∈ os, ∀ (ρ2 : List Int) (Γ' : ck_G) (B' : Int) (h' : cz_H) (cv : Option Value), ck_J E Γ' B' (ρ ++ ρ2) o.1 [] o.2.2.1 [] h' → ck_VR E Γ' (ρ ++ ρ2) o.2.1 cv → ck_wl X.2.2.1 Γ0 h0 Γ' B' h' (H0 + (o.2.2.2.1 : Int)) (Z0 + (o.2.2.2.2.1 : Int)) (B0 + (o.2.2.2.2.2 : Int)) → o.2.2.2.1 ≤ X.2.2.2.1 → o.2.2.2.2.2 ≤ X.2.2.2.2 → Q cv h'
theorem ck_EN.mono {E : cz_E} {X : ck_X} {Γ0 : ck_G} {h0 : cz_H} {ρ : List Int} {H0 Z0 B0 H1 Z1 B1 : Int} {os os' : List ck_O} {Q : Option Value → cz_H → Prop} (en : ck_EN E X Γ0 h0 ρ H0 Z0 B0 os Q) (hs : ∀ o ∈ os', o ∈ os) (ρ2 : List Int) (a : H1 ≤ H0) (b : Z1 ≤ Z0) (c : B1 ≤ B0) : ck_EN E X Γ0 h0 (ρ ++ ρ2) H1 Z1 B1 os' Q := by
  intro o ho ρ3 Γ' B' h' cv J vr w v1 v3
  rw [List.append_assoc] at J vr
  exact en o (hs o ho) (ρ2 ++ ρ3) Γ' B' h' cv J vr (w.mono (Int.add_le_add_right a _) (Int.add_le_add_right b _) (Int.add_le_add_right c _)) v1 v3
theorem ck_EN.sub {E : cz_E} {X : ck_X} {Γ0 : ck_G} {h0 : cz_H} {ρ : List Int} {H0 Z0 B0 : Int} {os os' : List ck_O} {Q : Option Value → cz_H → Prop} (en : ck_EN E X Γ0 h0 ρ H0 Z0 B0 os Q) (hs : ∀ o ∈ os', o ∈ os) : ck_EN E X Γ0 h0 ρ H0 Z0 B0 os' Q := fun o ho => en o (hs o ho)
/-- what a run of the checker says -/
def ck_SD (E : cz_E) (X : ck_X) (d mi pc : Nat) (s : ck_ST) (tg : List ck_tg) (os : List ck_O) : Prop := ∀ (Γ0 : ck_G) (h0 : cz_H) (Q : Option Value → cz_H → Prop) (H0 Z0 B0 : Int) (ρ : List Int) (Γ : ck_G) (B : Int) (clv : cz_LV) (cst : List Value) (h : cz_H), H0 + (X.2.2.2.1 : Int) ≤ ck_HM → B0 + (X.2.2.2.2 : Int) ≤ ck_BM → s.2.2.2.2.1 ≤ X.2.2.2.1 → s.2.2.2.2.2.2 ≤ X.2.2.2.2 → ck_J E Γ B ρ s.1 s.2.2.1 s.2.2.2.1 cst h → (∀ σ, ck_LR E Γ (ρ ++ σ) s.2.1 clv) → ck_wl X.2.2.1 Γ0 h0 Γ B h (H0 + (s.2.2.2.2.1 : Int)) (Z0 + (s.2.2.2.2.2.1 : Int)) (B0 + (s.2.2.2.2.2.2 : Int)) → (∀ t ∈ tg, ck_TG E d mi Q X.2.2.1 Γ0 h0 ρ H0 Z0 B0 t) → ck_EN E X Γ0 h0 ρ H0 Z0 B0 os Q → cz_W E d mi pc clv cst h Q
/-! contracts -/
def ck_Zp (E : cz_E) (z : ck_Z) (τ : List Int) (Γ : ck_G) (h : cz_H) (B : Int) (cv : Option Value) (h' : cz_H) : Prop := ∃ (Γ' : ck_G) (B' : Int), ck_HT E B' Γ' h' ∧ 0 ≤ B' ∧ ck_ext Γ Γ' ∧ ck_Fr z.2.2.2.1 Γ h h' ∧ (h'.length : Int) ≤ (h.length : Int) + (z.2.2.1.1 : Int) ∧ (cz_sz h' : Int) ≤ (cz_sz h : Int) + (z.2.2.1.2.1 : Int) ∧ B' ≤ B + (z.2.2.1.2.2 : Int) ∧ ∃ p ∈ z.2.2.2.2.2, ∃ τ2 : List Int, τ2.length = p.1.length ∧ (∀ (j : Nat) (b : Int × Int), p.1[j]? = some b → b.1 ≤ τ2.getD j 0 ∧ τ2.getD j 0 ≤ b.2) ∧ (∀ f ∈ p.2.2.2, ∀ σ, ck_ev ((τ ++ τ2) ++ σ) f ≤ 0) ∧ ck_VR E Γ' (τ ++ τ2) p.2.1 cv ∧ ck_Ms E Γ' h' (τ ++ τ2) p.2.2.1
def ck_Zok (E : cz_E) (z : ck_Z) : Prop := z.2.2.2.2.1.1 = 0 ∧ ck_ord z.2.2.2.2.1.2.2.2.1 0 = true ∧ ∀ (τ : List Int) (Γ : ck_G) (B : Int) (h : cz_H) (cas : List Value), ck_HT E B Γ h → 0 ≤ B → (h.length : Int) + (z.2.2.1.1 : Int) ≤ ck_HM → B + (z.2.2.1.2.2 : Int) ≤ ck_BM → τ.length = z.2.2.2.2.1.2.1.length → (∀ (j : Nat) (b : Int × Int), z.2.2.2.2.1.2.1[j]? = some b → b.1 ≤ τ.getD j 0 ∧ τ.getD j 0 ≤ b.2) → (∀ f ∈ z.2.2.2.2.1.2.2.1, ∀ σ, ck_ev (τ ++ σ) f ≤ 0) → ck_Pf E Γ τ (ck_a2 z.2.2.2.2.1.2.2.2.1) cas → ck_Ms E Γ h τ z.2.2.2.2.1.2.2.2.2 → cz_W E z.2.1 z.1 0 (lv_args 0 cas) [] h (ck_Zp E z τ Γ h B)
section CKR2
variable {E : cz_E} {Γ Γ' : ck_G} {B : Int} {ρ τ : List Int} {θ : List ck_A} {n : ck_N} {es : List ck_Q} {h h' : cz_H} {st : List ck_V} {cst : List Value} {lv : ck_LV} {clv : cz_LV}
theorem ck_ends_ok {z : ck_Z} {p : List (Int × Int) × Option ck_V × List ck_Q × List ck_A} {o : ck_N × Option ck_V × List ck_Q} {τ2 : List Int} {cv : Option Value} (H : ck_TH ρ θ τ) (hl : ρ.length = n.1.length) (hn : ∀ σ, ck_nok n (ρ ++ σ)) (t : ck_HT E B Γ h) (hm : ck_Ms E Γ h ρ es) (hx : ck_ext Γ Γ') (fr : ck_Fr z.2.2.2.1 Γ h h') (a1 : τ2.length = p.1.length) (a2 : ∀ (j : Nat) (b : Int × Int), p.1[j]? = some b → b.1 ≤ τ2.getD j 0 ∧ τ2.getD j 0 ≤ b.2) (a3 : ∀ f ∈ p.2.2.2, ∀ σ, ck_ev ((τ ++ τ2) ++ σ) f ≤ 0) (a4 : ck_VR E Γ' (τ ++ τ2) p.2.1 cv) (a5 : ck_Ms E Γ' h' (τ ++ τ2) p.2.2.1) (e : ck_ends n es z θ p = some o) : ((ρ ++ τ2).length = o.1.1.length ∧ ∀ σ, ck_nok o.1 ((ρ ++ τ2) ++ σ)) ∧ ck_VR E Γ' (ρ ++ τ2) o.2.1 cv ∧ ck_Ms E Γ' h' (ρ ++ τ2) o.2.2 := by
  have H1 := ck_TH.more (τ2 := τ2) H
  rw [a1, hl] at H1
  unfold ck_ends at e
  dsimp only at e
  obtain ⟨e', he, e1⟩ := cz_so_some e
  obtain ⟨fs, hf, e2⟩ := cz_so_some e1
  have K := ck_nok_app hl hn a2 a1 (ck_sbf_ok H1 a3 hf)
  have M : ck_Ms E Γ' h' (ρ ++ τ2) (e' ++ es.filter (ck_kw z.2.2.2.1)) := by
    intro q hq σ
    rcases List.mem_append.mp hq with hq | hq
    · exact ck_sbqs_ok H1 a5 he q hq σ
    · obtain ⟨g1, g2⟩ := List.mem_filter.mp hq
      rw [List.append_assoc]
      exact ck_kw_ok (hm q g1 _) t hx fr g2
  obtain ⟨p1, pv, pe, pf⟩ := p
  cases pv with
  | none =>
    cases e2
    refine ⟨K, ?_, M⟩
    cases cv with
    | none => trivial
    | some _ => exact a4.elim
  | some v =>
    obtain ⟨w, hw, e3⟩ := cz_so_some e2
    cases e3
    refine ⟨K, ?_, M⟩
    cases cv with
    | none => exact a4.elim
    | some x => exact ck_sbv_ok H1 a4 hw
theorem ck_fz_ok {as : ck_LV} {mj : Nat} {z : ck_Z × List ck_A} : ∀ {l : List ck_Z}, ck_fz n es as mj l = some z → z.1 ∈ l ∧ z.1.1 = mj ∧ ck_mt n as es z.1.2.2.2.2.1 = some z.2
  | [], e => by cases e
  | a :: l, e => by
    unfold ck_fz at e
    split at e
    · next hm =>
      have hm : a.1 = mj := by simpa using hm
      split at e
      · next θ hθ =>
        cases e
        exact ⟨List.mem_cons_self, hm, hθ⟩
      · obtain ⟨h1, h2⟩ := ck_fz_ok e
        exact ⟨List.mem_cons_of_mem _ h1, h2⟩
    · obtain ⟨h1, h2⟩ := ck_fz_ok e
      exact ⟨List.mem_cons_of_mem _ h1, h2⟩
theorem ck_ftg_mem {pc : Nat} {t : ck_tg} : ∀ {l : List ck_tg}, ck_ftg l pc = some t → t ∈ l ∧ t.1 = pc
  | [], e => by cases e
  | a :: l, e => by
    unfold ck_ftg at e
    split at e
    · next hm =>
      cases e
      exact ⟨List.mem_cons_self, by simpa using hm⟩
    · obtain ⟨h1, h2⟩ := ck_ftg_mem e
      exact ⟨List.mem_cons_of_mem _ h1, h2⟩
theorem ck_cc_ok {α : Type} {g : α → Option (List ck_O)} : ∀ {l : List α} {os : List ck_O}, ck_cc g l = some os → ∀ a ∈ l, ∃ x, g a = some x ∧ ∀ o ∈ x, o ∈ os
  | [], _, _, _, ha => by cases ha
  | b :: l, os, e, a, ha => by
    unfold ck_cc at e
    obtain ⟨x, hx, e1⟩ := cz_so_some e
    obtain ⟨y, hy, e2⟩ := cz_so_some e1
    cases e2
    rcases List.mem_cons.mp ha with rfl | ha
    · exact ⟨x, hx, fun o ho => List.mem_append.mpr (Or.inl ho)⟩
    · obtain ⟨x', h1, h2⟩ := ck_cc_ok hy a ha
      exact ⟨x', h1, fun o ho => List.mem_append.mpr (Or.inr (h2 o ho))⟩
theorem ck_em (hs : ck_Ls (ck_Ds E Γ ρ) st cst) (h : st.isEmpty = true) : cst = [] := by
  cases st with
  | nil => cases cst with
    | nil => rfl
    | cons _ _ => exact hs.elim
  | cons _ _ => cases h
theorem ck_lk_mem {i : Nat} {v : ck_V} : ∀ {l : ck_LV}, ck_lk l i = some v → (i, v) ∈ l
  | [], e => by cases e
  | q :: l, e => by
    unfold ck_lk at e
    split at e
    · next hq =>
      cases e
      rw [← hq]
      exact List.mem_cons_self
    · exact List.mem_cons_of_mem _ (ck_lk_mem e)
theorem ck_LR_ext (hL : ∀ σ, ck_LR E Γ (ρ ++ σ) lv clv) (hx : ck_ext Γ Γ') : ∀ σ, ck_LR E Γ' (ρ ++ σ) lv clv := by
  intro σ i v e
  obtain ⟨x, h1, h2⟩ := hL σ i v e
  exact ⟨x, h1, h2.mono hx⟩
theorem ck_pm_ok {m : ck_md} : ∀ {ms : List ck_md}, ck_pm n lv es ms = some m → ∃ (d : ck_dj) (l : List ck_dj) (k : ck_H × ck_A) (θ : List ck_A), m.2.2.2.2 = d :: l ∧ ck_hd n lv es m.1 d = some k ∧ ck_mt n lv es k.1 = some θ ∧ ck_ab θ.length k.2 = true ∧ ((m.2.2.2.1.1 = 0 ∧ m.2.2.2.1.2.1 = 0 ∧ m.2.2.2.1.2.2 = 0) ∨ ck_le n (ck_sub (ck_sb θ k.2) (ck_c (m.2.1 : Int))) = true)
  | [], e => by cases e
  | a :: l, e => by
    unfold ck_pm at e
    split at e
    · next ht =>
      cases e
      split at ht
      · next d l' hd =>
        split at ht
        · next k hk =>
          split at ht
          · next θ hθ =>
            simp only [Bool.and_eq_true, Bool.or_eq_true, beq_iff_eq] at ht
            refine ⟨d, l', k, θ, hd, hk, hθ, ht.1, ?_⟩
            rcases ht.2 with q | q
            · exact Or.inl ⟨q.1.1, q.1.2, q.2⟩
            · exact Or.inr q
          · cases ht
        · cases ht
      · cases ht
    · exact ck_pm_ok e
theorem ck_hd_len {HW : List (Nat × Nat)} {d : ck_dj} {k : ck_H × ck_A} (e : ck_hd n lv es HW d = some k) : k.1.1 = n.1.length := by
  unfold ck_hd at e
  dsimp only at e
  obtain ⟨z, -, e1⟩ := cz_so_some e
  obtain ⟨fs, -, e2⟩ := cz_so_some e1
  obtain ⟨rk, -, e3⟩ := cz_so_some e2
  cases e3
  rfl
theorem ck_hds_ok {HW : List (Nat × Nat)} : ∀ {l : List ck_dj} {hs : List (ck_H × ck_A)}, ck_hds n lv es HW l = some hs → (∀ k ∈ hs, k.1.1 = n.1.length) ∧ ∀ d l', l = d :: l' → ∀ k, ck_hd n lv es HW d = some k → k ∈ hs
  | [], hs, e => by
    cases e
    exact ⟨fun k hk => (by cases hk), fun d l' e => (by cases e)⟩
  | a :: l, hs, e => by
    unfold ck_hds at e
    obtain ⟨k, hk, e1⟩ := cz_so_some e
    obtain ⟨r, hr, e2⟩ := cz_so_some e1
    cases e2
    obtain ⟨h1, -⟩ := ck_hds_ok hr
    refine ⟨fun k' hk' => ?_, fun d l' el k' hk' => ?_⟩
    · rcases List.mem_cons.mp hk' with rfl | hk'
      · exact ck_hd_len hk
      · exact h1 k' hk'
    · cases el
      cases hk.symm.trans hk'
      exact List.mem_cons_self
theorem ck_pay {H0 : Int} {u R R2 st c : Nat} (h : R2 + st ≤ R) : H0 - ((u * R : Nat) : Int) + ((c + u * st : Nat) : Int) ≤ H0 - ((u * R2 : Nat) : Int) + ((c : Nat) : Int) := by
  have := Nat.mul_le_mul_left u h
  rw [Nat.mul_add] at this
  generalize u * R = x at *
  generalize u * R2 = y at *
  generalize u * st = z at *
  omega
theorem ck_pay0 {H0 : Int} {u R b c : Nat} (h : u = 0 ∨ R ≤ b) : H0 + (c : Int) ≤ H0 - ((u * R : Nat) : Int) + ((c + u * b : Nat) : Int) := by
  have : u * R ≤ u * b := by
    rcases h with h | h
    · rw [h, Nat.zero_mul, Nat.zero_mul]
      exact Nat.le_refl _
    · exact Nat.mul_le_mul_left u h
  generalize u * R = x at *
  generalize u * b = y at *
  omega
end CKR2
