/-! runs of the clean machine, goal first -/
theorem cz_go_fuel {E : cz_E} : ∀ (f : Nat) {d mi pc : Nat} {lv : cz_LV} {st : List Value} {h : cz_H} {r : Option Value × cz_H}, cz_go E f d mi pc lv st h = some r → ∀ k : Nat, cz_go E (f + k) d mi pc lv st h = some r := by
  intro f
  induction f with
  | zero => intro d mi pc lv st h r g; cases g
  | succ f ih =>
    intro d mi pc lv st h r g k
    rw [show f + 1 + k = (f + k) + 1 by omega]
    unfold cz_go at g ⊢
    cases hq : cz_ft2 (cz_cd mi) pc with
    | none => rw [hq] at g; cases g
    | some q =>
      rw [hq] at g
      simp only at g ⊢
      cases h1 : cz_s1 E (cz_mf mi).2.2.2.2.1 q lv st with
      | some x =>
        obtain ⟨pc', lv', st'⟩ := x
        rw [h1] at g
        exact ih g k
      | none =>
        rw [h1] at g
        simp only at g ⊢
        cases h2 : cz_s2 E q st h with
        | some x =>
          obtain ⟨pc', st', h'⟩ := x
          rw [h2] at g
          exact ih g k
        | none =>
          rw [h2] at g
          simp only at g ⊢
          cases h3 : cz_s3 E q st h with
          | none => rw [h3] at g; cases g
          | some x =>
            rw [h3] at g
            cases x with
            | inr v => exact g
            | inl x =>
              obtain ⟨mj, as, rr⟩ := x
              cases d with
              | zero => cases g
              | succ d' =>
                simp only at g ⊢
                cases h4 : cz_go E f d' mj 0 (lv_args 0 as) [] h with
                | none => rw [h4] at g; cases g
                | some y =>
                  obtain ⟨v1, h1'⟩ := y
                  rw [h4] at g
                  rw [ih h4 k]
                  exact ih g k
theorem cz_go_deep {E : cz_E} : ∀ (f : Nat) {d mi pc : Nat} {lv : cz_LV} {st : List Value} {h : cz_H} {r : Option Value × cz_H}, cz_go E f d mi pc lv st h = some r → cz_go E f (d + 1) mi pc lv st h = some r := by
  intro f
  induction f with
  | zero => intro d mi pc lv st h r g; cases g
  | succ f ih =>
    intro d mi pc lv st h r g
    unfold cz_go at g ⊢
    cases hq : cz_ft2 (cz_cd mi) pc with
    | none => rw [hq] at g; cases g
    | some q =>
      rw [hq] at g
      simp only at g ⊢
      cases h1 : cz_s1 E (cz_mf mi).2.2.2.2.1 q lv st with
      | some x =>
        obtain ⟨pc', lv', st'⟩ := x
        rw [h1] at g
        exact ih g
      | none =>
        rw [h1] at g
        simp only at g ⊢
        cases h2 : cz_s2 E q st h with
        | some x =>
          obtain ⟨pc', st', h'⟩ := x
          rw [h2] at g
          exact ih g
        | none =>
          rw [h2] at g
          simp only at g ⊢
          cases h3 : cz_s3 E q st h with
          | none => rw [h3] at g; cases g
          | some x =>
            rw [h3] at g
            cases x with
            | inr v => exact g
            | inl x =>
              obtain ⟨mj, as, rr⟩ := x
              cases d with
              | zero => cases g
              | succ d' =>
                simp only at g ⊢
                cases h4 : cz_go E f d' mj 0 (lv_args 0 as) [] h with
                | none => rw [h4] at g; cases g
                | some y =>
                  obtain ⟨v1, h1'⟩ := y
                  rw [h4] at g
                  rw [ih h4]
                  exact ih g
/-- it comes to its return, with Post -/
def cz_W (E : cz_E) (d mi pc : Nat) (lv : cz_LV) (st : List Value) (h : cz_H) (Post : Option Value → cz_H → Prop) : Prop := ∃ (f : Nat) (v : Option Value) (h' : cz_H), cz_go E f d mi pc lv st h = some (v, h') ∧ Post v h'
section CZW
variable {E : cz_E} {d mi pc : Nat} {lv : cz_LV} {st : List Value} {h : cz_H} {Post : Option Value → cz_H → Prop}
theorem cz_W.imp {Post2 : Option Value → cz_H → Prop} (w : cz_W E d mi pc lv st h Post) (hp : ∀ v h', Post v h' → Post2 v h') : cz_W E d mi pc lv st h Post2 := by
  obtain ⟨f, v, h', g, p⟩ := w
  exact ⟨f, v, h', g, hp v h' p⟩
theorem cz_W.deep (w : cz_W E d mi pc lv st h Post) (k : Nat) : cz_W E (d + k) mi pc lv st h Post := by
  obtain ⟨f, v, h', g, p⟩ := w
  induction k with
  | zero => exact ⟨f, v, h', g, p⟩
  | succ k ih =>
    obtain ⟨f, v, h', g, p⟩ := ih
    exact ⟨f, v, h', cz_go_deep f g, p⟩
theorem cz_W.one {q : cz_I} {pc' : Nat} {lv' : cz_LV} {st' : List Value} (hq : cz_ft2 (cz_cd mi) pc = some q) (h1 : cz_s1 E (cz_mf mi).2.2.2.2.1 q lv st = some (pc', lv', st')) (w : cz_W E d mi pc' lv' st' h Post) : cz_W E d mi pc lv st h Post := by
  obtain ⟨f, v, h', g, p⟩ := w
  refine ⟨f + 1, v, h', ?_, p⟩
  unfold cz_go
  rw [hq]
  simp only
  rw [h1]
  exact g
theorem cz_W.two {q : cz_I} {pc' : Nat} {st' : List Value} {h1 : cz_H} (hq : cz_ft2 (cz_cd mi) pc = some q) (e1 : cz_s1 E (cz_mf mi).2.2.2.2.1 q lv st = none) (e2 : cz_s2 E q st h = some (pc', st', h1)) (w : cz_W E d mi pc' lv st' h1 Post) : cz_W E d mi pc lv st h Post := by
  obtain ⟨f, v, h', g, p⟩ := w
  refine ⟨f + 1, v, h', ?_, p⟩
  unfold cz_go
  rw [hq]
  simp only
  rw [e1]
  simp only
  rw [e2]
  exact g
theorem cz_W.ret {q : cz_I} {v : Option Value} (hq : cz_ft2 (cz_cd mi) pc = some q) (e1 : cz_s1 E (cz_mf mi).2.2.2.2.1 q lv st = none) (e2 : cz_s2 E q st h = none) (e3 : cz_s3 E q st h = some (.inr v)) (p : Post v h) : cz_W E d mi pc lv st h Post := by
  refine ⟨1, v, h, ?_, p⟩
  unfold cz_go
  rw [hq]
  simp only
  rw [e1]
  simp only
  rw [e2]
  simp only
  rw [e3]
theorem cz_W.call {q : cz_I} {mj : Nat} {as rr : List Value} (hq : cz_ft2 (cz_cd mi) pc = some q) (e1 : cz_s1 E (cz_mf mi).2.2.2.2.1 q lv st = none) (e2 : cz_s2 E q st h = none) (e3 : cz_s3 E q st h = some (.inl (mj, as, rr)))
    (w : cz_W E d mj 0 (lv_args 0 as) [] h (fun v h' => cz_W E (d + 1) mi (pc + 3) lv (v.toList ++ rr) h' Post)) : cz_W E (d + 1) mi pc lv st h Post := by
  obtain ⟨f1, v1, h1, g1, f2, v, h', g2, p⟩ := w
  refine ⟨(f1 + f2) + 1, v, h', ?_, p⟩
  unfold cz_go
  rw [hq]
  simp only
  rw [e1]
  simp only
  rw [e2]
  simp only
  rw [e3]
  simp only
  rw [cz_go_fuel f1 g1 f2]
  simp only
  rw [Nat.add_comm f1 f2]
  exact cz_go_fuel f2 g2 f1
end CZW
