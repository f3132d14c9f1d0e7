/-! FX: what a call of both sides does, answers alike and keeps what they share -/
theorem fx_l_hk {S : fx_S} (h : fx_RI S) : ∀ k : Int, 0 ≤ k → k < 3 → S.2.1 49 k = -1 ∨ 91 ≤ S.2.1 49 k := fun k k0 k1 => ((fx_iI h).1 k k0 k1).elim (fun q => .inl q.2) (fun q => .inr q.2.1)
theorem fx_l_keep {S A Z : fx_S} {a z1 z2 : Int} (h : fx_RI S) (p1 : s101 S a z1 A) (p2 : s102 A a z2 Z) : z1 = z2 ∧ fx_RI Z := by
  have hk := fx_l_hk h
  unfold s101 at p1
  unfold s102 at p2
  obtain ⟨q2, f2, p2⟩ := p2
  rcases p1 h.2.1 hk with ⟨a1, a2, a3⟩ | ⟨a1, a2, a3, v, hv, ar, af, ac⟩
  · obtain rfl := a3.symm
    rcases p2 with ⟨b1, b2, b3⟩ | ⟨b1, b2, b3, b4, b5⟩
    · obtain rfl := b3.symm
      exact ⟨by omega, h⟩
    · exact absurd ⟨b2, b3⟩ a2
  · rcases p2 with ⟨b1, b2, b3⟩ | ⟨b1, b2, b3, b4, b5⟩
    · exact absurd ⟨a2, a3⟩ b2
    · exact ⟨by omega, fx_RI_keep h a2 a3 hv ar af ac q2 (fun p i hp => f2 p i (by omega)) b4 b5⟩
theorem fx_l_back {S A Z : fx_S} {a z1 z2 : Int} (h : fx_RI S) (p1 : s103 S a z1 A) (p2 : s104 A a z2 Z) : z1 = z2 ∧ fx_RI Z := by
  have hk := fx_l_hk h
  unfold s103 at p1
  unfold s104 at p2
  obtain ⟨q2, f2, p2⟩ := p2
  rcases p1 hk with ⟨a1, a2, a3⟩ | ⟨a1, a2, a4, a5, a3⟩ | ⟨a1, a2, a3, a4, ar, an, af, ac⟩
  · obtain rfl := a3.symm
    rcases p2 with ⟨b1, b2, b3⟩ | ⟨b1, b2, b3, b4, b5⟩ | ⟨b1, b2, b3, b4, b5⟩
    · obtain rfl := b3.symm
      exact ⟨by omega, h⟩
    · exact absurd ⟨b2, b3⟩ a2
    · exact absurd ⟨b2, b3⟩ a2
  · obtain rfl := a3.symm
    have q := (fx_iI h).1 a a2 a4
    rcases p2 with ⟨b1, b2, b3⟩ | ⟨b1, b2, b3, b4, b5⟩ | ⟨b1, b2, b3, b4, b5⟩
    · exact absurd ⟨a2, a4⟩ b2
    · obtain rfl := b5.symm
      exact ⟨by omega, h⟩
    · rcases q with q | q
      · exact absurd q.1 b4
      · omega
  · have q := (fx_iI h).1 a a2 a3
    have q9 : A.1 69 a = S.1 69 a := af _ _ (by omega)
    rcases p2 with ⟨b1, b2, b3⟩ | ⟨b1, b2, b3, b4, b5⟩ | ⟨b1, b2, b3, b4, b5⟩
    · exact absurd ⟨a2, a3⟩ b2
    · rw [q9] at b4
      rcases q with q | q
      · exact absurd q.2 a4
      · exact absurd b4 q.1
    · rw [q9] at b4
      exact ⟨by omega, fx_RI_back h a2 a3 b4 ar an af ac q2 (fun p i hp => f2 p i (by omega)) b5⟩
theorem fx_l_next {S A Z : fx_S} {a z1 z2 : Int} (h : fx_RI S) (p1 : s5 S a z1 A) (p2 : s6 A a z2 Z) : z1 = z2 ∧ fx_Rd Z.1 1 (Z.1 67) ∧ S.1 67 0 ≤ Z.1 67 0 := by
  unfold s5 at p1
  unfold s6 at p2
  have hW := fx_WB_n (fx_iW h)
  have rd := fx_iRd h
  have d0 : S.1 1 0 = S.1 67 0 := rd.1
  have dd := rd.2
  have v0 : S.1 2 0 = S.1 67 1 := (fx_iRv h).1
  have p0 : S.1 13 0 = S.1 67 2 := (fx_iRp h).1
  have h0 : S.1 38 0 = S.1 67 5 := (fx_iRh h).1
  obtain ⟨q1, f1, p1⟩ := p1
  have BA : fx_WB A := fx_WB_eq (fx_iW h) (fun q => f1 67 q (by omega)) (fun q => f1 68 q (by omega)) (fun q => f1 69 q (by omega))
  have hA : A.1 67 = S.1 67 := funext fun i => f1 67 i (by omega)
  obtain ⟨q2, f2, BZ, p2⟩ := p2 BA
  rw [hA] at p2
  have u := p1 (by omega) (by omega)
  have v := p2 (by omega) (by omega)
  have e10 : Z.1 1 0 = A.1 1 0 := f2 1 0 (by omega)
  by_cases c : 0 ≤ a ∧ S.1 1 0 + a ≤ 3599
  · rw [if_pos c] at u
    rw [if_pos (by omega)] at v
    exact ⟨by omega, ⟨(show Z.1 1 0 = Z.1 67 0 by omega), by omega, by omega⟩, by omega⟩
  · rw [if_neg c] at u
    rw [if_neg (by omega)] at v
    obtain rfl := u.2.symm
    obtain rfl := v.2.symm
    exact ⟨by omega, rd, Int.le_refl _⟩
theorem fx_l_village {S A Z : fx_S} {a b c z1 z2 : Int} (h : fx_RI S) (p1 : s7 S a b c z1 A) (p2 : s8 A a b c z2 Z) : z1 = z2 ∧ fx_Rv Z.1 1 (Z.1 67) ∧ S.1 67 1 ≤ Z.1 67 1 := by
  unfold s7 at p1
  unfold s8 at p2
  have hW := fx_WB_n (fx_iW h)
  have rd := fx_iRd h
  have d0 : S.1 1 0 = S.1 67 0 := rd.1
  have dd := rd.2
  have v0 : S.1 2 0 = S.1 67 1 := (fx_iRv h).1
  have p0 : S.1 13 0 = S.1 67 2 := (fx_iRp h).1
  have h0 : S.1 38 0 = S.1 67 5 := (fx_iRh h).1
  obtain ⟨q1, f1, p1⟩ := p1
  have BA : fx_WB A := fx_WB_eq (fx_iW h) (fun q => f1 67 q (by omega)) (fun q => f1 68 q (by omega)) (fun q => f1 69 q (by omega))
  have hA : A.1 67 = S.1 67 := funext fun i => f1 67 i (by omega)
  obtain ⟨q2, f2, BZ, p2⟩ := p2 BA
  rw [hA] at p2
  rcases p1 with ⟨a1, a2, a3⟩ | ⟨a1, ⟨a2, a3, a4⟩ | ⟨a2, a3, a4, a5⟩⟩
  · obtain rfl := a3.symm
    rcases p2 with ⟨b1, b2, b3⟩ | ⟨b1, b2⟩
    · obtain rfl := b3.symm
      exact ⟨by omega, fx_iRv h, Int.le_refl _⟩
    · exact absurd b1 a2
  · obtain rfl := a4.symm
    rcases p2 with ⟨b1, b2, b3⟩ | ⟨b1, ⟨b2, b3, b4⟩ | ⟨b2, b3, b4⟩⟩
    · exact absurd a1 b2
    · obtain rfl := b4.symm
      exact ⟨by omega, fx_iRv h, Int.le_refl _⟩
    · omega
  · rcases p2 with ⟨b1, b2, b3⟩ | ⟨b1, ⟨b2, b3, b4⟩ | ⟨b2, b3, b4⟩⟩
    · exact absurd a1 b2
    · omega
    · have hw : Z.1 67 = fx_viw (S.1 67) a b c := funext b4
      rw [hw]
      refine ⟨by omega, fx_Rv_add (by omega) (fx_iRv h) ((f2 2 0 (by omega)).trans a4) (fun i => ?_), ?_⟩
      · rw [f2 3 i (by omega), f2 4 i (by omega), f2 5 i (by omega)]
        exact a5 i
      · show S.1 67 1 ≤ fx_viw (S.1 67) a b c 1
        unfold fx_viw
        rw [if_pos rfl]
        omega
theorem fx_l_moved {S A Z : fx_S} {a b z1 z2 : Int} (h : fx_RI S) (p1 : s9 S a b z1 A) (p2 : s10 A a b z2 Z) : z1 = z2 ∧ fx_Rm Z.1 1 (Z.1 67) := by
  unfold s9 at p1
  unfold s10 at p2
  have hW := fx_WB_n (fx_iW h)
  have rd := fx_iRd h
  have d0 : S.1 1 0 = S.1 67 0 := rd.1
  have dd := rd.2
  have v0 : S.1 2 0 = S.1 67 1 := (fx_iRv h).1
  have p0 : S.1 13 0 = S.1 67 2 := (fx_iRp h).1
  have h0 : S.1 38 0 = S.1 67 5 := (fx_iRh h).1
  obtain ⟨q1, f1, p1⟩ := p1
  have BA : fx_WB A := fx_WB_eq (fx_iW h) (fun q => f1 67 q (by omega)) (fun q => f1 68 q (by omega)) (fun q => f1 69 q (by omega))
  have hA : A.1 67 = S.1 67 := funext fun i => f1 67 i (by omega)
  obtain ⟨q2, f2, BZ, p2⟩ := p2 BA
  rw [hA] at p2
  have p1 := p1 (by omega)
  have m0 : S.1 2 4 = S.1 67 6 := (fx_iRm h).1
  rcases p1 with ⟨a1, a2, a3⟩ | ⟨a1, ⟨a2, a3, a4⟩ | ⟨a2, a3, a4, a5⟩⟩
  · obtain rfl := a3.symm
    rcases p2 with ⟨b1, b2, b3⟩ | ⟨b1, b2⟩
    · obtain rfl := b3.symm
      exact ⟨by omega, fx_iRm h⟩
    · omega
  · obtain rfl := a4.symm
    rcases p2 with ⟨b1, b2, b3⟩ | ⟨b1, ⟨b2, b3, b4⟩ | ⟨b2, b3, b4⟩⟩
    · omega
    · obtain rfl := b4.symm
      exact ⟨by omega, fx_iRm h⟩
    · omega
  · rcases p2 with ⟨b1, b2, b3⟩ | ⟨b1, ⟨b2, b3, b4⟩ | ⟨b2, b3, b4⟩⟩
    · omega
    · omega
    · have hw : Z.1 67 = fx_mow (S.1 67) a b := funext b4
      rw [hw]
      refine ⟨by omega, fx_Rm_add (by omega) (fx_iRm h) ((f2 2 4 (by omega)).trans a4) (fun i => ?_)⟩
      rw [f2 6 i (by omega), f2 7 i (by omega), f2 8 i (by omega), ← d0]
      exact a5 i
theorem fx_l_oath {S A Z : fx_S} {a b z1 z2 : Int} (h : fx_RI S) (p1 : s23 S a b z1 A) (p2 : s24 A a b z2 Z) : z1 = z2 ∧ fx_Rp Z.1 1 (Z.1 67) := by
  unfold s23 at p1
  unfold s24 at p2
  have hW := fx_WB_n (fx_iW h)
  have rd := fx_iRd h
  have d0 : S.1 1 0 = S.1 67 0 := rd.1
  have dd := rd.2
  have v0 : S.1 2 0 = S.1 67 1 := (fx_iRv h).1
  have p0 : S.1 13 0 = S.1 67 2 := (fx_iRp h).1
  have h0 : S.1 38 0 = S.1 67 5 := (fx_iRh h).1
  obtain ⟨q1, f1, p1⟩ := p1
  have BA : fx_WB A := fx_WB_eq (fx_iW h) (fun q => f1 67 q (by omega)) (fun q => f1 68 q (by omega)) (fun q => f1 69 q (by omega))
  have hA : A.1 67 = S.1 67 := funext fun i => f1 67 i (by omega)
  obtain ⟨q2, f2, BZ, p2⟩ := p2 BA
  rw [hA] at p2
  have p1 := p1 (by omega)
  rcases p1 with ⟨a1, a2, a3⟩ | ⟨a1, ⟨a2, a3, a4⟩ | ⟨a2, a3, a4, a5⟩⟩
  · obtain rfl := a3.symm
    rcases p2 with ⟨b1, b2, b3⟩ | ⟨b1, b2⟩
    · obtain rfl := b3.symm
      exact ⟨by omega, fx_iRp h⟩
    · omega
  · obtain rfl := a4.symm
    rcases p2 with ⟨b1, b2, b3⟩ | ⟨b1, ⟨b2, b3, b4⟩ | ⟨b2, b3, b4⟩⟩
    · omega
    · obtain rfl := b4.symm
      exact ⟨by omega, fx_iRp h⟩
    · omega
  · rcases p2 with ⟨b1, b2, b3⟩ | ⟨b1, ⟨b2, b3, b4⟩ | ⟨b2, b3, b4⟩⟩
    · omega
    · omega
    · have hw : Z.1 67 = fx_addw (S.1 67) a b := funext b4
      rw [hw]
      refine ⟨by omega, fx_Rp_add (fx_iW h).1 (fx_iRp h) dd.1 (by omega) (by omega) ((f2 13 0 (by omega)).trans a4) (fun i => ?_) (fun i => (f2 20 i (by omega)).trans (f1 20 i (by omega)))⟩
      rw [f2 14 i (by omega), f2 15 i (by omega), f2 16 i (by omega), f2 17 i (by omega), f2 18 i (by omega), f2 19 i (by omega), ← d0]
      exact a5 i
theorem fx_l_oaths {S A Z : fx_S} {a z1 z2 : Int} (h : fx_RI S) (p1 : s25 S a z1 A) (p2 : s26 A a z2 Z) : z1 = z2 ∧ fx_Rp Z.1 1 (Z.1 67) := by
  unfold s25 at p1
  unfold s26 at p2
  have hW := fx_WB_n (fx_iW h)
  have rd := fx_iRd h
  have d0 : S.1 1 0 = S.1 67 0 := rd.1
  have dd := rd.2
  have v0 : S.1 2 0 = S.1 67 1 := (fx_iRv h).1
  have p0 : S.1 13 0 = S.1 67 2 := (fx_iRp h).1
  have h0 : S.1 38 0 = S.1 67 5 := (fx_iRh h).1
  obtain ⟨q1, f1, p1⟩ := p1
  have BA : fx_WB A := fx_WB_eq (fx_iW h) (fun q => f1 67 q (by omega)) (fun q => f1 68 q (by omega)) (fun q => f1 69 q (by omega))
  have hA : A.1 67 = S.1 67 := funext fun i => f1 67 i (by omega)
  obtain ⟨q2, f2, BZ, p2⟩ := p2 BA
  rw [hA] at p2
  obtain ⟨s1, s2, s3, s4⟩ := fx_iS h
  have g87 : A.1 87 a = S.1 54 a := (f1 87 a (by omega)).trans (s1 a).symm
  have g89 : (fun i => A.1 89 (60 * a + i)) = (fun i => S.1 55 (60 * a + i)) := funext fun i => (f1 89 _ (by omega)).trans (s3 _).symm
  have u := p1 (S.1 67) (fx_iW h).1 rd v0 (fx_iRp h) (fun a0 a1 => by rw [s1]; exact s4 a a0 a1)
  have v := p2 (fun a0 a1 => by rw [g87, s1]; exact s4 a a0 a1)
  rw [g87, g89] at v
  have e : ∀ p i : Int, 13 ≤ p → p ≤ 20 → Z.1 p i = A.1 p i := fun p i _ _ => f2 p i (by omega)
  have tr : ∀ w : Int → Int, fx_Rp A.1 1 w → fx_WBf w → fx_Rp Z.1 1 w := fun w hw hb => fx_Rp_eq hb hw (fun j i _ j0 j1 => e _ _ (by omega) (by omega)) (fun i _ => rfl) (Int.le_refl _) (Int.le_refl _) (Int.le_refl _)
  by_cases c : 0 ≤ a ∧ a < 4
  · rw [if_pos c] at u v
    by_cases c2 : S.1 54 a = -1
    · rw [if_pos c2] at u v
      have hz : Z.1 67 = S.1 67 := by rw [v.2, hA]
      exact ⟨by omega, by rw [hz]; exact tr _ u.2 (fx_iW h).1⟩
    · rw [if_neg c2] at u v
      have hz := funext v.2
      refine ⟨by omega, ?_⟩
      rw [hz]
      exact tr _ u.2 (by rw [← hz]; exact BZ.1)
  · rw [if_neg c] at u v
    have hz : Z.1 67 = S.1 67 := by rw [v.2, hA]
    exact ⟨by omega, by rw [hz]; exact tr _ u.2 (fx_iW h).1⟩
theorem fx_l_leave {S A Z : fx_S} {a z1 z2 : Int} (h : fx_RI S) (p1 : s27 S a z1 A) (p2 : s28 A a z2 Z) : z1 = z2 ∧ fx_Rp Z.1 1 (Z.1 67) := by
  unfold s27 at p1
  unfold s28 at p2
  have hW := fx_WB_n (fx_iW h)
  have rd := fx_iRd h
  have d0 : S.1 1 0 = S.1 67 0 := rd.1
  have dd := rd.2
  have v0 : S.1 2 0 = S.1 67 1 := (fx_iRv h).1
  have p0 : S.1 13 0 = S.1 67 2 := (fx_iRp h).1
  have h0 : S.1 38 0 = S.1 67 5 := (fx_iRh h).1
  obtain ⟨q1, f1, p1⟩ := p1
  have BA : fx_WB A := fx_WB_eq (fx_iW h) (fun q => f1 67 q (by omega)) (fun q => f1 68 q (by omega)) (fun q => f1 69 q (by omega))
  have hA : A.1 67 = S.1 67 := funext fun i => f1 67 i (by omega)
  obtain ⟨q2, f2, BZ, p2⟩ := p2 BA
  rw [hA] at p2
  have u := p1 (by omega)
  by_cases c : 0 ≤ a ∧ a < S.1 67 2
  · obtain ⟨r1, r2, r3, r4, r5, r6, r7, r8, r9⟩ := fx_iRp h
    have b := r8 a c.1 c.2
    unfold fx_Bp at b
    have t4 : S.1 16 a = S.1 67 (302 + 10 * a) := r4 a c.1 c.2
    have t5 : S.1 17 a = fx_nev (S.1 67 (303 + 10 * a)) := r5 a c.1 c.2
    have nv := fx_nev_day (d := S.1 67 0) b.2.2.2.1 dd.2
    by_cases c2 : S.1 67 (303 + 10 * a) = -1
    · rw [if_pos (by rw [t4, t5, d0, p0]; exact ⟨c, b.2.2.1.2, nv.mpr (.inl c2)⟩)] at u
      rw [if_pos ⟨c.1, c.2, c2⟩] at p2
      refine ⟨by omega, fx_Rp_set (c := 3) (v := S.1 67 0) (u := S.1 67 0) (fx_iW h).1 (fx_iRp h) c.1 c.2 (.inl rfl) (fun i => by rw [p2.2 i, show (300 : Int) + 3 + 10 * a = 303 + 10 * a by omega]) (fun i => ⟨(f2 13 i (by omega)).trans (f1 13 i (by omega)), (f2 14 i (by omega)).trans (f1 14 i (by omega)), (f2 15 i (by omega)).trans (f1 15 i (by omega)), ?_, ?_, (f2 16 i (by omega)).trans (f1 16 i (by omega)), (f2 19 i (by omega)).trans (f1 19 i (by omega)), (f2 20 i (by omega)).trans (f1 20 i (by omega))⟩) (fun _ => ⟨?_, by omega⟩) (fun q => by omega)⟩
      · rw [if_pos rfl, f2 17 i (by omega), u.2 i, d0]
      · rw [f2 18 i (by omega), f1 18 i (by omega)]
        by_cases hi : i = a
        · rw [if_pos hi]; rfl
        · rw [if_neg hi]
      · unfold fx_nev
        rw [if_neg (by omega)]
    · rw [if_neg (fun q => c2 (by
        have q2 := q.2.2
        rw [t5, d0] at q2
        rcases nv.mp q2 with k | k
        · exact k
        · omega))] at u
      rw [if_neg (fun q => c2 q.2.2)] at p2
      obtain rfl := u.2.symm
      obtain rfl := p2.2.symm
      exact ⟨by omega, fx_iRp h⟩
  · rw [if_neg (by omega)] at u
    rw [if_neg (by omega)] at p2
    obtain rfl := u.2.symm
    obtain rfl := p2.2.symm
    exact ⟨by omega, fx_iRp h⟩
theorem fx_l_worth {S A Z : fx_S} {a b z1 z2 : Int} (h : fx_RI S) (p1 : s79 S a b z1 A) (p2 : s80 A a b z2 Z) : z1 = z2 ∧ fx_Rp Z.1 1 (Z.1 67) := by
  unfold s79 at p1
  unfold s80 at p2
  have hW := fx_WB_n (fx_iW h)
  have rd := fx_iRd h
  have d0 : S.1 1 0 = S.1 67 0 := rd.1
  have dd := rd.2
  have v0 : S.1 2 0 = S.1 67 1 := (fx_iRv h).1
  have p0 : S.1 13 0 = S.1 67 2 := (fx_iRp h).1
  have h0 : S.1 38 0 = S.1 67 5 := (fx_iRh h).1
  obtain ⟨q1, f1, p1⟩ := p1
  have BA : fx_WB A := fx_WB_eq (fx_iW h) (fun q => f1 67 q (by omega)) (fun q => f1 68 q (by omega)) (fun q => f1 69 q (by omega))
  have hA : A.1 67 = S.1 67 := funext fun i => f1 67 i (by omega)
  obtain ⟨q2, f2, BZ, p2⟩ := p2 BA
  rw [hA] at p2
  have u := p1 (by omega)
  by_cases c : 0 ≤ a ∧ a < S.1 67 2 ∧ 0 ≤ b ∧ b ≤ 99
  · have t6 : S.1 18 a = S.1 67 (304 + 10 * a) := (fx_iRp h).2.2.2.2.2.1 a c.1 c.2.1
    rw [if_pos (by omega)] at u
    rw [if_pos c] at p2
    refine ⟨by omega, fx_Rp_set (c := 4) (v := b) (u := b) (fx_iW h).1 (fx_iRp h) c.1 c.2.1 (.inr rfl) (fun i => by rw [p2.2 i, show (300 : Int) + 4 + 10 * a = 304 + 10 * a by omega]) (fun i => ⟨(f2 13 i (by omega)).trans (f1 13 i (by omega)), (f2 14 i (by omega)).trans (f1 14 i (by omega)), (f2 15 i (by omega)).trans (f1 15 i (by omega)), ?_, ?_, (f2 16 i (by omega)).trans (f1 16 i (by omega)), (f2 19 i (by omega)).trans (f1 19 i (by omega)), (f2 20 i (by omega)).trans (f1 20 i (by omega))⟩) (fun q => by omega) (fun _ => ⟨rfl, by omega⟩)⟩
    · rw [f2 17 i (by omega), f1 17 i (by omega)]
      by_cases hi : i = a
      · rw [if_pos hi]; rfl
      · rw [if_neg hi]
    · rw [if_pos rfl, f2 18 i (by omega), u.2 i]
  · rw [if_neg (by omega)] at u
    rw [if_neg (by omega)] at p2
    obtain rfl := u.2.symm
    obtain rfl := p2.2.symm
    exact ⟨by omega, fx_iRp h⟩
theorem fx_l_wish {S A Z : fx_S} {a b z1 z2 : Int} (h : fx_RI S) (p1 : s73 S a b z1 A) (p2 : s74 A a b z2 Z) : z1 = z2 ∧ fx_Rp Z.1 1 (Z.1 67) := by
  unfold s73 at p1
  unfold s74 at p2
  have hW := fx_WB_n (fx_iW h)
  have rd := fx_iRd h
  have d0 : S.1 1 0 = S.1 67 0 := rd.1
  have dd := rd.2
  have v0 : S.1 2 0 = S.1 67 1 := (fx_iRv h).1
  have p0 : S.1 13 0 = S.1 67 2 := (fx_iRp h).1
  have h0 : S.1 38 0 = S.1 67 5 := (fx_iRh h).1
  obtain ⟨q1, f1, p1⟩ := p1
  have BA : fx_WB A := fx_WB_eq (fx_iW h) (fun q => f1 67 q (by omega)) (fun q => f1 68 q (by omega)) (fun q => f1 69 q (by omega))
  have hA : A.1 67 = S.1 67 := funext fun i => f1 67 i (by omega)
  obtain ⟨q2, f2, BZ, p2⟩ := p2 BA
  rw [hA] at p2
  obtain ⟨r1, r2, r3, r4, r5, r6, r7, r8, r9⟩ := fx_iRp h
  have wb := (fx_iW h).1.2.2.2.2.2.2.2.2.2.1
  have t7 : ∀ q : Int, 0 ≤ q → q < S.1 67 2 → S.1 19 q = S.1 67 (305 + 10 * q) := fun q q0 q1 => r7 q q0 q1
  have u := p1 (by omega) (by omega) (fun q q0 q1 => by rw [t7 q q0 (by omega)]; exact wb q q0 (by omega))
  by_cases c : 0 ≤ a ∧ a < S.1 67 2 ∧ 0 ≤ b ∧ b < S.1 67 5
  · have e7 := t7 a c.1 c.2.1
    have w7 := wb a c.1 c.2.1
    have t9 : ∀ k : Int, 0 ≤ k → k < S.1 67 (305 + 10 * a) → S.1 20 (4 * a + k) = S.1 67 (305 + 10 * a + 1 + k) := fun k k0 k1 => by rw [show 305 + 10 * a + 1 + k = 306 + 10 * a + k by omega]; exact r9 a k c.1 c.2.1 k0 k1
    rcases u with ⟨a1, a2, a3⟩ | ⟨a1, u⟩
    · omega
    rcases p2 with ⟨b1, b2, b3⟩ | ⟨b1, v⟩
    · omega
    rw [e7] at u
    rcases u with ⟨a2, ⟨k, k0, k1, k2⟩, a3⟩ | ⟨a2, u⟩
    · rcases v with ⟨b2, ⟨l, l0, l1, l2⟩, b3⟩ | ⟨b2, v⟩
      · obtain rfl := a3.symm
        obtain rfl := b3.symm
        exact ⟨by omega, fx_iRp h⟩
      · exact absurd ((t9 k k0 k1).symm.trans k2) (b2 k k0 k1)
    · rcases v with ⟨b2, ⟨l, l0, l1, l2⟩, b3⟩ | ⟨b2, v⟩
      · exact absurd ((t9 l l0 l1).trans l2) (a2 l l0 l1)
      · rcases u with ⟨a3, a4, a5⟩ | ⟨a3, a4, a5, a6⟩
        · rcases v with ⟨b3, b4, b5⟩ | ⟨b3, b4, b5⟩
          · obtain rfl := a5.symm
            obtain rfl := b5.symm
            exact ⟨by omega, fx_iRp h⟩
          · omega
        · rcases v with ⟨b3, b4, b5⟩ | ⟨b3, b4, b5⟩
          · omega
          · refine ⟨by omega, fx_Rp_wish (x := a) (b := b) (fx_iW h).1 (fx_iRp h) c.1 c.2.1 b3 c.2.2 b5 (fun i => ⟨(f2 13 i (by omega)).trans (f1 13 i (by omega)), (f2 14 i (by omega)).trans (f1 14 i (by omega)), (f2 15 i (by omega)).trans (f1 15 i (by omega)), (f2 16 i (by omega)).trans (f1 16 i (by omega)), (f2 17 i (by omega)).trans (f1 17 i (by omega)), (f2 18 i (by omega)).trans (f1 18 i (by omega)), ?_, ?_⟩)⟩
            · rw [f2 19 i (by omega), a5 i, e7]
            · rw [f2 20 i (by omega), a6 i, e7]
  · rcases u with ⟨a1, a2, a3⟩ | ⟨a1, u⟩
    · rcases p2 with ⟨b1, b2, b3⟩ | ⟨b1, v⟩
      · obtain rfl := a3.symm
        obtain rfl := b3.symm
        exact ⟨by omega, fx_iRp h⟩
      · omega
    · exfalso
      clear u p2
      omega
theorem fx_l_house {S A Z : fx_S} {a b c z1 z2 : Int} (h : fx_RI S) (p1 : s67 S a b c z1 A) (p2 : s68 A a b c z2 Z) : z1 = z2 ∧ fx_Rh Z.1 1 (Z.1 67) ∧ S.1 67 5 ≤ Z.1 67 5 := by
  unfold s67 at p1
  unfold s68 at p2
  have hW := fx_WB_n (fx_iW h)
  have rd := fx_iRd h
  have d0 : S.1 1 0 = S.1 67 0 := rd.1
  have dd := rd.2
  have v0 : S.1 2 0 = S.1 67 1 := (fx_iRv h).1
  have p0 : S.1 13 0 = S.1 67 2 := (fx_iRp h).1
  have h0 : S.1 38 0 = S.1 67 5 := (fx_iRh h).1
  obtain ⟨q1, f1, p1⟩ := p1
  have BA : fx_WB A := fx_WB_eq (fx_iW h) (fun q => f1 67 q (by omega)) (fun q => f1 68 q (by omega)) (fun q => f1 69 q (by omega))
  have hA : A.1 67 = S.1 67 := funext fun i => f1 67 i (by omega)
  obtain ⟨q2, f2, BZ, p2⟩ := p2 BA
  rw [hA] at p2
  obtain ⟨r1, r2, r3, r4, r5⟩ := fx_iRh h
  rcases p1 with ⟨a1, a2, a3⟩ | ⟨a1, a2, a3, a4⟩ | ⟨a2, a3, a1, a4, a5⟩
  · obtain rfl := a3.symm
    rcases p2 with ⟨b1, b2, b3⟩ | ⟨b1, b2, b3, b4⟩ | ⟨b2, b3⟩
    · obtain rfl := b3.symm
      exact ⟨by omega, fx_iRh h, Int.le_refl _⟩
    · exact absurd b2 a2
    · exact absurd b2 a2
  · obtain rfl := a4.symm
    rcases p2 with ⟨b1, b2, b3⟩ | ⟨b1, b2, b3, b4⟩ | ⟨b2, b3, b4⟩
    · exact absurd a2 b2
    · obtain rfl := b4.symm
      exact ⟨by omega, fx_iRh h, Int.le_refl _⟩
    · omega
  · rcases p2 with ⟨b1, b2, b3⟩ | ⟨b1, b2, b3, b4⟩ | ⟨b1, b2, b3, b4, b5, b6, b7, b8, b9⟩
    · exact absurd a2 b2
    · omega
    · have g : ∀ p i : Int, 38 ≤ p → p ≤ 42 → Z.1 p i = A.1 p i := fun p i _ _ => f2 p i (by omega)
      rw [h0] at a5
      refine ⟨by omega, ⟨?_, ?_, ?_, ?_, ?_⟩, by omega⟩
      · show Z.1 38 0 = Z.1 67 5
        rw [g 38 0 (by omega) (by omega), a4, b4, h0]
      · rw [b4]
        exact fx_Co_app r2 (fun q => (g 39 q (by omega) (by omega)).trans (a5 q).1) (fun q q0 q1 => b9 _ (by omega) (by omega) (by omega)) b5
      · rw [b4]
        exact fx_Co_app r3 (fun q => (g 40 q (by omega) (by omega)).trans (a5 q).2.1) (fun q q0 q1 => b9 _ (by omega) (by omega) (by omega)) b6
      · rw [b4]
        exact fx_Co_app r4 (fun q => (g 41 q (by omega) (by omega)).trans (a5 q).2.2.1) (fun q q0 q1 => b9 _ (by omega) (by omega) (by omega)) b7
      · rw [b4]
        exact fx_Co_app r5 (fun q => (g 42 q (by omega) (by omega)).trans (a5 q).2.2.2) (fun q q0 q1 => b9 _ (by omega) (by omega) (by omega)) b8
theorem fx_l_appeal {S A Z : fx_S} {a b z1 z2 : Int} (h : fx_RI S) (p1 : s69 S a b z1 A) (p2 : s70 A a b z2 Z) : z1 = z2 ∧ fx_Rh Z.1 1 (Z.1 67) := by
  unfold s69 at p1
  unfold s70 at p2
  have hW := fx_WB_n (fx_iW h)
  have rd := fx_iRd h
  have d0 : S.1 1 0 = S.1 67 0 := rd.1
  have dd := rd.2
  have v0 : S.1 2 0 = S.1 67 1 := (fx_iRv h).1
  have p0 : S.1 13 0 = S.1 67 2 := (fx_iRp h).1
  have h0 : S.1 38 0 = S.1 67 5 := (fx_iRh h).1
  obtain ⟨q1, f1, p1⟩ := p1
  have BA : fx_WB A := fx_WB_eq (fx_iW h) (fun q => f1 67 q (by omega)) (fun q => f1 68 q (by omega)) (fun q => f1 69 q (by omega))
  have hA : A.1 67 = S.1 67 := funext fun i => f1 67 i (by omega)
  obtain ⟨q2, f2, BZ, p2⟩ := p2 BA
  rw [hA] at p2
  obtain ⟨r1, r2, r3, r4, r5⟩ := fx_iRh h
  rcases p1 (by omega) with ⟨a1, a2, a3⟩ | ⟨a2, a1, a3⟩
  · obtain rfl := a3.symm
    rcases p2 with ⟨b1, b2, b3⟩ | ⟨b2, b3⟩
    · obtain rfl := b3.symm
      exact ⟨by omega, fx_iRh h⟩
    · omega
  · rcases p2 with ⟨b1, b2, b3⟩ | ⟨b2, b1, b3, b4⟩
    · omega
    · have g : ∀ p i : Int, 38 ≤ p → p ≤ 41 → Z.1 p i = S.1 p i := fun p i _ _ => (f2 p i (by omega)).trans (f1 p i (by omega))
      have t2 : S.1 40 a = S.1 67 (7101 + 4 * a) := r3 a (by omega) (by omega)
      have t3 : S.1 41 a = S.1 67 (7102 + 4 * a) := r4 a (by omega) (by omega)
      have z5 : Z.1 67 5 = S.1 67 5 := (f2 67 5 (by omega)).trans (by rw [hA])
      refine ⟨by rw [a1, b1, t2, t3], ?_, ?_, ?_, ?_, ?_⟩
      · show Z.1 38 0 = Z.1 67 5
        rw [g 38 0 (by omega) (by omega), z5, h0]
      · rw [z5]
        exact fx_Co_eq r2 (fun q _ _ => g 39 q (by omega) (by omega)) (fun q q0 q1 => b4 _ (by omega) (by omega) (by omega))
      · rw [z5]
        exact fx_Co_eq r3 (fun q _ _ => g 40 q (by omega) (by omega)) (fun q q0 q1 => b4 _ (by omega) (by omega) (by omega))
      · rw [z5]
        exact fx_Co_eq r4 (fun q _ _ => g 41 q (by omega) (by omega)) (fun q q0 q1 => b4 _ (by omega) (by omega) (by omega))
      · rw [z5]
        exact fx_Co_up r5 (fun q => (f2 42 q (by omega)).trans (a3 q)) (fun q q0 q1 hq => b4 _ (by omega) (by omega) (by omega)) b3
theorem fx_l_row {S A Z : fx_S} {a b c z1 z2 : Int} (h : fx_RI S) (p1 : s105 S a b c z1 A) (p2 : s106 A a b c z2 Z) : z1 = z2 ∧ fx_Rs Z.1 := by
  unfold s105 at p1
  unfold s106 at p2
  have hW := fx_WB_n (fx_iW h)
  have rd := fx_iRd h
  have d0 : S.1 1 0 = S.1 67 0 := rd.1
  have dd := rd.2
  have v0 : S.1 2 0 = S.1 67 1 := (fx_iRv h).1
  have p0 : S.1 13 0 = S.1 67 2 := (fx_iRp h).1
  have h0 : S.1 38 0 = S.1 67 5 := (fx_iRh h).1
  obtain ⟨q1, f1, p1⟩ := p1
  have BA : fx_WB A := fx_WB_eq (fx_iW h) (fun q => f1 67 q (by omega)) (fun q => f1 68 q (by omega)) (fun q => f1 69 q (by omega))
  have hA : A.1 67 = S.1 67 := funext fun i => f1 67 i (by omega)
  obtain ⟨q2, f2, p2⟩ := p2
  obtain ⟨s1, s2, s3, s4⟩ := fx_iS h
  have x5 : ∀ p i : Int, 53 ≤ p → p ≤ 55 → Z.1 p i = A.1 p i := fun p i _ _ => f2 p i (by omega)
  have m8 : ∀ p i : Int, 87 ≤ p → p ≤ 89 → A.1 p i = S.1 p i := fun p i _ _ => f1 p i (by omega)
  rcases p1 with ⟨a1, a2, a3⟩ | ⟨a1, ⟨a2, a3, a4⟩ | ⟨a2, a3, a4, a5, a6⟩⟩
  · obtain rfl := a3.symm
    rcases p2 with ⟨b1, b2, b3⟩ | ⟨b1, b2⟩
    · obtain rfl := b3.symm
      exact ⟨by omega, fx_iS h⟩
    · exact absurd b1 a2
  · obtain rfl := a4.symm
    rcases p2 with ⟨b1, b2, b3⟩ | ⟨b1, ⟨b2, b3, b4⟩ | ⟨b2, b3, b4⟩⟩
    · exact absurd a1 b2
    · obtain rfl := b4.symm
      exact ⟨by omega, fx_iS h⟩
    · omega
  · rcases p2 with ⟨b1, b2, b3⟩ | ⟨b1, ⟨b2, b3, b4⟩ | ⟨b2, b3, b4, b5, b6⟩⟩
    · exact absurd a1 b2
    · omega
    · refine ⟨by omega, fun s => ?_, fun s => ?_, fun i => ?_, fun s s0 s1 => ?_⟩
      · rw [x5 54 s (by omega) (by omega), a4, b4, m8 87 s (by omega) (by omega), s1]
      · rw [x5 53 s (by omega) (by omega), a5, b5, m8 88 s (by omega) (by omega), s2]
      · rw [x5 55 i (by omega) (by omega), a6, b6, m8 89 i (by omega) (by omega), s3]
      · rw [b4, m8 87 s (by omega) (by omega)]
        split
        · omega
        · exact s4 s s0 s1
theorem fx_l_write {S A Z : fx_S} {a b c z1 z2 : Int} (h : fx_RI S) (p1 : s107 S a b c z1 A) (p2 : s108 A a b c z2 Z) : z1 = z2 ∧ fx_Rs Z.1 := by
  unfold s107 at p1
  unfold s108 at p2
  have hW := fx_WB_n (fx_iW h)
  have rd := fx_iRd h
  have d0 : S.1 1 0 = S.1 67 0 := rd.1
  have dd := rd.2
  have v0 : S.1 2 0 = S.1 67 1 := (fx_iRv h).1
  have p0 : S.1 13 0 = S.1 67 2 := (fx_iRp h).1
  have h0 : S.1 38 0 = S.1 67 5 := (fx_iRh h).1
  obtain ⟨q1, f1, p1⟩ := p1
  have BA : fx_WB A := fx_WB_eq (fx_iW h) (fun q => f1 67 q (by omega)) (fun q => f1 68 q (by omega)) (fun q => f1 69 q (by omega))
  have hA : A.1 67 = S.1 67 := funext fun i => f1 67 i (by omega)
  obtain ⟨q2, f2, p2⟩ := p2
  obtain ⟨s1, s2, s3, s4⟩ := fx_iS h
  have x5 : ∀ p i : Int, 53 ≤ p → p ≤ 55 → Z.1 p i = A.1 p i := fun p i _ _ => f2 p i (by omega)
  have m8 : ∀ p i : Int, 87 ≤ p → p ≤ 89 → A.1 p i = S.1 p i := fun p i _ _ => f1 p i (by omega)
  rw [m8 87 a (by omega) (by omega), m8 88 a (by omega) (by omega), ← s1, ← s2] at p2
  have p1 := p1 (fun u v => by rw [s1]; exact s4 a u v)
  have p2 := p2 (fun u v => by rw [s1]; exact s4 a u v)
  by_cases c : 0 ≤ a ∧ a < 4
  · rw [if_pos c] at p1 p2
    by_cases c2 : S.1 54 a = -1
    · rw [if_pos c2] at p1 p2
      obtain rfl := p1.2.symm
      obtain rfl := p2.2.symm
      exact ⟨by omega, fx_iS h⟩
    · rw [if_neg c2] at p1 p2
      by_cases c3 : 0 ≤ b ∧ b < S.1 54 a
      · rw [if_pos c3] at p1 p2
        refine ⟨by omega, fun s => ?_, fun s => ?_, fun i => ?_, fun s s0 s1 => ?_⟩
        · rw [x5 54 s (by omega) (by omega), f1 54 s (by omega), f2 87 s (by omega), m8 87 s (by omega) (by omega), s1]
        · rw [x5 53 s (by omega) (by omega), f1 53 s (by omega), f2 88 s (by omega), m8 88 s (by omega) (by omega), s2]
        · rw [x5 55 i (by omega) (by omega), p1.2, p2.2, m8 89 i (by omega) (by omega), s3]
        · rw [f2 87 s (by omega), m8 87 s (by omega) (by omega)]
          exact s4 s s0 s1
      · rw [if_neg c3] at p1 p2
        obtain rfl := p1.2.symm
        obtain rfl := p2.2.symm
        exact ⟨by omega, fx_iS h⟩
  · rw [if_neg c] at p1 p2
    obtain rfl := p1.2.symm
    obtain rfl := p2.2.symm
    exact ⟨by omega, fx_iS h⟩
theorem fx_l_paste {S A Z : fx_S} {a b c d e z1 z2 : Int} (h : fx_RI S) (p1 : s109 S a b c d e z1 A) (p2 : s110 A a b c d e z2 Z) : z1 = z2 ∧ fx_Rs Z.1 := by
  unfold s109 at p1
  unfold s110 at p2
  have hW := fx_WB_n (fx_iW h)
  have rd := fx_iRd h
  have d0 : S.1 1 0 = S.1 67 0 := rd.1
  have dd := rd.2
  have v0 : S.1 2 0 = S.1 67 1 := (fx_iRv h).1
  have p0 : S.1 13 0 = S.1 67 2 := (fx_iRp h).1
  have h0 : S.1 38 0 = S.1 67 5 := (fx_iRh h).1
  obtain ⟨q1, f1, p1⟩ := p1
  have BA : fx_WB A := fx_WB_eq (fx_iW h) (fun q => f1 67 q (by omega)) (fun q => f1 68 q (by omega)) (fun q => f1 69 q (by omega))
  have hA : A.1 67 = S.1 67 := funext fun i => f1 67 i (by omega)
  obtain ⟨q2, f2, p2⟩ := p2
  obtain ⟨s1, s2, s3, s4⟩ := fx_iS h
  have x5 : ∀ p i : Int, 53 ≤ p → p ≤ 55 → Z.1 p i = A.1 p i := fun p i _ _ => f2 p i (by omega)
  have m8 : ∀ p i : Int, 87 ≤ p → p ≤ 89 → A.1 p i = S.1 p i := fun p i _ _ => f1 p i (by omega)
  rw [m8 87 a (by omega) (by omega), m8 88 a (by omega) (by omega), m8 87 c (by omega) (by omega), m8 88 c (by omega) (by omega), ← s1, ← s2, ← s1, ← s2] at p2
  have p1 := p1 (fun u v => by rw [s1]; exact s4 a u v) (fun u v => by rw [s1]; exact s4 c u v)
  have p2 := p2 (fun u v => by rw [s1]; exact s4 a u v) (fun u v => by rw [s1]; exact s4 c u v)
  by_cases k : (0 ≤ a ∧ a < 4) ∧ 0 ≤ c ∧ c < 4
  · rw [if_pos k] at p1 p2
    by_cases k2 : S.1 54 a = -1 ∨ S.1 54 c = -1
    · rw [if_pos k2] at p1 p2
      obtain rfl := p1.2.symm
      obtain rfl := p2.2.symm
      exact ⟨by omega, fx_iS h⟩
    · rw [if_neg k2] at p1 p2
      by_cases k3 : S.1 53 a = S.1 53 c
      · rw [if_pos k3] at p1 p2
        by_cases k4 : (0 ≤ b ∧ 0 ≤ d ∧ 0 ≤ e ∧ b + e ≤ S.1 54 a ∧ d + e ≤ S.1 54 c)
        · rw [if_pos k4] at p1 p2
          refine ⟨by omega, fun s => ?_, fun s => ?_, fun i => ?_, fun s s0 s1 => ?_⟩
          · rw [x5 54 s (by omega) (by omega), f1 54 s (by omega), f2 87 s (by omega), m8 87 s (by omega) (by omega), s1]
          · rw [x5 53 s (by omega) (by omega), f1 53 s (by omega), f2 88 s (by omega), m8 88 s (by omega) (by omega), s2]
          · rw [x5 55 i (by omega) (by omega), p1.2, p2.2, m8 89 i (by omega) (by omega), m8 89 _ (by omega) (by omega), s3, s3]
          · rw [f2 87 s (by omega), m8 87 s (by omega) (by omega)]
            exact s4 s s0 s1
        · rw [if_neg k4] at p1 p2
          obtain rfl := p1.2.symm
          obtain rfl := p2.2.symm
          exact ⟨by omega, fx_iS h⟩
      · rw [if_neg k3] at p1 p2
        obtain rfl := p1.2.symm
        obtain rfl := p2.2.symm
        exact ⟨by omega, fx_iS h⟩
  · rw [if_neg k] at p1 p2
    obtain rfl := p1.2.symm
    obtain rfl := p2.2.symm
    exact ⟨by omega, fx_iS h⟩
theorem fx_l_personOf {S A Z : fx_S} {a b z1 z2 : Int} (h : fx_RI S) (p1 : s29 S a b z1 A) (p2 : s30 A a b z2 Z) : z1 = z2 := by
  unfold s29 at p1
  unfold s30 at p2
  have hW := fx_WB_n (fx_iW h)
  have rd := fx_iRd h
  have d0 : S.1 1 0 = S.1 67 0 := rd.1
  have dd := rd.2
  have v0 : S.1 2 0 = S.1 67 1 := (fx_iRv h).1
  have p0 : S.1 13 0 = S.1 67 2 := (fx_iRp h).1
  have h0 : S.1 38 0 = S.1 67 5 := (fx_iRh h).1
  obtain ⟨rfl, p1⟩ := p1
  obtain ⟨rfl, p2⟩ := p2
  have u := p1 (by omega)
  have v := p2 (fx_iW h)
  obtain ⟨r1, r2, r3, r4, r5, r6, r7, r8, r9⟩ := fx_iRp h
  by_cases c : 0 ≤ a ∧ a < S.1 67 2
  · have t2 : S.1 14 a = S.1 67 (300 + 10 * a) := r2 a c.1 c.2
    have t3 : S.1 15 a = S.1 67 (301 + 10 * a) := r3 a c.1 c.2
    have t4 : S.1 16 a = S.1 67 (302 + 10 * a) := r4 a c.1 c.2
    have t5 : S.1 17 a = fx_nev (S.1 67 (303 + 10 * a)) := r5 a c.1 c.2
    have bb := (r8 a c.1 c.2).2.2.2.1
    rw [if_pos (by omega), t2, t3, t4, t5] at u
    by_cases b0 : b = 0
    · rw [if_pos b0] at u
      rw [if_pos (by omega), show 300 + 10 * a + b = 300 + 10 * a by omega] at v
      omega
    rw [if_neg b0] at u
    by_cases b1 : b = 1
    · rw [if_pos b1] at u
      rw [if_pos (by omega), show 300 + 10 * a + b = 301 + 10 * a by omega] at v
      omega
    rw [if_neg b1] at u
    by_cases b2 : b = 2
    · rw [if_pos b2] at u
      rw [if_pos (by omega), show 300 + 10 * a + b = 302 + 10 * a by omega] at v
      omega
    rw [if_neg b2] at u
    by_cases b3 : b = 3
    · rw [if_pos b3] at u
      rw [if_pos (by omega), show 300 + 10 * a + b = 303 + 10 * a by omega] at v
      unfold fx_nev at u
      by_cases k : S.1 67 (303 + 10 * a) = -1
      · rw [if_pos k, if_pos rfl] at u
        omega
      · rw [if_neg k, if_neg (by omega)] at u
        omega
    rw [if_neg b3] at u
    rw [if_neg (by omega)] at v
    omega
  · rw [if_neg (by omega)] at u
    rw [if_neg (by omega)] at v
    omega
theorem fx_l_rent {S A Z : fx_S} {a z1 z2 : Int} (h : fx_RI S) (p1 : s71 S a z1 A) (p2 : s72 A a z2 Z) : z1 = z2 := by
  unfold s71 at p1
  unfold s72 at p2
  have hW := fx_WB_n (fx_iW h)
  have rd := fx_iRd h
  have d0 : S.1 1 0 = S.1 67 0 := rd.1
  have dd := rd.2
  have v0 : S.1 2 0 = S.1 67 1 := (fx_iRv h).1
  have p0 : S.1 13 0 = S.1 67 2 := (fx_iRp h).1
  have h0 : S.1 38 0 = S.1 67 5 := (fx_iRh h).1
  obtain ⟨rfl, p1⟩ := p1
  obtain ⟨rfl, p2⟩ := p2
  have v := p2 (fx_iW h)
  have u := p1 (by omega)
  obtain ⟨r1, r2, r3, r4, r5⟩ := fx_iRh h
  by_cases c : 0 ≤ a ∧ a < S.1 67 5
  · have t2 : S.1 40 a = S.1 67 (7101 + 4 * a) := r3 a c.1 c.2
    have t3 : S.1 41 a = S.1 67 (7102 + 4 * a) := r4 a c.1 c.2
    have t4 : S.1 42 a = S.1 67 (7103 + 4 * a) := r5 a c.1 c.2
    rw [if_pos (by omega), t2, t3, t4] at u
    rw [if_pos c] at v
    omega
  · rw [if_neg (by omega)] at u
    rw [if_neg c] at v
    omega
