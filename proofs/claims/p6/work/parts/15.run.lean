/-! the induction on the fuel -/
section CZ4
variable {l : Launch}
/-- what a run of the clean machine says of the machine -/
def cz_Runs (l : Launch) (E : cz_E) (cy : Nat → ClassId) (D : va_G) (f : Nat) : Prop := ∀ (d mi pc : Nat) (lv : cz_LV) (st : List Value) (h : cz_H) (v : Option Value) (h' : cz_H), cz_go E f d mi pc lv st h = some (v, h') → mi < 335 →
  ∀ (p : Program) (e : Env) (R : Room) (s : State) (m : MethodId) (args : Array Value) (below : List Frame) (meth : Method) (c : Code) (H : Heap) (locs : List Loc) (cells slots : Nat) (Q : State → Prop) (ls : Array Slot) (n0 z0 : Nat), cz_Cx mi p s m args meth c → cz_G E cy D s → lv_has ls (cz_mf mi).2.2.2.2.1 lv → cz_R E cy D s h H locs →
    h.length = n0 + cells → cz_sz h = z0 + slots → s.heap.size = E.1 + n0 → h'.length ≤ n0 + R.cells → cz_sz h' ≤ z0 + R.slots → d + 8 ≤ R.frames → 64 + 100 * d ≤ R.locals →
    (∀ (H1 : Heap) (locs1 : List Loc) (cells1 slots1 : Nat) (ls1 : Array Slot) (q : cz_I) (st1 : List Value), q ∈ cz_cd mi → cz_s3 E q st1 h' = some (.inr v) → cz_R E cy D s h' H1 locs1 → h'.length = n0 + cells1 → cz_sz h' = z0 + slots1 → W p l e R s m args below meth c H1 locs1 cells1 slots1 Q (F0 m q.1 ls1 st1)) →
    W p l e R s m args below meth c H locs cells slots Q (F0 m pc ls st)
/-- a return -/
theorem cz_ret {E : cz_E} {cy : Nat → ClassId} {D : va_G} (hok : ∀ i, i < 335 → ∀ q ∈ cz_cd i, cz_ok1 i q = true) {p : Program} {e : Env} {R : Room} {s : State} {m : MethodId} {args : Array Value} {below : List Frame} {meth : Method} {c : Code} {mi : Nat} {H1 : Heap} {locs1 : List Loc} {cells1 slots1 : Nat} {ls1 : Array Slot} {q : cz_I} {st1 : List Value} {h' : cz_H} {v : Option Value} (hmi : mi < 335) (C : cz_Cx mi p s m args meth c) (hq : q ∈ cz_cd mi) (h3 : cz_s3 E q st1 h' = some (.inr v)) (hR : cz_R E cy D s h' H1 locs1) :
    W p l e R s m args below meth c H1 locs1 cells1 slots1 (MQ below (cz_Qc E cy D v h') args s cells1 slots1 (cz_A E)) (F0 m q.1 ls1 st1) := by
  have hq1 := hok mi hmi q hq
  have hd := of_decide_eq_true (Bool.and_eq_true_iff.mp hq1).1
  have hw := (Bool.and_eq_true_iff.mp hq1).2
  clear hq1
  obtain ⟨hx, hb, hml, hown, hts, hin, hret, hlocks⟩ := C
  have post : ∀ w : Option Value, w = v → ∀ t : State, t.heap = H1 → s.WarmedH t.vm → cz_Qc E cy D v h' args s (.returned w) t := by
    intro w e1 t ht hW
    subst e1
    exact ⟨rfl, by rw [ht]; exact hR.1, hR.2.1, hR.2.2.F ht⟩
  obtain ⟨pc, ins, len, xa, xb⟩ := q
  cases ins
  case ireturn =>
    obtain ⟨e0, g1⟩ := cz_n_some h3
    have e0 : len = 1 := e0
    subst e0
    obtain ⟨x, r, rfl, g2⟩ := cz_i1_some g1
    obtain ⟨g4, g3⟩ := cz_if_some g2
    obtain ⟨hr0, hnr⟩ := Bool.and_eq_true_iff.mp g4
    have hr0 : r = [] := by simpa using hr0
    subst hr0
    have hw : (cz_mf mi).2.2.2.2.2 = some (cz_rt xa) := of_decide_eq_true hw
    rw [hw] at hret
    have hnr : cz_nr xa x = true := hnr
    have hv : v = some (.int x) := by cases g3; rfl
    have hd2 : decode (cz_bt mi) pc = .ok (.ireturn, 1) := hd
    have hnr2 : xa = 0 ∨ narrow (cz_rt xa) (.int x) = .int x := by
      unfold cz_nr at hnr
      split at hnr
      · exact Or.inl rfl
      · exact Or.inr (of_decide_eq_true hnr)
      · exact Or.inr (of_decide_eq_true hnr)
      · next z1 z2 z3 =>
        refine Or.inr ?_
        unfold cz_rt
        split
        · exact absurd rfl z1
        · exact absurd rfl z2
        · exact absurd rfl z3
        · exact of_decide_eq_true hnr
    rcases hnr2 with h0 | hnr2
    · rw [h0] at hret
      exact W.iret hx hb hret (post _ hv.symm) hR.2.2.2.2 hd2 hlocks
    · exact W.zret hx hb hret hnr2 (post _ hv.symm) hR.2.2.2.2 hd2 hlocks
  case lreturn =>
    obtain ⟨e0, g1⟩ := cz_n_some h3
    have e0 : len = 1 := e0
    subst e0
    obtain ⟨x, r, rfl, g2⟩ := cz_l1_some g1
    obtain ⟨hr0, g3⟩ := cz_if_some g2
    have hr0 : r = [] := by simpa using hr0
    subst hr0
    have hw : (cz_mf mi).2.2.2.2.2 = some .long := of_decide_eq_true hw
    rw [hw] at hret
    have hv : v = some (.long x) := by cases g3; rfl
    exact W.lret hx hb hret (post _ hv.symm) hR.2.2.2.2 hd hlocks
  case areturn =>
    obtain ⟨e0, g1⟩ := cz_n_some h3
    have e0 : len = 1 := e0
    subst e0
    obtain ⟨x, r, rfl, g2⟩ := cz_v1_some g1
    obtain ⟨g4, g3⟩ := cz_if_some g2
    obtain ⟨hr0, hia⟩ := Bool.and_eq_true_iff.mp g4
    have hr0 : r = [] := by simpa using hr0
    subst hr0
    have hv : v = some x := by cases g3; rfl
    have hw : (match (cz_mf mi).2.2.2.2.2 with | some (.object _) => true | some (.array _) => true | _ => false) = true := hw
    have hrt : ∃ rt, (cz_mf mi).2.2.2.2.2 = some rt ∧ ((∃ n, rt = .object n) ∨ ∃ t, rt = .array t) := by
      split at hw
      · next n e1 => exact ⟨_, e1, Or.inl ⟨_, rfl⟩⟩
      · next t e1 => exact ⟨_, e1, Or.inr ⟨_, rfl⟩⟩
      · cases hw
    obtain ⟨rt, e1, e2⟩ := hrt
    exact W.aret hx hb (hret.trans e1) e2 (cz_isA_of hia) (post _ hv.symm) hR.2.2.2.2 hd hlocks
  case return_ =>
    obtain ⟨e0, g1⟩ := cz_n_some h3
    have e0 : len = 1 := e0
    subst e0
    obtain ⟨hr0, g3⟩ := cz_if_some g1
    have hr0 : st1 = [] := by simpa using hr0
    subst hr0
    have hw : (cz_mf mi).2.2.2.2.2 = none := of_decide_eq_true hw
    rw [hw] at hret
    have hv : v = none := by cases g3; rfl
    exact W.vret hx hb hret (post _ hv.symm) hR.2.2.2.2 hd hlocks
  case invokevirtual i =>
    obtain ⟨-, g1⟩ := cz_n_some h3
    obtain ⟨-, g2⟩ := cz_if_some g1
    obtain ⟨_, _, -, -, g3⟩ := cz_pop_some g2
    cases (cz_if_some g3).2
  case invokestatic i =>
    obtain ⟨-, g1⟩ := cz_n_some h3
    obtain ⟨-, g2⟩ := cz_if_some g1
    obtain ⟨_, _, -, -, g3⟩ := cz_pop_some g2
    cases (cz_if_some g3).2
  case invokespecial i =>
    obtain ⟨-, g1⟩ := cz_n_some h3
    obtain ⟨-, g2⟩ := cz_if_some g1
    obtain ⟨_, _, -, -, g3⟩ := cz_pop_some g2
    cases (cz_if_some g3).2
  all_goals cases h3
theorem cz_met {E : cz_E} {cy : Nat → ClassId} {D : va_G} (hok : ∀ i, i < 335 → ∀ q ∈ cz_cd i, cz_ok1 i q = true) (hom : ∀ i, i < 334 → cz_okm i = true) {f d mj : Nat} {as : List Value} {h h' : cz_H} {v : Option Value} (ih : cz_Runs l E cy D f) (g : cz_go E f d mj 0 (lv_args 0 as) [] h = some (v, h')) (hmj : mj < 334) (hsum : cz_sum as ≤ (cz_mf mj).2.2.2.2.1) : cz_MetC l E cy D d mj as h v h' := by
  have ho := hom mj hmj
  have hcode := cz_okm_code hmj ho
  unfold cz_okm at ho
  simp only [Bool.and_eq_true, decide_eq_true_eq] at ho
  obtain ⟨⟨⟨⟨⟨⟨⟨-, -⟩, honn⟩, hplain⟩, -⟩, -⟩, -⟩, hkind⟩ := ho
  have hmono := cz_go_mono f g
  refine va_MetF (cc := cz_bt mj) (maxL := (cz_mf mj).2.2.2.2.1) (ret := (cz_mf mj).2.2.2.2.2) hplain rfl ?_
  intro p e s m args below meth c s₁ B hml hv
  obtain ⟨rfl, hG, hP, hD, hsz⟩ := hv
  have hts := atoms_spec (ws := cz_ww mj) B.pre
  have hown : s.vm.findClass (cz_on (cz_mf mj).1) = some m.cls := by rw [honn]; exact findClass_of_methodNamed B.named
  have C : cz_Cx mj p s m as.toArray meth c := by
    refine ⟨B.exec, B.bytes, hml, hown, fun w hw => hts w (List.mem_cons_of_mem _ hw), fun hi => ?_, B.returns, B.notSynchronized⟩
    have hk2 : cz_kd.getD mj 9 = 2 := by simpa [cz_ini] using hi
    rw [hk2] at hkind
    simp only [Bool.and_eq_true, decide_eq_true_eq] at hkind
    exact (name_of_methodNamed B.named B.method).1.trans hkind.1.2
  have hl := lv_entry as (n := (cz_mf mj).2.2.2.2.1) (by rw [cz_sum_sl]; exact hsum)
  rw [lg_entry_eq]
  refine ih d mj 0 (lv_args 0 as) [] h v h' g (by omega) p e _ s m as.toArray below meth c s.heap [] 0 0 _ _ h.length (cz_sz h) C hG hl ⟨hP, hD, va_S.rf⟩ rfl rfl hsz ?_ ?_ ?_ ?_ ?_
  · show h'.length ≤ h.length + (h'.length - h.length)
    omega
  · show cz_sz h' ≤ cz_sz h + (cz_sz h' - cz_sz h)
    omega
  · exact Nat.le_refl _
  · exact Nat.le_refl _
  · intro H1 locs1 cells1 slots1 ls1 q st1 hq h3 hR hn hz
    have e1 : h'.length - h.length = cells1 := by omega
    have e2 : cz_sz h' - cz_sz h = slots1 := by omega
    rw [e1, e2]
    exact cz_ret hok (by omega) C hq h3 hR
theorem cz_runs {E : cz_E} {cy : Nat → ClassId} {D : va_G} (hok : ∀ i, i < 335 → ∀ q ∈ cz_cd i, cz_ok1 i q = true) (hom : ∀ i, i < 334 → cz_okm i = true) : ∀ f : Nat, cz_Runs l E cy D f := by
  intro f
  induction f with
  | zero => exact fun _ _ _ _ _ _ _ _ g => by cases g
  | succ f ih =>
    intro d mi pc lv st h v h' g hmi p e R s m args below meth c H locs cells slots Q ls n0 z0 C hG hl hR hn hz hs0 hc1 hc2 hfr hlo ret
    obtain ⟨q, hq, rfl, hcase⟩ := cz_go_inv g
    have hq1 := hok mi hmi q hq
    have hd := of_decide_eq_true (Bool.and_eq_true_iff.mp hq1).1
    have hw := (Bool.and_eq_true_iff.mp hq1).2
    obtain ⟨hx, hb, hml, hown, hts, hin, hret, hlocks⟩ := id C
    rcases hcase with ⟨pc', lv', st', e1, g1⟩ | ⟨pc', st', h1, e2, g1⟩ | ⟨v', e3, e4⟩ | ⟨mj, as, rr, d', v1, h1, e3, e4, g1, g2⟩
    · exact cz_sim1 hx hb hown (cz_lc_of hG hts hw) hd hl e1 (fun ls' hl' => ih d mi pc' lv' st' h v h' g1 hmi p e R s m args below meth c H locs cells slots Q ls' n0 z0 C hG hl' hR hn hz hs0 hc1 hc2 hfr hlo ret)
    · have hm := cz_go_mono f g1
      exact cz_sim2 hx hb hml hown hts hG (cz_hc_of hts hin hw) hd hl.1 hR hn hz hs0 (by omega) (by omega) (by omega) (by omega) e2 (fun H1 locs1 cells1 slots1 f1 f2 f3 => ih d mi pc' lv st' h1 v h' g1 hmi p e R s m args below meth c H1 locs1 cells1 slots1 Q ls n0 z0 C hG hl f1 f2 f3 hs0 hc1 hc2 hfr hlo ret)
    · cases e4
      exact ret H locs cells slots ls q st hq e3 hR hn hz
    · subst e4
      refine cz_call hok hom hmi hq C hG hl.1 hR hn hz hs0 (cz_go_mono f g1) (cz_go_mono f g2) hc1 hc2 hfr hlo e3 (fun hmj hsum => cz_met hok hom ih g1 hmj hsum) ?_
      intro H1 locs1 cells1 slots1 f1 f2 f3
      exact ih (d' + 1) mi (q.1 + 3) lv (v1.toList ++ rr) h1 v h' g2 hmi p e R s m args below meth c H1 locs1 cells1 slots1 Q ls n0 z0 C hG hl f1 f2 f3 hs0 hc1 hc2 hfr hlo ret
end CZ4
