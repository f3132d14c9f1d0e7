/-! THE LAW: its contract gives the walk, its answer the paths -/
theorem ck_pure (E : cz_E) (hE : cz_Eok E) : ∃ (f : Nat) (h' : cz_H), cz_go E f 40 334 0 [(0, .ref E.2.1.1)] [] [] = some (some (.int 1), h') ∧ h'.length ≤ 600000 ∧ cz_sz h' ≤ 7302250 := by
  obtain ⟨-, -, Z⟩ := ck_zk263 hE
  have W1 := Z [((E.2.1.2.1 : Nat) : Int)] [] 0 [] [.ref E.2.1.1] ⟨rfl, fun i km c h => by simp at h⟩ (Int.le_refl _) (by decide) (by decide) rfl (fun j b hb => by
    have hj := (List.getElem?_eq_some_iff.mp hb).1
    have hj : j < 1 := hj
    have hj : j = 0 := by omega
    subst hj
    have hb : some ((0 : Int), (3072 : Int)) = some b := hb
    cases hb
    have := hE.2.1
    show (0 : Int) ≤ ((E.2.1.2.1 : Nat) : Int) ∧ ((E.2.1.2.1 : Nat) : Int) ≤ 3072
    omega) (fun f hf => absurd hf List.not_mem_nil) ⟨fun σ => ⟨rfl, rfl⟩, trivial⟩ (fun q hq => absurd hq List.not_mem_nil)
  obtain ⟨f, v, h', g, Γ', B', -, -, -, -, l1, l2, -, p, hp, τ2, a1, a2, -, a4, -⟩ := W1.deep 29
  have hv := fx_law hE g
  subst hv
  refine ⟨f, h', g, ?_, ?_⟩
  · have l1 : (h'.length : Int) ≤ ((0 : Nat) : Int) + ((24715 : Nat) : Int) := l1
    omega
  · have l2 : (cz_sz h' : Int) ≤ ((0 : Nat) : Int) + ((2125129 : Nat) : Int) := l2
    omega
/-- from the entry, for every script of at most 3072 ints, the law comes to its end with true -/
theorem whole_start {p : Program} {e : Env} {s : State} {m : MethodId} {below : List Frame} {meth : Method} {c : Code} (l : Launch) {b L : Nat} {xs : Nat → Int32} (hL : L ≤ 3072) (C0 : lw_At p s m meth c b L xs) : W p l e room_1 s m #[Value.ref b] below meth c s.heap [] 0 0 (lw_Z below #[Value.ref b] s) (entryFrame m ([Value.ref b] : List Value).toArray 4) := cz_whole l hL C0 cz_ok_all cz_okm_all ck_pure
