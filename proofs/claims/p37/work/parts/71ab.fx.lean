/-! FX: what is to be shown of the entries -/
theorem q0_32 (X : (Int → Int) × Int) (S : fx_S) (x3 : Int) (hS : fx_Sok S) (g3 : -2147483648 ≤ x3 ∧ x3 ≤ 2147483647) (v1 : Int) (e1 : v1 = X.2) (b1 : 0 ≤ v1 ∧ v1 ≤ 3072) (v2 : Int) (e2 : v2 = fx_sub v1 6) (c1 : x3 ≤ v2) (v3 : Int) (e3 : v3 = X.1 x3) (b3 : -2147483648 ≤ v3 ∧ v3 ≤ 2147483647) (v4 : Int) (e4 : v4 = fx_and v3 63) (c2 : v4 = 26) (v5 : Int) (e5 : v5 = fx_add x3 1) (v6 : Int) (e6 : v6 = X.1 v5) (b6 : -2147483648 ≤ v6 ∧ v6 ≤ 2147483647) (v7 : Int) (S1 : fx_S) (k1 : fx_Sok S1) (b7 : -2147483648 ≤ v7 ∧ v7 ≤ 2147483647) (p1 : s53 S v6 v7 S1) (v8 : Int) (e8 : v8 = fx_add x3 1) (v9 : Int) (e9 : v9 = X.1 v8) (b9 : -2147483648 ≤ v9 ∧ v9 ≤ 2147483647) (v10 : Int) (S2 : fx_S) (k2 : fx_Sok S2) (b10 : -2147483648 ≤ v10 ∧ v10 ≤ 2147483647) (p2 : s54 S1 v9 v10 S2) (v11 : Int) (e11 : v11 = fx_add x3 6) (z : Int) (Z : fx_S) (kz : fx_Sok Z) (bz : -2147483648 ≤ z ∧ z ≤ 2147483647) (pz : s0 S2 v11 z Z) : s0 S x3 z Z := by
  unfold s0 at pz
  unfold s0
  intro hR
  have BS := fx_iW hR
  have hn := fx_iN hR
  obtain rfl : v5 = v8 := by rw [e5, e8]
  obtain rfl : v6 = v9 := by rw [e6, e9]
  obtain ⟨q1, f1⟩ := p1
  have z1 : S1.2.2 = S.2.2 := by rw [q1]
  have r1 : ∀ p i : Int, S1.2.1 p i = S.2.1 p i := fun p i => by rw [q1]
  have BS1 : fx_WB S1 := fx_WB_eq BS (fun q => f1 67 q (by omega)) (fun q => f1 68 q (by omega)) (fun q => f1 69 q (by omega))
  unfold s54 at p2
  obtain ⟨q2, f2, BS2⟩ := p2 BS1
  have z2 : S2.2.2 = S1.2.2 := by rw [q2]
  have r2 : ∀ p i : Int, S2.2.1 p i = S1.2.1 p i := fun p i => by rw [q2]
  have h_s : fx_Rs S2.1 := fx_Rs_eq (fx_iS hR) (fun p i hp => ((f2 p i (by omega))).trans ((f1 p i (by omega))))
  have h_d : fx_Rd S2.1 1 (S2.1 67) := fx_Rd_eq (fx_iRd hR) (((f2 1 0 (by omega))).trans ((f1 1 0 (by omega)))) (((f2 67 0 (by omega))).trans ((f1 67 0 (by omega))))
  have h_v : fx_Rv S2.1 1 (S2.1 67) := fx_Rv_eq BS.1 (fx_iRv hR) (((f2 2 0 (by omega))).trans ((f1 2 0 (by omega)))) (fun j i _ j0 j1 => ((f2 (1 + j) i (by omega))).trans ((f1 (1 + j) i (by omega)))) (fun i hi => ((f2 67 i (by omega))).trans ((f1 67 i (by omega))))
  have h_m : fx_Rm S2.1 1 (S2.1 67) := fx_Rm_eq BS.1 (fx_iRm hR) (((f2 2 4 (by omega))).trans ((f1 2 4 (by omega)))) (fun j i _ j0 j1 => ((f2 (1 + j) i (by omega))).trans ((f1 (1 + j) i (by omega)))) (fun i hi => ((f2 67 i (by omega))).trans ((f1 67 i (by omega))))
  have h_p : fx_Rp S2.1 1 (S2.1 67) := fx_Rp_eq BS.1 (fx_iRp hR) (fun j i _ j0 j1 => ((f2 (1 + j) i (by omega))).trans ((f1 (1 + j) i (by omega)))) (fun i hi => ((f2 67 i (by omega))).trans ((f1 67 i (by omega)))) (Int.le_of_eq (((f2 67 0 (by omega))).trans ((f1 67 0 (by omega)))).symm) (Int.le_of_eq (((f2 67 1 (by omega))).trans ((f1 67 1 (by omega)))).symm) (Int.le_of_eq (((f2 67 5 (by omega))).trans ((f1 67 5 (by omega)))).symm)
  have h_h : fx_Rh S2.1 1 (S2.1 67) := fx_Rh_eq BS.1 (fx_iRh hR) (fun j i _ j0 j1 => ((f2 (1 + j) i (by omega))).trans ((f1 (1 + j) i (by omega)))) (fun i hi => ((f2 67 i (by omega))).trans ((f1 67 i (by omega))))
  exact pz (fx_RI_step hR BS2 (fun k => ((r2 49 k)).trans ((r1 49 k))) (by omega) (fun p i p0 p1 => ((f2 p i (by omega))).trans ((f1 p i (by omega)))) (fun i => ((f2 68 i (by omega))).trans ((f1 68 i (by omega)))) (fun i => ((f2 69 i (by omega))).trans ((f1 69 i (by omega)))) h_s ⟨h_d, h_v, h_m, h_p, h_h⟩)
theorem q0_33 (X : (Int → Int) × Int) (S : fx_S) (x3 : Int) (hS : fx_Sok S) (g3 : -2147483648 ≤ x3 ∧ x3 ≤ 2147483647) (v1 : Int) (e1 : v1 = X.2) (b1 : 0 ≤ v1 ∧ v1 ≤ 3072) (v2 : Int) (e2 : v2 = fx_sub v1 6) (c1 : x3 ≤ v2) (v3 : Int) (e3 : v3 = X.1 x3) (b3 : -2147483648 ≤ v3 ∧ v3 ≤ 2147483647) (v4 : Int) (e4 : v4 = fx_and v3 63) (c2 : v4 = 27) (v5 : Int) (e5 : v5 = fx_add x3 1) (v6 : Int) (e6 : v6 = X.1 v5) (b6 : -2147483648 ≤ v6 ∧ v6 ≤ 2147483647) (v7 : Int) (e7 : v7 = fx_add x3 2) (v8 : Int) (e8 : v8 = X.1 v7) (b8 : -2147483648 ≤ v8 ∧ v8 ≤ 2147483647) (v9 : Int) (S1 : fx_S) (k1 : fx_Sok S1) (b9 : -2147483648 ≤ v9 ∧ v9 ≤ 2147483647) (p1 : s55 S v6 v8 v9 S1) (v10 : Int) (e10 : v10 = fx_add x3 1) (v11 : Int) (e11 : v11 = X.1 v10) (b11 : -2147483648 ≤ v11 ∧ v11 ≤ 2147483647) (v12 : Int) (e12 : v12 = fx_add x3 2) (v13 : Int) (e13 : v13 = X.1 v12) (b13 : -2147483648 ≤ v13 ∧ v13 ≤ 2147483647) (v14 : Int) (S2 : fx_S) (k2 : fx_Sok S2) (b14 : -2147483648 ≤ v14 ∧ v14 ≤ 2147483647) (p2 : s56 S1 v11 v13 v14 S2) (v15 : Int) (e15 : v15 = fx_add x3 6) (z : Int) (Z : fx_S) (kz : fx_Sok Z) (bz : -2147483648 ≤ z ∧ z ≤ 2147483647) (pz : s0 S2 v15 z Z) : s0 S x3 z Z := by
  unfold s0 at pz
  unfold s0
  intro hR
  have BS := fx_iW hR
  have hn := fx_iN hR
  obtain rfl : v5 = v10 := by rw [e5, e10]
  obtain rfl : v6 = v11 := by rw [e6, e11]
  obtain rfl : v7 = v12 := by rw [e7, e12]
  obtain rfl : v8 = v13 := by rw [e8, e13]
  obtain rfl : S = S1 := p1
  obtain ⟨q2, f2⟩ := p2
  have z2 : S2.2.2 = S.2.2 := by rw [q2]
  have r2 : ∀ p i : Int, S2.2.1 p i = S.2.1 p i := fun p i => by rw [q2]
  have BS2 : fx_WB S2 := fx_WB_eq BS (fun q => f2 67 q (by omega)) (fun q => f2 68 q (by omega)) (fun q => f2 69 q (by omega))
  have h_s : fx_Rs S2.1 := fx_Rs_eq (fx_iS hR) (fun p i hp => (f2 p i (by omega)))
  have h_d : fx_Rd S2.1 1 (S2.1 67) := fx_Rd_eq (fx_iRd hR) ((f2 1 0 (by omega))) ((f2 67 0 (by omega)))
  have h_v : fx_Rv S2.1 1 (S2.1 67) := fx_Rv_eq BS.1 (fx_iRv hR) ((f2 2 0 (by omega))) (fun j i _ j0 j1 => (f2 (1 + j) i (by omega))) (fun i hi => (f2 67 i (by omega)))
  have h_m : fx_Rm S2.1 1 (S2.1 67) := fx_Rm_eq BS.1 (fx_iRm hR) ((f2 2 4 (by omega))) (fun j i _ j0 j1 => (f2 (1 + j) i (by omega))) (fun i hi => (f2 67 i (by omega)))
  have h_p : fx_Rp S2.1 1 (S2.1 67) := fx_Rp_eq BS.1 (fx_iRp hR) (fun j i _ j0 j1 => (f2 (1 + j) i (by omega))) (fun i hi => (f2 67 i (by omega))) (Int.le_of_eq ((f2 67 0 (by omega))).symm) (Int.le_of_eq ((f2 67 1 (by omega))).symm) (Int.le_of_eq ((f2 67 5 (by omega))).symm)
  have h_h : fx_Rh S2.1 1 (S2.1 67) := fx_Rh_eq BS.1 (fx_iRh hR) (fun j i _ j0 j1 => (f2 (1 + j) i (by omega))) (fun i hi => (f2 67 i (by omega)))
  exact pz (fx_RI_step hR BS2 (fun k => (r2 49 k)) (by omega) (fun p i p0 p1 => (f2 p i (by omega))) (fun i => (f2 68 i (by omega))) (fun i => (f2 69 i (by omega))) h_s ⟨h_d, h_v, h_m, h_p, h_h⟩)
theorem q0_34 (X : (Int → Int) × Int) (S : fx_S) (x3 : Int) (hS : fx_Sok S) (g3 : -2147483648 ≤ x3 ∧ x3 ≤ 2147483647) (v1 : Int) (e1 : v1 = X.2) (b1 : 0 ≤ v1 ∧ v1 ≤ 3072) (v2 : Int) (e2 : v2 = fx_sub v1 6) (c1 : x3 ≤ v2) (v3 : Int) (e3 : v3 = X.1 x3) (b3 : -2147483648 ≤ v3 ∧ v3 ≤ 2147483647) (v4 : Int) (e4 : v4 = fx_and v3 63) (c2 : v4 = 28) (v5 : Int) (e5 : v5 = fx_add x3 1) (v6 : Int) (e6 : v6 = X.1 v5) (b6 : -2147483648 ≤ v6 ∧ v6 ≤ 2147483647) (v7 : Int) (e7 : v7 = fx_add x3 2) (v8 : Int) (e8 : v8 = X.1 v7) (b8 : -2147483648 ≤ v8 ∧ v8 ≤ 2147483647) (v9 : Int) (S1 : fx_S) (k1 : fx_Sok S1) (b9 : -2147483648 ≤ v9 ∧ v9 ≤ 2147483647) (p1 : s57 S v6 v8 v9 S1) (v10 : Int) (e10 : v10 = fx_add x3 1) (v11 : Int) (e11 : v11 = X.1 v10) (b11 : -2147483648 ≤ v11 ∧ v11 ≤ 2147483647) (v12 : Int) (e12 : v12 = fx_add x3 2) (v13 : Int) (e13 : v13 = X.1 v12) (b13 : -2147483648 ≤ v13 ∧ v13 ≤ 2147483647) (v14 : Int) (S2 : fx_S) (k2 : fx_Sok S2) (b14 : -2147483648 ≤ v14 ∧ v14 ≤ 2147483647) (p2 : s58 S1 v11 v13 v14 S2) (v15 : Int) (e15 : v15 = fx_add x3 6) (z : Int) (Z : fx_S) (kz : fx_Sok Z) (bz : -2147483648 ≤ z ∧ z ≤ 2147483647) (pz : s0 S2 v15 z Z) : s0 S x3 z Z := by
  unfold s0 at pz
  unfold s0
  intro hR
  have BS := fx_iW hR
  have hn := fx_iN hR
  obtain rfl : v5 = v10 := by rw [e5, e10]
  obtain rfl : v6 = v11 := by rw [e6, e11]
  obtain rfl : v7 = v12 := by rw [e7, e12]
  obtain rfl : v8 = v13 := by rw [e8, e13]
  obtain ⟨q1, f1⟩ := p1
  have z1 : S1.2.2 = S.2.2 := by rw [q1]
  have r1 : ∀ p i : Int, S1.2.1 p i = S.2.1 p i := fun p i => by rw [q1]
  have BS1 : fx_WB S1 := fx_WB_eq BS (fun q => f1 67 q (by omega)) (fun q => f1 68 q (by omega)) (fun q => f1 69 q (by omega))
  obtain ⟨q2, f2⟩ := p2
  have z2 : S2.2.2 = S1.2.2 := by rw [q2]
  have r2 : ∀ p i : Int, S2.2.1 p i = S1.2.1 p i := fun p i => by rw [q2]
  have BS2 : fx_WB S2 := fx_WB_eq BS1 (fun q => f2 67 q (by omega)) (fun q => f2 68 q (by omega)) (fun q => f2 69 q (by omega))
  have h_s : fx_Rs S2.1 := fx_Rs_eq (fx_iS hR) (fun p i hp => ((f2 p i (by omega))).trans ((f1 p i (by omega))))
  have h_d : fx_Rd S2.1 1 (S2.1 67) := fx_Rd_eq (fx_iRd hR) (((f2 1 0 (by omega))).trans ((f1 1 0 (by omega)))) (((f2 67 0 (by omega))).trans ((f1 67 0 (by omega))))
  have h_v : fx_Rv S2.1 1 (S2.1 67) := fx_Rv_eq BS.1 (fx_iRv hR) (((f2 2 0 (by omega))).trans ((f1 2 0 (by omega)))) (fun j i _ j0 j1 => ((f2 (1 + j) i (by omega))).trans ((f1 (1 + j) i (by omega)))) (fun i hi => ((f2 67 i (by omega))).trans ((f1 67 i (by omega))))
  have h_m : fx_Rm S2.1 1 (S2.1 67) := fx_Rm_eq BS.1 (fx_iRm hR) (((f2 2 4 (by omega))).trans ((f1 2 4 (by omega)))) (fun j i _ j0 j1 => ((f2 (1 + j) i (by omega))).trans ((f1 (1 + j) i (by omega)))) (fun i hi => ((f2 67 i (by omega))).trans ((f1 67 i (by omega))))
  have h_p : fx_Rp S2.1 1 (S2.1 67) := fx_Rp_eq BS.1 (fx_iRp hR) (fun j i _ j0 j1 => ((f2 (1 + j) i (by omega))).trans ((f1 (1 + j) i (by omega)))) (fun i hi => ((f2 67 i (by omega))).trans ((f1 67 i (by omega)))) (Int.le_of_eq (((f2 67 0 (by omega))).trans ((f1 67 0 (by omega)))).symm) (Int.le_of_eq (((f2 67 1 (by omega))).trans ((f1 67 1 (by omega)))).symm) (Int.le_of_eq (((f2 67 5 (by omega))).trans ((f1 67 5 (by omega)))).symm)
  have h_h : fx_Rh S2.1 1 (S2.1 67) := fx_Rh_eq BS.1 (fx_iRh hR) (fun j i _ j0 j1 => ((f2 (1 + j) i (by omega))).trans ((f1 (1 + j) i (by omega)))) (fun i hi => ((f2 67 i (by omega))).trans ((f1 67 i (by omega))))
  exact pz (fx_RI_step hR BS2 (fun k => ((r2 49 k)).trans ((r1 49 k))) (by omega) (fun p i p0 p1 => ((f2 p i (by omega))).trans ((f1 p i (by omega)))) (fun i => ((f2 68 i (by omega))).trans ((f1 68 i (by omega)))) (fun i => ((f2 69 i (by omega))).trans ((f1 69 i (by omega)))) h_s ⟨h_d, h_v, h_m, h_p, h_h⟩)
theorem q0_35 (X : (Int → Int) × Int) (S : fx_S) (x3 : Int) (hS : fx_Sok S) (g3 : -2147483648 ≤ x3 ∧ x3 ≤ 2147483647) (v1 : Int) (e1 : v1 = X.2) (b1 : 0 ≤ v1 ∧ v1 ≤ 3072) (v2 : Int) (e2 : v2 = fx_sub v1 6) (c1 : x3 ≤ v2) (v3 : Int) (e3 : v3 = X.1 x3) (b3 : -2147483648 ≤ v3 ∧ v3 ≤ 2147483647) (v4 : Int) (e4 : v4 = fx_and v3 63) (c2 : v4 = 29) (v5 : Int) (e5 : v5 = fx_add x3 1) (v6 : Int) (e6 : v6 = X.1 v5) (b6 : -2147483648 ≤ v6 ∧ v6 ≤ 2147483647) (v7 : Int) (S1 : fx_S) (k1 : fx_Sok S1) (b7 : -2147483648 ≤ v7 ∧ v7 ≤ 2147483647) (p1 : s59 S v6 v7 S1) (v8 : Int) (e8 : v8 = fx_add x3 1) (v9 : Int) (e9 : v9 = X.1 v8) (b9 : -2147483648 ≤ v9 ∧ v9 ≤ 2147483647) (v10 : Int) (S2 : fx_S) (k2 : fx_Sok S2) (b10 : -2147483648 ≤ v10 ∧ v10 ≤ 2147483647) (p2 : s60 S1 v9 v10 S2) (v11 : Int) (e11 : v11 = fx_add x3 6) (z : Int) (Z : fx_S) (kz : fx_Sok Z) (bz : -2147483648 ≤ z ∧ z ≤ 2147483647) (pz : s0 S2 v11 z Z) : s0 S x3 z Z := by
  unfold s0 at pz
  unfold s0
  intro hR
  have BS := fx_iW hR
  have hn := fx_iN hR
  obtain rfl : v5 = v8 := by rw [e5, e8]
  obtain rfl : v6 = v9 := by rw [e6, e9]
  obtain ⟨q1, f1⟩ := p1
  have z1 : S1.2.2 = S.2.2 := by rw [q1]
  have r1 : ∀ p i : Int, S1.2.1 p i = S.2.1 p i := fun p i => by rw [q1]
  have BS1 : fx_WB S1 := fx_WB_eq BS (fun q => f1 67 q (by omega)) (fun q => f1 68 q (by omega)) (fun q => f1 69 q (by omega))
  obtain ⟨q2, f2⟩ := p2
  have z2 : S2.2.2 = S1.2.2 := by rw [q2]
  have r2 : ∀ p i : Int, S2.2.1 p i = S1.2.1 p i := fun p i => by rw [q2]
  have BS2 : fx_WB S2 := fx_WB_eq BS1 (fun q => f2 67 q (by omega)) (fun q => f2 68 q (by omega)) (fun q => f2 69 q (by omega))
  have h_s : fx_Rs S2.1 := fx_Rs_eq (fx_iS hR) (fun p i hp => ((f2 p i (by omega))).trans ((f1 p i (by omega))))
  have h_d : fx_Rd S2.1 1 (S2.1 67) := fx_Rd_eq (fx_iRd hR) (((f2 1 0 (by omega))).trans ((f1 1 0 (by omega)))) (((f2 67 0 (by omega))).trans ((f1 67 0 (by omega))))
  have h_v : fx_Rv S2.1 1 (S2.1 67) := fx_Rv_eq BS.1 (fx_iRv hR) (((f2 2 0 (by omega))).trans ((f1 2 0 (by omega)))) (fun j i _ j0 j1 => ((f2 (1 + j) i (by omega))).trans ((f1 (1 + j) i (by omega)))) (fun i hi => ((f2 67 i (by omega))).trans ((f1 67 i (by omega))))
  have h_m : fx_Rm S2.1 1 (S2.1 67) := fx_Rm_eq BS.1 (fx_iRm hR) (((f2 2 4 (by omega))).trans ((f1 2 4 (by omega)))) (fun j i _ j0 j1 => ((f2 (1 + j) i (by omega))).trans ((f1 (1 + j) i (by omega)))) (fun i hi => ((f2 67 i (by omega))).trans ((f1 67 i (by omega))))
  have h_p : fx_Rp S2.1 1 (S2.1 67) := fx_Rp_eq BS.1 (fx_iRp hR) (fun j i _ j0 j1 => ((f2 (1 + j) i (by omega))).trans ((f1 (1 + j) i (by omega)))) (fun i hi => ((f2 67 i (by omega))).trans ((f1 67 i (by omega)))) (Int.le_of_eq (((f2 67 0 (by omega))).trans ((f1 67 0 (by omega)))).symm) (Int.le_of_eq (((f2 67 1 (by omega))).trans ((f1 67 1 (by omega)))).symm) (Int.le_of_eq (((f2 67 5 (by omega))).trans ((f1 67 5 (by omega)))).symm)
  have h_h : fx_Rh S2.1 1 (S2.1 67) := fx_Rh_eq BS.1 (fx_iRh hR) (fun j i _ j0 j1 => ((f2 (1 + j) i (by omega))).trans ((f1 (1 + j) i (by omega)))) (fun i hi => ((f2 67 i (by omega))).trans ((f1 67 i (by omega))))
  exact pz (fx_RI_step hR BS2 (fun k => ((r2 49 k)).trans ((r1 49 k))) (by omega) (fun p i p0 p1 => ((f2 p i (by omega))).trans ((f1 p i (by omega)))) (fun i => ((f2 68 i (by omega))).trans ((f1 68 i (by omega)))) (fun i => ((f2 69 i (by omega))).trans ((f1 69 i (by omega)))) h_s ⟨h_d, h_v, h_m, h_p, h_h⟩)
theorem q0_36 (X : (Int → Int) × Int) (S : fx_S) (x3 : Int) (hS : fx_Sok S) (g3 : -2147483648 ≤ x3 ∧ x3 ≤ 2147483647) (v1 : Int) (e1 : v1 = X.2) (b1 : 0 ≤ v1 ∧ v1 ≤ 3072) (v2 : Int) (e2 : v2 = fx_sub v1 6) (c1 : x3 ≤ v2) (v3 : Int) (e3 : v3 = X.1 x3) (b3 : -2147483648 ≤ v3 ∧ v3 ≤ 2147483647) (v4 : Int) (e4 : v4 = fx_and v3 63) (c2 : v4 = 30) (v5 : Int) (e5 : v5 = fx_add x3 1) (v6 : Int) (e6 : v6 = X.1 v5) (b6 : -2147483648 ≤ v6 ∧ v6 ≤ 2147483647) (v7 : Int) (S1 : fx_S) (k1 : fx_Sok S1) (b7 : -2147483648 ≤ v7 ∧ v7 ≤ 2147483647) (p1 : s61 S v6 v7 S1) (v8 : Int) (e8 : v8 = fx_add x3 1) (v9 : Int) (e9 : v9 = X.1 v8) (b9 : -2147483648 ≤ v9 ∧ v9 ≤ 2147483647) (v10 : Int) (S2 : fx_S) (k2 : fx_Sok S2) (b10 : -2147483648 ≤ v10 ∧ v10 ≤ 2147483647) (p2 : s62 S1 v9 v10 S2) (v11 : Int) (e11 : v11 = fx_add x3 6) (z : Int) (Z : fx_S) (kz : fx_Sok Z) (bz : -2147483648 ≤ z ∧ z ≤ 2147483647) (pz : s0 S2 v11 z Z) : s0 S x3 z Z := by
  unfold s0 at pz
  unfold s0
  intro hR
  have BS := fx_iW hR
  have hn := fx_iN hR
  obtain rfl : v5 = v8 := by rw [e5, e8]
  obtain rfl : v6 = v9 := by rw [e6, e9]
  obtain ⟨q1, f1⟩ := p1
  have z1 : S1.2.2 = S.2.2 := by rw [q1]
  have r1 : ∀ p i : Int, S1.2.1 p i = S.2.1 p i := fun p i => by rw [q1]
  have BS1 : fx_WB S1 := fx_WB_eq BS (fun q => f1 67 q (by omega)) (fun q => f1 68 q (by omega)) (fun q => f1 69 q (by omega))
  unfold s62 at p2
  obtain ⟨q2, f2, BS2⟩ := p2 BS1
  have z2 : S2.2.2 = S1.2.2 := by rw [q2]
  have r2 : ∀ p i : Int, S2.2.1 p i = S1.2.1 p i := fun p i => by rw [q2]
  have h_s : fx_Rs S2.1 := fx_Rs_eq (fx_iS hR) (fun p i hp => ((f2 p i (by omega))).trans ((f1 p i (by omega))))
  have h_d : fx_Rd S2.1 1 (S2.1 67) := fx_Rd_eq (fx_iRd hR) (((f2 1 0 (by omega))).trans ((f1 1 0 (by omega)))) (((f2 67 0 (by omega))).trans ((f1 67 0 (by omega))))
  have h_v : fx_Rv S2.1 1 (S2.1 67) := fx_Rv_eq BS.1 (fx_iRv hR) (((f2 2 0 (by omega))).trans ((f1 2 0 (by omega)))) (fun j i _ j0 j1 => ((f2 (1 + j) i (by omega))).trans ((f1 (1 + j) i (by omega)))) (fun i hi => ((f2 67 i (by omega))).trans ((f1 67 i (by omega))))
  have h_m : fx_Rm S2.1 1 (S2.1 67) := fx_Rm_eq BS.1 (fx_iRm hR) (((f2 2 4 (by omega))).trans ((f1 2 4 (by omega)))) (fun j i _ j0 j1 => ((f2 (1 + j) i (by omega))).trans ((f1 (1 + j) i (by omega)))) (fun i hi => ((f2 67 i (by omega))).trans ((f1 67 i (by omega))))
  have h_p : fx_Rp S2.1 1 (S2.1 67) := fx_Rp_eq BS.1 (fx_iRp hR) (fun j i _ j0 j1 => ((f2 (1 + j) i (by omega))).trans ((f1 (1 + j) i (by omega)))) (fun i hi => ((f2 67 i (by omega))).trans ((f1 67 i (by omega)))) (Int.le_of_eq (((f2 67 0 (by omega))).trans ((f1 67 0 (by omega)))).symm) (Int.le_of_eq (((f2 67 1 (by omega))).trans ((f1 67 1 (by omega)))).symm) (Int.le_of_eq (((f2 67 5 (by omega))).trans ((f1 67 5 (by omega)))).symm)
  have h_h : fx_Rh S2.1 1 (S2.1 67) := fx_Rh_eq BS.1 (fx_iRh hR) (fun j i _ j0 j1 => ((f2 (1 + j) i (by omega))).trans ((f1 (1 + j) i (by omega)))) (fun i hi => ((f2 67 i (by omega))).trans ((f1 67 i (by omega))))
  exact pz (fx_RI_step hR BS2 (fun k => ((r2 49 k)).trans ((r1 49 k))) (by omega) (fun p i p0 p1 => ((f2 p i (by omega))).trans ((f1 p i (by omega)))) (fun i => ((f2 68 i (by omega))).trans ((f1 68 i (by omega)))) (fun i => ((f2 69 i (by omega))).trans ((f1 69 i (by omega)))) h_s ⟨h_d, h_v, h_m, h_p, h_h⟩)
theorem q0_37 (X : (Int → Int) × Int) (S : fx_S) (x3 : Int) (hS : fx_Sok S) (g3 : -2147483648 ≤ x3 ∧ x3 ≤ 2147483647) (v1 : Int) (e1 : v1 = X.2) (b1 : 0 ≤ v1 ∧ v1 ≤ 3072) (v2 : Int) (e2 : v2 = fx_sub v1 6) (c1 : x3 ≤ v2) (v3 : Int) (e3 : v3 = X.1 x3) (b3 : -2147483648 ≤ v3 ∧ v3 ≤ 2147483647) (v4 : Int) (e4 : v4 = fx_and v3 63) (c2 : v4 = 31) (v5 : Int) (e5 : v5 = fx_add x3 1) (v6 : Int) (e6 : v6 = X.1 v5) (b6 : -2147483648 ≤ v6 ∧ v6 ≤ 2147483647) (v7 : Int) (e7 : v7 = fx_add x3 2) (v8 : Int) (e8 : v8 = X.1 v7) (b8 : -2147483648 ≤ v8 ∧ v8 ≤ 2147483647) (v9 : Int) (S1 : fx_S) (k1 : fx_Sok S1) (b9 : -2147483648 ≤ v9 ∧ v9 ≤ 2147483647) (p1 : s63 S v6 v8 v9 S1) (v10 : Int) (e10 : v10 = fx_add x3 1) (v11 : Int) (e11 : v11 = X.1 v10) (b11 : -2147483648 ≤ v11 ∧ v11 ≤ 2147483647) (v12 : Int) (e12 : v12 = fx_add x3 2) (v13 : Int) (e13 : v13 = X.1 v12) (b13 : -2147483648 ≤ v13 ∧ v13 ≤ 2147483647) (v14 : Int) (S2 : fx_S) (k2 : fx_Sok S2) (b14 : -2147483648 ≤ v14 ∧ v14 ≤ 2147483647) (p2 : s64 S1 v11 v13 v14 S2) (v15 : Int) (e15 : v15 = fx_add x3 6) (z : Int) (Z : fx_S) (kz : fx_Sok Z) (bz : -2147483648 ≤ z ∧ z ≤ 2147483647) (pz : s0 S2 v15 z Z) : s0 S x3 z Z := by
  unfold s0 at pz
  unfold s0
  intro hR
  have BS := fx_iW hR
  have hn := fx_iN hR
  obtain rfl : v5 = v10 := by rw [e5, e10]
  obtain rfl : v6 = v11 := by rw [e6, e11]
  obtain rfl : v7 = v12 := by rw [e7, e12]
  obtain rfl : v8 = v13 := by rw [e8, e13]
  obtain ⟨q1, f1⟩ := p1
  have z1 : S1.2.2 = S.2.2 := by rw [q1]
  have r1 : ∀ p i : Int, S1.2.1 p i = S.2.1 p i := fun p i => by rw [q1]
  have BS1 : fx_WB S1 := fx_WB_eq BS (fun q => f1 67 q (by omega)) (fun q => f1 68 q (by omega)) (fun q => f1 69 q (by omega))
  obtain ⟨q2, f2⟩ := p2
  have z2 : S2.2.2 = S1.2.2 := by rw [q2]
  have r2 : ∀ p i : Int, S2.2.1 p i = S1.2.1 p i := fun p i => by rw [q2]
  have BS2 : fx_WB S2 := fx_WB_eq BS1 (fun q => f2 67 q (by omega)) (fun q => f2 68 q (by omega)) (fun q => f2 69 q (by omega))
  have h_s : fx_Rs S2.1 := fx_Rs_eq (fx_iS hR) (fun p i hp => ((f2 p i (by omega))).trans ((f1 p i (by omega))))
  have h_d : fx_Rd S2.1 1 (S2.1 67) := fx_Rd_eq (fx_iRd hR) (((f2 1 0 (by omega))).trans ((f1 1 0 (by omega)))) (((f2 67 0 (by omega))).trans ((f1 67 0 (by omega))))
  have h_v : fx_Rv S2.1 1 (S2.1 67) := fx_Rv_eq BS.1 (fx_iRv hR) (((f2 2 0 (by omega))).trans ((f1 2 0 (by omega)))) (fun j i _ j0 j1 => ((f2 (1 + j) i (by omega))).trans ((f1 (1 + j) i (by omega)))) (fun i hi => ((f2 67 i (by omega))).trans ((f1 67 i (by omega))))
  have h_m : fx_Rm S2.1 1 (S2.1 67) := fx_Rm_eq BS.1 (fx_iRm hR) (((f2 2 4 (by omega))).trans ((f1 2 4 (by omega)))) (fun j i _ j0 j1 => ((f2 (1 + j) i (by omega))).trans ((f1 (1 + j) i (by omega)))) (fun i hi => ((f2 67 i (by omega))).trans ((f1 67 i (by omega))))
  have h_p : fx_Rp S2.1 1 (S2.1 67) := fx_Rp_eq BS.1 (fx_iRp hR) (fun j i _ j0 j1 => ((f2 (1 + j) i (by omega))).trans ((f1 (1 + j) i (by omega)))) (fun i hi => ((f2 67 i (by omega))).trans ((f1 67 i (by omega)))) (Int.le_of_eq (((f2 67 0 (by omega))).trans ((f1 67 0 (by omega)))).symm) (Int.le_of_eq (((f2 67 1 (by omega))).trans ((f1 67 1 (by omega)))).symm) (Int.le_of_eq (((f2 67 5 (by omega))).trans ((f1 67 5 (by omega)))).symm)
  have h_h : fx_Rh S2.1 1 (S2.1 67) := fx_Rh_eq BS.1 (fx_iRh hR) (fun j i _ j0 j1 => ((f2 (1 + j) i (by omega))).trans ((f1 (1 + j) i (by omega)))) (fun i hi => ((f2 67 i (by omega))).trans ((f1 67 i (by omega))))
  exact pz (fx_RI_step hR BS2 (fun k => ((r2 49 k)).trans ((r1 49 k))) (by omega) (fun p i p0 p1 => ((f2 p i (by omega))).trans ((f1 p i (by omega)))) (fun i => ((f2 68 i (by omega))).trans ((f1 68 i (by omega)))) (fun i => ((f2 69 i (by omega))).trans ((f1 69 i (by omega)))) h_s ⟨h_d, h_v, h_m, h_p, h_h⟩)
theorem q0_38 (X : (Int → Int) × Int) (S : fx_S) (x3 : Int) (hS : fx_Sok S) (g3 : -2147483648 ≤ x3 ∧ x3 ≤ 2147483647) (v1 : Int) (e1 : v1 = X.2) (b1 : 0 ≤ v1 ∧ v1 ≤ 3072) (v2 : Int) (e2 : v2 = fx_sub v1 6) (c1 : x3 ≤ v2) (v3 : Int) (e3 : v3 = X.1 x3) (b3 : -2147483648 ≤ v3 ∧ v3 ≤ 2147483647) (v4 : Int) (e4 : v4 = fx_and v3 63) (c2 : v4 = 32) (v5 : Int) (e5 : v5 = fx_add x3 1) (v6 : Int) (e6 : v6 = X.1 v5) (b6 : -2147483648 ≤ v6 ∧ v6 ≤ 2147483647) (v7 : Int) (e7 : v7 = fx_add x3 2) (v8 : Int) (e8 : v8 = X.1 v7) (b8 : -2147483648 ≤ v8 ∧ v8 ≤ 2147483647) (v9 : Int) (S1 : fx_S) (k1 : fx_Sok S1) (b9 : -2147483648 ≤ v9 ∧ v9 ≤ 2147483647) (p1 : s65 S v6 v8 v9 S1) (v10 : Int) (e10 : v10 = fx_add x3 1) (v11 : Int) (e11 : v11 = X.1 v10) (b11 : -2147483648 ≤ v11 ∧ v11 ≤ 2147483647) (v12 : Int) (e12 : v12 = fx_add x3 2) (v13 : Int) (e13 : v13 = X.1 v12) (b13 : -2147483648 ≤ v13 ∧ v13 ≤ 2147483647) (v14 : Int) (S2 : fx_S) (k2 : fx_Sok S2) (b14 : -2147483648 ≤ v14 ∧ v14 ≤ 2147483647) (p2 : s66 S1 v11 v13 v14 S2) (v15 : Int) (e15 : v15 = fx_add x3 6) (z : Int) (Z : fx_S) (kz : fx_Sok Z) (bz : -2147483648 ≤ z ∧ z ≤ 2147483647) (pz : s0 S2 v15 z Z) : s0 S x3 z Z := by
  unfold s0 at pz
  unfold s0
  intro hR
  have BS := fx_iW hR
  have hn := fx_iN hR
  obtain rfl : v5 = v10 := by rw [e5, e10]
  obtain rfl : v6 = v11 := by rw [e6, e11]
  obtain rfl : v7 = v12 := by rw [e7, e12]
  obtain rfl : v8 = v13 := by rw [e8, e13]
  obtain ⟨q1, f1⟩ := p1
  have z1 : S1.2.2 = S.2.2 := by rw [q1]
  have r1 : ∀ p i : Int, S1.2.1 p i = S.2.1 p i := fun p i => by rw [q1]
  have BS1 : fx_WB S1 := fx_WB_eq BS (fun q => f1 67 q (by omega)) (fun q => f1 68 q (by omega)) (fun q => f1 69 q (by omega))
  obtain ⟨q2, f2⟩ := p2
  have z2 : S2.2.2 = S1.2.2 := by rw [q2]
  have r2 : ∀ p i : Int, S2.2.1 p i = S1.2.1 p i := fun p i => by rw [q2]
  have BS2 : fx_WB S2 := fx_WB_eq BS1 (fun q => f2 67 q (by omega)) (fun q => f2 68 q (by omega)) (fun q => f2 69 q (by omega))
  have h_s : fx_Rs S2.1 := fx_Rs_eq (fx_iS hR) (fun p i hp => ((f2 p i (by omega))).trans ((f1 p i (by omega))))
  have h_d : fx_Rd S2.1 1 (S2.1 67) := fx_Rd_eq (fx_iRd hR) (((f2 1 0 (by omega))).trans ((f1 1 0 (by omega)))) (((f2 67 0 (by omega))).trans ((f1 67 0 (by omega))))
  have h_v : fx_Rv S2.1 1 (S2.1 67) := fx_Rv_eq BS.1 (fx_iRv hR) (((f2 2 0 (by omega))).trans ((f1 2 0 (by omega)))) (fun j i _ j0 j1 => ((f2 (1 + j) i (by omega))).trans ((f1 (1 + j) i (by omega)))) (fun i hi => ((f2 67 i (by omega))).trans ((f1 67 i (by omega))))
  have h_m : fx_Rm S2.1 1 (S2.1 67) := fx_Rm_eq BS.1 (fx_iRm hR) (((f2 2 4 (by omega))).trans ((f1 2 4 (by omega)))) (fun j i _ j0 j1 => ((f2 (1 + j) i (by omega))).trans ((f1 (1 + j) i (by omega)))) (fun i hi => ((f2 67 i (by omega))).trans ((f1 67 i (by omega))))
  have h_p : fx_Rp S2.1 1 (S2.1 67) := fx_Rp_eq BS.1 (fx_iRp hR) (fun j i _ j0 j1 => ((f2 (1 + j) i (by omega))).trans ((f1 (1 + j) i (by omega)))) (fun i hi => ((f2 67 i (by omega))).trans ((f1 67 i (by omega)))) (Int.le_of_eq (((f2 67 0 (by omega))).trans ((f1 67 0 (by omega)))).symm) (Int.le_of_eq (((f2 67 1 (by omega))).trans ((f1 67 1 (by omega)))).symm) (Int.le_of_eq (((f2 67 5 (by omega))).trans ((f1 67 5 (by omega)))).symm)
  have h_h : fx_Rh S2.1 1 (S2.1 67) := fx_Rh_eq BS.1 (fx_iRh hR) (fun j i _ j0 j1 => ((f2 (1 + j) i (by omega))).trans ((f1 (1 + j) i (by omega)))) (fun i hi => ((f2 67 i (by omega))).trans ((f1 67 i (by omega))))
  exact pz (fx_RI_step hR BS2 (fun k => ((r2 49 k)).trans ((r1 49 k))) (by omega) (fun p i p0 p1 => ((f2 p i (by omega))).trans ((f1 p i (by omega)))) (fun i => ((f2 68 i (by omega))).trans ((f1 68 i (by omega)))) (fun i => ((f2 69 i (by omega))).trans ((f1 69 i (by omega)))) h_s ⟨h_d, h_v, h_m, h_p, h_h⟩)
theorem q0_39 (X : (Int → Int) × Int) (S : fx_S) (x3 : Int) (hS : fx_Sok S) (g3 : -2147483648 ≤ x3 ∧ x3 ≤ 2147483647) (v1 : Int) (e1 : v1 = X.2) (b1 : 0 ≤ v1 ∧ v1 ≤ 3072) (v2 : Int) (e2 : v2 = fx_sub v1 6) (c1 : x3 ≤ v2) (v3 : Int) (e3 : v3 = X.1 x3) (b3 : -2147483648 ≤ v3 ∧ v3 ≤ 2147483647) (v4 : Int) (e4 : v4 = fx_and v3 63) (c2 : v4 = 33) (v5 : Int) (e5 : v5 = fx_add x3 1) (v6 : Int) (e6 : v6 = X.1 v5) (b6 : -2147483648 ≤ v6 ∧ v6 ≤ 2147483647) (v7 : Int) (e7 : v7 = fx_add x3 2) (v8 : Int) (e8 : v8 = X.1 v7) (b8 : -2147483648 ≤ v8 ∧ v8 ≤ 2147483647) (v9 : Int) (e9 : v9 = fx_add x3 3) (v10 : Int) (e10 : v10 = X.1 v9) (b10 : -2147483648 ≤ v10 ∧ v10 ≤ 2147483647) (v11 : Int) (S1 : fx_S) (k1 : fx_Sok S1) (b11 : -2147483648 ≤ v11 ∧ v11 ≤ 2147483647) (p1 : s67 S v6 v8 v10 v11 S1) (v12 : Int) (e12 : v12 = fx_add x3 1) (v13 : Int) (e13 : v13 = X.1 v12) (b13 : -2147483648 ≤ v13 ∧ v13 ≤ 2147483647) (v14 : Int) (e14 : v14 = fx_add x3 2) (v15 : Int) (e15 : v15 = X.1 v14) (b15 : -2147483648 ≤ v15 ∧ v15 ≤ 2147483647) (v16 : Int) (e16 : v16 = fx_add x3 3) (v17 : Int) (e17 : v17 = X.1 v16) (b17 : -2147483648 ≤ v17 ∧ v17 ≤ 2147483647) (v18 : Int) (S2 : fx_S) (k2 : fx_Sok S2) (b18 : -2147483648 ≤ v18 ∧ v18 ≤ 2147483647) (p2 : s68 S1 v13 v15 v17 v18 S2) (v19 : Int) (e19 : v19 = fx_add x3 6) (z : Int) (Z : fx_S) (kz : fx_Sok Z) (bz : -2147483648 ≤ z ∧ z ≤ 2147483647) (pz : s0 S2 v19 z Z) : s0 S x3 z Z := by
  unfold s0 at pz
  unfold s0
  intro hR
  have BS := fx_iW hR
  have hn := fx_iN hR
  obtain rfl : v5 = v12 := by rw [e5, e12]
  obtain rfl : v6 = v13 := by rw [e6, e13]
  obtain rfl : v7 = v14 := by rw [e7, e14]
  obtain rfl : v8 = v15 := by rw [e8, e15]
  obtain rfl : v9 = v16 := by rw [e9, e16]
  obtain rfl : v10 = v17 := by rw [e10, e17]
  have hL := fx_l_house hR p1 p2
  obtain ⟨q1, f1, p1⟩ := p1
  have z1 : S1.2.2 = S.2.2 := by rw [q1]
  have r1 : ∀ p i : Int, S1.2.1 p i = S.2.1 p i := fun p i => by rw [q1]
  have BS1 : fx_WB S1 := fx_WB_eq BS (fun q => f1 67 q (by omega)) (fun q => f1 68 q (by omega)) (fun q => f1 69 q (by omega))
  unfold s68 at p2
  obtain ⟨q2, f2, BS2, p2⟩ := p2 BS1
  have z2 : S2.2.2 = S1.2.2 := by rw [q2]
  have r2 : ∀ p i : Int, S2.2.1 p i = S1.2.1 p i := fun p i => by rw [q2]
  have h_s : fx_Rs S2.1 := fx_Rs_eq (fx_iS hR) (fun p i hp => ((f2 p i (by omega))).trans ((f1 p i (by omega))))
  have h_d : fx_Rd S2.1 1 (S2.1 67) := fx_Rd_eq (fx_iRd hR) (((f2 1 0 (by omega))).trans ((f1 1 0 (by omega)))) (((f2 67 0 (by omega))).trans ((f1 67 0 (by omega))))
  have h_v : fx_Rv S2.1 1 (S2.1 67) := fx_Rv_eq BS.1 (fx_iRv hR) (((f2 2 0 (by omega))).trans ((f1 2 0 (by omega)))) (fun j i _ j0 j1 => ((f2 (1 + j) i (by omega))).trans ((f1 (1 + j) i (by omega)))) (fun i hi => ((f2 67 i (by omega))).trans ((f1 67 i (by omega))))
  have h_m : fx_Rm S2.1 1 (S2.1 67) := fx_Rm_eq BS.1 (fx_iRm hR) (((f2 2 4 (by omega))).trans ((f1 2 4 (by omega)))) (fun j i _ j0 j1 => ((f2 (1 + j) i (by omega))).trans ((f1 (1 + j) i (by omega)))) (fun i hi => ((f2 67 i (by omega))).trans ((f1 67 i (by omega))))
  have h_p : fx_Rp S2.1 1 (S2.1 67) := fx_Rp_eq BS.1 (fx_iRp hR) (fun j i _ j0 j1 => ((f2 (1 + j) i (by omega))).trans ((f1 (1 + j) i (by omega)))) (fun i hi => ((f2 67 i (by omega))).trans ((f1 67 i (by omega)))) (Int.le_of_eq (((f2 67 0 (by omega))).trans ((f1 67 0 (by omega)))).symm) (Int.le_of_eq (((f2 67 1 (by omega))).trans ((f1 67 1 (by omega)))).symm) (hL.2.2)
  have h_h : fx_Rh S2.1 1 (S2.1 67) := hL.2.1
  exact pz (fx_RI_step hR BS2 (fun k => ((r2 49 k)).trans ((r1 49 k))) (by omega) (fun p i p0 p1 => ((f2 p i (by omega))).trans ((f1 p i (by omega)))) (fun i => ((f2 68 i (by omega))).trans ((f1 68 i (by omega)))) (fun i => ((f2 69 i (by omega))).trans ((f1 69 i (by omega)))) h_s ⟨h_d, h_v, h_m, h_p, h_h⟩)
theorem q0_40 (X : (Int → Int) × Int) (S : fx_S) (x3 : Int) (hS : fx_Sok S) (g3 : -2147483648 ≤ x3 ∧ x3 ≤ 2147483647) (v1 : Int) (e1 : v1 = X.2) (b1 : 0 ≤ v1 ∧ v1 ≤ 3072) (v2 : Int) (e2 : v2 = fx_sub v1 6) (c1 : x3 ≤ v2) (v3 : Int) (e3 : v3 = X.1 x3) (b3 : -2147483648 ≤ v3 ∧ v3 ≤ 2147483647) (v4 : Int) (e4 : v4 = fx_and v3 63) (c2 : v4 = 34) (v5 : Int) (e5 : v5 = fx_add x3 1) (v6 : Int) (e6 : v6 = X.1 v5) (b6 : -2147483648 ≤ v6 ∧ v6 ≤ 2147483647) (v7 : Int) (e7 : v7 = fx_add x3 2) (v8 : Int) (e8 : v8 = X.1 v7) (b8 : -2147483648 ≤ v8 ∧ v8 ≤ 2147483647) (v9 : Int) (S1 : fx_S) (k1 : fx_Sok S1) (b9 : -2147483648 ≤ v9 ∧ v9 ≤ 2147483647) (p1 : s69 S v6 v8 v9 S1) (v10 : Int) (e10 : v10 = fx_add x3 1) (v11 : Int) (e11 : v11 = X.1 v10) (b11 : -2147483648 ≤ v11 ∧ v11 ≤ 2147483647) (v12 : Int) (e12 : v12 = fx_add x3 2) (v13 : Int) (e13 : v13 = X.1 v12) (b13 : -2147483648 ≤ v13 ∧ v13 ≤ 2147483647) (v14 : Int) (S2 : fx_S) (k2 : fx_Sok S2) (b14 : -2147483648 ≤ v14 ∧ v14 ≤ 2147483647) (p2 : s70 S1 v11 v13 v14 S2) (v15 : Int) (e15 : v15 = fx_add x3 6) (z : Int) (Z : fx_S) (kz : fx_Sok Z) (bz : -2147483648 ≤ z ∧ z ≤ 2147483647) (pz : s0 S2 v15 z Z) : s0 S x3 z Z := by
  unfold s0 at pz
  unfold s0
  intro hR
  have BS := fx_iW hR
  have hn := fx_iN hR
  obtain rfl : v5 = v10 := by rw [e5, e10]
  obtain rfl : v6 = v11 := by rw [e6, e11]
  obtain rfl : v7 = v12 := by rw [e7, e12]
  obtain rfl : v8 = v13 := by rw [e8, e13]
  have hL := fx_l_appeal hR p1 p2
  obtain ⟨q1, f1, p1⟩ := p1
  have z1 : S1.2.2 = S.2.2 := by rw [q1]
  have r1 : ∀ p i : Int, S1.2.1 p i = S.2.1 p i := fun p i => by rw [q1]
  have BS1 : fx_WB S1 := fx_WB_eq BS (fun q => f1 67 q (by omega)) (fun q => f1 68 q (by omega)) (fun q => f1 69 q (by omega))
  unfold s70 at p2
  obtain ⟨q2, f2, BS2, p2⟩ := p2 BS1
  have z2 : S2.2.2 = S1.2.2 := by rw [q2]
  have r2 : ∀ p i : Int, S2.2.1 p i = S1.2.1 p i := fun p i => by rw [q2]
  have h_s : fx_Rs S2.1 := fx_Rs_eq (fx_iS hR) (fun p i hp => ((f2 p i (by omega))).trans ((f1 p i (by omega))))
  have h_d : fx_Rd S2.1 1 (S2.1 67) := fx_Rd_eq (fx_iRd hR) (((f2 1 0 (by omega))).trans ((f1 1 0 (by omega)))) (((f2 67 0 (by omega))).trans ((f1 67 0 (by omega))))
  have h_v : fx_Rv S2.1 1 (S2.1 67) := fx_Rv_eq BS.1 (fx_iRv hR) (((f2 2 0 (by omega))).trans ((f1 2 0 (by omega)))) (fun j i _ j0 j1 => ((f2 (1 + j) i (by omega))).trans ((f1 (1 + j) i (by omega)))) (fun i hi => ((f2 67 i (by omega))).trans ((f1 67 i (by omega))))
  have h_m : fx_Rm S2.1 1 (S2.1 67) := fx_Rm_eq BS.1 (fx_iRm hR) (((f2 2 4 (by omega))).trans ((f1 2 4 (by omega)))) (fun j i _ j0 j1 => ((f2 (1 + j) i (by omega))).trans ((f1 (1 + j) i (by omega)))) (fun i hi => ((f2 67 i (by omega))).trans ((f1 67 i (by omega))))
  have h_p : fx_Rp S2.1 1 (S2.1 67) := fx_Rp_eq BS.1 (fx_iRp hR) (fun j i _ j0 j1 => ((f2 (1 + j) i (by omega))).trans ((f1 (1 + j) i (by omega)))) (fun i hi => ((f2 67 i (by omega))).trans ((f1 67 i (by omega)))) (Int.le_of_eq (((f2 67 0 (by omega))).trans ((f1 67 0 (by omega)))).symm) (Int.le_of_eq (((f2 67 1 (by omega))).trans ((f1 67 1 (by omega)))).symm) (Int.le_of_eq (((f2 67 5 (by omega))).trans ((f1 67 5 (by omega)))).symm)
  have h_h : fx_Rh S2.1 1 (S2.1 67) := hL.2
  exact pz (fx_RI_step hR BS2 (fun k => ((r2 49 k)).trans ((r1 49 k))) (by omega) (fun p i p0 p1 => ((f2 p i (by omega))).trans ((f1 p i (by omega)))) (fun i => ((f2 68 i (by omega))).trans ((f1 68 i (by omega)))) (fun i => ((f2 69 i (by omega))).trans ((f1 69 i (by omega)))) h_s ⟨h_d, h_v, h_m, h_p, h_h⟩)
theorem q0_41 (X : (Int → Int) × Int) (S : fx_S) (x3 : Int) (hS : fx_Sok S) (g3 : -2147483648 ≤ x3 ∧ x3 ≤ 2147483647) (v1 : Int) (e1 : v1 = X.2) (b1 : 0 ≤ v1 ∧ v1 ≤ 3072) (v2 : Int) (e2 : v2 = fx_sub v1 6) (c1 : x3 ≤ v2) (v3 : Int) (e3 : v3 = X.1 x3) (b3 : -2147483648 ≤ v3 ∧ v3 ≤ 2147483647) (v4 : Int) (e4 : v4 = fx_and v3 63) (c2 : v4 = 35) (v5 : Int) (e5 : v5 = fx_add x3 1) (v6 : Int) (e6 : v6 = X.1 v5) (b6 : -2147483648 ≤ v6 ∧ v6 ≤ 2147483647) (v7 : Int) (S1 : fx_S) (k1 : fx_Sok S1) (b7 : -2147483648 ≤ v7 ∧ v7 ≤ 2147483647) (p1 : s71 S v6 v7 S1) (v8 : Int) (e8 : v8 = fx_add x3 1) (v9 : Int) (e9 : v9 = X.1 v8) (b9 : -2147483648 ≤ v9 ∧ v9 ≤ 2147483647) (v10 : Int) (S2 : fx_S) (k2 : fx_Sok S2) (b10 : -2147483648 ≤ v10 ∧ v10 ≤ 2147483647) (p2 : s72 S1 v9 v10 S2) (c3 : v7 = v10) (v11 : Int) (e11 : v11 = fx_add x3 6) (z : Int) (Z : fx_S) (kz : fx_Sok Z) (bz : -2147483648 ≤ z ∧ z ≤ 2147483647) (pz : s0 S2 v11 z Z) : s0 S x3 z Z := by
  unfold s0 at pz
  unfold s0
  intro hR
  have BS := fx_iW hR
  have hn := fx_iN hR
  obtain rfl : v5 = v8 := by rw [e5, e8]
  obtain rfl : v6 = v9 := by rw [e6, e9]
  have hL := fx_l_rent hR p1 p2
  obtain ⟨rfl, p1⟩ := p1
  obtain ⟨rfl, p2⟩ := p2
  exact pz hR
theorem q0_42 (X : (Int → Int) × Int) (S : fx_S) (x3 : Int) (hS : fx_Sok S) (g3 : -2147483648 ≤ x3 ∧ x3 ≤ 2147483647) (v1 : Int) (e1 : v1 = X.2) (b1 : 0 ≤ v1 ∧ v1 ≤ 3072) (v2 : Int) (e2 : v2 = fx_sub v1 6) (c1 : x3 ≤ v2) (v3 : Int) (e3 : v3 = X.1 x3) (b3 : -2147483648 ≤ v3 ∧ v3 ≤ 2147483647) (v4 : Int) (e4 : v4 = fx_and v3 63) (c2 : v4 = 35) (v5 : Int) (e5 : v5 = fx_add x3 1) (v6 : Int) (e6 : v6 = X.1 v5) (b6 : -2147483648 ≤ v6 ∧ v6 ≤ 2147483647) (v7 : Int) (S1 : fx_S) (k1 : fx_Sok S1) (b7 : -2147483648 ≤ v7 ∧ v7 ≤ 2147483647) (p1 : s71 S v6 v7 S1) (v8 : Int) (e8 : v8 = fx_add x3 1) (v9 : Int) (e9 : v9 = X.1 v8) (b9 : -2147483648 ≤ v9 ∧ v9 ≤ 2147483647) (v10 : Int) (S2 : fx_S) (k2 : fx_Sok S2) (b10 : -2147483648 ≤ v10 ∧ v10 ≤ 2147483647) (p2 : s72 S1 v9 v10 S2) (c3 : v7 ≠ v10) : s0 S x3 0 S2 := by
  unfold s0
  intro hR
  have BS := fx_iW hR
  have hn := fx_iN hR
  obtain rfl : v5 = v8 := by rw [e5, e8]
  obtain rfl : v6 = v9 := by rw [e6, e9]
  have hL := fx_l_rent hR p1 p2
  exact absurd hL c3
theorem q0_43 (X : (Int → Int) × Int) (S : fx_S) (x3 : Int) (hS : fx_Sok S) (g3 : -2147483648 ≤ x3 ∧ x3 ≤ 2147483647) (v1 : Int) (e1 : v1 = X.2) (b1 : 0 ≤ v1 ∧ v1 ≤ 3072) (v2 : Int) (e2 : v2 = fx_sub v1 6) (c1 : x3 ≤ v2) (v3 : Int) (e3 : v3 = X.1 x3) (b3 : -2147483648 ≤ v3 ∧ v3 ≤ 2147483647) (v4 : Int) (e4 : v4 = fx_and v3 63) (c2 : v4 = 36) (v5 : Int) (e5 : v5 = fx_add x3 1) (v6 : Int) (e6 : v6 = X.1 v5) (b6 : -2147483648 ≤ v6 ∧ v6 ≤ 2147483647) (v7 : Int) (e7 : v7 = fx_add x3 2) (v8 : Int) (e8 : v8 = X.1 v7) (b8 : -2147483648 ≤ v8 ∧ v8 ≤ 2147483647) (v9 : Int) (S1 : fx_S) (k1 : fx_Sok S1) (b9 : -2147483648 ≤ v9 ∧ v9 ≤ 2147483647) (p1 : s73 S v6 v8 v9 S1) (v10 : Int) (e10 : v10 = fx_add x3 1) (v11 : Int) (e11 : v11 = X.1 v10) (b11 : -2147483648 ≤ v11 ∧ v11 ≤ 2147483647) (v12 : Int) (e12 : v12 = fx_add x3 2) (v13 : Int) (e13 : v13 = X.1 v12) (b13 : -2147483648 ≤ v13 ∧ v13 ≤ 2147483647) (v14 : Int) (S2 : fx_S) (k2 : fx_Sok S2) (b14 : -2147483648 ≤ v14 ∧ v14 ≤ 2147483647) (p2 : s74 S1 v11 v13 v14 S2) (v15 : Int) (e15 : v15 = fx_add x3 6) (z : Int) (Z : fx_S) (kz : fx_Sok Z) (bz : -2147483648 ≤ z ∧ z ≤ 2147483647) (pz : s0 S2 v15 z Z) : s0 S x3 z Z := by
  unfold s0 at pz
  unfold s0
  intro hR
  have BS := fx_iW hR
  have hn := fx_iN hR
  obtain rfl : v5 = v10 := by rw [e5, e10]
  obtain rfl : v6 = v11 := by rw [e6, e11]
  obtain rfl : v7 = v12 := by rw [e7, e12]
  obtain rfl : v8 = v13 := by rw [e8, e13]
  have hL := fx_l_wish hR p1 p2
  obtain ⟨q1, f1, p1⟩ := p1
  have z1 : S1.2.2 = S.2.2 := by rw [q1]
  have r1 : ∀ p i : Int, S1.2.1 p i = S.2.1 p i := fun p i => by rw [q1]
  have BS1 : fx_WB S1 := fx_WB_eq BS (fun q => f1 67 q (by omega)) (fun q => f1 68 q (by omega)) (fun q => f1 69 q (by omega))
  unfold s74 at p2
  obtain ⟨q2, f2, BS2, p2⟩ := p2 BS1
  have z2 : S2.2.2 = S1.2.2 := by rw [q2]
  have r2 : ∀ p i : Int, S2.2.1 p i = S1.2.1 p i := fun p i => by rw [q2]
  have h_s : fx_Rs S2.1 := fx_Rs_eq (fx_iS hR) (fun p i hp => ((f2 p i (by omega))).trans ((f1 p i (by omega))))
  have h_d : fx_Rd S2.1 1 (S2.1 67) := fx_Rd_eq (fx_iRd hR) (((f2 1 0 (by omega))).trans ((f1 1 0 (by omega)))) (((f2 67 0 (by omega))).trans ((f1 67 0 (by omega))))
  have h_v : fx_Rv S2.1 1 (S2.1 67) := fx_Rv_eq BS.1 (fx_iRv hR) (((f2 2 0 (by omega))).trans ((f1 2 0 (by omega)))) (fun j i _ j0 j1 => ((f2 (1 + j) i (by omega))).trans ((f1 (1 + j) i (by omega)))) (fun i hi => ((f2 67 i (by omega))).trans ((f1 67 i (by omega))))
  have h_m : fx_Rm S2.1 1 (S2.1 67) := fx_Rm_eq BS.1 (fx_iRm hR) (((f2 2 4 (by omega))).trans ((f1 2 4 (by omega)))) (fun j i _ j0 j1 => ((f2 (1 + j) i (by omega))).trans ((f1 (1 + j) i (by omega)))) (fun i hi => ((f2 67 i (by omega))).trans ((f1 67 i (by omega))))
  have h_p : fx_Rp S2.1 1 (S2.1 67) := hL.2
  have h_h : fx_Rh S2.1 1 (S2.1 67) := fx_Rh_eq BS.1 (fx_iRh hR) (fun j i _ j0 j1 => ((f2 (1 + j) i (by omega))).trans ((f1 (1 + j) i (by omega)))) (fun i hi => ((f2 67 i (by omega))).trans ((f1 67 i (by omega))))
  exact pz (fx_RI_step hR BS2 (fun k => ((r2 49 k)).trans ((r1 49 k))) (by omega) (fun p i p0 p1 => ((f2 p i (by omega))).trans ((f1 p i (by omega)))) (fun i => ((f2 68 i (by omega))).trans ((f1 68 i (by omega)))) (fun i => ((f2 69 i (by omega))).trans ((f1 69 i (by omega)))) h_s ⟨h_d, h_v, h_m, h_p, h_h⟩)
theorem q0_44 (X : (Int → Int) × Int) (S : fx_S) (x3 : Int) (hS : fx_Sok S) (g3 : -2147483648 ≤ x3 ∧ x3 ≤ 2147483647) (v1 : Int) (e1 : v1 = X.2) (b1 : 0 ≤ v1 ∧ v1 ≤ 3072) (v2 : Int) (e2 : v2 = fx_sub v1 6) (c1 : x3 ≤ v2) (v3 : Int) (e3 : v3 = X.1 x3) (b3 : -2147483648 ≤ v3 ∧ v3 ≤ 2147483647) (v4 : Int) (e4 : v4 = fx_and v3 63) (c2 : v4 = 37) (v5 : Int) (S1 : fx_S) (k1 : fx_Sok S1) (b5 : -2147483648 ≤ v5 ∧ v5 ≤ 2147483647) (p1 : s75 S  v5 S1) (v6 : Int) (S2 : fx_S) (k2 : fx_Sok S2) (b6 : -2147483648 ≤ v6 ∧ v6 ≤ 2147483647) (p2 : s76 S1  v6 S2) (v7 : Int) (e7 : v7 = fx_add x3 6) (z : Int) (Z : fx_S) (kz : fx_Sok Z) (bz : -2147483648 ≤ z ∧ z ≤ 2147483647) (pz : s0 S2 v7 z Z) : s0 S x3 z Z := by
  unfold s0 at pz
  unfold s0
  intro hR
  have BS := fx_iW hR
  have hn := fx_iN hR
  obtain ⟨q1, f1⟩ := p1
  have z1 : S1.2.2 = S.2.2 := by rw [q1]
  have r1 : ∀ p i : Int, S1.2.1 p i = S.2.1 p i := fun p i => by rw [q1]
  have BS1 : fx_WB S1 := fx_WB_eq BS (fun q => f1 67 q (by omega)) (fun q => f1 68 q (by omega)) (fun q => f1 69 q (by omega))
  obtain ⟨q2, f2⟩ := p2
  have z2 : S2.2.2 = S1.2.2 := by rw [q2]
  have r2 : ∀ p i : Int, S2.2.1 p i = S1.2.1 p i := fun p i => by rw [q2]
  have BS2 : fx_WB S2 := fx_WB_eq BS1 (fun q => f2 67 q (by omega)) (fun q => f2 68 q (by omega)) (fun q => f2 69 q (by omega))
  have h_s : fx_Rs S2.1 := fx_Rs_eq (fx_iS hR) (fun p i hp => ((f2 p i (by omega))).trans ((f1 p i (by omega))))
  have h_d : fx_Rd S2.1 1 (S2.1 67) := fx_Rd_eq (fx_iRd hR) (((f2 1 0 (by omega))).trans ((f1 1 0 (by omega)))) (((f2 67 0 (by omega))).trans ((f1 67 0 (by omega))))
  have h_v : fx_Rv S2.1 1 (S2.1 67) := fx_Rv_eq BS.1 (fx_iRv hR) (((f2 2 0 (by omega))).trans ((f1 2 0 (by omega)))) (fun j i _ j0 j1 => ((f2 (1 + j) i (by omega))).trans ((f1 (1 + j) i (by omega)))) (fun i hi => ((f2 67 i (by omega))).trans ((f1 67 i (by omega))))
  have h_m : fx_Rm S2.1 1 (S2.1 67) := fx_Rm_eq BS.1 (fx_iRm hR) (((f2 2 4 (by omega))).trans ((f1 2 4 (by omega)))) (fun j i _ j0 j1 => ((f2 (1 + j) i (by omega))).trans ((f1 (1 + j) i (by omega)))) (fun i hi => ((f2 67 i (by omega))).trans ((f1 67 i (by omega))))
  have h_p : fx_Rp S2.1 1 (S2.1 67) := fx_Rp_eq BS.1 (fx_iRp hR) (fun j i _ j0 j1 => ((f2 (1 + j) i (by omega))).trans ((f1 (1 + j) i (by omega)))) (fun i hi => ((f2 67 i (by omega))).trans ((f1 67 i (by omega)))) (Int.le_of_eq (((f2 67 0 (by omega))).trans ((f1 67 0 (by omega)))).symm) (Int.le_of_eq (((f2 67 1 (by omega))).trans ((f1 67 1 (by omega)))).symm) (Int.le_of_eq (((f2 67 5 (by omega))).trans ((f1 67 5 (by omega)))).symm)
  have h_h : fx_Rh S2.1 1 (S2.1 67) := fx_Rh_eq BS.1 (fx_iRh hR) (fun j i _ j0 j1 => ((f2 (1 + j) i (by omega))).trans ((f1 (1 + j) i (by omega)))) (fun i hi => ((f2 67 i (by omega))).trans ((f1 67 i (by omega))))
  exact pz (fx_RI_step hR BS2 (fun k => ((r2 49 k)).trans ((r1 49 k))) (by omega) (fun p i p0 p1 => ((f2 p i (by omega))).trans ((f1 p i (by omega)))) (fun i => ((f2 68 i (by omega))).trans ((f1 68 i (by omega)))) (fun i => ((f2 69 i (by omega))).trans ((f1 69 i (by omega)))) h_s ⟨h_d, h_v, h_m, h_p, h_h⟩)
theorem q0_45 (X : (Int → Int) × Int) (S : fx_S) (x3 : Int) (hS : fx_Sok S) (g3 : -2147483648 ≤ x3 ∧ x3 ≤ 2147483647) (v1 : Int) (e1 : v1 = X.2) (b1 : 0 ≤ v1 ∧ v1 ≤ 3072) (v2 : Int) (e2 : v2 = fx_sub v1 6) (c1 : x3 ≤ v2) (v3 : Int) (e3 : v3 = X.1 x3) (b3 : -2147483648 ≤ v3 ∧ v3 ≤ 2147483647) (v4 : Int) (e4 : v4 = fx_and v3 63) (c2 : v4 = 38) (v5 : Int) (e5 : v5 = fx_add x3 1) (v6 : Int) (e6 : v6 = X.1 v5) (b6 : -2147483648 ≤ v6 ∧ v6 ≤ 2147483647) (v7 : Int) (S1 : fx_S) (k1 : fx_Sok S1) (b7 : -2147483648 ≤ v7 ∧ v7 ≤ 2147483647) (p1 : s77 S v6 v7 S1) (v8 : Int) (e8 : v8 = fx_add x3 1) (v9 : Int) (e9 : v9 = X.1 v8) (b9 : -2147483648 ≤ v9 ∧ v9 ≤ 2147483647) (v10 : Int) (S2 : fx_S) (k2 : fx_Sok S2) (b10 : -2147483648 ≤ v10 ∧ v10 ≤ 2147483647) (p2 : s78 S1 v9 v10 S2) (v11 : Int) (e11 : v11 = fx_add x3 6) (z : Int) (Z : fx_S) (kz : fx_Sok Z) (bz : -2147483648 ≤ z ∧ z ≤ 2147483647) (pz : s0 S2 v11 z Z) : s0 S x3 z Z := by
  unfold s0 at pz
  unfold s0
  intro hR
  have BS := fx_iW hR
  have hn := fx_iN hR
  obtain rfl : v5 = v8 := by rw [e5, e8]
  obtain rfl : v6 = v9 := by rw [e6, e9]
  obtain rfl : S = S1 := p1
  obtain rfl : S = S2 := p2
  exact pz hR
theorem q0_46 (X : (Int → Int) × Int) (S : fx_S) (x3 : Int) (hS : fx_Sok S) (g3 : -2147483648 ≤ x3 ∧ x3 ≤ 2147483647) (v1 : Int) (e1 : v1 = X.2) (b1 : 0 ≤ v1 ∧ v1 ≤ 3072) (v2 : Int) (e2 : v2 = fx_sub v1 6) (c1 : x3 ≤ v2) (v3 : Int) (e3 : v3 = X.1 x3) (b3 : -2147483648 ≤ v3 ∧ v3 ≤ 2147483647) (v4 : Int) (e4 : v4 = fx_and v3 63) (c2 : v4 = 39) (v5 : Int) (e5 : v5 = fx_add x3 1) (v6 : Int) (e6 : v6 = X.1 v5) (b6 : -2147483648 ≤ v6 ∧ v6 ≤ 2147483647) (v7 : Int) (e7 : v7 = fx_add x3 2) (v8 : Int) (e8 : v8 = X.1 v7) (b8 : -2147483648 ≤ v8 ∧ v8 ≤ 2147483647) (v9 : Int) (S1 : fx_S) (k1 : fx_Sok S1) (b9 : -2147483648 ≤ v9 ∧ v9 ≤ 2147483647) (p1 : s79 S v6 v8 v9 S1) (v10 : Int) (e10 : v10 = fx_add x3 1) (v11 : Int) (e11 : v11 = X.1 v10) (b11 : -2147483648 ≤ v11 ∧ v11 ≤ 2147483647) (v12 : Int) (e12 : v12 = fx_add x3 2) (v13 : Int) (e13 : v13 = X.1 v12) (b13 : -2147483648 ≤ v13 ∧ v13 ≤ 2147483647) (v14 : Int) (S2 : fx_S) (k2 : fx_Sok S2) (b14 : -2147483648 ≤ v14 ∧ v14 ≤ 2147483647) (p2 : s80 S1 v11 v13 v14 S2) (v15 : Int) (e15 : v15 = fx_add x3 6) (z : Int) (Z : fx_S) (kz : fx_Sok Z) (bz : -2147483648 ≤ z ∧ z ≤ 2147483647) (pz : s0 S2 v15 z Z) : s0 S x3 z Z := by
  unfold s0 at pz
  unfold s0
  intro hR
  have BS := fx_iW hR
  have hn := fx_iN hR
  obtain rfl : v5 = v10 := by rw [e5, e10]
  obtain rfl : v6 = v11 := by rw [e6, e11]
  obtain rfl : v7 = v12 := by rw [e7, e12]
  obtain rfl : v8 = v13 := by rw [e8, e13]
  have hL := fx_l_worth hR p1 p2
  obtain ⟨q1, f1, p1⟩ := p1
  have z1 : S1.2.2 = S.2.2 := by rw [q1]
  have r1 : ∀ p i : Int, S1.2.1 p i = S.2.1 p i := fun p i => by rw [q1]
  have BS1 : fx_WB S1 := fx_WB_eq BS (fun q => f1 67 q (by omega)) (fun q => f1 68 q (by omega)) (fun q => f1 69 q (by omega))
  unfold s80 at p2
  obtain ⟨q2, f2, BS2, p2⟩ := p2 BS1
  have z2 : S2.2.2 = S1.2.2 := by rw [q2]
  have r2 : ∀ p i : Int, S2.2.1 p i = S1.2.1 p i := fun p i => by rw [q2]
  have h_s : fx_Rs S2.1 := fx_Rs_eq (fx_iS hR) (fun p i hp => ((f2 p i (by omega))).trans ((f1 p i (by omega))))
  have h_d : fx_Rd S2.1 1 (S2.1 67) := fx_Rd_eq (fx_iRd hR) (((f2 1 0 (by omega))).trans ((f1 1 0 (by omega)))) (((f2 67 0 (by omega))).trans ((f1 67 0 (by omega))))
  have h_v : fx_Rv S2.1 1 (S2.1 67) := fx_Rv_eq BS.1 (fx_iRv hR) (((f2 2 0 (by omega))).trans ((f1 2 0 (by omega)))) (fun j i _ j0 j1 => ((f2 (1 + j) i (by omega))).trans ((f1 (1 + j) i (by omega)))) (fun i hi => ((f2 67 i (by omega))).trans ((f1 67 i (by omega))))
  have h_m : fx_Rm S2.1 1 (S2.1 67) := fx_Rm_eq BS.1 (fx_iRm hR) (((f2 2 4 (by omega))).trans ((f1 2 4 (by omega)))) (fun j i _ j0 j1 => ((f2 (1 + j) i (by omega))).trans ((f1 (1 + j) i (by omega)))) (fun i hi => ((f2 67 i (by omega))).trans ((f1 67 i (by omega))))
  have h_p : fx_Rp S2.1 1 (S2.1 67) := hL.2
  have h_h : fx_Rh S2.1 1 (S2.1 67) := fx_Rh_eq BS.1 (fx_iRh hR) (fun j i _ j0 j1 => ((f2 (1 + j) i (by omega))).trans ((f1 (1 + j) i (by omega)))) (fun i hi => ((f2 67 i (by omega))).trans ((f1 67 i (by omega))))
  exact pz (fx_RI_step hR BS2 (fun k => ((r2 49 k)).trans ((r1 49 k))) (by omega) (fun p i p0 p1 => ((f2 p i (by omega))).trans ((f1 p i (by omega)))) (fun i => ((f2 68 i (by omega))).trans ((f1 68 i (by omega)))) (fun i => ((f2 69 i (by omega))).trans ((f1 69 i (by omega)))) h_s ⟨h_d, h_v, h_m, h_p, h_h⟩)
theorem q0_47 (X : (Int → Int) × Int) (S : fx_S) (x3 : Int) (hS : fx_Sok S) (g3 : -2147483648 ≤ x3 ∧ x3 ≤ 2147483647) (v1 : Int) (e1 : v1 = X.2) (b1 : 0 ≤ v1 ∧ v1 ≤ 3072) (v2 : Int) (e2 : v2 = fx_sub v1 6) (c1 : x3 ≤ v2) (v3 : Int) (e3 : v3 = X.1 x3) (b3 : -2147483648 ≤ v3 ∧ v3 ≤ 2147483647) (v4 : Int) (e4 : v4 = fx_and v3 63) (c2 : v4 = 40) (v5 : Int) (e5 : v5 = fx_add x3 1) (v6 : Int) (e6 : v6 = X.1 v5) (b6 : -2147483648 ≤ v6 ∧ v6 ≤ 2147483647) (v7 : Int) (S1 : fx_S) (k1 : fx_Sok S1) (b7 : -2147483648 ≤ v7 ∧ v7 ≤ 2147483647) (p1 : s81 S v6 v7 S1) (v8 : Int) (e8 : v8 = fx_add x3 1) (v9 : Int) (e9 : v9 = X.1 v8) (b9 : -2147483648 ≤ v9 ∧ v9 ≤ 2147483647) (v10 : Int) (S2 : fx_S) (k2 : fx_Sok S2) (b10 : -2147483648 ≤ v10 ∧ v10 ≤ 2147483647) (p2 : s82 S1 v9 v10 S2) (v11 : Int) (e11 : v11 = fx_add x3 6) (z : Int) (Z : fx_S) (kz : fx_Sok Z) (bz : -2147483648 ≤ z ∧ z ≤ 2147483647) (pz : s0 S2 v11 z Z) : s0 S x3 z Z := by
  unfold s0 at pz
  unfold s0
  intro hR
  have BS := fx_iW hR
  have hn := fx_iN hR
  obtain rfl : v5 = v8 := by rw [e5, e8]
  obtain rfl : v6 = v9 := by rw [e6, e9]
  obtain ⟨q1, f1⟩ := p1
  have z1 : S1.2.2 = S.2.2 := by rw [q1]
  have r1 : ∀ p i : Int, S1.2.1 p i = S.2.1 p i := fun p i => by rw [q1]
  have BS1 : fx_WB S1 := fx_WB_eq BS (fun q => f1 67 q (by omega)) (fun q => f1 68 q (by omega)) (fun q => f1 69 q (by omega))
  obtain ⟨q2, f2⟩ := p2
  have z2 : S2.2.2 = S1.2.2 := by rw [q2]
  have r2 : ∀ p i : Int, S2.2.1 p i = S1.2.1 p i := fun p i => by rw [q2]
  have BS2 : fx_WB S2 := fx_WB_eq BS1 (fun q => f2 67 q (by omega)) (fun q => f2 68 q (by omega)) (fun q => f2 69 q (by omega))
  have h_s : fx_Rs S2.1 := fx_Rs_eq (fx_iS hR) (fun p i hp => ((f2 p i (by omega))).trans ((f1 p i (by omega))))
  have h_d : fx_Rd S2.1 1 (S2.1 67) := fx_Rd_eq (fx_iRd hR) (((f2 1 0 (by omega))).trans ((f1 1 0 (by omega)))) (((f2 67 0 (by omega))).trans ((f1 67 0 (by omega))))
  have h_v : fx_Rv S2.1 1 (S2.1 67) := fx_Rv_eq BS.1 (fx_iRv hR) (((f2 2 0 (by omega))).trans ((f1 2 0 (by omega)))) (fun j i _ j0 j1 => ((f2 (1 + j) i (by omega))).trans ((f1 (1 + j) i (by omega)))) (fun i hi => ((f2 67 i (by omega))).trans ((f1 67 i (by omega))))
  have h_m : fx_Rm S2.1 1 (S2.1 67) := fx_Rm_eq BS.1 (fx_iRm hR) (((f2 2 4 (by omega))).trans ((f1 2 4 (by omega)))) (fun j i _ j0 j1 => ((f2 (1 + j) i (by omega))).trans ((f1 (1 + j) i (by omega)))) (fun i hi => ((f2 67 i (by omega))).trans ((f1 67 i (by omega))))
  have h_p : fx_Rp S2.1 1 (S2.1 67) := fx_Rp_eq BS.1 (fx_iRp hR) (fun j i _ j0 j1 => ((f2 (1 + j) i (by omega))).trans ((f1 (1 + j) i (by omega)))) (fun i hi => ((f2 67 i (by omega))).trans ((f1 67 i (by omega)))) (Int.le_of_eq (((f2 67 0 (by omega))).trans ((f1 67 0 (by omega)))).symm) (Int.le_of_eq (((f2 67 1 (by omega))).trans ((f1 67 1 (by omega)))).symm) (Int.le_of_eq (((f2 67 5 (by omega))).trans ((f1 67 5 (by omega)))).symm)
  have h_h : fx_Rh S2.1 1 (S2.1 67) := fx_Rh_eq BS.1 (fx_iRh hR) (fun j i _ j0 j1 => ((f2 (1 + j) i (by omega))).trans ((f1 (1 + j) i (by omega)))) (fun i hi => ((f2 67 i (by omega))).trans ((f1 67 i (by omega))))
  exact pz (fx_RI_step hR BS2 (fun k => ((r2 49 k)).trans ((r1 49 k))) (by omega) (fun p i p0 p1 => ((f2 p i (by omega))).trans ((f1 p i (by omega)))) (fun i => ((f2 68 i (by omega))).trans ((f1 68 i (by omega)))) (fun i => ((f2 69 i (by omega))).trans ((f1 69 i (by omega)))) h_s ⟨h_d, h_v, h_m, h_p, h_h⟩)
theorem q0_48 (X : (Int → Int) × Int) (S : fx_S) (x3 : Int) (hS : fx_Sok S) (g3 : -2147483648 ≤ x3 ∧ x3 ≤ 2147483647) (v1 : Int) (e1 : v1 = X.2) (b1 : 0 ≤ v1 ∧ v1 ≤ 3072) (v2 : Int) (e2 : v2 = fx_sub v1 6) (c1 : x3 ≤ v2) (v3 : Int) (e3 : v3 = X.1 x3) (b3 : -2147483648 ≤ v3 ∧ v3 ≤ 2147483647) (v4 : Int) (e4 : v4 = fx_and v3 63) (c2 : v4 = 41) (v5 : Int) (e5 : v5 = fx_add x3 1) (v6 : Int) (e6 : v6 = X.1 v5) (b6 : -2147483648 ≤ v6 ∧ v6 ≤ 2147483647) (v7 : Int) (e7 : v7 = fx_add x3 2) (v8 : Int) (e8 : v8 = X.1 v7) (b8 : -2147483648 ≤ v8 ∧ v8 ≤ 2147483647) (v9 : Int) (S1 : fx_S) (k1 : fx_Sok S1) (b9 : -2147483648 ≤ v9 ∧ v9 ≤ 2147483647) (p1 : s83 S v6 v8 v9 S1) (v10 : Int) (e10 : v10 = fx_add x3 1) (v11 : Int) (e11 : v11 = X.1 v10) (b11 : -2147483648 ≤ v11 ∧ v11 ≤ 2147483647) (v12 : Int) (e12 : v12 = fx_add x3 2) (v13 : Int) (e13 : v13 = X.1 v12) (b13 : -2147483648 ≤ v13 ∧ v13 ≤ 2147483647) (v14 : Int) (S2 : fx_S) (k2 : fx_Sok S2) (b14 : -2147483648 ≤ v14 ∧ v14 ≤ 2147483647) (p2 : s84 S1 v11 v13 v14 S2) (v15 : Int) (e15 : v15 = fx_add x3 6) (z : Int) (Z : fx_S) (kz : fx_Sok Z) (bz : -2147483648 ≤ z ∧ z ≤ 2147483647) (pz : s0 S2 v15 z Z) : s0 S x3 z Z := by
  unfold s0 at pz
  unfold s0
  intro hR
  have BS := fx_iW hR
  have hn := fx_iN hR
  obtain rfl : v5 = v10 := by rw [e5, e10]
  obtain rfl : v6 = v11 := by rw [e6, e11]
  obtain rfl : v7 = v12 := by rw [e7, e12]
  obtain rfl : v8 = v13 := by rw [e8, e13]
  obtain ⟨q1, f1⟩ := p1
  have z1 : S1.2.2 = S.2.2 := by rw [q1]
  have r1 : ∀ p i : Int, S1.2.1 p i = S.2.1 p i := fun p i => by rw [q1]
  have BS1 : fx_WB S1 := fx_WB_eq BS (fun q => f1 67 q (by omega)) (fun q => f1 68 q (by omega)) (fun q => f1 69 q (by omega))
  obtain ⟨q2, f2⟩ := p2
  have z2 : S2.2.2 = S1.2.2 := by rw [q2]
  have r2 : ∀ p i : Int, S2.2.1 p i = S1.2.1 p i := fun p i => by rw [q2]
  have BS2 : fx_WB S2 := fx_WB_eq BS1 (fun q => f2 67 q (by omega)) (fun q => f2 68 q (by omega)) (fun q => f2 69 q (by omega))
  have h_s : fx_Rs S2.1 := fx_Rs_eq (fx_iS hR) (fun p i hp => ((f2 p i (by omega))).trans ((f1 p i (by omega))))
  have h_d : fx_Rd S2.1 1 (S2.1 67) := fx_Rd_eq (fx_iRd hR) (((f2 1 0 (by omega))).trans ((f1 1 0 (by omega)))) (((f2 67 0 (by omega))).trans ((f1 67 0 (by omega))))
  have h_v : fx_Rv S2.1 1 (S2.1 67) := fx_Rv_eq BS.1 (fx_iRv hR) (((f2 2 0 (by omega))).trans ((f1 2 0 (by omega)))) (fun j i _ j0 j1 => ((f2 (1 + j) i (by omega))).trans ((f1 (1 + j) i (by omega)))) (fun i hi => ((f2 67 i (by omega))).trans ((f1 67 i (by omega))))
  have h_m : fx_Rm S2.1 1 (S2.1 67) := fx_Rm_eq BS.1 (fx_iRm hR) (((f2 2 4 (by omega))).trans ((f1 2 4 (by omega)))) (fun j i _ j0 j1 => ((f2 (1 + j) i (by omega))).trans ((f1 (1 + j) i (by omega)))) (fun i hi => ((f2 67 i (by omega))).trans ((f1 67 i (by omega))))
  have h_p : fx_Rp S2.1 1 (S2.1 67) := fx_Rp_eq BS.1 (fx_iRp hR) (fun j i _ j0 j1 => ((f2 (1 + j) i (by omega))).trans ((f1 (1 + j) i (by omega)))) (fun i hi => ((f2 67 i (by omega))).trans ((f1 67 i (by omega)))) (Int.le_of_eq (((f2 67 0 (by omega))).trans ((f1 67 0 (by omega)))).symm) (Int.le_of_eq (((f2 67 1 (by omega))).trans ((f1 67 1 (by omega)))).symm) (Int.le_of_eq (((f2 67 5 (by omega))).trans ((f1 67 5 (by omega)))).symm)
  have h_h : fx_Rh S2.1 1 (S2.1 67) := fx_Rh_eq BS.1 (fx_iRh hR) (fun j i _ j0 j1 => ((f2 (1 + j) i (by omega))).trans ((f1 (1 + j) i (by omega)))) (fun i hi => ((f2 67 i (by omega))).trans ((f1 67 i (by omega))))
  exact pz (fx_RI_step hR BS2 (fun k => ((r2 49 k)).trans ((r1 49 k))) (by omega) (fun p i p0 p1 => ((f2 p i (by omega))).trans ((f1 p i (by omega)))) (fun i => ((f2 68 i (by omega))).trans ((f1 68 i (by omega)))) (fun i => ((f2 69 i (by omega))).trans ((f1 69 i (by omega)))) h_s ⟨h_d, h_v, h_m, h_p, h_h⟩)
theorem q0_49 (X : (Int → Int) × Int) (S : fx_S) (x3 : Int) (hS : fx_Sok S) (g3 : -2147483648 ≤ x3 ∧ x3 ≤ 2147483647) (v1 : Int) (e1 : v1 = X.2) (b1 : 0 ≤ v1 ∧ v1 ≤ 3072) (v2 : Int) (e2 : v2 = fx_sub v1 6) (c1 : x3 ≤ v2) (v3 : Int) (e3 : v3 = X.1 x3) (b3 : -2147483648 ≤ v3 ∧ v3 ≤ 2147483647) (v4 : Int) (e4 : v4 = fx_and v3 63) (c2 : v4 = 42) (v5 : Int) (e5 : v5 = fx_add x3 1) (v6 : Int) (e6 : v6 = X.1 v5) (b6 : -2147483648 ≤ v6 ∧ v6 ≤ 2147483647) (v7 : Int) (S1 : fx_S) (k1 : fx_Sok S1) (b7 : -2147483648 ≤ v7 ∧ v7 ≤ 2147483647) (p1 : s85 S v6 v7 S1) (v8 : Int) (e8 : v8 = fx_add x3 1) (v9 : Int) (e9 : v9 = X.1 v8) (b9 : -2147483648 ≤ v9 ∧ v9 ≤ 2147483647) (v10 : Int) (S2 : fx_S) (k2 : fx_Sok S2) (b10 : -2147483648 ≤ v10 ∧ v10 ≤ 2147483647) (p2 : s86 S1 v9 v10 S2) (v11 : Int) (e11 : v11 = fx_add x3 6) (z : Int) (Z : fx_S) (kz : fx_Sok Z) (bz : -2147483648 ≤ z ∧ z ≤ 2147483647) (pz : s0 S2 v11 z Z) : s0 S x3 z Z := by
  unfold s0 at pz
  unfold s0
  intro hR
  have BS := fx_iW hR
  have hn := fx_iN hR
  obtain rfl : v5 = v8 := by rw [e5, e8]
  obtain rfl : v6 = v9 := by rw [e6, e9]
  obtain ⟨q1, f1⟩ := p1
  have z1 : S1.2.2 = S.2.2 := by rw [q1]
  have r1 : ∀ p i : Int, S1.2.1 p i = S.2.1 p i := fun p i => by rw [q1]
  have BS1 : fx_WB S1 := fx_WB_eq BS (fun q => f1 67 q (by omega)) (fun q => f1 68 q (by omega)) (fun q => f1 69 q (by omega))
  obtain ⟨q2, f2⟩ := p2
  have z2 : S2.2.2 = S1.2.2 := by rw [q2]
  have r2 : ∀ p i : Int, S2.2.1 p i = S1.2.1 p i := fun p i => by rw [q2]
  have BS2 : fx_WB S2 := fx_WB_eq BS1 (fun q => f2 67 q (by omega)) (fun q => f2 68 q (by omega)) (fun q => f2 69 q (by omega))
  have h_s : fx_Rs S2.1 := fx_Rs_eq (fx_iS hR) (fun p i hp => ((f2 p i (by omega))).trans ((f1 p i (by omega))))
  have h_d : fx_Rd S2.1 1 (S2.1 67) := fx_Rd_eq (fx_iRd hR) (((f2 1 0 (by omega))).trans ((f1 1 0 (by omega)))) (((f2 67 0 (by omega))).trans ((f1 67 0 (by omega))))
  have h_v : fx_Rv S2.1 1 (S2.1 67) := fx_Rv_eq BS.1 (fx_iRv hR) (((f2 2 0 (by omega))).trans ((f1 2 0 (by omega)))) (fun j i _ j0 j1 => ((f2 (1 + j) i (by omega))).trans ((f1 (1 + j) i (by omega)))) (fun i hi => ((f2 67 i (by omega))).trans ((f1 67 i (by omega))))
  have h_m : fx_Rm S2.1 1 (S2.1 67) := fx_Rm_eq BS.1 (fx_iRm hR) (((f2 2 4 (by omega))).trans ((f1 2 4 (by omega)))) (fun j i _ j0 j1 => ((f2 (1 + j) i (by omega))).trans ((f1 (1 + j) i (by omega)))) (fun i hi => ((f2 67 i (by omega))).trans ((f1 67 i (by omega))))
  have h_p : fx_Rp S2.1 1 (S2.1 67) := fx_Rp_eq BS.1 (fx_iRp hR) (fun j i _ j0 j1 => ((f2 (1 + j) i (by omega))).trans ((f1 (1 + j) i (by omega)))) (fun i hi => ((f2 67 i (by omega))).trans ((f1 67 i (by omega)))) (Int.le_of_eq (((f2 67 0 (by omega))).trans ((f1 67 0 (by omega)))).symm) (Int.le_of_eq (((f2 67 1 (by omega))).trans ((f1 67 1 (by omega)))).symm) (Int.le_of_eq (((f2 67 5 (by omega))).trans ((f1 67 5 (by omega)))).symm)
  have h_h : fx_Rh S2.1 1 (S2.1 67) := fx_Rh_eq BS.1 (fx_iRh hR) (fun j i _ j0 j1 => ((f2 (1 + j) i (by omega))).trans ((f1 (1 + j) i (by omega)))) (fun i hi => ((f2 67 i (by omega))).trans ((f1 67 i (by omega))))
  exact pz (fx_RI_step hR BS2 (fun k => ((r2 49 k)).trans ((r1 49 k))) (by omega) (fun p i p0 p1 => ((f2 p i (by omega))).trans ((f1 p i (by omega)))) (fun i => ((f2 68 i (by omega))).trans ((f1 68 i (by omega)))) (fun i => ((f2 69 i (by omega))).trans ((f1 69 i (by omega)))) h_s ⟨h_d, h_v, h_m, h_p, h_h⟩)
theorem q0_50 (X : (Int → Int) × Int) (S : fx_S) (x3 : Int) (hS : fx_Sok S) (g3 : -2147483648 ≤ x3 ∧ x3 ≤ 2147483647) (v1 : Int) (e1 : v1 = X.2) (b1 : 0 ≤ v1 ∧ v1 ≤ 3072) (v2 : Int) (e2 : v2 = fx_sub v1 6) (c1 : x3 ≤ v2) (v3 : Int) (e3 : v3 = X.1 x3) (b3 : -2147483648 ≤ v3 ∧ v3 ≤ 2147483647) (v4 : Int) (e4 : v4 = fx_and v3 63) (c2 : v4 = 43) (v5 : Int) (e5 : v5 = fx_add x3 1) (v6 : Int) (e6 : v6 = X.1 v5) (b6 : -2147483648 ≤ v6 ∧ v6 ≤ 2147483647) (v7 : Int) (S1 : fx_S) (k1 : fx_Sok S1) (b7 : -2147483648 ≤ v7 ∧ v7 ≤ 2147483647) (p1 : s87 S v6 v7 S1) (v8 : Int) (e8 : v8 = fx_add x3 1) (v9 : Int) (e9 : v9 = X.1 v8) (b9 : -2147483648 ≤ v9 ∧ v9 ≤ 2147483647) (v10 : Int) (S2 : fx_S) (k2 : fx_Sok S2) (b10 : -2147483648 ≤ v10 ∧ v10 ≤ 2147483647) (p2 : s88 S1 v9 v10 S2) (v11 : Int) (e11 : v11 = fx_add x3 6) (z : Int) (Z : fx_S) (kz : fx_Sok Z) (bz : -2147483648 ≤ z ∧ z ≤ 2147483647) (pz : s0 S2 v11 z Z) : s0 S x3 z Z := by
  unfold s0 at pz
  unfold s0
  intro hR
  have BS := fx_iW hR
  have hn := fx_iN hR
  obtain rfl : v5 = v8 := by rw [e5, e8]
  obtain rfl : v6 = v9 := by rw [e6, e9]
  obtain rfl : S = S1 := p1
  obtain rfl : S = S2 := p2
  exact pz hR
theorem q0_51 (X : (Int → Int) × Int) (S : fx_S) (x3 : Int) (hS : fx_Sok S) (g3 : -2147483648 ≤ x3 ∧ x3 ≤ 2147483647) (v1 : Int) (e1 : v1 = X.2) (b1 : 0 ≤ v1 ∧ v1 ≤ 3072) (v2 : Int) (e2 : v2 = fx_sub v1 6) (c1 : x3 ≤ v2) (v3 : Int) (e3 : v3 = X.1 x3) (b3 : -2147483648 ≤ v3 ∧ v3 ≤ 2147483647) (v4 : Int) (e4 : v4 = fx_and v3 63) (c2 : v4 = 44) (v5 : Int) (e5 : v5 = fx_add x3 1) (v6 : Int) (e6 : v6 = X.1 v5) (b6 : -2147483648 ≤ v6 ∧ v6 ≤ 2147483647) (v7 : Int) (e7 : v7 = fx_add x3 2) (v8 : Int) (e8 : v8 = X.1 v7) (b8 : -2147483648 ≤ v8 ∧ v8 ≤ 2147483647) (v9 : Int) (e9 : v9 = fx_add x3 3) (v10 : Int) (e10 : v10 = X.1 v9) (b10 : -2147483648 ≤ v10 ∧ v10 ≤ 2147483647) (v11 : Int) (e11 : v11 = fx_add x3 4) (v12 : Int) (e12 : v12 = X.1 v11) (b12 : -2147483648 ≤ v12 ∧ v12 ≤ 2147483647) (v13 : Int) (S1 : fx_S) (k1 : fx_Sok S1) (b13 : -2147483648 ≤ v13 ∧ v13 ≤ 2147483647) (p1 : s89 S v6 v8 v10 v12 v13 S1) (v14 : Int) (e14 : v14 = fx_add x3 1) (v15 : Int) (e15 : v15 = X.1 v14) (b15 : -2147483648 ≤ v15 ∧ v15 ≤ 2147483647) (v16 : Int) (e16 : v16 = fx_add x3 2) (v17 : Int) (e17 : v17 = X.1 v16) (b17 : -2147483648 ≤ v17 ∧ v17 ≤ 2147483647) (v18 : Int) (e18 : v18 = fx_add x3 3) (v19 : Int) (e19 : v19 = X.1 v18) (b19 : -2147483648 ≤ v19 ∧ v19 ≤ 2147483647) (v20 : Int) (e20 : v20 = fx_add x3 4) (v21 : Int) (e21 : v21 = X.1 v20) (b21 : -2147483648 ≤ v21 ∧ v21 ≤ 2147483647) (v22 : Int) (S2 : fx_S) (k2 : fx_Sok S2) (b22 : -2147483648 ≤ v22 ∧ v22 ≤ 2147483647) (p2 : s90 S1 v15 v17 v19 v21 v22 S2) (v23 : Int) (e23 : v23 = fx_add x3 6) (z : Int) (Z : fx_S) (kz : fx_Sok Z) (bz : -2147483648 ≤ z ∧ z ≤ 2147483647) (pz : s0 S2 v23 z Z) : s0 S x3 z Z := by
  unfold s0 at pz
  unfold s0
  intro hR
  have BS := fx_iW hR
  have hn := fx_iN hR
  obtain rfl : v5 = v14 := by rw [e5, e14]
  obtain rfl : v6 = v15 := by rw [e6, e15]
  obtain rfl : v7 = v16 := by rw [e7, e16]
  obtain rfl : v8 = v17 := by rw [e8, e17]
  obtain rfl : v9 = v18 := by rw [e9, e18]
  obtain rfl : v10 = v19 := by rw [e10, e19]
  obtain rfl : v11 = v20 := by rw [e11, e20]
  obtain rfl : v12 = v21 := by rw [e12, e21]
  obtain ⟨q1, f1⟩ := p1
  have z1 : S1.2.2 = S.2.2 := by rw [q1]
  have r1 : ∀ p i : Int, S1.2.1 p i = S.2.1 p i := fun p i => by rw [q1]
  have BS1 : fx_WB S1 := fx_WB_eq BS (fun q => f1 67 q (by omega)) (fun q => f1 68 q (by omega)) (fun q => f1 69 q (by omega))
  unfold s90 at p2
  obtain ⟨q2, f2, BS2⟩ := p2 BS1
  have z2 : S2.2.2 = S1.2.2 := by rw [q2]
  have r2 : ∀ p i : Int, S2.2.1 p i = S1.2.1 p i := fun p i => by rw [q2]
  have h_s : fx_Rs S2.1 := fx_Rs_eq (fx_iS hR) (fun p i hp => ((f2 p i (by omega))).trans ((f1 p i (by omega))))
  have h_d : fx_Rd S2.1 1 (S2.1 67) := fx_Rd_eq (fx_iRd hR) (((f2 1 0 (by omega))).trans ((f1 1 0 (by omega)))) (((f2 67 0 (by omega))).trans ((f1 67 0 (by omega))))
  have h_v : fx_Rv S2.1 1 (S2.1 67) := fx_Rv_eq BS.1 (fx_iRv hR) (((f2 2 0 (by omega))).trans ((f1 2 0 (by omega)))) (fun j i _ j0 j1 => ((f2 (1 + j) i (by omega))).trans ((f1 (1 + j) i (by omega)))) (fun i hi => ((f2 67 i (by omega))).trans ((f1 67 i (by omega))))
  have h_m : fx_Rm S2.1 1 (S2.1 67) := fx_Rm_eq BS.1 (fx_iRm hR) (((f2 2 4 (by omega))).trans ((f1 2 4 (by omega)))) (fun j i _ j0 j1 => ((f2 (1 + j) i (by omega))).trans ((f1 (1 + j) i (by omega)))) (fun i hi => ((f2 67 i (by omega))).trans ((f1 67 i (by omega))))
  have h_p : fx_Rp S2.1 1 (S2.1 67) := fx_Rp_eq BS.1 (fx_iRp hR) (fun j i _ j0 j1 => ((f2 (1 + j) i (by omega))).trans ((f1 (1 + j) i (by omega)))) (fun i hi => ((f2 67 i (by omega))).trans ((f1 67 i (by omega)))) (Int.le_of_eq (((f2 67 0 (by omega))).trans ((f1 67 0 (by omega)))).symm) (Int.le_of_eq (((f2 67 1 (by omega))).trans ((f1 67 1 (by omega)))).symm) (Int.le_of_eq (((f2 67 5 (by omega))).trans ((f1 67 5 (by omega)))).symm)
  have h_h : fx_Rh S2.1 1 (S2.1 67) := fx_Rh_eq BS.1 (fx_iRh hR) (fun j i _ j0 j1 => ((f2 (1 + j) i (by omega))).trans ((f1 (1 + j) i (by omega)))) (fun i hi => ((f2 67 i (by omega))).trans ((f1 67 i (by omega))))
  exact pz (fx_RI_step hR BS2 (fun k => ((r2 49 k)).trans ((r1 49 k))) (by omega) (fun p i p0 p1 => ((f2 p i (by omega))).trans ((f1 p i (by omega)))) (fun i => ((f2 68 i (by omega))).trans ((f1 68 i (by omega)))) (fun i => ((f2 69 i (by omega))).trans ((f1 69 i (by omega)))) h_s ⟨h_d, h_v, h_m, h_p, h_h⟩)
theorem q0_52 (X : (Int → Int) × Int) (S : fx_S) (x3 : Int) (hS : fx_Sok S) (g3 : -2147483648 ≤ x3 ∧ x3 ≤ 2147483647) (v1 : Int) (e1 : v1 = X.2) (b1 : 0 ≤ v1 ∧ v1 ≤ 3072) (v2 : Int) (e2 : v2 = fx_sub v1 6) (c1 : x3 ≤ v2) (v3 : Int) (e3 : v3 = X.1 x3) (b3 : -2147483648 ≤ v3 ∧ v3 ≤ 2147483647) (v4 : Int) (e4 : v4 = fx_and v3 63) (c2 : v4 = 45) (v5 : Int) (S1 : fx_S) (k1 : fx_Sok S1) (b5 : -2147483648 ≤ v5 ∧ v5 ≤ 2147483647) (p1 : s91 S  v5 S1) (v6 : Int) (S2 : fx_S) (k2 : fx_Sok S2) (b6 : -2147483648 ≤ v6 ∧ v6 ≤ 2147483647) (p2 : s92 S1  v6 S2) (v7 : Int) (e7 : v7 = fx_add x3 6) (z : Int) (Z : fx_S) (kz : fx_Sok Z) (bz : -2147483648 ≤ z ∧ z ≤ 2147483647) (pz : s0 S2 v7 z Z) : s0 S x3 z Z := by
  unfold s0 at pz
  unfold s0
  intro hR
  have BS := fx_iW hR
  have hn := fx_iN hR
  obtain ⟨q1, f1⟩ := p1
  have z1 : S1.2.2 = S.2.2 := by rw [q1]
  have r1 : ∀ p i : Int, S1.2.1 p i = S.2.1 p i := fun p i => by rw [q1]
  have BS1 : fx_WB S1 := fx_WB_eq BS (fun q => f1 67 q (by omega)) (fun q => f1 68 q (by omega)) (fun q => f1 69 q (by omega))
  obtain ⟨q2, f2⟩ := p2
  have z2 : S2.2.2 = S1.2.2 := by rw [q2]
  have r2 : ∀ p i : Int, S2.2.1 p i = S1.2.1 p i := fun p i => by rw [q2]
  have BS2 : fx_WB S2 := fx_WB_eq BS1 (fun q => f2 67 q (by omega)) (fun q => f2 68 q (by omega)) (fun q => f2 69 q (by omega))
  have h_s : fx_Rs S2.1 := fx_Rs_eq (fx_iS hR) (fun p i hp => ((f2 p i (by omega))).trans ((f1 p i (by omega))))
  have h_d : fx_Rd S2.1 1 (S2.1 67) := fx_Rd_eq (fx_iRd hR) (((f2 1 0 (by omega))).trans ((f1 1 0 (by omega)))) (((f2 67 0 (by omega))).trans ((f1 67 0 (by omega))))
  have h_v : fx_Rv S2.1 1 (S2.1 67) := fx_Rv_eq BS.1 (fx_iRv hR) (((f2 2 0 (by omega))).trans ((f1 2 0 (by omega)))) (fun j i _ j0 j1 => ((f2 (1 + j) i (by omega))).trans ((f1 (1 + j) i (by omega)))) (fun i hi => ((f2 67 i (by omega))).trans ((f1 67 i (by omega))))
  have h_m : fx_Rm S2.1 1 (S2.1 67) := fx_Rm_eq BS.1 (fx_iRm hR) (((f2 2 4 (by omega))).trans ((f1 2 4 (by omega)))) (fun j i _ j0 j1 => ((f2 (1 + j) i (by omega))).trans ((f1 (1 + j) i (by omega)))) (fun i hi => ((f2 67 i (by omega))).trans ((f1 67 i (by omega))))
  have h_p : fx_Rp S2.1 1 (S2.1 67) := fx_Rp_eq BS.1 (fx_iRp hR) (fun j i _ j0 j1 => ((f2 (1 + j) i (by omega))).trans ((f1 (1 + j) i (by omega)))) (fun i hi => ((f2 67 i (by omega))).trans ((f1 67 i (by omega)))) (Int.le_of_eq (((f2 67 0 (by omega))).trans ((f1 67 0 (by omega)))).symm) (Int.le_of_eq (((f2 67 1 (by omega))).trans ((f1 67 1 (by omega)))).symm) (Int.le_of_eq (((f2 67 5 (by omega))).trans ((f1 67 5 (by omega)))).symm)
  have h_h : fx_Rh S2.1 1 (S2.1 67) := fx_Rh_eq BS.1 (fx_iRh hR) (fun j i _ j0 j1 => ((f2 (1 + j) i (by omega))).trans ((f1 (1 + j) i (by omega)))) (fun i hi => ((f2 67 i (by omega))).trans ((f1 67 i (by omega))))
  exact pz (fx_RI_step hR BS2 (fun k => ((r2 49 k)).trans ((r1 49 k))) (by omega) (fun p i p0 p1 => ((f2 p i (by omega))).trans ((f1 p i (by omega)))) (fun i => ((f2 68 i (by omega))).trans ((f1 68 i (by omega)))) (fun i => ((f2 69 i (by omega))).trans ((f1 69 i (by omega)))) h_s ⟨h_d, h_v, h_m, h_p, h_h⟩)
theorem q0_53 (X : (Int → Int) × Int) (S : fx_S) (x3 : Int) (hS : fx_Sok S) (g3 : -2147483648 ≤ x3 ∧ x3 ≤ 2147483647) (v1 : Int) (e1 : v1 = X.2) (b1 : 0 ≤ v1 ∧ v1 ≤ 3072) (v2 : Int) (e2 : v2 = fx_sub v1 6) (c1 : x3 ≤ v2) (v3 : Int) (e3 : v3 = X.1 x3) (b3 : -2147483648 ≤ v3 ∧ v3 ≤ 2147483647) (v4 : Int) (e4 : v4 = fx_and v3 63) (c2 : v4 = 46) (v5 : Int) (e5 : v5 = fx_add x3 1) (v6 : Int) (e6 : v6 = X.1 v5) (b6 : -2147483648 ≤ v6 ∧ v6 ≤ 2147483647) (v7 : Int) (S1 : fx_S) (k1 : fx_Sok S1) (b7 : -2147483648 ≤ v7 ∧ v7 ≤ 2147483647) (p1 : s93 S v6 v7 S1) (v8 : Int) (e8 : v8 = fx_add x3 1) (v9 : Int) (e9 : v9 = X.1 v8) (b9 : -2147483648 ≤ v9 ∧ v9 ≤ 2147483647) (v10 : Int) (S2 : fx_S) (k2 : fx_Sok S2) (b10 : -2147483648 ≤ v10 ∧ v10 ≤ 2147483647) (p2 : s94 S1 v9 v10 S2) (v11 : Int) (e11 : v11 = fx_add x3 6) (z : Int) (Z : fx_S) (kz : fx_Sok Z) (bz : -2147483648 ≤ z ∧ z ≤ 2147483647) (pz : s0 S2 v11 z Z) : s0 S x3 z Z := by
  unfold s0 at pz
  unfold s0
  intro hR
  have BS := fx_iW hR
  have hn := fx_iN hR
  obtain rfl : v5 = v8 := by rw [e5, e8]
  obtain rfl : v6 = v9 := by rw [e6, e9]
  obtain rfl : S = S1 := p1
  obtain rfl : S = S2 := p2
  exact pz hR
theorem q0_54 (X : (Int → Int) × Int) (S : fx_S) (x3 : Int) (hS : fx_Sok S) (g3 : -2147483648 ≤ x3 ∧ x3 ≤ 2147483647) (v1 : Int) (e1 : v1 = X.2) (b1 : 0 ≤ v1 ∧ v1 ≤ 3072) (v2 : Int) (e2 : v2 = fx_sub v1 6) (c1 : x3 ≤ v2) (v3 : Int) (e3 : v3 = X.1 x3) (b3 : -2147483648 ≤ v3 ∧ v3 ≤ 2147483647) (v4 : Int) (e4 : v4 = fx_and v3 63) (c2 : v4 = 47) (v5 : Int) (S1 : fx_S) (k1 : fx_Sok S1) (b5 : -2147483648 ≤ v5 ∧ v5 ≤ 2147483647) (p1 : s95 S  v5 S1) (v6 : Int) (S2 : fx_S) (k2 : fx_Sok S2) (b6 : -2147483648 ≤ v6 ∧ v6 ≤ 2147483647) (p2 : s96 S1  v6 S2) (v7 : Int) (e7 : v7 = fx_add x3 6) (z : Int) (Z : fx_S) (kz : fx_Sok Z) (bz : -2147483648 ≤ z ∧ z ≤ 2147483647) (pz : s0 S2 v7 z Z) : s0 S x3 z Z := by
  unfold s0 at pz
  unfold s0
  intro hR
  have BS := fx_iW hR
  have hn := fx_iN hR
  obtain rfl : S = S1 := p1
  obtain rfl : S = S2 := p2
  exact pz hR
theorem q0_55 (X : (Int → Int) × Int) (S : fx_S) (x3 : Int) (hS : fx_Sok S) (g3 : -2147483648 ≤ x3 ∧ x3 ≤ 2147483647) (v1 : Int) (e1 : v1 = X.2) (b1 : 0 ≤ v1 ∧ v1 ≤ 3072) (v2 : Int) (e2 : v2 = fx_sub v1 6) (c1 : x3 ≤ v2) (v3 : Int) (e3 : v3 = X.1 x3) (b3 : -2147483648 ≤ v3 ∧ v3 ≤ 2147483647) (v4 : Int) (e4 : v4 = fx_and v3 63) (c2 : v4 = 48) (v5 : Int) (e5 : v5 = fx_add x3 1) (v6 : Int) (e6 : v6 = X.1 v5) (b6 : -2147483648 ≤ v6 ∧ v6 ≤ 2147483647) (v7 : Int) (S1 : fx_S) (k1 : fx_Sok S1) (b7 : -2147483648 ≤ v7 ∧ v7 ≤ 2147483647) (p1 : s97 S v6 v7 S1) (v8 : Int) (e8 : v8 = fx_add x3 1) (v9 : Int) (e9 : v9 = X.1 v8) (b9 : -2147483648 ≤ v9 ∧ v9 ≤ 2147483647) (v10 : Int) (S2 : fx_S) (k2 : fx_Sok S2) (b10 : -2147483648 ≤ v10 ∧ v10 ≤ 2147483647) (p2 : s98 S1 v9 v10 S2) (v11 : Int) (e11 : v11 = fx_add x3 6) (z : Int) (Z : fx_S) (kz : fx_Sok Z) (bz : -2147483648 ≤ z ∧ z ≤ 2147483647) (pz : s0 S2 v11 z Z) : s0 S x3 z Z := by
  unfold s0 at pz
  unfold s0
  intro hR
  have BS := fx_iW hR
  have hn := fx_iN hR
  obtain rfl : v5 = v8 := by rw [e5, e8]
  obtain rfl : v6 = v9 := by rw [e6, e9]
  obtain rfl : S = S1 := p1
  obtain rfl : S = S2 := p2
  exact pz hR
theorem q0_56 (X : (Int → Int) × Int) (S : fx_S) (x3 : Int) (hS : fx_Sok S) (g3 : -2147483648 ≤ x3 ∧ x3 ≤ 2147483647) (v1 : Int) (e1 : v1 = X.2) (b1 : 0 ≤ v1 ∧ v1 ≤ 3072) (v2 : Int) (e2 : v2 = fx_sub v1 6) (c1 : x3 ≤ v2) (v3 : Int) (e3 : v3 = X.1 x3) (b3 : -2147483648 ≤ v3 ∧ v3 ≤ 2147483647) (v4 : Int) (e4 : v4 = fx_and v3 63) (c2 : v4 = 49) (v5 : Int) (e5 : v5 = fx_add x3 1) (v6 : Int) (e6 : v6 = X.1 v5) (b6 : -2147483648 ≤ v6 ∧ v6 ≤ 2147483647) (v7 : Int) (S1 : fx_S) (k1 : fx_Sok S1) (b7 : -2147483648 ≤ v7 ∧ v7 ≤ 2147483647) (p1 : s99 S v6 v7 S1) (v8 : Int) (e8 : v8 = fx_add x3 1) (v9 : Int) (e9 : v9 = X.1 v8) (b9 : -2147483648 ≤ v9 ∧ v9 ≤ 2147483647) (v10 : Int) (S2 : fx_S) (k2 : fx_Sok S2) (b10 : -2147483648 ≤ v10 ∧ v10 ≤ 2147483647) (p2 : s100 S1 v9 v10 S2) (v11 : Int) (e11 : v11 = fx_add x3 6) (z : Int) (Z : fx_S) (kz : fx_Sok Z) (bz : -2147483648 ≤ z ∧ z ≤ 2147483647) (pz : s0 S2 v11 z Z) : s0 S x3 z Z := by
  unfold s0 at pz
  unfold s0
  intro hR
  have BS := fx_iW hR
  have hn := fx_iN hR
  obtain rfl : v5 = v8 := by rw [e5, e8]
  obtain rfl : v6 = v9 := by rw [e6, e9]
  obtain rfl : S = S1 := p1
  obtain rfl : S = S2 := p2
  exact pz hR
theorem q0_57 (X : (Int → Int) × Int) (S : fx_S) (x3 : Int) (hS : fx_Sok S) (g3 : -2147483648 ≤ x3 ∧ x3 ≤ 2147483647) (v1 : Int) (e1 : v1 = X.2) (b1 : 0 ≤ v1 ∧ v1 ≤ 3072) (v2 : Int) (e2 : v2 = fx_sub v1 6) (c1 : x3 ≤ v2) (v3 : Int) (e3 : v3 = X.1 x3) (b3 : -2147483648 ≤ v3 ∧ v3 ≤ 2147483647) (v4 : Int) (e4 : v4 = fx_and v3 63) (c2 : v4 = 50) (v5 : Int) (e5 : v5 = fx_add x3 1) (v6 : Int) (e6 : v6 = X.1 v5) (b6 : -2147483648 ≤ v6 ∧ v6 ≤ 2147483647) (v7 : Int) (S1 : fx_S) (k1 : fx_Sok S1) (b7 : -2147483648 ≤ v7 ∧ v7 ≤ 2147483647) (p1 : s101 S v6 v7 S1) (v8 : Int) (e8 : v8 = fx_add x3 1) (v9 : Int) (e9 : v9 = X.1 v8) (b9 : -2147483648 ≤ v9 ∧ v9 ≤ 2147483647) (v10 : Int) (S2 : fx_S) (k2 : fx_Sok S2) (b10 : -2147483648 ≤ v10 ∧ v10 ≤ 2147483647) (p2 : s102 S1 v9 v10 S2) (v11 : Int) (e11 : v11 = fx_add x3 6) (z : Int) (Z : fx_S) (kz : fx_Sok Z) (bz : -2147483648 ≤ z ∧ z ≤ 2147483647) (pz : s0 S2 v11 z Z) : s0 S x3 z Z := by
  unfold s0 at pz
  unfold s0
  intro hR
  have BS := fx_iW hR
  have hn := fx_iN hR
  obtain rfl : v5 = v8 := by rw [e5, e8]
  obtain rfl : v6 = v9 := by rw [e6, e9]
  have hL := fx_l_keep hR p1 p2
  exact pz hL.2
theorem q0_58 (X : (Int → Int) × Int) (S : fx_S) (x3 : Int) (hS : fx_Sok S) (g3 : -2147483648 ≤ x3 ∧ x3 ≤ 2147483647) (v1 : Int) (e1 : v1 = X.2) (b1 : 0 ≤ v1 ∧ v1 ≤ 3072) (v2 : Int) (e2 : v2 = fx_sub v1 6) (c1 : x3 ≤ v2) (v3 : Int) (e3 : v3 = X.1 x3) (b3 : -2147483648 ≤ v3 ∧ v3 ≤ 2147483647) (v4 : Int) (e4 : v4 = fx_and v3 63) (c2 : v4 = 51) (v5 : Int) (e5 : v5 = fx_add x3 1) (v6 : Int) (e6 : v6 = X.1 v5) (b6 : -2147483648 ≤ v6 ∧ v6 ≤ 2147483647) (v7 : Int) (S1 : fx_S) (k1 : fx_Sok S1) (b7 : -2147483648 ≤ v7 ∧ v7 ≤ 2147483647) (p1 : s103 S v6 v7 S1) (v8 : Int) (e8 : v8 = fx_add x3 1) (v9 : Int) (e9 : v9 = X.1 v8) (b9 : -2147483648 ≤ v9 ∧ v9 ≤ 2147483647) (v10 : Int) (S2 : fx_S) (k2 : fx_Sok S2) (b10 : -2147483648 ≤ v10 ∧ v10 ≤ 2147483647) (p2 : s104 S1 v9 v10 S2) (v11 : Int) (e11 : v11 = fx_add x3 6) (z : Int) (Z : fx_S) (kz : fx_Sok Z) (bz : -2147483648 ≤ z ∧ z ≤ 2147483647) (pz : s0 S2 v11 z Z) : s0 S x3 z Z := by
  unfold s0 at pz
  unfold s0
  intro hR
  have BS := fx_iW hR
  have hn := fx_iN hR
  obtain rfl : v5 = v8 := by rw [e5, e8]
  obtain rfl : v6 = v9 := by rw [e6, e9]
  have hL := fx_l_back hR p1 p2
  exact pz hL.2
theorem q0_59 (X : (Int → Int) × Int) (S : fx_S) (x3 : Int) (hS : fx_Sok S) (g3 : -2147483648 ≤ x3 ∧ x3 ≤ 2147483647) (v1 : Int) (e1 : v1 = X.2) (b1 : 0 ≤ v1 ∧ v1 ≤ 3072) (v2 : Int) (e2 : v2 = fx_sub v1 6) (c1 : x3 ≤ v2) (v3 : Int) (e3 : v3 = X.1 x3) (b3 : -2147483648 ≤ v3 ∧ v3 ≤ 2147483647) (v4 : Int) (e4 : v4 = fx_and v3 63) (c2 : v4 = 52) (v5 : Int) (e5 : v5 = fx_add x3 1) (v6 : Int) (e6 : v6 = X.1 v5) (b6 : -2147483648 ≤ v6 ∧ v6 ≤ 2147483647) (v7 : Int) (e7 : v7 = fx_add x3 2) (v8 : Int) (e8 : v8 = X.1 v7) (b8 : -2147483648 ≤ v8 ∧ v8 ≤ 2147483647) (v9 : Int) (e9 : v9 = fx_add x3 3) (v10 : Int) (e10 : v10 = X.1 v9) (b10 : -2147483648 ≤ v10 ∧ v10 ≤ 2147483647) (v11 : Int) (S1 : fx_S) (k1 : fx_Sok S1) (b11 : -2147483648 ≤ v11 ∧ v11 ≤ 2147483647) (p1 : s105 S v6 v8 v10 v11 S1) (v12 : Int) (e12 : v12 = fx_add x3 1) (v13 : Int) (e13 : v13 = X.1 v12) (b13 : -2147483648 ≤ v13 ∧ v13 ≤ 2147483647) (v14 : Int) (e14 : v14 = fx_add x3 2) (v15 : Int) (e15 : v15 = X.1 v14) (b15 : -2147483648 ≤ v15 ∧ v15 ≤ 2147483647) (v16 : Int) (e16 : v16 = fx_add x3 3) (v17 : Int) (e17 : v17 = X.1 v16) (b17 : -2147483648 ≤ v17 ∧ v17 ≤ 2147483647) (v18 : Int) (S2 : fx_S) (k2 : fx_Sok S2) (b18 : -2147483648 ≤ v18 ∧ v18 ≤ 2147483647) (p2 : s106 S1 v13 v15 v17 v18 S2) (v19 : Int) (e19 : v19 = fx_add x3 6) (z : Int) (Z : fx_S) (kz : fx_Sok Z) (bz : -2147483648 ≤ z ∧ z ≤ 2147483647) (pz : s0 S2 v19 z Z) : s0 S x3 z Z := by
  unfold s0 at pz
  unfold s0
  intro hR
  have BS := fx_iW hR
  have hn := fx_iN hR
  obtain rfl : v5 = v12 := by rw [e5, e12]
  obtain rfl : v6 = v13 := by rw [e6, e13]
  obtain rfl : v7 = v14 := by rw [e7, e14]
  obtain rfl : v8 = v15 := by rw [e8, e15]
  obtain rfl : v9 = v16 := by rw [e9, e16]
  obtain rfl : v10 = v17 := by rw [e10, e17]
  have hL := fx_l_row hR p1 p2
  obtain ⟨q1, f1, p1⟩ := p1
  have z1 : S1.2.2 = S.2.2 := by rw [q1]
  have r1 : ∀ p i : Int, S1.2.1 p i = S.2.1 p i := fun p i => by rw [q1]
  have BS1 : fx_WB S1 := fx_WB_eq BS (fun q => f1 67 q (by omega)) (fun q => f1 68 q (by omega)) (fun q => f1 69 q (by omega))
  obtain ⟨q2, f2, p2⟩ := p2
  have z2 : S2.2.2 = S1.2.2 := by rw [q2]
  have r2 : ∀ p i : Int, S2.2.1 p i = S1.2.1 p i := fun p i => by rw [q2]
  have BS2 : fx_WB S2 := fx_WB_eq BS1 (fun q => f2 67 q (by omega)) (fun q => f2 68 q (by omega)) (fun q => f2 69 q (by omega))
  have h_s : fx_Rs S2.1 := hL.2
  have h_d : fx_Rd S2.1 1 (S2.1 67) := fx_Rd_eq (fx_iRd hR) (((f2 1 0 (by omega))).trans ((f1 1 0 (by omega)))) (((f2 67 0 (by omega))).trans ((f1 67 0 (by omega))))
  have h_v : fx_Rv S2.1 1 (S2.1 67) := fx_Rv_eq BS.1 (fx_iRv hR) (((f2 2 0 (by omega))).trans ((f1 2 0 (by omega)))) (fun j i _ j0 j1 => ((f2 (1 + j) i (by omega))).trans ((f1 (1 + j) i (by omega)))) (fun i hi => ((f2 67 i (by omega))).trans ((f1 67 i (by omega))))
  have h_m : fx_Rm S2.1 1 (S2.1 67) := fx_Rm_eq BS.1 (fx_iRm hR) (((f2 2 4 (by omega))).trans ((f1 2 4 (by omega)))) (fun j i _ j0 j1 => ((f2 (1 + j) i (by omega))).trans ((f1 (1 + j) i (by omega)))) (fun i hi => ((f2 67 i (by omega))).trans ((f1 67 i (by omega))))
  have h_p : fx_Rp S2.1 1 (S2.1 67) := fx_Rp_eq BS.1 (fx_iRp hR) (fun j i _ j0 j1 => ((f2 (1 + j) i (by omega))).trans ((f1 (1 + j) i (by omega)))) (fun i hi => ((f2 67 i (by omega))).trans ((f1 67 i (by omega)))) (Int.le_of_eq (((f2 67 0 (by omega))).trans ((f1 67 0 (by omega)))).symm) (Int.le_of_eq (((f2 67 1 (by omega))).trans ((f1 67 1 (by omega)))).symm) (Int.le_of_eq (((f2 67 5 (by omega))).trans ((f1 67 5 (by omega)))).symm)
  have h_h : fx_Rh S2.1 1 (S2.1 67) := fx_Rh_eq BS.1 (fx_iRh hR) (fun j i _ j0 j1 => ((f2 (1 + j) i (by omega))).trans ((f1 (1 + j) i (by omega)))) (fun i hi => ((f2 67 i (by omega))).trans ((f1 67 i (by omega))))
  exact pz (fx_RI_step hR BS2 (fun k => ((r2 49 k)).trans ((r1 49 k))) (by omega) (fun p i p0 p1 => ((f2 p i (by omega))).trans ((f1 p i (by omega)))) (fun i => ((f2 68 i (by omega))).trans ((f1 68 i (by omega)))) (fun i => ((f2 69 i (by omega))).trans ((f1 69 i (by omega)))) h_s ⟨h_d, h_v, h_m, h_p, h_h⟩)
theorem q0_60 (X : (Int → Int) × Int) (S : fx_S) (x3 : Int) (hS : fx_Sok S) (g3 : -2147483648 ≤ x3 ∧ x3 ≤ 2147483647) (v1 : Int) (e1 : v1 = X.2) (b1 : 0 ≤ v1 ∧ v1 ≤ 3072) (v2 : Int) (e2 : v2 = fx_sub v1 6) (c1 : x3 ≤ v2) (v3 : Int) (e3 : v3 = X.1 x3) (b3 : -2147483648 ≤ v3 ∧ v3 ≤ 2147483647) (v4 : Int) (e4 : v4 = fx_and v3 63) (c2 : v4 = 53) (v5 : Int) (e5 : v5 = fx_add x3 1) (v6 : Int) (e6 : v6 = X.1 v5) (b6 : -2147483648 ≤ v6 ∧ v6 ≤ 2147483647) (v7 : Int) (e7 : v7 = fx_add x3 2) (v8 : Int) (e8 : v8 = X.1 v7) (b8 : -2147483648 ≤ v8 ∧ v8 ≤ 2147483647) (v9 : Int) (e9 : v9 = fx_add x3 3) (v10 : Int) (e10 : v10 = X.1 v9) (b10 : -2147483648 ≤ v10 ∧ v10 ≤ 2147483647) (v11 : Int) (e11 : v11 = fx_lshl v10 32) (v12 : Int) (e12 : v12 = fx_add x3 4) (v13 : Int) (e13 : v13 = X.1 v12) (b13 : -2147483648 ≤ v13 ∧ v13 ≤ 2147483647) (v14 : Int) (e14 : v14 = fx_land v13 4294967295) (v15 : Int) (e15 : v15 = fx_lor v11 v14) (v16 : Int) (S1 : fx_S) (k1 : fx_Sok S1) (b16 : -2147483648 ≤ v16 ∧ v16 ≤ 2147483647) (p1 : s107 S v6 v8 v15 v16 S1) (v17 : Int) (e17 : v17 = fx_add x3 1) (v18 : Int) (e18 : v18 = X.1 v17) (b18 : -2147483648 ≤ v18 ∧ v18 ≤ 2147483647) (v19 : Int) (e19 : v19 = fx_add x3 2) (v20 : Int) (e20 : v20 = X.1 v19) (b20 : -2147483648 ≤ v20 ∧ v20 ≤ 2147483647) (v21 : Int) (e21 : v21 = fx_add x3 3) (v22 : Int) (e22 : v22 = X.1 v21) (b22 : -2147483648 ≤ v22 ∧ v22 ≤ 2147483647) (v23 : Int) (e23 : v23 = fx_lshl v22 32) (v24 : Int) (e24 : v24 = fx_add x3 4) (v25 : Int) (e25 : v25 = X.1 v24) (b25 : -2147483648 ≤ v25 ∧ v25 ≤ 2147483647) (v26 : Int) (e26 : v26 = fx_land v25 4294967295) (v27 : Int) (e27 : v27 = fx_lor v23 v26) (v28 : Int) (S2 : fx_S) (k2 : fx_Sok S2) (b28 : -2147483648 ≤ v28 ∧ v28 ≤ 2147483647) (p2 : s108 S1 v18 v20 v27 v28 S2) (v29 : Int) (e29 : v29 = fx_add x3 6) (z : Int) (Z : fx_S) (kz : fx_Sok Z) (bz : -2147483648 ≤ z ∧ z ≤ 2147483647) (pz : s0 S2 v29 z Z) : s0 S x3 z Z := by
  unfold s0 at pz
  unfold s0
  intro hR
  have BS := fx_iW hR
  have hn := fx_iN hR
  obtain rfl : v5 = v17 := by rw [e5, e17]
  obtain rfl : v6 = v18 := by rw [e6, e18]
  obtain rfl : v7 = v19 := by rw [e7, e19]
  obtain rfl : v8 = v20 := by rw [e8, e20]
  obtain rfl : v9 = v21 := by rw [e9, e21]
  obtain rfl : v10 = v22 := by rw [e10, e22]
  obtain rfl : v11 = v23 := by rw [e11, e23]
  obtain rfl : v12 = v24 := by rw [e12, e24]
  obtain rfl : v13 = v25 := by rw [e13, e25]
  obtain rfl : v14 = v26 := by rw [e14, e26]
  obtain rfl : v15 = v27 := by rw [e15, e27]
  have hL := fx_l_write hR p1 p2
  obtain ⟨q1, f1, p1⟩ := p1
  have z1 : S1.2.2 = S.2.2 := by rw [q1]
  have r1 : ∀ p i : Int, S1.2.1 p i = S.2.1 p i := fun p i => by rw [q1]
  have BS1 : fx_WB S1 := fx_WB_eq BS (fun q => f1 67 q (by omega)) (fun q => f1 68 q (by omega)) (fun q => f1 69 q (by omega))
  obtain ⟨q2, f2, p2⟩ := p2
  have z2 : S2.2.2 = S1.2.2 := by rw [q2]
  have r2 : ∀ p i : Int, S2.2.1 p i = S1.2.1 p i := fun p i => by rw [q2]
  have BS2 : fx_WB S2 := fx_WB_eq BS1 (fun q => f2 67 q (by omega)) (fun q => f2 68 q (by omega)) (fun q => f2 69 q (by omega))
  have h_s : fx_Rs S2.1 := hL.2
  have h_d : fx_Rd S2.1 1 (S2.1 67) := fx_Rd_eq (fx_iRd hR) (((f2 1 0 (by omega))).trans ((f1 1 0 (by omega)))) (((f2 67 0 (by omega))).trans ((f1 67 0 (by omega))))
  have h_v : fx_Rv S2.1 1 (S2.1 67) := fx_Rv_eq BS.1 (fx_iRv hR) (((f2 2 0 (by omega))).trans ((f1 2 0 (by omega)))) (fun j i _ j0 j1 => ((f2 (1 + j) i (by omega))).trans ((f1 (1 + j) i (by omega)))) (fun i hi => ((f2 67 i (by omega))).trans ((f1 67 i (by omega))))
  have h_m : fx_Rm S2.1 1 (S2.1 67) := fx_Rm_eq BS.1 (fx_iRm hR) (((f2 2 4 (by omega))).trans ((f1 2 4 (by omega)))) (fun j i _ j0 j1 => ((f2 (1 + j) i (by omega))).trans ((f1 (1 + j) i (by omega)))) (fun i hi => ((f2 67 i (by omega))).trans ((f1 67 i (by omega))))
  have h_p : fx_Rp S2.1 1 (S2.1 67) := fx_Rp_eq BS.1 (fx_iRp hR) (fun j i _ j0 j1 => ((f2 (1 + j) i (by omega))).trans ((f1 (1 + j) i (by omega)))) (fun i hi => ((f2 67 i (by omega))).trans ((f1 67 i (by omega)))) (Int.le_of_eq (((f2 67 0 (by omega))).trans ((f1 67 0 (by omega)))).symm) (Int.le_of_eq (((f2 67 1 (by omega))).trans ((f1 67 1 (by omega)))).symm) (Int.le_of_eq (((f2 67 5 (by omega))).trans ((f1 67 5 (by omega)))).symm)
  have h_h : fx_Rh S2.1 1 (S2.1 67) := fx_Rh_eq BS.1 (fx_iRh hR) (fun j i _ j0 j1 => ((f2 (1 + j) i (by omega))).trans ((f1 (1 + j) i (by omega)))) (fun i hi => ((f2 67 i (by omega))).trans ((f1 67 i (by omega))))
  exact pz (fx_RI_step hR BS2 (fun k => ((r2 49 k)).trans ((r1 49 k))) (by omega) (fun p i p0 p1 => ((f2 p i (by omega))).trans ((f1 p i (by omega)))) (fun i => ((f2 68 i (by omega))).trans ((f1 68 i (by omega)))) (fun i => ((f2 69 i (by omega))).trans ((f1 69 i (by omega)))) h_s ⟨h_d, h_v, h_m, h_p, h_h⟩)
theorem q0_61 (X : (Int → Int) × Int) (S : fx_S) (x3 : Int) (hS : fx_Sok S) (g3 : -2147483648 ≤ x3 ∧ x3 ≤ 2147483647) (v1 : Int) (e1 : v1 = X.2) (b1 : 0 ≤ v1 ∧ v1 ≤ 3072) (v2 : Int) (e2 : v2 = fx_sub v1 6) (c1 : x3 ≤ v2) (v3 : Int) (e3 : v3 = X.1 x3) (b3 : -2147483648 ≤ v3 ∧ v3 ≤ 2147483647) (v4 : Int) (e4 : v4 = fx_and v3 63) (c2 : v4 = 54) (v5 : Int) (e5 : v5 = fx_add x3 1) (v6 : Int) (e6 : v6 = X.1 v5) (b6 : -2147483648 ≤ v6 ∧ v6 ≤ 2147483647) (v7 : Int) (e7 : v7 = fx_add x3 2) (v8 : Int) (e8 : v8 = X.1 v7) (b8 : -2147483648 ≤ v8 ∧ v8 ≤ 2147483647) (v9 : Int) (e9 : v9 = fx_add x3 3) (v10 : Int) (e10 : v10 = X.1 v9) (b10 : -2147483648 ≤ v10 ∧ v10 ≤ 2147483647) (v11 : Int) (e11 : v11 = fx_add x3 4) (v12 : Int) (e12 : v12 = X.1 v11) (b12 : -2147483648 ≤ v12 ∧ v12 ≤ 2147483647) (v13 : Int) (e13 : v13 = fx_add x3 5) (v14 : Int) (e14 : v14 = X.1 v13) (b14 : -2147483648 ≤ v14 ∧ v14 ≤ 2147483647) (v15 : Int) (S1 : fx_S) (k1 : fx_Sok S1) (b15 : -2147483648 ≤ v15 ∧ v15 ≤ 2147483647) (p1 : s109 S v6 v8 v10 v12 v14 v15 S1) (v16 : Int) (e16 : v16 = fx_add x3 1) (v17 : Int) (e17 : v17 = X.1 v16) (b17 : -2147483648 ≤ v17 ∧ v17 ≤ 2147483647) (v18 : Int) (e18 : v18 = fx_add x3 2) (v19 : Int) (e19 : v19 = X.1 v18) (b19 : -2147483648 ≤ v19 ∧ v19 ≤ 2147483647) (v20 : Int) (e20 : v20 = fx_add x3 3) (v21 : Int) (e21 : v21 = X.1 v20) (b21 : -2147483648 ≤ v21 ∧ v21 ≤ 2147483647) (v22 : Int) (e22 : v22 = fx_add x3 4) (v23 : Int) (e23 : v23 = X.1 v22) (b23 : -2147483648 ≤ v23 ∧ v23 ≤ 2147483647) (v24 : Int) (e24 : v24 = fx_add x3 5) (v25 : Int) (e25 : v25 = X.1 v24) (b25 : -2147483648 ≤ v25 ∧ v25 ≤ 2147483647) (v26 : Int) (S2 : fx_S) (k2 : fx_Sok S2) (b26 : -2147483648 ≤ v26 ∧ v26 ≤ 2147483647) (p2 : s110 S1 v17 v19 v21 v23 v25 v26 S2) (v27 : Int) (e27 : v27 = fx_add x3 6) (z : Int) (Z : fx_S) (kz : fx_Sok Z) (bz : -2147483648 ≤ z ∧ z ≤ 2147483647) (pz : s0 S2 v27 z Z) : s0 S x3 z Z := by
  unfold s0 at pz
  unfold s0
  intro hR
  have BS := fx_iW hR
  have hn := fx_iN hR
  obtain rfl : v5 = v16 := by rw [e5, e16]
  obtain rfl : v6 = v17 := by rw [e6, e17]
  obtain rfl : v7 = v18 := by rw [e7, e18]
  obtain rfl : v8 = v19 := by rw [e8, e19]
  obtain rfl : v9 = v20 := by rw [e9, e20]
  obtain rfl : v10 = v21 := by rw [e10, e21]
  obtain rfl : v11 = v22 := by rw [e11, e22]
  obtain rfl : v12 = v23 := by rw [e12, e23]
  obtain rfl : v13 = v24 := by rw [e13, e24]
  obtain rfl : v14 = v25 := by rw [e14, e25]
  have hL := fx_l_paste hR p1 p2
  obtain ⟨q1, f1, p1⟩ := p1
  have z1 : S1.2.2 = S.2.2 := by rw [q1]
  have r1 : ∀ p i : Int, S1.2.1 p i = S.2.1 p i := fun p i => by rw [q1]
  have BS1 : fx_WB S1 := fx_WB_eq BS (fun q => f1 67 q (by omega)) (fun q => f1 68 q (by omega)) (fun q => f1 69 q (by omega))
  obtain ⟨q2, f2, p2⟩ := p2
  have z2 : S2.2.2 = S1.2.2 := by rw [q2]
  have r2 : ∀ p i : Int, S2.2.1 p i = S1.2.1 p i := fun p i => by rw [q2]
  have BS2 : fx_WB S2 := fx_WB_eq BS1 (fun q => f2 67 q (by omega)) (fun q => f2 68 q (by omega)) (fun q => f2 69 q (by omega))
  have h_s : fx_Rs S2.1 := hL.2
  have h_d : fx_Rd S2.1 1 (S2.1 67) := fx_Rd_eq (fx_iRd hR) (((f2 1 0 (by omega))).trans ((f1 1 0 (by omega)))) (((f2 67 0 (by omega))).trans ((f1 67 0 (by omega))))
  have h_v : fx_Rv S2.1 1 (S2.1 67) := fx_Rv_eq BS.1 (fx_iRv hR) (((f2 2 0 (by omega))).trans ((f1 2 0 (by omega)))) (fun j i _ j0 j1 => ((f2 (1 + j) i (by omega))).trans ((f1 (1 + j) i (by omega)))) (fun i hi => ((f2 67 i (by omega))).trans ((f1 67 i (by omega))))
  have h_m : fx_Rm S2.1 1 (S2.1 67) := fx_Rm_eq BS.1 (fx_iRm hR) (((f2 2 4 (by omega))).trans ((f1 2 4 (by omega)))) (fun j i _ j0 j1 => ((f2 (1 + j) i (by omega))).trans ((f1 (1 + j) i (by omega)))) (fun i hi => ((f2 67 i (by omega))).trans ((f1 67 i (by omega))))
  have h_p : fx_Rp S2.1 1 (S2.1 67) := fx_Rp_eq BS.1 (fx_iRp hR) (fun j i _ j0 j1 => ((f2 (1 + j) i (by omega))).trans ((f1 (1 + j) i (by omega)))) (fun i hi => ((f2 67 i (by omega))).trans ((f1 67 i (by omega)))) (Int.le_of_eq (((f2 67 0 (by omega))).trans ((f1 67 0 (by omega)))).symm) (Int.le_of_eq (((f2 67 1 (by omega))).trans ((f1 67 1 (by omega)))).symm) (Int.le_of_eq (((f2 67 5 (by omega))).trans ((f1 67 5 (by omega)))).symm)
  have h_h : fx_Rh S2.1 1 (S2.1 67) := fx_Rh_eq BS.1 (fx_iRh hR) (fun j i _ j0 j1 => ((f2 (1 + j) i (by omega))).trans ((f1 (1 + j) i (by omega)))) (fun i hi => ((f2 67 i (by omega))).trans ((f1 67 i (by omega))))
  exact pz (fx_RI_step hR BS2 (fun k => ((r2 49 k)).trans ((r1 49 k))) (by omega) (fun p i p0 p1 => ((f2 p i (by omega))).trans ((f1 p i (by omega)))) (fun i => ((f2 68 i (by omega))).trans ((f1 68 i (by omega)))) (fun i => ((f2 69 i (by omega))).trans ((f1 69 i (by omega)))) h_s ⟨h_d, h_v, h_m, h_p, h_h⟩)
theorem q1_0 (S : fx_S) (x1 x2 x3 x4 x5 : Int) (hS : fx_Sok S) (g1 : -2147483648 ≤ x1 ∧ x1 ≤ 2147483647) (g2 : -2147483648 ≤ x2 ∧ x2 ≤ 2147483647) (g3 : -2147483648 ≤ x3 ∧ x3 ≤ 2147483647) (g4 : -2147483648 ≤ x4 ∧ x4 ≤ 2147483647) (g5 : -2147483648 ≤ x5 ∧ x5 ≤ 2147483647) (v5 : Int) (e5 : v5 = S.1 50 1) (b5 : -2147483648 ≤ v5 ∧ v5 ≤ 2147483647) (v6 : Int) (e6 : v6 = fx_add v5 20) (c1 : 600 < v6) : s1 S x1 x2 x3 x4 x5 (-1) S := by
  refine ⟨rfl, ?_⟩
  · intro p i hW
    clear c1 e6 b5 e5
    exact rfl
theorem q1_1 (S : fx_S) (x1 x2 x3 x4 x5 : Int) (hS : fx_Sok S) (g1 : -2147483648 ≤ x1 ∧ x1 ≤ 2147483647) (g2 : -2147483648 ≤ x2 ∧ x2 ≤ 2147483647) (g3 : -2147483648 ≤ x3 ∧ x3 ≤ 2147483647) (g4 : -2147483648 ≤ x4 ∧ x4 ≤ 2147483647) (g5 : -2147483648 ≤ x5 ∧ x5 ≤ 2147483647) (v5 : Int) (e5 : v5 = S.1 50 1) (b5 : -2147483648 ≤ v5 ∧ v5 ≤ 2147483647) (v6 : Int) (e6 : v6 = fx_add v5 20) (c1 : v6 ≤ 600) (v7 : Int) (S1 : fx_S) (k1 : fx_Sok S1) (b7 : v7 = 0) (p1 : s111 S x1 v7 S1) (v8 : Int) (S2 : fx_S) (k2 : fx_Sok S2) (b8 : v8 = 0) (p2 : s111 S1 x2 v8 S2) (v9 : Int) (S3 : fx_S) (k3 : fx_Sok S3) (b9 : v9 = 0) (p3 : s111 S2 x3 v9 S3) (v10 : Int) (S4 : fx_S) (k4 : fx_Sok S4) (b10 : v10 = 0) (p4 : s111 S3 x4 v10 S4) (v11 : Int) (S5 : fx_S) (k5 : fx_Sok S5) (b11 : v11 = 0) (p5 : s111 S4 x5 v11 S5) (v12 : Int) (e12 : v12 = S5.1 50 1) (b12 : -2147483648 ≤ v12 ∧ v12 ≤ 2147483647) : s1 S x1 x2 x3 x4 x5 v12 S5 := by
  obtain ⟨r1, f1⟩ := p1
  obtain ⟨r2, f2⟩ := p2
  obtain ⟨r3, f3⟩ := p3
  obtain ⟨r4, f4⟩ := p4
  obtain ⟨r5, f5⟩ := p5
  refine ⟨(r5).trans ((r4).trans ((r3).trans ((r2).trans (r1)))), ?_⟩
  · intro p i hW
    clear b12 e12 b11 b10 b9 b8 b7 c1 e6 b5 e5
    exact ((f5 p i (by omega))).trans (((f4 p i (by omega))).trans (((f3 p i (by omega))).trans (((f2 p i (by omega))).trans ((f1 p i (by omega))))))
theorem q2_0 (S : fx_S) (x1 x2 x3 x4 x5 : Int) (hS : fx_Sok S) (g1 : -2147483648 ≤ x1 ∧ x1 ≤ 2147483647) (g2 : -2147483648 ≤ x2 ∧ x2 ≤ 2147483647) (g3 : -2147483648 ≤ x3 ∧ x3 ≤ 2147483647) (g4 : -2147483648 ≤ x4 ∧ x4 ≤ 2147483647) (g5 : -2147483648 ≤ x5 ∧ x5 ≤ 2147483647) (v5 : Int) (e5 : v5 = S.1 66 5) (b5 : -2147483648 ≤ v5 ∧ v5 ≤ 2147483647) (v6 : Int) (e6 : v6 = fx_add v5 20) (c1 : v6 ≤ 600) (S1 : fx_S) (d1 : S1 = (fx_up S.1 71 0 x1, S.2)) (S2 : fx_S) (d2 : S2 = (fx_up S1.1 71 1 x2, S1.2)) (S3 : fx_S) (d3 : S3 = (fx_up S2.1 71 2 x3, S2.2)) (S4 : fx_S) (d4 : S4 = (fx_up S3.1 71 3 x4, S3.2)) (S5 : fx_S) (d5 : S5 = (fx_up S4.1 71 4 x5, S4.2)) (z : Int) (Z : fx_S) (kz : fx_Sok Z) (bz : -2147483648 ≤ z ∧ z ≤ 2147483647) (pz : s112 S5 0 z Z) : s2 S x1 x2 x3 x4 x5 z Z := by
  obtain ⟨rZ, fZ⟩ := pz
  refine ⟨(rZ).trans (((show S5.2 = S4.2 by rw [d5])).trans (((show S4.2 = S3.2 by rw [d4])).trans (((show S3.2 = S2.2 by rw [d3])).trans (((show S2.2 = S1.2 by rw [d2])).trans ((show S1.2 = S.2 by rw [d1])))))), ?_⟩
  · intro p i hW
    clear c1 e6 b5 e5
    exact ((fZ p i (by omega))).trans (((show S5.1 p i = S4.1 p i by rw [d5]; exact if_neg (by omega))).trans (((show S4.1 p i = S3.1 p i by rw [d4]; exact if_neg (by omega))).trans (((show S3.1 p i = S2.1 p i by rw [d3]; exact if_neg (by omega))).trans (((show S2.1 p i = S1.1 p i by rw [d2]; exact if_neg (by omega))).trans ((show S1.1 p i = S.1 p i by rw [d1]; exact if_neg (by omega)))))))
theorem q2_1 (S : fx_S) (x1 x2 x3 x4 x5 : Int) (hS : fx_Sok S) (g1 : -2147483648 ≤ x1 ∧ x1 ≤ 2147483647) (g2 : -2147483648 ≤ x2 ∧ x2 ≤ 2147483647) (g3 : -2147483648 ≤ x3 ∧ x3 ≤ 2147483647) (g4 : -2147483648 ≤ x4 ∧ x4 ≤ 2147483647) (g5 : -2147483648 ≤ x5 ∧ x5 ≤ 2147483647) (v5 : Int) (e5 : v5 = S.1 66 5) (b5 : -2147483648 ≤ v5 ∧ v5 ≤ 2147483647) (v6 : Int) (e6 : v6 = fx_add v5 20) (c1 : 600 < v6) : s2 S x1 x2 x3 x4 x5 (-1) S := by
  refine ⟨rfl, ?_⟩
  · intro p i hW
    clear c1 e6 b5 e5
    exact rfl
theorem q3_0 (S : fx_S) (x1 : Int) (hS : fx_Sok S) (g1 : -2147483648 ≤ x1 ∧ x1 ≤ 2147483647) (c1 : x1 < 0) : s3 S x1 (-1) S := by
  refine ⟨rfl, ?_⟩
  · intro p i hW
    clear c1
    exact rfl
