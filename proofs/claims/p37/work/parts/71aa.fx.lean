/-! FX: what is to be shown of the entries -/
theorem q0_0 (X : (Int → Int) × Int) (S : fx_S) (x3 : Int) (hS : fx_Sok S) (g3 : -2147483648 ≤ x3 ∧ x3 ≤ 2147483647) (v1 : Int) (e1 : v1 = X.2) (b1 : 0 ≤ v1 ∧ v1 ≤ 3072) (v2 : Int) (e2 : v2 = fx_sub v1 6) (c1 : v2 < x3) : s0 S x3 1 S := by
  unfold s0
  exact fun _ => rfl
theorem q0_1 (X : (Int → Int) × Int) (S : fx_S) (x3 : Int) (hS : fx_Sok S) (g3 : -2147483648 ≤ x3 ∧ x3 ≤ 2147483647) (v1 : Int) (e1 : v1 = X.2) (b1 : 0 ≤ v1 ∧ v1 ≤ 3072) (v2 : Int) (e2 : v2 = fx_sub v1 6) (c1 : x3 ≤ v2) (v3 : Int) (e3 : v3 = X.1 x3) (b3 : -2147483648 ≤ v3 ∧ v3 ≤ 2147483647) (v4 : Int) (e4 : v4 = fx_and v3 63) (c2 : v4 < 0) (v5 : Int) (e5 : v5 = fx_add x3 6) (z : Int) (Z : fx_S) (kz : fx_Sok Z) (bz : -2147483648 ≤ z ∧ z ≤ 2147483647) (pz : s0 S v5 z Z) : s0 S x3 z Z := by
  unfold s0 at pz
  unfold s0
  intro hR
  have BS := fx_iW hR
  have hn := fx_iN hR
  exact pz hR
theorem q0_2 (X : (Int → Int) × Int) (S : fx_S) (x3 : Int) (hS : fx_Sok S) (g3 : -2147483648 ≤ x3 ∧ x3 ≤ 2147483647) (v1 : Int) (e1 : v1 = X.2) (b1 : 0 ≤ v1 ∧ v1 ≤ 3072) (v2 : Int) (e2 : v2 = fx_sub v1 6) (c1 : x3 ≤ v2) (v3 : Int) (e3 : v3 = X.1 x3) (b3 : -2147483648 ≤ v3 ∧ v3 ≤ 2147483647) (v4 : Int) (e4 : v4 = fx_and v3 63) (c2 : 54 < v4) (v5 : Int) (e5 : v5 = fx_add x3 6) (z : Int) (Z : fx_S) (kz : fx_Sok Z) (bz : -2147483648 ≤ z ∧ z ≤ 2147483647) (pz : s0 S v5 z Z) : s0 S x3 z Z := by
  unfold s0 at pz
  unfold s0
  intro hR
  have BS := fx_iW hR
  have hn := fx_iN hR
  exact pz hR
theorem q0_3 (X : (Int → Int) × Int) (S : fx_S) (x3 : Int) (hS : fx_Sok S) (g3 : -2147483648 ≤ x3 ∧ x3 ≤ 2147483647) (v1 : Int) (e1 : v1 = X.2) (b1 : 0 ≤ v1 ∧ v1 ≤ 3072) (v2 : Int) (e2 : v2 = fx_sub v1 6) (c1 : x3 ≤ v2) (v3 : Int) (e3 : v3 = X.1 x3) (b3 : -2147483648 ≤ v3 ∧ v3 ≤ 2147483647) (v4 : Int) (e4 : v4 = fx_and v3 63) (c2 : v4 = 0) (v5 : Int) (e5 : v5 = fx_add x3 1) (v6 : Int) (e6 : v6 = X.1 v5) (b6 : -2147483648 ≤ v6 ∧ v6 ≤ 2147483647) (v7 : Int) (e7 : v7 = fx_add x3 2) (v8 : Int) (e8 : v8 = X.1 v7) (b8 : -2147483648 ≤ v8 ∧ v8 ≤ 2147483647) (v9 : Int) (e9 : v9 = fx_add x3 3) (v10 : Int) (e10 : v10 = X.1 v9) (b10 : -2147483648 ≤ v10 ∧ v10 ≤ 2147483647) (v11 : Int) (e11 : v11 = fx_add x3 4) (v12 : Int) (e12 : v12 = X.1 v11) (b12 : -2147483648 ≤ v12 ∧ v12 ≤ 2147483647) (v13 : Int) (e13 : v13 = fx_add x3 5) (v14 : Int) (e14 : v14 = X.1 v13) (b14 : -2147483648 ≤ v14 ∧ v14 ≤ 2147483647) (v15 : Int) (S1 : fx_S) (k1 : fx_Sok S1) (b15 : -2147483648 ≤ v15 ∧ v15 ≤ 2147483647) (p1 : s1 S v6 v8 v10 v12 v14 v15 S1) (v16 : Int) (e16 : v16 = fx_add x3 1) (v17 : Int) (e17 : v17 = X.1 v16) (b17 : -2147483648 ≤ v17 ∧ v17 ≤ 2147483647) (v18 : Int) (e18 : v18 = fx_add x3 2) (v19 : Int) (e19 : v19 = X.1 v18) (b19 : -2147483648 ≤ v19 ∧ v19 ≤ 2147483647) (v20 : Int) (e20 : v20 = fx_add x3 3) (v21 : Int) (e21 : v21 = X.1 v20) (b21 : -2147483648 ≤ v21 ∧ v21 ≤ 2147483647) (v22 : Int) (e22 : v22 = fx_add x3 4) (v23 : Int) (e23 : v23 = X.1 v22) (b23 : -2147483648 ≤ v23 ∧ v23 ≤ 2147483647) (v24 : Int) (e24 : v24 = fx_add x3 5) (v25 : Int) (e25 : v25 = X.1 v24) (b25 : -2147483648 ≤ v25 ∧ v25 ≤ 2147483647) (v26 : Int) (S2 : fx_S) (k2 : fx_Sok S2) (b26 : -2147483648 ≤ v26 ∧ v26 ≤ 2147483647) (p2 : s2 S1 v17 v19 v21 v23 v25 v26 S2) (v27 : Int) (e27 : v27 = fx_add x3 6) (z : Int) (Z : fx_S) (kz : fx_Sok Z) (bz : -2147483648 ≤ z ∧ z ≤ 2147483647) (pz : s0 S2 v27 z Z) : s0 S x3 z Z := by
  unfold s0 at pz
  unfold s0
  intro hR
  have BS := fx_iW hR
  have hn := fx_iN hR
  obtain rfl : v5 = v16 := by rw [e5, e16]
  obtain rfl : v6 = v17 := by rw [e6, e17]
  obtain rfl : v7 = v18 := by rw [e7, e18]
  obtain rfl : v8 = v19 := by rw [e8, e19]
  obtain rfl : v9 = v20 := by rw [e9, e20]
  obtain rfl : v10 = v21 := by rw [e10, e21]
  obtain rfl : v11 = v22 := by rw [e11, e22]
  obtain rfl : v12 = v23 := by rw [e12, e23]
  obtain rfl : v13 = v24 := by rw [e13, e24]
  obtain rfl : v14 = v25 := by rw [e14, e25]
  obtain ⟨q1, f1⟩ := p1
  have z1 : S1.2.2 = S.2.2 := by rw [q1]
  have r1 : ∀ p i : Int, S1.2.1 p i = S.2.1 p i := fun p i => by rw [q1]
  have BS1 : fx_WB S1 := fx_WB_eq BS (fun q => f1 67 q (by omega)) (fun q => f1 68 q (by omega)) (fun q => f1 69 q (by omega))
  obtain ⟨q2, f2⟩ := p2
  have z2 : S2.2.2 = S1.2.2 := by rw [q2]
  have r2 : ∀ p i : Int, S2.2.1 p i = S1.2.1 p i := fun p i => by rw [q2]
  have BS2 : fx_WB S2 := fx_WB_eq BS1 (fun q => f2 67 q (by omega)) (fun q => f2 68 q (by omega)) (fun q => f2 69 q (by omega))
  have h_s : fx_Rs S2.1 := fx_Rs_eq (fx_iS hR) (fun p i hp => ((f2 p i (by omega))).trans ((f1 p i (by omega))))
  have h_d : fx_Rd S2.1 1 (S2.1 67) := fx_Rd_eq (fx_iRd hR) (((f2 1 0 (by omega))).trans ((f1 1 0 (by omega)))) (((f2 67 0 (by omega))).trans ((f1 67 0 (by omega))))
  have h_v : fx_Rv S2.1 1 (S2.1 67) := fx_Rv_eq BS.1 (fx_iRv hR) (((f2 2 0 (by omega))).trans ((f1 2 0 (by omega)))) (fun j i _ j0 j1 => ((f2 (1 + j) i (by omega))).trans ((f1 (1 + j) i (by omega)))) (fun i hi => ((f2 67 i (by omega))).trans ((f1 67 i (by omega))))
  have h_m : fx_Rm S2.1 1 (S2.1 67) := fx_Rm_eq BS.1 (fx_iRm hR) (((f2 2 4 (by omega))).trans ((f1 2 4 (by omega)))) (fun j i _ j0 j1 => ((f2 (1 + j) i (by omega))).trans ((f1 (1 + j) i (by omega)))) (fun i hi => ((f2 67 i (by omega))).trans ((f1 67 i (by omega))))
  have h_p : fx_Rp S2.1 1 (S2.1 67) := fx_Rp_eq BS.1 (fx_iRp hR) (fun j i _ j0 j1 => ((f2 (1 + j) i (by omega))).trans ((f1 (1 + j) i (by omega)))) (fun i hi => ((f2 67 i (by omega))).trans ((f1 67 i (by omega)))) (Int.le_of_eq (((f2 67 0 (by omega))).trans ((f1 67 0 (by omega)))).symm) (Int.le_of_eq (((f2 67 1 (by omega))).trans ((f1 67 1 (by omega)))).symm) (Int.le_of_eq (((f2 67 5 (by omega))).trans ((f1 67 5 (by omega)))).symm)
  have h_h : fx_Rh S2.1 1 (S2.1 67) := fx_Rh_eq BS.1 (fx_iRh hR) (fun j i _ j0 j1 => ((f2 (1 + j) i (by omega))).trans ((f1 (1 + j) i (by omega)))) (fun i hi => ((f2 67 i (by omega))).trans ((f1 67 i (by omega))))
  exact pz (fx_RI_step hR BS2 (fun k => ((r2 49 k)).trans ((r1 49 k))) (by omega) (fun p i p0 p1 => ((f2 p i (by omega))).trans ((f1 p i (by omega)))) (fun i => ((f2 68 i (by omega))).trans ((f1 68 i (by omega)))) (fun i => ((f2 69 i (by omega))).trans ((f1 69 i (by omega)))) h_s ⟨h_d, h_v, h_m, h_p, h_h⟩)
theorem q0_4 (X : (Int → Int) × Int) (S : fx_S) (x3 : Int) (hS : fx_Sok S) (g3 : -2147483648 ≤ x3 ∧ x3 ≤ 2147483647) (v1 : Int) (e1 : v1 = X.2) (b1 : 0 ≤ v1 ∧ v1 ≤ 3072) (v2 : Int) (e2 : v2 = fx_sub v1 6) (c1 : x3 ≤ v2) (v3 : Int) (e3 : v3 = X.1 x3) (b3 : -2147483648 ≤ v3 ∧ v3 ≤ 2147483647) (v4 : Int) (e4 : v4 = fx_and v3 63) (c2 : v4 = 1) (v5 : Int) (e5 : v5 = fx_add x3 1) (v6 : Int) (e6 : v6 = X.1 v5) (b6 : -2147483648 ≤ v6 ∧ v6 ≤ 2147483647) (v7 : Int) (S1 : fx_S) (k1 : fx_Sok S1) (b7 : -2147483648 ≤ v7 ∧ v7 ≤ 2147483647) (p1 : s3 S v6 v7 S1) (v8 : Int) (e8 : v8 = fx_add x3 1) (v9 : Int) (e9 : v9 = X.1 v8) (b9 : -2147483648 ≤ v9 ∧ v9 ≤ 2147483647) (v10 : Int) (S2 : fx_S) (k2 : fx_Sok S2) (b10 : -2147483648 ≤ v10 ∧ v10 ≤ 2147483647) (p2 : s4 S1 v9 v10 S2) (v11 : Int) (e11 : v11 = fx_add x3 6) (z : Int) (Z : fx_S) (kz : fx_Sok Z) (bz : -2147483648 ≤ z ∧ z ≤ 2147483647) (pz : s0 S2 v11 z Z) : s0 S x3 z Z := by
  unfold s0 at pz
  unfold s0
  intro hR
  have BS := fx_iW hR
  have hn := fx_iN hR
  obtain rfl : v5 = v8 := by rw [e5, e8]
  obtain rfl : v6 = v9 := by rw [e6, e9]
  obtain ⟨q1, f1⟩ := p1
  have z1 : S1.2.2 = S.2.2 := by rw [q1]
  have r1 : ∀ p i : Int, S1.2.1 p i = S.2.1 p i := fun p i => by rw [q1]
  have BS1 : fx_WB S1 := fx_WB_eq BS (fun q => f1 67 q (by omega)) (fun q => f1 68 q (by omega)) (fun q => f1 69 q (by omega))
  obtain ⟨q2, f2⟩ := p2
  have z2 : S2.2.2 = S1.2.2 := by rw [q2]
  have r2 : ∀ p i : Int, S2.2.1 p i = S1.2.1 p i := fun p i => by rw [q2]
  have BS2 : fx_WB S2 := fx_WB_eq BS1 (fun q => f2 67 q (by omega)) (fun q => f2 68 q (by omega)) (fun q => f2 69 q (by omega))
  have h_s : fx_Rs S2.1 := fx_Rs_eq (fx_iS hR) (fun p i hp => ((f2 p i (by omega))).trans ((f1 p i (by omega))))
  have h_d : fx_Rd S2.1 1 (S2.1 67) := fx_Rd_eq (fx_iRd hR) (((f2 1 0 (by omega))).trans ((f1 1 0 (by omega)))) (((f2 67 0 (by omega))).trans ((f1 67 0 (by omega))))
  have h_v : fx_Rv S2.1 1 (S2.1 67) := fx_Rv_eq BS.1 (fx_iRv hR) (((f2 2 0 (by omega))).trans ((f1 2 0 (by omega)))) (fun j i _ j0 j1 => ((f2 (1 + j) i (by omega))).trans ((f1 (1 + j) i (by omega)))) (fun i hi => ((f2 67 i (by omega))).trans ((f1 67 i (by omega))))
  have h_m : fx_Rm S2.1 1 (S2.1 67) := fx_Rm_eq BS.1 (fx_iRm hR) (((f2 2 4 (by omega))).trans ((f1 2 4 (by omega)))) (fun j i _ j0 j1 => ((f2 (1 + j) i (by omega))).trans ((f1 (1 + j) i (by omega)))) (fun i hi => ((f2 67 i (by omega))).trans ((f1 67 i (by omega))))
  have h_p : fx_Rp S2.1 1 (S2.1 67) := fx_Rp_eq BS.1 (fx_iRp hR) (fun j i _ j0 j1 => ((f2 (1 + j) i (by omega))).trans ((f1 (1 + j) i (by omega)))) (fun i hi => ((f2 67 i (by omega))).trans ((f1 67 i (by omega)))) (Int.le_of_eq (((f2 67 0 (by omega))).trans ((f1 67 0 (by omega)))).symm) (Int.le_of_eq (((f2 67 1 (by omega))).trans ((f1 67 1 (by omega)))).symm) (Int.le_of_eq (((f2 67 5 (by omega))).trans ((f1 67 5 (by omega)))).symm)
  have h_h : fx_Rh S2.1 1 (S2.1 67) := fx_Rh_eq BS.1 (fx_iRh hR) (fun j i _ j0 j1 => ((f2 (1 + j) i (by omega))).trans ((f1 (1 + j) i (by omega)))) (fun i hi => ((f2 67 i (by omega))).trans ((f1 67 i (by omega))))
  exact pz (fx_RI_step hR BS2 (fun k => ((r2 49 k)).trans ((r1 49 k))) (by omega) (fun p i p0 p1 => ((f2 p i (by omega))).trans ((f1 p i (by omega)))) (fun i => ((f2 68 i (by omega))).trans ((f1 68 i (by omega)))) (fun i => ((f2 69 i (by omega))).trans ((f1 69 i (by omega)))) h_s ⟨h_d, h_v, h_m, h_p, h_h⟩)
theorem q0_5 (X : (Int → Int) × Int) (S : fx_S) (x3 : Int) (hS : fx_Sok S) (g3 : -2147483648 ≤ x3 ∧ x3 ≤ 2147483647) (v1 : Int) (e1 : v1 = X.2) (b1 : 0 ≤ v1 ∧ v1 ≤ 3072) (v2 : Int) (e2 : v2 = fx_sub v1 6) (c1 : x3 ≤ v2) (v3 : Int) (e3 : v3 = X.1 x3) (b3 : -2147483648 ≤ v3 ∧ v3 ≤ 2147483647) (v4 : Int) (e4 : v4 = fx_and v3 63) (c2 : v4 = 2) (v5 : Int) (e5 : v5 = fx_add x3 1) (v6 : Int) (e6 : v6 = X.1 v5) (b6 : -2147483648 ≤ v6 ∧ v6 ≤ 2147483647) (v7 : Int) (S1 : fx_S) (k1 : fx_Sok S1) (b7 : -2147483648 ≤ v7 ∧ v7 ≤ 2147483647) (p1 : s5 S v6 v7 S1) (v8 : Int) (e8 : v8 = fx_add x3 1) (v9 : Int) (e9 : v9 = X.1 v8) (b9 : -2147483648 ≤ v9 ∧ v9 ≤ 2147483647) (v10 : Int) (S2 : fx_S) (k2 : fx_Sok S2) (b10 : -2147483648 ≤ v10 ∧ v10 ≤ 2147483647) (p2 : s6 S1 v9 v10 S2) (v11 : Int) (e11 : v11 = fx_add x3 6) (z : Int) (Z : fx_S) (kz : fx_Sok Z) (bz : -2147483648 ≤ z ∧ z ≤ 2147483647) (pz : s0 S2 v11 z Z) : s0 S x3 z Z := by
  unfold s0 at pz
  unfold s0
  intro hR
  have BS := fx_iW hR
  have hn := fx_iN hR
  obtain rfl : v5 = v8 := by rw [e5, e8]
  obtain rfl : v6 = v9 := by rw [e6, e9]
  have hL := fx_l_next hR p1 p2
  obtain ⟨q1, f1, p1⟩ := p1
  have z1 : S1.2.2 = S.2.2 := by rw [q1]
  have r1 : ∀ p i : Int, S1.2.1 p i = S.2.1 p i := fun p i => by rw [q1]
  have BS1 : fx_WB S1 := fx_WB_eq BS (fun q => f1 67 q (by omega)) (fun q => f1 68 q (by omega)) (fun q => f1 69 q (by omega))
  unfold s6 at p2
  obtain ⟨q2, f2, BS2, p2⟩ := p2 BS1
  have z2 : S2.2.2 = S1.2.2 := by rw [q2]
  have r2 : ∀ p i : Int, S2.2.1 p i = S1.2.1 p i := fun p i => by rw [q2]
  have h_s : fx_Rs S2.1 := fx_Rs_eq (fx_iS hR) (fun p i hp => ((f2 p i (by omega))).trans ((f1 p i (by omega))))
  have h_d : fx_Rd S2.1 1 (S2.1 67) := hL.2.1
  have h_v : fx_Rv S2.1 1 (S2.1 67) := fx_Rv_eq BS.1 (fx_iRv hR) (((f2 2 0 (by omega))).trans ((f1 2 0 (by omega)))) (fun j i _ j0 j1 => ((f2 (1 + j) i (by omega))).trans ((f1 (1 + j) i (by omega)))) (fun i hi => ((f2 67 i (by omega))).trans ((f1 67 i (by omega))))
  have h_m : fx_Rm S2.1 1 (S2.1 67) := fx_Rm_eq BS.1 (fx_iRm hR) (((f2 2 4 (by omega))).trans ((f1 2 4 (by omega)))) (fun j i _ j0 j1 => ((f2 (1 + j) i (by omega))).trans ((f1 (1 + j) i (by omega)))) (fun i hi => ((f2 67 i (by omega))).trans ((f1 67 i (by omega))))
  have h_p : fx_Rp S2.1 1 (S2.1 67) := fx_Rp_eq BS.1 (fx_iRp hR) (fun j i _ j0 j1 => ((f2 (1 + j) i (by omega))).trans ((f1 (1 + j) i (by omega)))) (fun i hi => ((f2 67 i (by omega))).trans ((f1 67 i (by omega)))) (hL.2.2) (Int.le_of_eq (((f2 67 1 (by omega))).trans ((f1 67 1 (by omega)))).symm) (Int.le_of_eq (((f2 67 5 (by omega))).trans ((f1 67 5 (by omega)))).symm)
  have h_h : fx_Rh S2.1 1 (S2.1 67) := fx_Rh_eq BS.1 (fx_iRh hR) (fun j i _ j0 j1 => ((f2 (1 + j) i (by omega))).trans ((f1 (1 + j) i (by omega)))) (fun i hi => ((f2 67 i (by omega))).trans ((f1 67 i (by omega))))
  exact pz (fx_RI_step hR BS2 (fun k => ((r2 49 k)).trans ((r1 49 k))) (by omega) (fun p i p0 p1 => ((f2 p i (by omega))).trans ((f1 p i (by omega)))) (fun i => ((f2 68 i (by omega))).trans ((f1 68 i (by omega)))) (fun i => ((f2 69 i (by omega))).trans ((f1 69 i (by omega)))) h_s ⟨h_d, h_v, h_m, h_p, h_h⟩)
theorem q0_6 (X : (Int → Int) × Int) (S : fx_S) (x3 : Int) (hS : fx_Sok S) (g3 : -2147483648 ≤ x3 ∧ x3 ≤ 2147483647) (v1 : Int) (e1 : v1 = X.2) (b1 : 0 ≤ v1 ∧ v1 ≤ 3072) (v2 : Int) (e2 : v2 = fx_sub v1 6) (c1 : x3 ≤ v2) (v3 : Int) (e3 : v3 = X.1 x3) (b3 : -2147483648 ≤ v3 ∧ v3 ≤ 2147483647) (v4 : Int) (e4 : v4 = fx_and v3 63) (c2 : v4 = 3) (v5 : Int) (e5 : v5 = fx_add x3 1) (v6 : Int) (e6 : v6 = X.1 v5) (b6 : -2147483648 ≤ v6 ∧ v6 ≤ 2147483647) (v7 : Int) (e7 : v7 = fx_add x3 2) (v8 : Int) (e8 : v8 = X.1 v7) (b8 : -2147483648 ≤ v8 ∧ v8 ≤ 2147483647) (v9 : Int) (e9 : v9 = fx_add x3 3) (v10 : Int) (e10 : v10 = X.1 v9) (b10 : -2147483648 ≤ v10 ∧ v10 ≤ 2147483647) (v11 : Int) (S1 : fx_S) (k1 : fx_Sok S1) (b11 : -2147483648 ≤ v11 ∧ v11 ≤ 2147483647) (p1 : s7 S v6 v8 v10 v11 S1) (v12 : Int) (e12 : v12 = fx_add x3 1) (v13 : Int) (e13 : v13 = X.1 v12) (b13 : -2147483648 ≤ v13 ∧ v13 ≤ 2147483647) (v14 : Int) (e14 : v14 = fx_add x3 2) (v15 : Int) (e15 : v15 = X.1 v14) (b15 : -2147483648 ≤ v15 ∧ v15 ≤ 2147483647) (v16 : Int) (e16 : v16 = fx_add x3 3) (v17 : Int) (e17 : v17 = X.1 v16) (b17 : -2147483648 ≤ v17 ∧ v17 ≤ 2147483647) (v18 : Int) (S2 : fx_S) (k2 : fx_Sok S2) (b18 : -2147483648 ≤ v18 ∧ v18 ≤ 2147483647) (p2 : s8 S1 v13 v15 v17 v18 S2) (v19 : Int) (e19 : v19 = fx_add x3 6) (z : Int) (Z : fx_S) (kz : fx_Sok Z) (bz : -2147483648 ≤ z ∧ z ≤ 2147483647) (pz : s0 S2 v19 z Z) : s0 S x3 z Z := by
  unfold s0 at pz
  unfold s0
  intro hR
  have BS := fx_iW hR
  have hn := fx_iN hR
  obtain rfl : v5 = v12 := by rw [e5, e12]
  obtain rfl : v6 = v13 := by rw [e6, e13]
  obtain rfl : v7 = v14 := by rw [e7, e14]
  obtain rfl : v8 = v15 := by rw [e8, e15]
  obtain rfl : v9 = v16 := by rw [e9, e16]
  obtain rfl : v10 = v17 := by rw [e10, e17]
  have hL := fx_l_village hR p1 p2
  obtain ⟨q1, f1, p1⟩ := p1
  have z1 : S1.2.2 = S.2.2 := by rw [q1]
  have r1 : ∀ p i : Int, S1.2.1 p i = S.2.1 p i := fun p i => by rw [q1]
  have BS1 : fx_WB S1 := fx_WB_eq BS (fun q => f1 67 q (by omega)) (fun q => f1 68 q (by omega)) (fun q => f1 69 q (by omega))
  unfold s8 at p2
  obtain ⟨q2, f2, BS2, p2⟩ := p2 BS1
  have z2 : S2.2.2 = S1.2.2 := by rw [q2]
  have r2 : ∀ p i : Int, S2.2.1 p i = S1.2.1 p i := fun p i => by rw [q2]
  have h_s : fx_Rs S2.1 := fx_Rs_eq (fx_iS hR) (fun p i hp => ((f2 p i (by omega))).trans ((f1 p i (by omega))))
  have h_d : fx_Rd S2.1 1 (S2.1 67) := fx_Rd_eq (fx_iRd hR) (((f2 1 0 (by omega))).trans ((f1 1 0 (by omega)))) (((f2 67 0 (by omega))).trans ((f1 67 0 (by omega))))
  have h_v : fx_Rv S2.1 1 (S2.1 67) := hL.2.1
  have h_m : fx_Rm S2.1 1 (S2.1 67) := fx_Rm_eq BS.1 (fx_iRm hR) (((f2 2 4 (by omega))).trans ((f1 2 4 (by omega)))) (fun j i _ j0 j1 => ((f2 (1 + j) i (by omega))).trans ((f1 (1 + j) i (by omega)))) (fun i hi => ((f2 67 i (by omega))).trans ((f1 67 i (by omega))))
  have h_p : fx_Rp S2.1 1 (S2.1 67) := fx_Rp_eq BS.1 (fx_iRp hR) (fun j i _ j0 j1 => ((f2 (1 + j) i (by omega))).trans ((f1 (1 + j) i (by omega)))) (fun i hi => ((f2 67 i (by omega))).trans ((f1 67 i (by omega)))) (Int.le_of_eq (((f2 67 0 (by omega))).trans ((f1 67 0 (by omega)))).symm) (hL.2.2) (Int.le_of_eq (((f2 67 5 (by omega))).trans ((f1 67 5 (by omega)))).symm)
  have h_h : fx_Rh S2.1 1 (S2.1 67) := fx_Rh_eq BS.1 (fx_iRh hR) (fun j i _ j0 j1 => ((f2 (1 + j) i (by omega))).trans ((f1 (1 + j) i (by omega)))) (fun i hi => ((f2 67 i (by omega))).trans ((f1 67 i (by omega))))
  exact pz (fx_RI_step hR BS2 (fun k => ((r2 49 k)).trans ((r1 49 k))) (by omega) (fun p i p0 p1 => ((f2 p i (by omega))).trans ((f1 p i (by omega)))) (fun i => ((f2 68 i (by omega))).trans ((f1 68 i (by omega)))) (fun i => ((f2 69 i (by omega))).trans ((f1 69 i (by omega)))) h_s ⟨h_d, h_v, h_m, h_p, h_h⟩)
theorem q0_7 (X : (Int → Int) × Int) (S : fx_S) (x3 : Int) (hS : fx_Sok S) (g3 : -2147483648 ≤ x3 ∧ x3 ≤ 2147483647) (v1 : Int) (e1 : v1 = X.2) (b1 : 0 ≤ v1 ∧ v1 ≤ 3072) (v2 : Int) (e2 : v2 = fx_sub v1 6) (c1 : x3 ≤ v2) (v3 : Int) (e3 : v3 = X.1 x3) (b3 : -2147483648 ≤ v3 ∧ v3 ≤ 2147483647) (v4 : Int) (e4 : v4 = fx_and v3 63) (c2 : v4 = 4) (v5 : Int) (e5 : v5 = fx_add x3 1) (v6 : Int) (e6 : v6 = X.1 v5) (b6 : -2147483648 ≤ v6 ∧ v6 ≤ 2147483647) (v7 : Int) (e7 : v7 = fx_add x3 2) (v8 : Int) (e8 : v8 = X.1 v7) (b8 : -2147483648 ≤ v8 ∧ v8 ≤ 2147483647) (v9 : Int) (S1 : fx_S) (k1 : fx_Sok S1) (b9 : -2147483648 ≤ v9 ∧ v9 ≤ 2147483647) (p1 : s9 S v6 v8 v9 S1) (v10 : Int) (e10 : v10 = fx_add x3 1) (v11 : Int) (e11 : v11 = X.1 v10) (b11 : -2147483648 ≤ v11 ∧ v11 ≤ 2147483647) (v12 : Int) (e12 : v12 = fx_add x3 2) (v13 : Int) (e13 : v13 = X.1 v12) (b13 : -2147483648 ≤ v13 ∧ v13 ≤ 2147483647) (v14 : Int) (S2 : fx_S) (k2 : fx_Sok S2) (b14 : -2147483648 ≤ v14 ∧ v14 ≤ 2147483647) (p2 : s10 S1 v11 v13 v14 S2) (v15 : Int) (e15 : v15 = fx_add x3 6) (z : Int) (Z : fx_S) (kz : fx_Sok Z) (bz : -2147483648 ≤ z ∧ z ≤ 2147483647) (pz : s0 S2 v15 z Z) : s0 S x3 z Z := by
  unfold s0 at pz
  unfold s0
  intro hR
  have BS := fx_iW hR
  have hn := fx_iN hR
  obtain rfl : v5 = v10 := by rw [e5, e10]
  obtain rfl : v6 = v11 := by rw [e6, e11]
  obtain rfl : v7 = v12 := by rw [e7, e12]
  obtain rfl : v8 = v13 := by rw [e8, e13]
  have hL := fx_l_moved hR p1 p2
  obtain ⟨q1, f1, p1⟩ := p1
  have z1 : S1.2.2 = S.2.2 := by rw [q1]
  have r1 : ∀ p i : Int, S1.2.1 p i = S.2.1 p i := fun p i => by rw [q1]
  have BS1 : fx_WB S1 := fx_WB_eq BS (fun q => f1 67 q (by omega)) (fun q => f1 68 q (by omega)) (fun q => f1 69 q (by omega))
  unfold s10 at p2
  obtain ⟨q2, f2, BS2, p2⟩ := p2 BS1
  have z2 : S2.2.2 = S1.2.2 := by rw [q2]
  have r2 : ∀ p i : Int, S2.2.1 p i = S1.2.1 p i := fun p i => by rw [q2]
  have h_s : fx_Rs S2.1 := fx_Rs_eq (fx_iS hR) (fun p i hp => ((f2 p i (by omega))).trans ((f1 p i (by omega))))
  have h_d : fx_Rd S2.1 1 (S2.1 67) := fx_Rd_eq (fx_iRd hR) (((f2 1 0 (by omega))).trans ((f1 1 0 (by omega)))) (((f2 67 0 (by omega))).trans ((f1 67 0 (by omega))))
  have h_v : fx_Rv S2.1 1 (S2.1 67) := fx_Rv_eq BS.1 (fx_iRv hR) (((f2 2 0 (by omega))).trans ((f1 2 0 (by omega)))) (fun j i _ j0 j1 => ((f2 (1 + j) i (by omega))).trans ((f1 (1 + j) i (by omega)))) (fun i hi => ((f2 67 i (by omega))).trans ((f1 67 i (by omega))))
  have h_m : fx_Rm S2.1 1 (S2.1 67) := hL.2
  have h_p : fx_Rp S2.1 1 (S2.1 67) := fx_Rp_eq BS.1 (fx_iRp hR) (fun j i _ j0 j1 => ((f2 (1 + j) i (by omega))).trans ((f1 (1 + j) i (by omega)))) (fun i hi => ((f2 67 i (by omega))).trans ((f1 67 i (by omega)))) (Int.le_of_eq (((f2 67 0 (by omega))).trans ((f1 67 0 (by omega)))).symm) (Int.le_of_eq (((f2 67 1 (by omega))).trans ((f1 67 1 (by omega)))).symm) (Int.le_of_eq (((f2 67 5 (by omega))).trans ((f1 67 5 (by omega)))).symm)
  have h_h : fx_Rh S2.1 1 (S2.1 67) := fx_Rh_eq BS.1 (fx_iRh hR) (fun j i _ j0 j1 => ((f2 (1 + j) i (by omega))).trans ((f1 (1 + j) i (by omega)))) (fun i hi => ((f2 67 i (by omega))).trans ((f1 67 i (by omega))))
  exact pz (fx_RI_step hR BS2 (fun k => ((r2 49 k)).trans ((r1 49 k))) (by omega) (fun p i p0 p1 => ((f2 p i (by omega))).trans ((f1 p i (by omega)))) (fun i => ((f2 68 i (by omega))).trans ((f1 68 i (by omega)))) (fun i => ((f2 69 i (by omega))).trans ((f1 69 i (by omega)))) h_s ⟨h_d, h_v, h_m, h_p, h_h⟩)
theorem q0_8 (X : (Int → Int) × Int) (S : fx_S) (x3 : Int) (hS : fx_Sok S) (g3 : -2147483648 ≤ x3 ∧ x3 ≤ 2147483647) (v1 : Int) (e1 : v1 = X.2) (b1 : 0 ≤ v1 ∧ v1 ≤ 3072) (v2 : Int) (e2 : v2 = fx_sub v1 6) (c1 : x3 ≤ v2) (v3 : Int) (e3 : v3 = X.1 x3) (b3 : -2147483648 ≤ v3 ∧ v3 ≤ 2147483647) (v4 : Int) (e4 : v4 = fx_and v3 63) (c2 : v4 = 5) (v5 : Int) (e5 : v5 = fx_add x3 1) (v6 : Int) (e6 : v6 = X.1 v5) (b6 : -2147483648 ≤ v6 ∧ v6 ≤ 2147483647) (v7 : Int) (S1 : fx_S) (k1 : fx_Sok S1) (b7 : -2147483648 ≤ v7 ∧ v7 ≤ 2147483647) (p1 : s11 S v6 v7 S1) (v8 : Int) (e8 : v8 = fx_add x3 1) (v9 : Int) (e9 : v9 = X.1 v8) (b9 : -2147483648 ≤ v9 ∧ v9 ≤ 2147483647) (v10 : Int) (S2 : fx_S) (k2 : fx_Sok S2) (b10 : -2147483648 ≤ v10 ∧ v10 ≤ 2147483647) (p2 : s12 S1 v9 v10 S2) (v11 : Int) (e11 : v11 = fx_add x3 6) (z : Int) (Z : fx_S) (kz : fx_Sok Z) (bz : -2147483648 ≤ z ∧ z ≤ 2147483647) (pz : s0 S2 v11 z Z) : s0 S x3 z Z := by
  unfold s0 at pz
  unfold s0
  intro hR
  have BS := fx_iW hR
  have hn := fx_iN hR
  obtain rfl : v5 = v8 := by rw [e5, e8]
  obtain rfl : v6 = v9 := by rw [e6, e9]
  unfold s11 at p1
  obtain ⟨z1, r1, f1⟩ := p1
  have BS1 : fx_WB S1 := fx_WB_eq BS (fun q => f1 67 q (by omega)) (fun q => f1 68 q (by omega)) (fun q => f1 69 q (by omega))
  unfold s12 at p2
  obtain ⟨q2, f2, BS2⟩ := p2 BS1
  have z2 : S2.2.2 = S1.2.2 := by rw [q2]
  have r2 : ∀ p i : Int, S2.2.1 p i = S1.2.1 p i := fun p i => by rw [q2]
  have h_s : fx_Rs S2.1 := fx_Rs_eq (fx_iS hR) (fun p i hp => ((f2 p i (by omega))).trans ((f1 p i (by omega))))
  have h_d : fx_Rd S2.1 1 (S2.1 67) := fx_Rd_eq (fx_iRd hR) (((f2 1 0 (by omega))).trans ((f1 1 0 (by omega)))) (((f2 67 0 (by omega))).trans ((f1 67 0 (by omega))))
  have h_v : fx_Rv S2.1 1 (S2.1 67) := fx_Rv_eq BS.1 (fx_iRv hR) (((f2 2 0 (by omega))).trans ((f1 2 0 (by omega)))) (fun j i _ j0 j1 => ((f2 (1 + j) i (by omega))).trans ((f1 (1 + j) i (by omega)))) (fun i hi => ((f2 67 i (by omega))).trans ((f1 67 i (by omega))))
  have h_m : fx_Rm S2.1 1 (S2.1 67) := fx_Rm_eq BS.1 (fx_iRm hR) (((f2 2 4 (by omega))).trans ((f1 2 4 (by omega)))) (fun j i _ j0 j1 => ((f2 (1 + j) i (by omega))).trans ((f1 (1 + j) i (by omega)))) (fun i hi => ((f2 67 i (by omega))).trans ((f1 67 i (by omega))))
  have h_p : fx_Rp S2.1 1 (S2.1 67) := fx_Rp_eq BS.1 (fx_iRp hR) (fun j i _ j0 j1 => ((f2 (1 + j) i (by omega))).trans ((f1 (1 + j) i (by omega)))) (fun i hi => ((f2 67 i (by omega))).trans ((f1 67 i (by omega)))) (Int.le_of_eq (((f2 67 0 (by omega))).trans ((f1 67 0 (by omega)))).symm) (Int.le_of_eq (((f2 67 1 (by omega))).trans ((f1 67 1 (by omega)))).symm) (Int.le_of_eq (((f2 67 5 (by omega))).trans ((f1 67 5 (by omega)))).symm)
  have h_h : fx_Rh S2.1 1 (S2.1 67) := fx_Rh_eq BS.1 (fx_iRh hR) (fun j i _ j0 j1 => ((f2 (1 + j) i (by omega))).trans ((f1 (1 + j) i (by omega)))) (fun i hi => ((f2 67 i (by omega))).trans ((f1 67 i (by omega))))
  exact pz (fx_RI_step hR BS2 (fun k => ((r2 49 k)).trans ((r1 49 k (by omega)))) (by omega) (fun p i p0 p1 => ((f2 p i (by omega))).trans ((f1 p i (by omega)))) (fun i => ((f2 68 i (by omega))).trans ((f1 68 i (by omega)))) (fun i => ((f2 69 i (by omega))).trans ((f1 69 i (by omega)))) h_s ⟨h_d, h_v, h_m, h_p, h_h⟩)
theorem q0_9 (X : (Int → Int) × Int) (S : fx_S) (x3 : Int) (hS : fx_Sok S) (g3 : -2147483648 ≤ x3 ∧ x3 ≤ 2147483647) (v1 : Int) (e1 : v1 = X.2) (b1 : 0 ≤ v1 ∧ v1 ≤ 3072) (v2 : Int) (e2 : v2 = fx_sub v1 6) (c1 : x3 ≤ v2) (v3 : Int) (e3 : v3 = X.1 x3) (b3 : -2147483648 ≤ v3 ∧ v3 ≤ 2147483647) (v4 : Int) (e4 : v4 = fx_and v3 63) (c2 : v4 = 6) (v5 : Int) (e5 : v5 = fx_add x3 1) (v6 : Int) (e6 : v6 = X.1 v5) (b6 : -2147483648 ≤ v6 ∧ v6 ≤ 2147483647) (v7 : Int) (S1 : fx_S) (k1 : fx_Sok S1) (b7 : -2147483648 ≤ v7 ∧ v7 ≤ 2147483647) (p1 : s13 S v6 v7 S1) (v8 : Int) (e8 : v8 = fx_add x3 1) (v9 : Int) (e9 : v9 = X.1 v8) (b9 : -2147483648 ≤ v9 ∧ v9 ≤ 2147483647) (v10 : Int) (S2 : fx_S) (k2 : fx_Sok S2) (b10 : -2147483648 ≤ v10 ∧ v10 ≤ 2147483647) (p2 : s14 S1 v9 v10 S2) (v11 : Int) (e11 : v11 = fx_add x3 6) (z : Int) (Z : fx_S) (kz : fx_Sok Z) (bz : -2147483648 ≤ z ∧ z ≤ 2147483647) (pz : s0 S2 v11 z Z) : s0 S x3 z Z := by
  unfold s0 at pz
  unfold s0
  intro hR
  have BS := fx_iW hR
  have hn := fx_iN hR
  obtain rfl : v5 = v8 := by rw [e5, e8]
  obtain rfl : v6 = v9 := by rw [e6, e9]
  obtain rfl : S = S1 := p1
  obtain rfl : S = S2 := p2
  exact pz hR
theorem q0_10 (X : (Int → Int) × Int) (S : fx_S) (x3 : Int) (hS : fx_Sok S) (g3 : -2147483648 ≤ x3 ∧ x3 ≤ 2147483647) (v1 : Int) (e1 : v1 = X.2) (b1 : 0 ≤ v1 ∧ v1 ≤ 3072) (v2 : Int) (e2 : v2 = fx_sub v1 6) (c1 : x3 ≤ v2) (v3 : Int) (e3 : v3 = X.1 x3) (b3 : -2147483648 ≤ v3 ∧ v3 ≤ 2147483647) (v4 : Int) (e4 : v4 = fx_and v3 63) (c2 : v4 = 7) (v5 : Int) (e5 : v5 = fx_add x3 1) (v6 : Int) (e6 : v6 = X.1 v5) (b6 : -2147483648 ≤ v6 ∧ v6 ≤ 2147483647) (v7 : Int) (e7 : v7 = fx_add x3 2) (v8 : Int) (e8 : v8 = X.1 v7) (b8 : -2147483648 ≤ v8 ∧ v8 ≤ 2147483647) (v9 : Int) (S1 : fx_S) (k1 : fx_Sok S1) (b9 : -2147483648 ≤ v9 ∧ v9 ≤ 2147483647) (p1 : s15 S v6 v8 v9 S1) (v10 : Int) (e10 : v10 = fx_add x3 1) (v11 : Int) (e11 : v11 = X.1 v10) (b11 : -2147483648 ≤ v11 ∧ v11 ≤ 2147483647) (v12 : Int) (e12 : v12 = fx_add x3 2) (v13 : Int) (e13 : v13 = X.1 v12) (b13 : -2147483648 ≤ v13 ∧ v13 ≤ 2147483647) (v14 : Int) (S2 : fx_S) (k2 : fx_Sok S2) (b14 : -2147483648 ≤ v14 ∧ v14 ≤ 2147483647) (p2 : s16 S1 v11 v13 v14 S2) (v15 : Int) (e15 : v15 = fx_add x3 6) (z : Int) (Z : fx_S) (kz : fx_Sok Z) (bz : -2147483648 ≤ z ∧ z ≤ 2147483647) (pz : s0 S2 v15 z Z) : s0 S x3 z Z := by
  unfold s0 at pz
  unfold s0
  intro hR
  have BS := fx_iW hR
  have hn := fx_iN hR
  obtain rfl : v5 = v10 := by rw [e5, e10]
  obtain rfl : v6 = v11 := by rw [e6, e11]
  obtain rfl : v7 = v12 := by rw [e7, e12]
  obtain rfl : v8 = v13 := by rw [e8, e13]
  obtain rfl : S = S1 := p1
  obtain rfl : S = S2 := p2
  exact pz hR
theorem q0_11 (X : (Int → Int) × Int) (S : fx_S) (x3 : Int) (hS : fx_Sok S) (g3 : -2147483648 ≤ x3 ∧ x3 ≤ 2147483647) (v1 : Int) (e1 : v1 = X.2) (b1 : 0 ≤ v1 ∧ v1 ≤ 3072) (v2 : Int) (e2 : v2 = fx_sub v1 6) (c1 : x3 ≤ v2) (v3 : Int) (e3 : v3 = X.1 x3) (b3 : -2147483648 ≤ v3 ∧ v3 ≤ 2147483647) (v4 : Int) (e4 : v4 = fx_and v3 63) (c2 : v4 = 8) (v5 : Int) (e5 : v5 = fx_add x3 1) (v6 : Int) (e6 : v6 = X.1 v5) (b6 : -2147483648 ≤ v6 ∧ v6 ≤ 2147483647) (v7 : Int) (e7 : v7 = fx_add x3 2) (v8 : Int) (e8 : v8 = X.1 v7) (b8 : -2147483648 ≤ v8 ∧ v8 ≤ 2147483647) (v9 : Int) (e9 : v9 = fx_add x3 3) (v10 : Int) (e10 : v10 = X.1 v9) (b10 : -2147483648 ≤ v10 ∧ v10 ≤ 2147483647) (v11 : Int) (S1 : fx_S) (k1 : fx_Sok S1) (b11 : -2147483648 ≤ v11 ∧ v11 ≤ 2147483647) (p1 : s17 S v6 v8 v10 v11 S1) (v12 : Int) (e12 : v12 = fx_add x3 1) (v13 : Int) (e13 : v13 = X.1 v12) (b13 : -2147483648 ≤ v13 ∧ v13 ≤ 2147483647) (v14 : Int) (e14 : v14 = fx_add x3 2) (v15 : Int) (e15 : v15 = X.1 v14) (b15 : -2147483648 ≤ v15 ∧ v15 ≤ 2147483647) (v16 : Int) (e16 : v16 = fx_add x3 3) (v17 : Int) (e17 : v17 = X.1 v16) (b17 : -2147483648 ≤ v17 ∧ v17 ≤ 2147483647) (v18 : Int) (S2 : fx_S) (k2 : fx_Sok S2) (b18 : -2147483648 ≤ v18 ∧ v18 ≤ 2147483647) (p2 : s18 S1 v13 v15 v17 v18 S2) (v19 : Int) (e19 : v19 = fx_add x3 6) (z : Int) (Z : fx_S) (kz : fx_Sok Z) (bz : -2147483648 ≤ z ∧ z ≤ 2147483647) (pz : s0 S2 v19 z Z) : s0 S x3 z Z := by
  unfold s0 at pz
  unfold s0
  intro hR
  have BS := fx_iW hR
  have hn := fx_iN hR
  obtain rfl : v5 = v12 := by rw [e5, e12]
  obtain rfl : v6 = v13 := by rw [e6, e13]
  obtain rfl : v7 = v14 := by rw [e7, e14]
  obtain rfl : v8 = v15 := by rw [e8, e15]
  obtain rfl : v9 = v16 := by rw [e9, e16]
  obtain rfl : v10 = v17 := by rw [e10, e17]
  obtain rfl : S = S1 := p1
  obtain ⟨q2, f2⟩ := p2
  have z2 : S2.2.2 = S.2.2 := by rw [q2]
  have r2 : ∀ p i : Int, S2.2.1 p i = S.2.1 p i := fun p i => by rw [q2]
  have BS2 : fx_WB S2 := fx_WB_eq BS (fun q => f2 67 q (by omega)) (fun q => f2 68 q (by omega)) (fun q => f2 69 q (by omega))
  have h_s : fx_Rs S2.1 := fx_Rs_eq (fx_iS hR) (fun p i hp => (f2 p i (by omega)))
  have h_d : fx_Rd S2.1 1 (S2.1 67) := fx_Rd_eq (fx_iRd hR) ((f2 1 0 (by omega))) ((f2 67 0 (by omega)))
  have h_v : fx_Rv S2.1 1 (S2.1 67) := fx_Rv_eq BS.1 (fx_iRv hR) ((f2 2 0 (by omega))) (fun j i _ j0 j1 => (f2 (1 + j) i (by omega))) (fun i hi => (f2 67 i (by omega)))
  have h_m : fx_Rm S2.1 1 (S2.1 67) := fx_Rm_eq BS.1 (fx_iRm hR) ((f2 2 4 (by omega))) (fun j i _ j0 j1 => (f2 (1 + j) i (by omega))) (fun i hi => (f2 67 i (by omega)))
  have h_p : fx_Rp S2.1 1 (S2.1 67) := fx_Rp_eq BS.1 (fx_iRp hR) (fun j i _ j0 j1 => (f2 (1 + j) i (by omega))) (fun i hi => (f2 67 i (by omega))) (Int.le_of_eq ((f2 67 0 (by omega))).symm) (Int.le_of_eq ((f2 67 1 (by omega))).symm) (Int.le_of_eq ((f2 67 5 (by omega))).symm)
  have h_h : fx_Rh S2.1 1 (S2.1 67) := fx_Rh_eq BS.1 (fx_iRh hR) (fun j i _ j0 j1 => (f2 (1 + j) i (by omega))) (fun i hi => (f2 67 i (by omega)))
  exact pz (fx_RI_step hR BS2 (fun k => (r2 49 k)) (by omega) (fun p i p0 p1 => (f2 p i (by omega))) (fun i => (f2 68 i (by omega))) (fun i => (f2 69 i (by omega))) h_s ⟨h_d, h_v, h_m, h_p, h_h⟩)
theorem q0_12 (X : (Int → Int) × Int) (S : fx_S) (x3 : Int) (hS : fx_Sok S) (g3 : -2147483648 ≤ x3 ∧ x3 ≤ 2147483647) (v1 : Int) (e1 : v1 = X.2) (b1 : 0 ≤ v1 ∧ v1 ≤ 3072) (v2 : Int) (e2 : v2 = fx_sub v1 6) (c1 : x3 ≤ v2) (v3 : Int) (e3 : v3 = X.1 x3) (b3 : -2147483648 ≤ v3 ∧ v3 ≤ 2147483647) (v4 : Int) (e4 : v4 = fx_and v3 63) (c2 : v4 = 9) (v5 : Int) (e5 : v5 = fx_add x3 1) (v6 : Int) (e6 : v6 = X.1 v5) (b6 : -2147483648 ≤ v6 ∧ v6 ≤ 2147483647) (v7 : Int) (e7 : v7 = fx_add x3 2) (v8 : Int) (e8 : v8 = X.1 v7) (b8 : -2147483648 ≤ v8 ∧ v8 ≤ 2147483647) (v9 : Int) (e9 : v9 = fx_add x3 3) (v10 : Int) (e10 : v10 = X.1 v9) (b10 : -2147483648 ≤ v10 ∧ v10 ≤ 2147483647) (v11 : Int) (S1 : fx_S) (k1 : fx_Sok S1) (b11 : -2147483648 ≤ v11 ∧ v11 ≤ 2147483647) (p1 : s19 S v6 v8 v10 v11 S1) (v12 : Int) (e12 : v12 = fx_add x3 1) (v13 : Int) (e13 : v13 = X.1 v12) (b13 : -2147483648 ≤ v13 ∧ v13 ≤ 2147483647) (v14 : Int) (e14 : v14 = fx_add x3 2) (v15 : Int) (e15 : v15 = X.1 v14) (b15 : -2147483648 ≤ v15 ∧ v15 ≤ 2147483647) (v16 : Int) (e16 : v16 = fx_add x3 3) (v17 : Int) (e17 : v17 = X.1 v16) (b17 : -2147483648 ≤ v17 ∧ v17 ≤ 2147483647) (v18 : Int) (S2 : fx_S) (k2 : fx_Sok S2) (b18 : -2147483648 ≤ v18 ∧ v18 ≤ 2147483647) (p2 : s20 S1 v13 v15 v17 v18 S2) (v19 : Int) (e19 : v19 = fx_add x3 6) (z : Int) (Z : fx_S) (kz : fx_Sok Z) (bz : -2147483648 ≤ z ∧ z ≤ 2147483647) (pz : s0 S2 v19 z Z) : s0 S x3 z Z := by
  unfold s0 at pz
  unfold s0
  intro hR
  have BS := fx_iW hR
  have hn := fx_iN hR
  obtain rfl : v5 = v12 := by rw [e5, e12]
  obtain rfl : v6 = v13 := by rw [e6, e13]
  obtain rfl : v7 = v14 := by rw [e7, e14]
  obtain rfl : v8 = v15 := by rw [e8, e15]
  obtain rfl : v9 = v16 := by rw [e9, e16]
  obtain rfl : v10 = v17 := by rw [e10, e17]
  obtain rfl : S = S1 := p1
  obtain ⟨q2, f2⟩ := p2
  have z2 : S2.2.2 = S.2.2 := by rw [q2]
  have r2 : ∀ p i : Int, S2.2.1 p i = S.2.1 p i := fun p i => by rw [q2]
  have BS2 : fx_WB S2 := fx_WB_eq BS (fun q => f2 67 q (by omega)) (fun q => f2 68 q (by omega)) (fun q => f2 69 q (by omega))
  have h_s : fx_Rs S2.1 := fx_Rs_eq (fx_iS hR) (fun p i hp => (f2 p i (by omega)))
  have h_d : fx_Rd S2.1 1 (S2.1 67) := fx_Rd_eq (fx_iRd hR) ((f2 1 0 (by omega))) ((f2 67 0 (by omega)))
  have h_v : fx_Rv S2.1 1 (S2.1 67) := fx_Rv_eq BS.1 (fx_iRv hR) ((f2 2 0 (by omega))) (fun j i _ j0 j1 => (f2 (1 + j) i (by omega))) (fun i hi => (f2 67 i (by omega)))
  have h_m : fx_Rm S2.1 1 (S2.1 67) := fx_Rm_eq BS.1 (fx_iRm hR) ((f2 2 4 (by omega))) (fun j i _ j0 j1 => (f2 (1 + j) i (by omega))) (fun i hi => (f2 67 i (by omega)))
  have h_p : fx_Rp S2.1 1 (S2.1 67) := fx_Rp_eq BS.1 (fx_iRp hR) (fun j i _ j0 j1 => (f2 (1 + j) i (by omega))) (fun i hi => (f2 67 i (by omega))) (Int.le_of_eq ((f2 67 0 (by omega))).symm) (Int.le_of_eq ((f2 67 1 (by omega))).symm) (Int.le_of_eq ((f2 67 5 (by omega))).symm)
  have h_h : fx_Rh S2.1 1 (S2.1 67) := fx_Rh_eq BS.1 (fx_iRh hR) (fun j i _ j0 j1 => (f2 (1 + j) i (by omega))) (fun i hi => (f2 67 i (by omega)))
  exact pz (fx_RI_step hR BS2 (fun k => (r2 49 k)) (by omega) (fun p i p0 p1 => (f2 p i (by omega))) (fun i => (f2 68 i (by omega))) (fun i => (f2 69 i (by omega))) h_s ⟨h_d, h_v, h_m, h_p, h_h⟩)
theorem q0_13 (X : (Int → Int) × Int) (S : fx_S) (x3 : Int) (hS : fx_Sok S) (g3 : -2147483648 ≤ x3 ∧ x3 ≤ 2147483647) (v1 : Int) (e1 : v1 = X.2) (b1 : 0 ≤ v1 ∧ v1 ≤ 3072) (v2 : Int) (e2 : v2 = fx_sub v1 6) (c1 : x3 ≤ v2) (v3 : Int) (e3 : v3 = X.1 x3) (b3 : -2147483648 ≤ v3 ∧ v3 ≤ 2147483647) (v4 : Int) (e4 : v4 = fx_and v3 63) (c2 : v4 = 10) (v5 : Int) (e5 : v5 = fx_add x3 1) (v6 : Int) (e6 : v6 = X.1 v5) (b6 : -2147483648 ≤ v6 ∧ v6 ≤ 2147483647) (v7 : Int) (S1 : fx_S) (k1 : fx_Sok S1) (b7 : -2147483648 ≤ v7 ∧ v7 ≤ 2147483647) (p1 : s21 S v6 v7 S1) (v8 : Int) (e8 : v8 = fx_add x3 1) (v9 : Int) (e9 : v9 = X.1 v8) (b9 : -2147483648 ≤ v9 ∧ v9 ≤ 2147483647) (v10 : Int) (S2 : fx_S) (k2 : fx_Sok S2) (b10 : -2147483648 ≤ v10 ∧ v10 ≤ 2147483647) (p2 : s22 S1 v9 v10 S2) (v11 : Int) (e11 : v11 = fx_add x3 6) (z : Int) (Z : fx_S) (kz : fx_Sok Z) (bz : -2147483648 ≤ z ∧ z ≤ 2147483647) (pz : s0 S2 v11 z Z) : s0 S x3 z Z := by
  unfold s0 at pz
  unfold s0
  intro hR
  have BS := fx_iW hR
  have hn := fx_iN hR
  obtain rfl : v5 = v8 := by rw [e5, e8]
  obtain rfl : v6 = v9 := by rw [e6, e9]
  obtain rfl : S = S1 := p1
  obtain ⟨q2, f2⟩ := p2
  have z2 : S2.2.2 = S.2.2 := by rw [q2]
  have r2 : ∀ p i : Int, S2.2.1 p i = S.2.1 p i := fun p i => by rw [q2]
  have BS2 : fx_WB S2 := fx_WB_eq BS (fun q => f2 67 q (by omega)) (fun q => f2 68 q (by omega)) (fun q => f2 69 q (by omega))
  have h_s : fx_Rs S2.1 := fx_Rs_eq (fx_iS hR) (fun p i hp => (f2 p i (by omega)))
  have h_d : fx_Rd S2.1 1 (S2.1 67) := fx_Rd_eq (fx_iRd hR) ((f2 1 0 (by omega))) ((f2 67 0 (by omega)))
  have h_v : fx_Rv S2.1 1 (S2.1 67) := fx_Rv_eq BS.1 (fx_iRv hR) ((f2 2 0 (by omega))) (fun j i _ j0 j1 => (f2 (1 + j) i (by omega))) (fun i hi => (f2 67 i (by omega)))
  have h_m : fx_Rm S2.1 1 (S2.1 67) := fx_Rm_eq BS.1 (fx_iRm hR) ((f2 2 4 (by omega))) (fun j i _ j0 j1 => (f2 (1 + j) i (by omega))) (fun i hi => (f2 67 i (by omega)))
  have h_p : fx_Rp S2.1 1 (S2.1 67) := fx_Rp_eq BS.1 (fx_iRp hR) (fun j i _ j0 j1 => (f2 (1 + j) i (by omega))) (fun i hi => (f2 67 i (by omega))) (Int.le_of_eq ((f2 67 0 (by omega))).symm) (Int.le_of_eq ((f2 67 1 (by omega))).symm) (Int.le_of_eq ((f2 67 5 (by omega))).symm)
  have h_h : fx_Rh S2.1 1 (S2.1 67) := fx_Rh_eq BS.1 (fx_iRh hR) (fun j i _ j0 j1 => (f2 (1 + j) i (by omega))) (fun i hi => (f2 67 i (by omega)))
  exact pz (fx_RI_step hR BS2 (fun k => (r2 49 k)) (by omega) (fun p i p0 p1 => (f2 p i (by omega))) (fun i => (f2 68 i (by omega))) (fun i => (f2 69 i (by omega))) h_s ⟨h_d, h_v, h_m, h_p, h_h⟩)
theorem q0_14 (X : (Int → Int) × Int) (S : fx_S) (x3 : Int) (hS : fx_Sok S) (g3 : -2147483648 ≤ x3 ∧ x3 ≤ 2147483647) (v1 : Int) (e1 : v1 = X.2) (b1 : 0 ≤ v1 ∧ v1 ≤ 3072) (v2 : Int) (e2 : v2 = fx_sub v1 6) (c1 : x3 ≤ v2) (v3 : Int) (e3 : v3 = X.1 x3) (b3 : -2147483648 ≤ v3 ∧ v3 ≤ 2147483647) (v4 : Int) (e4 : v4 = fx_and v3 63) (c2 : v4 = 11) (v5 : Int) (e5 : v5 = fx_add x3 1) (v6 : Int) (e6 : v6 = X.1 v5) (b6 : -2147483648 ≤ v6 ∧ v6 ≤ 2147483647) (v7 : Int) (e7 : v7 = fx_add x3 2) (v8 : Int) (e8 : v8 = X.1 v7) (b8 : -2147483648 ≤ v8 ∧ v8 ≤ 2147483647) (v9 : Int) (S1 : fx_S) (k1 : fx_Sok S1) (b9 : -2147483648 ≤ v9 ∧ v9 ≤ 2147483647) (p1 : s23 S v6 v8 v9 S1) (v10 : Int) (e10 : v10 = fx_add x3 1) (v11 : Int) (e11 : v11 = X.1 v10) (b11 : -2147483648 ≤ v11 ∧ v11 ≤ 2147483647) (v12 : Int) (e12 : v12 = fx_add x3 2) (v13 : Int) (e13 : v13 = X.1 v12) (b13 : -2147483648 ≤ v13 ∧ v13 ≤ 2147483647) (v14 : Int) (S2 : fx_S) (k2 : fx_Sok S2) (b14 : -2147483648 ≤ v14 ∧ v14 ≤ 2147483647) (p2 : s24 S1 v11 v13 v14 S2) (v15 : Int) (e15 : v15 = fx_add x3 6) (z : Int) (Z : fx_S) (kz : fx_Sok Z) (bz : -2147483648 ≤ z ∧ z ≤ 2147483647) (pz : s0 S2 v15 z Z) : s0 S x3 z Z := by
  unfold s0 at pz
  unfold s0
  intro hR
  have BS := fx_iW hR
  have hn := fx_iN hR
  obtain rfl : v5 = v10 := by rw [e5, e10]
  obtain rfl : v6 = v11 := by rw [e6, e11]
  obtain rfl : v7 = v12 := by rw [e7, e12]
  obtain rfl : v8 = v13 := by rw [e8, e13]
  have hL := fx_l_oath hR p1 p2
  obtain ⟨q1, f1, p1⟩ := p1
  have z1 : S1.2.2 = S.2.2 := by rw [q1]
  have r1 : ∀ p i : Int, S1.2.1 p i = S.2.1 p i := fun p i => by rw [q1]
  have BS1 : fx_WB S1 := fx_WB_eq BS (fun q => f1 67 q (by omega)) (fun q => f1 68 q (by omega)) (fun q => f1 69 q (by omega))
  unfold s24 at p2
  obtain ⟨q2, f2, BS2, p2⟩ := p2 BS1
  have z2 : S2.2.2 = S1.2.2 := by rw [q2]
  have r2 : ∀ p i : Int, S2.2.1 p i = S1.2.1 p i := fun p i => by rw [q2]
  have h_s : fx_Rs S2.1 := fx_Rs_eq (fx_iS hR) (fun p i hp => ((f2 p i (by omega))).trans ((f1 p i (by omega))))
  have h_d : fx_Rd S2.1 1 (S2.1 67) := fx_Rd_eq (fx_iRd hR) (((f2 1 0 (by omega))).trans ((f1 1 0 (by omega)))) (((f2 67 0 (by omega))).trans ((f1 67 0 (by omega))))
  have h_v : fx_Rv S2.1 1 (S2.1 67) := fx_Rv_eq BS.1 (fx_iRv hR) (((f2 2 0 (by omega))).trans ((f1 2 0 (by omega)))) (fun j i _ j0 j1 => ((f2 (1 + j) i (by omega))).trans ((f1 (1 + j) i (by omega)))) (fun i hi => ((f2 67 i (by omega))).trans ((f1 67 i (by omega))))
  have h_m : fx_Rm S2.1 1 (S2.1 67) := fx_Rm_eq BS.1 (fx_iRm hR) (((f2 2 4 (by omega))).trans ((f1 2 4 (by omega)))) (fun j i _ j0 j1 => ((f2 (1 + j) i (by omega))).trans ((f1 (1 + j) i (by omega)))) (fun i hi => ((f2 67 i (by omega))).trans ((f1 67 i (by omega))))
  have h_p : fx_Rp S2.1 1 (S2.1 67) := hL.2
  have h_h : fx_Rh S2.1 1 (S2.1 67) := fx_Rh_eq BS.1 (fx_iRh hR) (fun j i _ j0 j1 => ((f2 (1 + j) i (by omega))).trans ((f1 (1 + j) i (by omega)))) (fun i hi => ((f2 67 i (by omega))).trans ((f1 67 i (by omega))))
  exact pz (fx_RI_step hR BS2 (fun k => ((r2 49 k)).trans ((r1 49 k))) (by omega) (fun p i p0 p1 => ((f2 p i (by omega))).trans ((f1 p i (by omega)))) (fun i => ((f2 68 i (by omega))).trans ((f1 68 i (by omega)))) (fun i => ((f2 69 i (by omega))).trans ((f1 69 i (by omega)))) h_s ⟨h_d, h_v, h_m, h_p, h_h⟩)
theorem q0_15 (X : (Int → Int) × Int) (S : fx_S) (x3 : Int) (hS : fx_Sok S) (g3 : -2147483648 ≤ x3 ∧ x3 ≤ 2147483647) (v1 : Int) (e1 : v1 = X.2) (b1 : 0 ≤ v1 ∧ v1 ≤ 3072) (v2 : Int) (e2 : v2 = fx_sub v1 6) (c1 : x3 ≤ v2) (v3 : Int) (e3 : v3 = X.1 x3) (b3 : -2147483648 ≤ v3 ∧ v3 ≤ 2147483647) (v4 : Int) (e4 : v4 = fx_and v3 63) (c2 : v4 = 12) (v5 : Int) (e5 : v5 = fx_add x3 1) (v6 : Int) (e6 : v6 = X.1 v5) (b6 : -2147483648 ≤ v6 ∧ v6 ≤ 2147483647) (v7 : Int) (S1 : fx_S) (k1 : fx_Sok S1) (b7 : -2147483648 ≤ v7 ∧ v7 ≤ 2147483647) (p1 : s25 S v6 v7 S1) (v8 : Int) (e8 : v8 = fx_add x3 1) (v9 : Int) (e9 : v9 = X.1 v8) (b9 : -2147483648 ≤ v9 ∧ v9 ≤ 2147483647) (v10 : Int) (S2 : fx_S) (k2 : fx_Sok S2) (b10 : -2147483648 ≤ v10 ∧ v10 ≤ 2147483647) (p2 : s26 S1 v9 v10 S2) (v11 : Int) (e11 : v11 = fx_add x3 6) (z : Int) (Z : fx_S) (kz : fx_Sok Z) (bz : -2147483648 ≤ z ∧ z ≤ 2147483647) (pz : s0 S2 v11 z Z) : s0 S x3 z Z := by
  unfold s0 at pz
  unfold s0
  intro hR
  have BS := fx_iW hR
  have hn := fx_iN hR
  obtain rfl : v5 = v8 := by rw [e5, e8]
  obtain rfl : v6 = v9 := by rw [e6, e9]
  have hL := fx_l_oaths hR p1 p2
  obtain ⟨q1, f1, p1⟩ := p1
  have z1 : S1.2.2 = S.2.2 := by rw [q1]
  have r1 : ∀ p i : Int, S1.2.1 p i = S.2.1 p i := fun p i => by rw [q1]
  have BS1 : fx_WB S1 := fx_WB_eq BS (fun q => f1 67 q (by omega)) (fun q => f1 68 q (by omega)) (fun q => f1 69 q (by omega))
  unfold s26 at p2
  obtain ⟨q2, f2, BS2, p2⟩ := p2 BS1
  have z2 : S2.2.2 = S1.2.2 := by rw [q2]
  have r2 : ∀ p i : Int, S2.2.1 p i = S1.2.1 p i := fun p i => by rw [q2]
  have h_s : fx_Rs S2.1 := fx_Rs_eq (fx_iS hR) (fun p i hp => ((f2 p i (by omega))).trans ((f1 p i (by omega))))
  have h_d : fx_Rd S2.1 1 (S2.1 67) := fx_Rd_eq (fx_iRd hR) (((f2 1 0 (by omega))).trans ((f1 1 0 (by omega)))) (((f2 67 0 (by omega))).trans ((f1 67 0 (by omega))))
  have h_v : fx_Rv S2.1 1 (S2.1 67) := fx_Rv_eq BS.1 (fx_iRv hR) (((f2 2 0 (by omega))).trans ((f1 2 0 (by omega)))) (fun j i _ j0 j1 => ((f2 (1 + j) i (by omega))).trans ((f1 (1 + j) i (by omega)))) (fun i hi => ((f2 67 i (by omega))).trans ((f1 67 i (by omega))))
  have h_m : fx_Rm S2.1 1 (S2.1 67) := fx_Rm_eq BS.1 (fx_iRm hR) (((f2 2 4 (by omega))).trans ((f1 2 4 (by omega)))) (fun j i _ j0 j1 => ((f2 (1 + j) i (by omega))).trans ((f1 (1 + j) i (by omega)))) (fun i hi => ((f2 67 i (by omega))).trans ((f1 67 i (by omega))))
  have h_p : fx_Rp S2.1 1 (S2.1 67) := hL.2
  have h_h : fx_Rh S2.1 1 (S2.1 67) := fx_Rh_eq BS.1 (fx_iRh hR) (fun j i _ j0 j1 => ((f2 (1 + j) i (by omega))).trans ((f1 (1 + j) i (by omega)))) (fun i hi => ((f2 67 i (by omega))).trans ((f1 67 i (by omega))))
  exact pz (fx_RI_step hR BS2 (fun k => ((r2 49 k)).trans ((r1 49 k))) (by omega) (fun p i p0 p1 => ((f2 p i (by omega))).trans ((f1 p i (by omega)))) (fun i => ((f2 68 i (by omega))).trans ((f1 68 i (by omega)))) (fun i => ((f2 69 i (by omega))).trans ((f1 69 i (by omega)))) h_s ⟨h_d, h_v, h_m, h_p, h_h⟩)
theorem q0_16 (X : (Int → Int) × Int) (S : fx_S) (x3 : Int) (hS : fx_Sok S) (g3 : -2147483648 ≤ x3 ∧ x3 ≤ 2147483647) (v1 : Int) (e1 : v1 = X.2) (b1 : 0 ≤ v1 ∧ v1 ≤ 3072) (v2 : Int) (e2 : v2 = fx_sub v1 6) (c1 : x3 ≤ v2) (v3 : Int) (e3 : v3 = X.1 x3) (b3 : -2147483648 ≤ v3 ∧ v3 ≤ 2147483647) (v4 : Int) (e4 : v4 = fx_and v3 63) (c2 : v4 = 13) (v5 : Int) (e5 : v5 = fx_add x3 1) (v6 : Int) (e6 : v6 = X.1 v5) (b6 : -2147483648 ≤ v6 ∧ v6 ≤ 2147483647) (v7 : Int) (S1 : fx_S) (k1 : fx_Sok S1) (b7 : -2147483648 ≤ v7 ∧ v7 ≤ 2147483647) (p1 : s27 S v6 v7 S1) (v8 : Int) (e8 : v8 = fx_add x3 1) (v9 : Int) (e9 : v9 = X.1 v8) (b9 : -2147483648 ≤ v9 ∧ v9 ≤ 2147483647) (v10 : Int) (S2 : fx_S) (k2 : fx_Sok S2) (b10 : -2147483648 ≤ v10 ∧ v10 ≤ 2147483647) (p2 : s28 S1 v9 v10 S2) (v11 : Int) (e11 : v11 = fx_add x3 6) (z : Int) (Z : fx_S) (kz : fx_Sok Z) (bz : -2147483648 ≤ z ∧ z ≤ 2147483647) (pz : s0 S2 v11 z Z) : s0 S x3 z Z := by
  unfold s0 at pz
  unfold s0
  intro hR
  have BS := fx_iW hR
  have hn := fx_iN hR
  obtain rfl : v5 = v8 := by rw [e5, e8]
  obtain rfl : v6 = v9 := by rw [e6, e9]
  have hL := fx_l_leave hR p1 p2
  obtain ⟨q1, f1, p1⟩ := p1
  have z1 : S1.2.2 = S.2.2 := by rw [q1]
  have r1 : ∀ p i : Int, S1.2.1 p i = S.2.1 p i := fun p i => by rw [q1]
  have BS1 : fx_WB S1 := fx_WB_eq BS (fun q => f1 67 q (by omega)) (fun q => f1 68 q (by omega)) (fun q => f1 69 q (by omega))
  unfold s28 at p2
  obtain ⟨q2, f2, BS2, p2⟩ := p2 BS1
  have z2 : S2.2.2 = S1.2.2 := by rw [q2]
  have r2 : ∀ p i : Int, S2.2.1 p i = S1.2.1 p i := fun p i => by rw [q2]
  have h_s : fx_Rs S2.1 := fx_Rs_eq (fx_iS hR) (fun p i hp => ((f2 p i (by omega))).trans ((f1 p i (by omega))))
  have h_d : fx_Rd S2.1 1 (S2.1 67) := fx_Rd_eq (fx_iRd hR) (((f2 1 0 (by omega))).trans ((f1 1 0 (by omega)))) (((f2 67 0 (by omega))).trans ((f1 67 0 (by omega))))
  have h_v : fx_Rv S2.1 1 (S2.1 67) := fx_Rv_eq BS.1 (fx_iRv hR) (((f2 2 0 (by omega))).trans ((f1 2 0 (by omega)))) (fun j i _ j0 j1 => ((f2 (1 + j) i (by omega))).trans ((f1 (1 + j) i (by omega)))) (fun i hi => ((f2 67 i (by omega))).trans ((f1 67 i (by omega))))
  have h_m : fx_Rm S2.1 1 (S2.1 67) := fx_Rm_eq BS.1 (fx_iRm hR) (((f2 2 4 (by omega))).trans ((f1 2 4 (by omega)))) (fun j i _ j0 j1 => ((f2 (1 + j) i (by omega))).trans ((f1 (1 + j) i (by omega)))) (fun i hi => ((f2 67 i (by omega))).trans ((f1 67 i (by omega))))
  have h_p : fx_Rp S2.1 1 (S2.1 67) := hL.2
  have h_h : fx_Rh S2.1 1 (S2.1 67) := fx_Rh_eq BS.1 (fx_iRh hR) (fun j i _ j0 j1 => ((f2 (1 + j) i (by omega))).trans ((f1 (1 + j) i (by omega)))) (fun i hi => ((f2 67 i (by omega))).trans ((f1 67 i (by omega))))
  exact pz (fx_RI_step hR BS2 (fun k => ((r2 49 k)).trans ((r1 49 k))) (by omega) (fun p i p0 p1 => ((f2 p i (by omega))).trans ((f1 p i (by omega)))) (fun i => ((f2 68 i (by omega))).trans ((f1 68 i (by omega)))) (fun i => ((f2 69 i (by omega))).trans ((f1 69 i (by omega)))) h_s ⟨h_d, h_v, h_m, h_p, h_h⟩)
theorem q0_17 (X : (Int → Int) × Int) (S : fx_S) (x3 : Int) (hS : fx_Sok S) (g3 : -2147483648 ≤ x3 ∧ x3 ≤ 2147483647) (v1 : Int) (e1 : v1 = X.2) (b1 : 0 ≤ v1 ∧ v1 ≤ 3072) (v2 : Int) (e2 : v2 = fx_sub v1 6) (c1 : x3 ≤ v2) (v3 : Int) (e3 : v3 = X.1 x3) (b3 : -2147483648 ≤ v3 ∧ v3 ≤ 2147483647) (v4 : Int) (e4 : v4 = fx_and v3 63) (c2 : v4 = 14) (v5 : Int) (e5 : v5 = fx_add x3 1) (v6 : Int) (e6 : v6 = X.1 v5) (b6 : -2147483648 ≤ v6 ∧ v6 ≤ 2147483647) (v7 : Int) (e7 : v7 = fx_add x3 2) (v8 : Int) (e8 : v8 = X.1 v7) (b8 : -2147483648 ≤ v8 ∧ v8 ≤ 2147483647) (v9 : Int) (S1 : fx_S) (k1 : fx_Sok S1) (b9 : -2147483648 ≤ v9 ∧ v9 ≤ 2147483647) (p1 : s29 S v6 v8 v9 S1) (v10 : Int) (e10 : v10 = fx_add x3 1) (v11 : Int) (e11 : v11 = X.1 v10) (b11 : -2147483648 ≤ v11 ∧ v11 ≤ 2147483647) (v12 : Int) (e12 : v12 = fx_add x3 2) (v13 : Int) (e13 : v13 = X.1 v12) (b13 : -2147483648 ≤ v13 ∧ v13 ≤ 2147483647) (v14 : Int) (S2 : fx_S) (k2 : fx_Sok S2) (b14 : -2147483648 ≤ v14 ∧ v14 ≤ 2147483647) (p2 : s30 S1 v11 v13 v14 S2) (v15 : Int) (e15 : v15 = fx_add x3 6) (z : Int) (Z : fx_S) (kz : fx_Sok Z) (bz : -2147483648 ≤ z ∧ z ≤ 2147483647) (pz : s0 S2 v15 z Z) : s0 S x3 z Z := by
  unfold s0 at pz
  unfold s0
  intro hR
  have BS := fx_iW hR
  have hn := fx_iN hR
  obtain rfl : v5 = v10 := by rw [e5, e10]
  obtain rfl : v6 = v11 := by rw [e6, e11]
  obtain rfl : v7 = v12 := by rw [e7, e12]
  obtain rfl : v8 = v13 := by rw [e8, e13]
  have hL := fx_l_personOf hR p1 p2
  obtain ⟨rfl, p1⟩ := p1
  obtain ⟨rfl, p2⟩ := p2
  exact pz hR
theorem q0_18 (X : (Int → Int) × Int) (S : fx_S) (x3 : Int) (hS : fx_Sok S) (g3 : -2147483648 ≤ x3 ∧ x3 ≤ 2147483647) (v1 : Int) (e1 : v1 = X.2) (b1 : 0 ≤ v1 ∧ v1 ≤ 3072) (v2 : Int) (e2 : v2 = fx_sub v1 6) (c1 : x3 ≤ v2) (v3 : Int) (e3 : v3 = X.1 x3) (b3 : -2147483648 ≤ v3 ∧ v3 ≤ 2147483647) (v4 : Int) (e4 : v4 = fx_and v3 63) (c2 : v4 = 15) (v5 : Int) (e5 : v5 = fx_add x3 1) (v6 : Int) (e6 : v6 = X.1 v5) (b6 : -2147483648 ≤ v6 ∧ v6 ≤ 2147483647) (v7 : Int) (e7 : v7 = fx_add x3 2) (v8 : Int) (e8 : v8 = X.1 v7) (b8 : -2147483648 ≤ v8 ∧ v8 ≤ 2147483647) (v9 : Int) (S1 : fx_S) (k1 : fx_Sok S1) (b9 : -2147483648 ≤ v9 ∧ v9 ≤ 2147483647) (p1 : s31 S v6 v8 v9 S1) (v10 : Int) (e10 : v10 = fx_add x3 1) (v11 : Int) (e11 : v11 = X.1 v10) (b11 : -2147483648 ≤ v11 ∧ v11 ≤ 2147483647) (v12 : Int) (e12 : v12 = fx_add x3 2) (v13 : Int) (e13 : v13 = X.1 v12) (b13 : -2147483648 ≤ v13 ∧ v13 ≤ 2147483647) (v14 : Int) (S2 : fx_S) (k2 : fx_Sok S2) (b14 : -2147483648 ≤ v14 ∧ v14 ≤ 2147483647) (p2 : s32 S1 v11 v13 v14 S2) (v15 : Int) (e15 : v15 = fx_add x3 6) (z : Int) (Z : fx_S) (kz : fx_Sok Z) (bz : -2147483648 ≤ z ∧ z ≤ 2147483647) (pz : s0 S2 v15 z Z) : s0 S x3 z Z := by
  unfold s0 at pz
  unfold s0
  intro hR
  have BS := fx_iW hR
  have hn := fx_iN hR
  obtain rfl : v5 = v10 := by rw [e5, e10]
  obtain rfl : v6 = v11 := by rw [e6, e11]
  obtain rfl : v7 = v12 := by rw [e7, e12]
  obtain rfl : v8 = v13 := by rw [e8, e13]
  obtain rfl : S = S1 := p1
  obtain ⟨q2, f2⟩ := p2
  have z2 : S2.2.2 = S.2.2 := by rw [q2]
  have r2 : ∀ p i : Int, S2.2.1 p i = S.2.1 p i := fun p i => by rw [q2]
  have BS2 : fx_WB S2 := fx_WB_eq BS (fun q => f2 67 q (by omega)) (fun q => f2 68 q (by omega)) (fun q => f2 69 q (by omega))
  have h_s : fx_Rs S2.1 := fx_Rs_eq (fx_iS hR) (fun p i hp => (f2 p i (by omega)))
  have h_d : fx_Rd S2.1 1 (S2.1 67) := fx_Rd_eq (fx_iRd hR) ((f2 1 0 (by omega))) ((f2 67 0 (by omega)))
  have h_v : fx_Rv S2.1 1 (S2.1 67) := fx_Rv_eq BS.1 (fx_iRv hR) ((f2 2 0 (by omega))) (fun j i _ j0 j1 => (f2 (1 + j) i (by omega))) (fun i hi => (f2 67 i (by omega)))
  have h_m : fx_Rm S2.1 1 (S2.1 67) := fx_Rm_eq BS.1 (fx_iRm hR) ((f2 2 4 (by omega))) (fun j i _ j0 j1 => (f2 (1 + j) i (by omega))) (fun i hi => (f2 67 i (by omega)))
  have h_p : fx_Rp S2.1 1 (S2.1 67) := fx_Rp_eq BS.1 (fx_iRp hR) (fun j i _ j0 j1 => (f2 (1 + j) i (by omega))) (fun i hi => (f2 67 i (by omega))) (Int.le_of_eq ((f2 67 0 (by omega))).symm) (Int.le_of_eq ((f2 67 1 (by omega))).symm) (Int.le_of_eq ((f2 67 5 (by omega))).symm)
  have h_h : fx_Rh S2.1 1 (S2.1 67) := fx_Rh_eq BS.1 (fx_iRh hR) (fun j i _ j0 j1 => (f2 (1 + j) i (by omega))) (fun i hi => (f2 67 i (by omega)))
  exact pz (fx_RI_step hR BS2 (fun k => (r2 49 k)) (by omega) (fun p i p0 p1 => (f2 p i (by omega))) (fun i => (f2 68 i (by omega))) (fun i => (f2 69 i (by omega))) h_s ⟨h_d, h_v, h_m, h_p, h_h⟩)
theorem q0_19 (X : (Int → Int) × Int) (S : fx_S) (x3 : Int) (hS : fx_Sok S) (g3 : -2147483648 ≤ x3 ∧ x3 ≤ 2147483647) (v1 : Int) (e1 : v1 = X.2) (b1 : 0 ≤ v1 ∧ v1 ≤ 3072) (v2 : Int) (e2 : v2 = fx_sub v1 6) (c1 : x3 ≤ v2) (v3 : Int) (e3 : v3 = X.1 x3) (b3 : -2147483648 ≤ v3 ∧ v3 ≤ 2147483647) (v4 : Int) (e4 : v4 = fx_and v3 63) (c2 : v4 = 16) (v5 : Int) (e5 : v5 = fx_add x3 1) (v6 : Int) (e6 : v6 = X.1 v5) (b6 : -2147483648 ≤ v6 ∧ v6 ≤ 2147483647) (v7 : Int) (e7 : v7 = fx_add x3 2) (v8 : Int) (e8 : v8 = X.1 v7) (b8 : -2147483648 ≤ v8 ∧ v8 ≤ 2147483647) (v9 : Int) (e9 : v9 = fx_add x3 3) (v10 : Int) (e10 : v10 = X.1 v9) (b10 : -2147483648 ≤ v10 ∧ v10 ≤ 2147483647) (v11 : Int) (S1 : fx_S) (k1 : fx_Sok S1) (b11 : -2147483648 ≤ v11 ∧ v11 ≤ 2147483647) (p1 : s33 S v6 v8 v10 v11 S1) (v12 : Int) (e12 : v12 = fx_add x3 1) (v13 : Int) (e13 : v13 = X.1 v12) (b13 : -2147483648 ≤ v13 ∧ v13 ≤ 2147483647) (v14 : Int) (e14 : v14 = fx_add x3 2) (v15 : Int) (e15 : v15 = X.1 v14) (b15 : -2147483648 ≤ v15 ∧ v15 ≤ 2147483647) (v16 : Int) (e16 : v16 = fx_add x3 3) (v17 : Int) (e17 : v17 = X.1 v16) (b17 : -2147483648 ≤ v17 ∧ v17 ≤ 2147483647) (v18 : Int) (S2 : fx_S) (k2 : fx_Sok S2) (b18 : -2147483648 ≤ v18 ∧ v18 ≤ 2147483647) (p2 : s34 S1 v13 v15 v17 v18 S2) (v19 : Int) (e19 : v19 = fx_add x3 6) (z : Int) (Z : fx_S) (kz : fx_Sok Z) (bz : -2147483648 ≤ z ∧ z ≤ 2147483647) (pz : s0 S2 v19 z Z) : s0 S x3 z Z := by
  unfold s0 at pz
  unfold s0
  intro hR
  have BS := fx_iW hR
  have hn := fx_iN hR
  obtain rfl : v5 = v12 := by rw [e5, e12]
  obtain rfl : v6 = v13 := by rw [e6, e13]
  obtain rfl : v7 = v14 := by rw [e7, e14]
  obtain rfl : v8 = v15 := by rw [e8, e15]
  obtain rfl : v9 = v16 := by rw [e9, e16]
  obtain rfl : v10 = v17 := by rw [e10, e17]
  obtain rfl : S = S1 := p1
  obtain ⟨q2, f2⟩ := p2
  have z2 : S2.2.2 = S.2.2 := by rw [q2]
  have r2 : ∀ p i : Int, S2.2.1 p i = S.2.1 p i := fun p i => by rw [q2]
  have BS2 : fx_WB S2 := fx_WB_eq BS (fun q => f2 67 q (by omega)) (fun q => f2 68 q (by omega)) (fun q => f2 69 q (by omega))
  have h_s : fx_Rs S2.1 := fx_Rs_eq (fx_iS hR) (fun p i hp => (f2 p i (by omega)))
  have h_d : fx_Rd S2.1 1 (S2.1 67) := fx_Rd_eq (fx_iRd hR) ((f2 1 0 (by omega))) ((f2 67 0 (by omega)))
  have h_v : fx_Rv S2.1 1 (S2.1 67) := fx_Rv_eq BS.1 (fx_iRv hR) ((f2 2 0 (by omega))) (fun j i _ j0 j1 => (f2 (1 + j) i (by omega))) (fun i hi => (f2 67 i (by omega)))
  have h_m : fx_Rm S2.1 1 (S2.1 67) := fx_Rm_eq BS.1 (fx_iRm hR) ((f2 2 4 (by omega))) (fun j i _ j0 j1 => (f2 (1 + j) i (by omega))) (fun i hi => (f2 67 i (by omega)))
  have h_p : fx_Rp S2.1 1 (S2.1 67) := fx_Rp_eq BS.1 (fx_iRp hR) (fun j i _ j0 j1 => (f2 (1 + j) i (by omega))) (fun i hi => (f2 67 i (by omega))) (Int.le_of_eq ((f2 67 0 (by omega))).symm) (Int.le_of_eq ((f2 67 1 (by omega))).symm) (Int.le_of_eq ((f2 67 5 (by omega))).symm)
  have h_h : fx_Rh S2.1 1 (S2.1 67) := fx_Rh_eq BS.1 (fx_iRh hR) (fun j i _ j0 j1 => (f2 (1 + j) i (by omega))) (fun i hi => (f2 67 i (by omega)))
  exact pz (fx_RI_step hR BS2 (fun k => (r2 49 k)) (by omega) (fun p i p0 p1 => (f2 p i (by omega))) (fun i => (f2 68 i (by omega))) (fun i => (f2 69 i (by omega))) h_s ⟨h_d, h_v, h_m, h_p, h_h⟩)
theorem q0_20 (X : (Int → Int) × Int) (S : fx_S) (x3 : Int) (hS : fx_Sok S) (g3 : -2147483648 ≤ x3 ∧ x3 ≤ 2147483647) (v1 : Int) (e1 : v1 = X.2) (b1 : 0 ≤ v1 ∧ v1 ≤ 3072) (v2 : Int) (e2 : v2 = fx_sub v1 6) (c1 : x3 ≤ v2) (v3 : Int) (e3 : v3 = X.1 x3) (b3 : -2147483648 ≤ v3 ∧ v3 ≤ 2147483647) (v4 : Int) (e4 : v4 = fx_and v3 63) (c2 : v4 = 17) (v5 : Int) (e5 : v5 = fx_add x3 1) (v6 : Int) (e6 : v6 = X.1 v5) (b6 : -2147483648 ≤ v6 ∧ v6 ≤ 2147483647) (v7 : Int) (e7 : v7 = fx_add x3 2) (v8 : Int) (e8 : v8 = X.1 v7) (b8 : -2147483648 ≤ v8 ∧ v8 ≤ 2147483647) (v9 : Int) (e9 : v9 = fx_add x3 3) (v10 : Int) (e10 : v10 = X.1 v9) (b10 : -2147483648 ≤ v10 ∧ v10 ≤ 2147483647) (v11 : Int) (S1 : fx_S) (k1 : fx_Sok S1) (b11 : -2147483648 ≤ v11 ∧ v11 ≤ 2147483647) (p1 : s35 S v6 v8 v10 v11 S1) (v12 : Int) (e12 : v12 = fx_add x3 1) (v13 : Int) (e13 : v13 = X.1 v12) (b13 : -2147483648 ≤ v13 ∧ v13 ≤ 2147483647) (v14 : Int) (e14 : v14 = fx_add x3 2) (v15 : Int) (e15 : v15 = X.1 v14) (b15 : -2147483648 ≤ v15 ∧ v15 ≤ 2147483647) (v16 : Int) (e16 : v16 = fx_add x3 3) (v17 : Int) (e17 : v17 = X.1 v16) (b17 : -2147483648 ≤ v17 ∧ v17 ≤ 2147483647) (v18 : Int) (S2 : fx_S) (k2 : fx_Sok S2) (b18 : -2147483648 ≤ v18 ∧ v18 ≤ 2147483647) (p2 : s36 S1 v13 v15 v17 v18 S2) (v19 : Int) (e19 : v19 = fx_add x3 6) (z : Int) (Z : fx_S) (kz : fx_Sok Z) (bz : -2147483648 ≤ z ∧ z ≤ 2147483647) (pz : s0 S2 v19 z Z) : s0 S x3 z Z := by
  unfold s0 at pz
  unfold s0
  intro hR
  have BS := fx_iW hR
  have hn := fx_iN hR
  obtain rfl : v5 = v12 := by rw [e5, e12]
  obtain rfl : v6 = v13 := by rw [e6, e13]
  obtain rfl : v7 = v14 := by rw [e7, e14]
  obtain rfl : v8 = v15 := by rw [e8, e15]
  obtain rfl : v9 = v16 := by rw [e9, e16]
  obtain rfl : v10 = v17 := by rw [e10, e17]
  obtain rfl : S = S1 := p1
  obtain ⟨q2, f2⟩ := p2
  have z2 : S2.2.2 = S.2.2 := by rw [q2]
  have r2 : ∀ p i : Int, S2.2.1 p i = S.2.1 p i := fun p i => by rw [q2]
  have BS2 : fx_WB S2 := fx_WB_eq BS (fun q => f2 67 q (by omega)) (fun q => f2 68 q (by omega)) (fun q => f2 69 q (by omega))
  have h_s : fx_Rs S2.1 := fx_Rs_eq (fx_iS hR) (fun p i hp => (f2 p i (by omega)))
  have h_d : fx_Rd S2.1 1 (S2.1 67) := fx_Rd_eq (fx_iRd hR) ((f2 1 0 (by omega))) ((f2 67 0 (by omega)))
  have h_v : fx_Rv S2.1 1 (S2.1 67) := fx_Rv_eq BS.1 (fx_iRv hR) ((f2 2 0 (by omega))) (fun j i _ j0 j1 => (f2 (1 + j) i (by omega))) (fun i hi => (f2 67 i (by omega)))
  have h_m : fx_Rm S2.1 1 (S2.1 67) := fx_Rm_eq BS.1 (fx_iRm hR) ((f2 2 4 (by omega))) (fun j i _ j0 j1 => (f2 (1 + j) i (by omega))) (fun i hi => (f2 67 i (by omega)))
  have h_p : fx_Rp S2.1 1 (S2.1 67) := fx_Rp_eq BS.1 (fx_iRp hR) (fun j i _ j0 j1 => (f2 (1 + j) i (by omega))) (fun i hi => (f2 67 i (by omega))) (Int.le_of_eq ((f2 67 0 (by omega))).symm) (Int.le_of_eq ((f2 67 1 (by omega))).symm) (Int.le_of_eq ((f2 67 5 (by omega))).symm)
  have h_h : fx_Rh S2.1 1 (S2.1 67) := fx_Rh_eq BS.1 (fx_iRh hR) (fun j i _ j0 j1 => (f2 (1 + j) i (by omega))) (fun i hi => (f2 67 i (by omega)))
  exact pz (fx_RI_step hR BS2 (fun k => (r2 49 k)) (by omega) (fun p i p0 p1 => (f2 p i (by omega))) (fun i => (f2 68 i (by omega))) (fun i => (f2 69 i (by omega))) h_s ⟨h_d, h_v, h_m, h_p, h_h⟩)
theorem q0_21 (X : (Int → Int) × Int) (S : fx_S) (x3 : Int) (hS : fx_Sok S) (g3 : -2147483648 ≤ x3 ∧ x3 ≤ 2147483647) (v1 : Int) (e1 : v1 = X.2) (b1 : 0 ≤ v1 ∧ v1 ≤ 3072) (v2 : Int) (e2 : v2 = fx_sub v1 6) (c1 : x3 ≤ v2) (v3 : Int) (e3 : v3 = X.1 x3) (b3 : -2147483648 ≤ v3 ∧ v3 ≤ 2147483647) (v4 : Int) (e4 : v4 = fx_and v3 63) (c2 : v4 = 18) (v5 : Int) (e5 : v5 = fx_add x3 1) (v6 : Int) (e6 : v6 = X.1 v5) (b6 : -2147483648 ≤ v6 ∧ v6 ≤ 2147483647) (v7 : Int) (e7 : v7 = fx_add x3 2) (v8 : Int) (e8 : v8 = X.1 v7) (b8 : -2147483648 ≤ v8 ∧ v8 ≤ 2147483647) (v9 : Int) (e9 : v9 = fx_add x3 3) (v10 : Int) (e10 : v10 = X.1 v9) (b10 : -2147483648 ≤ v10 ∧ v10 ≤ 2147483647) (v11 : Int) (S1 : fx_S) (k1 : fx_Sok S1) (b11 : -2147483648 ≤ v11 ∧ v11 ≤ 2147483647) (p1 : s37 S v6 v8 v10 v11 S1) (v12 : Int) (e12 : v12 = fx_add x3 1) (v13 : Int) (e13 : v13 = X.1 v12) (b13 : -2147483648 ≤ v13 ∧ v13 ≤ 2147483647) (v14 : Int) (e14 : v14 = fx_add x3 2) (v15 : Int) (e15 : v15 = X.1 v14) (b15 : -2147483648 ≤ v15 ∧ v15 ≤ 2147483647) (v16 : Int) (e16 : v16 = fx_add x3 3) (v17 : Int) (e17 : v17 = X.1 v16) (b17 : -2147483648 ≤ v17 ∧ v17 ≤ 2147483647) (v18 : Int) (S2 : fx_S) (k2 : fx_Sok S2) (b18 : -2147483648 ≤ v18 ∧ v18 ≤ 2147483647) (p2 : s38 S1 v13 v15 v17 v18 S2) (v19 : Int) (e19 : v19 = fx_add x3 6) (z : Int) (Z : fx_S) (kz : fx_Sok Z) (bz : -2147483648 ≤ z ∧ z ≤ 2147483647) (pz : s0 S2 v19 z Z) : s0 S x3 z Z := by
  unfold s0 at pz
  unfold s0
  intro hR
  have BS := fx_iW hR
  have hn := fx_iN hR
  obtain rfl : v5 = v12 := by rw [e5, e12]
  obtain rfl : v6 = v13 := by rw [e6, e13]
  obtain rfl : v7 = v14 := by rw [e7, e14]
  obtain rfl : v8 = v15 := by rw [e8, e15]
  obtain rfl : v9 = v16 := by rw [e9, e16]
  obtain rfl : v10 = v17 := by rw [e10, e17]
  obtain rfl : S = S1 := p1
  obtain rfl : S = S2 := p2
  exact pz hR
theorem q0_22 (X : (Int → Int) × Int) (S : fx_S) (x3 : Int) (hS : fx_Sok S) (g3 : -2147483648 ≤ x3 ∧ x3 ≤ 2147483647) (v1 : Int) (e1 : v1 = X.2) (b1 : 0 ≤ v1 ∧ v1 ≤ 3072) (v2 : Int) (e2 : v2 = fx_sub v1 6) (c1 : x3 ≤ v2) (v3 : Int) (e3 : v3 = X.1 x3) (b3 : -2147483648 ≤ v3 ∧ v3 ≤ 2147483647) (v4 : Int) (e4 : v4 = fx_and v3 63) (c2 : v4 = 19) (v5 : Int) (e5 : v5 = fx_add x3 1) (v6 : Int) (e6 : v6 = X.1 v5) (b6 : -2147483648 ≤ v6 ∧ v6 ≤ 2147483647) (v7 : Int) (e7 : v7 = fx_add x3 2) (v8 : Int) (e8 : v8 = X.1 v7) (b8 : -2147483648 ≤ v8 ∧ v8 ≤ 2147483647) (v9 : Int) (S1 : fx_S) (k1 : fx_Sok S1) (b9 : -2147483648 ≤ v9 ∧ v9 ≤ 2147483647) (p1 : s39 S v6 v8 v9 S1) (v10 : Int) (e10 : v10 = fx_add x3 1) (v11 : Int) (e11 : v11 = X.1 v10) (b11 : -2147483648 ≤ v11 ∧ v11 ≤ 2147483647) (v12 : Int) (e12 : v12 = fx_add x3 2) (v13 : Int) (e13 : v13 = X.1 v12) (b13 : -2147483648 ≤ v13 ∧ v13 ≤ 2147483647) (v14 : Int) (S2 : fx_S) (k2 : fx_Sok S2) (b14 : -2147483648 ≤ v14 ∧ v14 ≤ 2147483647) (p2 : s40 S1 v11 v13 v14 S2) (v15 : Int) (e15 : v15 = fx_add x3 6) (z : Int) (Z : fx_S) (kz : fx_Sok Z) (bz : -2147483648 ≤ z ∧ z ≤ 2147483647) (pz : s0 S2 v15 z Z) : s0 S x3 z Z := by
  unfold s0 at pz
  unfold s0
  intro hR
  have BS := fx_iW hR
  have hn := fx_iN hR
  obtain rfl : v5 = v10 := by rw [e5, e10]
  obtain rfl : v6 = v11 := by rw [e6, e11]
  obtain rfl : v7 = v12 := by rw [e7, e12]
  obtain rfl : v8 = v13 := by rw [e8, e13]
  obtain ⟨q1, f1⟩ := p1
  have z1 : S1.2.2 = S.2.2 := by rw [q1]
  have r1 : ∀ p i : Int, S1.2.1 p i = S.2.1 p i := fun p i => by rw [q1]
  have BS1 : fx_WB S1 := fx_WB_eq BS (fun q => f1 67 q (by omega)) (fun q => f1 68 q (by omega)) (fun q => f1 69 q (by omega))
  unfold s40 at p2
  obtain ⟨q2, f2, BS2⟩ := p2 BS1
  have z2 : S2.2.2 = S1.2.2 := by rw [q2]
  have r2 : ∀ p i : Int, S2.2.1 p i = S1.2.1 p i := fun p i => by rw [q2]
  have h_s : fx_Rs S2.1 := fx_Rs_eq (fx_iS hR) (fun p i hp => ((f2 p i (by omega))).trans ((f1 p i (by omega))))
  have h_d : fx_Rd S2.1 1 (S2.1 67) := fx_Rd_eq (fx_iRd hR) (((f2 1 0 (by omega))).trans ((f1 1 0 (by omega)))) (((f2 67 0 (by omega))).trans ((f1 67 0 (by omega))))
  have h_v : fx_Rv S2.1 1 (S2.1 67) := fx_Rv_eq BS.1 (fx_iRv hR) (((f2 2 0 (by omega))).trans ((f1 2 0 (by omega)))) (fun j i _ j0 j1 => ((f2 (1 + j) i (by omega))).trans ((f1 (1 + j) i (by omega)))) (fun i hi => ((f2 67 i (by omega))).trans ((f1 67 i (by omega))))
  have h_m : fx_Rm S2.1 1 (S2.1 67) := fx_Rm_eq BS.1 (fx_iRm hR) (((f2 2 4 (by omega))).trans ((f1 2 4 (by omega)))) (fun j i _ j0 j1 => ((f2 (1 + j) i (by omega))).trans ((f1 (1 + j) i (by omega)))) (fun i hi => ((f2 67 i (by omega))).trans ((f1 67 i (by omega))))
  have h_p : fx_Rp S2.1 1 (S2.1 67) := fx_Rp_eq BS.1 (fx_iRp hR) (fun j i _ j0 j1 => ((f2 (1 + j) i (by omega))).trans ((f1 (1 + j) i (by omega)))) (fun i hi => ((f2 67 i (by omega))).trans ((f1 67 i (by omega)))) (Int.le_of_eq (((f2 67 0 (by omega))).trans ((f1 67 0 (by omega)))).symm) (Int.le_of_eq (((f2 67 1 (by omega))).trans ((f1 67 1 (by omega)))).symm) (Int.le_of_eq (((f2 67 5 (by omega))).trans ((f1 67 5 (by omega)))).symm)
  have h_h : fx_Rh S2.1 1 (S2.1 67) := fx_Rh_eq BS.1 (fx_iRh hR) (fun j i _ j0 j1 => ((f2 (1 + j) i (by omega))).trans ((f1 (1 + j) i (by omega)))) (fun i hi => ((f2 67 i (by omega))).trans ((f1 67 i (by omega))))
  exact pz (fx_RI_step hR BS2 (fun k => ((r2 49 k)).trans ((r1 49 k))) (by omega) (fun p i p0 p1 => ((f2 p i (by omega))).trans ((f1 p i (by omega)))) (fun i => ((f2 68 i (by omega))).trans ((f1 68 i (by omega)))) (fun i => ((f2 69 i (by omega))).trans ((f1 69 i (by omega)))) h_s ⟨h_d, h_v, h_m, h_p, h_h⟩)
theorem q0_23 (X : (Int → Int) × Int) (S : fx_S) (x3 : Int) (hS : fx_Sok S) (g3 : -2147483648 ≤ x3 ∧ x3 ≤ 2147483647) (v1 : Int) (e1 : v1 = X.2) (b1 : 0 ≤ v1 ∧ v1 ≤ 3072) (v2 : Int) (e2 : v2 = fx_sub v1 6) (c1 : x3 ≤ v2) (v3 : Int) (e3 : v3 = X.1 x3) (b3 : -2147483648 ≤ v3 ∧ v3 ≤ 2147483647) (v4 : Int) (e4 : v4 = fx_and v3 63) (c2 : v4 = 20) (v5 : Int) (e5 : v5 = fx_add x3 1) (v6 : Int) (e6 : v6 = X.1 v5) (b6 : -2147483648 ≤ v6 ∧ v6 ≤ 2147483647) (v7 : Int) (e7 : v7 = fx_add x3 2) (v8 : Int) (e8 : v8 = X.1 v7) (b8 : -2147483648 ≤ v8 ∧ v8 ≤ 2147483647) (v9 : Int) (S1 : fx_S) (k1 : fx_Sok S1) (b9 : -2147483648 ≤ v9 ∧ v9 ≤ 2147483647) (p1 : s41 S v6 v8 v9 S1) (v10 : Int) (e10 : v10 = fx_add x3 1) (v11 : Int) (e11 : v11 = X.1 v10) (b11 : -2147483648 ≤ v11 ∧ v11 ≤ 2147483647) (v12 : Int) (e12 : v12 = fx_add x3 2) (v13 : Int) (e13 : v13 = X.1 v12) (b13 : -2147483648 ≤ v13 ∧ v13 ≤ 2147483647) (v14 : Int) (S2 : fx_S) (k2 : fx_Sok S2) (b14 : -2147483648 ≤ v14 ∧ v14 ≤ 2147483647) (p2 : s42 S1 v11 v13 v14 S2) (v15 : Int) (e15 : v15 = fx_add x3 6) (z : Int) (Z : fx_S) (kz : fx_Sok Z) (bz : -2147483648 ≤ z ∧ z ≤ 2147483647) (pz : s0 S2 v15 z Z) : s0 S x3 z Z := by
  unfold s0 at pz
  unfold s0
  intro hR
  have BS := fx_iW hR
  have hn := fx_iN hR
  obtain rfl : v5 = v10 := by rw [e5, e10]
  obtain rfl : v6 = v11 := by rw [e6, e11]
  obtain rfl : v7 = v12 := by rw [e7, e12]
  obtain rfl : v8 = v13 := by rw [e8, e13]
  obtain ⟨q1, f1⟩ := p1
  have z1 : S1.2.2 = S.2.2 := by rw [q1]
  have r1 : ∀ p i : Int, S1.2.1 p i = S.2.1 p i := fun p i => by rw [q1]
  have BS1 : fx_WB S1 := fx_WB_eq BS (fun q => f1 67 q (by omega)) (fun q => f1 68 q (by omega)) (fun q => f1 69 q (by omega))
  unfold s42 at p2
  obtain ⟨q2, f2, BS2⟩ := p2 BS1
  have z2 : S2.2.2 = S1.2.2 := by rw [q2]
  have r2 : ∀ p i : Int, S2.2.1 p i = S1.2.1 p i := fun p i => by rw [q2]
  have h_s : fx_Rs S2.1 := fx_Rs_eq (fx_iS hR) (fun p i hp => ((f2 p i (by omega))).trans ((f1 p i (by omega))))
  have h_d : fx_Rd S2.1 1 (S2.1 67) := fx_Rd_eq (fx_iRd hR) (((f2 1 0 (by omega))).trans ((f1 1 0 (by omega)))) (((f2 67 0 (by omega))).trans ((f1 67 0 (by omega))))
  have h_v : fx_Rv S2.1 1 (S2.1 67) := fx_Rv_eq BS.1 (fx_iRv hR) (((f2 2 0 (by omega))).trans ((f1 2 0 (by omega)))) (fun j i _ j0 j1 => ((f2 (1 + j) i (by omega))).trans ((f1 (1 + j) i (by omega)))) (fun i hi => ((f2 67 i (by omega))).trans ((f1 67 i (by omega))))
  have h_m : fx_Rm S2.1 1 (S2.1 67) := fx_Rm_eq BS.1 (fx_iRm hR) (((f2 2 4 (by omega))).trans ((f1 2 4 (by omega)))) (fun j i _ j0 j1 => ((f2 (1 + j) i (by omega))).trans ((f1 (1 + j) i (by omega)))) (fun i hi => ((f2 67 i (by omega))).trans ((f1 67 i (by omega))))
  have h_p : fx_Rp S2.1 1 (S2.1 67) := fx_Rp_eq BS.1 (fx_iRp hR) (fun j i _ j0 j1 => ((f2 (1 + j) i (by omega))).trans ((f1 (1 + j) i (by omega)))) (fun i hi => ((f2 67 i (by omega))).trans ((f1 67 i (by omega)))) (Int.le_of_eq (((f2 67 0 (by omega))).trans ((f1 67 0 (by omega)))).symm) (Int.le_of_eq (((f2 67 1 (by omega))).trans ((f1 67 1 (by omega)))).symm) (Int.le_of_eq (((f2 67 5 (by omega))).trans ((f1 67 5 (by omega)))).symm)
  have h_h : fx_Rh S2.1 1 (S2.1 67) := fx_Rh_eq BS.1 (fx_iRh hR) (fun j i _ j0 j1 => ((f2 (1 + j) i (by omega))).trans ((f1 (1 + j) i (by omega)))) (fun i hi => ((f2 67 i (by omega))).trans ((f1 67 i (by omega))))
  exact pz (fx_RI_step hR BS2 (fun k => ((r2 49 k)).trans ((r1 49 k))) (by omega) (fun p i p0 p1 => ((f2 p i (by omega))).trans ((f1 p i (by omega)))) (fun i => ((f2 68 i (by omega))).trans ((f1 68 i (by omega)))) (fun i => ((f2 69 i (by omega))).trans ((f1 69 i (by omega)))) h_s ⟨h_d, h_v, h_m, h_p, h_h⟩)
theorem q0_24 (X : (Int → Int) × Int) (S : fx_S) (x3 : Int) (hS : fx_Sok S) (g3 : -2147483648 ≤ x3 ∧ x3 ≤ 2147483647) (v1 : Int) (e1 : v1 = X.2) (b1 : 0 ≤ v1 ∧ v1 ≤ 3072) (v2 : Int) (e2 : v2 = fx_sub v1 6) (c1 : x3 ≤ v2) (v3 : Int) (e3 : v3 = X.1 x3) (b3 : -2147483648 ≤ v3 ∧ v3 ≤ 2147483647) (v4 : Int) (e4 : v4 = fx_and v3 63) (c2 : v4 = 21) (v5 : Int) (e5 : v5 = fx_add x3 1) (v6 : Int) (e6 : v6 = X.1 v5) (b6 : -2147483648 ≤ v6 ∧ v6 ≤ 2147483647) (v7 : Int) (e7 : v7 = fx_add x3 2) (v8 : Int) (e8 : v8 = X.1 v7) (b8 : -2147483648 ≤ v8 ∧ v8 ≤ 2147483647) (v9 : Int) (S1 : fx_S) (k1 : fx_Sok S1) (b9 : -2147483648 ≤ v9 ∧ v9 ≤ 2147483647) (p1 : s43 S v6 v8 v9 S1) (v10 : Int) (e10 : v10 = fx_add x3 1) (v11 : Int) (e11 : v11 = X.1 v10) (b11 : -2147483648 ≤ v11 ∧ v11 ≤ 2147483647) (v12 : Int) (e12 : v12 = fx_add x3 2) (v13 : Int) (e13 : v13 = X.1 v12) (b13 : -2147483648 ≤ v13 ∧ v13 ≤ 2147483647) (v14 : Int) (S2 : fx_S) (k2 : fx_Sok S2) (b14 : -2147483648 ≤ v14 ∧ v14 ≤ 2147483647) (p2 : s44 S1 v11 v13 v14 S2) (v15 : Int) (e15 : v15 = fx_add x3 6) (z : Int) (Z : fx_S) (kz : fx_Sok Z) (bz : -2147483648 ≤ z ∧ z ≤ 2147483647) (pz : s0 S2 v15 z Z) : s0 S x3 z Z := by
  unfold s0 at pz
  unfold s0
  intro hR
  have BS := fx_iW hR
  have hn := fx_iN hR
  obtain rfl : v5 = v10 := by rw [e5, e10]
  obtain rfl : v6 = v11 := by rw [e6, e11]
  obtain rfl : v7 = v12 := by rw [e7, e12]
  obtain rfl : v8 = v13 := by rw [e8, e13]
  obtain rfl : S = S1 := p1
  obtain rfl : S = S2 := p2
  exact pz hR
theorem q0_25 (X : (Int → Int) × Int) (S : fx_S) (x3 : Int) (hS : fx_Sok S) (g3 : -2147483648 ≤ x3 ∧ x3 ≤ 2147483647) (v1 : Int) (e1 : v1 = X.2) (b1 : 0 ≤ v1 ∧ v1 ≤ 3072) (v2 : Int) (e2 : v2 = fx_sub v1 6) (c1 : x3 ≤ v2) (v3 : Int) (e3 : v3 = X.1 x3) (b3 : -2147483648 ≤ v3 ∧ v3 ≤ 2147483647) (v4 : Int) (e4 : v4 = fx_and v3 63) (c2 : v4 = 22) (v5 : Int) (e5 : v5 = fx_add x3 1) (v6 : Int) (e6 : v6 = X.1 v5) (b6 : -2147483648 ≤ v6 ∧ v6 ≤ 2147483647) (v7 : Int) (S1 : fx_S) (k1 : fx_Sok S1) (b7 : -2147483648 ≤ v7 ∧ v7 ≤ 2147483647) (p1 : s45 S v6 v7 S1) (v8 : Int) (e8 : v8 = fx_add x3 1) (v9 : Int) (e9 : v9 = X.1 v8) (b9 : -2147483648 ≤ v9 ∧ v9 ≤ 2147483647) (v10 : Int) (S2 : fx_S) (k2 : fx_Sok S2) (b10 : -2147483648 ≤ v10 ∧ v10 ≤ 2147483647) (p2 : s46 S1 v9 v10 S2) (v11 : Int) (e11 : v11 = fx_add x3 6) (z : Int) (Z : fx_S) (kz : fx_Sok Z) (bz : -2147483648 ≤ z ∧ z ≤ 2147483647) (pz : s0 S2 v11 z Z) : s0 S x3 z Z := by
  unfold s0 at pz
  unfold s0
  intro hR
  have BS := fx_iW hR
  have hn := fx_iN hR
  obtain rfl : v5 = v8 := by rw [e5, e8]
  obtain rfl : v6 = v9 := by rw [e6, e9]
  obtain ⟨q1, f1⟩ := p1
  have z1 : S1.2.2 = S.2.2 := by rw [q1]
  have r1 : ∀ p i : Int, S1.2.1 p i = S.2.1 p i := fun p i => by rw [q1]
  have BS1 : fx_WB S1 := fx_WB_eq BS (fun q => f1 67 q (by omega)) (fun q => f1 68 q (by omega)) (fun q => f1 69 q (by omega))
  unfold s46 at p2
  obtain ⟨q2, f2, BS2⟩ := p2 BS1
  have z2 : S2.2.2 = S1.2.2 := by rw [q2]
  have r2 : ∀ p i : Int, S2.2.1 p i = S1.2.1 p i := fun p i => by rw [q2]
  have h_s : fx_Rs S2.1 := fx_Rs_eq (fx_iS hR) (fun p i hp => ((f2 p i (by omega))).trans ((f1 p i (by omega))))
  have h_d : fx_Rd S2.1 1 (S2.1 67) := fx_Rd_eq (fx_iRd hR) (((f2 1 0 (by omega))).trans ((f1 1 0 (by omega)))) (((f2 67 0 (by omega))).trans ((f1 67 0 (by omega))))
  have h_v : fx_Rv S2.1 1 (S2.1 67) := fx_Rv_eq BS.1 (fx_iRv hR) (((f2 2 0 (by omega))).trans ((f1 2 0 (by omega)))) (fun j i _ j0 j1 => ((f2 (1 + j) i (by omega))).trans ((f1 (1 + j) i (by omega)))) (fun i hi => ((f2 67 i (by omega))).trans ((f1 67 i (by omega))))
  have h_m : fx_Rm S2.1 1 (S2.1 67) := fx_Rm_eq BS.1 (fx_iRm hR) (((f2 2 4 (by omega))).trans ((f1 2 4 (by omega)))) (fun j i _ j0 j1 => ((f2 (1 + j) i (by omega))).trans ((f1 (1 + j) i (by omega)))) (fun i hi => ((f2 67 i (by omega))).trans ((f1 67 i (by omega))))
  have h_p : fx_Rp S2.1 1 (S2.1 67) := fx_Rp_eq BS.1 (fx_iRp hR) (fun j i _ j0 j1 => ((f2 (1 + j) i (by omega))).trans ((f1 (1 + j) i (by omega)))) (fun i hi => ((f2 67 i (by omega))).trans ((f1 67 i (by omega)))) (Int.le_of_eq (((f2 67 0 (by omega))).trans ((f1 67 0 (by omega)))).symm) (Int.le_of_eq (((f2 67 1 (by omega))).trans ((f1 67 1 (by omega)))).symm) (Int.le_of_eq (((f2 67 5 (by omega))).trans ((f1 67 5 (by omega)))).symm)
  have h_h : fx_Rh S2.1 1 (S2.1 67) := fx_Rh_eq BS.1 (fx_iRh hR) (fun j i _ j0 j1 => ((f2 (1 + j) i (by omega))).trans ((f1 (1 + j) i (by omega)))) (fun i hi => ((f2 67 i (by omega))).trans ((f1 67 i (by omega))))
  exact pz (fx_RI_step hR BS2 (fun k => ((r2 49 k)).trans ((r1 49 k))) (by omega) (fun p i p0 p1 => ((f2 p i (by omega))).trans ((f1 p i (by omega)))) (fun i => ((f2 68 i (by omega))).trans ((f1 68 i (by omega)))) (fun i => ((f2 69 i (by omega))).trans ((f1 69 i (by omega)))) h_s ⟨h_d, h_v, h_m, h_p, h_h⟩)
theorem q0_26 (X : (Int → Int) × Int) (S : fx_S) (x3 : Int) (hS : fx_Sok S) (g3 : -2147483648 ≤ x3 ∧ x3 ≤ 2147483647) (v1 : Int) (e1 : v1 = X.2) (b1 : 0 ≤ v1 ∧ v1 ≤ 3072) (v2 : Int) (e2 : v2 = fx_sub v1 6) (c1 : x3 ≤ v2) (v3 : Int) (e3 : v3 = X.1 x3) (b3 : -2147483648 ≤ v3 ∧ v3 ≤ 2147483647) (v4 : Int) (e4 : v4 = fx_and v3 63) (c2 : v4 = 23) (v5 : Int) (e5 : v5 = fx_add x3 1) (v6 : Int) (e6 : v6 = X.1 v5) (b6 : -2147483648 ≤ v6 ∧ v6 ≤ 2147483647) (v7 : Int) (S1 : fx_S) (k1 : fx_Sok S1) (b7 : -2147483648 ≤ v7 ∧ v7 ≤ 2147483647) (p1 : s47 S v6 v7 S1) (v8 : Int) (e8 : v8 = fx_add x3 1) (v9 : Int) (e9 : v9 = X.1 v8) (b9 : -2147483648 ≤ v9 ∧ v9 ≤ 2147483647) (v10 : Int) (S2 : fx_S) (k2 : fx_Sok S2) (b10 : -2147483648 ≤ v10 ∧ v10 ≤ 2147483647) (p2 : s48 S1 v9 v10 S2) (v11 : Int) (e11 : v11 = fx_add x3 6) (z : Int) (Z : fx_S) (kz : fx_Sok Z) (bz : -2147483648 ≤ z ∧ z ≤ 2147483647) (pz : s0 S2 v11 z Z) : s0 S x3 z Z := by
  unfold s0 at pz
  unfold s0
  intro hR
  have BS := fx_iW hR
  have hn := fx_iN hR
  obtain rfl : v5 = v8 := by rw [e5, e8]
  obtain rfl : v6 = v9 := by rw [e6, e9]
  obtain rfl : S = S1 := p1
  obtain rfl : S = S2 := p2
  exact pz hR
theorem q0_27 (X : (Int → Int) × Int) (S : fx_S) (x3 : Int) (hS : fx_Sok S) (g3 : -2147483648 ≤ x3 ∧ x3 ≤ 2147483647) (v1 : Int) (e1 : v1 = X.2) (b1 : 0 ≤ v1 ∧ v1 ≤ 3072) (v2 : Int) (e2 : v2 = fx_sub v1 6) (c1 : x3 ≤ v2) (v3 : Int) (e3 : v3 = X.1 x3) (b3 : -2147483648 ≤ v3 ∧ v3 ≤ 2147483647) (v4 : Int) (e4 : v4 = fx_and v3 63) (c2 : v4 = 24) (v5 : Int) (S1 : fx_S) (k1 : fx_Sok S1) (b5 : -2147483648 ≤ v5 ∧ v5 ≤ 2147483647) (p1 : s49 S  v5 S1) (v6 : Int) (S2 : fx_S) (k2 : fx_Sok S2) (b6 : -2147483648 ≤ v6 ∧ v6 ≤ 2147483647) (p2 : s50 S1  v6 S2) (v7 : Int) (e7 : v7 = fx_add x3 6) (z : Int) (Z : fx_S) (kz : fx_Sok Z) (bz : -2147483648 ≤ z ∧ z ≤ 2147483647) (pz : s0 S2 v7 z Z) : s0 S x3 z Z := by
  unfold s0 at pz
  unfold s0
  intro hR
  have BS := fx_iW hR
  have hn := fx_iN hR
  obtain ⟨q1, f1⟩ := p1
  have z1 : S1.2.2 = S.2.2 := by rw [q1]
  have r1 : ∀ p i : Int, S1.2.1 p i = S.2.1 p i := fun p i => by rw [q1]
  have BS1 : fx_WB S1 := fx_WB_eq BS (fun q => f1 67 q (by omega)) (fun q => f1 68 q (by omega)) (fun q => f1 69 q (by omega))
  unfold s50 at p2
  obtain ⟨q2, f2, BS2⟩ := p2 BS1
  have z2 : S2.2.2 = S1.2.2 := by rw [q2]
  have r2 : ∀ p i : Int, S2.2.1 p i = S1.2.1 p i := fun p i => by rw [q2]
  have h_s : fx_Rs S2.1 := fx_Rs_eq (fx_iS hR) (fun p i hp => ((f2 p i (by omega))).trans ((f1 p i (by omega))))
  have h_d : fx_Rd S2.1 1 (S2.1 67) := fx_Rd_eq (fx_iRd hR) (((f2 1 0 (by omega))).trans ((f1 1 0 (by omega)))) (((f2 67 0 (by omega))).trans ((f1 67 0 (by omega))))
  have h_v : fx_Rv S2.1 1 (S2.1 67) := fx_Rv_eq BS.1 (fx_iRv hR) (((f2 2 0 (by omega))).trans ((f1 2 0 (by omega)))) (fun j i _ j0 j1 => ((f2 (1 + j) i (by omega))).trans ((f1 (1 + j) i (by omega)))) (fun i hi => ((f2 67 i (by omega))).trans ((f1 67 i (by omega))))
  have h_m : fx_Rm S2.1 1 (S2.1 67) := fx_Rm_eq BS.1 (fx_iRm hR) (((f2 2 4 (by omega))).trans ((f1 2 4 (by omega)))) (fun j i _ j0 j1 => ((f2 (1 + j) i (by omega))).trans ((f1 (1 + j) i (by omega)))) (fun i hi => ((f2 67 i (by omega))).trans ((f1 67 i (by omega))))
  have h_p : fx_Rp S2.1 1 (S2.1 67) := fx_Rp_eq BS.1 (fx_iRp hR) (fun j i _ j0 j1 => ((f2 (1 + j) i (by omega))).trans ((f1 (1 + j) i (by omega)))) (fun i hi => ((f2 67 i (by omega))).trans ((f1 67 i (by omega)))) (Int.le_of_eq (((f2 67 0 (by omega))).trans ((f1 67 0 (by omega)))).symm) (Int.le_of_eq (((f2 67 1 (by omega))).trans ((f1 67 1 (by omega)))).symm) (Int.le_of_eq (((f2 67 5 (by omega))).trans ((f1 67 5 (by omega)))).symm)
  have h_h : fx_Rh S2.1 1 (S2.1 67) := fx_Rh_eq BS.1 (fx_iRh hR) (fun j i _ j0 j1 => ((f2 (1 + j) i (by omega))).trans ((f1 (1 + j) i (by omega)))) (fun i hi => ((f2 67 i (by omega))).trans ((f1 67 i (by omega))))
  exact pz (fx_RI_step hR BS2 (fun k => ((r2 49 k)).trans ((r1 49 k))) (by omega) (fun p i p0 p1 => ((f2 p i (by omega))).trans ((f1 p i (by omega)))) (fun i => ((f2 68 i (by omega))).trans ((f1 68 i (by omega)))) (fun i => ((f2 69 i (by omega))).trans ((f1 69 i (by omega)))) h_s ⟨h_d, h_v, h_m, h_p, h_h⟩)
theorem q0_28 (X : (Int → Int) × Int) (S : fx_S) (x3 : Int) (hS : fx_Sok S) (g3 : -2147483648 ≤ x3 ∧ x3 ≤ 2147483647) (v1 : Int) (e1 : v1 = X.2) (b1 : 0 ≤ v1 ∧ v1 ≤ 3072) (v2 : Int) (e2 : v2 = fx_sub v1 6) (c1 : x3 ≤ v2) (v3 : Int) (e3 : v3 = X.1 x3) (b3 : -2147483648 ≤ v3 ∧ v3 ≤ 2147483647) (v4 : Int) (e4 : v4 = fx_and v3 63) (c2 : v4 = 25) (v5 : Int) (e5 : v5 = fx_add x3 1) (v6 : Int) (e6 : v6 = X.1 v5) (b6 : -2147483648 ≤ v6 ∧ v6 ≤ 2147483647) (v7 : Int) (e7 : v7 = fx_add x3 2) (v8 : Int) (e8 : v8 = X.1 v7) (b8 : -2147483648 ≤ v8 ∧ v8 ≤ 2147483647) (v9 : Int) (e9 : v9 = fx_add x3 3) (v10 : Int) (e10 : v10 = X.1 v9) (b10 : -2147483648 ≤ v10 ∧ v10 ≤ 2147483647) (c3 : v10 = 0) (v11 : Int) (S1 : fx_S) (k1 : fx_Sok S1) (b11 : -2147483648 ≤ v11 ∧ v11 ≤ 2147483647) (p1 : s51 S v6 v8 0 v11 S1) (v12 : Int) (e12 : v12 = fx_add x3 1) (v13 : Int) (e13 : v13 = X.1 v12) (b13 : -2147483648 ≤ v13 ∧ v13 ≤ 2147483647) (v14 : Int) (e14 : v14 = fx_add x3 2) (v15 : Int) (e15 : v15 = X.1 v14) (b15 : -2147483648 ≤ v15 ∧ v15 ≤ 2147483647) (v16 : Int) (e16 : v16 = fx_add x3 3) (v17 : Int) (e17 : v17 = X.1 v16) (b17 : -2147483648 ≤ v17 ∧ v17 ≤ 2147483647) (c4 : v17 = 0) (v18 : Int) (S2 : fx_S) (k2 : fx_Sok S2) (b18 : -2147483648 ≤ v18 ∧ v18 ≤ 2147483647) (p2 : s52 S1 v13 v15 0 v18 S2) (v19 : Int) (e19 : v19 = fx_add x3 6) (z : Int) (Z : fx_S) (kz : fx_Sok Z) (bz : -2147483648 ≤ z ∧ z ≤ 2147483647) (pz : s0 S2 v19 z Z) : s0 S x3 z Z := by
  unfold s0 at pz
  unfold s0
  intro hR
  have BS := fx_iW hR
  have hn := fx_iN hR
  obtain rfl : v5 = v12 := by rw [e5, e12]
  obtain rfl : v6 = v13 := by rw [e6, e13]
  obtain rfl : v7 = v14 := by rw [e7, e14]
  obtain rfl : v8 = v15 := by rw [e8, e15]
  obtain rfl : v9 = v16 := by rw [e9, e16]
  obtain rfl : v10 = v17 := by rw [e10, e17]
  obtain ⟨q1, f1⟩ := p1
  have z1 : S1.2.2 = S.2.2 := by rw [q1]
  have r1 : ∀ p i : Int, S1.2.1 p i = S.2.1 p i := fun p i => by rw [q1]
  have BS1 : fx_WB S1 := fx_WB_eq BS (fun q => f1 67 q (by omega)) (fun q => f1 68 q (by omega)) (fun q => f1 69 q (by omega))
  unfold s52 at p2
  obtain ⟨q2, f2, BS2⟩ := p2 BS1
  have z2 : S2.2.2 = S1.2.2 := by rw [q2]
  have r2 : ∀ p i : Int, S2.2.1 p i = S1.2.1 p i := fun p i => by rw [q2]
  have h_s : fx_Rs S2.1 := fx_Rs_eq (fx_iS hR) (fun p i hp => ((f2 p i (by omega))).trans ((f1 p i (by omega))))
  have h_d : fx_Rd S2.1 1 (S2.1 67) := fx_Rd_eq (fx_iRd hR) (((f2 1 0 (by omega))).trans ((f1 1 0 (by omega)))) (((f2 67 0 (by omega))).trans ((f1 67 0 (by omega))))
  have h_v : fx_Rv S2.1 1 (S2.1 67) := fx_Rv_eq BS.1 (fx_iRv hR) (((f2 2 0 (by omega))).trans ((f1 2 0 (by omega)))) (fun j i _ j0 j1 => ((f2 (1 + j) i (by omega))).trans ((f1 (1 + j) i (by omega)))) (fun i hi => ((f2 67 i (by omega))).trans ((f1 67 i (by omega))))
  have h_m : fx_Rm S2.1 1 (S2.1 67) := fx_Rm_eq BS.1 (fx_iRm hR) (((f2 2 4 (by omega))).trans ((f1 2 4 (by omega)))) (fun j i _ j0 j1 => ((f2 (1 + j) i (by omega))).trans ((f1 (1 + j) i (by omega)))) (fun i hi => ((f2 67 i (by omega))).trans ((f1 67 i (by omega))))
  have h_p : fx_Rp S2.1 1 (S2.1 67) := fx_Rp_eq BS.1 (fx_iRp hR) (fun j i _ j0 j1 => ((f2 (1 + j) i (by omega))).trans ((f1 (1 + j) i (by omega)))) (fun i hi => ((f2 67 i (by omega))).trans ((f1 67 i (by omega)))) (Int.le_of_eq (((f2 67 0 (by omega))).trans ((f1 67 0 (by omega)))).symm) (Int.le_of_eq (((f2 67 1 (by omega))).trans ((f1 67 1 (by omega)))).symm) (Int.le_of_eq (((f2 67 5 (by omega))).trans ((f1 67 5 (by omega)))).symm)
  have h_h : fx_Rh S2.1 1 (S2.1 67) := fx_Rh_eq BS.1 (fx_iRh hR) (fun j i _ j0 j1 => ((f2 (1 + j) i (by omega))).trans ((f1 (1 + j) i (by omega)))) (fun i hi => ((f2 67 i (by omega))).trans ((f1 67 i (by omega))))
  exact pz (fx_RI_step hR BS2 (fun k => ((r2 49 k)).trans ((r1 49 k))) (by omega) (fun p i p0 p1 => ((f2 p i (by omega))).trans ((f1 p i (by omega)))) (fun i => ((f2 68 i (by omega))).trans ((f1 68 i (by omega)))) (fun i => ((f2 69 i (by omega))).trans ((f1 69 i (by omega)))) h_s ⟨h_d, h_v, h_m, h_p, h_h⟩)
theorem q0_29 (X : (Int → Int) × Int) (S : fx_S) (x3 : Int) (hS : fx_Sok S) (g3 : -2147483648 ≤ x3 ∧ x3 ≤ 2147483647) (v1 : Int) (e1 : v1 = X.2) (b1 : 0 ≤ v1 ∧ v1 ≤ 3072) (v2 : Int) (e2 : v2 = fx_sub v1 6) (c1 : x3 ≤ v2) (v3 : Int) (e3 : v3 = X.1 x3) (b3 : -2147483648 ≤ v3 ∧ v3 ≤ 2147483647) (v4 : Int) (e4 : v4 = fx_and v3 63) (c2 : v4 = 25) (v5 : Int) (e5 : v5 = fx_add x3 1) (v6 : Int) (e6 : v6 = X.1 v5) (b6 : -2147483648 ≤ v6 ∧ v6 ≤ 2147483647) (v7 : Int) (e7 : v7 = fx_add x3 2) (v8 : Int) (e8 : v8 = X.1 v7) (b8 : -2147483648 ≤ v8 ∧ v8 ≤ 2147483647) (v9 : Int) (e9 : v9 = fx_add x3 3) (v10 : Int) (e10 : v10 = X.1 v9) (b10 : -2147483648 ≤ v10 ∧ v10 ≤ 2147483647) (c3 : v10 = 0) (v11 : Int) (S1 : fx_S) (k1 : fx_Sok S1) (b11 : -2147483648 ≤ v11 ∧ v11 ≤ 2147483647) (p1 : s51 S v6 v8 0 v11 S1) (v12 : Int) (e12 : v12 = fx_add x3 1) (v13 : Int) (e13 : v13 = X.1 v12) (b13 : -2147483648 ≤ v13 ∧ v13 ≤ 2147483647) (v14 : Int) (e14 : v14 = fx_add x3 2) (v15 : Int) (e15 : v15 = X.1 v14) (b15 : -2147483648 ≤ v15 ∧ v15 ≤ 2147483647) (v16 : Int) (e16 : v16 = fx_add x3 3) (v17 : Int) (e17 : v17 = X.1 v16) (b17 : -2147483648 ≤ v17 ∧ v17 ≤ 2147483647) (c4 : v17 ≠ 0) (v18 : Int) (S2 : fx_S) (k2 : fx_Sok S2) (b18 : -2147483648 ≤ v18 ∧ v18 ≤ 2147483647) (p2 : s52 S1 v13 v15 1 v18 S2) (v19 : Int) (e19 : v19 = fx_add x3 6) (z : Int) (Z : fx_S) (kz : fx_Sok Z) (bz : -2147483648 ≤ z ∧ z ≤ 2147483647) (pz : s0 S2 v19 z Z) : s0 S x3 z Z := by
  unfold s0 at pz
  unfold s0
  intro hR
  have BS := fx_iW hR
  have hn := fx_iN hR
  obtain rfl : v5 = v12 := by rw [e5, e12]
  obtain rfl : v6 = v13 := by rw [e6, e13]
  obtain rfl : v7 = v14 := by rw [e7, e14]
  obtain rfl : v8 = v15 := by rw [e8, e15]
  obtain rfl : v9 = v16 := by rw [e9, e16]
  obtain rfl : v10 = v17 := by rw [e10, e17]
  obtain ⟨q1, f1⟩ := p1
  have z1 : S1.2.2 = S.2.2 := by rw [q1]
  have r1 : ∀ p i : Int, S1.2.1 p i = S.2.1 p i := fun p i => by rw [q1]
  have BS1 : fx_WB S1 := fx_WB_eq BS (fun q => f1 67 q (by omega)) (fun q => f1 68 q (by omega)) (fun q => f1 69 q (by omega))
  unfold s52 at p2
  obtain ⟨q2, f2, BS2⟩ := p2 BS1
  have z2 : S2.2.2 = S1.2.2 := by rw [q2]
  have r2 : ∀ p i : Int, S2.2.1 p i = S1.2.1 p i := fun p i => by rw [q2]
  have h_s : fx_Rs S2.1 := fx_Rs_eq (fx_iS hR) (fun p i hp => ((f2 p i (by omega))).trans ((f1 p i (by omega))))
  have h_d : fx_Rd S2.1 1 (S2.1 67) := fx_Rd_eq (fx_iRd hR) (((f2 1 0 (by omega))).trans ((f1 1 0 (by omega)))) (((f2 67 0 (by omega))).trans ((f1 67 0 (by omega))))
  have h_v : fx_Rv S2.1 1 (S2.1 67) := fx_Rv_eq BS.1 (fx_iRv hR) (((f2 2 0 (by omega))).trans ((f1 2 0 (by omega)))) (fun j i _ j0 j1 => ((f2 (1 + j) i (by omega))).trans ((f1 (1 + j) i (by omega)))) (fun i hi => ((f2 67 i (by omega))).trans ((f1 67 i (by omega))))
  have h_m : fx_Rm S2.1 1 (S2.1 67) := fx_Rm_eq BS.1 (fx_iRm hR) (((f2 2 4 (by omega))).trans ((f1 2 4 (by omega)))) (fun j i _ j0 j1 => ((f2 (1 + j) i (by omega))).trans ((f1 (1 + j) i (by omega)))) (fun i hi => ((f2 67 i (by omega))).trans ((f1 67 i (by omega))))
  have h_p : fx_Rp S2.1 1 (S2.1 67) := fx_Rp_eq BS.1 (fx_iRp hR) (fun j i _ j0 j1 => ((f2 (1 + j) i (by omega))).trans ((f1 (1 + j) i (by omega)))) (fun i hi => ((f2 67 i (by omega))).trans ((f1 67 i (by omega)))) (Int.le_of_eq (((f2 67 0 (by omega))).trans ((f1 67 0 (by omega)))).symm) (Int.le_of_eq (((f2 67 1 (by omega))).trans ((f1 67 1 (by omega)))).symm) (Int.le_of_eq (((f2 67 5 (by omega))).trans ((f1 67 5 (by omega)))).symm)
  have h_h : fx_Rh S2.1 1 (S2.1 67) := fx_Rh_eq BS.1 (fx_iRh hR) (fun j i _ j0 j1 => ((f2 (1 + j) i (by omega))).trans ((f1 (1 + j) i (by omega)))) (fun i hi => ((f2 67 i (by omega))).trans ((f1 67 i (by omega))))
  exact pz (fx_RI_step hR BS2 (fun k => ((r2 49 k)).trans ((r1 49 k))) (by omega) (fun p i p0 p1 => ((f2 p i (by omega))).trans ((f1 p i (by omega)))) (fun i => ((f2 68 i (by omega))).trans ((f1 68 i (by omega)))) (fun i => ((f2 69 i (by omega))).trans ((f1 69 i (by omega)))) h_s ⟨h_d, h_v, h_m, h_p, h_h⟩)
theorem q0_30 (X : (Int → Int) × Int) (S : fx_S) (x3 : Int) (hS : fx_Sok S) (g3 : -2147483648 ≤ x3 ∧ x3 ≤ 2147483647) (v1 : Int) (e1 : v1 = X.2) (b1 : 0 ≤ v1 ∧ v1 ≤ 3072) (v2 : Int) (e2 : v2 = fx_sub v1 6) (c1 : x3 ≤ v2) (v3 : Int) (e3 : v3 = X.1 x3) (b3 : -2147483648 ≤ v3 ∧ v3 ≤ 2147483647) (v4 : Int) (e4 : v4 = fx_and v3 63) (c2 : v4 = 25) (v5 : Int) (e5 : v5 = fx_add x3 1) (v6 : Int) (e6 : v6 = X.1 v5) (b6 : -2147483648 ≤ v6 ∧ v6 ≤ 2147483647) (v7 : Int) (e7 : v7 = fx_add x3 2) (v8 : Int) (e8 : v8 = X.1 v7) (b8 : -2147483648 ≤ v8 ∧ v8 ≤ 2147483647) (v9 : Int) (e9 : v9 = fx_add x3 3) (v10 : Int) (e10 : v10 = X.1 v9) (b10 : -2147483648 ≤ v10 ∧ v10 ≤ 2147483647) (c3 : v10 ≠ 0) (v11 : Int) (S1 : fx_S) (k1 : fx_Sok S1) (b11 : -2147483648 ≤ v11 ∧ v11 ≤ 2147483647) (p1 : s51 S v6 v8 1 v11 S1) (v12 : Int) (e12 : v12 = fx_add x3 1) (v13 : Int) (e13 : v13 = X.1 v12) (b13 : -2147483648 ≤ v13 ∧ v13 ≤ 2147483647) (v14 : Int) (e14 : v14 = fx_add x3 2) (v15 : Int) (e15 : v15 = X.1 v14) (b15 : -2147483648 ≤ v15 ∧ v15 ≤ 2147483647) (v16 : Int) (e16 : v16 = fx_add x3 3) (v17 : Int) (e17 : v17 = X.1 v16) (b17 : -2147483648 ≤ v17 ∧ v17 ≤ 2147483647) (c4 : v17 = 0) (v18 : Int) (S2 : fx_S) (k2 : fx_Sok S2) (b18 : -2147483648 ≤ v18 ∧ v18 ≤ 2147483647) (p2 : s52 S1 v13 v15 0 v18 S2) (v19 : Int) (e19 : v19 = fx_add x3 6) (z : Int) (Z : fx_S) (kz : fx_Sok Z) (bz : -2147483648 ≤ z ∧ z ≤ 2147483647) (pz : s0 S2 v19 z Z) : s0 S x3 z Z := by
  unfold s0 at pz
  unfold s0
  intro hR
  have BS := fx_iW hR
  have hn := fx_iN hR
  obtain rfl : v5 = v12 := by rw [e5, e12]
  obtain rfl : v6 = v13 := by rw [e6, e13]
  obtain rfl : v7 = v14 := by rw [e7, e14]
  obtain rfl : v8 = v15 := by rw [e8, e15]
  obtain rfl : v9 = v16 := by rw [e9, e16]
  obtain rfl : v10 = v17 := by rw [e10, e17]
  obtain ⟨q1, f1⟩ := p1
  have z1 : S1.2.2 = S.2.2 := by rw [q1]
  have r1 : ∀ p i : Int, S1.2.1 p i = S.2.1 p i := fun p i => by rw [q1]
  have BS1 : fx_WB S1 := fx_WB_eq BS (fun q => f1 67 q (by omega)) (fun q => f1 68 q (by omega)) (fun q => f1 69 q (by omega))
  unfold s52 at p2
  obtain ⟨q2, f2, BS2⟩ := p2 BS1
  have z2 : S2.2.2 = S1.2.2 := by rw [q2]
  have r2 : ∀ p i : Int, S2.2.1 p i = S1.2.1 p i := fun p i => by rw [q2]
  have h_s : fx_Rs S2.1 := fx_Rs_eq (fx_iS hR) (fun p i hp => ((f2 p i (by omega))).trans ((f1 p i (by omega))))
  have h_d : fx_Rd S2.1 1 (S2.1 67) := fx_Rd_eq (fx_iRd hR) (((f2 1 0 (by omega))).trans ((f1 1 0 (by omega)))) (((f2 67 0 (by omega))).trans ((f1 67 0 (by omega))))
  have h_v : fx_Rv S2.1 1 (S2.1 67) := fx_Rv_eq BS.1 (fx_iRv hR) (((f2 2 0 (by omega))).trans ((f1 2 0 (by omega)))) (fun j i _ j0 j1 => ((f2 (1 + j) i (by omega))).trans ((f1 (1 + j) i (by omega)))) (fun i hi => ((f2 67 i (by omega))).trans ((f1 67 i (by omega))))
  have h_m : fx_Rm S2.1 1 (S2.1 67) := fx_Rm_eq BS.1 (fx_iRm hR) (((f2 2 4 (by omega))).trans ((f1 2 4 (by omega)))) (fun j i _ j0 j1 => ((f2 (1 + j) i (by omega))).trans ((f1 (1 + j) i (by omega)))) (fun i hi => ((f2 67 i (by omega))).trans ((f1 67 i (by omega))))
  have h_p : fx_Rp S2.1 1 (S2.1 67) := fx_Rp_eq BS.1 (fx_iRp hR) (fun j i _ j0 j1 => ((f2 (1 + j) i (by omega))).trans ((f1 (1 + j) i (by omega)))) (fun i hi => ((f2 67 i (by omega))).trans ((f1 67 i (by omega)))) (Int.le_of_eq (((f2 67 0 (by omega))).trans ((f1 67 0 (by omega)))).symm) (Int.le_of_eq (((f2 67 1 (by omega))).trans ((f1 67 1 (by omega)))).symm) (Int.le_of_eq (((f2 67 5 (by omega))).trans ((f1 67 5 (by omega)))).symm)
  have h_h : fx_Rh S2.1 1 (S2.1 67) := fx_Rh_eq BS.1 (fx_iRh hR) (fun j i _ j0 j1 => ((f2 (1 + j) i (by omega))).trans ((f1 (1 + j) i (by omega)))) (fun i hi => ((f2 67 i (by omega))).trans ((f1 67 i (by omega))))
  exact pz (fx_RI_step hR BS2 (fun k => ((r2 49 k)).trans ((r1 49 k))) (by omega) (fun p i p0 p1 => ((f2 p i (by omega))).trans ((f1 p i (by omega)))) (fun i => ((f2 68 i (by omega))).trans ((f1 68 i (by omega)))) (fun i => ((f2 69 i (by omega))).trans ((f1 69 i (by omega)))) h_s ⟨h_d, h_v, h_m, h_p, h_h⟩)
theorem q0_31 (X : (Int → Int) × Int) (S : fx_S) (x3 : Int) (hS : fx_Sok S) (g3 : -2147483648 ≤ x3 ∧ x3 ≤ 2147483647) (v1 : Int) (e1 : v1 = X.2) (b1 : 0 ≤ v1 ∧ v1 ≤ 3072) (v2 : Int) (e2 : v2 = fx_sub v1 6) (c1 : x3 ≤ v2) (v3 : Int) (e3 : v3 = X.1 x3) (b3 : -2147483648 ≤ v3 ∧ v3 ≤ 2147483647) (v4 : Int) (e4 : v4 = fx_and v3 63) (c2 : v4 = 25) (v5 : Int) (e5 : v5 = fx_add x3 1) (v6 : Int) (e6 : v6 = X.1 v5) (b6 : -2147483648 ≤ v6 ∧ v6 ≤ 2147483647) (v7 : Int) (e7 : v7 = fx_add x3 2) (v8 : Int) (e8 : v8 = X.1 v7) (b8 : -2147483648 ≤ v8 ∧ v8 ≤ 2147483647) (v9 : Int) (e9 : v9 = fx_add x3 3) (v10 : Int) (e10 : v10 = X.1 v9) (b10 : -2147483648 ≤ v10 ∧ v10 ≤ 2147483647) (c3 : v10 ≠ 0) (v11 : Int) (S1 : fx_S) (k1 : fx_Sok S1) (b11 : -2147483648 ≤ v11 ∧ v11 ≤ 2147483647) (p1 : s51 S v6 v8 1 v11 S1) (v12 : Int) (e12 : v12 = fx_add x3 1) (v13 : Int) (e13 : v13 = X.1 v12) (b13 : -2147483648 ≤ v13 ∧ v13 ≤ 2147483647) (v14 : Int) (e14 : v14 = fx_add x3 2) (v15 : Int) (e15 : v15 = X.1 v14) (b15 : -2147483648 ≤ v15 ∧ v15 ≤ 2147483647) (v16 : Int) (e16 : v16 = fx_add x3 3) (v17 : Int) (e17 : v17 = X.1 v16) (b17 : -2147483648 ≤ v17 ∧ v17 ≤ 2147483647) (c4 : v17 ≠ 0) (v18 : Int) (S2 : fx_S) (k2 : fx_Sok S2) (b18 : -2147483648 ≤ v18 ∧ v18 ≤ 2147483647) (p2 : s52 S1 v13 v15 1 v18 S2) (v19 : Int) (e19 : v19 = fx_add x3 6) (z : Int) (Z : fx_S) (kz : fx_Sok Z) (bz : -2147483648 ≤ z ∧ z ≤ 2147483647) (pz : s0 S2 v19 z Z) : s0 S x3 z Z := by
  unfold s0 at pz
  unfold s0
  intro hR
  have BS := fx_iW hR
  have hn := fx_iN hR
  obtain rfl : v5 = v12 := by rw [e5, e12]
  obtain rfl : v6 = v13 := by rw [e6, e13]
  obtain rfl : v7 = v14 := by rw [e7, e14]
  obtain rfl : v8 = v15 := by rw [e8, e15]
  obtain rfl : v9 = v16 := by rw [e9, e16]
  obtain rfl : v10 = v17 := by rw [e10, e17]
  obtain ⟨q1, f1⟩ := p1
  have z1 : S1.2.2 = S.2.2 := by rw [q1]
  have r1 : ∀ p i : Int, S1.2.1 p i = S.2.1 p i := fun p i => by rw [q1]
  have BS1 : fx_WB S1 := fx_WB_eq BS (fun q => f1 67 q (by omega)) (fun q => f1 68 q (by omega)) (fun q => f1 69 q (by omega))
  unfold s52 at p2
  obtain ⟨q2, f2, BS2⟩ := p2 BS1
  have z2 : S2.2.2 = S1.2.2 := by rw [q2]
  have r2 : ∀ p i : Int, S2.2.1 p i = S1.2.1 p i := fun p i => by rw [q2]
  have h_s : fx_Rs S2.1 := fx_Rs_eq (fx_iS hR) (fun p i hp => ((f2 p i (by omega))).trans ((f1 p i (by omega))))
  have h_d : fx_Rd S2.1 1 (S2.1 67) := fx_Rd_eq (fx_iRd hR) (((f2 1 0 (by omega))).trans ((f1 1 0 (by omega)))) (((f2 67 0 (by omega))).trans ((f1 67 0 (by omega))))
  have h_v : fx_Rv S2.1 1 (S2.1 67) := fx_Rv_eq BS.1 (fx_iRv hR) (((f2 2 0 (by omega))).trans ((f1 2 0 (by omega)))) (fun j i _ j0 j1 => ((f2 (1 + j) i (by omega))).trans ((f1 (1 + j) i (by omega)))) (fun i hi => ((f2 67 i (by omega))).trans ((f1 67 i (by omega))))
  have h_m : fx_Rm S2.1 1 (S2.1 67) := fx_Rm_eq BS.1 (fx_iRm hR) (((f2 2 4 (by omega))).trans ((f1 2 4 (by omega)))) (fun j i _ j0 j1 => ((f2 (1 + j) i (by omega))).trans ((f1 (1 + j) i (by omega)))) (fun i hi => ((f2 67 i (by omega))).trans ((f1 67 i (by omega))))
  have h_p : fx_Rp S2.1 1 (S2.1 67) := fx_Rp_eq BS.1 (fx_iRp hR) (fun j i _ j0 j1 => ((f2 (1 + j) i (by omega))).trans ((f1 (1 + j) i (by omega)))) (fun i hi => ((f2 67 i (by omega))).trans ((f1 67 i (by omega)))) (Int.le_of_eq (((f2 67 0 (by omega))).trans ((f1 67 0 (by omega)))).symm) (Int.le_of_eq (((f2 67 1 (by omega))).trans ((f1 67 1 (by omega)))).symm) (Int.le_of_eq (((f2 67 5 (by omega))).trans ((f1 67 5 (by omega)))).symm)
  have h_h : fx_Rh S2.1 1 (S2.1 67) := fx_Rh_eq BS.1 (fx_iRh hR) (fun j i _ j0 j1 => ((f2 (1 + j) i (by omega))).trans ((f1 (1 + j) i (by omega)))) (fun i hi => ((f2 67 i (by omega))).trans ((f1 67 i (by omega))))
  exact pz (fx_RI_step hR BS2 (fun k => ((r2 49 k)).trans ((r1 49 k))) (by omega) (fun p i p0 p1 => ((f2 p i (by omega))).trans ((f1 p i (by omega)))) (fun i => ((f2 68 i (by omega))).trans ((f1 68 i (by omega)))) (fun i => ((f2 69 i (by omega))).trans ((f1 69 i (by omega)))) h_s ⟨h_d, h_v, h_m, h_p, h_h⟩)
