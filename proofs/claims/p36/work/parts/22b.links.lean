/-! THE CHECKER: links, what is told beside the reference's world: the part of a Told (0: itself), its class, field, the place in the world; rows: the part, its class, field, the row's kind, where the other side begins, its stride, how many -/
def ck_lks : List (Nat × Nat × Nat × Nat) := [(5, 3, 0, 5)]
def ck_las : List (Nat × Nat × Nat × Nat × Nat × Nat × Nat) := [(5, 3, 2, 36, 7101, 4, 12), (5, 3, 3, 37, 7102, 4, 12), (5, 3, 4, 38, 7103, 4, 12)]
/-- the fields on the way to a part -/
def ck_pth (f : Nat) : List (Nat × Nat) := if f = 0 then [] else if f < 100 then [(10, f)] else match ck_las[f - 100]? with
  | some L => [(10, L.1), (L.2.1, L.2.2.1)]
  | none => []
def ck_pfs : List Nat := [0, 5, 100, 101, 102]
def ck_pks : List Nat := [3, 10, 136, 137, 138]
theorem ck_pfs0 : 0 ∈ ck_pfs := by decide
theorem ck_pth0 : ck_pth 0 = [] := rfl
theorem ck_pcl : ∀ f ∈ ck_pfs, ∀ i : Nat, i < (ck_pth f).length → ∃ f' ∈ ck_pfs, ck_pth f' = (ck_pth f).take i := by decide
theorem ck_pth_ne : ∀ f ∈ ck_pfs, 100 ≤ f → ck_pth f ≠ [] := by decide
theorem ck_lks_ok : ∀ L ∈ ck_lks, L.1 ∈ ck_pfs ∧ L.2.2.2 < 8090 ∧ (cz_df L.2.1)[L.2.2.1]? = some (.int 0) := by decide +kernel
theorem ck_las_pf : ∀ j : Nat, j < ck_las.length → 100 + j ∈ ck_pfs := by decide
theorem ck_las_ok0 : ∀ L ∈ ck_las, (0 < L.2.2.2.2.2.2 ∧ 0 < L.2.2.2.2.2.1) ∧ 0 < L.2.2.2.2.2.2 ∧ L.2.2.2.2.1 + L.2.2.2.2.2.1 * (L.2.2.2.2.2.2 - 1) < 8090 ∧ L.2.2.2.1 ≠ 71 ∧ L.2.2.2.1 ≠ 77 ∧ L.2.2.2.1 ≠ 78 ∧ L.1 ∈ ck_pfs := by decide
theorem ck_lac_pos {j : Nat} {L : Nat × Nat × Nat × Nat × Nat × Nat × Nat} (h : ck_las[j]? = some L) : 0 < L.2.2.2.2.2.2 ∧ 0 < L.2.2.2.2.2.1 := (ck_las_ok0 L (List.mem_of_getElem? h)).1
theorem ck_las_ok {j : Nat} {L : Nat × Nat × Nat × Nat × Nat × Nat × Nat} (h : ck_las[j]? = some L) : 0 < L.2.2.2.2.2.2 ∧ L.2.2.2.2.1 + L.2.2.2.2.2.1 * (L.2.2.2.2.2.2 - 1) < 8090 ∧ L.2.2.2.1 ≠ 71 ∧ L.2.2.2.1 ≠ 77 ∧ L.2.2.2.1 ≠ 78 ∧ L.1 ∈ ck_pfs := (ck_las_ok0 L (List.mem_of_getElem? h)).2
