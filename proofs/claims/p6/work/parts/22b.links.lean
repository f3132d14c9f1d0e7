/-! THE CHECKER: links, what is told beside the reference's world: the part of a Told (0: itself), its class, field, the place in the world -/
def ck_lks : List (Nat × Nat × Nat × Nat) := [(1, 1, 0, 1), (1, 1, 4, 6)]
def ck_pfs : List Nat := [0, 1]
def ck_pks : List Nat := [10, 1]
theorem ck_pfs0 : 0 ∈ ck_pfs := by decide
theorem ck_lks_ok : ∀ L ∈ ck_lks, L.1 ∈ ck_pfs ∧ L.2.2.2 < 8090 ∧ (cz_df L.2.1)[L.2.2.1]? = some (.int 0) := by decide +kernel
