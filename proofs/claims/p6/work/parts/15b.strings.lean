def cz_tx : List String := ["nation", "fee", "vote", "part", "turn", "if", "not", "land", "x", "y", "near", "and", "heads", "nations"]
def cz_srw (t : Nat × Nat × Nat) : Cond := .stringRef (cz_on t.1) t.2.1 (cz_tx.getD t.2.2 "")
def cz_srx : List Nat := [618, 671, 673, 674, 672, 738, 739, 702, 733, 707, 712, 713, 714, 715, 1548, 1555, 1556, 1557, 1558, 1589, 1590, 1591, 1592, 1584, 1575, 1597, 1598, 1599]
def cz_tix : List Nat := [49, 66, 92, 71, 76, 102, 109, 114, 120, 126, 128, 107, 94, 100]
def cz_tiy : List Nat := [178, 180, 182, 184, 186, 210, 196, 188, 190, 192, 194, 215, 224, 223]
theorem cz_sr_in : ∀ t ∈ cz_sr, cz_srw t ∈ lw_tbl := cz_zip_all (x := cz_srx) (by decide +kernel) (by decide +kernel)
