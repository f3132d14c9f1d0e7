/-! each contract holds, by those before it -/
theorem ck_thm174 : ck_ok1 ck_sites [ck_con163, ck_con164, ck_con165, ck_con166, ck_con167, ck_con168, ck_con170, ck_con171, ck_con173] ck_hea174 20000 ck_con174 = true := by decide +kernel
