/-! each contract holds, by those before it -/
theorem ck_thm175 : ck_ok1 ck_sites [ck_con164, ck_con165, ck_con166, ck_con167, ck_con168, ck_con169, ck_con171, ck_con172, ck_con174] ck_hea175 20000 ck_con175 = true := by decide +kernel
