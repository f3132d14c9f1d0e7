/-! each contract holds, by those before it -/
theorem ck_thm179 : ck_ok1 ck_sites [ck_con168, ck_con169, ck_con170, ck_con171, ck_con172, ck_con173, ck_con175, ck_con176, ck_con178] ck_hea179 20000 ck_con179 = true := by decide +kernel
