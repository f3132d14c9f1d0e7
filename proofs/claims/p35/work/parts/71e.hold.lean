/-! each contract holds, by those before it -/
theorem ck_thm177 : ck_ok1 ck_sites [ck_con166, ck_con167, ck_con168, ck_con169, ck_con170, ck_con171, ck_con173, ck_con174, ck_con176] ck_hea177 20000 ck_con177 = true := by decide +kernel
