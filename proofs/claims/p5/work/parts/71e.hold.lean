/-! each contract holds, by those before it -/
theorem ck_thm176 : ck_ok1 ck_sites [ck_con165, ck_con166, ck_con167, ck_con168, ck_con169, ck_con170, ck_con172, ck_con173, ck_con175] ck_hea176 20000 ck_con176 = true := by decide +kernel
