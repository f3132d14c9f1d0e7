/-! each contract holds, by those before it -/
theorem ck_thm180 : ck_ok1 ck_sites [ck_con170, ck_con171, ck_con172, ck_con175, ck_con176, ck_con179] ck_hea180 20000 ck_con180 = true := by decide +kernel
