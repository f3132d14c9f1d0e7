/-! each contract holds, by those before it -/
theorem ck_thm181 : ck_ok1 ck_sites [ck_con170, ck_con171, ck_con172, ck_con173, ck_con174, ck_con175, ck_con177, ck_con178, ck_con180] ck_hea181 20000 ck_con181 = true := by decide +kernel
