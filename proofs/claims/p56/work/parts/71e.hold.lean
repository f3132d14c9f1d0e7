/-! each contract holds, by those before it -/
theorem ck_thm178 : ck_ok1 ck_sites [ck_con168, ck_con169, ck_con170, ck_con173, ck_con174, ck_con177] ck_hea178 20000 ck_con178 = true := by decide +kernel
