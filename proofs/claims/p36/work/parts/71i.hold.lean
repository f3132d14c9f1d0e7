/-! each contract holds, by those before it -/
theorem ck_thm252 : ck_ok1 ck_sites [] ck_hea252 20000 ck_con252 = true := by decide +kernel
theorem ck_thm253 : ck_ok1 ck_sites [ck_con188] ck_hea253 20000 ck_con253 = true := by decide +kernel
