/-! each contract holds, by those before it -/
theorem ck_thm250 : ck_ok1 ck_sites [] ck_hea250 20000 ck_con250 = true := by decide +kernel
theorem ck_thm251 : ck_ok1 ck_sites [] ck_hea251 20000 ck_con251 = true := by decide +kernel
theorem ck_thm252 : ck_ok1 ck_sites [] ck_hea252 20000 ck_con252 = true := by decide +kernel
theorem ck_thm253 : ck_ok1 ck_sites [] ck_hea253 20000 ck_con253 = true := by decide +kernel
theorem ck_thm254 : ck_ok1 ck_sites [] ck_hea254 20000 ck_con254 = true := by decide +kernel
theorem ck_thm255 : ck_ok1 ck_sites [ck_con187] ck_hea255 20000 ck_con255 = true := by decide +kernel
