/-! each contract holds, by those before it -/
theorem ck_thm165 : ck_ok1 ck_sites [ck_con155, ck_con156, ck_con157, ck_con160, ck_con161, ck_con164] ck_hea165 20000 ck_con165 = true := by decide +kernel
