/-! each contract holds, by those before it -/
theorem ck_thm166 : ck_ok1 ck_sites [ck_con155, ck_con156, ck_con157, ck_con158, ck_con159, ck_con160, ck_con162, ck_con163, ck_con165] ck_hea166 20000 ck_con166 = true := by decide +kernel
