/-! each contract holds, by those before it -/
theorem ck_thm193 : ck_ok1 ck_sites [ck_con184] ck_hea193 20000 ck_con193 = true := by decide +kernel
theorem ck_thm194 : ck_ok1 ck_sites [] ck_hea194 20000 ck_con194 = true := by decide +kernel
theorem ck_thm195 : ck_ok1 ck_sites [] ck_hea195 20000 ck_con195 = true := by decide +kernel
theorem ck_thm196 : ck_ok1 ck_sites [] ck_hea196 20000 ck_con196 = true := by decide +kernel
theorem ck_thm197 : ck_ok1 ck_sites [] ck_hea197 20000 ck_con197 = true := by decide +kernel
theorem ck_thm198 : ck_ok1 ck_sites [ck_con186] ck_hea198 20000 ck_con198 = true := by decide +kernel
theorem ck_thm199 : ck_ok1 ck_sites [] ck_hea199 20000 ck_con199 = true := by decide +kernel
theorem ck_thm200 : ck_ok1 ck_sites [] ck_hea200 20000 ck_con200 = true := by decide +kernel
theorem ck_thm201 : ck_ok1 ck_sites [ck_con172] ck_hea201 20000 ck_con201 = true := by decide +kernel
theorem ck_thm202 : ck_ok1 ck_sites [ck_con171, ck_con197, ck_con199, ck_con200, ck_con201] ck_hea202 20000 ck_con202 = true := by decide +kernel
