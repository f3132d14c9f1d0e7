/-! each contract holds, by those before it -/
theorem ck_thm201 : ck_ok1 ck_sites [ck_con192] ck_hea201 20000 ck_con201 = true := by decide +kernel
theorem ck_thm202 : ck_ok1 ck_sites [] ck_hea202 20000 ck_con202 = true := by decide +kernel
theorem ck_thm203 : ck_ok1 ck_sites [] ck_hea203 20000 ck_con203 = true := by decide +kernel
theorem ck_thm204 : ck_ok1 ck_sites [] ck_hea204 20000 ck_con204 = true := by decide +kernel
theorem ck_thm205 : ck_ok1 ck_sites [] ck_hea205 20000 ck_con205 = true := by decide +kernel
theorem ck_thm206 : ck_ok1 ck_sites [ck_con194] ck_hea206 20000 ck_con206 = true := by decide +kernel
theorem ck_thm207 : ck_ok1 ck_sites [] ck_hea207 20000 ck_con207 = true := by decide +kernel
theorem ck_thm208 : ck_ok1 ck_sites [] ck_hea208 20000 ck_con208 = true := by decide +kernel
theorem ck_thm209 : ck_ok1 ck_sites [ck_con180] ck_hea209 20000 ck_con209 = true := by decide +kernel
theorem ck_thm210 : ck_ok1 ck_sites [ck_con179, ck_con205, ck_con207, ck_con208, ck_con209] ck_hea210 20000 ck_con210 = true := by decide +kernel
theorem ck_thm211 : ck_ok1 ck_sites [ck_con176, ck_con190, ck_con206, ck_con210] ck_hea211 20000 ck_con211 = true := by decide +kernel
theorem ck_thm212 : ck_ok1 ck_sites [ck_con205, ck_con206, ck_con207, ck_con209] ck_hea212 20000 ck_con212 = true := by decide +kernel
theorem ck_thm213 : ck_ok1 ck_sites [ck_con206, ck_con210] ck_hea213 20000 ck_con213 = true := by decide +kernel
theorem ck_thm214 : ck_ok1 ck_sites [] ck_hea214 20000 ck_con214 = true := by decide +kernel
theorem ck_thm215 : ck_ok1 ck_sites [ck_con214] ck_hea215 20000 ck_con215 = true := by decide +kernel
