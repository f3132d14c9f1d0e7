/-! each contract holds, by those before it -/
theorem ck_thm230 : ck_ok1 ck_sites [] ck_hea230 20000 ck_con230 = true := by decide +kernel
theorem ck_thm231 : ck_ok1 ck_sites [] ck_hea231 20000 ck_con231 = true := by decide +kernel
theorem ck_thm232 : ck_ok1 ck_sites [ck_con230, ck_con231] ck_hea232 20000 ck_con232 = true := by decide +kernel
theorem ck_thm233 : ck_ok1 ck_sites [ck_con230, ck_con232] ck_hea233 20000 ck_con233 = true := by decide +kernel
theorem ck_thm234 : ck_ok1 ck_sites [ck_con230, ck_con233] ck_hea234 20000 ck_con234 = true := by decide +kernel
theorem ck_thm235 : ck_ok1 ck_sites [ck_con230, ck_con234] ck_hea235 20000 ck_con235 = true := by decide +kernel
theorem ck_thm236 : ck_ok1 ck_sites [ck_con230, ck_con235] ck_hea236 20000 ck_con236 = true := by decide +kernel
theorem ck_thm237 : ck_ok1 ck_sites [ck_con230, ck_con236] ck_hea237 20000 ck_con237 = true := by decide +kernel
theorem ck_thm238 : ck_ok1 ck_sites [ck_con230, ck_con237] ck_hea238 20000 ck_con238 = true := by decide +kernel
theorem ck_thm239 : ck_ok1 ck_sites [ck_con238] ck_hea239 20000 ck_con239 = true := by decide +kernel
theorem ck_thm240 : ck_ok1 ck_sites [] ck_hea240 20000 ck_con240 = true := by decide +kernel
theorem ck_thm241 : ck_ok1 ck_sites [] ck_hea241 20000 ck_con241 = true := by decide +kernel
theorem ck_thm242 : ck_ok1 ck_sites [] ck_hea242 20000 ck_con242 = true := by decide +kernel
theorem ck_thm243 : ck_ok1 ck_sites [] ck_hea243 20000 ck_con243 = true := by decide +kernel
theorem ck_thm244 : ck_ok1 ck_sites [] ck_hea244 20000 ck_con244 = true := by decide +kernel
theorem ck_thm245 : ck_ok1 ck_sites [] ck_hea245 20000 ck_con245 = true := by decide +kernel
theorem ck_thm246 : ck_ok1 ck_sites [ck_con179] ck_hea246 20000 ck_con246 = true := by decide +kernel
