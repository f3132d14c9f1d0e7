/-! each contract holds, by those before it -/
theorem ck_thm223 : ck_ok1 ck_sites [ck_con186, ck_con212, ck_con213, ck_con216, ck_con222] ck_hea223 20000 ck_con223 = true := by decide +kernel
theorem ck_thm224 : ck_ok1 ck_sites [] ck_hea224 20000 ck_con224 = true := by decide +kernel
theorem ck_thm225 : ck_ok1 ck_sites [ck_con224] ck_hea225 20000 ck_con225 = true := by decide +kernel
theorem ck_thm226 : ck_ok1 ck_sites [ck_con197] ck_hea226 20000 ck_con226 = true := by decide +kernel
theorem ck_thm227 : ck_ok1 ck_sites [ck_con183, ck_con188] ck_hea227 20000 ck_con227 = true := by decide +kernel
theorem ck_thm228 : ck_ok1 ck_sites [ck_con226, ck_con227] ck_hea228 20000 ck_con228 = true := by decide +kernel
theorem ck_thm229 : ck_ok1 ck_sites [ck_con226, ck_con227] ck_hea229 20000 ck_con229 = true := by decide +kernel
theorem ck_thm230 : ck_ok1 ck_sites [] ck_hea230 20000 ck_con230 = true := by decide +kernel
theorem ck_thm231 : ck_ok1 ck_sites [] ck_hea231 20000 ck_con231 = true := by decide +kernel
theorem ck_thm232 : ck_ok1 ck_sites [ck_con231] ck_hea232 20000 ck_con232 = true := by decide +kernel
theorem ck_thm233 : ck_ok1 ck_sites [] ck_hea233 20000 ck_con233 = true := by decide +kernel
theorem ck_thm234 : ck_ok1 ck_sites [] ck_hea234 20000 ck_con234 = true := by decide +kernel
theorem ck_thm235 : ck_ok1 ck_sites [ck_con234] ck_hea235 20000 ck_con235 = true := by decide +kernel
theorem ck_thm236 : ck_ok1 ck_sites [] ck_hea236 20000 ck_con236 = true := by decide +kernel
theorem ck_thm237 : ck_ok1 ck_sites [] ck_hea237 20000 ck_con237 = true := by decide +kernel
theorem ck_thm238 : ck_ok1 ck_sites [] ck_hea238 20000 ck_con238 = true := by decide +kernel
theorem ck_thm239 : ck_ok1 ck_sites [] ck_hea239 20000 ck_con239 = true := by decide +kernel
theorem ck_thm240 : ck_ok1 ck_sites [ck_con238, ck_con239] ck_hea240 20000 ck_con240 = true := by decide +kernel
theorem ck_thm241 : ck_ok1 ck_sites [ck_con238, ck_con239] ck_hea241 20000 ck_con241 = true := by decide +kernel
theorem ck_thm242 : ck_ok1 ck_sites [ck_con238] ck_hea242 20000 ck_con242 = true := by decide +kernel
theorem ck_thm243 : ck_ok1 ck_sites [] ck_hea243 20000 ck_con243 = true := by decide +kernel
theorem ck_thm244 : ck_ok1 ck_sites [] ck_hea244 20000 ck_con244 = true := by decide +kernel
theorem ck_thm245 : ck_ok1 ck_sites [] ck_hea245 20000 ck_con245 = true := by decide +kernel
theorem ck_thm246 : ck_ok1 ck_sites [] ck_hea246 20000 ck_con246 = true := by decide +kernel
theorem ck_thm247 : ck_ok1 ck_sites [ck_con245, ck_con246] ck_hea247 20000 ck_con247 = true := by decide +kernel
theorem ck_thm248 : ck_ok1 ck_sites [ck_con245, ck_con247] ck_hea248 20000 ck_con248 = true := by decide +kernel
theorem ck_thm249 : ck_ok1 ck_sites [ck_con245, ck_con248] ck_hea249 20000 ck_con249 = true := by decide +kernel
theorem ck_thm250 : ck_ok1 ck_sites [ck_con245, ck_con249] ck_hea250 20000 ck_con250 = true := by decide +kernel
theorem ck_thm251 : ck_ok1 ck_sites [ck_con245, ck_con250] ck_hea251 20000 ck_con251 = true := by decide +kernel
theorem ck_thm252 : ck_ok1 ck_sites [ck_con245, ck_con251] ck_hea252 20000 ck_con252 = true := by decide +kernel
theorem ck_thm253 : ck_ok1 ck_sites [ck_con245, ck_con252] ck_hea253 20000 ck_con253 = true := by decide +kernel
theorem ck_thm254 : ck_ok1 ck_sites [ck_con253] ck_hea254 20000 ck_con254 = true := by decide +kernel
theorem ck_thm255 : ck_ok1 ck_sites [] ck_hea255 20000 ck_con255 = true := by decide +kernel
theorem ck_thm256 : ck_ok1 ck_sites [] ck_hea256 20000 ck_con256 = true := by decide +kernel
