/-! each contract holds, by those before it -/
theorem ck_thm203 : ck_ok1 ck_sites [ck_con168, ck_con182, ck_con198, ck_con202] ck_hea203 20000 ck_con203 = true := by decide +kernel
theorem ck_thm204 : ck_ok1 ck_sites [ck_con197, ck_con198, ck_con199, ck_con201] ck_hea204 20000 ck_con204 = true := by decide +kernel
theorem ck_thm205 : ck_ok1 ck_sites [ck_con198, ck_con202] ck_hea205 20000 ck_con205 = true := by decide +kernel
theorem ck_thm206 : ck_ok1 ck_sites [] ck_hea206 20000 ck_con206 = true := by decide +kernel
theorem ck_thm207 : ck_ok1 ck_sites [ck_con206] ck_hea207 20000 ck_con207 = true := by decide +kernel
theorem ck_thm208 : ck_ok1 ck_sites [ck_con171, ck_con197, ck_con198, ck_con201, ck_con207] ck_hea208 20000 ck_con208 = true := by decide +kernel
theorem ck_thm209 : ck_ok1 ck_sites [] ck_hea209 20000 ck_con209 = true := by decide +kernel
theorem ck_thm210 : ck_ok1 ck_sites [ck_con209] ck_hea210 20000 ck_con210 = true := by decide +kernel
theorem ck_thm211 : ck_ok1 ck_sites [ck_con182] ck_hea211 20000 ck_con211 = true := by decide +kernel
theorem ck_thm212 : ck_ok1 ck_sites [ck_con168, ck_con173] ck_hea212 20000 ck_con212 = true := by decide +kernel
theorem ck_thm213 : ck_ok1 ck_sites [ck_con211, ck_con212] ck_hea213 20000 ck_con213 = true := by decide +kernel
theorem ck_thm214 : ck_ok1 ck_sites [ck_con211, ck_con212] ck_hea214 20000 ck_con214 = true := by decide +kernel
theorem ck_thm215 : ck_ok1 ck_sites [] ck_hea215 20000 ck_con215 = true := by decide +kernel
theorem ck_thm216 : ck_ok1 ck_sites [] ck_hea216 20000 ck_con216 = true := by decide +kernel
theorem ck_thm217 : ck_ok1 ck_sites [ck_con216] ck_hea217 20000 ck_con217 = true := by decide +kernel
theorem ck_thm218 : ck_ok1 ck_sites [] ck_hea218 20000 ck_con218 = true := by decide +kernel
theorem ck_thm219 : ck_ok1 ck_sites [] ck_hea219 20000 ck_con219 = true := by decide +kernel
theorem ck_thm220 : ck_ok1 ck_sites [ck_con219] ck_hea220 20000 ck_con220 = true := by decide +kernel
theorem ck_thm221 : ck_ok1 ck_sites [] ck_hea221 20000 ck_con221 = true := by decide +kernel
theorem ck_thm222 : ck_ok1 ck_sites [] ck_hea222 20000 ck_con222 = true := by decide +kernel
theorem ck_thm223 : ck_ok1 ck_sites [] ck_hea223 20000 ck_con223 = true := by decide +kernel
theorem ck_thm224 : ck_ok1 ck_sites [] ck_hea224 20000 ck_con224 = true := by decide +kernel
theorem ck_thm225 : ck_ok1 ck_sites [ck_con223, ck_con224] ck_hea225 20000 ck_con225 = true := by decide +kernel
theorem ck_thm226 : ck_ok1 ck_sites [ck_con223, ck_con224] ck_hea226 20000 ck_con226 = true := by decide +kernel
theorem ck_thm227 : ck_ok1 ck_sites [ck_con223] ck_hea227 20000 ck_con227 = true := by decide +kernel
theorem ck_thm228 : ck_ok1 ck_sites [] ck_hea228 20000 ck_con228 = true := by decide +kernel
theorem ck_thm229 : ck_ok1 ck_sites [] ck_hea229 20000 ck_con229 = true := by decide +kernel
