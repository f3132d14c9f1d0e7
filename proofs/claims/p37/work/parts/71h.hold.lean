/-! each contract holds, by those before it -/
theorem ck_thm208 : ck_ok1 ck_sites [ck_con199] ck_hea208 20000 ck_con208 = true := by decide +kernel
theorem ck_thm209 : ck_ok1 ck_sites [] ck_hea209 20000 ck_con209 = true := by decide +kernel
theorem ck_thm210 : ck_ok1 ck_sites [] ck_hea210 20000 ck_con210 = true := by decide +kernel
theorem ck_thm211 : ck_ok1 ck_sites [] ck_hea211 20000 ck_con211 = true := by decide +kernel
theorem ck_thm212 : ck_ok1 ck_sites [] ck_hea212 20000 ck_con212 = true := by decide +kernel
theorem ck_thm213 : ck_ok1 ck_sites [ck_con201] ck_hea213 20000 ck_con213 = true := by decide +kernel
theorem ck_thm214 : ck_ok1 ck_sites [] ck_hea214 20000 ck_con214 = true := by decide +kernel
theorem ck_thm215 : ck_ok1 ck_sites [] ck_hea215 20000 ck_con215 = true := by decide +kernel
theorem ck_thm216 : ck_ok1 ck_sites [ck_con187] ck_hea216 20000 ck_con216 = true := by decide +kernel
theorem ck_thm217 : ck_ok1 ck_sites [ck_con186, ck_con212, ck_con214, ck_con215, ck_con216] ck_hea217 20000 ck_con217 = true := by decide +kernel
theorem ck_thm218 : ck_ok1 ck_sites [ck_con183, ck_con197, ck_con213, ck_con217] ck_hea218 20000 ck_con218 = true := by decide +kernel
theorem ck_thm219 : ck_ok1 ck_sites [ck_con212, ck_con213, ck_con214, ck_con216] ck_hea219 20000 ck_con219 = true := by decide +kernel
theorem ck_thm220 : ck_ok1 ck_sites [ck_con213, ck_con217] ck_hea220 20000 ck_con220 = true := by decide +kernel
theorem ck_thm221 : ck_ok1 ck_sites [] ck_hea221 20000 ck_con221 = true := by decide +kernel
theorem ck_thm222 : ck_ok1 ck_sites [ck_con221] ck_hea222 20000 ck_con222 = true := by decide +kernel
