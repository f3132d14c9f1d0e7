/-! each contract holds, by those before it -/
theorem ck_thm143 : ck_ok1 ck_sites [ck_con1, ck_con13, ck_con38, ck_con42] ck_hea143 20000 ck_con143 = true := by decide +kernel
theorem ck_thm144 : ck_ok1 ck_sites [ck_con1, ck_con13, ck_con38, ck_con42] ck_hea144 20000 ck_con144 = true := by decide +kernel
theorem ck_thm145 : ck_ok1 ck_sites [] ck_hea145 20000 ck_con145 = true := by decide +kernel
theorem ck_thm146 : ck_ok1 ck_sites [] ck_hea146 20000 ck_con146 = true := by decide +kernel
theorem ck_thm147 : ck_ok1 ck_sites [] ck_hea147 20000 ck_con147 = true := by decide +kernel
theorem ck_thm148 : ck_ok1 ck_sites [] ck_hea148 20000 ck_con148 = true := by decide +kernel
theorem ck_thm149 : ck_ok1 ck_sites [] ck_hea149 20000 ck_con149 = true := by decide +kernel
theorem ck_thm150 : ck_ok1 ck_sites [] ck_hea150 20000 ck_con150 = true := by decide +kernel
theorem ck_thm151 : ck_ok1 ck_sites [] ck_hea151 20000 ck_con151 = true := by decide +kernel
theorem ck_thm152 : ck_ok1 ck_sites [] ck_hea152 20000 ck_con152 = true := by decide +kernel
theorem ck_thm153 : ck_ok1 ck_sites [] ck_hea153 20000 ck_con153 = true := by decide +kernel
theorem ck_thm154 : ck_ok1 ck_sites [] ck_hea154 20000 ck_con154 = true := by decide +kernel
theorem ck_thm155 : ck_ok1 ck_sites [] ck_hea155 20000 ck_con155 = true := by decide +kernel
theorem ck_thm156 : ck_ok1 ck_sites [] ck_hea156 20000 ck_con156 = true := by decide +kernel
theorem ck_thm157 : ck_ok1 ck_sites [ck_con155, ck_con156] ck_hea157 20000 ck_con157 = true := by decide +kernel
theorem ck_thm158 : ck_ok1 ck_sites [ck_con155] ck_hea158 20000 ck_con158 = true := by decide +kernel
theorem ck_thm159 : ck_ok1 ck_sites [ck_con155] ck_hea159 20000 ck_con159 = true := by decide +kernel
theorem ck_thm160 : ck_ok1 ck_sites [ck_con155] ck_hea160 20000 ck_con160 = true := by decide +kernel
theorem ck_thm161 : ck_ok1 ck_sites [ck_con155] ck_hea161 20000 ck_con161 = true := by decide +kernel
theorem ck_thm162 : ck_ok1 ck_sites [ck_con156] ck_hea162 20000 ck_con162 = true := by decide +kernel
theorem ck_thm163 : ck_ok1 ck_sites [ck_con156] ck_hea163 20000 ck_con163 = true := by decide +kernel
theorem ck_thm164 : ck_ok1 ck_sites [ck_con156] ck_hea164 20000 ck_con164 = true := by decide +kernel
