/-! each contract holds, by those before it -/
theorem ck_thm156 : ck_ok1 ck_sites [ck_con3, ck_con16, ck_con44, ck_con49, ck_con83] ck_hea156 20000 ck_con156 = true := by decide +kernel
theorem ck_thm157 : ck_ok1 ck_sites [ck_con3, ck_con16, ck_con44, ck_con49] ck_hea157 20000 ck_con157 = true := by decide +kernel
theorem ck_thm158 : ck_ok1 ck_sites [ck_con82] ck_hea158 20000 ck_con158 = true := by decide +kernel
theorem ck_thm159 : ck_ok1 ck_sites [] ck_hea159 20000 ck_con159 = true := by decide +kernel
theorem ck_thm160 : ck_ok1 ck_sites [] ck_hea160 20000 ck_con160 = true := by decide +kernel
theorem ck_thm161 : ck_ok1 ck_sites [] ck_hea161 20000 ck_con161 = true := by decide +kernel
theorem ck_thm162 : ck_ok1 ck_sites [] ck_hea162 20000 ck_con162 = true := by decide +kernel
theorem ck_thm163 : ck_ok1 ck_sites [] ck_hea163 20000 ck_con163 = true := by decide +kernel
theorem ck_thm164 : ck_ok1 ck_sites [] ck_hea164 20000 ck_con164 = true := by decide +kernel
theorem ck_thm165 : ck_ok1 ck_sites [] ck_hea165 20000 ck_con165 = true := by decide +kernel
theorem ck_thm166 : ck_ok1 ck_sites [] ck_hea166 20000 ck_con166 = true := by decide +kernel
theorem ck_thm167 : ck_ok1 ck_sites [] ck_hea167 20000 ck_con167 = true := by decide +kernel
theorem ck_thm168 : ck_ok1 ck_sites [] ck_hea168 20000 ck_con168 = true := by decide +kernel
theorem ck_thm169 : ck_ok1 ck_sites [] ck_hea169 20000 ck_con169 = true := by decide +kernel
theorem ck_thm170 : ck_ok1 ck_sites [] ck_hea170 20000 ck_con170 = true := by decide +kernel
theorem ck_thm171 : ck_ok1 ck_sites [] ck_hea171 20000 ck_con171 = true := by decide +kernel
theorem ck_thm172 : ck_ok1 ck_sites [ck_con170, ck_con171] ck_hea172 20000 ck_con172 = true := by decide +kernel
theorem ck_thm173 : ck_ok1 ck_sites [ck_con170] ck_hea173 20000 ck_con173 = true := by decide +kernel
theorem ck_thm174 : ck_ok1 ck_sites [ck_con170] ck_hea174 20000 ck_con174 = true := by decide +kernel
theorem ck_thm175 : ck_ok1 ck_sites [ck_con170] ck_hea175 20000 ck_con175 = true := by decide +kernel
theorem ck_thm176 : ck_ok1 ck_sites [ck_con170] ck_hea176 20000 ck_con176 = true := by decide +kernel
theorem ck_thm177 : ck_ok1 ck_sites [ck_con171] ck_hea177 20000 ck_con177 = true := by decide +kernel
theorem ck_thm178 : ck_ok1 ck_sites [ck_con171] ck_hea178 20000 ck_con178 = true := by decide +kernel
theorem ck_thm179 : ck_ok1 ck_sites [ck_con171] ck_hea179 20000 ck_con179 = true := by decide +kernel
