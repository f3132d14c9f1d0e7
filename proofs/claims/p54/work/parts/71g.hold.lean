/-! each contract holds, by those before it -/
theorem ck_thm167 : ck_ok1 ck_sites [] ck_hea167 20000 ck_con167 = true := by decide +kernel
theorem ck_thm168 : ck_ok1 ck_sites [] ck_hea168 20000 ck_con168 = true := by decide +kernel
theorem ck_thm169 : ck_ok1 ck_sites [ck_con168] ck_hea169 20000 ck_con169 = true := by decide +kernel
theorem ck_thm170 : ck_ok1 ck_sites [] ck_hea170 20000 ck_con170 = true := by decide +kernel
theorem ck_thm171 : ck_ok1 ck_sites [] ck_hea171 20000 ck_con171 = true := by decide +kernel
theorem ck_thm172 : ck_ok1 ck_sites [] ck_hea172 20000 ck_con172 = true := by decide +kernel
theorem ck_thm173 : ck_ok1 ck_sites [] ck_hea173 20000 ck_con173 = true := by decide +kernel
theorem ck_thm174 : ck_ok1 ck_sites [] ck_hea174 20000 ck_con174 = true := by decide +kernel
theorem ck_thm175 : ck_ok1 ck_sites [ck_con174] ck_hea175 20000 ck_con175 = true := by decide +kernel
theorem ck_thm176 : ck_ok1 ck_sites [ck_con154, ck_con168, ck_con174] ck_hea176 20000 ck_con176 = true := by decide +kernel
theorem ck_thm177 : ck_ok1 ck_sites [ck_con154, ck_con168, ck_con175] ck_hea177 20000 ck_con177 = true := by decide +kernel
theorem ck_thm178 : ck_ok1 ck_sites [ck_con154, ck_con168, ck_con175] ck_hea178 20000 ck_con178 = true := by decide +kernel
theorem ck_thm179 : ck_ok1 ck_sites [] ck_hea179 20000 ck_con179 = true := by decide +kernel
theorem ck_thm180 : ck_ok1 ck_sites [] ck_hea180 20000 ck_con180 = true := by decide +kernel
theorem ck_thm181 : ck_ok1 ck_sites [] ck_hea181 20000 ck_con181 = true := by decide +kernel
theorem ck_thm182 : ck_ok1 ck_sites [ck_con154, ck_con168, ck_con175] ck_hea182 20000 ck_con182 = true := by decide +kernel
theorem ck_thm183 : ck_ok1 ck_sites [ck_con182] ck_hea183 20000 ck_con183 = true := by decide +kernel
theorem ck_thm184 : ck_ok1 ck_sites [ck_con182] ck_hea184 20000 ck_con184 = true := by decide +kernel
theorem ck_thm185 : ck_ok1 ck_sites [ck_con182] ck_hea185 20000 ck_con185 = true := by decide +kernel
theorem ck_thm186 : ck_ok1 ck_sites [ck_con154, ck_con175] ck_hea186 20000 ck_con186 = true := by decide +kernel
theorem ck_thm187 : ck_ok1 ck_sites [ck_con186] ck_hea187 20000 ck_con187 = true := by decide +kernel
theorem ck_thm188 : ck_ok1 ck_sites [ck_con168, ck_con170] ck_hea188 20000 ck_con188 = true := by decide +kernel
theorem ck_thm189 : ck_ok1 ck_sites [ck_con188] ck_hea189 20000 ck_con189 = true := by decide +kernel
theorem ck_thm190 : ck_ok1 ck_sites [ck_con182] ck_hea190 20000 ck_con190 = true := by decide +kernel
theorem ck_thm191 : ck_ok1 ck_sites [] ck_hea191 20000 ck_con191 = true := by decide +kernel
theorem ck_thm192 : ck_ok1 ck_sites [ck_con188] ck_hea192 20000 ck_con192 = true := by decide +kernel
