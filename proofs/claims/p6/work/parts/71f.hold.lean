/-! each contract holds, by those before it -/
theorem ck_thm175 : ck_ok1 ck_sites [] ck_hea175 20000 ck_con175 = true := by decide +kernel
theorem ck_thm176 : ck_ok1 ck_sites [] ck_hea176 20000 ck_con176 = true := by decide +kernel
theorem ck_thm177 : ck_ok1 ck_sites [ck_con176] ck_hea177 20000 ck_con177 = true := by decide +kernel
theorem ck_thm178 : ck_ok1 ck_sites [] ck_hea178 20000 ck_con178 = true := by decide +kernel
theorem ck_thm179 : ck_ok1 ck_sites [] ck_hea179 20000 ck_con179 = true := by decide +kernel
theorem ck_thm180 : ck_ok1 ck_sites [] ck_hea180 20000 ck_con180 = true := by decide +kernel
theorem ck_thm181 : ck_ok1 ck_sites [] ck_hea181 20000 ck_con181 = true := by decide +kernel
theorem ck_thm182 : ck_ok1 ck_sites [] ck_hea182 20000 ck_con182 = true := by decide +kernel
theorem ck_thm183 : ck_ok1 ck_sites [ck_con182] ck_hea183 20000 ck_con183 = true := by decide +kernel
theorem ck_thm184 : ck_ok1 ck_sites [ck_con162, ck_con176, ck_con182] ck_hea184 20000 ck_con184 = true := by decide +kernel
theorem ck_thm185 : ck_ok1 ck_sites [ck_con162, ck_con176, ck_con183] ck_hea185 20000 ck_con185 = true := by decide +kernel
theorem ck_thm186 : ck_ok1 ck_sites [ck_con162, ck_con176, ck_con183] ck_hea186 20000 ck_con186 = true := by decide +kernel
theorem ck_thm187 : ck_ok1 ck_sites [] ck_hea187 20000 ck_con187 = true := by decide +kernel
theorem ck_thm188 : ck_ok1 ck_sites [] ck_hea188 20000 ck_con188 = true := by decide +kernel
theorem ck_thm189 : ck_ok1 ck_sites [] ck_hea189 20000 ck_con189 = true := by decide +kernel
theorem ck_thm190 : ck_ok1 ck_sites [ck_con162, ck_con176, ck_con183] ck_hea190 20000 ck_con190 = true := by decide +kernel
theorem ck_thm191 : ck_ok1 ck_sites [ck_con190] ck_hea191 20000 ck_con191 = true := by decide +kernel
theorem ck_thm192 : ck_ok1 ck_sites [ck_con190] ck_hea192 20000 ck_con192 = true := by decide +kernel
theorem ck_thm193 : ck_ok1 ck_sites [ck_con190] ck_hea193 20000 ck_con193 = true := by decide +kernel
theorem ck_thm194 : ck_ok1 ck_sites [ck_con162, ck_con183] ck_hea194 20000 ck_con194 = true := by decide +kernel
theorem ck_thm195 : ck_ok1 ck_sites [ck_con194] ck_hea195 20000 ck_con195 = true := by decide +kernel
theorem ck_thm196 : ck_ok1 ck_sites [ck_con176, ck_con178] ck_hea196 20000 ck_con196 = true := by decide +kernel
theorem ck_thm197 : ck_ok1 ck_sites [ck_con196] ck_hea197 20000 ck_con197 = true := by decide +kernel
theorem ck_thm198 : ck_ok1 ck_sites [ck_con190] ck_hea198 20000 ck_con198 = true := by decide +kernel
theorem ck_thm199 : ck_ok1 ck_sites [] ck_hea199 20000 ck_con199 = true := by decide +kernel
theorem ck_thm200 : ck_ok1 ck_sites [ck_con196] ck_hea200 20000 ck_con200 = true := by decide +kernel
