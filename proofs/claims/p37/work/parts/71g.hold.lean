/-! each contract holds, by those before it -/
theorem ck_thm182 : ck_ok1 ck_sites [] ck_hea182 20000 ck_con182 = true := by decide +kernel
theorem ck_thm183 : ck_ok1 ck_sites [] ck_hea183 20000 ck_con183 = true := by decide +kernel
theorem ck_thm184 : ck_ok1 ck_sites [ck_con183] ck_hea184 20000 ck_con184 = true := by decide +kernel
theorem ck_thm185 : ck_ok1 ck_sites [] ck_hea185 20000 ck_con185 = true := by decide +kernel
theorem ck_thm186 : ck_ok1 ck_sites [] ck_hea186 20000 ck_con186 = true := by decide +kernel
theorem ck_thm187 : ck_ok1 ck_sites [] ck_hea187 20000 ck_con187 = true := by decide +kernel
theorem ck_thm188 : ck_ok1 ck_sites [] ck_hea188 20000 ck_con188 = true := by decide +kernel
theorem ck_thm189 : ck_ok1 ck_sites [] ck_hea189 20000 ck_con189 = true := by decide +kernel
theorem ck_thm190 : ck_ok1 ck_sites [ck_con189] ck_hea190 20000 ck_con190 = true := by decide +kernel
theorem ck_thm191 : ck_ok1 ck_sites [ck_con169, ck_con183, ck_con189] ck_hea191 20000 ck_con191 = true := by decide +kernel
theorem ck_thm192 : ck_ok1 ck_sites [ck_con169, ck_con183, ck_con190] ck_hea192 20000 ck_con192 = true := by decide +kernel
theorem ck_thm193 : ck_ok1 ck_sites [ck_con169, ck_con183, ck_con190] ck_hea193 20000 ck_con193 = true := by decide +kernel
theorem ck_thm194 : ck_ok1 ck_sites [] ck_hea194 20000 ck_con194 = true := by decide +kernel
theorem ck_thm195 : ck_ok1 ck_sites [] ck_hea195 20000 ck_con195 = true := by decide +kernel
theorem ck_thm196 : ck_ok1 ck_sites [] ck_hea196 20000 ck_con196 = true := by decide +kernel
theorem ck_thm197 : ck_ok1 ck_sites [ck_con169, ck_con183, ck_con190] ck_hea197 20000 ck_con197 = true := by decide +kernel
theorem ck_thm198 : ck_ok1 ck_sites [ck_con197] ck_hea198 20000 ck_con198 = true := by decide +kernel
theorem ck_thm199 : ck_ok1 ck_sites [ck_con197] ck_hea199 20000 ck_con199 = true := by decide +kernel
theorem ck_thm200 : ck_ok1 ck_sites [ck_con197] ck_hea200 20000 ck_con200 = true := by decide +kernel
theorem ck_thm201 : ck_ok1 ck_sites [ck_con169, ck_con190] ck_hea201 20000 ck_con201 = true := by decide +kernel
theorem ck_thm202 : ck_ok1 ck_sites [ck_con201] ck_hea202 20000 ck_con202 = true := by decide +kernel
theorem ck_thm203 : ck_ok1 ck_sites [ck_con183, ck_con185] ck_hea203 20000 ck_con203 = true := by decide +kernel
theorem ck_thm204 : ck_ok1 ck_sites [ck_con203] ck_hea204 20000 ck_con204 = true := by decide +kernel
theorem ck_thm205 : ck_ok1 ck_sites [ck_con197] ck_hea205 20000 ck_con205 = true := by decide +kernel
theorem ck_thm206 : ck_ok1 ck_sites [] ck_hea206 20000 ck_con206 = true := by decide +kernel
theorem ck_thm207 : ck_ok1 ck_sites [ck_con203] ck_hea207 20000 ck_con207 = true := by decide +kernel
