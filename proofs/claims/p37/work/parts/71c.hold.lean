/-! each contract holds, by those before it -/
theorem ck_thm117 : ck_ok1 ck_sites [ck_con18, ck_con19, ck_con85] ck_hea117 20000 ck_con117 = true := by decide +kernel
theorem ck_thm118 : ck_ok1 ck_sites [ck_con4, ck_con87, ck_con117] ck_hea118 20000 ck_con118 = true := by decide +kernel
theorem ck_thm119 : ck_ok1 ck_sites [ck_con20, ck_con21, ck_con23, ck_con24, ck_con87] ck_hea119 20000 ck_con119 = true := by decide +kernel
theorem ck_thm120 : ck_ok1 ck_sites [ck_con18, ck_con19, ck_con84] ck_hea120 20000 ck_con120 = true := by decide +kernel
theorem ck_thm121 : ck_ok1 ck_sites [ck_con27, ck_con120] ck_hea121 20000 ck_con121 = true := by decide +kernel
theorem ck_thm122 : ck_ok1 ck_sites [ck_con28, ck_con30] ck_hea122 20000 ck_con122 = true := by decide +kernel
theorem ck_thm123 : ck_ok1 ck_sites [] ck_hea123 20000 ck_con123 = true := by decide +kernel
theorem ck_thm124 : ck_ok1 ck_sites [] ck_hea124 20000 ck_con124 = true := by decide +kernel
theorem ck_thm125 : ck_ok1 ck_sites [ck_con123, ck_con124] ck_hea125 20000 ck_con125 = true := by decide +kernel
theorem ck_thm126 : ck_ok1 ck_sites [ck_con85] ck_hea126 20000 ck_con126 = true := by decide +kernel
theorem ck_thm127 : ck_ok1 ck_sites [ck_con4] ck_hea127 20000 ck_con127 = true := by decide +kernel
theorem ck_thm128 : ck_ok1 ck_sites [ck_con127] ck_hea128 20000 ck_con128 = true := by decide +kernel
theorem ck_thm129 : ck_ok1 ck_sites [ck_con126, ck_con128] ck_hea129 20000 ck_con129 = true := by decide +kernel
theorem ck_thm130 : ck_ok1 ck_sites [ck_con5, ck_con46, ck_con126, ck_con127, ck_con128] ck_hea130 20000 ck_con130 = true := by decide +kernel
theorem ck_thm131 : ck_ok1 ck_sites [] ck_hea131 20000 ck_con131 = true := by decide +kernel
theorem ck_thm132 : ck_ok1 ck_sites [] ck_hea132 20000 ck_con132 = true := by decide +kernel
theorem ck_thm133 : ck_ok1 ck_sites [] ck_hea133 20000 ck_con133 = true := by decide +kernel
theorem ck_thm134 : ck_ok1 ck_sites [ck_con47] ck_hea134 20000 ck_con134 = true := by decide +kernel
theorem ck_thm135 : ck_ok1 ck_sites [] ck_hea135 20000 ck_con135 = true := by decide +kernel
theorem ck_thm136 : ck_ok1 ck_sites [ck_con135] ck_hea136 20000 ck_con136 = true := by decide +kernel
theorem ck_thm137 : ck_ok1 ck_sites [ck_con32, ck_con136] ck_hea137 20000 ck_con137 = true := by decide +kernel
theorem ck_thm138 : ck_ok1 ck_sites [] ck_hea138 20000 ck_con138 = true := by decide +kernel
theorem ck_thm139 : ck_ok1 ck_sites [] ck_hea139 20000 ck_con139 = true := by decide +kernel
theorem ck_thm140 : ck_ok1 ck_sites [] ck_hea140 20000 ck_con140 = true := by decide +kernel
theorem ck_thm141 : ck_ok1 ck_sites [ck_con140] ck_hea141 20000 ck_con141 = true := by decide +kernel
theorem ck_thm142 : ck_ok1 ck_sites [] ck_hea142 20000 ck_con142 = true := by decide +kernel
theorem ck_thm143 : ck_ok1 ck_sites [ck_con141, ck_con142] ck_hea143 20000 ck_con143 = true := by decide +kernel
theorem ck_thm144 : ck_ok1 ck_sites [] ck_hea144 20000 ck_con144 = true := by decide +kernel
theorem ck_thm145 : ck_ok1 ck_sites [ck_con140, ck_con144] ck_hea145 20000 ck_con145 = true := by decide +kernel
theorem ck_thm146 : ck_ok1 ck_sites [ck_con143, ck_con145] ck_hea146 20000 ck_con146 = true := by decide +kernel
theorem ck_thm147 : ck_ok1 ck_sites [ck_con143, ck_con145] ck_hea147 20000 ck_con147 = true := by decide +kernel
theorem ck_thm148 : ck_ok1 ck_sites [ck_con143] ck_hea148 20000 ck_con148 = true := by decide +kernel
theorem ck_thm149 : ck_ok1 ck_sites [ck_con25] ck_hea149 20000 ck_con149 = true := by decide +kernel
theorem ck_thm150 : ck_ok1 ck_sites [] ck_hea150 20000 ck_con150 = true := by decide +kernel
theorem ck_thm151 : ck_ok1 ck_sites [ck_con42] ck_hea151 20000 ck_con151 = true := by decide +kernel
theorem ck_thm152 : ck_ok1 ck_sites [] ck_hea152 20000 ck_con152 = true := by decide +kernel
theorem ck_thm153 : ck_ok1 ck_sites [] ck_hea153 20000 ck_con153 = true := by decide +kernel
theorem ck_thm154 : ck_ok1 ck_sites [ck_con51, ck_con81] ck_hea154 20000 ck_con154 = true := by decide +kernel
theorem ck_thm155 : ck_ok1 ck_sites [] ck_hea155 20000 ck_con155 = true := by decide +kernel
