/-! each contract holds, by those before it -/
theorem ck_thm105 : ck_ok1 ck_sites [ck_con2, ck_con75, ck_con104] ck_hea105 20000 ck_con105 = true := by decide +kernel
theorem ck_thm106 : ck_ok1 ck_sites [ck_con17, ck_con18, ck_con20, ck_con21, ck_con75] ck_hea106 20000 ck_con106 = true := by decide +kernel
theorem ck_thm107 : ck_ok1 ck_sites [ck_con15, ck_con16, ck_con72] ck_hea107 20000 ck_con107 = true := by decide +kernel
theorem ck_thm108 : ck_ok1 ck_sites [ck_con24, ck_con107] ck_hea108 20000 ck_con108 = true := by decide +kernel
theorem ck_thm109 : ck_ok1 ck_sites [ck_con25, ck_con27] ck_hea109 20000 ck_con109 = true := by decide +kernel
theorem ck_thm110 : ck_ok1 ck_sites [] ck_hea110 20000 ck_con110 = true := by decide +kernel
theorem ck_thm111 : ck_ok1 ck_sites [] ck_hea111 20000 ck_con111 = true := by decide +kernel
theorem ck_thm112 : ck_ok1 ck_sites [ck_con110, ck_con111] ck_hea112 20000 ck_con112 = true := by decide +kernel
theorem ck_thm113 : ck_ok1 ck_sites [ck_con73] ck_hea113 20000 ck_con113 = true := by decide +kernel
theorem ck_thm114 : ck_ok1 ck_sites [ck_con2] ck_hea114 20000 ck_con114 = true := by decide +kernel
theorem ck_thm115 : ck_ok1 ck_sites [ck_con114] ck_hea115 20000 ck_con115 = true := by decide +kernel
theorem ck_thm116 : ck_ok1 ck_sites [ck_con113, ck_con115] ck_hea116 20000 ck_con116 = true := by decide +kernel
theorem ck_thm117 : ck_ok1 ck_sites [ck_con3, ck_con40, ck_con113, ck_con114, ck_con115] ck_hea117 20000 ck_con117 = true := by decide +kernel
theorem ck_thm118 : ck_ok1 ck_sites [] ck_hea118 20000 ck_con118 = true := by decide +kernel
theorem ck_thm119 : ck_ok1 ck_sites [] ck_hea119 20000 ck_con119 = true := by decide +kernel
theorem ck_thm120 : ck_ok1 ck_sites [] ck_hea120 20000 ck_con120 = true := by decide +kernel
theorem ck_thm121 : ck_ok1 ck_sites [ck_con41] ck_hea121 20000 ck_con121 = true := by decide +kernel
theorem ck_thm122 : ck_ok1 ck_sites [] ck_hea122 20000 ck_con122 = true := by decide +kernel
theorem ck_thm123 : ck_ok1 ck_sites [ck_con122] ck_hea123 20000 ck_con123 = true := by decide +kernel
theorem ck_thm124 : ck_ok1 ck_sites [ck_con32, ck_con123] ck_hea124 20000 ck_con124 = true := by decide +kernel
theorem ck_thm125 : ck_ok1 ck_sites [] ck_hea125 20000 ck_con125 = true := by decide +kernel
theorem ck_thm126 : ck_ok1 ck_sites [] ck_hea126 20000 ck_con126 = true := by decide +kernel
theorem ck_thm127 : ck_ok1 ck_sites [] ck_hea127 20000 ck_con127 = true := by decide +kernel
theorem ck_thm128 : ck_ok1 ck_sites [ck_con127] ck_hea128 20000 ck_con128 = true := by decide +kernel
theorem ck_thm129 : ck_ok1 ck_sites [] ck_hea129 20000 ck_con129 = true := by decide +kernel
theorem ck_thm130 : ck_ok1 ck_sites [ck_con128, ck_con129] ck_hea130 20000 ck_con130 = true := by decide +kernel
theorem ck_thm131 : ck_ok1 ck_sites [] ck_hea131 20000 ck_con131 = true := by decide +kernel
theorem ck_thm132 : ck_ok1 ck_sites [ck_con127, ck_con131] ck_hea132 20000 ck_con132 = true := by decide +kernel
theorem ck_thm133 : ck_ok1 ck_sites [ck_con130, ck_con132] ck_hea133 20000 ck_con133 = true := by decide +kernel
theorem ck_thm134 : ck_ok1 ck_sites [ck_con130, ck_con132] ck_hea134 20000 ck_con134 = true := by decide +kernel
theorem ck_thm135 : ck_ok1 ck_sites [ck_con130] ck_hea135 20000 ck_con135 = true := by decide +kernel
theorem ck_thm136 : ck_ok1 ck_sites [ck_con22] ck_hea136 20000 ck_con136 = true := by decide +kernel
theorem ck_thm137 : ck_ok1 ck_sites [] ck_hea137 20000 ck_con137 = true := by decide +kernel
theorem ck_thm138 : ck_ok1 ck_sites [ck_con37] ck_hea138 20000 ck_con138 = true := by decide +kernel
theorem ck_thm139 : ck_ok1 ck_sites [] ck_hea139 20000 ck_con139 = true := by decide +kernel
theorem ck_thm140 : ck_ok1 ck_sites [] ck_hea140 20000 ck_con140 = true := by decide +kernel
theorem ck_thm141 : ck_ok1 ck_sites [ck_con44, ck_con71] ck_hea141 20000 ck_con141 = true := by decide +kernel
theorem ck_thm142 : ck_ok1 ck_sites [] ck_hea142 20000 ck_con142 = true := by decide +kernel
