/-! each contract holds, by those before it -/
theorem ck_thm74 : ck_ok1 ck_sites [ck_con58, ck_con62, ck_con64, ck_con68, ck_con69, ck_con70, ck_con71, ck_con72, ck_con73] ck_hea74 20000 ck_con74 = true := by decide +kernel
theorem ck_thm75 : ck_ok1 ck_sites [ck_con62, ck_con74] ck_hea75 20000 ck_con75 = true := by decide +kernel
theorem ck_thm76 : ck_ok1 ck_sites [] ck_hea76 20000 ck_con76 = true := by decide +kernel
theorem ck_thm77 : ck_ok1 ck_sites [ck_con59, ck_con61, ck_con62, ck_con63, ck_con66, ck_con67, ck_con68, ck_con70, ck_con75, ck_con76] ck_hea77 20000 ck_con77 = true := by decide +kernel
theorem ck_thm78 : ck_ok1 ck_sites [] ck_hea78 20000 ck_con78 = true := by decide +kernel
theorem ck_thm79 : ck_ok1 ck_sites [ck_con61, ck_con77, ck_con78] ck_hea79 20000 ck_con79 = true := by decide +kernel
theorem ck_thm80 : ck_ok1 ck_sites [ck_con33] ck_hea80 20000 ck_con80 = true := by decide +kernel
theorem ck_thm81 : ck_ok1 ck_sites [] ck_hea81 20000 ck_con81 = true := by decide +kernel
theorem ck_thm82 : ck_ok1 ck_sites [] ck_hea82 20000 ck_con82 = true := by decide +kernel
theorem ck_thm83 : ck_ok1 ck_sites [ck_con0, ck_con2, ck_con15, ck_con31, ck_con43, ck_con48] ck_hea83 20000 ck_con83 = true := by decide +kernel
theorem ck_thm84 : ck_ok1 ck_sites [ck_con6, ck_con11] ck_hea84 20000 ck_con84 = true := by decide +kernel
theorem ck_thm85 : ck_ok1 ck_sites [ck_con4, ck_con84] ck_hea85 20000 ck_con85 = true := by decide +kernel
theorem ck_thm86 : ck_ok1 ck_sites [ck_con4] ck_hea86 20000 ck_con86 = true := by decide +kernel
theorem ck_thm87 : ck_ok1 ck_sites [ck_con27] ck_hea87 20000 ck_con87 = true := by decide +kernel
theorem ck_thm88 : ck_ok1 ck_sites [ck_con32, ck_con36, ck_con56, ck_con80, ck_con83] ck_hea88 20000 ck_con88 = true := by decide +kernel
theorem ck_thm89 : ck_ok1 ck_sites [ck_con57] ck_hea89 20000 ck_con89 = true := by decide +kernel
theorem ck_thm90 : ck_ok1 ck_sites [] ck_hea90 20000 ck_con90 = true := by decide +kernel
theorem ck_thm91 : ck_ok1 ck_sites [] ck_hea91 20000 ck_con91 = true := by decide +kernel
theorem ck_thm92 : ck_ok1 ck_sites [] ck_hea92 20000 ck_con92 = true := by decide +kernel
theorem ck_thm93 : ck_ok1 ck_sites [] ck_hea93 20000 ck_con93 = true := by decide +kernel
theorem ck_thm94 : ck_ok1 ck_sites [ck_con87] ck_hea94 20000 ck_con94 = true := by decide +kernel
theorem ck_thm95 : ck_ok1 ck_sites [ck_con79, ck_con94] ck_hea95 20000 ck_con95 = true := by decide +kernel
theorem ck_thm96 : ck_ok1 ck_sites [] ck_hea96 20000 ck_con96 = true := by decide +kernel
theorem ck_thm97 : ck_ok1 ck_sites [ck_con4] ck_hea97 20000 ck_con97 = true := by decide +kernel
theorem ck_thm98 : ck_ok1 ck_sites [ck_con4, ck_con14] ck_hea98 20000 ck_con98 = true := by decide +kernel
theorem ck_thm99 : ck_ok1 ck_sites [ck_con4, ck_con12] ck_hea99 20000 ck_con99 = true := by decide +kernel
theorem ck_thm100 : ck_ok1 ck_sites [ck_con4, ck_con11, ck_con12] ck_hea100 20000 ck_con100 = true := by decide +kernel
theorem ck_thm101 : ck_ok1 ck_sites [ck_con45] ck_hea101 20000 ck_con101 = true := by decide +kernel
theorem ck_thm102 : ck_ok1 ck_sites [ck_con45] ck_hea102 20000 ck_con102 = true := by decide +kernel
theorem ck_thm103 : ck_ok1 ck_sites [] ck_hea103 20000 ck_con103 = true := by decide +kernel
theorem ck_thm104 : ck_ok1 ck_sites [] ck_hea104 20000 ck_con104 = true := by decide +kernel
theorem ck_thm105 : ck_ok1 ck_sites [ck_con85] ck_hea105 20000 ck_con105 = true := by decide +kernel
theorem ck_thm106 : ck_ok1 ck_sites [ck_con85] ck_hea106 20000 ck_con106 = true := by decide +kernel
theorem ck_thm107 : ck_ok1 ck_sites [ck_con84] ck_hea107 20000 ck_con107 = true := by decide +kernel
theorem ck_thm108 : ck_ok1 ck_sites [ck_con86] ck_hea108 20000 ck_con108 = true := by decide +kernel
theorem ck_thm109 : ck_ok1 ck_sites [ck_con85] ck_hea109 20000 ck_con109 = true := by decide +kernel
theorem ck_thm110 : ck_ok1 ck_sites [] ck_hea110 20000 ck_con110 = true := by decide +kernel
theorem ck_thm111 : ck_ok1 ck_sites [ck_con50, ck_con86] ck_hea111 20000 ck_con111 = true := by decide +kernel
theorem ck_thm112 : ck_ok1 ck_sites [ck_con34, ck_con85] ck_hea112 20000 ck_con112 = true := by decide +kernel
theorem ck_thm113 : ck_ok1 ck_sites [ck_con51, ck_con53, ck_con54, ck_con55, ck_con112] ck_hea113 20000 ck_con113 = true := by decide +kernel
theorem ck_thm114 : ck_ok1 ck_sites [] ck_hea114 20000 ck_con114 = true := by decide +kernel
theorem ck_thm115 : ck_ok1 ck_sites [ck_con17] ck_hea115 20000 ck_con115 = true := by decide +kernel
theorem ck_thm116 : ck_ok1 ck_sites [] ck_hea116 20000 ck_con116 = true := by decide +kernel
