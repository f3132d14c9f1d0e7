/-! each contract holds, by those before it -/
theorem ck_thm0 : ck_ok1 ck_sites [] ck_hea0 20000 ck_con0 = true := by decide +kernel
theorem ck_thm1 : ck_ok1 ck_sites [] ck_hea1 20000 ck_con1 = true := by decide +kernel
theorem ck_thm2 : ck_ok1 ck_sites [] ck_hea2 20000 ck_con2 = true := by decide +kernel
theorem ck_thm3 : ck_ok1 ck_sites [] ck_hea3 20000 ck_con3 = true := by decide +kernel
theorem ck_thm4 : ck_ok1 ck_sites [] ck_hea4 20000 ck_con4 = true := by decide +kernel
theorem ck_thm5 : ck_ok1 ck_sites [] ck_hea5 20000 ck_con5 = true := by decide +kernel
theorem ck_thm6 : ck_ok1 ck_sites [] ck_hea6 20000 ck_con6 = true := by decide +kernel
theorem ck_thm7 : ck_ok1 ck_sites [] ck_hea7 20000 ck_con7 = true := by decide +kernel
theorem ck_thm8 : ck_ok1 ck_sites [] ck_hea8 20000 ck_con8 = true := by decide +kernel
theorem ck_thm9 : ck_ok1 ck_sites [ck_con7, ck_con8] ck_hea9 20000 ck_con9 = true := by decide +kernel
theorem ck_thm10 : ck_ok1 ck_sites [ck_con9] ck_hea10 20000 ck_con10 = true := by decide +kernel
theorem ck_thm11 : ck_ok1 ck_sites [ck_con10] ck_hea11 20000 ck_con11 = true := by decide +kernel
theorem ck_thm12 : ck_ok1 ck_sites [ck_con6, ck_con11] ck_hea12 20000 ck_con12 = true := by decide +kernel
theorem ck_thm13 : ck_ok1 ck_sites [ck_con9] ck_hea13 20000 ck_con13 = true := by decide +kernel
theorem ck_thm14 : ck_ok1 ck_sites [ck_con6, ck_con13] ck_hea14 20000 ck_con14 = true := by decide +kernel
theorem ck_thm15 : ck_ok1 ck_sites [] ck_hea15 20000 ck_con15 = true := by decide +kernel
theorem ck_thm16 : ck_ok1 ck_sites [] ck_hea16 20000 ck_con16 = true := by decide +kernel
theorem ck_thm17 : ck_ok1 ck_sites [] ck_hea17 20000 ck_con17 = true := by decide +kernel
theorem ck_thm18 : ck_ok1 ck_sites [] ck_hea18 20000 ck_con18 = true := by decide +kernel
theorem ck_thm19 : ck_ok1 ck_sites [] ck_hea19 20000 ck_con19 = true := by decide +kernel
theorem ck_thm20 : ck_ok1 ck_sites [] ck_hea20 20000 ck_con20 = true := by decide +kernel
theorem ck_thm21 : ck_ok1 ck_sites [] ck_hea21 20000 ck_con21 = true := by decide +kernel
theorem ck_thm22 : ck_ok1 ck_sites [] ck_hea22 20000 ck_con22 = true := by decide +kernel
theorem ck_thm23 : ck_ok1 ck_sites [ck_con22] ck_hea23 20000 ck_con23 = true := by decide +kernel
theorem ck_thm24 : ck_ok1 ck_sites [ck_con20, ck_con21] ck_hea24 20000 ck_con24 = true := by decide +kernel
theorem ck_thm25 : ck_ok1 ck_sites [] ck_hea25 20000 ck_con25 = true := by decide +kernel
theorem ck_thm26 : ck_ok1 ck_sites [ck_con23, ck_con25] ck_hea26 20000 ck_con26 = true := by decide +kernel
theorem ck_thm27 : ck_ok1 ck_sites [ck_con24, ck_con26] ck_hea27 20000 ck_con27 = true := by decide +kernel
theorem ck_thm28 : ck_ok1 ck_sites [ck_con20, ck_con21] ck_hea28 20000 ck_con28 = true := by decide +kernel
theorem ck_thm29 : ck_ok1 ck_sites [ck_con22] ck_hea29 20000 ck_con29 = true := by decide +kernel
theorem ck_thm30 : ck_ok1 ck_sites [ck_con26, ck_con29] ck_hea30 20000 ck_con30 = true := by decide +kernel
theorem ck_thm31 : ck_ok1 ck_sites [] ck_hea31 20000 ck_con31 = true := by decide +kernel
theorem ck_thm32 : ck_ok1 ck_sites [] ck_hea32 20000 ck_con32 = true := by decide +kernel
theorem ck_thm33 : ck_ok1 ck_sites [] ck_hea33 20000 ck_con33 = true := by decide +kernel
theorem ck_thm34 : ck_ok1 ck_sites [] ck_hea34 20000 ck_con34 = true := by decide +kernel
theorem ck_thm35 : ck_ok1 ck_sites [] ck_hea35 20000 ck_con35 = true := by decide +kernel
theorem ck_thm36 : ck_ok1 ck_sites [ck_con35] ck_hea36 20000 ck_con36 = true := by decide +kernel
theorem ck_thm37 : ck_ok1 ck_sites [] ck_hea37 20000 ck_con37 = true := by decide +kernel
theorem ck_thm38 : ck_ok1 ck_sites [] ck_hea38 20000 ck_con38 = true := by decide +kernel
theorem ck_thm39 : ck_ok1 ck_sites [ck_con37, ck_con38] ck_hea39 20000 ck_con39 = true := by decide +kernel
theorem ck_thm40 : ck_ok1 ck_sites [ck_con37, ck_con38] ck_hea40 20000 ck_con40 = true := by decide +kernel
theorem ck_thm41 : ck_ok1 ck_sites [ck_con35, ck_con40] ck_hea41 20000 ck_con41 = true := by decide +kernel
theorem ck_thm42 : ck_ok1 ck_sites [ck_con1, ck_con39, ck_con41] ck_hea42 20000 ck_con42 = true := by decide +kernel
theorem ck_thm43 : ck_ok1 ck_sites [] ck_hea43 20000 ck_con43 = true := by decide +kernel
theorem ck_thm44 : ck_ok1 ck_sites [] ck_hea44 20000 ck_con44 = true := by decide +kernel
theorem ck_thm45 : ck_ok1 ck_sites [] ck_hea45 20000 ck_con45 = true := by decide +kernel
theorem ck_thm46 : ck_ok1 ck_sites [] ck_hea46 20000 ck_con46 = true := by decide +kernel
theorem ck_thm47 : ck_ok1 ck_sites [] ck_hea47 20000 ck_con47 = true := by decide +kernel
theorem ck_thm48 : ck_ok1 ck_sites [] ck_hea48 20000 ck_con48 = true := by decide +kernel
theorem ck_thm49 : ck_ok1 ck_sites [] ck_hea49 20000 ck_con49 = true := by decide +kernel
theorem ck_thm50 : ck_ok1 ck_sites [] ck_hea50 20000 ck_con50 = true := by decide +kernel
theorem ck_thm51 : ck_ok1 ck_sites [] ck_hea51 20000 ck_con51 = true := by decide +kernel
theorem ck_thm52 : ck_ok1 ck_sites [] ck_hea52 20000 ck_con52 = true := by decide +kernel
theorem ck_thm53 : ck_ok1 ck_sites [ck_con52] ck_hea53 20000 ck_con53 = true := by decide +kernel
theorem ck_thm54 : ck_ok1 ck_sites [] ck_hea54 20000 ck_con54 = true := by decide +kernel
theorem ck_thm55 : ck_ok1 ck_sites [] ck_hea55 20000 ck_con55 = true := by decide +kernel
theorem ck_thm56 : ck_ok1 ck_sites [] ck_hea56 20000 ck_con56 = true := by decide +kernel
theorem ck_thm57 : ck_ok1 ck_sites [] ck_hea57 20000 ck_con57 = true := by decide +kernel
theorem ck_thm58 : ck_ok1 ck_sites [] ck_hea58 20000 ck_con58 = true := by decide +kernel
theorem ck_thm59 : ck_ok1 ck_sites [ck_con58] ck_hea59 20000 ck_con59 = true := by decide +kernel
theorem ck_thm60 : ck_ok1 ck_sites [] ck_hea60 20000 ck_con60 = true := by decide +kernel
theorem ck_thm61 : ck_ok1 ck_sites [ck_con60] ck_hea61 20000 ck_con61 = true := by decide +kernel
theorem ck_thm62 : ck_ok1 ck_sites [ck_con58, ck_con61] ck_hea62 20000 ck_con62 = true := by decide +kernel
theorem ck_thm63 : ck_ok1 ck_sites [ck_con62] ck_hea63 20000 ck_con63 = true := by decide +kernel
theorem ck_thm64 : ck_ok1 ck_sites [ck_con58] ck_hea64 20000 ck_con64 = true := by decide +kernel
theorem ck_thm65 : ck_ok1 ck_sites [] ck_hea65 20000 ck_con65 = true := by decide +kernel
theorem ck_thm66 : ck_ok1 ck_sites [ck_con61, ck_con65] ck_hea66 20000 ck_con66 = true := by decide +kernel
theorem ck_thm67 : ck_ok1 ck_sites [ck_con61, ck_con65] ck_hea67 20000 ck_con67 = true := by decide +kernel
theorem ck_thm68 : ck_ok1 ck_sites [ck_con61, ck_con65] ck_hea68 20000 ck_con68 = true := by decide +kernel
theorem ck_thm69 : ck_ok1 ck_sites [ck_con61, ck_con65] ck_hea69 20000 ck_con69 = true := by decide +kernel
theorem ck_thm70 : ck_ok1 ck_sites [ck_con61] ck_hea70 20000 ck_con70 = true := by decide +kernel
theorem ck_thm71 : ck_ok1 ck_sites [ck_con61] ck_hea71 20000 ck_con71 = true := by decide +kernel
theorem ck_thm72 : ck_ok1 ck_sites [] ck_hea72 20000 ck_con72 = true := by decide +kernel
theorem ck_thm73 : ck_ok1 ck_sites [ck_con72] ck_hea73 20000 ck_con73 = true := by decide +kernel
