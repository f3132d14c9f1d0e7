theorem cz_okI_20 : cz_okc2 239 7 = true := by decide +kernel
theorem cz_okI_21 : cz_okc2 246 12 = true := by decide +kernel
theorem cz_okI_22 : cz_okc2 258 8 = true := by decide +kernel
theorem cz_okI_23 : cz_okc2 266 9 = true := by decide +kernel
