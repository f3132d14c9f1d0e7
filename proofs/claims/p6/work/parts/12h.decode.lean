theorem cz_okI_28 : cz_okc2 302 10 = true := by decide +kernel
theorem cz_okI_29 : cz_okc2 312 15 = true := by decide +kernel
theorem cz_okI_30 : cz_okc2 327 7 = true := by decide +kernel
