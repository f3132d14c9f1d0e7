theorem cz_okI_24 : cz_okc2 275 5 = true := by decide +kernel
theorem cz_okI_25 : cz_okc2 280 8 = true := by decide +kernel
theorem cz_okI_26 : cz_okc2 288 7 = true := by decide +kernel
theorem cz_okI_27 : cz_okc2 295 7 = true := by decide +kernel
