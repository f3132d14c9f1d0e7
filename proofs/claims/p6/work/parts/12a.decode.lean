theorem cz_okI_0 : cz_okc2 0 9 = true := by decide +kernel
theorem cz_okI_1 : cz_okc2 9 16 = true := by decide +kernel
theorem cz_okI_2 : cz_okc2 25 16 = true := by decide +kernel
theorem cz_okI_3 : cz_okc2 41 10 = true := by decide +kernel
