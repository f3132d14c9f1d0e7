theorem cz_okI_4 : cz_okc2 51 9 = true := by decide +kernel
theorem cz_okI_5 : cz_okc2 60 13 = true := by decide +kernel
theorem cz_okI_6 : cz_okc2 73 10 = true := by decide +kernel
theorem cz_okI_7 : cz_okc2 83 16 = true := by decide +kernel
