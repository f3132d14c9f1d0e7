theorem cz_okI_8 : cz_okc2 99 12 = true := by decide +kernel
theorem cz_okI_9 : cz_okc2 111 14 = true := by decide +kernel
theorem cz_okI_10 : cz_okc2 125 10 = true := by decide +kernel
theorem cz_okI_11 : cz_okc2 135 11 = true := by decide +kernel
