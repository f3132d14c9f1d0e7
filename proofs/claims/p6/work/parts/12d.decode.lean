theorem cz_okI_12 : cz_okc2 146 17 = true := by decide +kernel
theorem cz_okI_13 : cz_okc2 163 20 = true := by decide +kernel
theorem cz_okI_14 : cz_okc2 183 11 = true := by decide +kernel
theorem cz_okI_15 : cz_okc2 194 9 = true := by decide +kernel
