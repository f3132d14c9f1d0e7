theorem cz_okI_16 : cz_okc2 203 13 = true := by decide +kernel
theorem cz_okI_17 : cz_okc2 216 11 = true := by decide +kernel
theorem cz_okI_18 : cz_okc2 227 3 = true := by decide +kernel
theorem cz_okI_19 : cz_okc2 230 9 = true := by decide +kernel
