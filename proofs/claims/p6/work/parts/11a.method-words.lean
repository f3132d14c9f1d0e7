theorem cz_okm_0 : (List.range' 0 56).all cz_okm = true := by decide +kernel
theorem cz_okm_1 : (List.range' 56 56).all cz_okm = true := by decide +kernel
