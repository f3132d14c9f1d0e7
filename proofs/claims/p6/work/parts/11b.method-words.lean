theorem cz_okm_2 : (List.range' 112 56).all cz_okm = true := by decide +kernel
theorem cz_okm_3 : (List.range' 168 56).all cz_okm = true := by decide +kernel
