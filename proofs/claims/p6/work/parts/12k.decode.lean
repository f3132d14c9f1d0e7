theorem cz_okL_10 : cz_m334_10.all (cz_ok1 334) = true := by decide +kernel
theorem cz_okL_11 : cz_m334_11.all (cz_ok1 334) = true := by decide +kernel
theorem cz_okL_12 : cz_m334_12.all (cz_ok1 334) = true := by decide +kernel
theorem cz_okL_13 : cz_m334_13.all (cz_ok1 334) = true := by decide +kernel
theorem cz_okL_14 : cz_m334_14.all (cz_ok1 334) = true := by decide +kernel
