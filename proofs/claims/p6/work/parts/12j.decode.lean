theorem cz_okL_5 : cz_m334_5.all (cz_ok1 334) = true := by decide +kernel
theorem cz_okL_6 : cz_m334_6.all (cz_ok1 334) = true := by decide +kernel
theorem cz_okL_7 : cz_m334_7.all (cz_ok1 334) = true := by decide +kernel
theorem cz_okL_8 : cz_m334_8.all (cz_ok1 334) = true := by decide +kernel
theorem cz_okL_9 : cz_m334_9.all (cz_ok1 334) = true := by decide +kernel
