theorem cz_okL_0 : cz_m334_0.all (cz_ok1 334) = true := by decide +kernel
theorem cz_okL_1 : cz_m334_1.all (cz_ok1 334) = true := by decide +kernel
theorem cz_okL_2 : cz_m334_2.all (cz_ok1 334) = true := by decide +kernel
theorem cz_okL_3 : cz_m334_3.all (cz_ok1 334) = true := by decide +kernel
theorem cz_okL_4 : cz_m334_4.all (cz_ok1 334) = true := by decide +kernel
