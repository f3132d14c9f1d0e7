theorem cz_okm_4 : (List.range' 224 56).all cz_okm = true := by decide +kernel
theorem cz_okm_5 : (List.range' 280 54).all cz_okm = true := by decide +kernel
theorem cz_okm_all : ∀ i, i < 334 → cz_okm i = true := by
  intro i hi
  by_cases h0 : i < 56
  · exact List.all_eq_true.mp cz_okm_0 i (List.mem_range'_1.mpr ⟨by omega, by omega⟩)
  by_cases h1 : i < 112
  · exact List.all_eq_true.mp cz_okm_1 i (List.mem_range'_1.mpr ⟨by omega, by omega⟩)
  by_cases h2 : i < 168
  · exact List.all_eq_true.mp cz_okm_2 i (List.mem_range'_1.mpr ⟨by omega, by omega⟩)
  by_cases h3 : i < 224
  · exact List.all_eq_true.mp cz_okm_3 i (List.mem_range'_1.mpr ⟨by omega, by omega⟩)
  by_cases h4 : i < 280
  · exact List.all_eq_true.mp cz_okm_4 i (List.mem_range'_1.mpr ⟨by omega, by omega⟩)
  by_cases h5 : i < 334
  · exact List.all_eq_true.mp cz_okm_5 i (List.mem_range'_1.mpr ⟨by omega, by omega⟩)
  omega
