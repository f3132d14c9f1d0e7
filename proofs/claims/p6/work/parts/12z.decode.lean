theorem cz_ok_all : ∀ i, i < 335 → ∀ q ∈ cz_cd i, cz_ok1 i q = true := by
  intro i hi
  by_cases h0 : i < 105
  · exact cf_ok3_all (List.all_eq_true.mp cf_okA_0 i (List.mem_range'_1.mpr ⟨by omega, by omega⟩))
  by_cases h1 : i < 218
  · exact cf_ok3_all (List.all_eq_true.mp cf_okA_1 i (List.mem_range'_1.mpr ⟨by omega, by omega⟩))
  by_cases h2 : i < 288
  · exact cf_ok3_all (List.all_eq_true.mp cf_okA_2 i (List.mem_range'_1.mpr ⟨by omega, by omega⟩))
  by_cases h3 : i < 334
  · exact cf_ok3_all (List.all_eq_true.mp cf_okA_3 i (List.mem_range'_1.mpr ⟨by omega, by omega⟩))
  by_cases h4 : i < 335
  · exact cf_ok3_all (List.all_eq_true.mp cf_okA_4 i (List.mem_range'_1.mpr ⟨by omega, by omega⟩))
  omega
