theorem cz_ok_all : ∀ i, i < 335 → ∀ q ∈ cz_cd i, cz_ok1 i q = true := by
  intro i hi q hq
  by_cases h0 : i < 9
  · exact List.all_eq_true.mp (List.all_eq_true.mp cz_okI_0 i (List.mem_range'_1.mpr ⟨by omega, by omega⟩)) q hq
  by_cases h1 : i < 25
  · exact List.all_eq_true.mp (List.all_eq_true.mp cz_okI_1 i (List.mem_range'_1.mpr ⟨by omega, by omega⟩)) q hq
  by_cases h2 : i < 41
  · exact List.all_eq_true.mp (List.all_eq_true.mp cz_okI_2 i (List.mem_range'_1.mpr ⟨by omega, by omega⟩)) q hq
  by_cases h3 : i < 51
  · exact List.all_eq_true.mp (List.all_eq_true.mp cz_okI_3 i (List.mem_range'_1.mpr ⟨by omega, by omega⟩)) q hq
  by_cases h4 : i < 60
  · exact List.all_eq_true.mp (List.all_eq_true.mp cz_okI_4 i (List.mem_range'_1.mpr ⟨by omega, by omega⟩)) q hq
  by_cases h5 : i < 73
  · exact List.all_eq_true.mp (List.all_eq_true.mp cz_okI_5 i (List.mem_range'_1.mpr ⟨by omega, by omega⟩)) q hq
  by_cases h6 : i < 83
  · exact List.all_eq_true.mp (List.all_eq_true.mp cz_okI_6 i (List.mem_range'_1.mpr ⟨by omega, by omega⟩)) q hq
  by_cases h7 : i < 99
  · exact List.all_eq_true.mp (List.all_eq_true.mp cz_okI_7 i (List.mem_range'_1.mpr ⟨by omega, by omega⟩)) q hq
  by_cases h8 : i < 111
  · exact List.all_eq_true.mp (List.all_eq_true.mp cz_okI_8 i (List.mem_range'_1.mpr ⟨by omega, by omega⟩)) q hq
  by_cases h9 : i < 125
  · exact List.all_eq_true.mp (List.all_eq_true.mp cz_okI_9 i (List.mem_range'_1.mpr ⟨by omega, by omega⟩)) q hq
  by_cases h10 : i < 135
  · exact List.all_eq_true.mp (List.all_eq_true.mp cz_okI_10 i (List.mem_range'_1.mpr ⟨by omega, by omega⟩)) q hq
  by_cases h11 : i < 146
  · exact List.all_eq_true.mp (List.all_eq_true.mp cz_okI_11 i (List.mem_range'_1.mpr ⟨by omega, by omega⟩)) q hq
  by_cases h12 : i < 163
  · exact List.all_eq_true.mp (List.all_eq_true.mp cz_okI_12 i (List.mem_range'_1.mpr ⟨by omega, by omega⟩)) q hq
  by_cases h13 : i < 183
  · exact List.all_eq_true.mp (List.all_eq_true.mp cz_okI_13 i (List.mem_range'_1.mpr ⟨by omega, by omega⟩)) q hq
  by_cases h14 : i < 194
  · exact List.all_eq_true.mp (List.all_eq_true.mp cz_okI_14 i (List.mem_range'_1.mpr ⟨by omega, by omega⟩)) q hq
  by_cases h15 : i < 203
  · exact List.all_eq_true.mp (List.all_eq_true.mp cz_okI_15 i (List.mem_range'_1.mpr ⟨by omega, by omega⟩)) q hq
  by_cases h16 : i < 216
  · exact List.all_eq_true.mp (List.all_eq_true.mp cz_okI_16 i (List.mem_range'_1.mpr ⟨by omega, by omega⟩)) q hq
  by_cases h17 : i < 227
  · exact List.all_eq_true.mp (List.all_eq_true.mp cz_okI_17 i (List.mem_range'_1.mpr ⟨by omega, by omega⟩)) q hq
  by_cases h18 : i < 230
  · exact List.all_eq_true.mp (List.all_eq_true.mp cz_okI_18 i (List.mem_range'_1.mpr ⟨by omega, by omega⟩)) q hq
  by_cases h19 : i < 239
  · exact List.all_eq_true.mp (List.all_eq_true.mp cz_okI_19 i (List.mem_range'_1.mpr ⟨by omega, by omega⟩)) q hq
  by_cases h20 : i < 246
  · exact List.all_eq_true.mp (List.all_eq_true.mp cz_okI_20 i (List.mem_range'_1.mpr ⟨by omega, by omega⟩)) q hq
  by_cases h21 : i < 258
  · exact List.all_eq_true.mp (List.all_eq_true.mp cz_okI_21 i (List.mem_range'_1.mpr ⟨by omega, by omega⟩)) q hq
  by_cases h22 : i < 266
  · exact List.all_eq_true.mp (List.all_eq_true.mp cz_okI_22 i (List.mem_range'_1.mpr ⟨by omega, by omega⟩)) q hq
  by_cases h23 : i < 275
  · exact List.all_eq_true.mp (List.all_eq_true.mp cz_okI_23 i (List.mem_range'_1.mpr ⟨by omega, by omega⟩)) q hq
  by_cases h24 : i < 280
  · exact List.all_eq_true.mp (List.all_eq_true.mp cz_okI_24 i (List.mem_range'_1.mpr ⟨by omega, by omega⟩)) q hq
  by_cases h25 : i < 288
  · exact List.all_eq_true.mp (List.all_eq_true.mp cz_okI_25 i (List.mem_range'_1.mpr ⟨by omega, by omega⟩)) q hq
  by_cases h26 : i < 295
  · exact List.all_eq_true.mp (List.all_eq_true.mp cz_okI_26 i (List.mem_range'_1.mpr ⟨by omega, by omega⟩)) q hq
  by_cases h27 : i < 302
  · exact List.all_eq_true.mp (List.all_eq_true.mp cz_okI_27 i (List.mem_range'_1.mpr ⟨by omega, by omega⟩)) q hq
  by_cases h28 : i < 312
  · exact List.all_eq_true.mp (List.all_eq_true.mp cz_okI_28 i (List.mem_range'_1.mpr ⟨by omega, by omega⟩)) q hq
  by_cases h29 : i < 327
  · exact List.all_eq_true.mp (List.all_eq_true.mp cz_okI_29 i (List.mem_range'_1.mpr ⟨by omega, by omega⟩)) q hq
  by_cases h30 : i < 334
  · exact List.all_eq_true.mp (List.all_eq_true.mp cz_okI_30 i (List.mem_range'_1.mpr ⟨by omega, by omega⟩)) q hq
  have he : i = 334 := by omega
  subst he
  have hq : q ∈ cz_m334 := hq
  unfold cz_m334 at hq
  simp only [List.mem_append] at hq
  rcases hq with hq | hq | hq | hq | hq | hq | hq | hq | hq | hq | hq | hq | hq | hq | hq
  · exact List.all_eq_true.mp cz_okL_0 q hq
  · exact List.all_eq_true.mp cz_okL_1 q hq
  · exact List.all_eq_true.mp cz_okL_2 q hq
  · exact List.all_eq_true.mp cz_okL_3 q hq
  · exact List.all_eq_true.mp cz_okL_4 q hq
  · exact List.all_eq_true.mp cz_okL_5 q hq
  · exact List.all_eq_true.mp cz_okL_6 q hq
  · exact List.all_eq_true.mp cz_okL_7 q hq
  · exact List.all_eq_true.mp cz_okL_8 q hq
  · exact List.all_eq_true.mp cz_okL_9 q hq
  · exact List.all_eq_true.mp cz_okL_10 q hq
  · exact List.all_eq_true.mp cz_okL_11 q hq
  · exact List.all_eq_true.mp cz_okL_12 q hq
  · exact List.all_eq_true.mp cz_okL_13 q hq
  · exact List.all_eq_true.mp cz_okL_14 q hq

