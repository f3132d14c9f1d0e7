theorem cf_okA_4 : (List.range' 334 1).all (fun i => cf_ok3 i (cz_mf i)) = true := by decide +kernel
