theorem cf_okA_1 : (List.range' 105 113).all (fun i => cf_ok3 i (cz_mf i)) = true := by decide +kernel
