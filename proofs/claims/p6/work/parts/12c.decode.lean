theorem cf_okA_2 : (List.range' 218 70).all (fun i => cf_ok3 i (cz_mf i)) = true := by decide +kernel
