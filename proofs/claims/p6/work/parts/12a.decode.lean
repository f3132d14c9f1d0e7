theorem cf_okA_0 : (List.range' 0 105).all (fun i => cf_ok3 i (cz_mf i)) = true := by decide +kernel
