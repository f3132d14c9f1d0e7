theorem cf_okA_3 : (List.range' 288 46).all (fun i => cf_ok3 i (cz_mf i)) = true := by decide +kernel
