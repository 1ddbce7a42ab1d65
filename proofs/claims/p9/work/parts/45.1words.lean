theorem k_75 : Cond.selects RX10 yX10_choresOf yX10_choresOf ∈ tb := tb_in (List.mem_of_getElem? (i := 75) (by decide +kernel)) (by decide +kernel)
theorem k_1508 : Cond.methodLink RX10 372 yX10_choresOf ∈ tb := tb_in (List.mem_of_getElem? (i := 1508) (by decide +kernel)) (by decide +kernel)
theorem k_1510 : Cond.instanceMethod yX10_choresOf ∈ tb := tb_in (List.mem_of_getElem? (i := 1510) (by decide +kernel)) (by decide +kernel)
theorem k_1511 : Cond.code yX10_choresOf cX10_choresOf 5 (some .int) ∈ tb := tb_in (List.mem_of_getElem? (i := 1511) (by decide +kernel)) (by decide +kernel)
