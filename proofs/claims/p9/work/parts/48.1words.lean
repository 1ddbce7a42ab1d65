theorem k_1124 : Cond.fieldLink RX10 125 "MissedTownModel" "costBy" "[I" ∈ tb := tb_in (List.mem_of_getElem? (i := 1124) (by decide +kernel)) (by decide +kernel)
theorem k_1557 : Cond.methodLink RX10 385 yX10_orders ∈ tb := tb_in (List.mem_of_getElem? (i := 1557) (by decide +kernel)) (by decide +kernel)
theorem k_1558 : Cond.static yX10_orders ∈ tb := tb_in (List.mem_of_getElem? (i := 1558) (by decide +kernel)) (by decide +kernel)
theorem k_1559 : Cond.code yX10_orders cX10_orders 3 (some .int) ∈ tb := tb_in (List.mem_of_getElem? (i := 1559) (by decide +kernel)) (by decide +kernel)
