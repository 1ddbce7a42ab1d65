theorem k_113 : Cond.instantiable RX9 11 ∈ tb := tb_in (List.mem_of_getElem? (i := 113) (by decide +kernel)) (by decide +kernel)
theorem k_1063 : Cond.instantiable RX10 65 ∈ tb := tb_in (List.mem_of_getElem? (i := 1063) (by decide +kernel)) (by decide +kernel)
