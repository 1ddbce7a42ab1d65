theorem k_668 : Cond.arrayClass .byte ∈ tb := tb_in (List.mem_of_getElem? (i := 668) (by decide +kernel)) (by decide +kernel)
theorem k_1067 : Cond.methodLink RX10 1 objectInit ∈ tb := tb_in (List.mem_of_getElem? (i := 1067) (by decide +kernel)) (by decide +kernel)
