theorem k_229 : Cond.fieldLink RX1 27 "MissedTown$Law" "letters" "[I" ∈ tb := tb_in (List.mem_of_getElem? (i := 229) (by decide +kernel)) (by decide +kernel)
theorem k_231 : Cond.fieldLink RX1 39 "MissedTown$Law" "size" "I" ∈ tb := tb_in (List.mem_of_getElem? (i := 231) (by decide +kernel)) (by decide +kernel)
theorem k_234 : Cond.fieldLink RX1 43 "MissedTown$Law" "clauses" "I" ∈ tb := tb_in (List.mem_of_getElem? (i := 234) (by decide +kernel)) (by decide +kernel)
