theorem d13 {f : Nat → Int32} {k : Nat} {x : Int32} (h : k < 13) : upd f k x 13 = f 13 := pk_un (by omega)
theorem d13b {f : Nat → Int32} {x : Int32} : upd f 14 x 13 = f 13 := pk_un (by decide)
