theorem zsub0 (a : Int32) : a - 0 = a := Int32.sub_zero a
