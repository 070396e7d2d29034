theorem lin100000 : (-100000 : Int32).toInt = (-100000) := by decide
theorem li109 : (109 : Int32).toInt = 109 := by decide
theorem li111 : (111 : Int32).toInt = 111 := by decide
theorem li117 : (117 : Int32).toInt = 117 := by decide
theorem li118 : (118 : Int32).toInt = 118 := by decide
theorem lln1000000000000 : (-1000000000000 : Int64).toInt = (-1000000000000) := by decide
theorem lln2 : (-2 : Int64).toInt = (-2) := by decide
