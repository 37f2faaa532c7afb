theorem ci_2 : Int32.ofInt 2 = nI 2 := by decide +kernel
theorem ci_4 : Int32.ofInt 4 = nI 4 := by decide +kernel
