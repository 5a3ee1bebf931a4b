theorem both_down {w : mW} (hI : Inv w) (a0 a1 a2 a3 : Int32) : Both kX7_down kX8_down [.int a0, .int a1, .int a2, .int a3] w := by sorry
