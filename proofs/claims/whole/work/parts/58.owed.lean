theorem both_down {w : mW} (hI : Inv w) (a0 a1 a2 a3 : Int32) : Both kX7_down kX8_down [.int a0, .int a1, .int a2, .int a3] w := by sorry
theorem both_season {w : mW} (hI : Inv w) (a0 a1 a2 a3 a4 : Int32) : Both kX7_season kX8_season [.int a0, .int a1, .int a2, .int a3, .int a4] w := by sorry
theorem both_lain {w : mW} (hI : Inv w) (a0 a1 a2 a3 : Int32) : Both kX7_lain kX8_lain [.int a0, .int a1, .int a2, .int a3] w := by sorry
