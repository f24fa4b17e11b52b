theorem kI_m1 : Int32.ofInt (-1) = (-1) := by decide +kernel
theorem kI_0 : Int32.ofInt 0 = nI 0 := by decide +kernel
theorem kI_1 : Int32.ofInt 1 = nI 1 := by decide +kernel
theorem kI_2 : Int32.ofInt 2 = nI 2 := by decide +kernel
theorem kI_3 : Int32.ofInt 3 = nI 3 := by decide +kernel
theorem kI_4 : Int32.ofInt 4 = nI 4 := by decide +kernel
theorem kI_5 : Int32.ofInt 5 = nI 5 := by decide +kernel
theorem kB_m20 : (Int8.ofInt (-20)).toInt32 = (-20) := by decide +kernel
theorem kB_m14 : (Int8.ofInt (-14)).toInt32 = (-14) := by decide +kernel
theorem kB_m12 : (Int8.ofInt (-12)).toInt32 = (-12) := by decide +kernel
theorem kB_m11 : (Int8.ofInt (-11)).toInt32 = (-11) := by decide +kernel
theorem kB_m10 : (Int8.ofInt (-10)).toInt32 = (-10) := by decide +kernel
theorem kB_m4 : (Int8.ofInt (-4)).toInt32 = (-4) := by decide +kernel
theorem kB_m3 : (Int8.ofInt (-3)).toInt32 = (-3) := by decide +kernel
theorem kB_m2 : (Int8.ofInt (-2)).toInt32 = (-2) := by decide +kernel
theorem kB_6 : (Int8.ofInt 6).toInt32 = nI 6 := by decide +kernel
theorem kB_7 : (Int8.ofInt 7).toInt32 = nI 7 := by decide +kernel
theorem kB_8 : (Int8.ofInt 8).toInt32 = nI 8 := by decide +kernel
theorem kB_9 : (Int8.ofInt 9).toInt32 = nI 9 := by decide +kernel
theorem kB_10 : (Int8.ofInt 10).toInt32 = nI 10 := by decide +kernel
theorem kB_11 : (Int8.ofInt 11).toInt32 = nI 11 := by decide +kernel
theorem kB_12 : (Int8.ofInt 12).toInt32 = nI 12 := by decide +kernel
theorem kB_16 : (Int8.ofInt 16).toInt32 = nI 16 := by decide +kernel
theorem kB_20 : (Int8.ofInt 20).toInt32 = nI 20 := by decide +kernel
theorem kB_21 : (Int8.ofInt 21).toInt32 = nI 21 := by decide +kernel
theorem kB_28 : (Int8.ofInt 28).toInt32 = nI 28 := by decide +kernel
theorem kB_29 : (Int8.ofInt 29).toInt32 = nI 29 := by decide +kernel
theorem kB_30 : (Int8.ofInt 30).toInt32 = nI 30 := by decide +kernel
theorem kB_32 : (Int8.ofInt 32).toInt32 = nI 32 := by decide +kernel
theorem kB_36 : (Int8.ofInt 36).toInt32 = nI 36 := by decide +kernel
theorem kB_37 : (Int8.ofInt 37).toInt32 = nI 37 := by decide +kernel
theorem kB_38 : (Int8.ofInt 38).toInt32 = nI 38 := by decide +kernel
theorem kB_39 : (Int8.ofInt 39).toInt32 = nI 39 := by decide +kernel
theorem kB_40 : (Int8.ofInt 40).toInt32 = nI 40 := by decide +kernel
theorem kB_48 : (Int8.ofInt 48).toInt32 = nI 48 := by decide +kernel
theorem kB_57 : (Int8.ofInt 57).toInt32 = nI 57 := by decide +kernel
theorem kB_59 : (Int8.ofInt 59).toInt32 = nI 59 := by decide +kernel
theorem kB_60 : (Int8.ofInt 60).toInt32 = nI 60 := by decide +kernel
theorem kB_63 : (Int8.ofInt 63).toInt32 = nI 63 := by decide +kernel
theorem kB_84 : (Int8.ofInt 84).toInt32 = nI 84 := by decide +kernel
theorem kB_97 : (Int8.ofInt 97).toInt32 = nI 97 := by decide +kernel
theorem kB_98 : (Int8.ofInt 98).toInt32 = nI 98 := by decide +kernel
theorem kB_99 : (Int8.ofInt 99).toInt32 = nI 99 := by decide +kernel
theorem kB_100 : (Int8.ofInt 100).toInt32 = nI 100 := by decide +kernel
theorem kB_101 : (Int8.ofInt 101).toInt32 = nI 101 := by decide +kernel
theorem kB_102 : (Int8.ofInt 102).toInt32 = nI 102 := by decide +kernel
theorem kB_103 : (Int8.ofInt 103).toInt32 = nI 103 := by decide +kernel
theorem kB_104 : (Int8.ofInt 104).toInt32 = nI 104 := by decide +kernel
theorem kB_105 : (Int8.ofInt 105).toInt32 = nI 105 := by decide +kernel
theorem kB_108 : (Int8.ofInt 108).toInt32 = nI 108 := by decide +kernel
theorem kB_109 : (Int8.ofInt 109).toInt32 = nI 109 := by decide +kernel
theorem kB_110 : (Int8.ofInt 110).toInt32 = nI 110 := by decide +kernel
theorem kB_111 : (Int8.ofInt 111).toInt32 = nI 111 := by decide +kernel
theorem kB_114 : (Int8.ofInt 114).toInt32 = nI 114 := by decide +kernel
theorem kB_115 : (Int8.ofInt 115).toInt32 = nI 115 := by decide +kernel
theorem kB_116 : (Int8.ofInt 116).toInt32 = nI 116 := by decide +kernel
theorem kB_117 : (Int8.ofInt 117).toInt32 = nI 117 := by decide +kernel
theorem kB_121 : (Int8.ofInt 121).toInt32 = nI 121 := by decide +kernel
theorem kB_122 : (Int8.ofInt 122).toInt32 = nI 122 := by decide +kernel
theorem kB_127 : (Int8.ofInt 127).toInt32 = nI 127 := by decide +kernel
theorem kS_160 : (Int16.ofInt 160).toInt32 = nI 160 := by decide +kernel
theorem kS_171 : (Int16.ofInt 171).toInt32 = nI 171 := by decide +kernel
theorem kS_255 : (Int16.ofInt 255).toInt32 = nI 255 := by decide +kernel
theorem kS_999 : (Int16.ofInt 999).toInt32 = nI 999 := by decide +kernel
theorem kS_9999 : (Int16.ofInt 9999).toInt32 = nI 9999 := by decide +kernel
theorem kS_12345 : (Int16.ofInt 12345).toInt32 = nI 12345 := by decide +kernel
theorem kS_32767 : (Int16.ofInt 32767).toInt32 = nI 32767 := by decide +kernel
theorem kL_0 : Int64.ofNat ((0 : Fin 2) : Nat) = lN 0 := rfl
theorem kL_1 : Int64.ofNat ((1 : Fin 2) : Nat) = lN 1 := rfl
theorem kN_0 : narrow .boolean (.int (nI 0)) = .int (nI 0) := by decide +kernel
theorem kN_1 : narrow .boolean (.int (nI 1)) = .int (nI 1) := by decide +kernel
theorem kN_b (b : Bool) : narrow .boolean (.int (nI b.toNat)) = .int (nI b.toNat) := by cases b; exact kN_0; exact kN_1
theorem kN_i (x : Int32) : narrow .int (.int x) = .int x := vp_nar_int x
