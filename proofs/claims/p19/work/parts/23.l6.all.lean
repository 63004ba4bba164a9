theorem lt36 {P : Nat → Prop} (h0 : P 0) (h1 : P 1) (h2 : P 2) (h3 : P 3) (h4 : P 4) (h5 : P 5) (h6 : P 6) (h7 : P 7) (h8 : P 8) (h9 : P 9) (h10 : P 10) (h11 : P 11) (h12 : P 12) (h13 : P 13) (h14 : P 14) (h15 : P 15) (h16 : P 16) (h17 : P 17) (h18 : P 18) (h19 : P 19) (h20 : P 20) (h21 : P 21) (h22 : P 22) (h23 : P 23) (h24 : P 24) (h25 : P 25) (h26 : P 26) (h27 : P 27) (h28 : P 28) (h29 : P 29) (h30 : P 30) (h31 : P 31) (h32 : P 32) (h33 : P 33) (h34 : P 34) (h35 : P 35) : ∀ j, j < 36 → P j
  | 0, _ => h0
  | 1, _ => h1
  | 2, _ => h2
  | 3, _ => h3
  | 4, _ => h4
  | 5, _ => h5
  | 6, _ => h6
  | 7, _ => h7
  | 8, _ => h8
  | 9, _ => h9
  | 10, _ => h10
  | 11, _ => h11
  | 12, _ => h12
  | 13, _ => h13
  | 14, _ => h14
  | 15, _ => h15
  | 16, _ => h16
  | 17, _ => h17
  | 18, _ => h18
  | 19, _ => h19
  | 20, _ => h20
  | 21, _ => h21
  | 22, _ => h22
  | 23, _ => h23
  | 24, _ => h24
  | 25, _ => h25
  | 26, _ => h26
  | 27, _ => h27
  | 28, _ => h28
  | 29, _ => h29
  | 30, _ => h30
  | 31, _ => h31
  | 32, _ => h32
  | 33, _ => h33
  | 34, _ => h34
  | 35, _ => h35
  | n + 36, h => absurd h (by omega)
theorem sw1_0 : ¬ (nI 0).toInt < 0 := by decide +kernel
theorem sw2_0 : ¬ (35 : Int) < (nI 0).toInt := by decide +kernel
theorem sw3_0 : (#[159, 213, 226, 266, 294, 310, 338, 366, 394, 446, 459, 472, 500, 528, 541, 554, 570, 598, 642, 670, 698, 776, 830, 870, 922, 974, 1026, 1078, 1130, 1170, 1222, 1274, 1302, 1330, 1370, 1387] : Array Int)[((nI 0).toInt - 0).toNat]? = some 159 := by decide +kernel
theorem sw1_1 : ¬ (nI 1).toInt < 0 := by decide +kernel
theorem sw2_1 : ¬ (35 : Int) < (nI 1).toInt := by decide +kernel
theorem sw3_1 : (#[159, 213, 226, 266, 294, 310, 338, 366, 394, 446, 459, 472, 500, 528, 541, 554, 570, 598, 642, 670, 698, 776, 830, 870, 922, 974, 1026, 1078, 1130, 1170, 1222, 1274, 1302, 1330, 1370, 1387] : Array Int)[((nI 1).toInt - 0).toNat]? = some 213 := by decide +kernel
theorem sw1_2 : ¬ (nI 2).toInt < 0 := by decide +kernel
theorem sw2_2 : ¬ (35 : Int) < (nI 2).toInt := by decide +kernel
theorem sw3_2 : (#[159, 213, 226, 266, 294, 310, 338, 366, 394, 446, 459, 472, 500, 528, 541, 554, 570, 598, 642, 670, 698, 776, 830, 870, 922, 974, 1026, 1078, 1130, 1170, 1222, 1274, 1302, 1330, 1370, 1387] : Array Int)[((nI 2).toInt - 0).toNat]? = some 226 := by decide +kernel
theorem sw1_3 : ¬ (nI 3).toInt < 0 := by decide +kernel
theorem sw2_3 : ¬ (35 : Int) < (nI 3).toInt := by decide +kernel
theorem sw3_3 : (#[159, 213, 226, 266, 294, 310, 338, 366, 394, 446, 459, 472, 500, 528, 541, 554, 570, 598, 642, 670, 698, 776, 830, 870, 922, 974, 1026, 1078, 1130, 1170, 1222, 1274, 1302, 1330, 1370, 1387] : Array Int)[((nI 3).toInt - 0).toNat]? = some 266 := by decide +kernel
theorem sw1_4 : ¬ (nI 4).toInt < 0 := by decide +kernel
theorem sw2_4 : ¬ (35 : Int) < (nI 4).toInt := by decide +kernel
theorem sw3_4 : (#[159, 213, 226, 266, 294, 310, 338, 366, 394, 446, 459, 472, 500, 528, 541, 554, 570, 598, 642, 670, 698, 776, 830, 870, 922, 974, 1026, 1078, 1130, 1170, 1222, 1274, 1302, 1330, 1370, 1387] : Array Int)[((nI 4).toInt - 0).toNat]? = some 294 := by decide +kernel
theorem sw1_5 : ¬ (nI 5).toInt < 0 := by decide +kernel
theorem sw2_5 : ¬ (35 : Int) < (nI 5).toInt := by decide +kernel
theorem sw3_5 : (#[159, 213, 226, 266, 294, 310, 338, 366, 394, 446, 459, 472, 500, 528, 541, 554, 570, 598, 642, 670, 698, 776, 830, 870, 922, 974, 1026, 1078, 1130, 1170, 1222, 1274, 1302, 1330, 1370, 1387] : Array Int)[((nI 5).toInt - 0).toNat]? = some 310 := by decide +kernel
theorem sw1_6 : ¬ (nI 6).toInt < 0 := by decide +kernel
theorem sw2_6 : ¬ (35 : Int) < (nI 6).toInt := by decide +kernel
theorem sw3_6 : (#[159, 213, 226, 266, 294, 310, 338, 366, 394, 446, 459, 472, 500, 528, 541, 554, 570, 598, 642, 670, 698, 776, 830, 870, 922, 974, 1026, 1078, 1130, 1170, 1222, 1274, 1302, 1330, 1370, 1387] : Array Int)[((nI 6).toInt - 0).toNat]? = some 338 := by decide +kernel
theorem sw1_7 : ¬ (nI 7).toInt < 0 := by decide +kernel
theorem sw2_7 : ¬ (35 : Int) < (nI 7).toInt := by decide +kernel
theorem sw3_7 : (#[159, 213, 226, 266, 294, 310, 338, 366, 394, 446, 459, 472, 500, 528, 541, 554, 570, 598, 642, 670, 698, 776, 830, 870, 922, 974, 1026, 1078, 1130, 1170, 1222, 1274, 1302, 1330, 1370, 1387] : Array Int)[((nI 7).toInt - 0).toNat]? = some 366 := by decide +kernel
theorem sw1_8 : ¬ (nI 8).toInt < 0 := by decide +kernel
theorem sw2_8 : ¬ (35 : Int) < (nI 8).toInt := by decide +kernel
theorem sw3_8 : (#[159, 213, 226, 266, 294, 310, 338, 366, 394, 446, 459, 472, 500, 528, 541, 554, 570, 598, 642, 670, 698, 776, 830, 870, 922, 974, 1026, 1078, 1130, 1170, 1222, 1274, 1302, 1330, 1370, 1387] : Array Int)[((nI 8).toInt - 0).toNat]? = some 394 := by decide +kernel
theorem sw1_9 : ¬ (nI 9).toInt < 0 := by decide +kernel
theorem sw2_9 : ¬ (35 : Int) < (nI 9).toInt := by decide +kernel
theorem sw3_9 : (#[159, 213, 226, 266, 294, 310, 338, 366, 394, 446, 459, 472, 500, 528, 541, 554, 570, 598, 642, 670, 698, 776, 830, 870, 922, 974, 1026, 1078, 1130, 1170, 1222, 1274, 1302, 1330, 1370, 1387] : Array Int)[((nI 9).toInt - 0).toNat]? = some 446 := by decide +kernel
theorem sw1_10 : ¬ (nI 10).toInt < 0 := by decide +kernel
theorem sw2_10 : ¬ (35 : Int) < (nI 10).toInt := by decide +kernel
theorem sw3_10 : (#[159, 213, 226, 266, 294, 310, 338, 366, 394, 446, 459, 472, 500, 528, 541, 554, 570, 598, 642, 670, 698, 776, 830, 870, 922, 974, 1026, 1078, 1130, 1170, 1222, 1274, 1302, 1330, 1370, 1387] : Array Int)[((nI 10).toInt - 0).toNat]? = some 459 := by decide +kernel
theorem sw1_11 : ¬ (nI 11).toInt < 0 := by decide +kernel
theorem sw2_11 : ¬ (35 : Int) < (nI 11).toInt := by decide +kernel
theorem sw3_11 : (#[159, 213, 226, 266, 294, 310, 338, 366, 394, 446, 459, 472, 500, 528, 541, 554, 570, 598, 642, 670, 698, 776, 830, 870, 922, 974, 1026, 1078, 1130, 1170, 1222, 1274, 1302, 1330, 1370, 1387] : Array Int)[((nI 11).toInt - 0).toNat]? = some 472 := by decide +kernel
theorem sw1_12 : ¬ (nI 12).toInt < 0 := by decide +kernel
theorem sw2_12 : ¬ (35 : Int) < (nI 12).toInt := by decide +kernel
theorem sw3_12 : (#[159, 213, 226, 266, 294, 310, 338, 366, 394, 446, 459, 472, 500, 528, 541, 554, 570, 598, 642, 670, 698, 776, 830, 870, 922, 974, 1026, 1078, 1130, 1170, 1222, 1274, 1302, 1330, 1370, 1387] : Array Int)[((nI 12).toInt - 0).toNat]? = some 500 := by decide +kernel
theorem sw1_13 : ¬ (nI 13).toInt < 0 := by decide +kernel
theorem sw2_13 : ¬ (35 : Int) < (nI 13).toInt := by decide +kernel
theorem sw3_13 : (#[159, 213, 226, 266, 294, 310, 338, 366, 394, 446, 459, 472, 500, 528, 541, 554, 570, 598, 642, 670, 698, 776, 830, 870, 922, 974, 1026, 1078, 1130, 1170, 1222, 1274, 1302, 1330, 1370, 1387] : Array Int)[((nI 13).toInt - 0).toNat]? = some 528 := by decide +kernel
theorem sw1_14 : ¬ (nI 14).toInt < 0 := by decide +kernel
theorem sw2_14 : ¬ (35 : Int) < (nI 14).toInt := by decide +kernel
theorem sw3_14 : (#[159, 213, 226, 266, 294, 310, 338, 366, 394, 446, 459, 472, 500, 528, 541, 554, 570, 598, 642, 670, 698, 776, 830, 870, 922, 974, 1026, 1078, 1130, 1170, 1222, 1274, 1302, 1330, 1370, 1387] : Array Int)[((nI 14).toInt - 0).toNat]? = some 541 := by decide +kernel
theorem sw1_15 : ¬ (nI 15).toInt < 0 := by decide +kernel
theorem sw2_15 : ¬ (35 : Int) < (nI 15).toInt := by decide +kernel
theorem sw3_15 : (#[159, 213, 226, 266, 294, 310, 338, 366, 394, 446, 459, 472, 500, 528, 541, 554, 570, 598, 642, 670, 698, 776, 830, 870, 922, 974, 1026, 1078, 1130, 1170, 1222, 1274, 1302, 1330, 1370, 1387] : Array Int)[((nI 15).toInt - 0).toNat]? = some 554 := by decide +kernel
theorem sw1_16 : ¬ (nI 16).toInt < 0 := by decide +kernel
theorem sw2_16 : ¬ (35 : Int) < (nI 16).toInt := by decide +kernel
theorem sw3_16 : (#[159, 213, 226, 266, 294, 310, 338, 366, 394, 446, 459, 472, 500, 528, 541, 554, 570, 598, 642, 670, 698, 776, 830, 870, 922, 974, 1026, 1078, 1130, 1170, 1222, 1274, 1302, 1330, 1370, 1387] : Array Int)[((nI 16).toInt - 0).toNat]? = some 570 := by decide +kernel
theorem sw1_17 : ¬ (nI 17).toInt < 0 := by decide +kernel
theorem sw2_17 : ¬ (35 : Int) < (nI 17).toInt := by decide +kernel
theorem sw3_17 : (#[159, 213, 226, 266, 294, 310, 338, 366, 394, 446, 459, 472, 500, 528, 541, 554, 570, 598, 642, 670, 698, 776, 830, 870, 922, 974, 1026, 1078, 1130, 1170, 1222, 1274, 1302, 1330, 1370, 1387] : Array Int)[((nI 17).toInt - 0).toNat]? = some 598 := by decide +kernel
theorem sw1_18 : ¬ (nI 18).toInt < 0 := by decide +kernel
theorem sw2_18 : ¬ (35 : Int) < (nI 18).toInt := by decide +kernel
theorem sw3_18 : (#[159, 213, 226, 266, 294, 310, 338, 366, 394, 446, 459, 472, 500, 528, 541, 554, 570, 598, 642, 670, 698, 776, 830, 870, 922, 974, 1026, 1078, 1130, 1170, 1222, 1274, 1302, 1330, 1370, 1387] : Array Int)[((nI 18).toInt - 0).toNat]? = some 642 := by decide +kernel
theorem sw1_19 : ¬ (nI 19).toInt < 0 := by decide +kernel
theorem sw2_19 : ¬ (35 : Int) < (nI 19).toInt := by decide +kernel
theorem sw3_19 : (#[159, 213, 226, 266, 294, 310, 338, 366, 394, 446, 459, 472, 500, 528, 541, 554, 570, 598, 642, 670, 698, 776, 830, 870, 922, 974, 1026, 1078, 1130, 1170, 1222, 1274, 1302, 1330, 1370, 1387] : Array Int)[((nI 19).toInt - 0).toNat]? = some 670 := by decide +kernel
theorem sw1_20 : ¬ (nI 20).toInt < 0 := by decide +kernel
theorem sw2_20 : ¬ (35 : Int) < (nI 20).toInt := by decide +kernel
theorem sw3_20 : (#[159, 213, 226, 266, 294, 310, 338, 366, 394, 446, 459, 472, 500, 528, 541, 554, 570, 598, 642, 670, 698, 776, 830, 870, 922, 974, 1026, 1078, 1130, 1170, 1222, 1274, 1302, 1330, 1370, 1387] : Array Int)[((nI 20).toInt - 0).toNat]? = some 698 := by decide +kernel
theorem sw1_21 : ¬ (nI 21).toInt < 0 := by decide +kernel
theorem sw2_21 : ¬ (35 : Int) < (nI 21).toInt := by decide +kernel
theorem sw3_21 : (#[159, 213, 226, 266, 294, 310, 338, 366, 394, 446, 459, 472, 500, 528, 541, 554, 570, 598, 642, 670, 698, 776, 830, 870, 922, 974, 1026, 1078, 1130, 1170, 1222, 1274, 1302, 1330, 1370, 1387] : Array Int)[((nI 21).toInt - 0).toNat]? = some 776 := by decide +kernel
theorem sw1_22 : ¬ (nI 22).toInt < 0 := by decide +kernel
theorem sw2_22 : ¬ (35 : Int) < (nI 22).toInt := by decide +kernel
theorem sw3_22 : (#[159, 213, 226, 266, 294, 310, 338, 366, 394, 446, 459, 472, 500, 528, 541, 554, 570, 598, 642, 670, 698, 776, 830, 870, 922, 974, 1026, 1078, 1130, 1170, 1222, 1274, 1302, 1330, 1370, 1387] : Array Int)[((nI 22).toInt - 0).toNat]? = some 830 := by decide +kernel
theorem sw1_23 : ¬ (nI 23).toInt < 0 := by decide +kernel
theorem sw2_23 : ¬ (35 : Int) < (nI 23).toInt := by decide +kernel
theorem sw3_23 : (#[159, 213, 226, 266, 294, 310, 338, 366, 394, 446, 459, 472, 500, 528, 541, 554, 570, 598, 642, 670, 698, 776, 830, 870, 922, 974, 1026, 1078, 1130, 1170, 1222, 1274, 1302, 1330, 1370, 1387] : Array Int)[((nI 23).toInt - 0).toNat]? = some 870 := by decide +kernel
theorem sw1_24 : ¬ (nI 24).toInt < 0 := by decide +kernel
theorem sw2_24 : ¬ (35 : Int) < (nI 24).toInt := by decide +kernel
theorem sw3_24 : (#[159, 213, 226, 266, 294, 310, 338, 366, 394, 446, 459, 472, 500, 528, 541, 554, 570, 598, 642, 670, 698, 776, 830, 870, 922, 974, 1026, 1078, 1130, 1170, 1222, 1274, 1302, 1330, 1370, 1387] : Array Int)[((nI 24).toInt - 0).toNat]? = some 922 := by decide +kernel
theorem sw1_25 : ¬ (nI 25).toInt < 0 := by decide +kernel
theorem sw2_25 : ¬ (35 : Int) < (nI 25).toInt := by decide +kernel
theorem sw3_25 : (#[159, 213, 226, 266, 294, 310, 338, 366, 394, 446, 459, 472, 500, 528, 541, 554, 570, 598, 642, 670, 698, 776, 830, 870, 922, 974, 1026, 1078, 1130, 1170, 1222, 1274, 1302, 1330, 1370, 1387] : Array Int)[((nI 25).toInt - 0).toNat]? = some 974 := by decide +kernel
theorem sw1_26 : ¬ (nI 26).toInt < 0 := by decide +kernel
theorem sw2_26 : ¬ (35 : Int) < (nI 26).toInt := by decide +kernel
theorem sw3_26 : (#[159, 213, 226, 266, 294, 310, 338, 366, 394, 446, 459, 472, 500, 528, 541, 554, 570, 598, 642, 670, 698, 776, 830, 870, 922, 974, 1026, 1078, 1130, 1170, 1222, 1274, 1302, 1330, 1370, 1387] : Array Int)[((nI 26).toInt - 0).toNat]? = some 1026 := by decide +kernel
theorem sw1_27 : ¬ (nI 27).toInt < 0 := by decide +kernel
theorem sw2_27 : ¬ (35 : Int) < (nI 27).toInt := by decide +kernel
theorem sw3_27 : (#[159, 213, 226, 266, 294, 310, 338, 366, 394, 446, 459, 472, 500, 528, 541, 554, 570, 598, 642, 670, 698, 776, 830, 870, 922, 974, 1026, 1078, 1130, 1170, 1222, 1274, 1302, 1330, 1370, 1387] : Array Int)[((nI 27).toInt - 0).toNat]? = some 1078 := by decide +kernel
theorem sw1_28 : ¬ (nI 28).toInt < 0 := by decide +kernel
theorem sw2_28 : ¬ (35 : Int) < (nI 28).toInt := by decide +kernel
theorem sw3_28 : (#[159, 213, 226, 266, 294, 310, 338, 366, 394, 446, 459, 472, 500, 528, 541, 554, 570, 598, 642, 670, 698, 776, 830, 870, 922, 974, 1026, 1078, 1130, 1170, 1222, 1274, 1302, 1330, 1370, 1387] : Array Int)[((nI 28).toInt - 0).toNat]? = some 1130 := by decide +kernel
theorem sw1_29 : ¬ (nI 29).toInt < 0 := by decide +kernel
theorem sw2_29 : ¬ (35 : Int) < (nI 29).toInt := by decide +kernel
theorem sw3_29 : (#[159, 213, 226, 266, 294, 310, 338, 366, 394, 446, 459, 472, 500, 528, 541, 554, 570, 598, 642, 670, 698, 776, 830, 870, 922, 974, 1026, 1078, 1130, 1170, 1222, 1274, 1302, 1330, 1370, 1387] : Array Int)[((nI 29).toInt - 0).toNat]? = some 1170 := by decide +kernel
theorem sw1_30 : ¬ (nI 30).toInt < 0 := by decide +kernel
theorem sw2_30 : ¬ (35 : Int) < (nI 30).toInt := by decide +kernel
theorem sw3_30 : (#[159, 213, 226, 266, 294, 310, 338, 366, 394, 446, 459, 472, 500, 528, 541, 554, 570, 598, 642, 670, 698, 776, 830, 870, 922, 974, 1026, 1078, 1130, 1170, 1222, 1274, 1302, 1330, 1370, 1387] : Array Int)[((nI 30).toInt - 0).toNat]? = some 1222 := by decide +kernel
theorem sw1_31 : ¬ (nI 31).toInt < 0 := by decide +kernel
theorem sw2_31 : ¬ (35 : Int) < (nI 31).toInt := by decide +kernel
theorem sw3_31 : (#[159, 213, 226, 266, 294, 310, 338, 366, 394, 446, 459, 472, 500, 528, 541, 554, 570, 598, 642, 670, 698, 776, 830, 870, 922, 974, 1026, 1078, 1130, 1170, 1222, 1274, 1302, 1330, 1370, 1387] : Array Int)[((nI 31).toInt - 0).toNat]? = some 1274 := by decide +kernel
theorem sw1_32 : ¬ (nI 32).toInt < 0 := by decide +kernel
theorem sw2_32 : ¬ (35 : Int) < (nI 32).toInt := by decide +kernel
theorem sw3_32 : (#[159, 213, 226, 266, 294, 310, 338, 366, 394, 446, 459, 472, 500, 528, 541, 554, 570, 598, 642, 670, 698, 776, 830, 870, 922, 974, 1026, 1078, 1130, 1170, 1222, 1274, 1302, 1330, 1370, 1387] : Array Int)[((nI 32).toInt - 0).toNat]? = some 1302 := by decide +kernel
theorem sw1_33 : ¬ (nI 33).toInt < 0 := by decide +kernel
theorem sw2_33 : ¬ (35 : Int) < (nI 33).toInt := by decide +kernel
theorem sw3_33 : (#[159, 213, 226, 266, 294, 310, 338, 366, 394, 446, 459, 472, 500, 528, 541, 554, 570, 598, 642, 670, 698, 776, 830, 870, 922, 974, 1026, 1078, 1130, 1170, 1222, 1274, 1302, 1330, 1370, 1387] : Array Int)[((nI 33).toInt - 0).toNat]? = some 1330 := by decide +kernel
theorem sw1_34 : ¬ (nI 34).toInt < 0 := by decide +kernel
theorem sw2_34 : ¬ (35 : Int) < (nI 34).toInt := by decide +kernel
theorem sw3_34 : (#[159, 213, 226, 266, 294, 310, 338, 366, 394, 446, 459, 472, 500, 528, 541, 554, 570, 598, 642, 670, 698, 776, 830, 870, 922, 974, 1026, 1078, 1130, 1170, 1222, 1274, 1302, 1330, 1370, 1387] : Array Int)[((nI 34).toInt - 0).toNat]? = some 1370 := by decide +kernel
theorem sw1_35 : ¬ (nI 35).toInt < 0 := by decide +kernel
theorem sw2_35 : ¬ (35 : Int) < (nI 35).toInt := by decide +kernel
theorem sw3_35 : (#[159, 213, 226, 266, 294, 310, 338, 366, 394, 446, 459, 472, 500, 528, 541, 554, 570, 598, 642, 670, 698, 776, 830, 870, 922, 974, 1026, 1078, 1130, 1170, 1222, 1274, 1302, 1330, 1370, 1387] : Array Int)[((nI 35).toInt - 0).toNat]? = some 1387 := by decide +kernel
set_option maxHeartbeats 4000000 in
set_option maxRecDepth 100000 in
theorem law_all {p : Program} {e : Env} {s : State} {m : MethodId} {below : List Frame} {meth : Method} {c : Code} (l : Launch) (hlt : l.stackTraces = false) {bs L : Nat} {xs : Nat → Int32} (C0 : lw_At p s m meth c bs L xs) (hL : L ≤ 3072) (D : va_G) (dA : Nat → ClassId) (E : Nat) (A : Nat → Prop) (hAe : (fun q : Nat => s.heap.size ≤ q) = A) (b : Nat → Nat) (o od : Nat) (hK : va_K D vwCl (TY dA) s) (hZ : ZZ dA E A s s.heap) (tn cl sl : Nat) (htn : 6 * tn + 6 ≤ L) (hC : cl + 300 ≤ 603072) (hB : sl + 6000 ≤ 7207018) (I : Nat → Int32) (F : Nat → Nat → Int32) (h0 : Nat → Nat) (s0 : Nat → Int64) (CT M tw tp tx tL : Nat → Int32) (c9 : CS) (g : Nat → Int64) (gd : Nat → UInt64) (hRI0 : RI tn I F h0 c9) (hCI : CI E tn c9) (hrel : True) (hN : ∀ (I : Nat → Int32) (F : Nat → Nat → Int32) (h0 : Nat → Nat) (s0 : Nat → Int64) (CT M tw tp tx tL : Nat → Int32) (c8 : CS) (g : Nat → Int64) (gd : Nat → UInt64), RI (tn + 1) I F h0 c8 → CI E (tn + 1) c8 → c8.xa = c9.xa → True → ∀ (H : Heap) (locs : List Loc), va_P D vwCl (LWS o od I F h0 s0 CT M tw tp tx tL c8 g gd dA b) H → va_D A (LWS o od I F h0 s0 CT M tw tp tx tL c8 g gd dA b) → va_S A s.heap H locs → ∀ ls : Array Slot, lv_has ls 9 [(5, .int (nI (6 * tn))), (4, .ref od), (3, .ref o), (2, .ref (b 0)), (1, .ref (c9.xa 0)), (0, .ref bs)] → W p l e room_1 s m #[Value.ref bs] below meth c H locs (cl + 300) (sl + 6000) (lw_Z below #[Value.ref bs] s) (F0 m 1461 ls [])) (H : Heap) (locs : List Loc) (hP : va_P D vwCl (LWS o od I F h0 s0 CT M tw tp tx tL c9 g gd dA b) H) (hD : va_D A (LWS o od I F h0 s0 CT M tw tp tx tL c9 g gd dA b)) (hS : va_S A s.heap H locs) (ls : Array Slot) (hl : lv_has ls 9 [(5, .int (nI (6 * tn))), (4, .ref od), (3, .ref o), (2, .ref (b 0)), (1, .ref (c9.xa 0)), (0, .ref bs)]) : ∀ j, j < 36 → W p l e room_1 s m #[Value.ref bs] below meth c H locs (cl) (sl) (lw_Z below #[Value.ref bs] s) (F0 m 45 ls [.int (nI j)]) :=
  lt36
    (by
      refine lv_tableIn (off := 159) (tgt := 204) C0.1 C0.2.1 dL_law_45 sw1_0 sw2_0 sw3_0 (by decide) ?_
      exact law_0 l hlt C0 hL D dA E A hAe b o od hK hZ tn cl sl htn hC hB I F h0 s0 CT M tw tp tx tL c9 g gd hRI0 hCI hrel hN H locs hP hD hS ls hl)
    (by
      refine lv_tableIn (off := 213) (tgt := 258) C0.1 C0.2.1 dL_law_45 sw1_1 sw2_1 sw3_1 (by decide) ?_
      exact law_1 l hlt C0 hL D dA E A hAe b o od hK hZ tn cl sl htn hC hB I F h0 s0 CT M tw tp tx tL c9 g gd hRI0 hCI hrel hN H locs hP hD hS ls hl)
    (by
      refine lv_tableIn (off := 226) (tgt := 271) C0.1 C0.2.1 dL_law_45 sw1_2 sw2_2 sw3_2 (by decide) ?_
      exact law_2 l hlt C0 hL D dA E A hAe b o od hK hZ tn cl sl htn hC hB I F h0 s0 CT M tw tp tx tL c9 g gd hRI0 hCI hrel hN H locs hP hD hS ls hl)
    (by
      refine lv_tableIn (off := 266) (tgt := 311) C0.1 C0.2.1 dL_law_45 sw1_3 sw2_3 sw3_3 (by decide) ?_
      exact law_3 l hlt C0 hL D dA E A hAe b o od hK hZ tn cl sl htn hC hB I F h0 s0 CT M tw tp tx tL c9 g gd hRI0 hCI hrel hN H locs hP hD hS ls hl)
    (by
      refine lv_tableIn (off := 294) (tgt := 339) C0.1 C0.2.1 dL_law_45 sw1_4 sw2_4 sw3_4 (by decide) ?_
      exact law_4 l hlt C0 hL D dA E A hAe b o od hK hZ tn cl sl htn hC hB I F h0 s0 CT M tw tp tx tL c9 g gd hRI0 hCI hrel hN H locs hP hD hS ls hl)
    (by
      refine lv_tableIn (off := 310) (tgt := 355) C0.1 C0.2.1 dL_law_45 sw1_5 sw2_5 sw3_5 (by decide) ?_
      exact law_5 l hlt C0 hL D dA E A hAe b o od hK hZ tn cl sl htn hC hB I F h0 s0 CT M tw tp tx tL c9 g gd hRI0 hCI hrel hN H locs hP hD hS ls hl)
    (by
      refine lv_tableIn (off := 338) (tgt := 383) C0.1 C0.2.1 dL_law_45 sw1_6 sw2_6 sw3_6 (by decide) ?_
      exact law_6 l hlt C0 hL D dA E A hAe b o od hK hZ tn cl sl htn hC hB I F h0 s0 CT M tw tp tx tL c9 g gd hRI0 hCI hrel hN H locs hP hD hS ls hl)
    (by
      refine lv_tableIn (off := 366) (tgt := 411) C0.1 C0.2.1 dL_law_45 sw1_7 sw2_7 sw3_7 (by decide) ?_
      exact law_7 l hlt C0 hL D dA E A hAe b o od hK hZ tn cl sl htn hC hB I F h0 s0 CT M tw tp tx tL c9 g gd hRI0 hCI hrel hN H locs hP hD hS ls hl)
    (by
      refine lv_tableIn (off := 394) (tgt := 439) C0.1 C0.2.1 dL_law_45 sw1_8 sw2_8 sw3_8 (by decide) ?_
      exact law_8 l hlt C0 hL D dA E A hAe b o od hK hZ tn cl sl htn hC hB I F h0 s0 CT M tw tp tx tL c9 g gd hRI0 hCI hrel hN H locs hP hD hS ls hl)
    (by
      refine lv_tableIn (off := 446) (tgt := 491) C0.1 C0.2.1 dL_law_45 sw1_9 sw2_9 sw3_9 (by decide) ?_
      exact law_9 l hlt C0 hL D dA E A hAe b o od hK hZ tn cl sl htn hC hB I F h0 s0 CT M tw tp tx tL c9 g gd hRI0 hCI hrel hN H locs hP hD hS ls hl)
    (by
      refine lv_tableIn (off := 459) (tgt := 504) C0.1 C0.2.1 dL_law_45 sw1_10 sw2_10 sw3_10 (by decide) ?_
      exact law_10 l hlt C0 hL D dA E A hAe b o od hK hZ tn cl sl htn hC hB I F h0 s0 CT M tw tp tx tL c9 g gd hRI0 hCI hrel hN H locs hP hD hS ls hl)
    (by
      refine lv_tableIn (off := 472) (tgt := 517) C0.1 C0.2.1 dL_law_45 sw1_11 sw2_11 sw3_11 (by decide) ?_
      exact law_11 l hlt C0 hL D dA E A hAe b o od hK hZ tn cl sl htn hC hB I F h0 s0 CT M tw tp tx tL c9 g gd hRI0 hCI hrel hN H locs hP hD hS ls hl)
    (by
      refine lv_tableIn (off := 500) (tgt := 545) C0.1 C0.2.1 dL_law_45 sw1_12 sw2_12 sw3_12 (by decide) ?_
      exact law_12 l hlt C0 hL D dA E A hAe b o od hK hZ tn cl sl htn hC hB I F h0 s0 CT M tw tp tx tL c9 g gd hRI0 hCI hrel hN H locs hP hD hS ls hl)
    (by
      refine lv_tableIn (off := 528) (tgt := 573) C0.1 C0.2.1 dL_law_45 sw1_13 sw2_13 sw3_13 (by decide) ?_
      exact law_13 l hlt C0 hL D dA E A hAe b o od hK hZ tn cl sl htn hC hB I F h0 s0 CT M tw tp tx tL c9 g gd hRI0 hCI hrel hN H locs hP hD hS ls hl)
    (by
      refine lv_tableIn (off := 541) (tgt := 586) C0.1 C0.2.1 dL_law_45 sw1_14 sw2_14 sw3_14 (by decide) ?_
      exact law_14 l hlt C0 hL D dA E A hAe b o od hK hZ tn cl sl htn hC hB I F h0 s0 CT M tw tp tx tL c9 g gd hRI0 hCI hrel hN H locs hP hD hS ls hl)
    (by
      refine lv_tableIn (off := 554) (tgt := 599) C0.1 C0.2.1 dL_law_45 sw1_15 sw2_15 sw3_15 (by decide) ?_
      exact law_15 l hlt C0 hL D dA E A hAe b o od hK hZ tn cl sl htn hC hB I F h0 s0 CT M tw tp tx tL c9 g gd hRI0 hCI hrel hN H locs hP hD hS ls hl)
    (by
      refine lv_tableIn (off := 570) (tgt := 615) C0.1 C0.2.1 dL_law_45 sw1_16 sw2_16 sw3_16 (by decide) ?_
      exact law_16 l hlt C0 hL D dA E A hAe b o od hK hZ tn cl sl htn hC hB I F h0 s0 CT M tw tp tx tL c9 g gd hRI0 hCI hrel hN H locs hP hD hS ls hl)
    (by
      refine lv_tableIn (off := 598) (tgt := 643) C0.1 C0.2.1 dL_law_45 sw1_17 sw2_17 sw3_17 (by decide) ?_
      exact law_17 l hlt C0 hL D dA E A hAe b o od hK hZ tn cl sl htn hC hB I F h0 s0 CT M tw tp tx tL c9 g gd hRI0 hCI hrel hN H locs hP hD hS ls hl)
    (by
      refine lv_tableIn (off := 642) (tgt := 687) C0.1 C0.2.1 dL_law_45 sw1_18 sw2_18 sw3_18 (by decide) ?_
      exact law_18 l hlt C0 hL D dA E A hAe b o od hK hZ tn cl sl htn hC hB I F h0 s0 CT M tw tp tx tL c9 g gd hRI0 hCI hrel hN H locs hP hD hS ls hl)
    (by
      refine lv_tableIn (off := 670) (tgt := 715) C0.1 C0.2.1 dL_law_45 sw1_19 sw2_19 sw3_19 (by decide) ?_
      exact law_19 l hlt C0 hL D dA E A hAe b o od hK hZ tn cl sl htn hC hB I F h0 s0 CT M tw tp tx tL c9 g gd hRI0 hCI hrel hN H locs hP hD hS ls hl)
    (by
      refine lv_tableIn (off := 698) (tgt := 743) C0.1 C0.2.1 dL_law_45 sw1_20 sw2_20 sw3_20 (by decide) ?_
      exact law_20 l hlt C0 hL D dA E A hAe b o od hK hZ tn cl sl htn hC hB I F h0 s0 CT M tw tp tx tL c9 g gd hRI0 hCI hrel hN H locs hP hD hS ls hl)
    (by
      refine lv_tableIn (off := 776) (tgt := 821) C0.1 C0.2.1 dL_law_45 sw1_21 sw2_21 sw3_21 (by decide) ?_
      exact law_21 l hlt C0 hL D dA E A hAe b o od hK hZ tn cl sl htn hC hB I F h0 s0 CT M tw tp tx tL c9 g gd hRI0 hCI hrel hN H locs hP hD hS ls hl)
    (by
      refine lv_tableIn (off := 830) (tgt := 875) C0.1 C0.2.1 dL_law_45 sw1_22 sw2_22 sw3_22 (by decide) ?_
      exact law_22 l hlt C0 hL D dA E A hAe b o od hK hZ tn cl sl htn hC hB I F h0 s0 CT M tw tp tx tL c9 g gd hRI0 hCI hrel hN H locs hP hD hS ls hl)
    (by
      refine lv_tableIn (off := 870) (tgt := 915) C0.1 C0.2.1 dL_law_45 sw1_23 sw2_23 sw3_23 (by decide) ?_
      exact law_23 l hlt C0 hL D dA E A hAe b o od hK hZ tn cl sl htn hC hB I F h0 s0 CT M tw tp tx tL c9 g gd hRI0 hCI hrel hN H locs hP hD hS ls hl)
    (by
      refine lv_tableIn (off := 922) (tgt := 967) C0.1 C0.2.1 dL_law_45 sw1_24 sw2_24 sw3_24 (by decide) ?_
      exact law_24 l hlt C0 hL D dA E A hAe b o od hK hZ tn cl sl htn hC hB I F h0 s0 CT M tw tp tx tL c9 g gd hRI0 hCI hrel hN H locs hP hD hS ls hl)
    (by
      refine lv_tableIn (off := 974) (tgt := 1019) C0.1 C0.2.1 dL_law_45 sw1_25 sw2_25 sw3_25 (by decide) ?_
      exact law_25 l hlt C0 hL D dA E A hAe b o od hK hZ tn cl sl htn hC hB I F h0 s0 CT M tw tp tx tL c9 g gd hRI0 hCI hrel hN H locs hP hD hS ls hl)
    (by
      refine lv_tableIn (off := 1026) (tgt := 1071) C0.1 C0.2.1 dL_law_45 sw1_26 sw2_26 sw3_26 (by decide) ?_
      exact law_26 l hlt C0 hL D dA E A hAe b o od hK hZ tn cl sl htn hC hB I F h0 s0 CT M tw tp tx tL c9 g gd hRI0 hCI hrel hN H locs hP hD hS ls hl)
    (by
      refine lv_tableIn (off := 1078) (tgt := 1123) C0.1 C0.2.1 dL_law_45 sw1_27 sw2_27 sw3_27 (by decide) ?_
      exact law_27 l hlt C0 hL D dA E A hAe b o od hK hZ tn cl sl htn hC hB I F h0 s0 CT M tw tp tx tL c9 g gd hRI0 hCI hrel hN H locs hP hD hS ls hl)
    (by
      refine lv_tableIn (off := 1130) (tgt := 1175) C0.1 C0.2.1 dL_law_45 sw1_28 sw2_28 sw3_28 (by decide) ?_
      exact law_28 l hlt C0 hL D dA E A hAe b o od hK hZ tn cl sl htn hC hB I F h0 s0 CT M tw tp tx tL c9 g gd hRI0 hCI hrel hN H locs hP hD hS ls hl)
    (by
      refine lv_tableIn (off := 1170) (tgt := 1215) C0.1 C0.2.1 dL_law_45 sw1_29 sw2_29 sw3_29 (by decide) ?_
      exact law_29 l hlt C0 hL D dA E A hAe b o od hK hZ tn cl sl htn hC hB I F h0 s0 CT M tw tp tx tL c9 g gd hRI0 hCI hrel hN H locs hP hD hS ls hl)
    (by
      refine lv_tableIn (off := 1222) (tgt := 1267) C0.1 C0.2.1 dL_law_45 sw1_30 sw2_30 sw3_30 (by decide) ?_
      exact law_30 l hlt C0 hL D dA E A hAe b o od hK hZ tn cl sl htn hC hB I F h0 s0 CT M tw tp tx tL c9 g gd hRI0 hCI hrel hN H locs hP hD hS ls hl)
    (by
      refine lv_tableIn (off := 1274) (tgt := 1319) C0.1 C0.2.1 dL_law_45 sw1_31 sw2_31 sw3_31 (by decide) ?_
      exact law_31 l hlt C0 hL D dA E A hAe b o od hK hZ tn cl sl htn hC hB I F h0 s0 CT M tw tp tx tL c9 g gd hRI0 hCI hrel hN H locs hP hD hS ls hl)
    (by
      refine lv_tableIn (off := 1302) (tgt := 1347) C0.1 C0.2.1 dL_law_45 sw1_32 sw2_32 sw3_32 (by decide) ?_
      exact law_32 l hlt C0 hL D dA E A hAe b o od hK hZ tn cl sl htn hC hB I F h0 s0 CT M tw tp tx tL c9 g gd hRI0 hCI hrel hN H locs hP hD hS ls hl)
    (by
      refine lv_tableIn (off := 1330) (tgt := 1375) C0.1 C0.2.1 dL_law_45 sw1_33 sw2_33 sw3_33 (by decide) ?_
      exact law_33 l hlt C0 hL D dA E A hAe b o od hK hZ tn cl sl htn hC hB I F h0 s0 CT M tw tp tx tL c9 g gd hRI0 hCI hrel hN H locs hP hD hS ls hl)
    (by
      refine lv_tableIn (off := 1370) (tgt := 1415) C0.1 C0.2.1 dL_law_45 sw1_34 sw2_34 sw3_34 (by decide) ?_
      exact law_34 l hlt C0 hL D dA E A hAe b o od hK hZ tn cl sl htn hC hB I F h0 s0 CT M tw tp tx tL c9 g gd hRI0 hCI hrel hN H locs hP hD hS ls hl)
    (by
      refine lv_tableIn (off := 1387) (tgt := 1432) C0.1 C0.2.1 dL_law_45 sw1_35 sw2_35 sw3_35 (by decide) ?_
      exact law_35 l hlt C0 hL D dA E A hAe b o od hK hZ tn cl sl htn hC hB I F h0 s0 CT M tw tp tx tL c9 g gd hRI0 hCI hrel hN H locs hP hD hS ls hl)
