theorem nd_X0 : ∀ j, j < 8 → defaultValue (tyX0 j) = dfv (FV 0 j) := by
  intro j hj
  obtain rfl | rfl | rfl | rfl | rfl | rfl | rfl | rfl : j = 0 ∨ j = 1 ∨ j = 2 ∨ j = 3 ∨ j = 4 ∨ j = 5 ∨ j = 6 ∨ j = 7 := by omega
  · rfl
  · rfl
  · rfl
  · rfl
  · rfl
  · rfl
  · rfl
  · rfl
theorem nd_X1 : ∀ j, j < 9 → defaultValue (tyX1 j) = dfv (FV 1 j) := by
  intro j hj
  obtain rfl | rfl | rfl | rfl | rfl | rfl | rfl | rfl | rfl : j = 0 ∨ j = 1 ∨ j = 2 ∨ j = 3 ∨ j = 4 ∨ j = 5 ∨ j = 6 ∨ j = 7 ∨ j = 8 := by omega
  · rfl
  · rfl
  · rfl
  · rfl
  · rfl
  · rfl
  · rfl
  · rfl
  · rfl
theorem nd_X2 : ∀ j, j < 4 → defaultValue (tyX2 j) = dfv (FV 2 j) := by
  intro j hj
  obtain rfl | rfl | rfl | rfl : j = 0 ∨ j = 1 ∨ j = 2 ∨ j = 3 := by omega
  · rfl
  · rfl
  · rfl
  · rfl
theorem nd_X3 : ∀ j, j < 10 → defaultValue (tyX3 j) = dfv (FV 3 j) := by
  intro j hj
  obtain rfl | rfl | rfl | rfl | rfl | rfl | rfl | rfl | rfl | rfl : j = 0 ∨ j = 1 ∨ j = 2 ∨ j = 3 ∨ j = 4 ∨ j = 5 ∨ j = 6 ∨ j = 7 ∨ j = 8 ∨ j = 9 := by omega
  · rfl
  · rfl
  · rfl
  · rfl
  · rfl
  · rfl
  · rfl
  · rfl
  · rfl
  · rfl
theorem nd_X4 : ∀ j, j < 3 → defaultValue (tyX4 j) = dfv (FV 4 j) := by
  intro j hj
  obtain rfl | rfl | rfl : j = 0 ∨ j = 1 ∨ j = 2 := by omega
  · rfl
  · rfl
  · rfl
theorem nd_X5 : ∀ j, j < 3 → defaultValue (tyX5 j) = dfv (FV 5 j) := by
  intro j hj
  obtain rfl | rfl | rfl : j = 0 ∨ j = 1 ∨ j = 2 := by omega
  · rfl
  · rfl
  · rfl
theorem nd_X6 : ∀ j, j < 5 → defaultValue (tyX6 j) = dfv (FV 6 j) := by
  intro j hj
  obtain rfl | rfl | rfl | rfl | rfl : j = 0 ∨ j = 1 ∨ j = 2 ∨ j = 3 ∨ j = 4 := by omega
  · rfl
  · rfl
  · rfl
  · rfl
  · rfl
theorem nd_X7 : ∀ j, j < 5 → defaultValue (tyX7 j) = dfv (FV 7 j) := by
  intro j hj
  obtain rfl | rfl | rfl | rfl | rfl : j = 0 ∨ j = 1 ∨ j = 2 ∨ j = 3 ∨ j = 4 := by omega
  · rfl
  · rfl
  · rfl
  · rfl
  · rfl
theorem nd_X8 : ∀ j, j < 9 → defaultValue (tyX8 j) = dfv (FV 8 j) := by
  intro j hj
  obtain rfl | rfl | rfl | rfl | rfl | rfl | rfl | rfl | rfl : j = 0 ∨ j = 1 ∨ j = 2 ∨ j = 3 ∨ j = 4 ∨ j = 5 ∨ j = 6 ∨ j = 7 ∨ j = 8 := by omega
  · rfl
  · rfl
  · rfl
  · rfl
  · rfl
  · rfl
  · rfl
  · rfl
  · rfl
theorem nd_X9 : ∀ j, j < 8 → defaultValue (tyX9 j) = dfv (FV 9 j) := by
  intro j hj
  obtain rfl | rfl | rfl | rfl | rfl | rfl | rfl | rfl : j = 0 ∨ j = 1 ∨ j = 2 ∨ j = 3 ∨ j = 4 ∨ j = 5 ∨ j = 6 ∨ j = 7 := by omega
  · rfl
  · rfl
  · rfl
  · rfl
  · rfl
  · rfl
  · rfl
  · rfl
theorem nd_X10 : ∀ j, j < 22 → defaultValue (tyX10 j) = dfv (FV 10 j) := by
  intro j hj
  obtain rfl | rfl | rfl | rfl | rfl | rfl | rfl | rfl | rfl | rfl | rfl | rfl | rfl | rfl | rfl | rfl | rfl | rfl | rfl | rfl | rfl | rfl : j = 0 ∨ j = 1 ∨ j = 2 ∨ j = 3 ∨ j = 4 ∨ j = 5 ∨ j = 6 ∨ j = 7 ∨ j = 8 ∨ j = 9 ∨ j = 10 ∨ j = 11 ∨ j = 12 ∨ j = 13 ∨ j = 14 ∨ j = 15 ∨ j = 16 ∨ j = 17 ∨ j = 18 ∨ j = 19 ∨ j = 20 ∨ j = 21 := by omega
  · rfl
  · rfl
  · rfl
  · rfl
  · rfl
  · rfl
  · rfl
  · rfl
  · rfl
  · rfl
  · rfl
  · rfl
  · rfl
  · rfl
  · rfl
  · rfl
  · rfl
  · rfl
  · rfl
  · rfl
  · rfl
  · rfl

set_option maxRecDepth 100000 in
theorem nwL_7 : NWK "FoxRoundsLaw" 7 9 8 := ⟨RX9, TX9, tyX9, lt_of 88 rfl rfl, lt_of 89 rfl rfl, lt_of 70 rfl rfl, ck_X9.1, ck_X9.2.1, tyX9_ok, nd_X9⟩
set_option maxRecDepth 100000 in
theorem nwX9_7 : NWK "FoxRounds" 7 8 9 := ⟨RX8, TX8, tyX8, lt_of 96 rfl rfl, lt_of 97 rfl rfl, lt_of 71 rfl rfl, ck_X8.1, ck_X8.2.1, tyX8_ok, nd_X8⟩
set_option maxRecDepth 100000 in
theorem nwX8_9 : NWK "FoxRounds$World" 9 1 9 := ⟨RX1, TX1, tyX1, lt_of 102 rfl rfl, lt_of 103 rfl rfl, lt_of 72 rfl rfl, ck_X1.1, ck_X1.2.1, tyX1_ok, nd_X1⟩
set_option maxRecDepth 100000 in
theorem clX1_22 : Cond.classLink "FoxRounds$House" 22 "[[I" ∈ LT := lt_of 108 rfl rfl
set_option maxRecDepth 100000 in
theorem nwX8_18 : NWK "FoxRounds$World" 18 2 4 := ⟨RX2, TX2, tyX2, lt_of 160 rfl rfl, lt_of 161 rfl rfl, lt_of 74 rfl rfl, ck_X2.1, ck_X2.2.1, tyX2_ok, nd_X2⟩
set_option maxRecDepth 100000 in
theorem nwX2_9 : NWK "FoxRounds$Laws" 9 5 3 := ⟨RX5, TX5, tyX5, lt_of 166 rfl rfl, lt_of 167 rfl rfl, lt_of 75 rfl rfl, ck_X5.1, ck_X5.2.1, tyX5_ok, nd_X5⟩
set_option maxRecDepth 100000 in
theorem nwX8_25 : NWK "FoxRounds$World" 25 6 5 := ⟨RX6, TX6, tyX6, lt_of 205 rfl rfl, lt_of 206 rfl rfl, lt_of 76 rfl rfl, ck_X6.1, ck_X6.2.1, tyX6_ok, nd_X6⟩
set_option maxRecDepth 100000 in
theorem nwX9_23 : NWK "FoxRounds" 23 0 8 := ⟨RX0, TX0, tyX0, lt_of 269 rfl rfl, lt_of 270 rfl rfl, lt_of 77 rfl rfl, ck_X0.1, ck_X0.2.1, tyX0_ok, nd_X0⟩
set_option maxRecDepth 100000 in
theorem nwX0_9 : NWK "FoxRounds$Ahead" 9 1 9 := ⟨RX1, TX1, tyX1, lt_of 275 rfl rfl, lt_of 103 rfl rfl, lt_of 72 rfl rfl, ck_X1.1, ck_X1.2.1, tyX1_ok, nd_X1⟩
set_option maxRecDepth 100000 in
theorem nwX9_40 : NWK "FoxRounds" 40 3 10 := ⟨RX3, TX3, tyX3, lt_of 305 rfl rfl, lt_of 306 rfl rfl, lt_of 78 rfl rfl, ck_X3.1, ck_X3.2.1, tyX3_ok, nd_X3⟩
set_option maxRecDepth 100000 in
theorem nwX3_9 : NWK "FoxRounds$Reader" 9 5 3 := ⟨RX5, TX5, tyX5, lt_of 311 rfl rfl, lt_of 167 rfl rfl, lt_of 75 rfl rfl, ck_X5.1, ck_X5.2.1, tyX5_ok, nd_X5⟩
set_option maxRecDepth 100000 in
theorem nwX9_47 : NWK "FoxRounds" 47 7 5 := ⟨RX7, TX7, tyX7, lt_of 346 rfl rfl, lt_of 347 rfl rfl, lt_of 79 rfl rfl, ck_X7.1, ck_X7.2.1, tyX7_ok, nd_X7⟩
set_option maxRecDepth 100000 in
theorem nwX9_54 : NWK "FoxRounds" 54 4 3 := ⟨RX4, TX4, tyX4, lt_of 370 rfl rfl, lt_of 372 rfl rfl, lt_of 80 rfl rfl, ck_X4.1, ck_X4.2.1, tyX4_ok, nd_X4⟩
set_option maxRecDepth 100000 in
theorem nwL_10 : NWK "FoxRoundsLaw" 10 10 22 := ⟨RX10, TX10, tyX10, lt_of 1040 rfl rfl, lt_of 1041 rfl rfl, lt_of 81 rfl rfl, ck_X10.1, ck_X10.2.1, tyX10_ok, nd_X10⟩
set_option maxRecDepth 100000 in
theorem clX9_54 : Cond.classLink "FoxRounds" 54 "FoxRounds$Sheet" ∈ LT := lt_of 370 rfl rfl
set_option maxRecDepth 100000 in
theorem wa_int : Cond.arrayClass .int ∈ LT := lt_of 159 rfl rfl
set_option maxRecDepth 100000 in
theorem wa_byte : Cond.arrayClass .byte ∈ LT := lt_of 268 rfl rfl
set_option maxRecDepth 100000 in
theorem wa_boolean : Cond.arrayClass .boolean ∈ LT := lt_of 1113 rfl rfl
set_option maxRecDepth 100000 in
theorem oi_X9 : Cond.methodLink "FoxRounds" 1 Lib.objectInit ∈ LT := lt_of 93 rfl rfl
set_option maxRecDepth 100000 in
theorem oi_m : Cond.instanceMethod Lib.objectInit ∈ LT := lt_of 94 rfl rfl
set_option maxRecDepth 100000 in
theorem oi_c : Cond.code Lib.objectInit ⟨#[0xb1]⟩ 1 none ∈ LT := lt_of 95 rfl rfl
set_option maxRecDepth 100000 in
theorem oi_X8 : Cond.methodLink "FoxRounds$World" 3 Lib.objectInit ∈ LT := lt_of 101 rfl rfl
set_option maxRecDepth 100000 in
theorem oi_X1 : Cond.methodLink "FoxRounds$House" 3 Lib.objectInit ∈ LT := lt_of 107 rfl rfl
set_option maxRecDepth 100000 in
theorem oi_X2 : Cond.methodLink "FoxRounds$Laws" 3 Lib.objectInit ∈ LT := lt_of 165 rfl rfl
set_option maxRecDepth 100000 in
theorem oi_X5 : Cond.methodLink "FoxRounds$Text" 3 Lib.objectInit ∈ LT := lt_of 173 rfl rfl
set_option maxRecDepth 100000 in
theorem oi_X6 : Cond.methodLink "FoxRounds$Village" 3 Lib.objectInit ∈ LT := lt_of 210 rfl rfl
set_option maxRecDepth 100000 in
theorem oi_X0 : Cond.methodLink "FoxRounds$Ahead" 3 Lib.objectInit ∈ LT := lt_of 274 rfl rfl
set_option maxRecDepth 100000 in
theorem oi_X3 : Cond.methodLink "FoxRounds$Reader" 3 Lib.objectInit ∈ LT := lt_of 310 rfl rfl
set_option maxRecDepth 100000 in
theorem oi_X7 : Cond.methodLink "FoxRounds$Voices" 3 Lib.objectInit ∈ LT := lt_of 351 rfl rfl
set_option maxRecDepth 100000 in
theorem oi_X4 : Cond.methodLink "FoxRounds$Sheet" 3 Lib.objectInit ∈ LT := lt_of 376 rfl rfl
set_option maxRecDepth 100000 in
theorem oi_X10 : Cond.methodLink "FoxRoundsModel" 1 Lib.objectInit ∈ LT := lt_of 1045 rfl rfl
