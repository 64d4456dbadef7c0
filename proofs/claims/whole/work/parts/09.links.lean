set_option maxRecDepth 20000 in
theorem in_X0 : ∀ w ∈ u_ws RX0 TX0 3, w ∈ am_TB := by decide +kernel
set_option maxRecDepth 20000 in
theorem in_X1 : ∀ w ∈ u_ws RX1 TX1 3, w ∈ am_TB := by decide +kernel
set_option maxRecDepth 20000 in
theorem in_X2 : ∀ w ∈ u_ws RX2 TX2 5, w ∈ am_TB := by decide +kernel
set_option maxRecDepth 20000 in
theorem in_X4 : ∀ w ∈ u_ws RX4 TX4 4, w ∈ am_TB := by decide +kernel
set_option maxRecDepth 20000 in
theorem in_X5 : ∀ w ∈ u_ws RX5 TX5 9, w ∈ am_TB := by decide +kernel
set_option maxRecDepth 20000 in
theorem in_X6 : ∀ w ∈ u_ws RX6 TX6 4, w ∈ am_TB := by decide +kernel
set_option maxRecDepth 20000 in
theorem in_X7 : ∀ w ∈ u_ws RX7 TX7 10, w ∈ am_TB := by decide +kernel
set_option maxRecDepth 20000 in
theorem in_X8 : ∀ w ∈ u_ws RX8 TX8 24, w ∈ am_TB := by decide +kernel
set_option maxRecDepth 20000 in
theorem iw_X7 : Cond.initialized RX7 ∈ am_TB := am_in 41 (by decide +kernel) rfl
set_option maxRecDepth 20000 in
theorem iw_X0 : Cond.initialized RX0 ∈ am_TB := am_in 45 (by decide +kernel) rfl
set_option maxRecDepth 20000 in
theorem iw_X1 : Cond.initialized RX1 ∈ am_TB := am_in 47 (by decide +kernel) rfl
set_option maxRecDepth 20000 in
theorem iw_X2 : Cond.initialized RX2 ∈ am_TB := am_in 46 (by decide +kernel) rfl
set_option maxRecDepth 20000 in
theorem iw_X3 : Cond.initialized RX3 ∈ am_TB := am_in 51 (by decide +kernel) rfl
set_option maxRecDepth 20000 in
theorem iw_X4 : Cond.initialized RX4 ∈ am_TB := am_in 42 (by decide +kernel) rfl
set_option maxRecDepth 20000 in
theorem iw_X5 : Cond.initialized RX5 ∈ am_TB := am_in 44 (by decide +kernel) rfl
set_option maxRecDepth 20000 in
theorem iw_X6 : Cond.initialized RX6 ∈ am_TB := am_in 43 (by decide +kernel) rfl
set_option maxRecDepth 20000 in
theorem iw_L : Cond.initialized RL ∈ am_TB := am_in 40 (by decide +kernel) rfl
set_option maxRecDepth 20000 in
theorem iw_X8 : Cond.initialized RX8 ∈ am_TB := am_in 48 (by decide +kernel) rfl
set_option maxRecDepth 20000 in
theorem iw_J6 : Cond.initialized RJ6 ∈ am_TB := am_in 53 (by decide +kernel) rfl
set_option maxRecDepth 20000 in
theorem iw_J9 : Cond.initialized RJ9 ∈ am_TB := am_in 52 (by decide +kernel) rfl
set_option maxRecDepth 20000 in
theorem iw_J10 : Cond.initialized RJ10 ∈ am_TB := am_in 50 (by decide +kernel) rfl
set_option maxRecDepth 20000 in
theorem iw_J7 : Cond.initialized RJ7 ∈ am_TB := am_in 49 (by decide +kernel) rfl
set_option maxRecDepth 20000 in
theorem fw_X0_11 : Cond.fieldLink RX0 11 (TX0 2).1 (TX0 2).2.1 (TX0 2).2.2.1 ∈ am_TB := am_in 174 (by decide +kernel) rfl
set_option maxRecDepth 20000 in
theorem gf_X0_11 : am_gf RX0 11 0 2 := ⟨RX0, TX0, 3, rfl, by decide, by decide, fw_X0_11, in_X0⟩
set_option maxRecDepth 20000 in
theorem pf_X0_11 : am_pf RX0 11 0 2 true (tyX0 2) := ⟨RX0, TX0, 3, tyX0, rfl, by decide, by decide, fw_X0_11, in_X0, tyX0_ok, nmX0, rfl, rfl, fun _ => rfl⟩
set_option maxRecDepth 20000 in
theorem fw_X0_16 : Cond.fieldLink RX0 16 (TX0 0).1 (TX0 0).2.1 (TX0 0).2.2.1 ∈ am_TB := am_in 171 (by decide +kernel) rfl
set_option maxRecDepth 20000 in
theorem gf_X0_16 : am_gf RX0 16 0 0 := ⟨RX0, TX0, 3, rfl, by decide, by decide, fw_X0_16, in_X0⟩
set_option maxRecDepth 20000 in
theorem pf_X0_16 : am_pf RX0 16 0 0 false .int := ⟨RX0, TX0, 3, tyX0, rfl, by decide, by decide, fw_X0_16, in_X0, tyX0_ok, nmX0, rfl, rfl, fun h => by cases h⟩
set_option maxRecDepth 20000 in
theorem fw_X0_20 : Cond.fieldLink RX0 20 (TX0 1).1 (TX0 1).2.1 (TX0 1).2.2.1 ∈ am_TB := am_in 173 (by decide +kernel) rfl
set_option maxRecDepth 20000 in
theorem gf_X0_20 : am_gf RX0 20 0 1 := ⟨RX0, TX0, 3, rfl, by decide, by decide, fw_X0_20, in_X0⟩
set_option maxRecDepth 20000 in
theorem pf_X0_20 : am_pf RX0 20 0 1 false .int := ⟨RX0, TX0, 3, tyX0, rfl, by decide, by decide, fw_X0_20, in_X0, tyX0_ok, nmX0, rfl, rfl, fun h => by cases h⟩
set_option maxRecDepth 20000 in
theorem fw_X1_9 : Cond.fieldLink RX1 9 (TX1 1).1 (TX1 1).2.1 (TX1 1).2.2.1 ∈ am_TB := am_in 218 (by decide +kernel) rfl
set_option maxRecDepth 20000 in
theorem gf_X1_9 : am_gf RX1 9 1 1 := ⟨RX1, TX1, 3, rfl, by decide, by decide, fw_X1_9, in_X1⟩
set_option maxRecDepth 20000 in
theorem pf_X1_9 : am_pf RX1 9 1 1 true (tyX1 1) := ⟨RX1, TX1, 3, tyX1, rfl, by decide, by decide, fw_X1_9, in_X1, tyX1_ok, nmX1, rfl, rfl, fun _ => rfl⟩
set_option maxRecDepth 20000 in
theorem fw_X1_13 : Cond.fieldLink RX1 13 (TX1 0).1 (TX1 0).2.1 (TX1 0).2.2.1 ∈ am_TB := am_in 217 (by decide +kernel) rfl
set_option maxRecDepth 20000 in
theorem gf_X1_13 : am_gf RX1 13 1 0 := ⟨RX1, TX1, 3, rfl, by decide, by decide, fw_X1_13, in_X1⟩
set_option maxRecDepth 20000 in
theorem pf_X1_13 : am_pf RX1 13 1 0 true (tyX1 0) := ⟨RX1, TX1, 3, tyX1, rfl, by decide, by decide, fw_X1_13, in_X1, tyX1_ok, nmX1, rfl, rfl, fun _ => rfl⟩
set_option maxRecDepth 20000 in
theorem fw_X1_17 : Cond.fieldLink RX1 17 (TX1 2).1 (TX1 2).2.1 (TX1 2).2.2.1 ∈ am_TB := am_in 220 (by decide +kernel) rfl
set_option maxRecDepth 20000 in
theorem gf_X1_17 : am_gf RX1 17 1 2 := ⟨RX1, TX1, 3, rfl, by decide, by decide, fw_X1_17, in_X1⟩
set_option maxRecDepth 20000 in
theorem pf_X1_17 : am_pf RX1 17 1 2 false .int := ⟨RX1, TX1, 3, tyX1, rfl, by decide, by decide, fw_X1_17, in_X1, tyX1_ok, nmX1, rfl, rfl, fun h => by cases h⟩
set_option maxRecDepth 20000 in
theorem fw_X1_29 : Cond.fieldLink RX1 29 (TX5 4).1 (TX5 4).2.1 (TX5 4).2.2.1 ∈ am_TB := am_in 127 (by decide +kernel) rfl
set_option maxRecDepth 20000 in
theorem gf_X1_29 : am_gf RX1 29 4 4 := ⟨RX5, TX5, 9, rfl, by decide, by decide, fw_X1_29, in_X5⟩
set_option maxRecDepth 20000 in
theorem fs_X1_43 : Cond.fieldLink RX1 43 RX1 "SIZE_BODIES" "[I" ∈ am_TB := am_in 707 (by decide +kernel) rfl
set_option maxRecDepth 20000 in
theorem fs_X1_46 : Cond.fieldLink RX1 46 RX1 "MARK_BODIES" "[I" ∈ am_TB := am_in 709 (by decide +kernel) rfl
set_option maxRecDepth 20000 in
theorem fw_X1_53 : Cond.fieldLink RX1 53 (TX5 7).1 (TX5 7).2.1 (TX5 7).2.2.1 ∈ am_TB := am_in 138 (by decide +kernel) rfl
set_option maxRecDepth 20000 in
theorem gf_X1_53 : am_gf RX1 53 4 7 := ⟨RX5, TX5, 9, rfl, by decide, by decide, fw_X1_53, in_X5⟩
set_option maxRecDepth 20000 in
theorem fw_X1_56 : Cond.fieldLink RX1 56 (TX5 6).1 (TX5 6).2.1 (TX5 6).2.2.1 ∈ am_TB := am_in 135 (by decide +kernel) rfl
set_option maxRecDepth 20000 in
theorem gf_X1_56 : am_gf RX1 56 4 6 := ⟨RX5, TX5, 9, rfl, by decide, by decide, fw_X1_56, in_X5⟩
set_option maxRecDepth 20000 in
theorem fw_X2_14 : Cond.fieldLink RX2 14 (TX2 1).1 (TX2 1).2.1 (TX2 1).2.2.1 ∈ am_TB := am_in 193 (by decide +kernel) rfl
set_option maxRecDepth 20000 in
theorem gf_X2_14 : am_gf RX2 14 2 1 := ⟨RX2, TX2, 5, rfl, by decide, by decide, fw_X2_14, in_X2⟩
set_option maxRecDepth 20000 in
theorem pf_X2_14 : am_pf RX2 14 2 1 true (tyX2 1) := ⟨RX2, TX2, 5, tyX2, rfl, by decide, by decide, fw_X2_14, in_X2, tyX2_ok, nmX2, rfl, rfl, fun _ => rfl⟩
set_option maxRecDepth 20000 in
theorem fw_X2_18 : Cond.fieldLink RX2 18 (TX2 2).1 (TX2 2).2.1 (TX2 2).2.2.1 ∈ am_TB := am_in 195 (by decide +kernel) rfl
set_option maxRecDepth 20000 in
theorem gf_X2_18 : am_gf RX2 18 2 2 := ⟨RX2, TX2, 5, rfl, by decide, by decide, fw_X2_18, in_X2⟩
set_option maxRecDepth 20000 in
theorem pf_X2_18 : am_pf RX2 18 2 2 true (tyX2 2) := ⟨RX2, TX2, 5, tyX2, rfl, by decide, by decide, fw_X2_18, in_X2, tyX2_ok, nmX2, rfl, rfl, fun _ => rfl⟩
set_option maxRecDepth 20000 in
theorem fw_X2_22 : Cond.fieldLink RX2 22 (TX2 3).1 (TX2 3).2.1 (TX2 3).2.2.1 ∈ am_TB := am_in 197 (by decide +kernel) rfl
set_option maxRecDepth 20000 in
theorem gf_X2_22 : am_gf RX2 22 2 3 := ⟨RX2, TX2, 5, rfl, by decide, by decide, fw_X2_22, in_X2⟩
set_option maxRecDepth 20000 in
theorem pf_X2_22 : am_pf RX2 22 2 3 true (tyX2 3) := ⟨RX2, TX2, 5, tyX2, rfl, by decide, by decide, fw_X2_22, in_X2, tyX2_ok, nmX2, rfl, rfl, fun _ => rfl⟩
set_option maxRecDepth 20000 in
theorem fw_X2_27 : Cond.fieldLink RX2 27 (TX2 4).1 (TX2 4).2.1 (TX2 4).2.2.1 ∈ am_TB := am_in 199 (by decide +kernel) rfl
set_option maxRecDepth 20000 in
theorem gf_X2_27 : am_gf RX2 27 2 4 := ⟨RX2, TX2, 5, rfl, by decide, by decide, fw_X2_27, in_X2⟩
set_option maxRecDepth 20000 in
theorem pf_X2_27 : am_pf RX2 27 2 4 true (tyX2 4) := ⟨RX2, TX2, 5, tyX2, rfl, by decide, by decide, fw_X2_27, in_X2, tyX2_ok, nmX2, rfl, rfl, fun _ => rfl⟩
set_option maxRecDepth 20000 in
theorem fw_X2_30 : Cond.fieldLink RX2 30 (TX2 0).1 (TX2 0).2.1 (TX2 0).2.2.1 ∈ am_TB := am_in 192 (by decide +kernel) rfl
set_option maxRecDepth 20000 in
theorem gf_X2_30 : am_gf RX2 30 2 0 := ⟨RX2, TX2, 5, rfl, by decide, by decide, fw_X2_30, in_X2⟩
set_option maxRecDepth 20000 in
theorem pf_X2_30 : am_pf RX2 30 2 0 true (tyX2 0) := ⟨RX2, TX2, 5, tyX2, rfl, by decide, by decide, fw_X2_30, in_X2, tyX2_ok, nmX2, rfl, rfl, fun _ => rfl⟩
set_option maxRecDepth 20000 in
theorem fw_X2_33 : Cond.fieldLink RX2 33 (TX5 5).1 (TX5 5).2.1 (TX5 5).2.2.1 ∈ am_TB := am_in 131 (by decide +kernel) rfl
set_option maxRecDepth 20000 in
theorem gf_X2_33 : am_gf RX2 33 4 5 := ⟨RX5, TX5, 9, rfl, by decide, by decide, fw_X2_33, in_X5⟩
set_option maxRecDepth 20000 in
theorem fw_X2_36 : Cond.fieldLink RX2 36 (TX5 6).1 (TX5 6).2.1 (TX5 6).2.2.1 ∈ am_TB := am_in 134 (by decide +kernel) rfl
set_option maxRecDepth 20000 in
theorem gf_X2_36 : am_gf RX2 36 4 6 := ⟨RX5, TX5, 9, rfl, by decide, by decide, fw_X2_36, in_X5⟩
set_option maxRecDepth 20000 in
theorem fw_X2_83 : Cond.fieldLink RX2 83 (TX5 7).1 (TX5 7).2.1 (TX5 7).2.2.1 ∈ am_TB := am_in 139 (by decide +kernel) rfl
set_option maxRecDepth 20000 in
theorem gf_X2_83 : am_gf RX2 83 4 7 := ⟨RX5, TX5, 9, rfl, by decide, by decide, fw_X2_83, in_X5⟩
set_option maxRecDepth 20000 in
theorem fw_X2_92 : Cond.fieldLink RX2 92 (TX5 4).1 (TX5 4).2.1 (TX5 4).2.2.1 ∈ am_TB := am_in 128 (by decide +kernel) rfl
set_option maxRecDepth 20000 in
theorem gf_X2_92 : am_gf RX2 92 4 4 := ⟨RX5, TX5, 9, rfl, by decide, by decide, fw_X2_92, in_X5⟩
set_option maxRecDepth 20000 in
theorem fw_X2_113 : Cond.fieldLink RX2 113 (TX5 0).1 (TX5 0).2.1 (TX5 0).2.2.1 ∈ am_TB := am_in 117 (by decide +kernel) rfl
set_option maxRecDepth 20000 in
theorem gf_X2_113 : am_gf RX2 113 4 0 := ⟨RX5, TX5, 9, rfl, by decide, by decide, fw_X2_113, in_X5⟩
set_option maxRecDepth 20000 in
theorem fs_X3_9 : Cond.fieldLink RX3 9 RX3 "NEAREST" "[I" ∈ am_TB := am_in 690 (by decide +kernel) rfl
set_option maxRecDepth 20000 in
theorem fw_X4_9 : Cond.fieldLink RX4 9 (TX4 0).1 (TX4 0).2.1 (TX4 0).2.2.1 ∈ am_TB := am_in 69 (by decide +kernel) rfl
set_option maxRecDepth 20000 in
theorem gf_X4_9 : am_gf RX4 9 3 0 := ⟨RX4, TX4, 4, rfl, by decide, by decide, fw_X4_9, in_X4⟩
set_option maxRecDepth 20000 in
theorem pf_X4_9 : am_pf RX4 9 3 0 false .boolean := ⟨RX4, TX4, 4, tyX4, rfl, by decide, by decide, fw_X4_9, in_X4, tyX4_ok, nmX4, rfl, rfl, fun h => by cases h⟩
set_option maxRecDepth 20000 in
theorem fw_X4_15 : Cond.fieldLink RX4 15 (TX4 3).1 (TX4 3).2.1 (TX4 3).2.2.1 ∈ am_TB := am_in 75 (by decide +kernel) rfl
set_option maxRecDepth 20000 in
theorem gf_X4_15 : am_gf RX4 15 3 3 := ⟨RX4, TX4, 4, rfl, by decide, by decide, fw_X4_15, in_X4⟩
set_option maxRecDepth 20000 in
theorem pf_X4_15 : am_pf RX4 15 3 3 true (tyX4 3) := ⟨RX4, TX4, 4, tyX4, rfl, by decide, by decide, fw_X4_15, in_X4, tyX4_ok, nmX4, rfl, rfl, fun _ => rfl⟩
set_option maxRecDepth 20000 in
theorem fw_X4_19 : Cond.fieldLink RX4 19 (TX4 1).1 (TX4 1).2.1 (TX4 1).2.2.1 ∈ am_TB := am_in 71 (by decide +kernel) rfl
set_option maxRecDepth 20000 in
theorem gf_X4_19 : am_gf RX4 19 3 1 := ⟨RX4, TX4, 4, rfl, by decide, by decide, fw_X4_19, in_X4⟩
set_option maxRecDepth 20000 in
theorem pf_X4_19 : am_pf RX4 19 3 1 false .int := ⟨RX4, TX4, 4, tyX4, rfl, by decide, by decide, fw_X4_19, in_X4, tyX4_ok, nmX4, rfl, rfl, fun h => by cases h⟩
set_option maxRecDepth 20000 in
theorem fw_X4_23 : Cond.fieldLink RX4 23 (TX4 2).1 (TX4 2).2.1 (TX4 2).2.2.1 ∈ am_TB := am_in 73 (by decide +kernel) rfl
set_option maxRecDepth 20000 in
theorem gf_X4_23 : am_gf RX4 23 3 2 := ⟨RX4, TX4, 4, rfl, by decide, by decide, fw_X4_23, in_X4⟩
set_option maxRecDepth 20000 in
theorem pf_X4_23 : am_pf RX4 23 3 2 false .int := ⟨RX4, TX4, 4, tyX4, rfl, by decide, by decide, fw_X4_23, in_X4, tyX4_ok, nmX4, rfl, rfl, fun h => by cases h⟩
set_option maxRecDepth 20000 in
theorem fw_X5_9 : Cond.fieldLink RX5 9 (TX5 3).1 (TX5 3).2.1 (TX5 3).2.2.1 ∈ am_TB := am_in 123 (by decide +kernel) rfl
set_option maxRecDepth 20000 in
theorem gf_X5_9 : am_gf RX5 9 4 3 := ⟨RX5, TX5, 9, rfl, by decide, by decide, fw_X5_9, in_X5⟩
set_option maxRecDepth 20000 in
theorem pf_X5_9 : am_pf RX5 9 4 3 true (tyX5 3) := ⟨RX5, TX5, 9, tyX5, rfl, by decide, by decide, fw_X5_9, in_X5, tyX5_ok, nmX5, rfl, rfl, fun _ => rfl⟩
set_option maxRecDepth 20000 in
theorem fw_X5_13 : Cond.fieldLink RX5 13 (TX5 4).1 (TX5 4).2.1 (TX5 4).2.2.1 ∈ am_TB := am_in 126 (by decide +kernel) rfl
set_option maxRecDepth 20000 in
theorem gf_X5_13 : am_gf RX5 13 4 4 := ⟨RX5, TX5, 9, rfl, by decide, by decide, fw_X5_13, in_X5⟩
set_option maxRecDepth 20000 in
theorem pf_X5_13 : am_pf RX5 13 4 4 true (tyX5 4) := ⟨RX5, TX5, 9, tyX5, rfl, by decide, by decide, fw_X5_13, in_X5, tyX5_ok, nmX5, rfl, rfl, fun _ => rfl⟩
set_option maxRecDepth 20000 in
theorem fw_X5_16 : Cond.fieldLink RX5 16 (TX5 5).1 (TX5 5).2.1 (TX5 5).2.2.1 ∈ am_TB := am_in 130 (by decide +kernel) rfl
set_option maxRecDepth 20000 in
theorem gf_X5_16 : am_gf RX5 16 4 5 := ⟨RX5, TX5, 9, rfl, by decide, by decide, fw_X5_16, in_X5⟩
set_option maxRecDepth 20000 in
theorem pf_X5_16 : am_pf RX5 16 4 5 true (tyX5 5) := ⟨RX5, TX5, 9, tyX5, rfl, by decide, by decide, fw_X5_16, in_X5, tyX5_ok, nmX5, rfl, rfl, fun _ => rfl⟩
set_option maxRecDepth 20000 in
theorem fw_X5_19 : Cond.fieldLink RX5 19 (TX5 6).1 (TX5 6).2.1 (TX5 6).2.2.1 ∈ am_TB := am_in 133 (by decide +kernel) rfl
set_option maxRecDepth 20000 in
theorem gf_X5_19 : am_gf RX5 19 4 6 := ⟨RX5, TX5, 9, rfl, by decide, by decide, fw_X5_19, in_X5⟩
set_option maxRecDepth 20000 in
theorem pf_X5_19 : am_pf RX5 19 4 6 true (tyX5 6) := ⟨RX5, TX5, 9, tyX5, rfl, by decide, by decide, fw_X5_19, in_X5, tyX5_ok, nmX5, rfl, rfl, fun _ => rfl⟩
set_option maxRecDepth 20000 in
theorem fw_X5_22 : Cond.fieldLink RX5 22 (TX5 7).1 (TX5 7).2.1 (TX5 7).2.2.1 ∈ am_TB := am_in 137 (by decide +kernel) rfl
set_option maxRecDepth 20000 in
theorem gf_X5_22 : am_gf RX5 22 4 7 := ⟨RX5, TX5, 9, rfl, by decide, by decide, fw_X5_22, in_X5⟩
set_option maxRecDepth 20000 in
theorem pf_X5_22 : am_pf RX5 22 4 7 true (tyX5 7) := ⟨RX5, TX5, 9, tyX5, rfl, by decide, by decide, fw_X5_22, in_X5, tyX5_ok, nmX5, rfl, rfl, fun _ => rfl⟩
set_option maxRecDepth 20000 in
theorem fw_X5_25 : Cond.fieldLink RX5 25 (TX5 8).1 (TX5 8).2.1 (TX5 8).2.2.1 ∈ am_TB := am_in 141 (by decide +kernel) rfl
set_option maxRecDepth 20000 in
theorem gf_X5_25 : am_gf RX5 25 4 8 := ⟨RX5, TX5, 9, rfl, by decide, by decide, fw_X5_25, in_X5⟩
set_option maxRecDepth 20000 in
theorem pf_X5_25 : am_pf RX5 25 4 8 true (tyX5 8) := ⟨RX5, TX5, 9, tyX5, rfl, by decide, by decide, fw_X5_25, in_X5, tyX5_ok, nmX5, rfl, rfl, fun _ => rfl⟩
set_option maxRecDepth 20000 in
theorem fw_X5_28 : Cond.fieldLink RX5 28 (TX5 0).1 (TX5 0).2.1 (TX5 0).2.2.1 ∈ am_TB := am_in 114 (by decide +kernel) rfl
set_option maxRecDepth 20000 in
theorem gf_X5_28 : am_gf RX5 28 4 0 := ⟨RX5, TX5, 9, rfl, by decide, by decide, fw_X5_28, in_X5⟩
set_option maxRecDepth 20000 in
theorem pf_X5_28 : am_pf RX5 28 4 0 false .int := ⟨RX5, TX5, 9, tyX5, rfl, by decide, by decide, fw_X5_28, in_X5, tyX5_ok, nmX5, rfl, rfl, fun h => by cases h⟩
set_option maxRecDepth 20000 in
theorem fw_X5_32 : Cond.fieldLink RX5 32 (TX5 1).1 (TX5 1).2.1 (TX5 1).2.2.1 ∈ am_TB := am_in 118 (by decide +kernel) rfl
set_option maxRecDepth 20000 in
theorem gf_X5_32 : am_gf RX5 32 4 1 := ⟨RX5, TX5, 9, rfl, by decide, by decide, fw_X5_32, in_X5⟩
set_option maxRecDepth 20000 in
theorem pf_X5_32 : am_pf RX5 32 4 1 false .int := ⟨RX5, TX5, 9, tyX5, rfl, by decide, by decide, fw_X5_32, in_X5, tyX5_ok, nmX5, rfl, rfl, fun h => by cases h⟩
set_option maxRecDepth 20000 in
theorem fw_X5_35 : Cond.fieldLink RX5 35 (TX5 2).1 (TX5 2).2.1 (TX5 2).2.2.1 ∈ am_TB := am_in 121 (by decide +kernel) rfl
set_option maxRecDepth 20000 in
theorem gf_X5_35 : am_gf RX5 35 4 2 := ⟨RX5, TX5, 9, rfl, by decide, by decide, fw_X5_35, in_X5⟩
set_option maxRecDepth 20000 in
theorem pf_X5_35 : am_pf RX5 35 4 2 false .int := ⟨RX5, TX5, 9, tyX5, rfl, by decide, by decide, fw_X5_35, in_X5, tyX5_ok, nmX5, rfl, rfl, fun h => by cases h⟩
set_option maxRecDepth 20000 in
theorem fw_X6_11 : Cond.fieldLink RX6 11 (TX6 0).1 (TX6 0).2.1 (TX6 0).2.2.1 ∈ am_TB := am_in 93 (by decide +kernel) rfl
set_option maxRecDepth 20000 in
theorem gf_X6_11 : am_gf RX6 11 5 0 := ⟨RX6, TX6, 4, rfl, by decide, by decide, fw_X6_11, in_X6⟩
set_option maxRecDepth 20000 in
theorem pf_X6_11 : am_pf RX6 11 5 0 true (tyX6 0) := ⟨RX6, TX6, 4, tyX6, rfl, by decide, by decide, fw_X6_11, in_X6, tyX6_ok, nmX6, rfl, rfl, fun _ => rfl⟩
set_option maxRecDepth 20000 in
theorem fw_X6_15 : Cond.fieldLink RX6 15 (TX6 1).1 (TX6 1).2.1 (TX6 1).2.2.1 ∈ am_TB := am_in 94 (by decide +kernel) rfl
set_option maxRecDepth 20000 in
theorem gf_X6_15 : am_gf RX6 15 5 1 := ⟨RX6, TX6, 4, rfl, by decide, by decide, fw_X6_15, in_X6⟩
set_option maxRecDepth 20000 in
theorem pf_X6_15 : am_pf RX6 15 5 1 false .int := ⟨RX6, TX6, 4, tyX6, rfl, by decide, by decide, fw_X6_15, in_X6, tyX6_ok, nmX6, rfl, rfl, fun h => by cases h⟩
set_option maxRecDepth 20000 in
theorem fw_X6_20 : Cond.fieldLink RX6 20 (TX6 2).1 (TX6 2).2.1 (TX6 2).2.2.1 ∈ am_TB := am_in 96 (by decide +kernel) rfl
set_option maxRecDepth 20000 in
theorem gf_X6_20 : am_gf RX6 20 5 2 := ⟨RX6, TX6, 4, rfl, by decide, by decide, fw_X6_20, in_X6⟩
set_option maxRecDepth 20000 in
theorem pf_X6_20 : am_pf RX6 20 5 2 false .int := ⟨RX6, TX6, 4, tyX6, rfl, by decide, by decide, fw_X6_20, in_X6, tyX6_ok, nmX6, rfl, rfl, fun h => by cases h⟩
set_option maxRecDepth 20000 in
theorem fw_X6_23 : Cond.fieldLink RX6 23 (TX6 3).1 (TX6 3).2.1 (TX6 3).2.2.1 ∈ am_TB := am_in 98 (by decide +kernel) rfl
set_option maxRecDepth 20000 in
theorem gf_X6_23 : am_gf RX6 23 5 3 := ⟨RX6, TX6, 4, rfl, by decide, by decide, fw_X6_23, in_X6⟩
set_option maxRecDepth 20000 in
theorem pf_X6_23 : am_pf RX6 23 5 3 false .int := ⟨RX6, TX6, 4, tyX6, rfl, by decide, by decide, fw_X6_23, in_X6, tyX6_ok, nmX6, rfl, rfl, fun h => by cases h⟩
set_option maxRecDepth 20000 in
theorem fw_X6_42 : Cond.fieldLink RX6 42 (TX5 3).1 (TX5 3).2.1 (TX5 3).2.2.1 ∈ am_TB := am_in 124 (by decide +kernel) rfl
set_option maxRecDepth 20000 in
theorem gf_X6_42 : am_gf RX6 42 4 3 := ⟨RX5, TX5, 9, rfl, by decide, by decide, fw_X6_42, in_X5⟩
set_option maxRecDepth 20000 in
theorem fw_X6_49 : Cond.fieldLink RX6 49 (TX5 1).1 (TX5 1).2.1 (TX5 1).2.2.1 ∈ am_TB := am_in 119 (by decide +kernel) rfl
set_option maxRecDepth 20000 in
theorem gf_X6_49 : am_gf RX6 49 4 1 := ⟨RX5, TX5, 9, rfl, by decide, by decide, fw_X6_49, in_X5⟩
set_option maxRecDepth 20000 in
theorem pf_X6_49 : am_pf RX6 49 4 1 false .int := ⟨RX5, TX5, 9, tyX5, rfl, by decide, by decide, fw_X6_49, in_X5, tyX5_ok, nmX5, rfl, rfl, fun h => by cases h⟩
set_option maxRecDepth 20000 in
theorem fw_X6_52 : Cond.fieldLink RX6 52 (TX5 0).1 (TX5 0).2.1 (TX5 0).2.2.1 ∈ am_TB := am_in 115 (by decide +kernel) rfl
set_option maxRecDepth 20000 in
theorem gf_X6_52 : am_gf RX6 52 4 0 := ⟨RX5, TX5, 9, rfl, by decide, by decide, fw_X6_52, in_X5⟩
set_option maxRecDepth 20000 in
theorem fw_X7_11 : Cond.fieldLink RX7 11 (TX7 0).1 (TX7 0).2.1 (TX7 0).2.2.1 ∈ am_TB := am_in 229 (by decide +kernel) rfl
set_option maxRecDepth 20000 in
theorem gf_X7_11 : am_gf RX7 11 6 0 := ⟨RX7, TX7, 10, rfl, by decide, by decide, fw_X7_11, in_X7⟩
set_option maxRecDepth 20000 in
theorem pf_X7_11 : am_pf RX7 11 6 0 true (tyX7 0) := ⟨RX7, TX7, 10, tyX7, rfl, by decide, by decide, fw_X7_11, in_X7, tyX7_ok, nmX7, rfl, rfl, fun _ => rfl⟩
set_option maxRecDepth 20000 in
theorem fw_X7_19 : Cond.fieldLink RX7 19 (TX7 1).1 (TX7 1).2.1 (TX7 1).2.2.1 ∈ am_TB := am_in 230 (by decide +kernel) rfl
set_option maxRecDepth 20000 in
theorem gf_X7_19 : am_gf RX7 19 6 1 := ⟨RX7, TX7, 10, rfl, by decide, by decide, fw_X7_19, in_X7⟩
set_option maxRecDepth 20000 in
theorem pf_X7_19 : am_pf RX7 19 6 1 true (tyX7 1) := ⟨RX7, TX7, 10, tyX7, rfl, by decide, by decide, fw_X7_19, in_X7, tyX7_ok, nmX7, rfl, rfl, fun _ => rfl⟩
set_option maxRecDepth 20000 in
theorem fw_X7_26 : Cond.fieldLink RX7 26 (TX7 2).1 (TX7 2).2.1 (TX7 2).2.2.1 ∈ am_TB := am_in 231 (by decide +kernel) rfl
set_option maxRecDepth 20000 in
theorem gf_X7_26 : am_gf RX7 26 6 2 := ⟨RX7, TX7, 10, rfl, by decide, by decide, fw_X7_26, in_X7⟩
set_option maxRecDepth 20000 in
theorem pf_X7_26 : am_pf RX7 26 6 2 true (tyX7 2) := ⟨RX7, TX7, 10, tyX7, rfl, by decide, by decide, fw_X7_26, in_X7, tyX7_ok, nmX7, rfl, rfl, fun _ => rfl⟩
set_option maxRecDepth 20000 in
theorem fw_X7_30 : Cond.fieldLink RX7 30 (TX7 3).1 (TX7 3).2.1 (TX7 3).2.2.1 ∈ am_TB := am_in 232 (by decide +kernel) rfl
set_option maxRecDepth 20000 in
theorem gf_X7_30 : am_gf RX7 30 6 3 := ⟨RX7, TX7, 10, rfl, by decide, by decide, fw_X7_30, in_X7⟩
set_option maxRecDepth 20000 in
theorem pf_X7_30 : am_pf RX7 30 6 3 true (tyX7 3) := ⟨RX7, TX7, 10, tyX7, rfl, by decide, by decide, fw_X7_30, in_X7, tyX7_ok, nmX7, rfl, rfl, fun _ => rfl⟩
set_option maxRecDepth 20000 in
theorem fw_X7_36 : Cond.fieldLink RX7 36 (TX7 4).1 (TX7 4).2.1 (TX7 4).2.2.1 ∈ am_TB := am_in 233 (by decide +kernel) rfl
set_option maxRecDepth 20000 in
theorem gf_X7_36 : am_gf RX7 36 6 4 := ⟨RX7, TX7, 10, rfl, by decide, by decide, fw_X7_36, in_X7⟩
set_option maxRecDepth 20000 in
theorem pf_X7_36 : am_pf RX7 36 6 4 true (tyX7 4) := ⟨RX7, TX7, 10, tyX7, rfl, by decide, by decide, fw_X7_36, in_X7, tyX7_ok, nmX7, rfl, rfl, fun _ => rfl⟩
set_option maxRecDepth 20000 in
theorem fw_X7_40 : Cond.fieldLink RX7 40 (TX7 5).1 (TX7 5).2.1 (TX7 5).2.2.1 ∈ am_TB := am_in 234 (by decide +kernel) rfl
set_option maxRecDepth 20000 in
theorem gf_X7_40 : am_gf RX7 40 6 5 := ⟨RX7, TX7, 10, rfl, by decide, by decide, fw_X7_40, in_X7⟩
set_option maxRecDepth 20000 in
theorem pf_X7_40 : am_pf RX7 40 6 5 true (tyX7 5) := ⟨RX7, TX7, 10, tyX7, rfl, by decide, by decide, fw_X7_40, in_X7, tyX7_ok, nmX7, rfl, rfl, fun _ => rfl⟩
set_option maxRecDepth 20000 in
theorem fw_X7_49 : Cond.fieldLink RX7 49 (TX7 6).1 (TX7 6).2.1 (TX7 6).2.2.1 ∈ am_TB := am_in 235 (by decide +kernel) rfl
set_option maxRecDepth 20000 in
theorem gf_X7_49 : am_gf RX7 49 6 6 := ⟨RX7, TX7, 10, rfl, by decide, by decide, fw_X7_49, in_X7⟩
set_option maxRecDepth 20000 in
theorem pf_X7_49 : am_pf RX7 49 6 6 true (tyX7 6) := ⟨RX7, TX7, 10, tyX7, rfl, by decide, by decide, fw_X7_49, in_X7, tyX7_ok, nmX7, rfl, rfl, fun _ => rfl⟩
set_option maxRecDepth 20000 in
theorem fw_X7_56 : Cond.fieldLink RX7 56 (TX7 7).1 (TX7 7).2.1 (TX7 7).2.2.1 ∈ am_TB := am_in 236 (by decide +kernel) rfl
set_option maxRecDepth 20000 in
theorem gf_X7_56 : am_gf RX7 56 6 7 := ⟨RX7, TX7, 10, rfl, by decide, by decide, fw_X7_56, in_X7⟩
set_option maxRecDepth 20000 in
theorem pf_X7_56 : am_pf RX7 56 6 7 true (tyX7 7) := ⟨RX7, TX7, 10, tyX7, rfl, by decide, by decide, fw_X7_56, in_X7, tyX7_ok, nmX7, rfl, rfl, fun _ => rfl⟩
set_option maxRecDepth 20000 in
theorem fw_X7_60 : Cond.fieldLink RX7 60 (TX7 8).1 (TX7 8).2.1 (TX7 8).2.2.1 ∈ am_TB := am_in 237 (by decide +kernel) rfl
set_option maxRecDepth 20000 in
theorem gf_X7_60 : am_gf RX7 60 6 8 := ⟨RX7, TX7, 10, rfl, by decide, by decide, fw_X7_60, in_X7⟩
set_option maxRecDepth 20000 in
theorem pf_X7_60 : am_pf RX7 60 6 8 false .int := ⟨RX7, TX7, 10, tyX7, rfl, by decide, by decide, fw_X7_60, in_X7, tyX7_ok, nmX7, rfl, rfl, fun h => by cases h⟩
set_option maxRecDepth 20000 in
theorem fw_X7_64 : Cond.fieldLink RX7 64 (TX7 9).1 (TX7 9).2.1 (TX7 9).2.2.1 ∈ am_TB := am_in 238 (by decide +kernel) rfl
set_option maxRecDepth 20000 in
theorem gf_X7_64 : am_gf RX7 64 6 9 := ⟨RX7, TX7, 10, rfl, by decide, by decide, fw_X7_64, in_X7⟩
set_option maxRecDepth 20000 in
theorem pf_X7_64 : am_pf RX7 64 6 9 false .int := ⟨RX7, TX7, 10, tyX7, rfl, by decide, by decide, fw_X7_64, in_X7, tyX7_ok, nmX7, rfl, rfl, fun h => by cases h⟩
set_option maxRecDepth 20000 in
theorem fw_X7_94 : Cond.fieldLink RX7 94 (TX4 0).1 (TX4 0).2.1 (TX4 0).2.2.1 ∈ am_TB := am_in 70 (by decide +kernel) rfl
set_option maxRecDepth 20000 in
theorem gf_X7_94 : am_gf RX7 94 3 0 := ⟨RX4, TX4, 4, rfl, by decide, by decide, fw_X7_94, in_X4⟩
set_option maxRecDepth 20000 in
theorem pf_X7_94 : am_pf RX7 94 3 0 false .boolean := ⟨RX4, TX4, 4, tyX4, rfl, by decide, by decide, fw_X7_94, in_X4, tyX4_ok, nmX4, rfl, rfl, fun h => by cases h⟩
set_option maxRecDepth 20000 in
theorem fw_X7_98 : Cond.fieldLink RX7 98 (TX4 1).1 (TX4 1).2.1 (TX4 1).2.2.1 ∈ am_TB := am_in 72 (by decide +kernel) rfl
set_option maxRecDepth 20000 in
theorem gf_X7_98 : am_gf RX7 98 3 1 := ⟨RX4, TX4, 4, rfl, by decide, by decide, fw_X7_98, in_X4⟩
set_option maxRecDepth 20000 in
theorem fw_X7_105 : Cond.fieldLink RX7 105 (TX4 3).1 (TX4 3).2.1 (TX4 3).2.2.1 ∈ am_TB := am_in 76 (by decide +kernel) rfl
set_option maxRecDepth 20000 in
theorem gf_X7_105 : am_gf RX7 105 3 3 := ⟨RX4, TX4, 4, rfl, by decide, by decide, fw_X7_105, in_X4⟩
set_option maxRecDepth 20000 in
theorem fw_X7_115 : Cond.fieldLink RX7 115 (TX4 2).1 (TX4 2).2.1 (TX4 2).2.2.1 ∈ am_TB := am_in 74 (by decide +kernel) rfl
set_option maxRecDepth 20000 in
theorem gf_X7_115 : am_gf RX7 115 3 2 := ⟨RX4, TX4, 4, rfl, by decide, by decide, fw_X7_115, in_X4⟩
set_option maxRecDepth 20000 in
theorem fw_X7_126 : Cond.fieldLink RX7 126 (TX6 2).1 (TX6 2).2.1 (TX6 2).2.2.1 ∈ am_TB := am_in 97 (by decide +kernel) rfl
set_option maxRecDepth 20000 in
theorem gf_X7_126 : am_gf RX7 126 5 2 := ⟨RX6, TX6, 4, rfl, by decide, by decide, fw_X7_126, in_X6⟩
set_option maxRecDepth 20000 in
theorem fw_X7_135 : Cond.fieldLink RX7 135 (TX5 0).1 (TX5 0).2.1 (TX5 0).2.2.1 ∈ am_TB := am_in 116 (by decide +kernel) rfl
set_option maxRecDepth 20000 in
theorem gf_X7_135 : am_gf RX7 135 4 0 := ⟨RX5, TX5, 9, rfl, by decide, by decide, fw_X7_135, in_X5⟩
set_option maxRecDepth 20000 in
theorem fw_X7_138 : Cond.fieldLink RX7 138 (TX0 0).1 (TX0 0).2.1 (TX0 0).2.2.1 ∈ am_TB := am_in 172 (by decide +kernel) rfl
set_option maxRecDepth 20000 in
theorem gf_X7_138 : am_gf RX7 138 0 0 := ⟨RX0, TX0, 3, rfl, by decide, by decide, fw_X7_138, in_X0⟩
set_option maxRecDepth 20000 in
theorem fw_X7_149 : Cond.fieldLink RX7 149 (TX5 2).1 (TX5 2).2.1 (TX5 2).2.2.1 ∈ am_TB := am_in 122 (by decide +kernel) rfl
set_option maxRecDepth 20000 in
theorem gf_X7_149 : am_gf RX7 149 4 2 := ⟨RX5, TX5, 9, rfl, by decide, by decide, fw_X7_149, in_X5⟩
set_option maxRecDepth 20000 in
theorem fw_X7_171 : Cond.fieldLink RX7 171 (TX5 7).1 (TX5 7).2.1 (TX5 7).2.2.1 ∈ am_TB := am_in 140 (by decide +kernel) rfl
set_option maxRecDepth 20000 in
theorem gf_X7_171 : am_gf RX7 171 4 7 := ⟨RX5, TX5, 9, rfl, by decide, by decide, fw_X7_171, in_X5⟩
set_option maxRecDepth 20000 in
theorem fw_X7_177 : Cond.fieldLink RX7 177 (TX5 6).1 (TX5 6).2.1 (TX5 6).2.2.1 ∈ am_TB := am_in 136 (by decide +kernel) rfl
set_option maxRecDepth 20000 in
theorem gf_X7_177 : am_gf RX7 177 4 6 := ⟨RX5, TX5, 9, rfl, by decide, by decide, fw_X7_177, in_X5⟩
set_option maxRecDepth 20000 in
theorem fw_X7_180 : Cond.fieldLink RX7 180 (TX5 5).1 (TX5 5).2.1 (TX5 5).2.2.1 ∈ am_TB := am_in 132 (by decide +kernel) rfl
set_option maxRecDepth 20000 in
theorem gf_X7_180 : am_gf RX7 180 4 5 := ⟨RX5, TX5, 9, rfl, by decide, by decide, fw_X7_180, in_X5⟩
set_option maxRecDepth 20000 in
theorem fw_X7_183 : Cond.fieldLink RX7 183 (TX5 3).1 (TX5 3).2.1 (TX5 3).2.2.1 ∈ am_TB := am_in 125 (by decide +kernel) rfl
set_option maxRecDepth 20000 in
theorem gf_X7_183 : am_gf RX7 183 4 3 := ⟨RX5, TX5, 9, rfl, by decide, by decide, fw_X7_183, in_X5⟩
set_option maxRecDepth 20000 in
theorem fw_X7_186 : Cond.fieldLink RX7 186 (TX5 8).1 (TX5 8).2.1 (TX5 8).2.2.1 ∈ am_TB := am_in 142 (by decide +kernel) rfl
set_option maxRecDepth 20000 in
theorem gf_X7_186 : am_gf RX7 186 4 8 := ⟨RX5, TX5, 9, rfl, by decide, by decide, fw_X7_186, in_X5⟩
set_option maxRecDepth 20000 in
theorem fw_X7_192 : Cond.fieldLink RX7 192 (TX5 4).1 (TX5 4).2.1 (TX5 4).2.2.1 ∈ am_TB := am_in 129 (by decide +kernel) rfl
set_option maxRecDepth 20000 in
theorem gf_X7_192 : am_gf RX7 192 4 4 := ⟨RX5, TX5, 9, rfl, by decide, by decide, fw_X7_192, in_X5⟩
set_option maxRecDepth 20000 in
theorem fw_X7_242 : Cond.fieldLink RX7 242 (TX2 2).1 (TX2 2).2.1 (TX2 2).2.2.1 ∈ am_TB := am_in 196 (by decide +kernel) rfl
set_option maxRecDepth 20000 in
theorem gf_X7_242 : am_gf RX7 242 2 2 := ⟨RX2, TX2, 5, rfl, by decide, by decide, fw_X7_242, in_X2⟩
set_option maxRecDepth 20000 in
theorem fw_X7_252 : Cond.fieldLink RX7 252 (TX2 3).1 (TX2 3).2.1 (TX2 3).2.2.1 ∈ am_TB := am_in 198 (by decide +kernel) rfl
set_option maxRecDepth 20000 in
theorem gf_X7_252 : am_gf RX7 252 2 3 := ⟨RX2, TX2, 5, rfl, by decide, by decide, fw_X7_252, in_X2⟩
set_option maxRecDepth 20000 in
theorem fw_X7_273 : Cond.fieldLink RX7 273 (TX2 1).1 (TX2 1).2.1 (TX2 1).2.2.1 ∈ am_TB := am_in 194 (by decide +kernel) rfl
set_option maxRecDepth 20000 in
theorem gf_X7_273 : am_gf RX7 273 2 1 := ⟨RX2, TX2, 5, rfl, by decide, by decide, fw_X7_273, in_X2⟩
set_option maxRecDepth 20000 in
theorem fw_X7_286 : Cond.fieldLink RX7 286 (TX1 2).1 (TX1 2).2.1 (TX1 2).2.2.1 ∈ am_TB := am_in 221 (by decide +kernel) rfl
set_option maxRecDepth 20000 in
theorem gf_X7_286 : am_gf RX7 286 1 2 := ⟨RX1, TX1, 3, rfl, by decide, by decide, fw_X7_286, in_X1⟩
set_option maxRecDepth 20000 in
theorem fw_X7_289 : Cond.fieldLink RX7 289 (TX1 1).1 (TX1 1).2.1 (TX1 1).2.2.1 ∈ am_TB := am_in 219 (by decide +kernel) rfl
set_option maxRecDepth 20000 in
theorem gf_X7_289 : am_gf RX7 289 1 1 := ⟨RX1, TX1, 3, rfl, by decide, by decide, fw_X7_289, in_X1⟩
set_option maxRecDepth 20000 in
theorem fw_X7_295 : Cond.fieldLink RX7 295 (TX5 1).1 (TX5 1).2.1 (TX5 1).2.2.1 ∈ am_TB := am_in 120 (by decide +kernel) rfl
set_option maxRecDepth 20000 in
theorem gf_X7_295 : am_gf RX7 295 4 1 := ⟨RX5, TX5, 9, rfl, by decide, by decide, fw_X7_295, in_X5⟩
set_option maxRecDepth 20000 in
theorem fw_X7_301 : Cond.fieldLink RX7 301 (TX6 1).1 (TX6 1).2.1 (TX6 1).2.2.1 ∈ am_TB := am_in 95 (by decide +kernel) rfl
set_option maxRecDepth 20000 in
theorem gf_X7_301 : am_gf RX7 301 5 1 := ⟨RX6, TX6, 4, rfl, by decide, by decide, fw_X7_301, in_X6⟩
set_option maxRecDepth 20000 in
theorem fw_X8_7 : Cond.fieldLink RX8 7 (TX8 0).1 (TX8 0).2.1 (TX8 0).2.2.1 ∈ am_TB := am_in 746 (by decide +kernel) rfl
set_option maxRecDepth 20000 in
theorem gf_X8_7 : am_gf RX8 7 7 0 := ⟨RX8, TX8, 24, rfl, by decide, by decide, fw_X8_7, in_X8⟩
set_option maxRecDepth 20000 in
theorem pf_X8_7 : am_pf RX8 7 7 0 true (tyX8 0) := ⟨RX8, TX8, 24, tyX8, rfl, by decide, by decide, fw_X8_7, in_X8, tyX8_ok, nmX8, rfl, rfl, fun _ => rfl⟩
set_option maxRecDepth 20000 in
theorem fw_X8_13 : Cond.fieldLink RX8 13 (TX8 1).1 (TX8 1).2.1 (TX8 1).2.2.1 ∈ am_TB := am_in 747 (by decide +kernel) rfl
set_option maxRecDepth 20000 in
theorem gf_X8_13 : am_gf RX8 13 7 1 := ⟨RX8, TX8, 24, rfl, by decide, by decide, fw_X8_13, in_X8⟩
set_option maxRecDepth 20000 in
theorem pf_X8_13 : am_pf RX8 13 7 1 true (tyX8 1) := ⟨RX8, TX8, 24, tyX8, rfl, by decide, by decide, fw_X8_13, in_X8, tyX8_ok, nmX8, rfl, rfl, fun _ => rfl⟩
set_option maxRecDepth 20000 in
theorem fw_X8_16 : Cond.fieldLink RX8 16 (TX8 2).1 (TX8 2).2.1 (TX8 2).2.2.1 ∈ am_TB := am_in 748 (by decide +kernel) rfl
set_option maxRecDepth 20000 in
theorem gf_X8_16 : am_gf RX8 16 7 2 := ⟨RX8, TX8, 24, rfl, by decide, by decide, fw_X8_16, in_X8⟩
set_option maxRecDepth 20000 in
theorem pf_X8_16 : am_pf RX8 16 7 2 true (tyX8 2) := ⟨RX8, TX8, 24, tyX8, rfl, by decide, by decide, fw_X8_16, in_X8, tyX8_ok, nmX8, rfl, rfl, fun _ => rfl⟩
set_option maxRecDepth 20000 in
theorem fw_X8_19 : Cond.fieldLink RX8 19 (TX8 4).1 (TX8 4).2.1 (TX8 4).2.2.1 ∈ am_TB := am_in 750 (by decide +kernel) rfl
set_option maxRecDepth 20000 in
theorem gf_X8_19 : am_gf RX8 19 7 4 := ⟨RX8, TX8, 24, rfl, by decide, by decide, fw_X8_19, in_X8⟩
set_option maxRecDepth 20000 in
theorem pf_X8_19 : am_pf RX8 19 7 4 true (tyX8 4) := ⟨RX8, TX8, 24, tyX8, rfl, by decide, by decide, fw_X8_19, in_X8, tyX8_ok, nmX8, rfl, rfl, fun _ => rfl⟩
set_option maxRecDepth 20000 in
theorem fw_X8_22 : Cond.fieldLink RX8 22 (TX8 8).1 (TX8 8).2.1 (TX8 8).2.2.1 ∈ am_TB := am_in 754 (by decide +kernel) rfl
set_option maxRecDepth 20000 in
theorem gf_X8_22 : am_gf RX8 22 7 8 := ⟨RX8, TX8, 24, rfl, by decide, by decide, fw_X8_22, in_X8⟩
set_option maxRecDepth 20000 in
theorem pf_X8_22 : am_pf RX8 22 7 8 true (tyX8 8) := ⟨RX8, TX8, 24, tyX8, rfl, by decide, by decide, fw_X8_22, in_X8, tyX8_ok, nmX8, rfl, rfl, fun _ => rfl⟩
set_option maxRecDepth 20000 in
theorem fw_X8_25 : Cond.fieldLink RX8 25 (TX8 10).1 (TX8 10).2.1 (TX8 10).2.2.1 ∈ am_TB := am_in 756 (by decide +kernel) rfl
set_option maxRecDepth 20000 in
theorem gf_X8_25 : am_gf RX8 25 7 10 := ⟨RX8, TX8, 24, rfl, by decide, by decide, fw_X8_25, in_X8⟩
set_option maxRecDepth 20000 in
theorem pf_X8_25 : am_pf RX8 25 7 10 true (tyX8 10) := ⟨RX8, TX8, 24, tyX8, rfl, by decide, by decide, fw_X8_25, in_X8, tyX8_ok, nmX8, rfl, rfl, fun _ => rfl⟩
set_option maxRecDepth 20000 in
theorem fw_X8_28 : Cond.fieldLink RX8 28 (TX8 11).1 (TX8 11).2.1 (TX8 11).2.2.1 ∈ am_TB := am_in 757 (by decide +kernel) rfl
set_option maxRecDepth 20000 in
theorem gf_X8_28 : am_gf RX8 28 7 11 := ⟨RX8, TX8, 24, rfl, by decide, by decide, fw_X8_28, in_X8⟩
set_option maxRecDepth 20000 in
theorem pf_X8_28 : am_pf RX8 28 7 11 true (tyX8 11) := ⟨RX8, TX8, 24, tyX8, rfl, by decide, by decide, fw_X8_28, in_X8, tyX8_ok, nmX8, rfl, rfl, fun _ => rfl⟩
set_option maxRecDepth 20000 in
theorem fw_X8_31 : Cond.fieldLink RX8 31 (TX8 12).1 (TX8 12).2.1 (TX8 12).2.2.1 ∈ am_TB := am_in 758 (by decide +kernel) rfl
set_option maxRecDepth 20000 in
theorem gf_X8_31 : am_gf RX8 31 7 12 := ⟨RX8, TX8, 24, rfl, by decide, by decide, fw_X8_31, in_X8⟩
set_option maxRecDepth 20000 in
theorem pf_X8_31 : am_pf RX8 31 7 12 true (tyX8 12) := ⟨RX8, TX8, 24, tyX8, rfl, by decide, by decide, fw_X8_31, in_X8, tyX8_ok, nmX8, rfl, rfl, fun _ => rfl⟩
set_option maxRecDepth 20000 in
theorem fw_X8_35 : Cond.fieldLink RX8 35 (TX8 14).1 (TX8 14).2.1 (TX8 14).2.2.1 ∈ am_TB := am_in 760 (by decide +kernel) rfl
set_option maxRecDepth 20000 in
theorem gf_X8_35 : am_gf RX8 35 7 14 := ⟨RX8, TX8, 24, rfl, by decide, by decide, fw_X8_35, in_X8⟩
set_option maxRecDepth 20000 in
theorem pf_X8_35 : am_pf RX8 35 7 14 true (tyX8 14) := ⟨RX8, TX8, 24, tyX8, rfl, by decide, by decide, fw_X8_35, in_X8, tyX8_ok, nmX8, rfl, rfl, fun _ => rfl⟩
set_option maxRecDepth 20000 in
theorem fw_X8_38 : Cond.fieldLink RX8 38 (TX8 20).1 (TX8 20).2.1 (TX8 20).2.2.1 ∈ am_TB := am_in 766 (by decide +kernel) rfl
set_option maxRecDepth 20000 in
theorem gf_X8_38 : am_gf RX8 38 7 20 := ⟨RX8, TX8, 24, rfl, by decide, by decide, fw_X8_38, in_X8⟩
set_option maxRecDepth 20000 in
theorem pf_X8_38 : am_pf RX8 38 7 20 true (tyX8 20) := ⟨RX8, TX8, 24, tyX8, rfl, by decide, by decide, fw_X8_38, in_X8, tyX8_ok, nmX8, rfl, rfl, fun _ => rfl⟩
set_option maxRecDepth 20000 in
theorem fw_X8_41 : Cond.fieldLink RX8 41 (TX8 21).1 (TX8 21).2.1 (TX8 21).2.2.1 ∈ am_TB := am_in 767 (by decide +kernel) rfl
set_option maxRecDepth 20000 in
theorem gf_X8_41 : am_gf RX8 41 7 21 := ⟨RX8, TX8, 24, rfl, by decide, by decide, fw_X8_41, in_X8⟩
set_option maxRecDepth 20000 in
theorem pf_X8_41 : am_pf RX8 41 7 21 true (tyX8 21) := ⟨RX8, TX8, 24, tyX8, rfl, by decide, by decide, fw_X8_41, in_X8, tyX8_ok, nmX8, rfl, rfl, fun _ => rfl⟩
set_option maxRecDepth 20000 in
theorem fw_X8_44 : Cond.fieldLink RX8 44 (TX8 22).1 (TX8 22).2.1 (TX8 22).2.2.1 ∈ am_TB := am_in 768 (by decide +kernel) rfl
set_option maxRecDepth 20000 in
theorem gf_X8_44 : am_gf RX8 44 7 22 := ⟨RX8, TX8, 24, rfl, by decide, by decide, fw_X8_44, in_X8⟩
set_option maxRecDepth 20000 in
theorem pf_X8_44 : am_pf RX8 44 7 22 true (tyX8 22) := ⟨RX8, TX8, 24, tyX8, rfl, by decide, by decide, fw_X8_44, in_X8, tyX8_ok, nmX8, rfl, rfl, fun _ => rfl⟩
set_option maxRecDepth 20000 in
theorem fw_X8_47 : Cond.fieldLink RX8 47 (TX8 23).1 (TX8 23).2.1 (TX8 23).2.2.1 ∈ am_TB := am_in 769 (by decide +kernel) rfl
set_option maxRecDepth 20000 in
theorem gf_X8_47 : am_gf RX8 47 7 23 := ⟨RX8, TX8, 24, rfl, by decide, by decide, fw_X8_47, in_X8⟩
set_option maxRecDepth 20000 in
theorem pf_X8_47 : am_pf RX8 47 7 23 true (tyX8 23) := ⟨RX8, TX8, 24, tyX8, rfl, by decide, by decide, fw_X8_47, in_X8, tyX8_ok, nmX8, rfl, rfl, fun _ => rfl⟩
set_option maxRecDepth 20000 in
theorem fw_X8_50 : Cond.fieldLink RX8 50 (TX8 3).1 (TX8 3).2.1 (TX8 3).2.2.1 ∈ am_TB := am_in 749 (by decide +kernel) rfl
set_option maxRecDepth 20000 in
theorem gf_X8_50 : am_gf RX8 50 7 3 := ⟨RX8, TX8, 24, rfl, by decide, by decide, fw_X8_50, in_X8⟩
set_option maxRecDepth 20000 in
theorem pf_X8_50 : am_pf RX8 50 7 3 false .int := ⟨RX8, TX8, 24, tyX8, rfl, by decide, by decide, fw_X8_50, in_X8, tyX8_ok, nmX8, rfl, rfl, fun h => by cases h⟩
set_option maxRecDepth 20000 in
theorem fw_X8_77 : Cond.fieldLink RX8 77 (TX8 5).1 (TX8 5).2.1 (TX8 5).2.2.1 ∈ am_TB := am_in 751 (by decide +kernel) rfl
set_option maxRecDepth 20000 in
theorem gf_X8_77 : am_gf RX8 77 7 5 := ⟨RX8, TX8, 24, rfl, by decide, by decide, fw_X8_77, in_X8⟩
set_option maxRecDepth 20000 in
theorem pf_X8_77 : am_pf RX8 77 7 5 false .int := ⟨RX8, TX8, 24, tyX8, rfl, by decide, by decide, fw_X8_77, in_X8, tyX8_ok, nmX8, rfl, rfl, fun h => by cases h⟩
set_option maxRecDepth 20000 in
theorem fw_X8_85 : Cond.fieldLink RX8 85 (TX8 15).1 (TX8 15).2.1 (TX8 15).2.2.1 ∈ am_TB := am_in 761 (by decide +kernel) rfl
set_option maxRecDepth 20000 in
theorem gf_X8_85 : am_gf RX8 85 7 15 := ⟨RX8, TX8, 24, rfl, by decide, by decide, fw_X8_85, in_X8⟩
set_option maxRecDepth 20000 in
theorem pf_X8_85 : am_pf RX8 85 7 15 false .int := ⟨RX8, TX8, 24, tyX8, rfl, by decide, by decide, fw_X8_85, in_X8, tyX8_ok, nmX8, rfl, rfl, fun h => by cases h⟩
set_option maxRecDepth 20000 in
theorem fw_X8_88 : Cond.fieldLink RX8 88 (TX8 16).1 (TX8 16).2.1 (TX8 16).2.2.1 ∈ am_TB := am_in 762 (by decide +kernel) rfl
set_option maxRecDepth 20000 in
theorem gf_X8_88 : am_gf RX8 88 7 16 := ⟨RX8, TX8, 24, rfl, by decide, by decide, fw_X8_88, in_X8⟩
set_option maxRecDepth 20000 in
theorem pf_X8_88 : am_pf RX8 88 7 16 false .int := ⟨RX8, TX8, 24, tyX8, rfl, by decide, by decide, fw_X8_88, in_X8, tyX8_ok, nmX8, rfl, rfl, fun h => by cases h⟩
set_option maxRecDepth 20000 in
theorem fw_X8_91 : Cond.fieldLink RX8 91 (TX8 19).1 (TX8 19).2.1 (TX8 19).2.2.1 ∈ am_TB := am_in 765 (by decide +kernel) rfl
set_option maxRecDepth 20000 in
theorem gf_X8_91 : am_gf RX8 91 7 19 := ⟨RX8, TX8, 24, rfl, by decide, by decide, fw_X8_91, in_X8⟩
set_option maxRecDepth 20000 in
theorem pf_X8_91 : am_pf RX8 91 7 19 false .int := ⟨RX8, TX8, 24, tyX8, rfl, by decide, by decide, fw_X8_91, in_X8, tyX8_ok, nmX8, rfl, rfl, fun h => by cases h⟩
set_option maxRecDepth 20000 in
theorem fw_X8_101 : Cond.fieldLink RX8 101 (TX8 17).1 (TX8 17).2.1 (TX8 17).2.2.1 ∈ am_TB := am_in 763 (by decide +kernel) rfl
set_option maxRecDepth 20000 in
theorem gf_X8_101 : am_gf RX8 101 7 17 := ⟨RX8, TX8, 24, rfl, by decide, by decide, fw_X8_101, in_X8⟩
set_option maxRecDepth 20000 in
theorem pf_X8_101 : am_pf RX8 101 7 17 false .int := ⟨RX8, TX8, 24, tyX8, rfl, by decide, by decide, fw_X8_101, in_X8, tyX8_ok, nmX8, rfl, rfl, fun h => by cases h⟩
set_option maxRecDepth 20000 in
theorem fw_X8_104 : Cond.fieldLink RX8 104 (TX8 18).1 (TX8 18).2.1 (TX8 18).2.2.1 ∈ am_TB := am_in 764 (by decide +kernel) rfl
set_option maxRecDepth 20000 in
theorem gf_X8_104 : am_gf RX8 104 7 18 := ⟨RX8, TX8, 24, rfl, by decide, by decide, fw_X8_104, in_X8⟩
set_option maxRecDepth 20000 in
theorem pf_X8_104 : am_pf RX8 104 7 18 false .int := ⟨RX8, TX8, 24, tyX8, rfl, by decide, by decide, fw_X8_104, in_X8, tyX8_ok, nmX8, rfl, rfl, fun h => by cases h⟩
set_option maxRecDepth 20000 in
theorem fw_X8_107 : Cond.fieldLink RX8 107 (TX8 6).1 (TX8 6).2.1 (TX8 6).2.2.1 ∈ am_TB := am_in 752 (by decide +kernel) rfl
set_option maxRecDepth 20000 in
theorem gf_X8_107 : am_gf RX8 107 7 6 := ⟨RX8, TX8, 24, rfl, by decide, by decide, fw_X8_107, in_X8⟩
set_option maxRecDepth 20000 in
theorem pf_X8_107 : am_pf RX8 107 7 6 false .int := ⟨RX8, TX8, 24, tyX8, rfl, by decide, by decide, fw_X8_107, in_X8, tyX8_ok, nmX8, rfl, rfl, fun h => by cases h⟩
set_option maxRecDepth 20000 in
theorem fw_X8_137 : Cond.fieldLink RX8 137 (TX8 7).1 (TX8 7).2.1 (TX8 7).2.2.1 ∈ am_TB := am_in 753 (by decide +kernel) rfl
set_option maxRecDepth 20000 in
theorem gf_X8_137 : am_gf RX8 137 7 7 := ⟨RX8, TX8, 24, rfl, by decide, by decide, fw_X8_137, in_X8⟩
set_option maxRecDepth 20000 in
theorem pf_X8_137 : am_pf RX8 137 7 7 false .boolean := ⟨RX8, TX8, 24, tyX8, rfl, by decide, by decide, fw_X8_137, in_X8, tyX8_ok, nmX8, rfl, rfl, fun h => by cases h⟩
set_option maxRecDepth 20000 in
theorem fw_X8_141 : Cond.fieldLink RX8 141 (TX8 9).1 (TX8 9).2.1 (TX8 9).2.2.1 ∈ am_TB := am_in 755 (by decide +kernel) rfl
set_option maxRecDepth 20000 in
theorem gf_X8_141 : am_gf RX8 141 7 9 := ⟨RX8, TX8, 24, rfl, by decide, by decide, fw_X8_141, in_X8⟩
set_option maxRecDepth 20000 in
theorem pf_X8_141 : am_pf RX8 141 7 9 false .int := ⟨RX8, TX8, 24, tyX8, rfl, by decide, by decide, fw_X8_141, in_X8, tyX8_ok, nmX8, rfl, rfl, fun h => by cases h⟩
set_option maxRecDepth 20000 in
theorem fw_X8_262 : Cond.fieldLink RX8 262 (TX8 13).1 (TX8 13).2.1 (TX8 13).2.2.1 ∈ am_TB := am_in 759 (by decide +kernel) rfl
set_option maxRecDepth 20000 in
theorem gf_X8_262 : am_gf RX8 262 7 13 := ⟨RX8, TX8, 24, rfl, by decide, by decide, fw_X8_262, in_X8⟩
set_option maxRecDepth 20000 in
theorem pf_X8_262 : am_pf RX8 262 7 13 false .int := ⟨RX8, TX8, 24, tyX8, rfl, by decide, by decide, fw_X8_262, in_X8, tyX8_ok, nmX8, rfl, rfl, fun h => by cases h⟩
set_option maxRecDepth 20000 in
theorem cw_X7_init : Cond.code yX7_init cX7_init 2 none ∈ am_TB := am_in 58 (by decide +kernel) rfl
set_option maxRecDepth 20000 in
theorem im_X7_init : Cond.instanceMethod yX7_init ∈ am_TB := am_in 57 (by decide +kernel) rfl
set_option maxRecDepth 20000 in
theorem nm_X7_init : yX7_init.cls ≠ "java/lang/invoke/MethodHandle" ∧ yX7_init.cls ≠ "java/lang/invoke/VarHandle" ∧ (parseMethodDescriptor yX7_init.desc).map (fun d => d.parameters.length) = some 0 := by decide +kernel
set_option maxRecDepth 20000 in
theorem ml_L_9 : am_ml RL 9 yX7_init cX7_init 2 none 0 := ⟨am_in 56 (by decide +kernel) rfl, iw_X7, cw_X7_init, nm_X7_init.1, nm_X7_init.2.1, nm_X7_init.2.2, by decide⟩
set_option maxRecDepth 20000 in
theorem cw_X8_init : Cond.code yX8_init cX8_init 2 none ∈ am_TB := am_in 744 (by decide +kernel) rfl
set_option maxRecDepth 20000 in
theorem im_X8_init : Cond.instanceMethod yX8_init ∈ am_TB := am_in 743 (by decide +kernel) rfl
set_option maxRecDepth 20000 in
theorem nm_X8_init : yX8_init.cls ≠ "java/lang/invoke/MethodHandle" ∧ yX8_init.cls ≠ "java/lang/invoke/VarHandle" ∧ (parseMethodDescriptor yX8_init.desc).map (fun d => d.parameters.length) = some 0 := by decide +kernel
set_option maxRecDepth 20000 in
theorem ml_L_12 : am_ml RL 12 yX8_init cX8_init 2 none 0 := ⟨am_in 742 (by decide +kernel) rfl, iw_X8, cw_X8_init, nm_X8_init.1, nm_X8_init.2.1, nm_X8_init.2.2, by decide⟩
set_option maxRecDepth 20000 in
theorem cw_X7_row : Cond.code yX7_row cX7_row 4 (some .int) ∈ am_TB := am_in 263 (by decide +kernel) rfl
set_option maxRecDepth 20000 in
theorem im_X7_row : Cond.instanceMethod yX7_row ∈ am_TB := am_in 261 (by decide +kernel) rfl
set_option maxRecDepth 20000 in
theorem se_X7_row : Cond.selects yX7_row.cls yX7_row yX7_row ∈ am_TB := am_in 262 (by decide +kernel) rfl
set_option maxRecDepth 20000 in
theorem nm_X7_row : yX7_row.cls ≠ "java/lang/invoke/MethodHandle" ∧ yX7_row.cls ≠ "java/lang/invoke/VarHandle" ∧ (parseMethodDescriptor yX7_row.desc).map (fun d => d.parameters.length) = some 3 := by decide +kernel
set_option maxRecDepth 20000 in
theorem ml_L_13 : am_ml RL 13 yX7_row cX7_row 4 (some .int) 3 := ⟨am_in 260 (by decide +kernel) rfl, iw_X7, cw_X7_row, nm_X7_row.1, nm_X7_row.2.1, nm_X7_row.2.2, by decide⟩
set_option maxRecDepth 20000 in
theorem cw_X8_row : Cond.code yX8_row cX8_row 5 (some .int) ∈ am_TB := am_in 823 (by decide +kernel) rfl
set_option maxRecDepth 20000 in
theorem im_X8_row : Cond.instanceMethod yX8_row ∈ am_TB := am_in 821 (by decide +kernel) rfl
set_option maxRecDepth 20000 in
theorem se_X8_row : Cond.selects yX8_row.cls yX8_row yX8_row ∈ am_TB := am_in 822 (by decide +kernel) rfl
set_option maxRecDepth 20000 in
theorem nm_X8_row : yX8_row.cls ≠ "java/lang/invoke/MethodHandle" ∧ yX8_row.cls ≠ "java/lang/invoke/VarHandle" ∧ (parseMethodDescriptor yX8_row.desc).map (fun d => d.parameters.length) = some 3 := by decide +kernel
set_option maxRecDepth 20000 in
theorem ml_L_17 : am_ml RL 17 yX8_row cX8_row 5 (some .int) 3 := ⟨am_in 820 (by decide +kernel) rfl, iw_X8, cw_X8_row, nm_X8_row.1, nm_X8_row.2.1, nm_X8_row.2.2, by decide⟩
set_option maxRecDepth 20000 in
theorem cw_X7_set : Cond.code yX7_set cX7_set 5 (some .int) ∈ am_TB := am_in 290 (by decide +kernel) rfl
set_option maxRecDepth 20000 in
theorem im_X7_set : Cond.instanceMethod yX7_set ∈ am_TB := am_in 288 (by decide +kernel) rfl
set_option maxRecDepth 20000 in
theorem se_X7_set : Cond.selects yX7_set.cls yX7_set yX7_set ∈ am_TB := am_in 289 (by decide +kernel) rfl
set_option maxRecDepth 20000 in
theorem nm_X7_set : yX7_set.cls ≠ "java/lang/invoke/MethodHandle" ∧ yX7_set.cls ≠ "java/lang/invoke/VarHandle" ∧ (parseMethodDescriptor yX7_set.desc).map (fun d => d.parameters.length) = some 3 := by decide +kernel
set_option maxRecDepth 20000 in
theorem ml_L_18 : am_ml RL 18 yX7_set cX7_set 5 (some .int) 3 := ⟨am_in 287 (by decide +kernel) rfl, iw_X7, cw_X7_set, nm_X7_set.1, nm_X7_set.2.1, nm_X7_set.2.2, by decide⟩
set_option maxRecDepth 20000 in
theorem cw_X8_set : Cond.code yX8_set cX8_set 4 (some .int) ∈ am_TB := am_in 845 (by decide +kernel) rfl
set_option maxRecDepth 20000 in
theorem im_X8_set : Cond.instanceMethod yX8_set ∈ am_TB := am_in 843 (by decide +kernel) rfl
set_option maxRecDepth 20000 in
theorem se_X8_set : Cond.selects yX8_set.cls yX8_set yX8_set ∈ am_TB := am_in 844 (by decide +kernel) rfl
set_option maxRecDepth 20000 in
theorem nm_X8_set : yX8_set.cls ≠ "java/lang/invoke/MethodHandle" ∧ yX8_set.cls ≠ "java/lang/invoke/VarHandle" ∧ (parseMethodDescriptor yX8_set.desc).map (fun d => d.parameters.length) = some 3 := by decide +kernel
set_option maxRecDepth 20000 in
theorem ml_L_21 : am_ml RL 21 yX8_set cX8_set 4 (some .int) 3 := ⟨am_in 842 (by decide +kernel) rfl, iw_X8, cw_X8_set, nm_X8_set.1, nm_X8_set.2.1, nm_X8_set.2.2, by decide⟩
set_option maxRecDepth 20000 in
theorem cw_X7_copy : Cond.code yX7_copy cX7_copy 8 (some .int) ∈ am_TB := am_in 310 (by decide +kernel) rfl
set_option maxRecDepth 20000 in
theorem im_X7_copy : Cond.instanceMethod yX7_copy ∈ am_TB := am_in 308 (by decide +kernel) rfl
set_option maxRecDepth 20000 in
theorem se_X7_copy : Cond.selects yX7_copy.cls yX7_copy yX7_copy ∈ am_TB := am_in 309 (by decide +kernel) rfl
set_option maxRecDepth 20000 in
theorem nm_X7_copy : yX7_copy.cls ≠ "java/lang/invoke/MethodHandle" ∧ yX7_copy.cls ≠ "java/lang/invoke/VarHandle" ∧ (parseMethodDescriptor yX7_copy.desc).map (fun d => d.parameters.length) = some 5 := by decide +kernel
set_option maxRecDepth 20000 in
theorem ml_L_22 : am_ml RL 22 yX7_copy cX7_copy 8 (some .int) 5 := ⟨am_in 307 (by decide +kernel) rfl, iw_X7, cw_X7_copy, nm_X7_copy.1, nm_X7_copy.2.1, nm_X7_copy.2.2, by decide⟩
set_option maxRecDepth 20000 in
theorem cw_X8_copy : Cond.code yX8_copy cX8_copy 8 (some .int) ∈ am_TB := am_in 849 (by decide +kernel) rfl
set_option maxRecDepth 20000 in
theorem im_X8_copy : Cond.instanceMethod yX8_copy ∈ am_TB := am_in 847 (by decide +kernel) rfl
set_option maxRecDepth 20000 in
theorem se_X8_copy : Cond.selects yX8_copy.cls yX8_copy yX8_copy ∈ am_TB := am_in 848 (by decide +kernel) rfl
set_option maxRecDepth 20000 in
theorem nm_X8_copy : yX8_copy.cls ≠ "java/lang/invoke/MethodHandle" ∧ yX8_copy.cls ≠ "java/lang/invoke/VarHandle" ∧ (parseMethodDescriptor yX8_copy.desc).map (fun d => d.parameters.length) = some 5 := by decide +kernel
set_option maxRecDepth 20000 in
theorem ml_L_26 : am_ml RL 26 yX8_copy cX8_copy 8 (some .int) 5 := ⟨am_in 846 (by decide +kernel) rfl, iw_X8, cw_X8_copy, nm_X8_copy.1, nm_X8_copy.2.1, nm_X8_copy.2.2, by decide⟩
set_option maxRecDepth 20000 in
theorem cw_X7_drop : Cond.code yX7_drop cX7_drop 2 (some .int) ∈ am_TB := am_in 318 (by decide +kernel) rfl
set_option maxRecDepth 20000 in
theorem im_X7_drop : Cond.instanceMethod yX7_drop ∈ am_TB := am_in 316 (by decide +kernel) rfl
set_option maxRecDepth 20000 in
theorem se_X7_drop : Cond.selects yX7_drop.cls yX7_drop yX7_drop ∈ am_TB := am_in 317 (by decide +kernel) rfl
set_option maxRecDepth 20000 in
theorem nm_X7_drop : yX7_drop.cls ≠ "java/lang/invoke/MethodHandle" ∧ yX7_drop.cls ≠ "java/lang/invoke/VarHandle" ∧ (parseMethodDescriptor yX7_drop.desc).map (fun d => d.parameters.length) = some 1 := by decide +kernel
set_option maxRecDepth 20000 in
theorem ml_L_27 : am_ml RL 27 yX7_drop cX7_drop 2 (some .int) 1 := ⟨am_in 315 (by decide +kernel) rfl, iw_X7, cw_X7_drop, nm_X7_drop.1, nm_X7_drop.2.1, nm_X7_drop.2.2, by decide⟩
set_option maxRecDepth 20000 in
theorem cw_X8_drop : Cond.code yX8_drop cX8_drop 3 (some .int) ∈ am_TB := am_in 853 (by decide +kernel) rfl
set_option maxRecDepth 20000 in
theorem im_X8_drop : Cond.instanceMethod yX8_drop ∈ am_TB := am_in 851 (by decide +kernel) rfl
set_option maxRecDepth 20000 in
theorem se_X8_drop : Cond.selects yX8_drop.cls yX8_drop yX8_drop ∈ am_TB := am_in 852 (by decide +kernel) rfl
set_option maxRecDepth 20000 in
theorem nm_X8_drop : yX8_drop.cls ≠ "java/lang/invoke/MethodHandle" ∧ yX8_drop.cls ≠ "java/lang/invoke/VarHandle" ∧ (parseMethodDescriptor yX8_drop.desc).map (fun d => d.parameters.length) = some 1 := by decide +kernel
set_option maxRecDepth 20000 in
theorem ml_L_31 : am_ml RL 31 yX8_drop cX8_drop 3 (some .int) 1 := ⟨am_in 850 (by decide +kernel) rfl, iw_X8, cw_X8_drop, nm_X8_drop.1, nm_X8_drop.2.1, nm_X8_drop.2.2, by decide⟩
set_option maxRecDepth 20000 in
theorem cw_X7_feed : Cond.code yX7_feed cX7_feed 2 (some .int) ∈ am_TB := am_in 322 (by decide +kernel) rfl
set_option maxRecDepth 20000 in
theorem im_X7_feed : Cond.instanceMethod yX7_feed ∈ am_TB := am_in 320 (by decide +kernel) rfl
set_option maxRecDepth 20000 in
theorem se_X7_feed : Cond.selects yX7_feed.cls yX7_feed yX7_feed ∈ am_TB := am_in 321 (by decide +kernel) rfl
set_option maxRecDepth 20000 in
theorem nm_X7_feed : yX7_feed.cls ≠ "java/lang/invoke/MethodHandle" ∧ yX7_feed.cls ≠ "java/lang/invoke/VarHandle" ∧ (parseMethodDescriptor yX7_feed.desc).map (fun d => d.parameters.length) = some 1 := by decide +kernel
set_option maxRecDepth 20000 in
theorem ml_L_32 : am_ml RL 32 yX7_feed cX7_feed 2 (some .int) 1 := ⟨am_in 319 (by decide +kernel) rfl, iw_X7, cw_X7_feed, nm_X7_feed.1, nm_X7_feed.2.1, nm_X7_feed.2.2, by decide⟩
set_option maxRecDepth 20000 in
theorem cw_X8_feed : Cond.code yX8_feed cX8_feed 2 (some .int) ∈ am_TB := am_in 857 (by decide +kernel) rfl
set_option maxRecDepth 20000 in
theorem im_X8_feed : Cond.instanceMethod yX8_feed ∈ am_TB := am_in 855 (by decide +kernel) rfl
set_option maxRecDepth 20000 in
theorem se_X8_feed : Cond.selects yX8_feed.cls yX8_feed yX8_feed ∈ am_TB := am_in 856 (by decide +kernel) rfl
set_option maxRecDepth 20000 in
theorem nm_X8_feed : yX8_feed.cls ≠ "java/lang/invoke/MethodHandle" ∧ yX8_feed.cls ≠ "java/lang/invoke/VarHandle" ∧ (parseMethodDescriptor yX8_feed.desc).map (fun d => d.parameters.length) = some 1 := by decide +kernel
set_option maxRecDepth 20000 in
theorem ml_L_35 : am_ml RL 35 yX8_feed cX8_feed 2 (some .int) 1 := ⟨am_in 854 (by decide +kernel) rfl, iw_X8, cw_X8_feed, nm_X8_feed.1, nm_X8_feed.2.1, nm_X8_feed.2.2, by decide⟩
set_option maxRecDepth 20000 in
theorem cw_X7_sky : Cond.code yX7_sky cX7_sky 2 (some .int) ∈ am_TB := am_in 331 (by decide +kernel) rfl
set_option maxRecDepth 20000 in
theorem im_X7_sky : Cond.instanceMethod yX7_sky ∈ am_TB := am_in 329 (by decide +kernel) rfl
set_option maxRecDepth 20000 in
theorem se_X7_sky : Cond.selects yX7_sky.cls yX7_sky yX7_sky ∈ am_TB := am_in 330 (by decide +kernel) rfl
set_option maxRecDepth 20000 in
theorem nm_X7_sky : yX7_sky.cls ≠ "java/lang/invoke/MethodHandle" ∧ yX7_sky.cls ≠ "java/lang/invoke/VarHandle" ∧ (parseMethodDescriptor yX7_sky.desc).map (fun d => d.parameters.length) = some 0 := by decide +kernel
set_option maxRecDepth 20000 in
theorem ml_L_36 : am_ml RL 36 yX7_sky cX7_sky 2 (some .int) 0 := ⟨am_in 328 (by decide +kernel) rfl, iw_X7, cw_X7_sky, nm_X7_sky.1, nm_X7_sky.2.1, nm_X7_sky.2.2, by decide⟩
set_option maxRecDepth 20000 in
theorem cw_X8_sky : Cond.code yX8_sky cX8_sky 1 (some .int) ∈ am_TB := am_in 863 (by decide +kernel) rfl
set_option maxRecDepth 20000 in
theorem im_X8_sky : Cond.instanceMethod yX8_sky ∈ am_TB := am_in 861 (by decide +kernel) rfl
set_option maxRecDepth 20000 in
theorem se_X8_sky : Cond.selects yX8_sky.cls yX8_sky yX8_sky ∈ am_TB := am_in 862 (by decide +kernel) rfl
set_option maxRecDepth 20000 in
theorem nm_X8_sky : yX8_sky.cls ≠ "java/lang/invoke/MethodHandle" ∧ yX8_sky.cls ≠ "java/lang/invoke/VarHandle" ∧ (parseMethodDescriptor yX8_sky.desc).map (fun d => d.parameters.length) = some 0 := by decide +kernel
set_option maxRecDepth 20000 in
theorem ml_L_40 : am_ml RL 40 yX8_sky cX8_sky 1 (some .int) 0 := ⟨am_in 860 (by decide +kernel) rfl, iw_X8, cw_X8_sky, nm_X8_sky.1, nm_X8_sky.2.1, nm_X8_sky.2.2, by decide⟩
set_option maxRecDepth 20000 in
theorem cw_X7_fault : Cond.code yX7_fault cX7_fault 1 (some .int) ∈ am_TB := am_in 387 (by decide +kernel) rfl
set_option maxRecDepth 20000 in
theorem im_X7_fault : Cond.instanceMethod yX7_fault ∈ am_TB := am_in 385 (by decide +kernel) rfl
set_option maxRecDepth 20000 in
theorem se_X7_fault : Cond.selects yX7_fault.cls yX7_fault yX7_fault ∈ am_TB := am_in 386 (by decide +kernel) rfl
set_option maxRecDepth 20000 in
theorem nm_X7_fault : yX7_fault.cls ≠ "java/lang/invoke/MethodHandle" ∧ yX7_fault.cls ≠ "java/lang/invoke/VarHandle" ∧ (parseMethodDescriptor yX7_fault.desc).map (fun d => d.parameters.length) = some 0 := by decide +kernel
set_option maxRecDepth 20000 in
theorem ml_L_41 : am_ml RL 41 yX7_fault cX7_fault 1 (some .int) 0 := ⟨am_in 384 (by decide +kernel) rfl, iw_X7, cw_X7_fault, nm_X7_fault.1, nm_X7_fault.2.1, nm_X7_fault.2.2, by decide⟩
set_option maxRecDepth 20000 in
theorem cw_X8_fault : Cond.code yX8_fault cX8_fault 1 (some .int) ∈ am_TB := am_in 909 (by decide +kernel) rfl
set_option maxRecDepth 20000 in
theorem im_X8_fault : Cond.instanceMethod yX8_fault ∈ am_TB := am_in 907 (by decide +kernel) rfl
set_option maxRecDepth 20000 in
theorem se_X8_fault : Cond.selects yX8_fault.cls yX8_fault yX8_fault ∈ am_TB := am_in 908 (by decide +kernel) rfl
set_option maxRecDepth 20000 in
theorem nm_X8_fault : yX8_fault.cls ≠ "java/lang/invoke/MethodHandle" ∧ yX8_fault.cls ≠ "java/lang/invoke/VarHandle" ∧ (parseMethodDescriptor yX8_fault.desc).map (fun d => d.parameters.length) = some 0 := by decide +kernel
set_option maxRecDepth 20000 in
theorem ml_L_44 : am_ml RL 44 yX8_fault cX8_fault 1 (some .int) 0 := ⟨am_in 906 (by decide +kernel) rfl, iw_X8, cw_X8_fault, nm_X8_fault.1, nm_X8_fault.2.1, nm_X8_fault.2.2, by decide⟩
set_option maxRecDepth 20000 in
theorem cw_X7_undo : Cond.code yX7_undo cX7_undo 1 (some .int) ∈ am_TB := am_in 391 (by decide +kernel) rfl
set_option maxRecDepth 20000 in
theorem im_X7_undo : Cond.instanceMethod yX7_undo ∈ am_TB := am_in 389 (by decide +kernel) rfl
set_option maxRecDepth 20000 in
theorem se_X7_undo : Cond.selects yX7_undo.cls yX7_undo yX7_undo ∈ am_TB := am_in 390 (by decide +kernel) rfl
set_option maxRecDepth 20000 in
theorem nm_X7_undo : yX7_undo.cls ≠ "java/lang/invoke/MethodHandle" ∧ yX7_undo.cls ≠ "java/lang/invoke/VarHandle" ∧ (parseMethodDescriptor yX7_undo.desc).map (fun d => d.parameters.length) = some 0 := by decide +kernel
set_option maxRecDepth 20000 in
theorem ml_L_45 : am_ml RL 45 yX7_undo cX7_undo 1 (some .int) 0 := ⟨am_in 388 (by decide +kernel) rfl, iw_X7, cw_X7_undo, nm_X7_undo.1, nm_X7_undo.2.1, nm_X7_undo.2.2, by decide⟩
set_option maxRecDepth 20000 in
theorem cw_X8_undo : Cond.code yX8_undo cX8_undo 1 (some .int) ∈ am_TB := am_in 913 (by decide +kernel) rfl
set_option maxRecDepth 20000 in
theorem im_X8_undo : Cond.instanceMethod yX8_undo ∈ am_TB := am_in 911 (by decide +kernel) rfl
set_option maxRecDepth 20000 in
theorem se_X8_undo : Cond.selects yX8_undo.cls yX8_undo yX8_undo ∈ am_TB := am_in 912 (by decide +kernel) rfl
set_option maxRecDepth 20000 in
theorem nm_X8_undo : yX8_undo.cls ≠ "java/lang/invoke/MethodHandle" ∧ yX8_undo.cls ≠ "java/lang/invoke/VarHandle" ∧ (parseMethodDescriptor yX8_undo.desc).map (fun d => d.parameters.length) = some 0 := by decide +kernel
set_option maxRecDepth 20000 in
theorem ml_L_48 : am_ml RL 48 yX8_undo cX8_undo 1 (some .int) 0 := ⟨am_in 910 (by decide +kernel) rfl, iw_X8, cw_X8_undo, nm_X8_undo.1, nm_X8_undo.2.1, nm_X8_undo.2.2, by decide⟩
set_option maxRecDepth 20000 in
theorem cw_X7_hours : Cond.code yX7_hours cX7_hours 3 (some .int) ∈ am_TB := am_in 401 (by decide +kernel) rfl
set_option maxRecDepth 20000 in
theorem im_X7_hours : Cond.instanceMethod yX7_hours ∈ am_TB := am_in 399 (by decide +kernel) rfl
set_option maxRecDepth 20000 in
theorem se_X7_hours : Cond.selects yX7_hours.cls yX7_hours yX7_hours ∈ am_TB := am_in 400 (by decide +kernel) rfl
set_option maxRecDepth 20000 in
theorem nm_X7_hours : yX7_hours.cls ≠ "java/lang/invoke/MethodHandle" ∧ yX7_hours.cls ≠ "java/lang/invoke/VarHandle" ∧ (parseMethodDescriptor yX7_hours.desc).map (fun d => d.parameters.length) = some 1 := by decide +kernel
set_option maxRecDepth 20000 in
theorem ml_L_49 : am_ml RL 49 yX7_hours cX7_hours 3 (some .int) 1 := ⟨am_in 398 (by decide +kernel) rfl, iw_X7, cw_X7_hours, nm_X7_hours.1, nm_X7_hours.2.1, nm_X7_hours.2.2, by decide⟩
set_option maxRecDepth 20000 in
theorem cw_X8_hours : Cond.code yX8_hours cX8_hours 3 (some .int) ∈ am_TB := am_in 918 (by decide +kernel) rfl
set_option maxRecDepth 20000 in
theorem im_X8_hours : Cond.instanceMethod yX8_hours ∈ am_TB := am_in 916 (by decide +kernel) rfl
set_option maxRecDepth 20000 in
theorem se_X8_hours : Cond.selects yX8_hours.cls yX8_hours yX8_hours ∈ am_TB := am_in 917 (by decide +kernel) rfl
set_option maxRecDepth 20000 in
theorem nm_X8_hours : yX8_hours.cls ≠ "java/lang/invoke/MethodHandle" ∧ yX8_hours.cls ≠ "java/lang/invoke/VarHandle" ∧ (parseMethodDescriptor yX8_hours.desc).map (fun d => d.parameters.length) = some 1 := by decide +kernel
set_option maxRecDepth 20000 in
theorem ml_L_52 : am_ml RL 52 yX8_hours cX8_hours 3 (some .int) 1 := ⟨am_in 915 (by decide +kernel) rfl, iw_X8, cw_X8_hours, nm_X8_hours.1, nm_X8_hours.2.1, nm_X8_hours.2.2, by decide⟩
set_option maxRecDepth 20000 in
theorem cw_X7_burn : Cond.code yX7_burn cX7_burn 3 (some .int) ∈ am_TB := am_in 453 (by decide +kernel) rfl
set_option maxRecDepth 20000 in
theorem im_X7_burn : Cond.instanceMethod yX7_burn ∈ am_TB := am_in 451 (by decide +kernel) rfl
set_option maxRecDepth 20000 in
theorem se_X7_burn : Cond.selects yX7_burn.cls yX7_burn yX7_burn ∈ am_TB := am_in 452 (by decide +kernel) rfl
set_option maxRecDepth 20000 in
theorem nm_X7_burn : yX7_burn.cls ≠ "java/lang/invoke/MethodHandle" ∧ yX7_burn.cls ≠ "java/lang/invoke/VarHandle" ∧ (parseMethodDescriptor yX7_burn.desc).map (fun d => d.parameters.length) = some 2 := by decide +kernel
set_option maxRecDepth 20000 in
theorem ml_L_53 : am_ml RL 53 yX7_burn cX7_burn 3 (some .int) 2 := ⟨am_in 450 (by decide +kernel) rfl, iw_X7, cw_X7_burn, nm_X7_burn.1, nm_X7_burn.2.1, nm_X7_burn.2.2, by decide⟩
set_option maxRecDepth 20000 in
theorem cw_X8_burn : Cond.code yX8_burn cX8_burn 3 (some .int) ∈ am_TB := am_in 945 (by decide +kernel) rfl
set_option maxRecDepth 20000 in
theorem im_X8_burn : Cond.instanceMethod yX8_burn ∈ am_TB := am_in 943 (by decide +kernel) rfl
set_option maxRecDepth 20000 in
theorem se_X8_burn : Cond.selects yX8_burn.cls yX8_burn yX8_burn ∈ am_TB := am_in 944 (by decide +kernel) rfl
set_option maxRecDepth 20000 in
theorem nm_X8_burn : yX8_burn.cls ≠ "java/lang/invoke/MethodHandle" ∧ yX8_burn.cls ≠ "java/lang/invoke/VarHandle" ∧ (parseMethodDescriptor yX8_burn.desc).map (fun d => d.parameters.length) = some 2 := by decide +kernel
set_option maxRecDepth 20000 in
theorem ml_L_57 : am_ml RL 57 yX8_burn cX8_burn 3 (some .int) 2 := ⟨am_in 942 (by decide +kernel) rfl, iw_X8, cw_X8_burn, nm_X8_burn.1, nm_X8_burn.2.1, nm_X8_burn.2.2, by decide⟩
set_option maxRecDepth 20000 in
theorem cw_X7_send : Cond.code yX7_send cX7_send 4 (some .int) ∈ am_TB := am_in 471 (by decide +kernel) rfl
set_option maxRecDepth 20000 in
theorem im_X7_send : Cond.instanceMethod yX7_send ∈ am_TB := am_in 469 (by decide +kernel) rfl
set_option maxRecDepth 20000 in
theorem se_X7_send : Cond.selects yX7_send.cls yX7_send yX7_send ∈ am_TB := am_in 470 (by decide +kernel) rfl
set_option maxRecDepth 20000 in
theorem nm_X7_send : yX7_send.cls ≠ "java/lang/invoke/MethodHandle" ∧ yX7_send.cls ≠ "java/lang/invoke/VarHandle" ∧ (parseMethodDescriptor yX7_send.desc).map (fun d => d.parameters.length) = some 3 := by decide +kernel
set_option maxRecDepth 20000 in
theorem ml_L_58 : am_ml RL 58 yX7_send cX7_send 4 (some .int) 3 := ⟨am_in 468 (by decide +kernel) rfl, iw_X7, cw_X7_send, nm_X7_send.1, nm_X7_send.2.1, nm_X7_send.2.2, by decide⟩
set_option maxRecDepth 20000 in
theorem cw_X8_send : Cond.code yX8_send cX8_send 4 (some .int) ∈ am_TB := am_in 963 (by decide +kernel) rfl
set_option maxRecDepth 20000 in
theorem im_X8_send : Cond.instanceMethod yX8_send ∈ am_TB := am_in 961 (by decide +kernel) rfl
set_option maxRecDepth 20000 in
theorem se_X8_send : Cond.selects yX8_send.cls yX8_send yX8_send ∈ am_TB := am_in 962 (by decide +kernel) rfl
set_option maxRecDepth 20000 in
theorem nm_X8_send : yX8_send.cls ≠ "java/lang/invoke/MethodHandle" ∧ yX8_send.cls ≠ "java/lang/invoke/VarHandle" ∧ (parseMethodDescriptor yX8_send.desc).map (fun d => d.parameters.length) = some 3 := by decide +kernel
set_option maxRecDepth 20000 in
theorem ml_L_61 : am_ml RL 61 yX8_send cX8_send 4 (some .int) 3 := ⟨am_in 960 (by decide +kernel) rfl, iw_X8, cw_X8_send, nm_X8_send.1, nm_X8_send.2.1, nm_X8_send.2.2, by decide⟩
set_option maxRecDepth 20000 in
theorem cw_X7_wind : Cond.code yX7_wind cX7_wind 4 (some .int) ∈ am_TB := am_in 475 (by decide +kernel) rfl
set_option maxRecDepth 20000 in
theorem im_X7_wind : Cond.instanceMethod yX7_wind ∈ am_TB := am_in 473 (by decide +kernel) rfl
set_option maxRecDepth 20000 in
theorem se_X7_wind : Cond.selects yX7_wind.cls yX7_wind yX7_wind ∈ am_TB := am_in 474 (by decide +kernel) rfl
set_option maxRecDepth 20000 in
theorem nm_X7_wind : yX7_wind.cls ≠ "java/lang/invoke/MethodHandle" ∧ yX7_wind.cls ≠ "java/lang/invoke/VarHandle" ∧ (parseMethodDescriptor yX7_wind.desc).map (fun d => d.parameters.length) = some 2 := by decide +kernel
set_option maxRecDepth 20000 in
theorem ml_L_62 : am_ml RL 62 yX7_wind cX7_wind 4 (some .int) 2 := ⟨am_in 472 (by decide +kernel) rfl, iw_X7, cw_X7_wind, nm_X7_wind.1, nm_X7_wind.2.1, nm_X7_wind.2.2, by decide⟩
set_option maxRecDepth 20000 in
theorem cw_X8_wind : Cond.code yX8_wind cX8_wind 4 (some .int) ∈ am_TB := am_in 968 (by decide +kernel) rfl
set_option maxRecDepth 20000 in
theorem im_X8_wind : Cond.instanceMethod yX8_wind ∈ am_TB := am_in 966 (by decide +kernel) rfl
set_option maxRecDepth 20000 in
theorem se_X8_wind : Cond.selects yX8_wind.cls yX8_wind yX8_wind ∈ am_TB := am_in 967 (by decide +kernel) rfl
set_option maxRecDepth 20000 in
theorem nm_X8_wind : yX8_wind.cls ≠ "java/lang/invoke/MethodHandle" ∧ yX8_wind.cls ≠ "java/lang/invoke/VarHandle" ∧ (parseMethodDescriptor yX8_wind.desc).map (fun d => d.parameters.length) = some 2 := by decide +kernel
set_option maxRecDepth 20000 in
theorem ml_L_65 : am_ml RL 65 yX8_wind cX8_wind 4 (some .int) 2 := ⟨am_in 965 (by decide +kernel) rfl, iw_X8, cw_X8_wind, nm_X8_wind.1, nm_X8_wind.2.1, nm_X8_wind.2.2, by decide⟩
set_option maxRecDepth 20000 in
theorem cw_X7_office : Cond.code yX7_office cX7_office 3 (some .int) ∈ am_TB := am_in 479 (by decide +kernel) rfl
set_option maxRecDepth 20000 in
theorem im_X7_office : Cond.instanceMethod yX7_office ∈ am_TB := am_in 477 (by decide +kernel) rfl
set_option maxRecDepth 20000 in
theorem se_X7_office : Cond.selects yX7_office.cls yX7_office yX7_office ∈ am_TB := am_in 478 (by decide +kernel) rfl
set_option maxRecDepth 20000 in
theorem nm_X7_office : yX7_office.cls ≠ "java/lang/invoke/MethodHandle" ∧ yX7_office.cls ≠ "java/lang/invoke/VarHandle" ∧ (parseMethodDescriptor yX7_office.desc).map (fun d => d.parameters.length) = some 2 := by decide +kernel
set_option maxRecDepth 20000 in
theorem ml_L_66 : am_ml RL 66 yX7_office cX7_office 3 (some .int) 2 := ⟨am_in 476 (by decide +kernel) rfl, iw_X7, cw_X7_office, nm_X7_office.1, nm_X7_office.2.1, nm_X7_office.2.2, by decide⟩
set_option maxRecDepth 20000 in
theorem cw_X8_office : Cond.code yX8_office cX8_office 4 (some .int) ∈ am_TB := am_in 974 (by decide +kernel) rfl
set_option maxRecDepth 20000 in
theorem im_X8_office : Cond.instanceMethod yX8_office ∈ am_TB := am_in 972 (by decide +kernel) rfl
set_option maxRecDepth 20000 in
theorem se_X8_office : Cond.selects yX8_office.cls yX8_office yX8_office ∈ am_TB := am_in 973 (by decide +kernel) rfl
set_option maxRecDepth 20000 in
theorem nm_X8_office : yX8_office.cls ≠ "java/lang/invoke/MethodHandle" ∧ yX8_office.cls ≠ "java/lang/invoke/VarHandle" ∧ (parseMethodDescriptor yX8_office.desc).map (fun d => d.parameters.length) = some 2 := by decide +kernel
set_option maxRecDepth 20000 in
theorem ml_L_69 : am_ml RL 69 yX8_office cX8_office 4 (some .int) 2 := ⟨am_in 971 (by decide +kernel) rfl, iw_X8, cw_X8_office, nm_X8_office.1, nm_X8_office.2.1, nm_X8_office.2.2, by decide⟩
set_option maxRecDepth 20000 in
theorem cw_X7_land : Cond.code yX7_land cX7_land 2 (some .int) ∈ am_TB := am_in 485 (by decide +kernel) rfl
set_option maxRecDepth 20000 in
theorem im_X7_land : Cond.instanceMethod yX7_land ∈ am_TB := am_in 483 (by decide +kernel) rfl
set_option maxRecDepth 20000 in
theorem se_X7_land : Cond.selects yX7_land.cls yX7_land yX7_land ∈ am_TB := am_in 484 (by decide +kernel) rfl
set_option maxRecDepth 20000 in
theorem nm_X7_land : yX7_land.cls ≠ "java/lang/invoke/MethodHandle" ∧ yX7_land.cls ≠ "java/lang/invoke/VarHandle" ∧ (parseMethodDescriptor yX7_land.desc).map (fun d => d.parameters.length) = some 1 := by decide +kernel
set_option maxRecDepth 20000 in
theorem ml_L_70 : am_ml RL 70 yX7_land cX7_land 2 (some .int) 1 := ⟨am_in 482 (by decide +kernel) rfl, iw_X7, cw_X7_land, nm_X7_land.1, nm_X7_land.2.1, nm_X7_land.2.2, by decide⟩
set_option maxRecDepth 20000 in
theorem cw_X8_land : Cond.code yX8_land cX8_land 2 (some .int) ∈ am_TB := am_in 979 (by decide +kernel) rfl
set_option maxRecDepth 20000 in
theorem im_X8_land : Cond.instanceMethod yX8_land ∈ am_TB := am_in 977 (by decide +kernel) rfl
set_option maxRecDepth 20000 in
theorem se_X8_land : Cond.selects yX8_land.cls yX8_land yX8_land ∈ am_TB := am_in 978 (by decide +kernel) rfl
set_option maxRecDepth 20000 in
theorem nm_X8_land : yX8_land.cls ≠ "java/lang/invoke/MethodHandle" ∧ yX8_land.cls ≠ "java/lang/invoke/VarHandle" ∧ (parseMethodDescriptor yX8_land.desc).map (fun d => d.parameters.length) = some 1 := by decide +kernel
set_option maxRecDepth 20000 in
theorem ml_L_73 : am_ml RL 73 yX8_land cX8_land 2 (some .int) 1 := ⟨am_in 976 (by decide +kernel) rfl, iw_X8, cw_X8_land, nm_X8_land.1, nm_X8_land.2.1, nm_X8_land.2.2, by decide⟩
set_option maxRecDepth 20000 in
theorem cw_X7_ahead : Cond.code yX7_ahead cX7_ahead 4 (some .int) ∈ am_TB := am_in 496 (by decide +kernel) rfl
set_option maxRecDepth 20000 in
theorem im_X7_ahead : Cond.instanceMethod yX7_ahead ∈ am_TB := am_in 494 (by decide +kernel) rfl
set_option maxRecDepth 20000 in
theorem se_X7_ahead : Cond.selects yX7_ahead.cls yX7_ahead yX7_ahead ∈ am_TB := am_in 495 (by decide +kernel) rfl
set_option maxRecDepth 20000 in
theorem nm_X7_ahead : yX7_ahead.cls ≠ "java/lang/invoke/MethodHandle" ∧ yX7_ahead.cls ≠ "java/lang/invoke/VarHandle" ∧ (parseMethodDescriptor yX7_ahead.desc).map (fun d => d.parameters.length) = some 3 := by decide +kernel
set_option maxRecDepth 20000 in
theorem ml_L_74 : am_ml RL 74 yX7_ahead cX7_ahead 4 (some .int) 3 := ⟨am_in 493 (by decide +kernel) rfl, iw_X7, cw_X7_ahead, nm_X7_ahead.1, nm_X7_ahead.2.1, nm_X7_ahead.2.2, by decide⟩
set_option maxRecDepth 20000 in
theorem cw_X8_ahead : Cond.code yX8_ahead cX8_ahead 4 (some .int) ∈ am_TB := am_in 990 (by decide +kernel) rfl
set_option maxRecDepth 20000 in
theorem im_X8_ahead : Cond.instanceMethod yX8_ahead ∈ am_TB := am_in 988 (by decide +kernel) rfl
set_option maxRecDepth 20000 in
theorem se_X8_ahead : Cond.selects yX8_ahead.cls yX8_ahead yX8_ahead ∈ am_TB := am_in 989 (by decide +kernel) rfl
set_option maxRecDepth 20000 in
theorem nm_X8_ahead : yX8_ahead.cls ≠ "java/lang/invoke/MethodHandle" ∧ yX8_ahead.cls ≠ "java/lang/invoke/VarHandle" ∧ (parseMethodDescriptor yX8_ahead.desc).map (fun d => d.parameters.length) = some 3 := by decide +kernel
set_option maxRecDepth 20000 in
theorem ml_L_77 : am_ml RL 77 yX8_ahead cX8_ahead 4 (some .int) 3 := ⟨am_in 987 (by decide +kernel) rfl, iw_X8, cw_X8_ahead, nm_X8_ahead.1, nm_X8_ahead.2.1, nm_X8_ahead.2.2, by decide⟩
set_option maxRecDepth 20000 in
theorem cw_X7_down : Cond.code yX7_down cX7_down 2 (some .int) ∈ am_TB := am_in 513 (by decide +kernel) rfl
set_option maxRecDepth 20000 in
theorem im_X7_down : Cond.instanceMethod yX7_down ∈ am_TB := am_in 511 (by decide +kernel) rfl
set_option maxRecDepth 20000 in
theorem se_X7_down : Cond.selects yX7_down.cls yX7_down yX7_down ∈ am_TB := am_in 512 (by decide +kernel) rfl
set_option maxRecDepth 20000 in
theorem nm_X7_down : yX7_down.cls ≠ "java/lang/invoke/MethodHandle" ∧ yX7_down.cls ≠ "java/lang/invoke/VarHandle" ∧ (parseMethodDescriptor yX7_down.desc).map (fun d => d.parameters.length) = some 1 := by decide +kernel
set_option maxRecDepth 20000 in
theorem ml_L_78 : am_ml RL 78 yX7_down cX7_down 2 (some .int) 1 := ⟨am_in 510 (by decide +kernel) rfl, iw_X7, cw_X7_down, nm_X7_down.1, nm_X7_down.2.1, nm_X7_down.2.2, by decide⟩
set_option maxRecDepth 20000 in
theorem cw_X8_down : Cond.code yX8_down cX8_down 3 (some .int) ∈ am_TB := am_in 1001 (by decide +kernel) rfl
set_option maxRecDepth 20000 in
theorem im_X8_down : Cond.instanceMethod yX8_down ∈ am_TB := am_in 999 (by decide +kernel) rfl
set_option maxRecDepth 20000 in
theorem se_X8_down : Cond.selects yX8_down.cls yX8_down yX8_down ∈ am_TB := am_in 1000 (by decide +kernel) rfl
set_option maxRecDepth 20000 in
theorem nm_X8_down : yX8_down.cls ≠ "java/lang/invoke/MethodHandle" ∧ yX8_down.cls ≠ "java/lang/invoke/VarHandle" ∧ (parseMethodDescriptor yX8_down.desc).map (fun d => d.parameters.length) = some 1 := by decide +kernel
set_option maxRecDepth 20000 in
theorem ml_L_81 : am_ml RL 81 yX8_down cX8_down 3 (some .int) 1 := ⟨am_in 998 (by decide +kernel) rfl, iw_X8, cw_X8_down, nm_X8_down.1, nm_X8_down.2.1, nm_X8_down.2.2, by decide⟩
set_option maxRecDepth 20000 in
theorem cw_X7_meet : Cond.code yX7_meet cX7_meet 3 (some .int) ∈ am_TB := am_in 522 (by decide +kernel) rfl
set_option maxRecDepth 20000 in
theorem im_X7_meet : Cond.instanceMethod yX7_meet ∈ am_TB := am_in 520 (by decide +kernel) rfl
set_option maxRecDepth 20000 in
theorem se_X7_meet : Cond.selects yX7_meet.cls yX7_meet yX7_meet ∈ am_TB := am_in 521 (by decide +kernel) rfl
set_option maxRecDepth 20000 in
theorem nm_X7_meet : yX7_meet.cls ≠ "java/lang/invoke/MethodHandle" ∧ yX7_meet.cls ≠ "java/lang/invoke/VarHandle" ∧ (parseMethodDescriptor yX7_meet.desc).map (fun d => d.parameters.length) = some 2 := by decide +kernel
set_option maxRecDepth 20000 in
theorem ml_L_82 : am_ml RL 82 yX7_meet cX7_meet 3 (some .int) 2 := ⟨am_in 519 (by decide +kernel) rfl, iw_X7, cw_X7_meet, nm_X7_meet.1, nm_X7_meet.2.1, nm_X7_meet.2.2, by decide⟩
set_option maxRecDepth 20000 in
theorem cw_X8_meet : Cond.code yX8_meet cX8_meet 4 (some .int) ∈ am_TB := am_in 1006 (by decide +kernel) rfl
set_option maxRecDepth 20000 in
theorem im_X8_meet : Cond.instanceMethod yX8_meet ∈ am_TB := am_in 1004 (by decide +kernel) rfl
set_option maxRecDepth 20000 in
theorem se_X8_meet : Cond.selects yX8_meet.cls yX8_meet yX8_meet ∈ am_TB := am_in 1005 (by decide +kernel) rfl
set_option maxRecDepth 20000 in
theorem nm_X8_meet : yX8_meet.cls ≠ "java/lang/invoke/MethodHandle" ∧ yX8_meet.cls ≠ "java/lang/invoke/VarHandle" ∧ (parseMethodDescriptor yX8_meet.desc).map (fun d => d.parameters.length) = some 2 := by decide +kernel
set_option maxRecDepth 20000 in
theorem ml_L_85 : am_ml RL 85 yX8_meet cX8_meet 4 (some .int) 2 := ⟨am_in 1003 (by decide +kernel) rfl, iw_X8, cw_X8_meet, nm_X8_meet.1, nm_X8_meet.2.1, nm_X8_meet.2.2, by decide⟩
set_option maxRecDepth 20000 in
theorem cw_X7_over : Cond.code yX7_over cX7_over 3 (some .int) ∈ am_TB := am_in 532 (by decide +kernel) rfl
set_option maxRecDepth 20000 in
theorem im_X7_over : Cond.instanceMethod yX7_over ∈ am_TB := am_in 530 (by decide +kernel) rfl
set_option maxRecDepth 20000 in
theorem se_X7_over : Cond.selects yX7_over.cls yX7_over yX7_over ∈ am_TB := am_in 531 (by decide +kernel) rfl
set_option maxRecDepth 20000 in
theorem nm_X7_over : yX7_over.cls ≠ "java/lang/invoke/MethodHandle" ∧ yX7_over.cls ≠ "java/lang/invoke/VarHandle" ∧ (parseMethodDescriptor yX7_over.desc).map (fun d => d.parameters.length) = some 2 := by decide +kernel
set_option maxRecDepth 20000 in
theorem ml_L_86 : am_ml RL 86 yX7_over cX7_over 3 (some .int) 2 := ⟨am_in 529 (by decide +kernel) rfl, iw_X7, cw_X7_over, nm_X7_over.1, nm_X7_over.2.1, nm_X7_over.2.2, by decide⟩
set_option maxRecDepth 20000 in
theorem cw_X8_over : Cond.code yX8_over cX8_over 3 (some .int) ∈ am_TB := am_in 1010 (by decide +kernel) rfl
set_option maxRecDepth 20000 in
theorem im_X8_over : Cond.instanceMethod yX8_over ∈ am_TB := am_in 1008 (by decide +kernel) rfl
set_option maxRecDepth 20000 in
theorem se_X8_over : Cond.selects yX8_over.cls yX8_over yX8_over ∈ am_TB := am_in 1009 (by decide +kernel) rfl
set_option maxRecDepth 20000 in
theorem nm_X8_over : yX8_over.cls ≠ "java/lang/invoke/MethodHandle" ∧ yX8_over.cls ≠ "java/lang/invoke/VarHandle" ∧ (parseMethodDescriptor yX8_over.desc).map (fun d => d.parameters.length) = some 2 := by decide +kernel
set_option maxRecDepth 20000 in
theorem ml_L_89 : am_ml RL 89 yX8_over cX8_over 3 (some .int) 2 := ⟨am_in 1007 (by decide +kernel) rfl, iw_X8, cw_X8_over, nm_X8_over.1, nm_X8_over.2.1, nm_X8_over.2.2, by decide⟩
set_option maxRecDepth 20000 in
theorem cw_X7_above : Cond.code yX7_above cX7_above 7 (some .int) ∈ am_TB := am_in 542 (by decide +kernel) rfl
set_option maxRecDepth 20000 in
theorem im_X7_above : Cond.instanceMethod yX7_above ∈ am_TB := am_in 540 (by decide +kernel) rfl
set_option maxRecDepth 20000 in
theorem se_X7_above : Cond.selects yX7_above.cls yX7_above yX7_above ∈ am_TB := am_in 541 (by decide +kernel) rfl
set_option maxRecDepth 20000 in
theorem nm_X7_above : yX7_above.cls ≠ "java/lang/invoke/MethodHandle" ∧ yX7_above.cls ≠ "java/lang/invoke/VarHandle" ∧ (parseMethodDescriptor yX7_above.desc).map (fun d => d.parameters.length) = some 5 := by decide +kernel
set_option maxRecDepth 20000 in
theorem ml_L_90 : am_ml RL 90 yX7_above cX7_above 7 (some .int) 5 := ⟨am_in 539 (by decide +kernel) rfl, iw_X7, cw_X7_above, nm_X7_above.1, nm_X7_above.2.1, nm_X7_above.2.2, by decide⟩
set_option maxRecDepth 20000 in
theorem cw_X8_above : Cond.code yX8_above cX8_above 13 (some .int) ∈ am_TB := am_in 1014 (by decide +kernel) rfl
set_option maxRecDepth 20000 in
theorem im_X8_above : Cond.instanceMethod yX8_above ∈ am_TB := am_in 1012 (by decide +kernel) rfl
set_option maxRecDepth 20000 in
theorem se_X8_above : Cond.selects yX8_above.cls yX8_above yX8_above ∈ am_TB := am_in 1013 (by decide +kernel) rfl
set_option maxRecDepth 20000 in
theorem nm_X8_above : yX8_above.cls ≠ "java/lang/invoke/MethodHandle" ∧ yX8_above.cls ≠ "java/lang/invoke/VarHandle" ∧ (parseMethodDescriptor yX8_above.desc).map (fun d => d.parameters.length) = some 5 := by decide +kernel
set_option maxRecDepth 20000 in
theorem ml_L_93 : am_ml RL 93 yX8_above cX8_above 13 (some .int) 5 := ⟨am_in 1011 (by decide +kernel) rfl, iw_X8, cw_X8_above, nm_X8_above.1, nm_X8_above.2.1, nm_X8_above.2.2, by decide⟩
set_option maxRecDepth 20000 in
theorem cw_X7_petition : Cond.code yX7_petition cX7_petition 7 (some .int) ∈ am_TB := am_in 575 (by decide +kernel) rfl
set_option maxRecDepth 20000 in
theorem im_X7_petition : Cond.instanceMethod yX7_petition ∈ am_TB := am_in 573 (by decide +kernel) rfl
set_option maxRecDepth 20000 in
theorem se_X7_petition : Cond.selects yX7_petition.cls yX7_petition yX7_petition ∈ am_TB := am_in 574 (by decide +kernel) rfl
set_option maxRecDepth 20000 in
theorem nm_X7_petition : yX7_petition.cls ≠ "java/lang/invoke/MethodHandle" ∧ yX7_petition.cls ≠ "java/lang/invoke/VarHandle" ∧ (parseMethodDescriptor yX7_petition.desc).map (fun d => d.parameters.length) = some 4 := by decide +kernel
set_option maxRecDepth 20000 in
theorem ml_L_94 : am_ml RL 94 yX7_petition cX7_petition 7 (some .int) 4 := ⟨am_in 572 (by decide +kernel) rfl, iw_X7, cw_X7_petition, nm_X7_petition.1, nm_X7_petition.2.1, nm_X7_petition.2.2, by decide⟩
set_option maxRecDepth 20000 in
theorem cw_X8_petition : Cond.code yX8_petition cX8_petition 10 (some .int) ∈ am_TB := am_in 1031 (by decide +kernel) rfl
set_option maxRecDepth 20000 in
theorem im_X8_petition : Cond.instanceMethod yX8_petition ∈ am_TB := am_in 1029 (by decide +kernel) rfl
set_option maxRecDepth 20000 in
theorem se_X8_petition : Cond.selects yX8_petition.cls yX8_petition yX8_petition ∈ am_TB := am_in 1030 (by decide +kernel) rfl
set_option maxRecDepth 20000 in
theorem nm_X8_petition : yX8_petition.cls ≠ "java/lang/invoke/MethodHandle" ∧ yX8_petition.cls ≠ "java/lang/invoke/VarHandle" ∧ (parseMethodDescriptor yX8_petition.desc).map (fun d => d.parameters.length) = some 4 := by decide +kernel
set_option maxRecDepth 20000 in
theorem ml_L_98 : am_ml RL 98 yX8_petition cX8_petition 10 (some .int) 4 := ⟨am_in 1028 (by decide +kernel) rfl, iw_X8, cw_X8_petition, nm_X8_petition.1, nm_X8_petition.2.1, nm_X8_petition.2.2, by decide⟩
set_option maxRecDepth 20000 in
theorem cw_X7_ash : Cond.code yX7_ash cX7_ash 8 (some .int) ∈ am_TB := am_in 588 (by decide +kernel) rfl
set_option maxRecDepth 20000 in
theorem im_X7_ash : Cond.instanceMethod yX7_ash ∈ am_TB := am_in 586 (by decide +kernel) rfl
set_option maxRecDepth 20000 in
theorem se_X7_ash : Cond.selects yX7_ash.cls yX7_ash yX7_ash ∈ am_TB := am_in 587 (by decide +kernel) rfl
set_option maxRecDepth 20000 in
theorem nm_X7_ash : yX7_ash.cls ≠ "java/lang/invoke/MethodHandle" ∧ yX7_ash.cls ≠ "java/lang/invoke/VarHandle" ∧ (parseMethodDescriptor yX7_ash.desc).map (fun d => d.parameters.length) = some 5 := by decide +kernel
set_option maxRecDepth 20000 in
theorem ml_L_99 : am_ml RL 99 yX7_ash cX7_ash 8 (some .int) 5 := ⟨am_in 585 (by decide +kernel) rfl, iw_X7, cw_X7_ash, nm_X7_ash.1, nm_X7_ash.2.1, nm_X7_ash.2.2, by decide⟩
set_option maxRecDepth 20000 in
theorem cw_X8_ash : Cond.code yX8_ash cX8_ash 11 (some .int) ∈ am_TB := am_in 1040 (by decide +kernel) rfl
set_option maxRecDepth 20000 in
theorem im_X8_ash : Cond.instanceMethod yX8_ash ∈ am_TB := am_in 1038 (by decide +kernel) rfl
set_option maxRecDepth 20000 in
theorem se_X8_ash : Cond.selects yX8_ash.cls yX8_ash yX8_ash ∈ am_TB := am_in 1039 (by decide +kernel) rfl
set_option maxRecDepth 20000 in
theorem nm_X8_ash : yX8_ash.cls ≠ "java/lang/invoke/MethodHandle" ∧ yX8_ash.cls ≠ "java/lang/invoke/VarHandle" ∧ (parseMethodDescriptor yX8_ash.desc).map (fun d => d.parameters.length) = some 5 := by decide +kernel
set_option maxRecDepth 20000 in
theorem ml_L_102 : am_ml RL 102 yX8_ash cX8_ash 11 (some .int) 5 := ⟨am_in 1037 (by decide +kernel) rfl, iw_X8, cw_X8_ash, nm_X8_ash.1, nm_X8_ash.2.1, nm_X8_ash.2.2, by decide⟩
set_option maxRecDepth 20000 in
theorem cw_X7_who : Cond.code yX7_who cX7_who 7 (some .int) ∈ am_TB := am_in 596 (by decide +kernel) rfl
set_option maxRecDepth 20000 in
theorem im_X7_who : Cond.instanceMethod yX7_who ∈ am_TB := am_in 594 (by decide +kernel) rfl
set_option maxRecDepth 20000 in
theorem se_X7_who : Cond.selects yX7_who.cls yX7_who yX7_who ∈ am_TB := am_in 595 (by decide +kernel) rfl
set_option maxRecDepth 20000 in
theorem nm_X7_who : yX7_who.cls ≠ "java/lang/invoke/MethodHandle" ∧ yX7_who.cls ≠ "java/lang/invoke/VarHandle" ∧ (parseMethodDescriptor yX7_who.desc).map (fun d => d.parameters.length) = some 5 := by decide +kernel
set_option maxRecDepth 20000 in
theorem ml_L_103 : am_ml RL 103 yX7_who cX7_who 7 (some .int) 5 := ⟨am_in 593 (by decide +kernel) rfl, iw_X7, cw_X7_who, nm_X7_who.1, nm_X7_who.2.1, nm_X7_who.2.2, by decide⟩
set_option maxRecDepth 20000 in
theorem cw_X8_who : Cond.code yX8_who cX8_who 12 (some .int) ∈ am_TB := am_in 1049 (by decide +kernel) rfl
set_option maxRecDepth 20000 in
theorem im_X8_who : Cond.instanceMethod yX8_who ∈ am_TB := am_in 1047 (by decide +kernel) rfl
set_option maxRecDepth 20000 in
theorem se_X8_who : Cond.selects yX8_who.cls yX8_who yX8_who ∈ am_TB := am_in 1048 (by decide +kernel) rfl
set_option maxRecDepth 20000 in
theorem nm_X8_who : yX8_who.cls ≠ "java/lang/invoke/MethodHandle" ∧ yX8_who.cls ≠ "java/lang/invoke/VarHandle" ∧ (parseMethodDescriptor yX8_who.desc).map (fun d => d.parameters.length) = some 5 := by decide +kernel
set_option maxRecDepth 20000 in
theorem ml_L_106 : am_ml RL 106 yX8_who cX8_who 12 (some .int) 5 := ⟨am_in 1046 (by decide +kernel) rfl, iw_X8, cw_X8_who, nm_X8_who.1, nm_X8_who.2.1, nm_X8_who.2.2, by decide⟩
set_option maxRecDepth 20000 in
theorem cw_X7_rule : Cond.code yX7_rule cX7_rule 4 (some .int) ∈ am_TB := am_in 608 (by decide +kernel) rfl
set_option maxRecDepth 20000 in
theorem im_X7_rule : Cond.instanceMethod yX7_rule ∈ am_TB := am_in 606 (by decide +kernel) rfl
set_option maxRecDepth 20000 in
theorem se_X7_rule : Cond.selects yX7_rule.cls yX7_rule yX7_rule ∈ am_TB := am_in 607 (by decide +kernel) rfl
set_option maxRecDepth 20000 in
theorem nm_X7_rule : yX7_rule.cls ≠ "java/lang/invoke/MethodHandle" ∧ yX7_rule.cls ≠ "java/lang/invoke/VarHandle" ∧ (parseMethodDescriptor yX7_rule.desc).map (fun d => d.parameters.length) = some 2 := by decide +kernel
set_option maxRecDepth 20000 in
theorem ml_L_107 : am_ml RL 107 yX7_rule cX7_rule 4 (some .int) 2 := ⟨am_in 605 (by decide +kernel) rfl, iw_X7, cw_X7_rule, nm_X7_rule.1, nm_X7_rule.2.1, nm_X7_rule.2.2, by decide⟩
set_option maxRecDepth 20000 in
theorem cw_X8_rule : Cond.code yX8_rule cX8_rule 5 (some .int) ∈ am_TB := am_in 1053 (by decide +kernel) rfl
set_option maxRecDepth 20000 in
theorem im_X8_rule : Cond.instanceMethod yX8_rule ∈ am_TB := am_in 1051 (by decide +kernel) rfl
set_option maxRecDepth 20000 in
theorem se_X8_rule : Cond.selects yX8_rule.cls yX8_rule yX8_rule ∈ am_TB := am_in 1052 (by decide +kernel) rfl
set_option maxRecDepth 20000 in
theorem nm_X8_rule : yX8_rule.cls ≠ "java/lang/invoke/MethodHandle" ∧ yX8_rule.cls ≠ "java/lang/invoke/VarHandle" ∧ (parseMethodDescriptor yX8_rule.desc).map (fun d => d.parameters.length) = some 2 := by decide +kernel
set_option maxRecDepth 20000 in
theorem ml_L_110 : am_ml RL 110 yX8_rule cX8_rule 5 (some .int) 2 := ⟨am_in 1050 (by decide +kernel) rfl, iw_X8, cw_X8_rule, nm_X8_rule.1, nm_X8_rule.2.1, nm_X8_rule.2.2, by decide⟩
set_option maxRecDepth 20000 in
theorem cw_X7_lasts : Cond.code yX7_lasts cX7_lasts 2 (some .int) ∈ am_TB := am_in 616 (by decide +kernel) rfl
set_option maxRecDepth 20000 in
theorem im_X7_lasts : Cond.instanceMethod yX7_lasts ∈ am_TB := am_in 614 (by decide +kernel) rfl
set_option maxRecDepth 20000 in
theorem se_X7_lasts : Cond.selects yX7_lasts.cls yX7_lasts yX7_lasts ∈ am_TB := am_in 615 (by decide +kernel) rfl
set_option maxRecDepth 20000 in
theorem nm_X7_lasts : yX7_lasts.cls ≠ "java/lang/invoke/MethodHandle" ∧ yX7_lasts.cls ≠ "java/lang/invoke/VarHandle" ∧ (parseMethodDescriptor yX7_lasts.desc).map (fun d => d.parameters.length) = some 1 := by decide +kernel
set_option maxRecDepth 20000 in
theorem ml_L_111 : am_ml RL 111 yX7_lasts cX7_lasts 2 (some .int) 1 := ⟨am_in 613 (by decide +kernel) rfl, iw_X7, cw_X7_lasts, nm_X7_lasts.1, nm_X7_lasts.2.1, nm_X7_lasts.2.2, by decide⟩
set_option maxRecDepth 20000 in
theorem cw_X8_lasts : Cond.code yX8_lasts cX8_lasts 2 (some .int) ∈ am_TB := am_in 1057 (by decide +kernel) rfl
set_option maxRecDepth 20000 in
theorem im_X8_lasts : Cond.instanceMethod yX8_lasts ∈ am_TB := am_in 1055 (by decide +kernel) rfl
set_option maxRecDepth 20000 in
theorem se_X8_lasts : Cond.selects yX8_lasts.cls yX8_lasts yX8_lasts ∈ am_TB := am_in 1056 (by decide +kernel) rfl
set_option maxRecDepth 20000 in
theorem nm_X8_lasts : yX8_lasts.cls ≠ "java/lang/invoke/MethodHandle" ∧ yX8_lasts.cls ≠ "java/lang/invoke/VarHandle" ∧ (parseMethodDescriptor yX8_lasts.desc).map (fun d => d.parameters.length) = some 1 := by decide +kernel
set_option maxRecDepth 20000 in
theorem ml_L_114 : am_ml RL 114 yX8_lasts cX8_lasts 2 (some .int) 1 := ⟨am_in 1054 (by decide +kernel) rfl, iw_X8, cw_X8_lasts, nm_X8_lasts.1, nm_X8_lasts.2.1, nm_X8_lasts.2.2, by decide⟩
set_option maxRecDepth 20000 in
theorem cw_X7_kept : Cond.code yX7_kept cX7_kept 3 (some .int) ∈ am_TB := am_in 624 (by decide +kernel) rfl
set_option maxRecDepth 20000 in
theorem im_X7_kept : Cond.instanceMethod yX7_kept ∈ am_TB := am_in 622 (by decide +kernel) rfl
set_option maxRecDepth 20000 in
theorem se_X7_kept : Cond.selects yX7_kept.cls yX7_kept yX7_kept ∈ am_TB := am_in 623 (by decide +kernel) rfl
set_option maxRecDepth 20000 in
theorem nm_X7_kept : yX7_kept.cls ≠ "java/lang/invoke/MethodHandle" ∧ yX7_kept.cls ≠ "java/lang/invoke/VarHandle" ∧ (parseMethodDescriptor yX7_kept.desc).map (fun d => d.parameters.length) = some 2 := by decide +kernel
set_option maxRecDepth 20000 in
theorem ml_L_115 : am_ml RL 115 yX7_kept cX7_kept 3 (some .int) 2 := ⟨am_in 621 (by decide +kernel) rfl, iw_X7, cw_X7_kept, nm_X7_kept.1, nm_X7_kept.2.1, nm_X7_kept.2.2, by decide⟩
set_option maxRecDepth 20000 in
theorem cw_X8_kept : Cond.code yX8_kept cX8_kept 4 (some .int) ∈ am_TB := am_in 1065 (by decide +kernel) rfl
set_option maxRecDepth 20000 in
theorem im_X8_kept : Cond.instanceMethod yX8_kept ∈ am_TB := am_in 1063 (by decide +kernel) rfl
set_option maxRecDepth 20000 in
theorem se_X8_kept : Cond.selects yX8_kept.cls yX8_kept yX8_kept ∈ am_TB := am_in 1064 (by decide +kernel) rfl
set_option maxRecDepth 20000 in
theorem nm_X8_kept : yX8_kept.cls ≠ "java/lang/invoke/MethodHandle" ∧ yX8_kept.cls ≠ "java/lang/invoke/VarHandle" ∧ (parseMethodDescriptor yX8_kept.desc).map (fun d => d.parameters.length) = some 2 := by decide +kernel
set_option maxRecDepth 20000 in
theorem ml_L_118 : am_ml RL 118 yX8_kept cX8_kept 4 (some .int) 2 := ⟨am_in 1062 (by decide +kernel) rfl, iw_X8, cw_X8_kept, nm_X8_kept.1, nm_X8_kept.2.1, nm_X8_kept.2.2, by decide⟩
set_option maxRecDepth 20000 in
theorem cw_X7_turned : Cond.code yX7_turned cX7_turned 8 (some .long) ∈ am_TB := am_in 633 (by decide +kernel) rfl
set_option maxRecDepth 20000 in
theorem im_X7_turned : Cond.instanceMethod yX7_turned ∈ am_TB := am_in 631 (by decide +kernel) rfl
set_option maxRecDepth 20000 in
theorem se_X7_turned : Cond.selects yX7_turned.cls yX7_turned yX7_turned ∈ am_TB := am_in 632 (by decide +kernel) rfl
set_option maxRecDepth 20000 in
theorem nm_X7_turned : yX7_turned.cls ≠ "java/lang/invoke/MethodHandle" ∧ yX7_turned.cls ≠ "java/lang/invoke/VarHandle" ∧ (parseMethodDescriptor yX7_turned.desc).map (fun d => d.parameters.length) = some 5 := by decide +kernel
set_option maxRecDepth 20000 in
theorem ml_L_119 : am_ml RL 119 yX7_turned cX7_turned 8 (some .long) 5 := ⟨am_in 630 (by decide +kernel) rfl, iw_X7, cw_X7_turned, nm_X7_turned.1, nm_X7_turned.2.1, nm_X7_turned.2.2, by decide⟩
set_option maxRecDepth 20000 in
theorem cw_X8_turned : Cond.code yX8_turned cX8_turned 16 (some .long) ∈ am_TB := am_in 1069 (by decide +kernel) rfl
set_option maxRecDepth 20000 in
theorem im_X8_turned : Cond.instanceMethod yX8_turned ∈ am_TB := am_in 1067 (by decide +kernel) rfl
set_option maxRecDepth 20000 in
theorem se_X8_turned : Cond.selects yX8_turned.cls yX8_turned yX8_turned ∈ am_TB := am_in 1068 (by decide +kernel) rfl
set_option maxRecDepth 20000 in
theorem nm_X8_turned : yX8_turned.cls ≠ "java/lang/invoke/MethodHandle" ∧ yX8_turned.cls ≠ "java/lang/invoke/VarHandle" ∧ (parseMethodDescriptor yX8_turned.desc).map (fun d => d.parameters.length) = some 5 := by decide +kernel
set_option maxRecDepth 20000 in
theorem ml_L_123 : am_ml RL 123 yX8_turned cX8_turned 16 (some .long) 5 := ⟨am_in 1066 (by decide +kernel) rfl, iw_X8, cw_X8_turned, nm_X8_turned.1, nm_X8_turned.2.1, nm_X8_turned.2.2, by decide⟩
set_option maxRecDepth 20000 in
theorem cw_X7_drawn : Cond.code yX7_drawn cX7_drawn 5 (some .int) ∈ am_TB := am_in 654 (by decide +kernel) rfl
set_option maxRecDepth 20000 in
theorem im_X7_drawn : Cond.instanceMethod yX7_drawn ∈ am_TB := am_in 652 (by decide +kernel) rfl
set_option maxRecDepth 20000 in
theorem se_X7_drawn : Cond.selects yX7_drawn.cls yX7_drawn yX7_drawn ∈ am_TB := am_in 653 (by decide +kernel) rfl
set_option maxRecDepth 20000 in
theorem nm_X7_drawn : yX7_drawn.cls ≠ "java/lang/invoke/MethodHandle" ∧ yX7_drawn.cls ≠ "java/lang/invoke/VarHandle" ∧ (parseMethodDescriptor yX7_drawn.desc).map (fun d => d.parameters.length) = some 3 := by decide +kernel
set_option maxRecDepth 20000 in
theorem ml_L_124 : am_ml RL 124 yX7_drawn cX7_drawn 5 (some .int) 3 := ⟨am_in 651 (by decide +kernel) rfl, iw_X7, cw_X7_drawn, nm_X7_drawn.1, nm_X7_drawn.2.1, nm_X7_drawn.2.2, by decide⟩
set_option maxRecDepth 20000 in
theorem cw_X8_drawn : Cond.code yX8_drawn cX8_drawn 10 (some .int) ∈ am_TB := am_in 1076 (by decide +kernel) rfl
set_option maxRecDepth 20000 in
theorem im_X8_drawn : Cond.instanceMethod yX8_drawn ∈ am_TB := am_in 1074 (by decide +kernel) rfl
set_option maxRecDepth 20000 in
theorem se_X8_drawn : Cond.selects yX8_drawn.cls yX8_drawn yX8_drawn ∈ am_TB := am_in 1075 (by decide +kernel) rfl
set_option maxRecDepth 20000 in
theorem nm_X8_drawn : yX8_drawn.cls ≠ "java/lang/invoke/MethodHandle" ∧ yX8_drawn.cls ≠ "java/lang/invoke/VarHandle" ∧ (parseMethodDescriptor yX8_drawn.desc).map (fun d => d.parameters.length) = some 3 := by decide +kernel
set_option maxRecDepth 20000 in
theorem ml_L_127 : am_ml RL 127 yX8_drawn cX8_drawn 10 (some .int) 3 := ⟨am_in 1073 (by decide +kernel) rfl, iw_X8, cw_X8_drawn, nm_X8_drawn.1, nm_X8_drawn.2.1, nm_X8_drawn.2.2, by decide⟩
set_option maxRecDepth 20000 in
theorem cw_X7_image : Cond.code yX7_image cX7_image 2 (some .int) ∈ am_TB := am_in 671 (by decide +kernel) rfl
set_option maxRecDepth 20000 in
theorem im_X7_image : Cond.instanceMethod yX7_image ∈ am_TB := am_in 669 (by decide +kernel) rfl
set_option maxRecDepth 20000 in
theorem se_X7_image : Cond.selects yX7_image.cls yX7_image yX7_image ∈ am_TB := am_in 670 (by decide +kernel) rfl
set_option maxRecDepth 20000 in
theorem nm_X7_image : yX7_image.cls ≠ "java/lang/invoke/MethodHandle" ∧ yX7_image.cls ≠ "java/lang/invoke/VarHandle" ∧ (parseMethodDescriptor yX7_image.desc).map (fun d => d.parameters.length) = some 1 := by decide +kernel
set_option maxRecDepth 20000 in
theorem ml_L_128 : am_ml RL 128 yX7_image cX7_image 2 (some .int) 1 := ⟨am_in 668 (by decide +kernel) rfl, iw_X7, cw_X7_image, nm_X7_image.1, nm_X7_image.2.1, nm_X7_image.2.2, by decide⟩
set_option maxRecDepth 20000 in
theorem cw_X8_image : Cond.code yX8_image cX8_image 2 (some .int) ∈ am_TB := am_in 1083 (by decide +kernel) rfl
set_option maxRecDepth 20000 in
theorem im_X8_image : Cond.instanceMethod yX8_image ∈ am_TB := am_in 1081 (by decide +kernel) rfl
set_option maxRecDepth 20000 in
theorem se_X8_image : Cond.selects yX8_image.cls yX8_image yX8_image ∈ am_TB := am_in 1082 (by decide +kernel) rfl
set_option maxRecDepth 20000 in
theorem nm_X8_image : yX8_image.cls ≠ "java/lang/invoke/MethodHandle" ∧ yX8_image.cls ≠ "java/lang/invoke/VarHandle" ∧ (parseMethodDescriptor yX8_image.desc).map (fun d => d.parameters.length) = some 1 := by decide +kernel
set_option maxRecDepth 20000 in
theorem ml_L_131 : am_ml RL 131 yX8_image cX8_image 2 (some .int) 1 := ⟨am_in 1080 (by decide +kernel) rfl, iw_X8, cw_X8_image, nm_X8_image.1, nm_X8_image.2.1, nm_X8_image.2.2, by decide⟩
set_option maxRecDepth 20000 in
theorem cw_X7_restore : Cond.code yX7_restore cX7_restore 2 (some .int) ∈ am_TB := am_in 675 (by decide +kernel) rfl
set_option maxRecDepth 20000 in
theorem im_X7_restore : Cond.instanceMethod yX7_restore ∈ am_TB := am_in 673 (by decide +kernel) rfl
set_option maxRecDepth 20000 in
theorem se_X7_restore : Cond.selects yX7_restore.cls yX7_restore yX7_restore ∈ am_TB := am_in 674 (by decide +kernel) rfl
set_option maxRecDepth 20000 in
theorem nm_X7_restore : yX7_restore.cls ≠ "java/lang/invoke/MethodHandle" ∧ yX7_restore.cls ≠ "java/lang/invoke/VarHandle" ∧ (parseMethodDescriptor yX7_restore.desc).map (fun d => d.parameters.length) = some 1 := by decide +kernel
set_option maxRecDepth 20000 in
theorem ml_L_132 : am_ml RL 132 yX7_restore cX7_restore 2 (some .int) 1 := ⟨am_in 672 (by decide +kernel) rfl, iw_X7, cw_X7_restore, nm_X7_restore.1, nm_X7_restore.2.1, nm_X7_restore.2.2, by decide⟩
set_option maxRecDepth 20000 in
theorem cw_X8_restore : Cond.code yX8_restore cX8_restore 2 (some .int) ∈ am_TB := am_in 1087 (by decide +kernel) rfl
set_option maxRecDepth 20000 in
theorem im_X8_restore : Cond.instanceMethod yX8_restore ∈ am_TB := am_in 1085 (by decide +kernel) rfl
set_option maxRecDepth 20000 in
theorem se_X8_restore : Cond.selects yX8_restore.cls yX8_restore yX8_restore ∈ am_TB := am_in 1086 (by decide +kernel) rfl
set_option maxRecDepth 20000 in
theorem nm_X8_restore : yX8_restore.cls ≠ "java/lang/invoke/MethodHandle" ∧ yX8_restore.cls ≠ "java/lang/invoke/VarHandle" ∧ (parseMethodDescriptor yX8_restore.desc).map (fun d => d.parameters.length) = some 1 := by decide +kernel
set_option maxRecDepth 20000 in
theorem ml_L_135 : am_ml RL 135 yX8_restore cX8_restore 2 (some .int) 1 := ⟨am_in 1084 (by decide +kernel) rfl, iw_X8, cw_X8_restore, nm_X8_restore.1, nm_X8_restore.2.1, nm_X8_restore.2.2, by decide⟩
set_option maxRecDepth 20000 in
theorem cw_X7_kind : Cond.code yX7_kind cX7_kind 2 (some .int) ∈ am_TB := am_in 679 (by decide +kernel) rfl
set_option maxRecDepth 20000 in
theorem im_X7_kind : Cond.instanceMethod yX7_kind ∈ am_TB := am_in 677 (by decide +kernel) rfl
set_option maxRecDepth 20000 in
theorem se_X7_kind : Cond.selects yX7_kind.cls yX7_kind yX7_kind ∈ am_TB := am_in 678 (by decide +kernel) rfl
set_option maxRecDepth 20000 in
theorem nm_X7_kind : yX7_kind.cls ≠ "java/lang/invoke/MethodHandle" ∧ yX7_kind.cls ≠ "java/lang/invoke/VarHandle" ∧ (parseMethodDescriptor yX7_kind.desc).map (fun d => d.parameters.length) = some 1 := by decide +kernel
set_option maxRecDepth 20000 in
theorem ml_L_136 : am_ml RL 136 yX7_kind cX7_kind 2 (some .int) 1 := ⟨am_in 676 (by decide +kernel) rfl, iw_X7, cw_X7_kind, nm_X7_kind.1, nm_X7_kind.2.1, nm_X7_kind.2.2, by decide⟩
set_option maxRecDepth 20000 in
theorem cw_X8_kind : Cond.code yX8_kind cX8_kind 2 (some .int) ∈ am_TB := am_in 1091 (by decide +kernel) rfl
set_option maxRecDepth 20000 in
theorem im_X8_kind : Cond.instanceMethod yX8_kind ∈ am_TB := am_in 1089 (by decide +kernel) rfl
set_option maxRecDepth 20000 in
theorem se_X8_kind : Cond.selects yX8_kind.cls yX8_kind yX8_kind ∈ am_TB := am_in 1090 (by decide +kernel) rfl
set_option maxRecDepth 20000 in
theorem nm_X8_kind : yX8_kind.cls ≠ "java/lang/invoke/MethodHandle" ∧ yX8_kind.cls ≠ "java/lang/invoke/VarHandle" ∧ (parseMethodDescriptor yX8_kind.desc).map (fun d => d.parameters.length) = some 1 := by decide +kernel
set_option maxRecDepth 20000 in
theorem ml_L_139 : am_ml RL 139 yX8_kind cX8_kind 2 (some .int) 1 := ⟨am_in 1088 (by decide +kernel) rfl, iw_X8, cw_X8_kind, nm_X8_kind.1, nm_X8_kind.2.1, nm_X8_kind.2.2, by decide⟩
set_option maxRecDepth 20000 in
theorem cw_X7_as : Cond.code yX7_as cX7_as 3 (some .int) ∈ am_TB := am_in 683 (by decide +kernel) rfl
set_option maxRecDepth 20000 in
theorem im_X7_as : Cond.instanceMethod yX7_as ∈ am_TB := am_in 681 (by decide +kernel) rfl
set_option maxRecDepth 20000 in
theorem se_X7_as : Cond.selects yX7_as.cls yX7_as yX7_as ∈ am_TB := am_in 682 (by decide +kernel) rfl
set_option maxRecDepth 20000 in
theorem nm_X7_as : yX7_as.cls ≠ "java/lang/invoke/MethodHandle" ∧ yX7_as.cls ≠ "java/lang/invoke/VarHandle" ∧ (parseMethodDescriptor yX7_as.desc).map (fun d => d.parameters.length) = some 2 := by decide +kernel
set_option maxRecDepth 20000 in
theorem ml_L_140 : am_ml RL 140 yX7_as cX7_as 3 (some .int) 2 := ⟨am_in 680 (by decide +kernel) rfl, iw_X7, cw_X7_as, nm_X7_as.1, nm_X7_as.2.1, nm_X7_as.2.2, by decide⟩
set_option maxRecDepth 20000 in
theorem cw_X8_as : Cond.code yX8_as cX8_as 3 (some .int) ∈ am_TB := am_in 1095 (by decide +kernel) rfl
set_option maxRecDepth 20000 in
theorem im_X8_as : Cond.instanceMethod yX8_as ∈ am_TB := am_in 1093 (by decide +kernel) rfl
set_option maxRecDepth 20000 in
theorem se_X8_as : Cond.selects yX8_as.cls yX8_as yX8_as ∈ am_TB := am_in 1094 (by decide +kernel) rfl
set_option maxRecDepth 20000 in
theorem nm_X8_as : yX8_as.cls ≠ "java/lang/invoke/MethodHandle" ∧ yX8_as.cls ≠ "java/lang/invoke/VarHandle" ∧ (parseMethodDescriptor yX8_as.desc).map (fun d => d.parameters.length) = some 2 := by decide +kernel
set_option maxRecDepth 20000 in
theorem ml_L_143 : am_ml RL 143 yX8_as cX8_as 3 (some .int) 2 := ⟨am_in 1092 (by decide +kernel) rfl, iw_X8, cw_X8_as, nm_X8_as.1, nm_X8_as.2.1, nm_X8_as.2.2, by decide⟩
set_option maxRecDepth 20000 in
theorem cw_X7_ask : Cond.code yX7_ask cX7_ask 3 (some .int) ∈ am_TB := am_in 695 (by decide +kernel) rfl
set_option maxRecDepth 20000 in
theorem im_X7_ask : Cond.instanceMethod yX7_ask ∈ am_TB := am_in 693 (by decide +kernel) rfl
set_option maxRecDepth 20000 in
theorem se_X7_ask : Cond.selects yX7_ask.cls yX7_ask yX7_ask ∈ am_TB := am_in 694 (by decide +kernel) rfl
set_option maxRecDepth 20000 in
theorem nm_X7_ask : yX7_ask.cls ≠ "java/lang/invoke/MethodHandle" ∧ yX7_ask.cls ≠ "java/lang/invoke/VarHandle" ∧ (parseMethodDescriptor yX7_ask.desc).map (fun d => d.parameters.length) = some 2 := by decide +kernel
set_option maxRecDepth 20000 in
theorem ml_L_144 : am_ml RL 144 yX7_ask cX7_ask 3 (some .int) 2 := ⟨am_in 692 (by decide +kernel) rfl, iw_X7, cw_X7_ask, nm_X7_ask.1, nm_X7_ask.2.1, nm_X7_ask.2.2, by decide⟩
set_option maxRecDepth 20000 in
theorem cw_X8_ask : Cond.code yX8_ask cX8_ask 5 (some .int) ∈ am_TB := am_in 1102 (by decide +kernel) rfl
set_option maxRecDepth 20000 in
theorem im_X8_ask : Cond.instanceMethod yX8_ask ∈ am_TB := am_in 1100 (by decide +kernel) rfl
set_option maxRecDepth 20000 in
theorem se_X8_ask : Cond.selects yX8_ask.cls yX8_ask yX8_ask ∈ am_TB := am_in 1101 (by decide +kernel) rfl
set_option maxRecDepth 20000 in
theorem nm_X8_ask : yX8_ask.cls ≠ "java/lang/invoke/MethodHandle" ∧ yX8_ask.cls ≠ "java/lang/invoke/VarHandle" ∧ (parseMethodDescriptor yX8_ask.desc).map (fun d => d.parameters.length) = some 2 := by decide +kernel
set_option maxRecDepth 20000 in
theorem ml_L_147 : am_ml RL 147 yX8_ask cX8_ask 5 (some .int) 2 := ⟨am_in 1099 (by decide +kernel) rfl, iw_X8, cw_X8_ask, nm_X8_ask.1, nm_X8_ask.2.1, nm_X8_ask.2.2, by decide⟩
set_option maxRecDepth 20000 in
theorem cw_X7_trace : Cond.code yX7_trace cX7_trace 2 (some .int) ∈ am_TB := am_in 723 (by decide +kernel) rfl
set_option maxRecDepth 20000 in
theorem im_X7_trace : Cond.instanceMethod yX7_trace ∈ am_TB := am_in 721 (by decide +kernel) rfl
set_option maxRecDepth 20000 in
theorem se_X7_trace : Cond.selects yX7_trace.cls yX7_trace yX7_trace ∈ am_TB := am_in 722 (by decide +kernel) rfl
set_option maxRecDepth 20000 in
theorem nm_X7_trace : yX7_trace.cls ≠ "java/lang/invoke/MethodHandle" ∧ yX7_trace.cls ≠ "java/lang/invoke/VarHandle" ∧ (parseMethodDescriptor yX7_trace.desc).map (fun d => d.parameters.length) = some 1 := by decide +kernel
set_option maxRecDepth 20000 in
theorem ml_L_148 : am_ml RL 148 yX7_trace cX7_trace 2 (some .int) 1 := ⟨am_in 720 (by decide +kernel) rfl, iw_X7, cw_X7_trace, nm_X7_trace.1, nm_X7_trace.2.1, nm_X7_trace.2.2, by decide⟩
set_option maxRecDepth 20000 in
theorem cw_X8_trace : Cond.code yX8_trace cX8_trace 2 (some .int) ∈ am_TB := am_in 1127 (by decide +kernel) rfl
set_option maxRecDepth 20000 in
theorem im_X8_trace : Cond.instanceMethod yX8_trace ∈ am_TB := am_in 1125 (by decide +kernel) rfl
set_option maxRecDepth 20000 in
theorem se_X8_trace : Cond.selects yX8_trace.cls yX8_trace yX8_trace ∈ am_TB := am_in 1126 (by decide +kernel) rfl
set_option maxRecDepth 20000 in
theorem nm_X8_trace : yX8_trace.cls ≠ "java/lang/invoke/MethodHandle" ∧ yX8_trace.cls ≠ "java/lang/invoke/VarHandle" ∧ (parseMethodDescriptor yX8_trace.desc).map (fun d => d.parameters.length) = some 1 := by decide +kernel
set_option maxRecDepth 20000 in
theorem ml_L_151 : am_ml RL 151 yX8_trace cX8_trace 2 (some .int) 1 := ⟨am_in 1124 (by decide +kernel) rfl, iw_X8, cw_X8_trace, nm_X8_trace.1, nm_X8_trace.2.1, nm_X8_trace.2.2, by decide⟩
set_option maxRecDepth 20000 in
theorem cw_X7_count : Cond.code yX7_count cX7_count 2 (some .int) ∈ am_TB := am_in 727 (by decide +kernel) rfl
set_option maxRecDepth 20000 in
theorem im_X7_count : Cond.instanceMethod yX7_count ∈ am_TB := am_in 725 (by decide +kernel) rfl
set_option maxRecDepth 20000 in
theorem se_X7_count : Cond.selects yX7_count.cls yX7_count yX7_count ∈ am_TB := am_in 726 (by decide +kernel) rfl
set_option maxRecDepth 20000 in
theorem nm_X7_count : yX7_count.cls ≠ "java/lang/invoke/MethodHandle" ∧ yX7_count.cls ≠ "java/lang/invoke/VarHandle" ∧ (parseMethodDescriptor yX7_count.desc).map (fun d => d.parameters.length) = some 1 := by decide +kernel
set_option maxRecDepth 20000 in
theorem ml_L_152 : am_ml RL 152 yX7_count cX7_count 2 (some .int) 1 := ⟨am_in 724 (by decide +kernel) rfl, iw_X7, cw_X7_count, nm_X7_count.1, nm_X7_count.2.1, nm_X7_count.2.2, by decide⟩
set_option maxRecDepth 20000 in
theorem cw_X8_count : Cond.code yX8_count cX8_count 5 (some .int) ∈ am_TB := am_in 1131 (by decide +kernel) rfl
set_option maxRecDepth 20000 in
theorem im_X8_count : Cond.instanceMethod yX8_count ∈ am_TB := am_in 1129 (by decide +kernel) rfl
set_option maxRecDepth 20000 in
theorem se_X8_count : Cond.selects yX8_count.cls yX8_count yX8_count ∈ am_TB := am_in 1130 (by decide +kernel) rfl
set_option maxRecDepth 20000 in
theorem nm_X8_count : yX8_count.cls ≠ "java/lang/invoke/MethodHandle" ∧ yX8_count.cls ≠ "java/lang/invoke/VarHandle" ∧ (parseMethodDescriptor yX8_count.desc).map (fun d => d.parameters.length) = some 1 := by decide +kernel
set_option maxRecDepth 20000 in
theorem ml_L_155 : am_ml RL 155 yX8_count cX8_count 5 (some .int) 1 := ⟨am_in 1128 (by decide +kernel) rfl, iw_X8, cw_X8_count, nm_X8_count.1, nm_X8_count.2.1, nm_X8_count.2.2, by decide⟩
set_option maxRecDepth 20000 in
theorem cw_X7_status : Cond.code yX7_status cX7_status 1 (some .int) ∈ am_TB := am_in 739 (by decide +kernel) rfl
set_option maxRecDepth 20000 in
theorem im_X7_status : Cond.instanceMethod yX7_status ∈ am_TB := am_in 737 (by decide +kernel) rfl
set_option maxRecDepth 20000 in
theorem se_X7_status : Cond.selects yX7_status.cls yX7_status yX7_status ∈ am_TB := am_in 738 (by decide +kernel) rfl
set_option maxRecDepth 20000 in
theorem nm_X7_status : yX7_status.cls ≠ "java/lang/invoke/MethodHandle" ∧ yX7_status.cls ≠ "java/lang/invoke/VarHandle" ∧ (parseMethodDescriptor yX7_status.desc).map (fun d => d.parameters.length) = some 0 := by decide +kernel
set_option maxRecDepth 20000 in
theorem ml_L_156 : am_ml RL 156 yX7_status cX7_status 1 (some .int) 0 := ⟨am_in 736 (by decide +kernel) rfl, iw_X7, cw_X7_status, nm_X7_status.1, nm_X7_status.2.1, nm_X7_status.2.2, by decide⟩
set_option maxRecDepth 20000 in
theorem cw_X8_status : Cond.code yX8_status cX8_status 1 (some .int) ∈ am_TB := am_in 1135 (by decide +kernel) rfl
set_option maxRecDepth 20000 in
theorem im_X8_status : Cond.instanceMethod yX8_status ∈ am_TB := am_in 1133 (by decide +kernel) rfl
set_option maxRecDepth 20000 in
theorem se_X8_status : Cond.selects yX8_status.cls yX8_status yX8_status ∈ am_TB := am_in 1134 (by decide +kernel) rfl
set_option maxRecDepth 20000 in
theorem nm_X8_status : yX8_status.cls ≠ "java/lang/invoke/MethodHandle" ∧ yX8_status.cls ≠ "java/lang/invoke/VarHandle" ∧ (parseMethodDescriptor yX8_status.desc).map (fun d => d.parameters.length) = some 0 := by decide +kernel
set_option maxRecDepth 20000 in
theorem ml_L_159 : am_ml RL 159 yX8_status cX8_status 1 (some .int) 0 := ⟨am_in 1132 (by decide +kernel) rfl, iw_X8, cw_X8_status, nm_X8_status.1, nm_X8_status.2.1, nm_X8_status.2.2, by decide⟩
set_option maxRecDepth 20000 in
theorem lk_X0_1 : Cond.methodLink RX0 1 objectInit ∈ am_TB := am_in 167 (by decide +kernel) rfl
set_option maxRecDepth 20000 in
theorem cw_X5_become : Cond.code yX5_become cX5_become 2 none ∈ am_TB := am_in 378 (by decide +kernel) rfl
set_option maxRecDepth 20000 in
theorem im_X5_become : Cond.instanceMethod yX5_become ∈ am_TB := am_in 376 (by decide +kernel) rfl
set_option maxRecDepth 20000 in
theorem se_X5_become : Cond.selects yX5_become.cls yX5_become yX5_become ∈ am_TB := am_in 377 (by decide +kernel) rfl
set_option maxRecDepth 20000 in
theorem nm_X5_become : yX5_become.cls ≠ "java/lang/invoke/MethodHandle" ∧ yX5_become.cls ≠ "java/lang/invoke/VarHandle" ∧ (parseMethodDescriptor yX5_become.desc).map (fun d => d.parameters.length) = some 1 := by decide +kernel
set_option maxRecDepth 20000 in
theorem ml_X0_23 : am_ml RX0 23 yX5_become cX5_become 2 none 1 := ⟨am_in 397 (by decide +kernel) rfl, iw_X5, cw_X5_become, nm_X5_become.1, nm_X5_become.2.1, nm_X5_become.2.2, by decide⟩
set_option maxRecDepth 20000 in
theorem lk_X0_27 : Cond.methodLink RX0 27 Lib.Math.min.name ∈ am_TB := am_in 411 (by decide +kernel) rfl
set_option maxRecDepth 20000 in
theorem lk_X1_1 : Cond.methodLink RX1 1 objectInit ∈ am_TB := am_in 216 (by decide +kernel) rfl
set_option maxRecDepth 20000 in
theorem cw_X1_bodyFor : Cond.code yX1_bodyFor cX1_bodyFor 5 (some .int) ∈ am_TB := am_in 703 (by decide +kernel) rfl
set_option maxRecDepth 20000 in
theorem im_X1_bodyFor : Cond.instanceMethod yX1_bodyFor ∈ am_TB := am_in 702 (by decide +kernel) rfl
set_option maxRecDepth 20000 in
theorem se_X1_bodyFor : Cond.selects yX1_bodyFor.cls yX1_bodyFor yX1_bodyFor ∈ am_TB := am_in 16 (by decide +kernel) rfl
set_option maxRecDepth 20000 in
theorem nm_X1_bodyFor : yX1_bodyFor.cls ≠ "java/lang/invoke/MethodHandle" ∧ yX1_bodyFor.cls ≠ "java/lang/invoke/VarHandle" ∧ (parseMethodDescriptor yX1_bodyFor.desc).map (fun d => d.parameters.length) = some 2 := by decide +kernel
set_option maxRecDepth 20000 in
theorem ml_X1_21 : am_ml RX1 21 yX1_bodyFor cX1_bodyFor 5 (some .int) 2 := ⟨am_in 700 (by decide +kernel) rfl, iw_X1, cw_X1_bodyFor, nm_X1_bodyFor.1, nm_X1_bodyFor.2.1, nm_X1_bodyFor.2.2, by decide⟩
set_option maxRecDepth 20000 in
theorem cw_X1_give : Cond.code yX1_give cX1_give 5 (some .int) ∈ am_TB := am_in 715 (by decide +kernel) rfl
set_option maxRecDepth 20000 in
theorem im_X1_give : Cond.instanceMethod yX1_give ∈ am_TB := am_in 714 (by decide +kernel) rfl
set_option maxRecDepth 20000 in
theorem se_X1_give : Cond.selects yX1_give.cls yX1_give yX1_give ∈ am_TB := am_in 17 (by decide +kernel) rfl
set_option maxRecDepth 20000 in
theorem nm_X1_give : yX1_give.cls ≠ "java/lang/invoke/MethodHandle" ∧ yX1_give.cls ≠ "java/lang/invoke/VarHandle" ∧ (parseMethodDescriptor yX1_give.desc).map (fun d => d.parameters.length) = some 3 := by decide +kernel
set_option maxRecDepth 20000 in
theorem ml_X1_25 : am_ml RX1 25 yX1_give cX1_give 5 (some .int) 3 := ⟨am_in 712 (by decide +kernel) rfl, iw_X1, cw_X1_give, nm_X1_give.1, nm_X1_give.2.1, nm_X1_give.2.2, by decide⟩
set_option maxRecDepth 20000 in
theorem cw_X1_toldBody : Cond.code yX1_toldBody cX1_toldBody 2 (some .int) ∈ am_TB := am_in 706 (by decide +kernel) rfl
set_option maxRecDepth 20000 in
theorem st_X1_toldBody : Cond.static yX1_toldBody ∈ am_TB := am_in 705 (by decide +kernel) rfl
set_option maxRecDepth 20000 in
theorem nm_X1_toldBody : yX1_toldBody.cls ≠ "java/lang/invoke/MethodHandle" ∧ yX1_toldBody.cls ≠ "java/lang/invoke/VarHandle" ∧ (parseMethodDescriptor yX1_toldBody.desc).map (fun d => d.parameters.length) = some 2 := by decide +kernel
set_option maxRecDepth 20000 in
theorem ml_X1_36 : am_ml RX1 36 yX1_toldBody cX1_toldBody 2 (some .int) 2 := ⟨am_in 704 (by decide +kernel) rfl, iw_X1, cw_X1_toldBody, nm_X1_toldBody.1, nm_X1_toldBody.2.1, nm_X1_toldBody.2.2, by decide⟩
set_option maxRecDepth 20000 in
theorem cw_X3_nearest : Cond.code yX3_nearest cX3_nearest 1 (some .int) ∈ am_TB := am_in 689 (by decide +kernel) rfl
set_option maxRecDepth 20000 in
theorem st_X3_nearest : Cond.static yX3_nearest ∈ am_TB := am_in 688 (by decide +kernel) rfl
set_option maxRecDepth 20000 in
theorem nm_X3_nearest : yX3_nearest.cls ≠ "java/lang/invoke/MethodHandle" ∧ yX3_nearest.cls ≠ "java/lang/invoke/VarHandle" ∧ (parseMethodDescriptor yX3_nearest.desc).map (fun d => d.parameters.length) = some 1 := by decide +kernel
set_option maxRecDepth 20000 in
theorem ml_X1_39 : am_ml RX1 39 yX3_nearest cX3_nearest 1 (some .int) 1 := ⟨am_in 711 (by decide +kernel) rfl, iw_X3, cw_X3_nearest, nm_X3_nearest.1, nm_X3_nearest.2.1, nm_X3_nearest.2.2, by decide⟩
set_option maxRecDepth 20000 in
theorem cw_X1_leave : Cond.code yX1_leave cX1_leave 2 none ∈ am_TB := am_in 719 (by decide +kernel) rfl
set_option maxRecDepth 20000 in
theorem im_X1_leave : Cond.instanceMethod yX1_leave ∈ am_TB := am_in 718 (by decide +kernel) rfl
set_option maxRecDepth 20000 in
theorem se_X1_leave : Cond.selects yX1_leave.cls yX1_leave yX1_leave ∈ am_TB := am_in 18 (by decide +kernel) rfl
set_option maxRecDepth 20000 in
theorem nm_X1_leave : yX1_leave.cls ≠ "java/lang/invoke/MethodHandle" ∧ yX1_leave.cls ≠ "java/lang/invoke/VarHandle" ∧ (parseMethodDescriptor yX1_leave.desc).map (fun d => d.parameters.length) = some 1 := by decide +kernel
set_option maxRecDepth 20000 in
theorem ml_X1_49 : am_ml RX1 49 yX1_leave cX1_leave 2 none 1 := ⟨am_in 716 (by decide +kernel) rfl, iw_X1, cw_X1_leave, nm_X1_leave.1, nm_X1_leave.2.1, nm_X1_leave.2.2, by decide⟩
set_option maxRecDepth 20000 in
theorem lk_X2_7 : Cond.methodLink RX2 7 objectInit ∈ am_TB := am_in 187 (by decide +kernel) rfl
set_option maxRecDepth 20000 in
theorem cw_X5_sunk : Cond.code yX5_sunk cX5_sunk 2 (some .int) ∈ am_TB := am_in 421 (by decide +kernel) rfl
set_option maxRecDepth 20000 in
theorem im_X5_sunk : Cond.instanceMethod yX5_sunk ∈ am_TB := am_in 419 (by decide +kernel) rfl
set_option maxRecDepth 20000 in
theorem se_X5_sunk : Cond.selects yX5_sunk.cls yX5_sunk yX5_sunk ∈ am_TB := am_in 420 (by decide +kernel) rfl
set_option maxRecDepth 20000 in
theorem nm_X5_sunk : yX5_sunk.cls ≠ "java/lang/invoke/MethodHandle" ∧ yX5_sunk.cls ≠ "java/lang/invoke/VarHandle" ∧ (parseMethodDescriptor yX5_sunk.desc).map (fun d => d.parameters.length) = some 1 := by decide +kernel
set_option maxRecDepth 20000 in
theorem ml_X2_39 : am_ml RX2 39 yX5_sunk cX5_sunk 2 (some .int) 1 := ⟨am_in 504 (by decide +kernel) rfl, iw_X5, cw_X5_sunk, nm_X5_sunk.1, nm_X5_sunk.2.1, nm_X5_sunk.2.2, by decide⟩
set_option maxRecDepth 20000 in
theorem cw_X5_carried : Cond.code yX5_carried cX5_carried 3 (some .int) ∈ am_TB := am_in 428 (by decide +kernel) rfl
set_option maxRecDepth 20000 in
theorem im_X5_carried : Cond.instanceMethod yX5_carried ∈ am_TB := am_in 426 (by decide +kernel) rfl
set_option maxRecDepth 20000 in
theorem se_X5_carried : Cond.selects yX5_carried.cls yX5_carried yX5_carried ∈ am_TB := am_in 427 (by decide +kernel) rfl
set_option maxRecDepth 20000 in
theorem nm_X5_carried : yX5_carried.cls ≠ "java/lang/invoke/MethodHandle" ∧ yX5_carried.cls ≠ "java/lang/invoke/VarHandle" ∧ (parseMethodDescriptor yX5_carried.desc).map (fun d => d.parameters.length) = some 2 := by decide +kernel
set_option maxRecDepth 20000 in
theorem ml_X2_43 : am_ml RX2 43 yX5_carried cX5_carried 3 (some .int) 2 := ⟨am_in 505 (by decide +kernel) rfl, iw_X5, cw_X5_carried, nm_X5_carried.1, nm_X5_carried.2.1, nm_X5_carried.2.2, by decide⟩
set_option maxRecDepth 20000 in
theorem ml_X2_48 : am_ml RX2 48 yX5_become cX5_become 2 none 1 := ⟨am_in 527 (by decide +kernel) rfl, iw_X5, cw_X5_become, nm_X5_become.1, nm_X5_become.2.1, nm_X5_become.2.2, by decide⟩
set_option maxRecDepth 20000 in
theorem cw_X5_passHour : Cond.code yX5_passHour cX5_passHour 2 none ∈ am_TB := am_in 417 (by decide +kernel) rfl
set_option maxRecDepth 20000 in
theorem im_X5_passHour : Cond.instanceMethod yX5_passHour ∈ am_TB := am_in 415 (by decide +kernel) rfl
set_option maxRecDepth 20000 in
theorem se_X5_passHour : Cond.selects yX5_passHour.cls yX5_passHour yX5_passHour ∈ am_TB := am_in 416 (by decide +kernel) rfl
set_option maxRecDepth 20000 in
theorem nm_X5_passHour : yX5_passHour.cls ≠ "java/lang/invoke/MethodHandle" ∧ yX5_passHour.cls ≠ "java/lang/invoke/VarHandle" ∧ (parseMethodDescriptor yX5_passHour.desc).map (fun d => d.parameters.length) = some 0 := by decide +kernel
set_option maxRecDepth 20000 in
theorem ml_X2_52 : am_ml RX2 52 yX5_passHour cX5_passHour 2 none 0 := ⟨am_in 528 (by decide +kernel) rfl, iw_X5, cw_X5_passHour, nm_X5_passHour.1, nm_X5_passHour.2.1, nm_X5_passHour.2.2, by decide⟩
set_option maxRecDepth 20000 in
theorem cw_X5_officesIn : Cond.code yX5_officesIn cX5_officesIn 4 (some .int) ∈ am_TB := am_in 492 (by decide +kernel) rfl
set_option maxRecDepth 20000 in
theorem im_X5_officesIn : Cond.instanceMethod yX5_officesIn ∈ am_TB := am_in 490 (by decide +kernel) rfl
set_option maxRecDepth 20000 in
theorem se_X5_officesIn : Cond.selects yX5_officesIn.cls yX5_officesIn yX5_officesIn ∈ am_TB := am_in 491 (by decide +kernel) rfl
set_option maxRecDepth 20000 in
theorem nm_X5_officesIn : yX5_officesIn.cls ≠ "java/lang/invoke/MethodHandle" ∧ yX5_officesIn.cls ≠ "java/lang/invoke/VarHandle" ∧ (parseMethodDescriptor yX5_officesIn.desc).map (fun d => d.parameters.length) = some 1 := by decide +kernel
set_option maxRecDepth 20000 in
theorem ml_X2_55 : am_ml RX2 55 yX5_officesIn cX5_officesIn 4 (some .int) 1 := ⟨am_in 537 (by decide +kernel) rfl, iw_X5, cw_X5_officesIn, nm_X5_officesIn.1, nm_X5_officesIn.2.1, nm_X5_officesIn.2.2, by decide⟩
set_option maxRecDepth 20000 in
theorem cw_J6_bitCount_0f7a4 : Cond.code yJ6_bitCount_0f7a4 cJ6_bitCount_0f7a4 1 (some .int) ∈ am_TB := am_in 446 (by decide +kernel) rfl
set_option maxRecDepth 20000 in
theorem st_J6_bitCount_0f7a4 : Cond.static yJ6_bitCount_0f7a4 ∈ am_TB := am_in 445 (by decide +kernel) rfl
set_option maxRecDepth 20000 in
theorem nm_J6_bitCount_0f7a4 : yJ6_bitCount_0f7a4.cls ≠ "java/lang/invoke/MethodHandle" ∧ yJ6_bitCount_0f7a4.cls ≠ "java/lang/invoke/VarHandle" ∧ (parseMethodDescriptor yJ6_bitCount_0f7a4.desc).map (fun d => d.parameters.length) = some 1 := by decide +kernel
set_option maxRecDepth 20000 in
theorem ml_X2_58 : am_ml RX2 58 yJ6_bitCount_0f7a4 cJ6_bitCount_0f7a4 1 (some .int) 1 := ⟨am_in 538 (by decide +kernel) rfl, iw_J6, cw_J6_bitCount_0f7a4, nm_J6_bitCount_0f7a4.1, nm_J6_bitCount_0f7a4.2.1, nm_J6_bitCount_0f7a4.2.2, by decide⟩
set_option maxRecDepth 20000 in
theorem cw_J7_fill_53178 : Cond.code yJ7_fill_53178 cJ7_fill_53178 4 none ∈ am_TB := am_in 282 (by decide +kernel) rfl
set_option maxRecDepth 20000 in
theorem st_J7_fill_53178 : Cond.static yJ7_fill_53178 ∈ am_TB := am_in 281 (by decide +kernel) rfl
set_option maxRecDepth 20000 in
theorem nm_J7_fill_53178 : yJ7_fill_53178.cls ≠ "java/lang/invoke/MethodHandle" ∧ yJ7_fill_53178.cls ≠ "java/lang/invoke/VarHandle" ∧ (parseMethodDescriptor yJ7_fill_53178.desc).map (fun d => d.parameters.length) = some 2 := by decide +kernel
set_option maxRecDepth 20000 in
theorem ml_X2_64 : am_ml RX2 64 yJ7_fill_53178 cJ7_fill_53178 4 none 2 := ⟨am_in 548 (by decide +kernel) rfl, iw_J7, cw_J7_fill_53178, nm_J7_fill_53178.1, nm_J7_fill_53178.2.1, nm_J7_fill_53178.2.2, by decide⟩
set_option maxRecDepth 20000 in
theorem cw_X2_spreadAll : Cond.code yX2_spreadAll cX2_spreadAll 7 none ∈ am_TB := am_in 552 (by decide +kernel) rfl
set_option maxRecDepth 20000 in
theorem im_X2_spreadAll : Cond.instanceMethod yX2_spreadAll ∈ am_TB := am_in 551 (by decide +kernel) rfl
set_option maxRecDepth 20000 in
theorem se_X2_spreadAll : Cond.selects yX2_spreadAll.cls yX2_spreadAll yX2_spreadAll ∈ am_TB := am_in 11 (by decide +kernel) rfl
set_option maxRecDepth 20000 in
theorem nm_X2_spreadAll : yX2_spreadAll.cls ≠ "java/lang/invoke/MethodHandle" ∧ yX2_spreadAll.cls ≠ "java/lang/invoke/VarHandle" ∧ (parseMethodDescriptor yX2_spreadAll.desc).map (fun d => d.parameters.length) = some 3 := by decide +kernel
set_option maxRecDepth 20000 in
theorem ml_X2_70 : am_ml RX2 70 yX2_spreadAll cX2_spreadAll 7 none 3 := ⟨am_in 549 (by decide +kernel) rfl, iw_X2, cw_X2_spreadAll, nm_X2_spreadAll.1, nm_X2_spreadAll.2.1, nm_X2_spreadAll.2.2, by decide⟩
set_option maxRecDepth 20000 in
theorem lk_X2_74 : Cond.methodLink RX2 74 Lib.Math.min.name ∈ am_TB := am_in 561 (by decide +kernel) rfl
set_option maxRecDepth 20000 in
theorem cw_X2_spread : Cond.code yX2_spread cX2_spread 11 none ∈ am_TB := am_in 556 (by decide +kernel) rfl
set_option maxRecDepth 20000 in
theorem im_X2_spread : Cond.instanceMethod yX2_spread ∈ am_TB := am_in 555 (by decide +kernel) rfl
set_option maxRecDepth 20000 in
theorem se_X2_spread : Cond.selects yX2_spread.cls yX2_spread yX2_spread ∈ am_TB := am_in 12 (by decide +kernel) rfl
set_option maxRecDepth 20000 in
theorem nm_X2_spread : yX2_spread.cls ≠ "java/lang/invoke/MethodHandle" ∧ yX2_spread.cls ≠ "java/lang/invoke/VarHandle" ∧ (parseMethodDescriptor yX2_spread.desc).map (fun d => d.parameters.length) = some 5 := by decide +kernel
set_option maxRecDepth 20000 in
theorem ml_X2_79 : am_ml RX2 79 yX2_spread cX2_spread 11 none 5 := ⟨am_in 553 (by decide +kernel) rfl, iw_X2, cw_X2_spread, nm_X2_spread.1, nm_X2_spread.2.1, nm_X2_spread.2.2, by decide⟩
set_option maxRecDepth 20000 in
theorem cw_X2_sheetsOf : Cond.code yX2_sheetsOf cX2_sheetsOf 1 (some .int) ∈ am_TB := am_in 559 (by decide +kernel) rfl
set_option maxRecDepth 20000 in
theorem st_X2_sheetsOf : Cond.static yX2_sheetsOf ∈ am_TB := am_in 558 (by decide +kernel) rfl
set_option maxRecDepth 20000 in
theorem nm_X2_sheetsOf : yX2_sheetsOf.cls ≠ "java/lang/invoke/MethodHandle" ∧ yX2_sheetsOf.cls ≠ "java/lang/invoke/VarHandle" ∧ (parseMethodDescriptor yX2_sheetsOf.desc).map (fun d => d.parameters.length) = some 1 := by decide +kernel
set_option maxRecDepth 20000 in
theorem ml_X2_86 : am_ml RX2 86 yX2_sheetsOf cX2_sheetsOf 1 (some .int) 1 := ⟨am_in 557 (by decide +kernel) rfl, iw_X2, cw_X2_sheetsOf, nm_X2_sheetsOf.1, nm_X2_sheetsOf.2.1, nm_X2_sheetsOf.2.2, by decide⟩
set_option maxRecDepth 20000 in
theorem cw_X2_longer : Cond.code yX2_longer cX2_longer 3 (some .int) ∈ am_TB := am_in 564 (by decide +kernel) rfl
set_option maxRecDepth 20000 in
theorem st_X2_longer : Cond.static yX2_longer ∈ am_TB := am_in 563 (by decide +kernel) rfl
set_option maxRecDepth 20000 in
theorem nm_X2_longer : yX2_longer.cls ≠ "java/lang/invoke/MethodHandle" ∧ yX2_longer.cls ≠ "java/lang/invoke/VarHandle" ∧ (parseMethodDescriptor yX2_longer.desc).map (fun d => d.parameters.length) = some 2 := by decide +kernel
set_option maxRecDepth 20000 in
theorem ml_X2_89 : am_ml RX2 89 yX2_longer cX2_longer 3 (some .int) 2 := ⟨am_in 562 (by decide +kernel) rfl, iw_X2, cw_X2_longer, nm_X2_longer.1, nm_X2_longer.2.1, nm_X2_longer.2.2, by decide⟩
set_option maxRecDepth 20000 in
theorem cw_X5_lifted : Cond.code yX5_lifted cX5_lifted 5 (some .int) ∈ am_TB := am_in 464 (by decide +kernel) rfl
set_option maxRecDepth 20000 in
theorem st_X5_lifted : Cond.static yX5_lifted ∈ am_TB := am_in 463 (by decide +kernel) rfl
set_option maxRecDepth 20000 in
theorem nm_X5_lifted : yX5_lifted.cls ≠ "java/lang/invoke/MethodHandle" ∧ yX5_lifted.cls ≠ "java/lang/invoke/VarHandle" ∧ (parseMethodDescriptor yX5_lifted.desc).map (fun d => d.parameters.length) = some 3 := by decide +kernel
set_option maxRecDepth 20000 in
theorem ml_X2_95 : am_ml RX2 95 yX5_lifted cX5_lifted 5 (some .int) 3 := ⟨am_in 565 (by decide +kernel) rfl, iw_X5, cw_X5_lifted, nm_X5_lifted.1, nm_X5_lifted.2.1, nm_X5_lifted.2.2, by decide⟩
set_option maxRecDepth 20000 in
theorem cw_X2_reads : Cond.code yX2_reads cX2_reads 3 (some .boolean) ∈ am_TB := am_in 583 (by decide +kernel) rfl
set_option maxRecDepth 20000 in
theorem im_X2_reads : Cond.instanceMethod yX2_reads ∈ am_TB := am_in 582 (by decide +kernel) rfl
set_option maxRecDepth 20000 in
theorem se_X2_reads : Cond.selects yX2_reads.cls yX2_reads yX2_reads ∈ am_TB := am_in 13 (by decide +kernel) rfl
set_option maxRecDepth 20000 in
theorem nm_X2_reads : yX2_reads.cls ≠ "java/lang/invoke/MethodHandle" ∧ yX2_reads.cls ≠ "java/lang/invoke/VarHandle" ∧ (parseMethodDescriptor yX2_reads.desc).map (fun d => d.parameters.length) = some 2 := by decide +kernel
set_option maxRecDepth 20000 in
theorem ml_X2_100 : am_ml RX2 100 yX2_reads cX2_reads 3 (some .boolean) 2 := ⟨am_in 580 (by decide +kernel) rfl, iw_X2, cw_X2_reads, nm_X2_reads.1, nm_X2_reads.2.1, nm_X2_reads.2.2, by decide⟩
set_option maxRecDepth 20000 in
theorem cw_X5_bandOf : Cond.code yX5_bandOf cX5_bandOf 1 (some .int) ∈ am_TB := am_in 435 (by decide +kernel) rfl
set_option maxRecDepth 20000 in
theorem st_X5_bandOf : Cond.static yX5_bandOf ∈ am_TB := am_in 434 (by decide +kernel) rfl
set_option maxRecDepth 20000 in
theorem nm_X5_bandOf : yX5_bandOf.cls ≠ "java/lang/invoke/MethodHandle" ∧ yX5_bandOf.cls ≠ "java/lang/invoke/VarHandle" ∧ (parseMethodDescriptor yX5_bandOf.desc).map (fun d => d.parameters.length) = some 1 := by decide +kernel
set_option maxRecDepth 20000 in
theorem ml_X2_104 : am_ml RX2 104 yX5_bandOf cX5_bandOf 1 (some .int) 1 := ⟨am_in 584 (by decide +kernel) rfl, iw_X5, cw_X5_bandOf, nm_X5_bandOf.1, nm_X5_bandOf.2.1, nm_X5_bandOf.2.2, by decide⟩
set_option maxRecDepth 20000 in
theorem cw_X2_comesSo : Cond.code yX2_comesSo cX2_comesSo 7 (some .boolean) ∈ am_TB := am_in 604 (by decide +kernel) rfl
set_option maxRecDepth 20000 in
theorem im_X2_comesSo : Cond.instanceMethod yX2_comesSo ∈ am_TB := am_in 603 (by decide +kernel) rfl
set_option maxRecDepth 20000 in
theorem se_X2_comesSo : Cond.selects yX2_comesSo.cls yX2_comesSo yX2_comesSo ∈ am_TB := am_in 14 (by decide +kernel) rfl
set_option maxRecDepth 20000 in
theorem nm_X2_comesSo : yX2_comesSo.cls ≠ "java/lang/invoke/MethodHandle" ∧ yX2_comesSo.cls ≠ "java/lang/invoke/VarHandle" ∧ (parseMethodDescriptor yX2_comesSo.desc).map (fun d => d.parameters.length) = some 4 := by decide +kernel
set_option maxRecDepth 20000 in
theorem ml_X2_109 : am_ml RX2 109 yX2_comesSo cX2_comesSo 7 (some .boolean) 4 := ⟨am_in 601 (by decide +kernel) rfl, iw_X2, cw_X2_comesSo, nm_X2_comesSo.1, nm_X2_comesSo.2.1, nm_X2_comesSo.2.2, by decide⟩
set_option maxRecDepth 20000 in
theorem cw_X2_hoursUp : Cond.code yX2_hoursUp cX2_hoursUp 7 (some .int) ∈ am_TB := am_in 620 (by decide +kernel) rfl
set_option maxRecDepth 20000 in
theorem im_X2_hoursUp : Cond.instanceMethod yX2_hoursUp ∈ am_TB := am_in 618 (by decide +kernel) rfl
set_option maxRecDepth 20000 in
theorem se_X2_hoursUp : Cond.selects yX2_hoursUp.cls yX2_hoursUp yX2_hoursUp ∈ am_TB := am_in 619 (by decide +kernel) rfl
set_option maxRecDepth 20000 in
theorem nm_X2_hoursUp : yX2_hoursUp.cls ≠ "java/lang/invoke/MethodHandle" ∧ yX2_hoursUp.cls ≠ "java/lang/invoke/VarHandle" ∧ (parseMethodDescriptor yX2_hoursUp.desc).map (fun d => d.parameters.length) = some 3 := by decide +kernel
set_option maxRecDepth 20000 in
theorem ml_X2_117 : am_ml RX2 117 yX2_hoursUp cX2_hoursUp 7 (some .int) 3 := ⟨am_in 629 (by decide +kernel) rfl, iw_X2, cw_X2_hoursUp, nm_X2_hoursUp.1, nm_X2_hoursUp.2.1, nm_X2_hoursUp.2.2, by decide⟩
set_option maxRecDepth 20000 in
theorem cw_X2_landIfTurned : Cond.code yX2_landIfTurned cX2_landIfTurned 9 (some .int) ∈ am_TB := am_in 642 (by decide +kernel) rfl
set_option maxRecDepth 20000 in
theorem im_X2_landIfTurned : Cond.instanceMethod yX2_landIfTurned ∈ am_TB := am_in 641 (by decide +kernel) rfl
set_option maxRecDepth 20000 in
theorem se_X2_landIfTurned : Cond.selects yX2_landIfTurned.cls yX2_landIfTurned yX2_landIfTurned ∈ am_TB := am_in 15 (by decide +kernel) rfl
set_option maxRecDepth 20000 in
theorem nm_X2_landIfTurned : yX2_landIfTurned.cls ≠ "java/lang/invoke/MethodHandle" ∧ yX2_landIfTurned.cls ≠ "java/lang/invoke/VarHandle" ∧ (parseMethodDescriptor yX2_landIfTurned.desc).map (fun d => d.parameters.length) = some 3 := by decide +kernel
set_option maxRecDepth 20000 in
theorem ml_X2_120 : am_ml RX2 120 yX2_landIfTurned cX2_landIfTurned 9 (some .int) 3 := ⟨am_in 639 (by decide +kernel) rfl, iw_X2, cw_X2_landIfTurned, nm_X2_landIfTurned.1, nm_X2_landIfTurned.2.1, nm_X2_landIfTurned.2.2, by decide⟩
set_option maxRecDepth 20000 in
theorem cw_X2_casesOf : Cond.code yX2_casesOf cX2_casesOf 4 (some .int) ∈ am_TB := am_in 647 (by decide +kernel) rfl
set_option maxRecDepth 20000 in
theorem st_X2_casesOf : Cond.static yX2_casesOf ∈ am_TB := am_in 646 (by decide +kernel) rfl
set_option maxRecDepth 20000 in
theorem nm_X2_casesOf : yX2_casesOf.cls ≠ "java/lang/invoke/MethodHandle" ∧ yX2_casesOf.cls ≠ "java/lang/invoke/VarHandle" ∧ (parseMethodDescriptor yX2_casesOf.desc).map (fun d => d.parameters.length) = some 2 := by decide +kernel
set_option maxRecDepth 20000 in
theorem ml_X2_123 : am_ml RX2 123 yX2_casesOf cX2_casesOf 4 (some .int) 2 := ⟨am_in 645 (by decide +kernel) rfl, iw_X2, cw_X2_casesOf, nm_X2_casesOf.1, nm_X2_casesOf.2.1, nm_X2_casesOf.2.2, by decide⟩
set_option maxRecDepth 20000 in
theorem cw_X5_driftAt : Cond.code yX5_driftAt cX5_driftAt 2 (some .int) ∈ am_TB := am_in 432 (by decide +kernel) rfl
set_option maxRecDepth 20000 in
theorem im_X5_driftAt : Cond.instanceMethod yX5_driftAt ∈ am_TB := am_in 430 (by decide +kernel) rfl
set_option maxRecDepth 20000 in
theorem se_X5_driftAt : Cond.selects yX5_driftAt.cls yX5_driftAt yX5_driftAt ∈ am_TB := am_in 431 (by decide +kernel) rfl
set_option maxRecDepth 20000 in
theorem nm_X5_driftAt : yX5_driftAt.cls ≠ "java/lang/invoke/MethodHandle" ∧ yX5_driftAt.cls ≠ "java/lang/invoke/VarHandle" ∧ (parseMethodDescriptor yX5_driftAt.desc).map (fun d => d.parameters.length) = some 1 := by decide +kernel
set_option maxRecDepth 20000 in
theorem ml_X2_126 : am_ml RX2 126 yX5_driftAt cX5_driftAt 2 (some .int) 1 := ⟨am_in 643 (by decide +kernel) rfl, iw_X5, cw_X5_driftAt, nm_X5_driftAt.1, nm_X5_driftAt.2.1, nm_X5_driftAt.2.2, by decide⟩
set_option maxRecDepth 20000 in
theorem cw_X5_moved : Cond.code yX5_moved cX5_moved 2 (some .int) ∈ am_TB := am_in 438 (by decide +kernel) rfl
set_option maxRecDepth 20000 in
theorem st_X5_moved : Cond.static yX5_moved ∈ am_TB := am_in 437 (by decide +kernel) rfl
set_option maxRecDepth 20000 in
theorem nm_X5_moved : yX5_moved.cls ≠ "java/lang/invoke/MethodHandle" ∧ yX5_moved.cls ≠ "java/lang/invoke/VarHandle" ∧ (parseMethodDescriptor yX5_moved.desc).map (fun d => d.parameters.length) = some 2 := by decide +kernel
set_option maxRecDepth 20000 in
theorem ml_X2_129 : am_ml RX2 129 yX5_moved cX5_moved 2 (some .int) 2 := ⟨am_in 644 (by decide +kernel) rfl, iw_X5, cw_X5_moved, nm_X5_moved.1, nm_X5_moved.2.1, nm_X5_moved.2.2, by decide⟩
set_option maxRecDepth 20000 in
theorem cw_X5_useSheets : Cond.code yX5_useSheets cX5_useSheets 3 none ∈ am_TB := am_in 461 (by decide +kernel) rfl
set_option maxRecDepth 20000 in
theorem im_X5_useSheets : Cond.instanceMethod yX5_useSheets ∈ am_TB := am_in 459 (by decide +kernel) rfl
set_option maxRecDepth 20000 in
theorem se_X5_useSheets : Cond.selects yX5_useSheets.cls yX5_useSheets yX5_useSheets ∈ am_TB := am_in 460 (by decide +kernel) rfl
set_option maxRecDepth 20000 in
theorem nm_X5_useSheets : yX5_useSheets.cls ≠ "java/lang/invoke/MethodHandle" ∧ yX5_useSheets.cls ≠ "java/lang/invoke/VarHandle" ∧ (parseMethodDescriptor yX5_useSheets.desc).map (fun d => d.parameters.length) = some 2 := by decide +kernel
set_option maxRecDepth 20000 in
theorem ml_X2_138 : am_ml RX2 138 yX5_useSheets cX5_useSheets 3 none 2 := ⟨am_in 663 (by decide +kernel) rfl, iw_X5, cw_X5_useSheets, nm_X5_useSheets.1, nm_X5_useSheets.2.1, nm_X5_useSheets.2.2, by decide⟩
set_option maxRecDepth 20000 in
theorem ml_X3_13 : am_ml RX3 13 yX3_nearest cX3_nearest 1 (some .int) 1 := ⟨am_in 687 (by decide +kernel) rfl, iw_X3, cw_X3_nearest, nm_X3_nearest.1, nm_X3_nearest.2.1, nm_X3_nearest.2.2, by decide⟩
set_option maxRecDepth 20000 in
theorem lk_X4_3 : Cond.methodLink RX4 3 objectInit ∈ am_TB := am_in 68 (by decide +kernel) rfl
set_option maxRecDepth 20000 in
theorem ml_X4_26 : am_ml RX4 26 yJ7_fill_53178 cJ7_fill_53178 4 none 2 := ⟨am_in 280 (by decide +kernel) rfl, iw_J7, cw_J7_fill_53178, nm_J7_fill_53178.1, nm_J7_fill_53178.2.1, nm_J7_fill_53178.2.2, by decide⟩
set_option maxRecDepth 20000 in
theorem cw_X4_spans : Cond.code yX4_spans cX4_spans 3 (some .boolean) ∈ am_TB := am_in 298 (by decide +kernel) rfl
set_option maxRecDepth 20000 in
theorem im_X4_spans : Cond.instanceMethod yX4_spans ∈ am_TB := am_in 296 (by decide +kernel) rfl
set_option maxRecDepth 20000 in
theorem se_X4_spans : Cond.selects yX4_spans.cls yX4_spans yX4_spans ∈ am_TB := am_in 297 (by decide +kernel) rfl
set_option maxRecDepth 20000 in
theorem nm_X4_spans : yX4_spans.cls ≠ "java/lang/invoke/MethodHandle" ∧ yX4_spans.cls ≠ "java/lang/invoke/VarHandle" ∧ (parseMethodDescriptor yX4_spans.desc).map (fun d => d.parameters.length) = some 2 := by decide +kernel
set_option maxRecDepth 20000 in
theorem ml_X4_32 : am_ml RX4 32 yX4_spans cX4_spans 3 (some .boolean) 2 := ⟨am_in 295 (by decide +kernel) rfl, iw_X4, cw_X4_spans, nm_X4_spans.1, nm_X4_spans.2.1, nm_X4_spans.2.2, by decide⟩
set_option maxRecDepth 20000 in
theorem cw_X4_cut : Cond.code yX4_cut cX4_cut 2 (some .int) ∈ am_TB := am_in 306 (by decide +kernel) rfl
set_option maxRecDepth 20000 in
theorem im_X4_cut : Cond.instanceMethod yX4_cut ∈ am_TB := am_in 305 (by decide +kernel) rfl
set_option maxRecDepth 20000 in
theorem se_X4_cut : Cond.selects yX4_cut.cls yX4_cut yX4_cut ∈ am_TB := am_in 2 (by decide +kernel) rfl
set_option maxRecDepth 20000 in
theorem nm_X4_cut : yX4_cut.cls ≠ "java/lang/invoke/MethodHandle" ∧ yX4_cut.cls ≠ "java/lang/invoke/VarHandle" ∧ (parseMethodDescriptor yX4_cut.desc).map (fun d => d.parameters.length) = some 1 := by decide +kernel
set_option maxRecDepth 20000 in
theorem ml_X4_36 : am_ml RX4 36 yX4_cut cX4_cut 2 (some .int) 1 := ⟨am_in 303 (by decide +kernel) rfl, iw_X4, cw_X4_cut, nm_X4_cut.1, nm_X4_cut.2.1, nm_X4_cut.2.2, by decide⟩
set_option maxRecDepth 20000 in
theorem lk_X5_1 : Cond.methodLink RX5 1 objectInit ∈ am_TB := am_in 113 (by decide +kernel) rfl
set_option maxRecDepth 20000 in
theorem lk_X5_38 : Cond.methodLink RX5 38 arraycopyName ∈ am_TB := am_in 379 (by decide +kernel) rfl
set_option maxRecDepth 20000 in
theorem ml_X5_44 : am_ml RX5 44 yX5_sunk cX5_sunk 2 (some .int) 1 := ⟨am_in 418 (by decide +kernel) rfl, iw_X5, cw_X5_sunk, nm_X5_sunk.1, nm_X5_sunk.2.1, nm_X5_sunk.2.2, by decide⟩
set_option maxRecDepth 20000 in
theorem ml_X5_48 : am_ml RX5 48 yX5_carried cX5_carried 3 (some .int) 2 := ⟨am_in 425 (by decide +kernel) rfl, iw_X5, cw_X5_carried, nm_X5_carried.1, nm_X5_carried.2.1, nm_X5_carried.2.2, by decide⟩
set_option maxRecDepth 20000 in
theorem ml_X5_52 : am_ml RX5 52 yX5_lifted cX5_lifted 5 (some .int) 3 := ⟨am_in 462 (by decide +kernel) rfl, iw_X5, cw_X5_lifted, nm_X5_lifted.1, nm_X5_lifted.2.1, nm_X5_lifted.2.2, by decide⟩
set_option maxRecDepth 20000 in
theorem lk_X5_56 : Cond.methodLink RX5 56 Lib.Math.max.name ∈ am_TB := am_in 422 (by decide +kernel) rfl
set_option maxRecDepth 20000 in
theorem ml_X5_61 : am_ml RX5 61 yX5_driftAt cX5_driftAt 2 (some .int) 1 := ⟨am_in 429 (by decide +kernel) rfl, iw_X5, cw_X5_driftAt, nm_X5_driftAt.1, nm_X5_driftAt.2.1, nm_X5_driftAt.2.2, by decide⟩
set_option maxRecDepth 20000 in
theorem ml_X5_64 : am_ml RX5 64 yX5_moved cX5_moved 2 (some .int) 2 := ⟨am_in 436 (by decide +kernel) rfl, iw_X5, cw_X5_moved, nm_X5_moved.1, nm_X5_moved.2.1, nm_X5_moved.2.2, by decide⟩
set_option maxRecDepth 20000 in
theorem ml_X5_67 : am_ml RX5 67 yX5_bandOf cX5_bandOf 1 (some .int) 1 := ⟨am_in 433 (by decide +kernel) rfl, iw_X5, cw_X5_bandOf, nm_X5_bandOf.1, nm_X5_bandOf.2.1, nm_X5_bandOf.2.2, by decide⟩
set_option maxRecDepth 20000 in
theorem lk_X5_70 : Cond.methodLink RX5 70 Lib.Math.min.name ∈ am_TB := am_in 439 (by decide +kernel) rfl
set_option maxRecDepth 20000 in
theorem cw_X5_liftOf : Cond.code yX5_liftOf cX5_liftOf 2 (some .int) ∈ am_TB := am_in 467 (by decide +kernel) rfl
set_option maxRecDepth 20000 in
theorem st_X5_liftOf : Cond.static yX5_liftOf ∈ am_TB := am_in 466 (by decide +kernel) rfl
set_option maxRecDepth 20000 in
theorem nm_X5_liftOf : yX5_liftOf.cls ≠ "java/lang/invoke/MethodHandle" ∧ yX5_liftOf.cls ≠ "java/lang/invoke/VarHandle" ∧ (parseMethodDescriptor yX5_liftOf.desc).map (fun d => d.parameters.length) = some 2 := by decide +kernel
set_option maxRecDepth 20000 in
theorem ml_X5_73 : am_ml RX5 73 yX5_liftOf cX5_liftOf 2 (some .int) 2 := ⟨am_in 465 (by decide +kernel) rfl, iw_X5, cw_X5_liftOf, nm_X5_liftOf.1, nm_X5_liftOf.2.1, nm_X5_liftOf.2.2, by decide⟩
set_option maxRecDepth 20000 in
theorem lk_X6_3 : Cond.methodLink RX6 3 objectInit ∈ am_TB := am_in 92 (by decide +kernel) rfl
set_option maxRecDepth 20000 in
theorem cw_X5_begin : Cond.code yX5_begin cX5_begin 1 none ∈ am_TB := am_in 339 (by decide +kernel) rfl
set_option maxRecDepth 20000 in
theorem im_X5_begin : Cond.instanceMethod yX5_begin ∈ am_TB := am_in 337 (by decide +kernel) rfl
set_option maxRecDepth 20000 in
theorem se_X5_begin : Cond.selects yX5_begin.cls yX5_begin yX5_begin ∈ am_TB := am_in 338 (by decide +kernel) rfl
set_option maxRecDepth 20000 in
theorem nm_X5_begin : yX5_begin.cls ≠ "java/lang/invoke/MethodHandle" ∧ yX5_begin.cls ≠ "java/lang/invoke/VarHandle" ∧ (parseMethodDescriptor yX5_begin.desc).map (fun d => d.parameters.length) = some 0 := by decide +kernel
set_option maxRecDepth 20000 in
theorem ml_X6_26 : am_ml RX6 26 yX5_begin cX5_begin 1 none 0 := ⟨am_in 336 (by decide +kernel) rfl, iw_X5, cw_X5_begin, nm_X5_begin.1, nm_X5_begin.2.1, nm_X5_begin.2.2, by decide⟩
set_option maxRecDepth 20000 in
theorem cw_X6_readLaw : Cond.code yX6_readLaw cX6_readLaw 3 none ∈ am_TB := am_in 343 (by decide +kernel) rfl
set_option maxRecDepth 20000 in
theorem im_X6_readLaw : Cond.instanceMethod yX6_readLaw ∈ am_TB := am_in 342 (by decide +kernel) rfl
set_option maxRecDepth 20000 in
theorem se_X6_readLaw : Cond.selects yX6_readLaw.cls yX6_readLaw yX6_readLaw ∈ am_TB := am_in 3 (by decide +kernel) rfl
set_option maxRecDepth 20000 in
theorem nm_X6_readLaw : yX6_readLaw.cls ≠ "java/lang/invoke/MethodHandle" ∧ yX6_readLaw.cls ≠ "java/lang/invoke/VarHandle" ∧ (parseMethodDescriptor yX6_readLaw.desc).map (fun d => d.parameters.length) = some 1 := by decide +kernel
set_option maxRecDepth 20000 in
theorem ml_X6_31 : am_ml RX6 31 yX6_readLaw cX6_readLaw 3 none 1 := ⟨am_in 340 (by decide +kernel) rfl, iw_X6, cw_X6_readLaw, nm_X6_readLaw.1, nm_X6_readLaw.2.1, nm_X6_readLaw.2.2, by decide⟩
set_option maxRecDepth 20000 in
theorem cw_X6_readOffice : Cond.code yX6_readOffice cX6_readOffice 6 none ∈ am_TB := am_in 362 (by decide +kernel) rfl
set_option maxRecDepth 20000 in
theorem im_X6_readOffice : Cond.instanceMethod yX6_readOffice ∈ am_TB := am_in 361 (by decide +kernel) rfl
set_option maxRecDepth 20000 in
theorem se_X6_readOffice : Cond.selects yX6_readOffice.cls yX6_readOffice yX6_readOffice ∈ am_TB := am_in 7 (by decide +kernel) rfl
set_option maxRecDepth 20000 in
theorem nm_X6_readOffice : yX6_readOffice.cls ≠ "java/lang/invoke/MethodHandle" ∧ yX6_readOffice.cls ≠ "java/lang/invoke/VarHandle" ∧ (parseMethodDescriptor yX6_readOffice.desc).map (fun d => d.parameters.length) = some 1 := by decide +kernel
set_option maxRecDepth 20000 in
theorem ml_X6_35 : am_ml RX6 35 yX6_readOffice cX6_readOffice 6 none 1 := ⟨am_in 359 (by decide +kernel) rfl, iw_X6, cw_X6_readOffice, nm_X6_readOffice.1, nm_X6_readOffice.2.1, nm_X6_readOffice.2.2, by decide⟩
set_option maxRecDepth 20000 in
theorem cw_X6_takeByte : Cond.code yX6_takeByte cX6_takeByte 2 none ∈ am_TB := am_in 347 (by decide +kernel) rfl
set_option maxRecDepth 20000 in
theorem im_X6_takeByte : Cond.instanceMethod yX6_takeByte ∈ am_TB := am_in 346 (by decide +kernel) rfl
set_option maxRecDepth 20000 in
theorem se_X6_takeByte : Cond.selects yX6_takeByte.cls yX6_takeByte yX6_takeByte ∈ am_TB := am_in 4 (by decide +kernel) rfl
set_option maxRecDepth 20000 in
theorem nm_X6_takeByte : yX6_takeByte.cls ≠ "java/lang/invoke/MethodHandle" ∧ yX6_takeByte.cls ≠ "java/lang/invoke/VarHandle" ∧ (parseMethodDescriptor yX6_takeByte.desc).map (fun d => d.parameters.length) = some 1 := by decide +kernel
set_option maxRecDepth 20000 in
theorem ml_X6_38 : am_ml RX6 38 yX6_takeByte cX6_takeByte 2 none 1 := ⟨am_in 344 (by decide +kernel) rfl, iw_X6, cw_X6_takeByte, nm_X6_takeByte.1, nm_X6_takeByte.2.1, nm_X6_takeByte.2.2, by decide⟩
set_option maxRecDepth 20000 in
theorem cw_X6_takeNumber : Cond.code yX6_takeNumber cX6_takeNumber 5 (some .int) ∈ am_TB := am_in 351 (by decide +kernel) rfl
set_option maxRecDepth 20000 in
theorem im_X6_takeNumber : Cond.instanceMethod yX6_takeNumber ∈ am_TB := am_in 350 (by decide +kernel) rfl
set_option maxRecDepth 20000 in
theorem se_X6_takeNumber : Cond.selects yX6_takeNumber.cls yX6_takeNumber yX6_takeNumber ∈ am_TB := am_in 5 (by decide +kernel) rfl
set_option maxRecDepth 20000 in
theorem nm_X6_takeNumber : yX6_takeNumber.cls ≠ "java/lang/invoke/MethodHandle" ∧ yX6_takeNumber.cls ≠ "java/lang/invoke/VarHandle" ∧ (parseMethodDescriptor yX6_takeNumber.desc).map (fun d => d.parameters.length) = some 1 := by decide +kernel
set_option maxRecDepth 20000 in
theorem ml_X6_45 : am_ml RX6 45 yX6_takeNumber cX6_takeNumber 5 (some .int) 1 := ⟨am_in 348 (by decide +kernel) rfl, iw_X6, cw_X6_takeNumber, nm_X6_takeNumber.1, nm_X6_takeNumber.2.1, nm_X6_takeNumber.2.2, by decide⟩
set_option maxRecDepth 20000 in
theorem cw_X6_takeSort : Cond.code yX6_takeSort cX6_takeSort 3 (some .int) ∈ am_TB := am_in 366 (by decide +kernel) rfl
set_option maxRecDepth 20000 in
theorem im_X6_takeSort : Cond.instanceMethod yX6_takeSort ∈ am_TB := am_in 365 (by decide +kernel) rfl
set_option maxRecDepth 20000 in
theorem se_X6_takeSort : Cond.selects yX6_takeSort.cls yX6_takeSort yX6_takeSort ∈ am_TB := am_in 8 (by decide +kernel) rfl
set_option maxRecDepth 20000 in
theorem nm_X6_takeSort : yX6_takeSort.cls ≠ "java/lang/invoke/MethodHandle" ∧ yX6_takeSort.cls ≠ "java/lang/invoke/VarHandle" ∧ (parseMethodDescriptor yX6_takeSort.desc).map (fun d => d.parameters.length) = some 1 := by decide +kernel
set_option maxRecDepth 20000 in
theorem ml_X6_55 : am_ml RX6 55 yX6_takeSort cX6_takeSort 3 (some .int) 1 := ⟨am_in 363 (by decide +kernel) rfl, iw_X6, cw_X6_takeSort, nm_X6_takeSort.1, nm_X6_takeSort.2.1, nm_X6_takeSort.2.2, by decide⟩
set_option maxRecDepth 20000 in
theorem cw_X5_addOffice : Cond.code yX5_addOffice cX5_addOffice 5 none ∈ am_TB := am_in 373 (by decide +kernel) rfl
set_option maxRecDepth 20000 in
theorem im_X5_addOffice : Cond.instanceMethod yX5_addOffice ∈ am_TB := am_in 371 (by decide +kernel) rfl
set_option maxRecDepth 20000 in
theorem se_X5_addOffice : Cond.selects yX5_addOffice.cls yX5_addOffice yX5_addOffice ∈ am_TB := am_in 372 (by decide +kernel) rfl
set_option maxRecDepth 20000 in
theorem nm_X5_addOffice : yX5_addOffice.cls ≠ "java/lang/invoke/MethodHandle" ∧ yX5_addOffice.cls ≠ "java/lang/invoke/VarHandle" ∧ (parseMethodDescriptor yX5_addOffice.desc).map (fun d => d.parameters.length) = some 4 := by decide +kernel
set_option maxRecDepth 20000 in
theorem ml_X6_58 : am_ml RX6 58 yX5_addOffice cX5_addOffice 5 none 4 := ⟨am_in 370 (by decide +kernel) rfl, iw_X5, cw_X5_addOffice, nm_X5_addOffice.1, nm_X5_addOffice.2.1, nm_X5_addOffice.2.2, by decide⟩
set_option maxRecDepth 20000 in
theorem cw_X3_ofLetter : Cond.code yX3_ofLetter cX3_ofLetter 1 (some .int) ∈ am_TB := am_in 369 (by decide +kernel) rfl
set_option maxRecDepth 20000 in
theorem st_X3_ofLetter : Cond.static yX3_ofLetter ∈ am_TB := am_in 368 (by decide +kernel) rfl
set_option maxRecDepth 20000 in
theorem nm_X3_ofLetter : yX3_ofLetter.cls ≠ "java/lang/invoke/MethodHandle" ∧ yX3_ofLetter.cls ≠ "java/lang/invoke/VarHandle" ∧ (parseMethodDescriptor yX3_ofLetter.desc).map (fun d => d.parameters.length) = some 1 := by decide +kernel
set_option maxRecDepth 20000 in
theorem ml_X6_64 : am_ml RX6 64 yX3_ofLetter cX3_ofLetter 1 (some .int) 1 := ⟨am_in 367 (by decide +kernel) rfl, iw_X3, cw_X3_ofLetter, nm_X3_ofLetter.1, nm_X3_ofLetter.2.1, nm_X3_ofLetter.2.2, by decide⟩
set_option maxRecDepth 20000 in
theorem cw_X6_figuresHere : Cond.code yX6_figuresHere cX6_figuresHere 2 (some .int) ∈ am_TB := am_in 355 (by decide +kernel) rfl
set_option maxRecDepth 20000 in
theorem im_X6_figuresHere : Cond.instanceMethod yX6_figuresHere ∈ am_TB := am_in 354 (by decide +kernel) rfl
set_option maxRecDepth 20000 in
theorem se_X6_figuresHere : Cond.selects yX6_figuresHere.cls yX6_figuresHere yX6_figuresHere ∈ am_TB := am_in 6 (by decide +kernel) rfl
set_option maxRecDepth 20000 in
theorem nm_X6_figuresHere : yX6_figuresHere.cls ≠ "java/lang/invoke/MethodHandle" ∧ yX6_figuresHere.cls ≠ "java/lang/invoke/VarHandle" ∧ (parseMethodDescriptor yX6_figuresHere.desc).map (fun d => d.parameters.length) = some 0 := by decide +kernel
set_option maxRecDepth 20000 in
theorem ml_X6_67 : am_ml RX6 67 yX6_figuresHere cX6_figuresHere 2 (some .int) 0 := ⟨am_in 352 (by decide +kernel) rfl, iw_X6, cw_X6_figuresHere, nm_X6_figuresHere.1, nm_X6_figuresHere.2.1, nm_X6_figuresHere.2.2, by decide⟩
set_option maxRecDepth 20000 in
theorem cw_X6_isFigure : Cond.code yX6_isFigure cX6_isFigure 1 (some .boolean) ∈ am_TB := am_in 358 (by decide +kernel) rfl
set_option maxRecDepth 20000 in
theorem st_X6_isFigure : Cond.static yX6_isFigure ∈ am_TB := am_in 357 (by decide +kernel) rfl
set_option maxRecDepth 20000 in
theorem nm_X6_isFigure : yX6_isFigure.cls ≠ "java/lang/invoke/MethodHandle" ∧ yX6_isFigure.cls ≠ "java/lang/invoke/VarHandle" ∧ (parseMethodDescriptor yX6_isFigure.desc).map (fun d => d.parameters.length) = some 1 := by decide +kernel
set_option maxRecDepth 20000 in
theorem ml_X6_71 : am_ml RX6 71 yX6_isFigure cX6_isFigure 1 (some .boolean) 1 := ⟨am_in 356 (by decide +kernel) rfl, iw_X6, cw_X6_isFigure, nm_X6_isFigure.1, nm_X6_isFigure.2.1, nm_X6_isFigure.2.2, by decide⟩
set_option maxRecDepth 20000 in
theorem lk_X7_1 : Cond.methodLink RX7 1 objectInit ∈ am_TB := am_in 59 (by decide +kernel) rfl
set_option maxRecDepth 20000 in
theorem cw_X0_init : Cond.code yX0_init cX0_init 2 none ∈ am_TB := am_in 166 (by decide +kernel) rfl
set_option maxRecDepth 20000 in
theorem im_X0_init : Cond.instanceMethod yX0_init ∈ am_TB := am_in 165 (by decide +kernel) rfl
set_option maxRecDepth 20000 in
theorem nm_X0_init : yX0_init.cls ≠ "java/lang/invoke/MethodHandle" ∧ yX0_init.cls ≠ "java/lang/invoke/VarHandle" ∧ (parseMethodDescriptor yX0_init.desc).map (fun d => d.parameters.length) = some 0 := by decide +kernel
set_option maxRecDepth 20000 in
theorem ml_X7_35 : am_ml RX7 35 yX0_init cX0_init 2 none 0 := ⟨am_in 164 (by decide +kernel) rfl, iw_X0, cw_X0_init, nm_X0_init.1, nm_X0_init.2.1, nm_X0_init.2.2, by decide⟩
set_option maxRecDepth 20000 in
theorem cw_X2_init : Cond.code yX2_init cX2_init 2 none ∈ am_TB := am_in 186 (by decide +kernel) rfl
set_option maxRecDepth 20000 in
theorem im_X2_init : Cond.instanceMethod yX2_init ∈ am_TB := am_in 185 (by decide +kernel) rfl
set_option maxRecDepth 20000 in
theorem nm_X2_init : yX2_init.cls ≠ "java/lang/invoke/MethodHandle" ∧ yX2_init.cls ≠ "java/lang/invoke/VarHandle" ∧ (parseMethodDescriptor yX2_init.desc).map (fun d => d.parameters.length) = some 1 := by decide +kernel
set_option maxRecDepth 20000 in
theorem ml_X7_46 : am_ml RX7 46 yX2_init cX2_init 2 none 1 := ⟨am_in 184 (by decide +kernel) rfl, iw_X2, cw_X2_init, nm_X2_init.1, nm_X2_init.2.1, nm_X2_init.2.2, by decide⟩
set_option maxRecDepth 20000 in
theorem cw_X1_init : Cond.code yX1_init cX1_init 2 none ∈ am_TB := am_in 215 (by decide +kernel) rfl
set_option maxRecDepth 20000 in
theorem im_X1_init : Cond.instanceMethod yX1_init ∈ am_TB := am_in 214 (by decide +kernel) rfl
set_option maxRecDepth 20000 in
theorem nm_X1_init : yX1_init.cls ≠ "java/lang/invoke/MethodHandle" ∧ yX1_init.cls ≠ "java/lang/invoke/VarHandle" ∧ (parseMethodDescriptor yX1_init.desc).map (fun d => d.parameters.length) = some 1 := by decide +kernel
set_option maxRecDepth 20000 in
theorem ml_X7_55 : am_ml RX7 55 yX1_init cX1_init 2 none 1 := ⟨am_in 213 (by decide +kernel) rfl, iw_X1, cw_X1_init, nm_X1_init.1, nm_X1_init.2.1, nm_X1_init.2.2, by decide⟩
set_option maxRecDepth 20000 in
theorem cw_X7_isRow : Cond.code yX7_isRow cX7_isRow 1 (some .boolean) ∈ am_TB := am_in 266 (by decide +kernel) rfl
set_option maxRecDepth 20000 in
theorem st_X7_isRow : Cond.static yX7_isRow ∈ am_TB := am_in 265 (by decide +kernel) rfl
set_option maxRecDepth 20000 in
theorem nm_X7_isRow : yX7_isRow.cls ≠ "java/lang/invoke/MethodHandle" ∧ yX7_isRow.cls ≠ "java/lang/invoke/VarHandle" ∧ (parseMethodDescriptor yX7_isRow.desc).map (fun d => d.parameters.length) = some 1 := by decide +kernel
set_option maxRecDepth 20000 in
theorem ml_X7_67 : am_ml RX7 67 yX7_isRow cX7_isRow 1 (some .boolean) 1 := ⟨am_in 264 (by decide +kernel) rfl, iw_X7, cw_X7_isRow, nm_X7_isRow.1, nm_X7_isRow.2.1, nm_X7_isRow.2.2, by decide⟩
set_option maxRecDepth 20000 in
theorem cw_X7_within : Cond.code yX7_within cX7_within 3 (some .boolean) ∈ am_TB := am_in 269 (by decide +kernel) rfl
set_option maxRecDepth 20000 in
theorem st_X7_within : Cond.static yX7_within ∈ am_TB := am_in 268 (by decide +kernel) rfl
set_option maxRecDepth 20000 in
theorem nm_X7_within : yX7_within.cls ≠ "java/lang/invoke/MethodHandle" ∧ yX7_within.cls ≠ "java/lang/invoke/VarHandle" ∧ (parseMethodDescriptor yX7_within.desc).map (fun d => d.parameters.length) = some 3 := by decide +kernel
set_option maxRecDepth 20000 in
theorem ml_X7_71 : am_ml RX7 71 yX7_within cX7_within 3 (some .boolean) 3 := ⟨am_in 267 (by decide +kernel) rfl, iw_X7, cw_X7_within, nm_X7_within.1, nm_X7_within.2.1, nm_X7_within.2.2, by decide⟩
set_option maxRecDepth 20000 in
theorem cw_X7_found : Cond.code yX7_found cX7_found 2 (some .int) ∈ am_TB := am_in 274 (by decide +kernel) rfl
set_option maxRecDepth 20000 in
theorem im_X7_found : Cond.instanceMethod yX7_found ∈ am_TB := am_in 273 (by decide +kernel) rfl
set_option maxRecDepth 20000 in
theorem se_X7_found : Cond.selects yX7_found.cls yX7_found yX7_found ∈ am_TB := am_in 0 (by decide +kernel) rfl
set_option maxRecDepth 20000 in
theorem nm_X7_found : yX7_found.cls ≠ "java/lang/invoke/MethodHandle" ∧ yX7_found.cls ≠ "java/lang/invoke/VarHandle" ∧ (parseMethodDescriptor yX7_found.desc).map (fun d => d.parameters.length) = some 1 := by decide +kernel
set_option maxRecDepth 20000 in
theorem ml_X7_76 : am_ml RX7 76 yX7_found cX7_found 2 (some .int) 1 := ⟨am_in 271 (by decide +kernel) rfl, iw_X7, cw_X7_found, nm_X7_found.1, nm_X7_found.2.1, nm_X7_found.2.2, by decide⟩
set_option maxRecDepth 20000 in
theorem cw_X4_begin : Cond.code yX4_begin cX4_begin 3 none ∈ am_TB := am_in 279 (by decide +kernel) rfl
set_option maxRecDepth 20000 in
theorem im_X4_begin : Cond.instanceMethod yX4_begin ∈ am_TB := am_in 277 (by decide +kernel) rfl
set_option maxRecDepth 20000 in
theorem se_X4_begin : Cond.selects yX4_begin.cls yX4_begin yX4_begin ∈ am_TB := am_in 278 (by decide +kernel) rfl
set_option maxRecDepth 20000 in
theorem nm_X4_begin : yX4_begin.cls ≠ "java/lang/invoke/MethodHandle" ∧ yX4_begin.cls ≠ "java/lang/invoke/VarHandle" ∧ (parseMethodDescriptor yX4_begin.desc).map (fun d => d.parameters.length) = some 2 := by decide +kernel
set_option maxRecDepth 20000 in
theorem ml_X7_80 : am_ml RX7 80 yX4_begin cX4_begin 3 none 2 := ⟨am_in 276 (by decide +kernel) rfl, iw_X4, cw_X4_begin, nm_X4_begin.1, nm_X4_begin.2.1, nm_X4_begin.2.2, by decide⟩
set_option maxRecDepth 20000 in
theorem cw_X7_foundNothing : Cond.code yX7_foundNothing cX7_foundNothing 2 (some .int) ∈ am_TB := am_in 286 (by decide +kernel) rfl
set_option maxRecDepth 20000 in
theorem im_X7_foundNothing : Cond.instanceMethod yX7_foundNothing ∈ am_TB := am_in 285 (by decide +kernel) rfl
set_option maxRecDepth 20000 in
theorem se_X7_foundNothing : Cond.selects yX7_foundNothing.cls yX7_foundNothing yX7_foundNothing ∈ am_TB := am_in 1 (by decide +kernel) rfl
set_option maxRecDepth 20000 in
theorem nm_X7_foundNothing : yX7_foundNothing.cls ≠ "java/lang/invoke/MethodHandle" ∧ yX7_foundNothing.cls ≠ "java/lang/invoke/VarHandle" ∧ (parseMethodDescriptor yX7_foundNothing.desc).map (fun d => d.parameters.length) = some 1 := by decide +kernel
set_option maxRecDepth 20000 in
theorem ml_X7_84 : am_ml RX7 84 yX7_foundNothing cX7_foundNothing 2 (some .int) 1 := ⟨am_in 283 (by decide +kernel) rfl, iw_X7, cw_X7_foundNothing, nm_X7_foundNothing.1, nm_X7_foundNothing.2.1, nm_X7_foundNothing.2.2, by decide⟩
set_option maxRecDepth 20000 in
theorem cw_X4_findingOf : Cond.code yX4_findingOf cX4_findingOf 3 (some .int) ∈ am_TB := am_in 294 (by decide +kernel) rfl
set_option maxRecDepth 20000 in
theorem im_X4_findingOf : Cond.instanceMethod yX4_findingOf ∈ am_TB := am_in 292 (by decide +kernel) rfl
set_option maxRecDepth 20000 in
theorem se_X4_findingOf : Cond.selects yX4_findingOf.cls yX4_findingOf yX4_findingOf ∈ am_TB := am_in 293 (by decide +kernel) rfl
set_option maxRecDepth 20000 in
theorem nm_X4_findingOf : yX4_findingOf.cls ≠ "java/lang/invoke/MethodHandle" ∧ yX4_findingOf.cls ≠ "java/lang/invoke/VarHandle" ∧ (parseMethodDescriptor yX4_findingOf.desc).map (fun d => d.parameters.length) = some 2 := by decide +kernel
set_option maxRecDepth 20000 in
theorem ml_X7_87 : am_ml RX7 87 yX4_findingOf cX4_findingOf 3 (some .int) 2 := ⟨am_in 291 (by decide +kernel) rfl, iw_X4, cw_X4_findingOf, nm_X4_findingOf.1, nm_X4_findingOf.2.1, nm_X4_findingOf.2.2, by decide⟩
set_option maxRecDepth 20000 in
theorem cw_X4_put : Cond.code yX4_put cX4_put 3 (some .int) ∈ am_TB := am_in 302 (by decide +kernel) rfl
set_option maxRecDepth 20000 in
theorem im_X4_put : Cond.instanceMethod yX4_put ∈ am_TB := am_in 300 (by decide +kernel) rfl
set_option maxRecDepth 20000 in
theorem se_X4_put : Cond.selects yX4_put.cls yX4_put yX4_put ∈ am_TB := am_in 301 (by decide +kernel) rfl
set_option maxRecDepth 20000 in
theorem nm_X4_put : yX4_put.cls ≠ "java/lang/invoke/MethodHandle" ∧ yX4_put.cls ≠ "java/lang/invoke/VarHandle" ∧ (parseMethodDescriptor yX4_put.desc).map (fun d => d.parameters.length) = some 2 := by decide +kernel
set_option maxRecDepth 20000 in
theorem ml_X7_91 : am_ml RX7 91 yX4_put cX4_put 3 (some .int) 2 := ⟨am_in 299 (by decide +kernel) rfl, iw_X4, cw_X4_put, nm_X4_put.1, nm_X4_put.2.1, nm_X4_put.2.2, by decide⟩
set_option maxRecDepth 20000 in
theorem ml_X7_101 : am_ml RX7 101 yX4_spans cX4_spans 3 (some .boolean) 2 := ⟨am_in 311 (by decide +kernel) rfl, iw_X4, cw_X4_spans, nm_X4_spans.1, nm_X4_spans.2.1, nm_X4_spans.2.2, by decide⟩
set_option maxRecDepth 20000 in
theorem lk_X7_109 : Cond.methodLink RX7 109 arraycopyName ∈ am_TB := am_in 312 (by decide +kernel) rfl
set_option maxRecDepth 20000 in
theorem cw_X6_add : Cond.code yX6_add cX6_add 2 (some .int) ∈ am_TB := am_in 326 (by decide +kernel) rfl
set_option maxRecDepth 20000 in
theorem im_X6_add : Cond.instanceMethod yX6_add ∈ am_TB := am_in 324 (by decide +kernel) rfl
set_option maxRecDepth 20000 in
theorem se_X6_add : Cond.selects yX6_add.cls yX6_add yX6_add ∈ am_TB := am_in 325 (by decide +kernel) rfl
set_option maxRecDepth 20000 in
theorem nm_X6_add : yX6_add.cls ≠ "java/lang/invoke/MethodHandle" ∧ yX6_add.cls ≠ "java/lang/invoke/VarHandle" ∧ (parseMethodDescriptor yX6_add.desc).map (fun d => d.parameters.length) = some 1 := by decide +kernel
set_option maxRecDepth 20000 in
theorem ml_X7_118 : am_ml RX7 118 yX6_add cX6_add 2 (some .int) 1 := ⟨am_in 323 (by decide +kernel) rfl, iw_X6, cw_X6_add, nm_X6_add.1, nm_X6_add.2.1, nm_X6_add.2.2, by decide⟩
set_option maxRecDepth 20000 in
theorem cw_X6_readInto : Cond.code yX6_readInto cX6_readInto 3 (some .int) ∈ am_TB := am_in 335 (by decide +kernel) rfl
set_option maxRecDepth 20000 in
theorem im_X6_readInto : Cond.instanceMethod yX6_readInto ∈ am_TB := am_in 333 (by decide +kernel) rfl
set_option maxRecDepth 20000 in
theorem se_X6_readInto : Cond.selects yX6_readInto.cls yX6_readInto yX6_readInto ∈ am_TB := am_in 334 (by decide +kernel) rfl
set_option maxRecDepth 20000 in
theorem nm_X6_readInto : yX6_readInto.cls ≠ "java/lang/invoke/MethodHandle" ∧ yX6_readInto.cls ≠ "java/lang/invoke/VarHandle" ∧ (parseMethodDescriptor yX6_readInto.desc).map (fun d => d.parameters.length) = some 1 := by decide +kernel
set_option maxRecDepth 20000 in
theorem ml_X7_121 : am_ml RX7 121 yX6_readInto cX6_readInto 3 (some .int) 1 := ⟨am_in 332 (by decide +kernel) rfl, iw_X6, cw_X6_readInto, nm_X6_readInto.1, nm_X6_readInto.2.1, nm_X6_readInto.2.2, by decide⟩
set_option maxRecDepth 20000 in
theorem ml_X7_129 : am_ml RX7 129 yX5_become cX5_become 2 none 1 := ⟨am_in 375 (by decide +kernel) rfl, iw_X5, cw_X5_become, nm_X5_become.1, nm_X5_become.2.1, nm_X5_become.2.2, by decide⟩
set_option maxRecDepth 20000 in
theorem cw_X0_forget : Cond.code yX0_forget cX0_forget 1 none ∈ am_TB := am_in 383 (by decide +kernel) rfl
set_option maxRecDepth 20000 in
theorem im_X0_forget : Cond.instanceMethod yX0_forget ∈ am_TB := am_in 381 (by decide +kernel) rfl
set_option maxRecDepth 20000 in
theorem se_X0_forget : Cond.selects yX0_forget.cls yX0_forget yX0_forget ∈ am_TB := am_in 382 (by decide +kernel) rfl
set_option maxRecDepth 20000 in
theorem nm_X0_forget : yX0_forget.cls ≠ "java/lang/invoke/MethodHandle" ∧ yX0_forget.cls ≠ "java/lang/invoke/VarHandle" ∧ (parseMethodDescriptor yX0_forget.desc).map (fun d => d.parameters.length) = some 0 := by decide +kernel
set_option maxRecDepth 20000 in
theorem ml_X7_132 : am_ml RX7 132 yX0_forget cX0_forget 1 none 0 := ⟨am_in 380 (by decide +kernel) rfl, iw_X0, cw_X0_forget, nm_X0_forget.1, nm_X0_forget.2.1, nm_X0_forget.2.2, by decide⟩
set_option maxRecDepth 20000 in
theorem cw_X0_takeBack : Cond.code yX0_takeBack cX0_takeBack 2 (some .int) ∈ am_TB := am_in 396 (by decide +kernel) rfl
set_option maxRecDepth 20000 in
theorem im_X0_takeBack : Cond.instanceMethod yX0_takeBack ∈ am_TB := am_in 394 (by decide +kernel) rfl
set_option maxRecDepth 20000 in
theorem se_X0_takeBack : Cond.selects yX0_takeBack.cls yX0_takeBack yX0_takeBack ∈ am_TB := am_in 395 (by decide +kernel) rfl
set_option maxRecDepth 20000 in
theorem nm_X0_takeBack : yX0_takeBack.cls ≠ "java/lang/invoke/MethodHandle" ∧ yX0_takeBack.cls ≠ "java/lang/invoke/VarHandle" ∧ (parseMethodDescriptor yX0_takeBack.desc).map (fun d => d.parameters.length) = some 1 := by decide +kernel
set_option maxRecDepth 20000 in
theorem ml_X7_142 : am_ml RX7 142 yX0_takeBack cX0_takeBack 2 (some .int) 1 := ⟨am_in 393 (by decide +kernel) rfl, iw_X0, cw_X0_takeBack, nm_X0_takeBack.1, nm_X0_takeBack.2.1, nm_X0_takeBack.2.2, by decide⟩
set_option maxRecDepth 20000 in
theorem cw_X7_noSky : Cond.code yX7_noSky cX7_noSky 1 (some .boolean) ∈ am_TB := am_in 405 (by decide +kernel) rfl
set_option maxRecDepth 20000 in
theorem im_X7_noSky : Cond.instanceMethod yX7_noSky ∈ am_TB := am_in 404 (by decide +kernel) rfl
set_option maxRecDepth 20000 in
theorem se_X7_noSky : Cond.selects yX7_noSky.cls yX7_noSky yX7_noSky ∈ am_TB := am_in 9 (by decide +kernel) rfl
set_option maxRecDepth 20000 in
theorem nm_X7_noSky : yX7_noSky.cls ≠ "java/lang/invoke/MethodHandle" ∧ yX7_noSky.cls ≠ "java/lang/invoke/VarHandle" ∧ (parseMethodDescriptor yX7_noSky.desc).map (fun d => d.parameters.length) = some 0 := by decide +kernel
set_option maxRecDepth 20000 in
theorem ml_X7_145 : am_ml RX7 145 yX7_noSky cX7_noSky 1 (some .boolean) 0 := ⟨am_in 402 (by decide +kernel) rfl, iw_X7, cw_X7_noSky, nm_X7_noSky.1, nm_X7_noSky.2.1, nm_X7_noSky.2.2, by decide⟩
set_option maxRecDepth 20000 in
theorem cw_X0_keep : Cond.code yX0_keep cX0_keep 2 none ∈ am_TB := am_in 410 (by decide +kernel) rfl
set_option maxRecDepth 20000 in
theorem im_X0_keep : Cond.instanceMethod yX0_keep ∈ am_TB := am_in 408 (by decide +kernel) rfl
set_option maxRecDepth 20000 in
theorem se_X0_keep : Cond.selects yX0_keep.cls yX0_keep yX0_keep ∈ am_TB := am_in 409 (by decide +kernel) rfl
set_option maxRecDepth 20000 in
theorem nm_X0_keep : yX0_keep.cls ≠ "java/lang/invoke/MethodHandle" ∧ yX0_keep.cls ≠ "java/lang/invoke/VarHandle" ∧ (parseMethodDescriptor yX0_keep.desc).map (fun d => d.parameters.length) = some 1 := by decide +kernel
set_option maxRecDepth 20000 in
theorem ml_X7_153 : am_ml RX7 153 yX0_keep cX0_keep 2 none 1 := ⟨am_in 407 (by decide +kernel) rfl, iw_X0, cw_X0_keep, nm_X0_keep.1, nm_X0_keep.2.1, nm_X0_keep.2.2, by decide⟩
set_option maxRecDepth 20000 in
theorem ml_X7_156 : am_ml RX7 156 yX5_passHour cX5_passHour 2 none 0 := ⟨am_in 414 (by decide +kernel) rfl, iw_X5, cw_X5_passHour, nm_X5_passHour.1, nm_X5_passHour.2.1, nm_X5_passHour.2.2, by decide⟩
set_option maxRecDepth 20000 in
theorem cw_X5_floating : Cond.code yX5_floating cX5_floating 3 (some .int) ∈ am_TB := am_in 443 (by decide +kernel) rfl
set_option maxRecDepth 20000 in
theorem im_X5_floating : Cond.instanceMethod yX5_floating ∈ am_TB := am_in 441 (by decide +kernel) rfl
set_option maxRecDepth 20000 in
theorem se_X5_floating : Cond.selects yX5_floating.cls yX5_floating yX5_floating ∈ am_TB := am_in 442 (by decide +kernel) rfl
set_option maxRecDepth 20000 in
theorem nm_X5_floating : yX5_floating.cls ≠ "java/lang/invoke/MethodHandle" ∧ yX5_floating.cls ≠ "java/lang/invoke/VarHandle" ∧ (parseMethodDescriptor yX5_floating.desc).map (fun d => d.parameters.length) = some 0 := by decide +kernel
set_option maxRecDepth 20000 in
theorem ml_X7_159 : am_ml RX7 159 yX5_floating cX5_floating 3 (some .int) 0 := ⟨am_in 440 (by decide +kernel) rfl, iw_X5, cw_X5_floating, nm_X5_floating.1, nm_X5_floating.2.1, nm_X5_floating.2.2, by decide⟩
set_option maxRecDepth 20000 in
theorem ml_X7_163 : am_ml RX7 163 yJ6_bitCount_0f7a4 cJ6_bitCount_0f7a4 1 (some .int) 1 := ⟨am_in 444 (by decide +kernel) rfl, iw_J6, cw_J6_bitCount_0f7a4, nm_J6_bitCount_0f7a4.1, nm_J6_bitCount_0f7a4.2.1, nm_J6_bitCount_0f7a4.2.2, by decide⟩
set_option maxRecDepth 20000 in
theorem cw_X7_isOffice : Cond.code yX7_isOffice cX7_isOffice 2 (some .boolean) ∈ am_TB := am_in 457 (by decide +kernel) rfl
set_option maxRecDepth 20000 in
theorem im_X7_isOffice : Cond.instanceMethod yX7_isOffice ∈ am_TB := am_in 456 (by decide +kernel) rfl
set_option maxRecDepth 20000 in
theorem se_X7_isOffice : Cond.selects yX7_isOffice.cls yX7_isOffice yX7_isOffice ∈ am_TB := am_in 10 (by decide +kernel) rfl
set_option maxRecDepth 20000 in
theorem nm_X7_isOffice : yX7_isOffice.cls ≠ "java/lang/invoke/MethodHandle" ∧ yX7_isOffice.cls ≠ "java/lang/invoke/VarHandle" ∧ (parseMethodDescriptor yX7_isOffice.desc).map (fun d => d.parameters.length) = some 1 := by decide +kernel
set_option maxRecDepth 20000 in
theorem ml_X7_168 : am_ml RX7 168 yX7_isOffice cX7_isOffice 2 (some .boolean) 1 := ⟨am_in 454 (by decide +kernel) rfl, iw_X7, cw_X7_isOffice, nm_X7_isOffice.1, nm_X7_isOffice.2.1, nm_X7_isOffice.2.2, by decide⟩
set_option maxRecDepth 20000 in
theorem ml_X7_174 : am_ml RX7 174 yX5_useSheets cX5_useSheets 3 none 2 := ⟨am_in 458 (by decide +kernel) rfl, iw_X5, cw_X5_useSheets, nm_X5_useSheets.1, nm_X5_useSheets.2.1, nm_X5_useSheets.2.2, by decide⟩
set_option maxRecDepth 20000 in
theorem ml_X7_189 : am_ml RX7 189 yX5_bandOf cX5_bandOf 1 (some .int) 1 := ⟨am_in 480 (by decide +kernel) rfl, iw_X5, cw_X5_bandOf, nm_X5_bandOf.1, nm_X5_bandOf.2.1, nm_X5_bandOf.2.2, by decide⟩
set_option maxRecDepth 20000 in
theorem ml_X7_195 : am_ml RX7 195 yX5_liftOf cX5_liftOf 2 (some .int) 2 := ⟨am_in 481 (by decide +kernel) rfl, iw_X5, cw_X5_liftOf, nm_X5_liftOf.1, nm_X5_liftOf.2.1, nm_X5_liftOf.2.2, by decide⟩
set_option maxRecDepth 20000 in
theorem cw_X7_isLand : Cond.code yX7_isLand cX7_isLand 1 (some .boolean) ∈ am_TB := am_in 488 (by decide +kernel) rfl
set_option maxRecDepth 20000 in
theorem st_X7_isLand : Cond.static yX7_isLand ∈ am_TB := am_in 487 (by decide +kernel) rfl
set_option maxRecDepth 20000 in
theorem nm_X7_isLand : yX7_isLand.cls ≠ "java/lang/invoke/MethodHandle" ∧ yX7_isLand.cls ≠ "java/lang/invoke/VarHandle" ∧ (parseMethodDescriptor yX7_isLand.desc).map (fun d => d.parameters.length) = some 1 := by decide +kernel
set_option maxRecDepth 20000 in
theorem ml_X7_198 : am_ml RX7 198 yX7_isLand cX7_isLand 1 (some .boolean) 1 := ⟨am_in 486 (by decide +kernel) rfl, iw_X7, cw_X7_isLand, nm_X7_isLand.1, nm_X7_isLand.2.1, nm_X7_isLand.2.2, by decide⟩
set_option maxRecDepth 20000 in
theorem ml_X7_201 : am_ml RX7 201 yX5_officesIn cX5_officesIn 4 (some .int) 1 := ⟨am_in 489 (by decide +kernel) rfl, iw_X5, cw_X5_officesIn, nm_X5_officesIn.1, nm_X5_officesIn.2.1, nm_X5_officesIn.2.2, by decide⟩
set_option maxRecDepth 20000 in
theorem cw_X7_isOneOfTwo : Cond.code yX7_isOneOfTwo cX7_isOneOfTwo 1 (some .boolean) ∈ am_TB := am_in 499 (by decide +kernel) rfl
set_option maxRecDepth 20000 in
theorem st_X7_isOneOfTwo : Cond.static yX7_isOneOfTwo ∈ am_TB := am_in 498 (by decide +kernel) rfl
set_option maxRecDepth 20000 in
theorem nm_X7_isOneOfTwo : yX7_isOneOfTwo.cls ≠ "java/lang/invoke/MethodHandle" ∧ yX7_isOneOfTwo.cls ≠ "java/lang/invoke/VarHandle" ∧ (parseMethodDescriptor yX7_isOneOfTwo.desc).map (fun d => d.parameters.length) = some 1 := by decide +kernel
set_option maxRecDepth 20000 in
theorem ml_X7_204 : am_ml RX7 204 yX7_isOneOfTwo cX7_isOneOfTwo 1 (some .boolean) 1 := ⟨am_in 497 (by decide +kernel) rfl, iw_X7, cw_X7_isOneOfTwo, nm_X7_isOneOfTwo.1, nm_X7_isOneOfTwo.2.1, nm_X7_isOneOfTwo.2.2, by decide⟩
set_option maxRecDepth 20000 in
theorem cw_X2_landBehind : Cond.code yX2_landBehind cX2_landBehind 6 (some .int) ∈ am_TB := am_in 503 (by decide +kernel) rfl
set_option maxRecDepth 20000 in
theorem im_X2_landBehind : Cond.instanceMethod yX2_landBehind ∈ am_TB := am_in 501 (by decide +kernel) rfl
set_option maxRecDepth 20000 in
theorem se_X2_landBehind : Cond.selects yX2_landBehind.cls yX2_landBehind yX2_landBehind ∈ am_TB := am_in 502 (by decide +kernel) rfl
set_option maxRecDepth 20000 in
theorem nm_X2_landBehind : yX2_landBehind.cls ≠ "java/lang/invoke/MethodHandle" ∧ yX2_landBehind.cls ≠ "java/lang/invoke/VarHandle" ∧ (parseMethodDescriptor yX2_landBehind.desc).map (fun d => d.parameters.length) = some 2 := by decide +kernel
set_option maxRecDepth 20000 in
theorem ml_X7_207 : am_ml RX7 207 yX2_landBehind cX2_landBehind 6 (some .int) 2 := ⟨am_in 500 (by decide +kernel) rfl, iw_X2, cw_X2_landBehind, nm_X2_landBehind.1, nm_X2_landBehind.2.1, nm_X2_landBehind.2.2, by decide⟩
set_option maxRecDepth 20000 in
theorem cw_X2_heightBehind : Cond.code yX2_heightBehind cX2_heightBehind 5 (some .int) ∈ am_TB := am_in 509 (by decide +kernel) rfl
set_option maxRecDepth 20000 in
theorem im_X2_heightBehind : Cond.instanceMethod yX2_heightBehind ∈ am_TB := am_in 507 (by decide +kernel) rfl
set_option maxRecDepth 20000 in
theorem se_X2_heightBehind : Cond.selects yX2_heightBehind.cls yX2_heightBehind yX2_heightBehind ∈ am_TB := am_in 508 (by decide +kernel) rfl
set_option maxRecDepth 20000 in
theorem nm_X2_heightBehind : yX2_heightBehind.cls ≠ "java/lang/invoke/MethodHandle" ∧ yX2_heightBehind.cls ≠ "java/lang/invoke/VarHandle" ∧ (parseMethodDescriptor yX2_heightBehind.desc).map (fun d => d.parameters.length) = some 2 := by decide +kernel
set_option maxRecDepth 20000 in
theorem ml_X7_210 : am_ml RX7 210 yX2_heightBehind cX2_heightBehind 5 (some .int) 2 := ⟨am_in 506 (by decide +kernel) rfl, iw_X2, cw_X2_heightBehind, nm_X2_heightBehind.1, nm_X2_heightBehind.2.1, nm_X2_heightBehind.2.2, by decide⟩
set_option maxRecDepth 20000 in
theorem cw_X2_hoursToGround : Cond.code yX2_hoursToGround cX2_hoursToGround 4 (some .int) ∈ am_TB := am_in 517 (by decide +kernel) rfl
set_option maxRecDepth 20000 in
theorem im_X2_hoursToGround : Cond.instanceMethod yX2_hoursToGround ∈ am_TB := am_in 515 (by decide +kernel) rfl
set_option maxRecDepth 20000 in
theorem se_X2_hoursToGround : Cond.selects yX2_hoursToGround.cls yX2_hoursToGround yX2_hoursToGround ∈ am_TB := am_in 516 (by decide +kernel) rfl
set_option maxRecDepth 20000 in
theorem nm_X2_hoursToGround : yX2_hoursToGround.cls ≠ "java/lang/invoke/MethodHandle" ∧ yX2_hoursToGround.cls ≠ "java/lang/invoke/VarHandle" ∧ (parseMethodDescriptor yX2_hoursToGround.desc).map (fun d => d.parameters.length) = some 1 := by decide +kernel
set_option maxRecDepth 20000 in
theorem ml_X7_213 : am_ml RX7 213 yX2_hoursToGround cX2_hoursToGround 4 (some .int) 1 := ⟨am_in 514 (by decide +kernel) rfl, iw_X2, cw_X2_hoursToGround, nm_X2_hoursToGround.1, nm_X2_hoursToGround.2.1, nm_X2_hoursToGround.2.2, by decide⟩
set_option maxRecDepth 20000 in
theorem cw_X2_hoursToMeeting : Cond.code yX2_hoursToMeeting cX2_hoursToMeeting 4 (some .int) ∈ am_TB := am_in 526 (by decide +kernel) rfl
set_option maxRecDepth 20000 in
theorem im_X2_hoursToMeeting : Cond.instanceMethod yX2_hoursToMeeting ∈ am_TB := am_in 524 (by decide +kernel) rfl
set_option maxRecDepth 20000 in
theorem se_X2_hoursToMeeting : Cond.selects yX2_hoursToMeeting.cls yX2_hoursToMeeting yX2_hoursToMeeting ∈ am_TB := am_in 525 (by decide +kernel) rfl
set_option maxRecDepth 20000 in
theorem nm_X2_hoursToMeeting : yX2_hoursToMeeting.cls ≠ "java/lang/invoke/MethodHandle" ∧ yX2_hoursToMeeting.cls ≠ "java/lang/invoke/VarHandle" ∧ (parseMethodDescriptor yX2_hoursToMeeting.desc).map (fun d => d.parameters.length) = some 2 := by decide +kernel
set_option maxRecDepth 20000 in
theorem ml_X7_216 : am_ml RX7 216 yX2_hoursToMeeting cX2_hoursToMeeting 4 (some .int) 2 := ⟨am_in 523 (by decide +kernel) rfl, iw_X2, cw_X2_hoursToMeeting, nm_X2_hoursToMeeting.1, nm_X2_hoursToMeeting.2.1, nm_X2_hoursToMeeting.2.2, by decide⟩
set_option maxRecDepth 20000 in
theorem cw_X2_officesBehind : Cond.code yX2_officesBehind cX2_officesBehind 4 (some .int) ∈ am_TB := am_in 536 (by decide +kernel) rfl
set_option maxRecDepth 20000 in
theorem im_X2_officesBehind : Cond.instanceMethod yX2_officesBehind ∈ am_TB := am_in 534 (by decide +kernel) rfl
set_option maxRecDepth 20000 in
theorem se_X2_officesBehind : Cond.selects yX2_officesBehind.cls yX2_officesBehind yX2_officesBehind ∈ am_TB := am_in 535 (by decide +kernel) rfl
set_option maxRecDepth 20000 in
theorem nm_X2_officesBehind : yX2_officesBehind.cls ≠ "java/lang/invoke/MethodHandle" ∧ yX2_officesBehind.cls ≠ "java/lang/invoke/VarHandle" ∧ (parseMethodDescriptor yX2_officesBehind.desc).map (fun d => d.parameters.length) = some 2 := by decide +kernel
set_option maxRecDepth 20000 in
theorem ml_X7_219 : am_ml RX7 219 yX2_officesBehind cX2_officesBehind 4 (some .int) 2 := ⟨am_in 533 (by decide +kernel) rfl, iw_X2, cw_X2_officesBehind, nm_X2_officesBehind.1, nm_X2_officesBehind.2.1, nm_X2_officesBehind.2.2, by decide⟩
set_option maxRecDepth 20000 in
theorem cw_X2_fewestPlan : Cond.code yX2_fewestPlan cX2_fewestPlan 7 (some .int) ∈ am_TB := am_in 546 (by decide +kernel) rfl
set_option maxRecDepth 20000 in
theorem im_X2_fewestPlan : Cond.instanceMethod yX2_fewestPlan ∈ am_TB := am_in 544 (by decide +kernel) rfl
set_option maxRecDepth 20000 in
theorem se_X2_fewestPlan : Cond.selects yX2_fewestPlan.cls yX2_fewestPlan yX2_fewestPlan ∈ am_TB := am_in 545 (by decide +kernel) rfl
set_option maxRecDepth 20000 in
theorem nm_X2_fewestPlan : yX2_fewestPlan.cls ≠ "java/lang/invoke/MethodHandle" ∧ yX2_fewestPlan.cls ≠ "java/lang/invoke/VarHandle" ∧ (parseMethodDescriptor yX2_fewestPlan.desc).map (fun d => d.parameters.length) = some 4 := by decide +kernel
set_option maxRecDepth 20000 in
theorem ml_X7_222 : am_ml RX7 222 yX2_fewestPlan cX2_fewestPlan 7 (some .int) 4 := ⟨am_in 543 (by decide +kernel) rfl, iw_X2, cw_X2_fewestPlan, nm_X2_fewestPlan.1, nm_X2_fewestPlan.2.1, nm_X2_fewestPlan.2.2, by decide⟩
set_option maxRecDepth 20000 in
theorem ml_X7_228 : am_ml RX7 228 yX2_sheetsOf cX2_sheetsOf 1 (some .int) 1 := ⟨am_in 568 (by decide +kernel) rfl, iw_X2, cw_X2_sheetsOf, nm_X2_sheetsOf.1, nm_X2_sheetsOf.2.1, nm_X2_sheetsOf.2.2, by decide⟩
set_option maxRecDepth 20000 in
theorem cw_X2_sheetsAhead : Cond.code yX2_sheetsAhead cX2_sheetsAhead 3 (some .int) ∈ am_TB := am_in 571 (by decide +kernel) rfl
set_option maxRecDepth 20000 in
theorem st_X2_sheetsAhead : Cond.static yX2_sheetsAhead ∈ am_TB := am_in 570 (by decide +kernel) rfl
set_option maxRecDepth 20000 in
theorem nm_X2_sheetsAhead : yX2_sheetsAhead.cls ≠ "java/lang/invoke/MethodHandle" ∧ yX2_sheetsAhead.cls ≠ "java/lang/invoke/VarHandle" ∧ (parseMethodDescriptor yX2_sheetsAhead.desc).map (fun d => d.parameters.length) = some 3 := by decide +kernel
set_option maxRecDepth 20000 in
theorem ml_X7_231 : am_ml RX7 231 yX2_sheetsAhead cX2_sheetsAhead 3 (some .int) 3 := ⟨am_in 569 (by decide +kernel) rfl, iw_X2, cw_X2_sheetsAhead, nm_X2_sheetsAhead.1, nm_X2_sheetsAhead.2.1, nm_X2_sheetsAhead.2.2, by decide⟩
set_option maxRecDepth 20000 in
theorem cw_X2_hoursToPass : Cond.code yX2_hoursToPass cX2_hoursToPass 7 (some .int) ∈ am_TB := am_in 579 (by decide +kernel) rfl
set_option maxRecDepth 20000 in
theorem im_X2_hoursToPass : Cond.instanceMethod yX2_hoursToPass ∈ am_TB := am_in 577 (by decide +kernel) rfl
set_option maxRecDepth 20000 in
theorem se_X2_hoursToPass : Cond.selects yX2_hoursToPass.cls yX2_hoursToPass yX2_hoursToPass ∈ am_TB := am_in 578 (by decide +kernel) rfl
set_option maxRecDepth 20000 in
theorem nm_X2_hoursToPass : yX2_hoursToPass.cls ≠ "java/lang/invoke/MethodHandle" ∧ yX2_hoursToPass.cls ≠ "java/lang/invoke/VarHandle" ∧ (parseMethodDescriptor yX2_hoursToPass.desc).map (fun d => d.parameters.length) = some 4 := by decide +kernel
set_option maxRecDepth 20000 in
theorem ml_X7_235 : am_ml RX7 235 yX2_hoursToPass cX2_hoursToPass 7 (some .int) 4 := ⟨am_in 576 (by decide +kernel) rfl, iw_X2, cw_X2_hoursToPass, nm_X2_hoursToPass.1, nm_X2_hoursToPass.2.1, nm_X2_hoursToPass.2.2, by decide⟩
set_option maxRecDepth 20000 in
theorem cw_X2_waysToBurn : Cond.code yX2_waysToBurn cX2_waysToBurn 11 (some .int) ∈ am_TB := am_in 592 (by decide +kernel) rfl
set_option maxRecDepth 20000 in
theorem im_X2_waysToBurn : Cond.instanceMethod yX2_waysToBurn ∈ am_TB := am_in 590 (by decide +kernel) rfl
set_option maxRecDepth 20000 in
theorem se_X2_waysToBurn : Cond.selects yX2_waysToBurn.cls yX2_waysToBurn yX2_waysToBurn ∈ am_TB := am_in 591 (by decide +kernel) rfl
set_option maxRecDepth 20000 in
theorem nm_X2_waysToBurn : yX2_waysToBurn.cls ≠ "java/lang/invoke/MethodHandle" ∧ yX2_waysToBurn.cls ≠ "java/lang/invoke/VarHandle" ∧ (parseMethodDescriptor yX2_waysToBurn.desc).map (fun d => d.parameters.length) = some 4 := by decide +kernel
set_option maxRecDepth 20000 in
theorem ml_X7_239 : am_ml RX7 239 yX2_waysToBurn cX2_waysToBurn 11 (some .int) 4 := ⟨am_in 589 (by decide +kernel) rfl, iw_X2, cw_X2_waysToBurn, nm_X2_waysToBurn.1, nm_X2_waysToBurn.2.1, nm_X2_waysToBurn.2.2, by decide⟩
set_option maxRecDepth 20000 in
theorem cw_X2_kindsThatFit : Cond.code yX2_kindsThatFit cX2_kindsThatFit 8 (some .int) ∈ am_TB := am_in 600 (by decide +kernel) rfl
set_option maxRecDepth 20000 in
theorem im_X2_kindsThatFit : Cond.instanceMethod yX2_kindsThatFit ∈ am_TB := am_in 598 (by decide +kernel) rfl
set_option maxRecDepth 20000 in
theorem se_X2_kindsThatFit : Cond.selects yX2_kindsThatFit.cls yX2_kindsThatFit yX2_kindsThatFit ∈ am_TB := am_in 599 (by decide +kernel) rfl
set_option maxRecDepth 20000 in
theorem nm_X2_kindsThatFit : yX2_kindsThatFit.cls ≠ "java/lang/invoke/MethodHandle" ∧ yX2_kindsThatFit.cls ≠ "java/lang/invoke/VarHandle" ∧ (parseMethodDescriptor yX2_kindsThatFit.desc).map (fun d => d.parameters.length) = some 5 := by decide +kernel
set_option maxRecDepth 20000 in
theorem ml_X7_245 : am_ml RX7 245 yX2_kindsThatFit cX2_kindsThatFit 8 (some .int) 5 := ⟨am_in 597 (by decide +kernel) rfl, iw_X2, cw_X2_kindsThatFit, nm_X2_kindsThatFit.1, nm_X2_kindsThatFit.2.1, nm_X2_kindsThatFit.2.2, by decide⟩
set_option maxRecDepth 20000 in
theorem cw_X2_landRuled : Cond.code yX2_landRuled cX2_landRuled 4 (some .int) ∈ am_TB := am_in 612 (by decide +kernel) rfl
set_option maxRecDepth 20000 in
theorem im_X2_landRuled : Cond.instanceMethod yX2_landRuled ∈ am_TB := am_in 610 (by decide +kernel) rfl
set_option maxRecDepth 20000 in
theorem se_X2_landRuled : Cond.selects yX2_landRuled.cls yX2_landRuled yX2_landRuled ∈ am_TB := am_in 611 (by decide +kernel) rfl
set_option maxRecDepth 20000 in
theorem nm_X2_landRuled : yX2_landRuled.cls ≠ "java/lang/invoke/MethodHandle" ∧ yX2_landRuled.cls ≠ "java/lang/invoke/VarHandle" ∧ (parseMethodDescriptor yX2_landRuled.desc).map (fun d => d.parameters.length) = some 1 := by decide +kernel
set_option maxRecDepth 20000 in
theorem ml_X7_249 : am_ml RX7 249 yX2_landRuled cX2_landRuled 4 (some .int) 1 := ⟨am_in 609 (by decide +kernel) rfl, iw_X2, cw_X2_landRuled, nm_X2_landRuled.1, nm_X2_landRuled.2.1, nm_X2_landRuled.2.2, by decide⟩
set_option maxRecDepth 20000 in
theorem ml_X7_255 : am_ml RX7 255 yX2_hoursUp cX2_hoursUp 7 (some .int) 3 := ⟨am_in 617 (by decide +kernel) rfl, iw_X2, cw_X2_hoursUp, nm_X2_hoursUp.1, nm_X2_hoursUp.2.1, nm_X2_hoursUp.2.2, by decide⟩
set_option maxRecDepth 20000 in
theorem cw_X2_fewestFiles : Cond.code yX2_fewestFiles cX2_fewestFiles 4 (some .int) ∈ am_TB := am_in 628 (by decide +kernel) rfl
set_option maxRecDepth 20000 in
theorem im_X2_fewestFiles : Cond.instanceMethod yX2_fewestFiles ∈ am_TB := am_in 626 (by decide +kernel) rfl
set_option maxRecDepth 20000 in
theorem se_X2_fewestFiles : Cond.selects yX2_fewestFiles.cls yX2_fewestFiles yX2_fewestFiles ∈ am_TB := am_in 627 (by decide +kernel) rfl
set_option maxRecDepth 20000 in
theorem nm_X2_fewestFiles : yX2_fewestFiles.cls ≠ "java/lang/invoke/MethodHandle" ∧ yX2_fewestFiles.cls ≠ "java/lang/invoke/VarHandle" ∧ (parseMethodDescriptor yX2_fewestFiles.desc).map (fun d => d.parameters.length) = some 2 := by decide +kernel
set_option maxRecDepth 20000 in
theorem ml_X7_258 : am_ml RX7 258 yX2_fewestFiles cX2_fewestFiles 4 (some .int) 2 := ⟨am_in 625 (by decide +kernel) rfl, iw_X2, cw_X2_fewestFiles, nm_X2_fewestFiles.1, nm_X2_fewestFiles.2.1, nm_X2_fewestFiles.2.2, by decide⟩
set_option maxRecDepth 20000 in
theorem cw_X2_casesInLand : Cond.code yX2_casesInLand cX2_casesInLand 7 (some .int) ∈ am_TB := am_in 638 (by decide +kernel) rfl
set_option maxRecDepth 20000 in
theorem im_X2_casesInLand : Cond.instanceMethod yX2_casesInLand ∈ am_TB := am_in 636 (by decide +kernel) rfl
set_option maxRecDepth 20000 in
theorem se_X2_casesInLand : Cond.selects yX2_casesInLand.cls yX2_casesInLand yX2_casesInLand ∈ am_TB := am_in 637 (by decide +kernel) rfl
set_option maxRecDepth 20000 in
theorem nm_X2_casesInLand : yX2_casesInLand.cls ≠ "java/lang/invoke/MethodHandle" ∧ yX2_casesInLand.cls ≠ "java/lang/invoke/VarHandle" ∧ (parseMethodDescriptor yX2_casesInLand.desc).map (fun d => d.parameters.length) = some 4 := by decide +kernel
set_option maxRecDepth 20000 in
theorem ml_X7_263 : am_ml RX7 263 yX2_casesInLand cX2_casesInLand 7 (some .int) 4 := ⟨am_in 635 (by decide +kernel) rfl, iw_X2, cw_X2_casesInLand, nm_X2_casesInLand.1, nm_X2_casesInLand.2.1, nm_X2_casesInLand.2.2, by decide⟩
set_option maxRecDepth 20000 in
theorem cw_X2_commonDivisor : Cond.code yX2_commonDivisor cX2_commonDivisor 6 (some .int) ∈ am_TB := am_in 650 (by decide +kernel) rfl
set_option maxRecDepth 20000 in
theorem st_X2_commonDivisor : Cond.static yX2_commonDivisor ∈ am_TB := am_in 649 (by decide +kernel) rfl
set_option maxRecDepth 20000 in
theorem nm_X2_commonDivisor : yX2_commonDivisor.cls ≠ "java/lang/invoke/MethodHandle" ∧ yX2_commonDivisor.cls ≠ "java/lang/invoke/VarHandle" ∧ (parseMethodDescriptor yX2_commonDivisor.desc).map (fun d => d.parameters.length) = some 2 := by decide +kernel
set_option maxRecDepth 20000 in
theorem ml_X7_266 : am_ml RX7 266 yX2_commonDivisor cX2_commonDivisor 6 (some .int) 2 := ⟨am_in 648 (by decide +kernel) rfl, iw_X2, cw_X2_commonDivisor, nm_X2_commonDivisor.1, nm_X2_commonDivisor.2.1, nm_X2_commonDivisor.2.2, by decide⟩
set_option maxRecDepth 20000 in
theorem cw_X2_sheetsByDraws : Cond.code yX2_sheetsByDraws cX2_sheetsByDraws 9 (some .int) ∈ am_TB := am_in 659 (by decide +kernel) rfl
set_option maxRecDepth 20000 in
theorem im_X2_sheetsByDraws : Cond.instanceMethod yX2_sheetsByDraws ∈ am_TB := am_in 657 (by decide +kernel) rfl
set_option maxRecDepth 20000 in
theorem se_X2_sheetsByDraws : Cond.selects yX2_sheetsByDraws.cls yX2_sheetsByDraws yX2_sheetsByDraws ∈ am_TB := am_in 658 (by decide +kernel) rfl
set_option maxRecDepth 20000 in
theorem nm_X2_sheetsByDraws : yX2_sheetsByDraws.cls ≠ "java/lang/invoke/MethodHandle" ∧ yX2_sheetsByDraws.cls ≠ "java/lang/invoke/VarHandle" ∧ (parseMethodDescriptor yX2_sheetsByDraws.desc).map (fun d => d.parameters.length) = some 2 := by decide +kernel
set_option maxRecDepth 20000 in
theorem ml_X7_270 : am_ml RX7 270 yX2_sheetsByDraws cX2_sheetsByDraws 9 (some .int) 2 := ⟨am_in 656 (by decide +kernel) rfl, iw_X2, cw_X2_sheetsByDraws, nm_X2_sheetsByDraws.1, nm_X2_sheetsByDraws.2.1, nm_X2_sheetsByDraws.2.2, by decide⟩
set_option maxRecDepth 20000 in
theorem cw_X5_landsAdded : Cond.code yX5_landsAdded cX5_landsAdded 3 (some .int) ∈ am_TB := am_in 667 (by decide +kernel) rfl
set_option maxRecDepth 20000 in
theorem im_X5_landsAdded : Cond.instanceMethod yX5_landsAdded ∈ am_TB := am_in 665 (by decide +kernel) rfl
set_option maxRecDepth 20000 in
theorem se_X5_landsAdded : Cond.selects yX5_landsAdded.cls yX5_landsAdded yX5_landsAdded ∈ am_TB := am_in 666 (by decide +kernel) rfl
set_option maxRecDepth 20000 in
theorem nm_X5_landsAdded : yX5_landsAdded.cls ≠ "java/lang/invoke/MethodHandle" ∧ yX5_landsAdded.cls ≠ "java/lang/invoke/VarHandle" ∧ (parseMethodDescriptor yX5_landsAdded.desc).map (fun d => d.parameters.length) = some 0 := by decide +kernel
set_option maxRecDepth 20000 in
theorem ml_X7_276 : am_ml RX7 276 yX5_landsAdded cX5_landsAdded 3 (some .int) 0 := ⟨am_in 664 (by decide +kernel) rfl, iw_X5, cw_X5_landsAdded, nm_X5_landsAdded.1, nm_X5_landsAdded.2.1, nm_X5_landsAdded.2.2, by decide⟩
set_option maxRecDepth 20000 in
theorem cw_X3_isSuch : Cond.code yX3_isSuch cX3_isSuch 4 (some .boolean) ∈ am_TB := am_in 686 (by decide +kernel) rfl
set_option maxRecDepth 20000 in
theorem st_X3_isSuch : Cond.static yX3_isSuch ∈ am_TB := am_in 685 (by decide +kernel) rfl
set_option maxRecDepth 20000 in
theorem nm_X3_isSuch : yX3_isSuch.cls ≠ "java/lang/invoke/MethodHandle" ∧ yX3_isSuch.cls ≠ "java/lang/invoke/VarHandle" ∧ (parseMethodDescriptor yX3_isSuch.desc).map (fun d => d.parameters.length) = some 2 := by decide +kernel
set_option maxRecDepth 20000 in
theorem ml_X7_281 : am_ml RX7 281 yX3_isSuch cX3_isSuch 4 (some .boolean) 2 := ⟨am_in 684 (by decide +kernel) rfl, iw_X3, cw_X3_isSuch, nm_X3_isSuch.1, nm_X3_isSuch.2.1, nm_X3_isSuch.2.2, by decide⟩
set_option maxRecDepth 20000 in
theorem cw_X1_begin : Cond.code yX1_begin cX1_begin 3 (some .int) ∈ am_TB := am_in 699 (by decide +kernel) rfl
set_option maxRecDepth 20000 in
theorem im_X1_begin : Cond.instanceMethod yX1_begin ∈ am_TB := am_in 697 (by decide +kernel) rfl
set_option maxRecDepth 20000 in
theorem se_X1_begin : Cond.selects yX1_begin.cls yX1_begin yX1_begin ∈ am_TB := am_in 698 (by decide +kernel) rfl
set_option maxRecDepth 20000 in
theorem nm_X1_begin : yX1_begin.cls ≠ "java/lang/invoke/MethodHandle" ∧ yX1_begin.cls ≠ "java/lang/invoke/VarHandle" ∧ (parseMethodDescriptor yX1_begin.desc).map (fun d => d.parameters.length) = some 2 := by decide +kernel
set_option maxRecDepth 20000 in
theorem ml_X7_284 : am_ml RX7 284 yX1_begin cX1_begin 3 (some .int) 2 := ⟨am_in 696 (by decide +kernel) rfl, iw_X1, cw_X1_begin, nm_X1_begin.1, nm_X1_begin.2.1, nm_X1_begin.2.2, by decide⟩
set_option maxRecDepth 20000 in
theorem cw_X7_rowsThatAre : Cond.code yX7_rowsThatAre cX7_rowsThatAre 3 (some .int) ∈ am_TB := am_in 731 (by decide +kernel) rfl
set_option maxRecDepth 20000 in
theorem im_X7_rowsThatAre : Cond.instanceMethod yX7_rowsThatAre ∈ am_TB := am_in 730 (by decide +kernel) rfl
set_option maxRecDepth 20000 in
theorem se_X7_rowsThatAre : Cond.selects yX7_rowsThatAre.cls yX7_rowsThatAre yX7_rowsThatAre ∈ am_TB := am_in 19 (by decide +kernel) rfl
set_option maxRecDepth 20000 in
theorem nm_X7_rowsThatAre : yX7_rowsThatAre.cls ≠ "java/lang/invoke/MethodHandle" ∧ yX7_rowsThatAre.cls ≠ "java/lang/invoke/VarHandle" ∧ (parseMethodDescriptor yX7_rowsThatAre.desc).map (fun d => d.parameters.length) = some 0 := by decide +kernel
set_option maxRecDepth 20000 in
theorem ml_X7_292 : am_ml RX7 292 yX7_rowsThatAre cX7_rowsThatAre 3 (some .int) 0 := ⟨am_in 728 (by decide +kernel) rfl, iw_X7, cw_X7_rowsThatAre, nm_X7_rowsThatAre.1, nm_X7_rowsThatAre.2.1, nm_X7_rowsThatAre.2.2, by decide⟩
set_option maxRecDepth 20000 in
theorem cw_X5_allBurnt : Cond.code yX5_allBurnt cX5_allBurnt 3 (some .int) ∈ am_TB := am_in 735 (by decide +kernel) rfl
set_option maxRecDepth 20000 in
theorem im_X5_allBurnt : Cond.instanceMethod yX5_allBurnt ∈ am_TB := am_in 733 (by decide +kernel) rfl
set_option maxRecDepth 20000 in
theorem se_X5_allBurnt : Cond.selects yX5_allBurnt.cls yX5_allBurnt yX5_allBurnt ∈ am_TB := am_in 734 (by decide +kernel) rfl
set_option maxRecDepth 20000 in
theorem nm_X5_allBurnt : yX5_allBurnt.cls ≠ "java/lang/invoke/MethodHandle" ∧ yX5_allBurnt.cls ≠ "java/lang/invoke/VarHandle" ∧ (parseMethodDescriptor yX5_allBurnt.desc).map (fun d => d.parameters.length) = some 0 := by decide +kernel
set_option maxRecDepth 20000 in
theorem ml_X7_298 : am_ml RX7 298 yX5_allBurnt cX5_allBurnt 3 (some .int) 0 := ⟨am_in 732 (by decide +kernel) rfl, iw_X5, cw_X5_allBurnt, nm_X5_allBurnt.1, nm_X5_allBurnt.2.1, nm_X5_allBurnt.2.2, by decide⟩
set_option maxRecDepth 20000 in
theorem lk_X8_1 : Cond.methodLink RX8 1 objectInit ∈ am_TB := am_in 745 (by decide +kernel) rfl
set_option maxRecDepth 20000 in
theorem cw_X8_in : Cond.code yX8_in cX8_in 6 (some .boolean) ∈ am_TB := am_in 830 (by decide +kernel) rfl
set_option maxRecDepth 20000 in
theorem st_X8_in : Cond.static yX8_in ∈ am_TB := am_in 829 (by decide +kernel) rfl
set_option maxRecDepth 20000 in
theorem nm_X8_in : yX8_in.cls ≠ "java/lang/invoke/MethodHandle" ∧ yX8_in.cls ≠ "java/lang/invoke/VarHandle" ∧ (parseMethodDescriptor yX8_in.desc).map (fun d => d.parameters.length) = some 3 := by decide +kernel
set_option maxRecDepth 20000 in
theorem ml_X8_57 : am_ml RX8 57 yX8_in cX8_in 6 (some .boolean) 3 := ⟨am_in 828 (by decide +kernel) rfl, iw_X8, cw_X8_in, nm_X8_in.1, nm_X8_in.2.1, nm_X8_in.2.2, by decide⟩
set_option maxRecDepth 20000 in
theorem cw_X8_isRow : Cond.code yX8_isRow cX8_isRow 1 (some .boolean) ∈ am_TB := am_in 826 (by decide +kernel) rfl
set_option maxRecDepth 20000 in
theorem st_X8_isRow : Cond.static yX8_isRow ∈ am_TB := am_in 825 (by decide +kernel) rfl
set_option maxRecDepth 20000 in
theorem nm_X8_isRow : yX8_isRow.cls ≠ "java/lang/invoke/MethodHandle" ∧ yX8_isRow.cls ≠ "java/lang/invoke/VarHandle" ∧ (parseMethodDescriptor yX8_isRow.desc).map (fun d => d.parameters.length) = some 1 := by decide +kernel
set_option maxRecDepth 20000 in
theorem ml_X8_61 : am_ml RX8 61 yX8_isRow cX8_isRow 1 (some .boolean) 1 := ⟨am_in 824 (by decide +kernel) rfl, iw_X8, cw_X8_isRow, nm_X8_isRow.1, nm_X8_isRow.2.1, nm_X8_isRow.2.2, by decide⟩
set_option maxRecDepth 20000 in
theorem cw_X8_found : Cond.code yX8_found cX8_found 2 (some .int) ∈ am_TB := am_in 836 (by decide +kernel) rfl
set_option maxRecDepth 20000 in
theorem im_X8_found : Cond.instanceMethod yX8_found ∈ am_TB := am_in 835 (by decide +kernel) rfl
set_option maxRecDepth 20000 in
theorem se_X8_found : Cond.selects yX8_found.cls yX8_found yX8_found ∈ am_TB := am_in 20 (by decide +kernel) rfl
set_option maxRecDepth 20000 in
theorem nm_X8_found : yX8_found.cls ≠ "java/lang/invoke/MethodHandle" ∧ yX8_found.cls ≠ "java/lang/invoke/VarHandle" ∧ (parseMethodDescriptor yX8_found.desc).map (fun d => d.parameters.length) = some 1 := by decide +kernel
set_option maxRecDepth 20000 in
theorem ml_X8_68 : am_ml RX8 68 yX8_found cX8_found 2 (some .int) 1 := ⟨am_in 833 (by decide +kernel) rfl, iw_X8, cw_X8_found, nm_X8_found.1, nm_X8_found.2.1, nm_X8_found.2.2, by decide⟩
set_option maxRecDepth 20000 in
theorem cw_X8_well : Cond.code yX8_well cX8_well 2 (some .int) ∈ am_TB := am_in 841 (by decide +kernel) rfl
set_option maxRecDepth 20000 in
theorem im_X8_well : Cond.instanceMethod yX8_well ∈ am_TB := am_in 840 (by decide +kernel) rfl
set_option maxRecDepth 20000 in
theorem se_X8_well : Cond.selects yX8_well.cls yX8_well yX8_well ∈ am_TB := am_in 21 (by decide +kernel) rfl
set_option maxRecDepth 20000 in
theorem nm_X8_well : yX8_well.cls ≠ "java/lang/invoke/MethodHandle" ∧ yX8_well.cls ≠ "java/lang/invoke/VarHandle" ∧ (parseMethodDescriptor yX8_well.desc).map (fun d => d.parameters.length) = some 1 := by decide +kernel
set_option maxRecDepth 20000 in
theorem ml_X8_72 : am_ml RX8 72 yX8_well cX8_well 2 (some .int) 1 := ⟨am_in 838 (by decide +kernel) rfl, iw_X8, cw_X8_well, nm_X8_well.1, nm_X8_well.2.1, nm_X8_well.2.2, by decide⟩
set_option maxRecDepth 20000 in
theorem cw_X8_isFigure : Cond.code yX8_isFigure cX8_isFigure 1 (some .boolean) ∈ am_TB := am_in 880 (by decide +kernel) rfl
set_option maxRecDepth 20000 in
theorem st_X8_isFigure : Cond.static yX8_isFigure ∈ am_TB := am_in 879 (by decide +kernel) rfl
set_option maxRecDepth 20000 in
theorem nm_X8_isFigure : yX8_isFigure.cls ≠ "java/lang/invoke/MethodHandle" ∧ yX8_isFigure.cls ≠ "java/lang/invoke/VarHandle" ∧ (parseMethodDescriptor yX8_isFigure.desc).map (fun d => d.parameters.length) = some 1 := by decide +kernel
set_option maxRecDepth 20000 in
theorem ml_X8_98 : am_ml RX8 98 yX8_isFigure cX8_isFigure 1 (some .boolean) 1 := ⟨am_in 878 (by decide +kernel) rfl, iw_X8, cw_X8_isFigure, nm_X8_isFigure.1, nm_X8_isFigure.2.1, nm_X8_isFigure.2.2, by decide⟩
set_option maxRecDepth 20000 in
theorem cw_X8_next : Cond.code yX8_next cX8_next 2 none ∈ am_TB := am_in 875 (by decide +kernel) rfl
set_option maxRecDepth 20000 in
theorem im_X8_next : Cond.instanceMethod yX8_next ∈ am_TB := am_in 874 (by decide +kernel) rfl
set_option maxRecDepth 20000 in
theorem se_X8_next : Cond.selects yX8_next.cls yX8_next yX8_next ∈ am_TB := am_in 24 (by decide +kernel) rfl
set_option maxRecDepth 20000 in
theorem nm_X8_next : yX8_next.cls ≠ "java/lang/invoke/MethodHandle" ∧ yX8_next.cls ≠ "java/lang/invoke/VarHandle" ∧ (parseMethodDescriptor yX8_next.desc).map (fun d => d.parameters.length) = some 0 := by decide +kernel
set_option maxRecDepth 20000 in
theorem ml_X8_110 : am_ml RX8 110 yX8_next cX8_next 2 none 0 := ⟨am_in 872 (by decide +kernel) rfl, iw_X8, cw_X8_next, nm_X8_next.1, nm_X8_next.2.1, nm_X8_next.2.2, by decide⟩
set_option maxRecDepth 20000 in
theorem cw_X8_fails : Cond.code yX8_fails cX8_fails 2 (some .boolean) ∈ am_TB := am_in 886 (by decide +kernel) rfl
set_option maxRecDepth 20000 in
theorem im_X8_fails : Cond.instanceMethod yX8_fails ∈ am_TB := am_in 885 (by decide +kernel) rfl
set_option maxRecDepth 20000 in
theorem se_X8_fails : Cond.selects yX8_fails.cls yX8_fails yX8_fails ∈ am_TB := am_in 25 (by decide +kernel) rfl
set_option maxRecDepth 20000 in
theorem nm_X8_fails : yX8_fails.cls ≠ "java/lang/invoke/MethodHandle" ∧ yX8_fails.cls ≠ "java/lang/invoke/VarHandle" ∧ (parseMethodDescriptor yX8_fails.desc).map (fun d => d.parameters.length) = some 1 := by decide +kernel
set_option maxRecDepth 20000 in
theorem ml_X8_113 : am_ml RX8 113 yX8_fails cX8_fails 2 (some .boolean) 1 := ⟨am_in 883 (by decide +kernel) rfl, iw_X8, cw_X8_fails, nm_X8_fails.1, nm_X8_fails.2.1, nm_X8_fails.2.2, by decide⟩
set_option maxRecDepth 20000 in
theorem cw_X8_number : Cond.code yX8_number cX8_number 3 (some .boolean) ∈ am_TB := am_in 890 (by decide +kernel) rfl
set_option maxRecDepth 20000 in
theorem im_X8_number : Cond.instanceMethod yX8_number ∈ am_TB := am_in 889 (by decide +kernel) rfl
set_option maxRecDepth 20000 in
theorem se_X8_number : Cond.selects yX8_number.cls yX8_number yX8_number ∈ am_TB := am_in 26 (by decide +kernel) rfl
set_option maxRecDepth 20000 in
theorem nm_X8_number : yX8_number.cls ≠ "java/lang/invoke/MethodHandle" ∧ yX8_number.cls ≠ "java/lang/invoke/VarHandle" ∧ (parseMethodDescriptor yX8_number.desc).map (fun d => d.parameters.length) = some 2 := by decide +kernel
set_option maxRecDepth 20000 in
theorem ml_X8_116 : am_ml RX8 116 yX8_number cX8_number 3 (some .boolean) 2 := ⟨am_in 887 (by decide +kernel) rfl, iw_X8, cw_X8_number, nm_X8_number.1, nm_X8_number.2.1, nm_X8_number.2.2, by decide⟩
set_option maxRecDepth 20000 in
theorem cw_X8_sign : Cond.code yX8_sign cX8_sign 2 (some .boolean) ∈ am_TB := am_in 894 (by decide +kernel) rfl
set_option maxRecDepth 20000 in
theorem im_X8_sign : Cond.instanceMethod yX8_sign ∈ am_TB := am_in 893 (by decide +kernel) rfl
set_option maxRecDepth 20000 in
theorem se_X8_sign : Cond.selects yX8_sign.cls yX8_sign yX8_sign ∈ am_TB := am_in 27 (by decide +kernel) rfl
set_option maxRecDepth 20000 in
theorem nm_X8_sign : yX8_sign.cls ≠ "java/lang/invoke/MethodHandle" ∧ yX8_sign.cls ≠ "java/lang/invoke/VarHandle" ∧ (parseMethodDescriptor yX8_sign.desc).map (fun d => d.parameters.length) = some 1 := by decide +kernel
set_option maxRecDepth 20000 in
theorem ml_X8_120 : am_ml RX8 120 yX8_sign cX8_sign 2 (some .boolean) 1 := ⟨am_in 891 (by decide +kernel) rfl, iw_X8, cw_X8_sign, nm_X8_sign.1, nm_X8_sign.2.1, nm_X8_sign.2.2, by decide⟩
set_option maxRecDepth 20000 in
theorem cw_X8_sortOf : Cond.code yX8_sortOf cX8_sortOf 1 (some .int) ∈ am_TB := am_in 901 (by decide +kernel) rfl
set_option maxRecDepth 20000 in
theorem st_X8_sortOf : Cond.static yX8_sortOf ∈ am_TB := am_in 900 (by decide +kernel) rfl
set_option maxRecDepth 20000 in
theorem nm_X8_sortOf : yX8_sortOf.cls ≠ "java/lang/invoke/MethodHandle" ∧ yX8_sortOf.cls ≠ "java/lang/invoke/VarHandle" ∧ (parseMethodDescriptor yX8_sortOf.desc).map (fun d => d.parameters.length) = some 1 := by decide +kernel
set_option maxRecDepth 20000 in
theorem ml_X8_123 : am_ml RX8 123 yX8_sortOf cX8_sortOf 1 (some .int) 1 := ⟨am_in 899 (by decide +kernel) rfl, iw_X8, cw_X8_sortOf, nm_X8_sortOf.1, nm_X8_sortOf.2.1, nm_X8_sortOf.2.2, by decide⟩
set_option maxRecDepth 20000 in
theorem cw_X8_readsLaw : Cond.code yX8_readsLaw cX8_readsLaw 2 (some .boolean) ∈ am_TB := am_in 871 (by decide +kernel) rfl
set_option maxRecDepth 20000 in
theorem im_X8_readsLaw : Cond.instanceMethod yX8_readsLaw ∈ am_TB := am_in 870 (by decide +kernel) rfl
set_option maxRecDepth 20000 in
theorem se_X8_readsLaw : Cond.selects yX8_readsLaw.cls yX8_readsLaw yX8_readsLaw ∈ am_TB := am_in 23 (by decide +kernel) rfl
set_option maxRecDepth 20000 in
theorem nm_X8_readsLaw : yX8_readsLaw.cls ≠ "java/lang/invoke/MethodHandle" ∧ yX8_readsLaw.cls ≠ "java/lang/invoke/VarHandle" ∧ (parseMethodDescriptor yX8_readsLaw.desc).map (fun d => d.parameters.length) = some 0 := by decide +kernel
set_option maxRecDepth 20000 in
theorem ml_X8_126 : am_ml RX8 126 yX8_readsLaw cX8_readsLaw 2 (some .boolean) 0 := ⟨am_in 868 (by decide +kernel) rfl, iw_X8, cw_X8_readsLaw, nm_X8_readsLaw.1, nm_X8_readsLaw.2.1, nm_X8_readsLaw.2.2, by decide⟩
set_option maxRecDepth 20000 in
theorem cw_X8_readsOffice : Cond.code yX8_readsOffice cX8_readsOffice 3 (some .boolean) ∈ am_TB := am_in 898 (by decide +kernel) rfl
set_option maxRecDepth 20000 in
theorem im_X8_readsOffice : Cond.instanceMethod yX8_readsOffice ∈ am_TB := am_in 897 (by decide +kernel) rfl
set_option maxRecDepth 20000 in
theorem se_X8_readsOffice : Cond.selects yX8_readsOffice.cls yX8_readsOffice yX8_readsOffice ∈ am_TB := am_in 28 (by decide +kernel) rfl
set_option maxRecDepth 20000 in
theorem nm_X8_readsOffice : yX8_readsOffice.cls ≠ "java/lang/invoke/MethodHandle" ∧ yX8_readsOffice.cls ≠ "java/lang/invoke/VarHandle" ∧ (parseMethodDescriptor yX8_readsOffice.desc).map (fun d => d.parameters.length) = some 0 := by decide +kernel
set_option maxRecDepth 20000 in
theorem ml_X8_130 : am_ml RX8 130 yX8_readsOffice cX8_readsOffice 3 (some .boolean) 0 := ⟨am_in 895 (by decide +kernel) rfl, iw_X8, cw_X8_readsOffice, nm_X8_readsOffice.1, nm_X8_readsOffice.2.1, nm_X8_readsOffice.2.2, by decide⟩
set_option maxRecDepth 20000 in
theorem cw_X8_reads : Cond.code yX8_reads cX8_reads 2 (some .boolean) ∈ am_TB := am_in 867 (by decide +kernel) rfl
set_option maxRecDepth 20000 in
theorem im_X8_reads : Cond.instanceMethod yX8_reads ∈ am_TB := am_in 866 (by decide +kernel) rfl
set_option maxRecDepth 20000 in
theorem se_X8_reads : Cond.selects yX8_reads.cls yX8_reads yX8_reads ∈ am_TB := am_in 22 (by decide +kernel) rfl
set_option maxRecDepth 20000 in
theorem nm_X8_reads : yX8_reads.cls ≠ "java/lang/invoke/MethodHandle" ∧ yX8_reads.cls ≠ "java/lang/invoke/VarHandle" ∧ (parseMethodDescriptor yX8_reads.desc).map (fun d => d.parameters.length) = some 0 := by decide +kernel
set_option maxRecDepth 20000 in
theorem ml_X8_133 : am_ml RX8 133 yX8_reads cX8_reads 2 (some .boolean) 0 := ⟨am_in 864 (by decide +kernel) rfl, iw_X8, cw_X8_reads, nm_X8_reads.1, nm_X8_reads.2.1, nm_X8_reads.2.2, by decide⟩
set_option maxRecDepth 20000 in
theorem cw_X8_copies : Cond.code yX8_copies cX8_copies 5 none ∈ am_TB := am_in 905 (by decide +kernel) rfl
set_option maxRecDepth 20000 in
theorem st_X8_copies : Cond.static yX8_copies ∈ am_TB := am_in 904 (by decide +kernel) rfl
set_option maxRecDepth 20000 in
theorem nm_X8_copies : yX8_copies.cls ≠ "java/lang/invoke/MethodHandle" ∧ yX8_copies.cls ≠ "java/lang/invoke/VarHandle" ∧ (parseMethodDescriptor yX8_copies.desc).map (fun d => d.parameters.length) = some 4 := by decide +kernel
set_option maxRecDepth 20000 in
theorem ml_X8_144 : am_ml RX8 144 yX8_copies cX8_copies 5 none 4 := ⟨am_in 903 (by decide +kernel) rfl, iw_X8, cw_X8_copies, nm_X8_copies.1, nm_X8_copies.2.1, nm_X8_copies.2.2, by decide⟩
set_option maxRecDepth 20000 in
theorem cw_X8_liftOf : Cond.code yX8_liftOf cX8_liftOf 2 (some .int) ∈ am_TB := am_in 959 (by decide +kernel) rfl
set_option maxRecDepth 20000 in
theorem st_X8_liftOf : Cond.static yX8_liftOf ∈ am_TB := am_in 958 (by decide +kernel) rfl
set_option maxRecDepth 20000 in
theorem nm_X8_liftOf : yX8_liftOf.cls ≠ "java/lang/invoke/MethodHandle" ∧ yX8_liftOf.cls ≠ "java/lang/invoke/VarHandle" ∧ (parseMethodDescriptor yX8_liftOf.desc).map (fun d => d.parameters.length) = some 2 := by decide +kernel
set_option maxRecDepth 20000 in
theorem ml_X8_150 : am_ml RX8 150 yX8_liftOf cX8_liftOf 2 (some .int) 2 := ⟨am_in 957 (by decide +kernel) rfl, iw_X8, cw_X8_liftOf, nm_X8_liftOf.1, nm_X8_liftOf.2.1, nm_X8_liftOf.2.2, by decide⟩
set_option maxRecDepth 20000 in
theorem cw_X8_bandOf : Cond.code yX8_bandOf cX8_bandOf 1 (some .int) ∈ am_TB := am_in 935 (by decide +kernel) rfl
set_option maxRecDepth 20000 in
theorem st_X8_bandOf : Cond.static yX8_bandOf ∈ am_TB := am_in 934 (by decide +kernel) rfl
set_option maxRecDepth 20000 in
theorem nm_X8_bandOf : yX8_bandOf.cls ≠ "java/lang/invoke/MethodHandle" ∧ yX8_bandOf.cls ≠ "java/lang/invoke/VarHandle" ∧ (parseMethodDescriptor yX8_bandOf.desc).map (fun d => d.parameters.length) = some 1 := by decide +kernel
set_option maxRecDepth 20000 in
theorem ml_X8_154 : am_ml RX8 154 yX8_bandOf cX8_bandOf 1 (some .int) 1 := ⟨am_in 933 (by decide +kernel) rfl, iw_X8, cw_X8_bandOf, nm_X8_bandOf.1, nm_X8_bandOf.2.1, nm_X8_bandOf.2.2, by decide⟩
set_option maxRecDepth 20000 in
theorem cw_X8_sunk : Cond.code yX8_sunk cX8_sunk 2 (some .int) ∈ am_TB := am_in 929 (by decide +kernel) rfl
set_option maxRecDepth 20000 in
theorem st_X8_sunk : Cond.static yX8_sunk ∈ am_TB := am_in 928 (by decide +kernel) rfl
set_option maxRecDepth 20000 in
theorem nm_X8_sunk : yX8_sunk.cls ≠ "java/lang/invoke/MethodHandle" ∧ yX8_sunk.cls ≠ "java/lang/invoke/VarHandle" ∧ (parseMethodDescriptor yX8_sunk.desc).map (fun d => d.parameters.length) = some 2 := by decide +kernel
set_option maxRecDepth 20000 in
theorem ml_X8_157 : am_ml RX8 157 yX8_sunk cX8_sunk 2 (some .int) 2 := ⟨am_in 927 (by decide +kernel) rfl, iw_X8, cw_X8_sunk, nm_X8_sunk.1, nm_X8_sunk.2.1, nm_X8_sunk.2.2, by decide⟩
set_option maxRecDepth 20000 in
theorem cw_X8_carried : Cond.code yX8_carried cX8_carried 4 (some .int) ∈ am_TB := am_in 932 (by decide +kernel) rfl
set_option maxRecDepth 20000 in
theorem st_X8_carried : Cond.static yX8_carried ∈ am_TB := am_in 931 (by decide +kernel) rfl
set_option maxRecDepth 20000 in
theorem nm_X8_carried : yX8_carried.cls ≠ "java/lang/invoke/MethodHandle" ∧ yX8_carried.cls ≠ "java/lang/invoke/VarHandle" ∧ (parseMethodDescriptor yX8_carried.desc).map (fun d => d.parameters.length) = some 3 := by decide +kernel
set_option maxRecDepth 20000 in
theorem ml_X8_161 : am_ml RX8 161 yX8_carried cX8_carried 4 (some .int) 3 := ⟨am_in 930 (by decide +kernel) rfl, iw_X8, cw_X8_carried, nm_X8_carried.1, nm_X8_carried.2.1, nm_X8_carried.2.2, by decide⟩
set_option maxRecDepth 20000 in
theorem cw_X8_lifted : Cond.code yX8_lifted cX8_lifted 5 (some .int) ∈ am_TB := am_in 956 (by decide +kernel) rfl
set_option maxRecDepth 20000 in
theorem st_X8_lifted : Cond.static yX8_lifted ∈ am_TB := am_in 955 (by decide +kernel) rfl
set_option maxRecDepth 20000 in
theorem nm_X8_lifted : yX8_lifted.cls ≠ "java/lang/invoke/MethodHandle" ∧ yX8_lifted.cls ≠ "java/lang/invoke/VarHandle" ∧ (parseMethodDescriptor yX8_lifted.desc).map (fun d => d.parameters.length) = some 3 := by decide +kernel
set_option maxRecDepth 20000 in
theorem ml_X8_165 : am_ml RX8 165 yX8_lifted cX8_lifted 5 (some .int) 3 := ⟨am_in 954 (by decide +kernel) rfl, iw_X8, cw_X8_lifted, nm_X8_lifted.1, nm_X8_lifted.2.1, nm_X8_lifted.2.2, by decide⟩
set_option maxRecDepth 20000 in
theorem cw_X8_remember : Cond.code yX8_remember cX8_remember 2 none ∈ am_TB := am_in 923 (by decide +kernel) rfl
set_option maxRecDepth 20000 in
theorem im_X8_remember : Cond.instanceMethod yX8_remember ∈ am_TB := am_in 922 (by decide +kernel) rfl
set_option maxRecDepth 20000 in
theorem se_X8_remember : Cond.selects yX8_remember.cls yX8_remember yX8_remember ∈ am_TB := am_in 29 (by decide +kernel) rfl
set_option maxRecDepth 20000 in
theorem nm_X8_remember : yX8_remember.cls ≠ "java/lang/invoke/MethodHandle" ∧ yX8_remember.cls ≠ "java/lang/invoke/VarHandle" ∧ (parseMethodDescriptor yX8_remember.desc).map (fun d => d.parameters.length) = some 0 := by decide +kernel
set_option maxRecDepth 20000 in
theorem ml_X8_172 : am_ml RX8 172 yX8_remember cX8_remember 2 none 0 := ⟨am_in 920 (by decide +kernel) rfl, iw_X8, cw_X8_remember, nm_X8_remember.1, nm_X8_remember.2.1, nm_X8_remember.2.2, by decide⟩
set_option maxRecDepth 20000 in
theorem cw_X8_hourGoes : Cond.code yX8_hourGoes cX8_hourGoes 2 none ∈ am_TB := am_in 926 (by decide +kernel) rfl
set_option maxRecDepth 20000 in
theorem st_X8_hourGoes : Cond.static yX8_hourGoes ∈ am_TB := am_in 925 (by decide +kernel) rfl
set_option maxRecDepth 20000 in
theorem nm_X8_hourGoes : yX8_hourGoes.cls ≠ "java/lang/invoke/MethodHandle" ∧ yX8_hourGoes.cls ≠ "java/lang/invoke/VarHandle" ∧ (parseMethodDescriptor yX8_hourGoes.desc).map (fun d => d.parameters.length) = some 1 := by decide +kernel
set_option maxRecDepth 20000 in
theorem ml_X8_175 : am_ml RX8 175 yX8_hourGoes cX8_hourGoes 2 none 1 := ⟨am_in 924 (by decide +kernel) rfl, iw_X8, cw_X8_hourGoes, nm_X8_hourGoes.1, nm_X8_hourGoes.2.1, nm_X8_hourGoes.2.2, by decide⟩
set_option maxRecDepth 20000 in
theorem cw_X8_flying : Cond.code yX8_flying cX8_flying 3 (some .int) ∈ am_TB := am_in 938 (by decide +kernel) rfl
set_option maxRecDepth 20000 in
theorem st_X8_flying : Cond.static yX8_flying ∈ am_TB := am_in 937 (by decide +kernel) rfl
set_option maxRecDepth 20000 in
theorem nm_X8_flying : yX8_flying.cls ≠ "java/lang/invoke/MethodHandle" ∧ yX8_flying.cls ≠ "java/lang/invoke/VarHandle" ∧ (parseMethodDescriptor yX8_flying.desc).map (fun d => d.parameters.length) = some 1 := by decide +kernel
set_option maxRecDepth 20000 in
theorem ml_X8_179 : am_ml RX8 179 yX8_flying cX8_flying 3 (some .int) 1 := ⟨am_in 936 (by decide +kernel) rfl, iw_X8, cw_X8_flying, nm_X8_flying.1, nm_X8_flying.2.1, nm_X8_flying.2.2, by decide⟩
set_option maxRecDepth 20000 in
theorem cw_X8_bits : Cond.code yX8_bits cX8_bits 3 (some .int) ∈ am_TB := am_in 941 (by decide +kernel) rfl
set_option maxRecDepth 20000 in
theorem st_X8_bits : Cond.static yX8_bits ∈ am_TB := am_in 940 (by decide +kernel) rfl
set_option maxRecDepth 20000 in
theorem nm_X8_bits : yX8_bits.cls ≠ "java/lang/invoke/MethodHandle" ∧ yX8_bits.cls ≠ "java/lang/invoke/VarHandle" ∧ (parseMethodDescriptor yX8_bits.desc).map (fun d => d.parameters.length) = some 1 := by decide +kernel
set_option maxRecDepth 20000 in
theorem ml_X8_183 : am_ml RX8 183 yX8_bits cX8_bits 3 (some .int) 1 := ⟨am_in 939 (by decide +kernel) rfl, iw_X8, cw_X8_bits, nm_X8_bits.1, nm_X8_bits.2.1, nm_X8_bits.2.2, by decide⟩
set_option maxRecDepth 20000 in
theorem cw_X8_isOffice : Cond.code yX8_isOffice cX8_isOffice 2 (some .boolean) ∈ am_TB := am_in 949 (by decide +kernel) rfl
set_option maxRecDepth 20000 in
theorem im_X8_isOffice : Cond.instanceMethod yX8_isOffice ∈ am_TB := am_in 948 (by decide +kernel) rfl
set_option maxRecDepth 20000 in
theorem se_X8_isOffice : Cond.selects yX8_isOffice.cls yX8_isOffice yX8_isOffice ∈ am_TB := am_in 30 (by decide +kernel) rfl
set_option maxRecDepth 20000 in
theorem nm_X8_isOffice : yX8_isOffice.cls ≠ "java/lang/invoke/MethodHandle" ∧ yX8_isOffice.cls ≠ "java/lang/invoke/VarHandle" ∧ (parseMethodDescriptor yX8_isOffice.desc).map (fun d => d.parameters.length) = some 1 := by decide +kernel
set_option maxRecDepth 20000 in
theorem ml_X8_186 : am_ml RX8 186 yX8_isOffice cX8_isOffice 2 (some .boolean) 1 := ⟨am_in 946 (by decide +kernel) rfl, iw_X8, cw_X8_isOffice, nm_X8_isOffice.1, nm_X8_isOffice.2.1, nm_X8_isOffice.2.2, by decide⟩
set_option maxRecDepth 20000 in
theorem cw_X8_burns : Cond.code yX8_burns cX8_burns 3 none ∈ am_TB := am_in 953 (by decide +kernel) rfl
set_option maxRecDepth 20000 in
theorem st_X8_burns : Cond.static yX8_burns ∈ am_TB := am_in 952 (by decide +kernel) rfl
set_option maxRecDepth 20000 in
theorem nm_X8_burns : yX8_burns.cls ≠ "java/lang/invoke/MethodHandle" ∧ yX8_burns.cls ≠ "java/lang/invoke/VarHandle" ∧ (parseMethodDescriptor yX8_burns.desc).map (fun d => d.parameters.length) = some 3 := by decide +kernel
set_option maxRecDepth 20000 in
theorem ml_X8_191 : am_ml RX8 191 yX8_burns cX8_burns 3 none 3 := ⟨am_in 951 (by decide +kernel) rfl, iw_X8, cw_X8_burns, nm_X8_burns.1, nm_X8_burns.2.1, nm_X8_burns.2.2, by decide⟩
set_option maxRecDepth 20000 in
theorem cw_X8_isLand : Cond.code yX8_isLand cX8_isLand 1 (some .boolean) ∈ am_TB := am_in 982 (by decide +kernel) rfl
set_option maxRecDepth 20000 in
theorem st_X8_isLand : Cond.static yX8_isLand ∈ am_TB := am_in 981 (by decide +kernel) rfl
set_option maxRecDepth 20000 in
theorem nm_X8_isLand : yX8_isLand.cls ≠ "java/lang/invoke/MethodHandle" ∧ yX8_isLand.cls ≠ "java/lang/invoke/VarHandle" ∧ (parseMethodDescriptor yX8_isLand.desc).map (fun d => d.parameters.length) = some 1 := by decide +kernel
set_option maxRecDepth 20000 in
theorem ml_X8_203 : am_ml RX8 203 yX8_isLand cX8_isLand 1 (some .boolean) 1 := ⟨am_in 980 (by decide +kernel) rfl, iw_X8, cw_X8_isLand, nm_X8_isLand.1, nm_X8_isLand.2.1, nm_X8_isLand.2.2, by decide⟩
set_option maxRecDepth 20000 in
theorem cw_X8_overOn : Cond.code yX8_overOn cX8_overOn 4 (some .int) ∈ am_TB := am_in 986 (by decide +kernel) rfl
set_option maxRecDepth 20000 in
theorem st_X8_overOn : Cond.static yX8_overOn ∈ am_TB := am_in 985 (by decide +kernel) rfl
set_option maxRecDepth 20000 in
theorem nm_X8_overOn : yX8_overOn.cls ≠ "java/lang/invoke/MethodHandle" ∧ yX8_overOn.cls ≠ "java/lang/invoke/VarHandle" ∧ (parseMethodDescriptor yX8_overOn.desc).map (fun d => d.parameters.length) = some 2 := by decide +kernel
set_option maxRecDepth 20000 in
theorem ml_X8_206 : am_ml RX8 206 yX8_overOn cX8_overOn 4 (some .int) 2 := ⟨am_in 984 (by decide +kernel) rfl, iw_X8, cw_X8_overOn, nm_X8_overOn.1, nm_X8_overOn.2.1, nm_X8_overOn.2.2, by decide⟩
set_option maxRecDepth 20000 in
theorem cw_X8_isTwo : Cond.code yX8_isTwo cX8_isTwo 1 (some .boolean) ∈ am_TB := am_in 993 (by decide +kernel) rfl
set_option maxRecDepth 20000 in
theorem st_X8_isTwo : Cond.static yX8_isTwo ∈ am_TB := am_in 992 (by decide +kernel) rfl
set_option maxRecDepth 20000 in
theorem nm_X8_isTwo : yX8_isTwo.cls ≠ "java/lang/invoke/MethodHandle" ∧ yX8_isTwo.cls ≠ "java/lang/invoke/VarHandle" ∧ (parseMethodDescriptor yX8_isTwo.desc).map (fun d => d.parameters.length) = some 1 := by decide +kernel
set_option maxRecDepth 20000 in
theorem ml_X8_209 : am_ml RX8 209 yX8_isTwo cX8_isTwo 1 (some .boolean) 1 := ⟨am_in 991 (by decide +kernel) rfl, iw_X8, cw_X8_isTwo, nm_X8_isTwo.1, nm_X8_isTwo.2.1, nm_X8_isTwo.2.2, by decide⟩
set_option maxRecDepth 20000 in
theorem cw_X8_goAside : Cond.code yX8_goAside cX8_goAside 3 none ∈ am_TB := am_in 997 (by decide +kernel) rfl
set_option maxRecDepth 20000 in
theorem im_X8_goAside : Cond.instanceMethod yX8_goAside ∈ am_TB := am_in 996 (by decide +kernel) rfl
set_option maxRecDepth 20000 in
theorem se_X8_goAside : Cond.selects yX8_goAside.cls yX8_goAside yX8_goAside ∈ am_TB := am_in 31 (by decide +kernel) rfl
set_option maxRecDepth 20000 in
theorem nm_X8_goAside : yX8_goAside.cls ≠ "java/lang/invoke/MethodHandle" ∧ yX8_goAside.cls ≠ "java/lang/invoke/VarHandle" ∧ (parseMethodDescriptor yX8_goAside.desc).map (fun d => d.parameters.length) = some 1 := by decide +kernel
set_option maxRecDepth 20000 in
theorem ml_X8_212 : am_ml RX8 212 yX8_goAside cX8_goAside 3 none 1 := ⟨am_in 994 (by decide +kernel) rfl, iw_X8, cw_X8_goAside, nm_X8_goAside.1, nm_X8_goAside.2.1, nm_X8_goAside.2.2, by decide⟩
set_option maxRecDepth 20000 in
theorem cw_X8_cell : Cond.code yX8_cell cX8_cell 3 (some .int) ∈ am_TB := am_in 1027 (by decide +kernel) rfl
set_option maxRecDepth 20000 in
theorem st_X8_cell : Cond.static yX8_cell ∈ am_TB := am_in 1026 (by decide +kernel) rfl
set_option maxRecDepth 20000 in
theorem nm_X8_cell : yX8_cell.cls ≠ "java/lang/invoke/MethodHandle" ∧ yX8_cell.cls ≠ "java/lang/invoke/VarHandle" ∧ (parseMethodDescriptor yX8_cell.desc).map (fun d => d.parameters.length) = some 3 := by decide +kernel
set_option maxRecDepth 20000 in
theorem ml_X8_217 : am_ml RX8 217 yX8_cell cX8_cell 3 (some .int) 3 := ⟨am_in 1025 (by decide +kernel) rfl, iw_X8, cw_X8_cell, nm_X8_cell.1, nm_X8_cell.2.1, nm_X8_cell.2.2, by decide⟩
set_option maxRecDepth 20000 in
theorem cw_X8_fewestBy : Cond.code yX8_fewestBy cX8_fewestBy 7 (some .int) ∈ am_TB := am_in 1024 (by decide +kernel) rfl
set_option maxRecDepth 20000 in
theorem im_X8_fewestBy : Cond.instanceMethod yX8_fewestBy ∈ am_TB := am_in 1023 (by decide +kernel) rfl
set_option maxRecDepth 20000 in
theorem se_X8_fewestBy : Cond.selects yX8_fewestBy.cls yX8_fewestBy yX8_fewestBy ∈ am_TB := am_in 33 (by decide +kernel) rfl
set_option maxRecDepth 20000 in
theorem nm_X8_fewestBy : yX8_fewestBy.cls ≠ "java/lang/invoke/MethodHandle" ∧ yX8_fewestBy.cls ≠ "java/lang/invoke/VarHandle" ∧ (parseMethodDescriptor yX8_fewestBy.desc).map (fun d => d.parameters.length) = some 5 := by decide +kernel
set_option maxRecDepth 20000 in
theorem ml_X8_221 : am_ml RX8 221 yX8_fewestBy cX8_fewestBy 7 (some .int) 5 := ⟨am_in 1021 (by decide +kernel) rfl, iw_X8, cw_X8_fewestBy, nm_X8_fewestBy.1, nm_X8_fewestBy.2.1, nm_X8_fewestBy.2.2, by decide⟩
set_option maxRecDepth 20000 in
theorem cw_X8_layFewest : Cond.code yX8_layFewest cX8_layFewest 11 none ∈ am_TB := am_in 1019 (by decide +kernel) rfl
set_option maxRecDepth 20000 in
theorem im_X8_layFewest : Cond.instanceMethod yX8_layFewest ∈ am_TB := am_in 1018 (by decide +kernel) rfl
set_option maxRecDepth 20000 in
theorem se_X8_layFewest : Cond.selects yX8_layFewest.cls yX8_layFewest yX8_layFewest ∈ am_TB := am_in 32 (by decide +kernel) rfl
set_option maxRecDepth 20000 in
theorem nm_X8_layFewest : yX8_layFewest.cls ≠ "java/lang/invoke/MethodHandle" ∧ yX8_layFewest.cls ≠ "java/lang/invoke/VarHandle" ∧ (parseMethodDescriptor yX8_layFewest.desc).map (fun d => d.parameters.length) = some 4 := by decide +kernel
set_option maxRecDepth 20000 in
theorem ml_X8_227 : am_ml RX8 227 yX8_layFewest cX8_layFewest 11 none 4 := ⟨am_in 1016 (by decide +kernel) rfl, iw_X8, cw_X8_layFewest, nm_X8_layFewest.1, nm_X8_layFewest.2.1, nm_X8_layFewest.2.2, by decide⟩
set_option maxRecDepth 20000 in
theorem cw_X8_lies : Cond.code yX8_lies cX8_lies 4 (some .int) ∈ am_TB := am_in 1036 (by decide +kernel) rfl
set_option maxRecDepth 20000 in
theorem im_X8_lies : Cond.instanceMethod yX8_lies ∈ am_TB := am_in 1035 (by decide +kernel) rfl
set_option maxRecDepth 20000 in
theorem se_X8_lies : Cond.selects yX8_lies.cls yX8_lies yX8_lies ∈ am_TB := am_in 34 (by decide +kernel) rfl
set_option maxRecDepth 20000 in
theorem nm_X8_lies : yX8_lies.cls ≠ "java/lang/invoke/MethodHandle" ∧ yX8_lies.cls ≠ "java/lang/invoke/VarHandle" ∧ (parseMethodDescriptor yX8_lies.desc).map (fun d => d.parameters.length) = some 3 := by decide +kernel
set_option maxRecDepth 20000 in
theorem ml_X8_233 : am_ml RX8 233 yX8_lies cX8_lies 4 (some .int) 3 := ⟨am_in 1033 (by decide +kernel) rfl, iw_X8, cw_X8_lies, nm_X8_lies.1, nm_X8_lies.2.1, nm_X8_lies.2.2, by decide⟩
set_option maxRecDepth 20000 in
theorem cw_X8_comesSo : Cond.code yX8_comesSo cX8_comesSo 8 (some .boolean) ∈ am_TB := am_in 1045 (by decide +kernel) rfl
set_option maxRecDepth 20000 in
theorem im_X8_comesSo : Cond.instanceMethod yX8_comesSo ∈ am_TB := am_in 1044 (by decide +kernel) rfl
set_option maxRecDepth 20000 in
theorem se_X8_comesSo : Cond.selects yX8_comesSo.cls yX8_comesSo yX8_comesSo ∈ am_TB := am_in 35 (by decide +kernel) rfl
set_option maxRecDepth 20000 in
theorem nm_X8_comesSo : yX8_comesSo.cls ≠ "java/lang/invoke/MethodHandle" ∧ yX8_comesSo.cls ≠ "java/lang/invoke/VarHandle" ∧ (parseMethodDescriptor yX8_comesSo.desc).map (fun d => d.parameters.length) = some 4 := by decide +kernel
set_option maxRecDepth 20000 in
theorem ml_X8_238 : am_ml RX8 238 yX8_comesSo cX8_comesSo 8 (some .boolean) 4 := ⟨am_in 1042 (by decide +kernel) rfl, iw_X8, cw_X8_comesSo, nm_X8_comesSo.1, nm_X8_comesSo.2.1, nm_X8_comesSo.2.2, by decide⟩
set_option maxRecDepth 20000 in
theorem cw_X8_lastsWith : Cond.code yX8_lastsWith cX8_lastsWith 7 (some .int) ∈ am_TB := am_in 1061 (by decide +kernel) rfl
set_option maxRecDepth 20000 in
theorem im_X8_lastsWith : Cond.instanceMethod yX8_lastsWith ∈ am_TB := am_in 1060 (by decide +kernel) rfl
set_option maxRecDepth 20000 in
theorem se_X8_lastsWith : Cond.selects yX8_lastsWith.cls yX8_lastsWith yX8_lastsWith ∈ am_TB := am_in 36 (by decide +kernel) rfl
set_option maxRecDepth 20000 in
theorem nm_X8_lastsWith : yX8_lastsWith.cls ≠ "java/lang/invoke/MethodHandle" ∧ yX8_lastsWith.cls ≠ "java/lang/invoke/VarHandle" ∧ (parseMethodDescriptor yX8_lastsWith.desc).map (fun d => d.parameters.length) = some 2 := by decide +kernel
set_option maxRecDepth 20000 in
theorem ml_X8_242 : am_ml RX8 242 yX8_lastsWith cX8_lastsWith 7 (some .int) 2 := ⟨am_in 1058 (by decide +kernel) rfl, iw_X8, cw_X8_lastsWith, nm_X8_lastsWith.1, nm_X8_lastsWith.2.1, nm_X8_lastsWith.2.2, by decide⟩
set_option maxRecDepth 20000 in
theorem cw_X8_isOf : Cond.code yX8_isOf cX8_isOf 2 (some .boolean) ∈ am_TB := am_in 1098 (by decide +kernel) rfl
set_option maxRecDepth 20000 in
theorem st_X8_isOf : Cond.static yX8_isOf ∈ am_TB := am_in 1097 (by decide +kernel) rfl
set_option maxRecDepth 20000 in
theorem nm_X8_isOf : yX8_isOf.cls ≠ "java/lang/invoke/MethodHandle" ∧ yX8_isOf.cls ≠ "java/lang/invoke/VarHandle" ∧ (parseMethodDescriptor yX8_isOf.desc).map (fun d => d.parameters.length) = some 2 := by decide +kernel
set_option maxRecDepth 20000 in
theorem ml_X8_257 : am_ml RX8 257 yX8_isOf cX8_isOf 2 (some .boolean) 2 := ⟨am_in 1096 (by decide +kernel) rfl, iw_X8, cw_X8_isOf, nm_X8_isOf.1, nm_X8_isOf.2.1, nm_X8_isOf.2.2, by decide⟩
set_option maxRecDepth 20000 in
theorem cw_X8_leave : Cond.code yX8_leave cX8_leave 7 none ∈ am_TB := am_in 1113 (by decide +kernel) rfl
set_option maxRecDepth 20000 in
theorem im_X8_leave : Cond.instanceMethod yX8_leave ∈ am_TB := am_in 1112 (by decide +kernel) rfl
set_option maxRecDepth 20000 in
theorem se_X8_leave : Cond.selects yX8_leave.cls yX8_leave yX8_leave ∈ am_TB := am_in 38 (by decide +kernel) rfl
set_option maxRecDepth 20000 in
theorem nm_X8_leave : yX8_leave.cls ≠ "java/lang/invoke/MethodHandle" ∧ yX8_leave.cls ≠ "java/lang/invoke/VarHandle" ∧ (parseMethodDescriptor yX8_leave.desc).map (fun d => d.parameters.length) = some 1 := by decide +kernel
set_option maxRecDepth 20000 in
theorem ml_X8_271 : am_ml RX8 271 yX8_leave cX8_leave 7 none 1 := ⟨am_in 1110 (by decide +kernel) rfl, iw_X8, cw_X8_leave, nm_X8_leave.1, nm_X8_leave.2.1, nm_X8_leave.2.2, by decide⟩
set_option maxRecDepth 20000 in
theorem cw_X8_mark : Cond.code yX8_mark cX8_mark 4 (some .int) ∈ am_TB := am_in 1106 (by decide +kernel) rfl
set_option maxRecDepth 20000 in
theorem im_X8_mark : Cond.instanceMethod yX8_mark ∈ am_TB := am_in 1105 (by decide +kernel) rfl
set_option maxRecDepth 20000 in
theorem se_X8_mark : Cond.selects yX8_mark.cls yX8_mark yX8_mark ∈ am_TB := am_in 37 (by decide +kernel) rfl
set_option maxRecDepth 20000 in
theorem nm_X8_mark : yX8_mark.cls ≠ "java/lang/invoke/MethodHandle" ∧ yX8_mark.cls ≠ "java/lang/invoke/VarHandle" ∧ (parseMethodDescriptor yX8_mark.desc).map (fun d => d.parameters.length) = some 1 := by decide +kernel
set_option maxRecDepth 20000 in
theorem ml_X8_279 : am_ml RX8 279 yX8_mark cX8_mark 4 (some .int) 1 := ⟨am_in 1103 (by decide +kernel) rfl, iw_X8, cw_X8_mark, nm_X8_mark.1, nm_X8_mark.2.1, nm_X8_mark.2.2, by decide⟩
set_option maxRecDepth 20000 in
theorem cw_X8_sizeOf : Cond.code yX8_sizeOf cX8_sizeOf 4 (some .int) ∈ am_TB := am_in 1120 (by decide +kernel) rfl
set_option maxRecDepth 20000 in
theorem im_X8_sizeOf : Cond.instanceMethod yX8_sizeOf ∈ am_TB := am_in 1119 (by decide +kernel) rfl
set_option maxRecDepth 20000 in
theorem se_X8_sizeOf : Cond.selects yX8_sizeOf.cls yX8_sizeOf yX8_sizeOf ∈ am_TB := am_in 39 (by decide +kernel) rfl
set_option maxRecDepth 20000 in
theorem nm_X8_sizeOf : yX8_sizeOf.cls ≠ "java/lang/invoke/MethodHandle" ∧ yX8_sizeOf.cls ≠ "java/lang/invoke/VarHandle" ∧ (parseMethodDescriptor yX8_sizeOf.desc).map (fun d => d.parameters.length) = some 1 := by decide +kernel
set_option maxRecDepth 20000 in
theorem ml_X8_286 : am_ml RX8 286 yX8_sizeOf cX8_sizeOf 4 (some .int) 1 := ⟨am_in 1117 (by decide +kernel) rfl, iw_X8, cw_X8_sizeOf, nm_X8_sizeOf.1, nm_X8_sizeOf.2.1, nm_X8_sizeOf.2.2, by decide⟩
set_option maxRecDepth 20000 in
theorem cw_X4_init : Cond.code yX4_init cX4_init 1 none ∈ am_TB := am_in 67 (by decide +kernel) rfl
set_option maxRecDepth 20000 in
theorem im_X4_init : Cond.instanceMethod yX4_init ∈ am_TB := am_in 66 (by decide +kernel) rfl
set_option maxRecDepth 20000 in
theorem nm_X4_init : yX4_init.cls ≠ "java/lang/invoke/MethodHandle" ∧ yX4_init.cls ≠ "java/lang/invoke/VarHandle" ∧ (parseMethodDescriptor yX4_init.desc).map (fun d => d.parameters.length) = some 0 := by decide +kernel
set_option maxRecDepth 20000 in
theorem cw_X6_init : Cond.code yX6_init cX6_init 1 none ∈ am_TB := am_in 91 (by decide +kernel) rfl
set_option maxRecDepth 20000 in
theorem im_X6_init : Cond.instanceMethod yX6_init ∈ am_TB := am_in 90 (by decide +kernel) rfl
set_option maxRecDepth 20000 in
theorem nm_X6_init : yX6_init.cls ≠ "java/lang/invoke/MethodHandle" ∧ yX6_init.cls ≠ "java/lang/invoke/VarHandle" ∧ (parseMethodDescriptor yX6_init.desc).map (fun d => d.parameters.length) = some 0 := by decide +kernel
set_option maxRecDepth 20000 in
theorem cw_X5_init : Cond.code yX5_init cX5_init 1 none ∈ am_TB := am_in 112 (by decide +kernel) rfl
set_option maxRecDepth 20000 in
theorem im_X5_init : Cond.instanceMethod yX5_init ∈ am_TB := am_in 111 (by decide +kernel) rfl
set_option maxRecDepth 20000 in
theorem nm_X5_init : yX5_init.cls ≠ "java/lang/invoke/MethodHandle" ∧ yX5_init.cls ≠ "java/lang/invoke/VarHandle" ∧ (parseMethodDescriptor yX5_init.desc).map (fun d => d.parameters.length) = some 0 := by decide +kernel
set_option maxRecDepth 20000 in
theorem st_max : Cond.static Lib.Math.max.name ∈ am_TB := am_in 423 (by decide +kernel) rfl
set_option maxRecDepth 20000 in
theorem cw_max : Cond.code Lib.Math.max.name Lib.Math.max.code 2 (some .int) ∈ am_TB := am_in 424 (by decide +kernel) rfl
set_option maxRecDepth 20000 in
theorem st_min : Cond.static Lib.Math.min.name ∈ am_TB := am_in 412 (by decide +kernel) rfl
set_option maxRecDepth 20000 in
theorem cw_min : Cond.code Lib.Math.min.name Lib.Math.min.code 2 (some .int) ∈ am_TB := am_in 413 (by decide +kernel) rfl
set_option maxRecDepth 20000 in
theorem st_copy : Cond.static arraycopyName ∈ am_TB := am_in 313 (by decide +kernel) rfl
set_option maxRecDepth 20000 in
theorem nt_copy : Cond.native arraycopyName ∈ am_TB := am_in 314 (by decide +kernel) rfl
set_option maxRecDepth 20000 in
theorem im_obj : Cond.instanceMethod objectInit ∈ am_TB := am_in 60 (by decide +kernel) rfl
set_option maxRecDepth 20000 in
theorem cw_obj : Cond.code objectInit ⟨#[0xb1]⟩ 1 none ∈ am_TB := am_in 61 (by decide +kernel) rfl
set_option maxRecDepth 20000 in
theorem kc_J6_265 : Cond.constant RJ6 265 (nI 1431655765) ∈ am_TB := am_in 447 (by decide +kernel) rfl
set_option maxRecDepth 20000 in
theorem kc_J6_266 : Cond.constant RJ6 266 (nI 858993459) ∈ am_TB := am_in 448 (by decide +kernel) rfl
set_option maxRecDepth 20000 in
theorem kc_J6_267 : Cond.constant RJ6 267 (nI 252645135) ∈ am_TB := am_in 449 (by decide +kernel) rfl
set_option maxRecDepth 20000 in
theorem kc_X2_47 : Cond.constant RX2 47 (-1000000) ∈ am_TB := am_in 518 (by decide +kernel) rfl
set_option maxRecDepth 20000 in
theorem kc_X2_63 : Cond.constant RX2 63 (nI 2147483647) ∈ am_TB := am_in 547 (by decide +kernel) rfl
set_option maxRecDepth 20000 in
theorem kc_X2_99 : Cond.constant RX2 99 (nI 16777216) ∈ am_TB := am_in 560 (by decide +kernel) rfl
set_option maxRecDepth 20000 in
theorem kc_X6_19 : Cond.constant RX6 19 (-1000003) ∈ am_TB := am_in 327 (by decide +kernel) rfl
set_option maxRecDepth 20000 in
theorem kc_X7_75 : Cond.constant RX7 75 (-1000001) ∈ am_TB := am_in 270 (by decide +kernel) rfl
set_option maxRecDepth 20000 in
theorem kc_X7_125 : Cond.constant RX7 125 (-1000100) ∈ am_TB := am_in 374 (by decide +kernel) rfl
set_option maxRecDepth 20000 in
theorem kc_X7_141 : Cond.constant RX7 141 (-1000002) ∈ am_TB := am_in 392 (by decide +kernel) rfl
set_option maxRecDepth 20000 in
theorem kc_X7_152 : Cond.constant RX7 152 (-1000003) ∈ am_TB := am_in 406 (by decide +kernel) rfl
set_option maxRecDepth 20000 in
theorem kc_X7_226 : Cond.constant RX7 226 (nI 2147483647) ∈ am_TB := am_in 566 (by decide +kernel) rfl
set_option maxRecDepth 20000 in
theorem kc_X7_227 : Cond.constant RX7 227 (-1000000) ∈ am_TB := am_in 567 (by decide +kernel) rfl
set_option maxRecDepth 20000 in
theorem kc_X7_269 : Cond.constant RX7 269 (nI 999999) ∈ am_TB := am_in 655 (by decide +kernel) rfl
set_option maxRecDepth 20000 in
theorem kc_X7_302 : Cond.constant RX7 302 (-1000010) ∈ am_TB := am_in 275 (by decide +kernel) rfl
set_option maxRecDepth 20000 in
theorem kc_X8_54 : Cond.constant RX8 54 (-1000010) ∈ am_TB := am_in 837 (by decide +kernel) rfl
set_option maxRecDepth 20000 in
theorem kc_X8_67 : Cond.constant RX8 67 (-1000001) ∈ am_TB := am_in 832 (by decide +kernel) rfl
set_option maxRecDepth 20000 in
theorem kc_X8_80 : Cond.constant RX8 80 (-1000003) ∈ am_TB := am_in 859 (by decide +kernel) rfl
set_option maxRecDepth 20000 in
theorem kc_X8_136 : Cond.constant RX8 136 (-1000100) ∈ am_TB := am_in 902 (by decide +kernel) rfl
set_option maxRecDepth 20000 in
theorem kc_X8_169 : Cond.constant RX8 169 (-1000002) ∈ am_TB := am_in 914 (by decide +kernel) rfl
set_option maxRecDepth 20000 in
theorem kc_X8_216 : Cond.constant RX8 216 (-1000000) ∈ am_TB := am_in 1002 (by decide +kernel) rfl
set_option maxRecDepth 20000 in
theorem kc_X8_220 : Cond.constant RX8 220 (nI 1000000) ∈ am_TB := am_in 1020 (by decide +kernel) rfl
set_option maxRecDepth 20000 in
theorem kl_X2_132 : Cond.constantLong RX2 132 (lN 16807) ∈ am_TB := am_in 660 (by decide +kernel) rfl
set_option maxRecDepth 20000 in
theorem kl_X2_134 : Cond.constantLong RX2 134 (lN 2147483647) ∈ am_TB := am_in 661 (by decide +kernel) rfl
set_option maxRecDepth 20000 in
theorem kl_X2_136 : Cond.constantLong RX2 136 (lN 4) ∈ am_TB := am_in 662 (by decide +kernel) rfl
set_option maxRecDepth 20000 in
theorem kl_X7_261 : Cond.constantLong RX7 261 (-1000001) ∈ am_TB := am_in 634 (by decide +kernel) rfl
set_option maxRecDepth 20000 in
theorem kl_X8_55 : Cond.constantLong RX8 55 (lN 7) ∈ am_TB := am_in 827 (by decide +kernel) rfl
set_option maxRecDepth 20000 in
theorem kl_X8_65 : Cond.constantLong RX8 65 (lN 2) ∈ am_TB := am_in 831 (by decide +kernel) rfl
set_option maxRecDepth 20000 in
theorem kl_X8_75 : Cond.constantLong RX8 75 (lN 255) ∈ am_TB := am_in 858 (by decide +kernel) rfl
set_option maxRecDepth 20000 in
theorem kl_X8_81 : Cond.constantLong RX8 81 (lN 48) ∈ am_TB := am_in 881 (by decide +kernel) rfl
set_option maxRecDepth 20000 in
theorem kl_X8_83 : Cond.constantLong RX8 83 (lN 57) ∈ am_TB := am_in 882 (by decide +kernel) rfl
set_option maxRecDepth 20000 in
theorem kl_X8_94 : Cond.constantLong RX8 94 (lN 97) ∈ am_TB := am_in 876 (by decide +kernel) rfl
set_option maxRecDepth 20000 in
theorem kl_X8_96 : Cond.constantLong RX8 96 (lN 122) ∈ am_TB := am_in 877 (by decide +kernel) rfl
set_option maxRecDepth 20000 in
theorem kl_X8_148 : Cond.constantLong RX8 148 (lN 9) ∈ am_TB := am_in 983 (by decide +kernel) rfl
set_option maxRecDepth 20000 in
theorem kl_X8_170 : Cond.constantLong RX8 170 (lN 24) ∈ am_TB := am_in 919 (by decide +kernel) rfl
set_option maxRecDepth 20000 in
theorem kl_X8_189 : Cond.constantLong RX8 189 (lN 20) ∈ am_TB := am_in 950 (by decide +kernel) rfl
set_option maxRecDepth 20000 in
theorem kl_X8_195 : Cond.constantLong RX8 195 (lN 60) ∈ am_TB := am_in 964 (by decide +kernel) rfl
set_option maxRecDepth 20000 in
theorem kl_X8_197 : Cond.constantLong RX8 197 (lN 3) ∈ am_TB := am_in 969 (by decide +kernel) rfl
set_option maxRecDepth 20000 in
theorem kl_X8_199 : Cond.constantLong RX8 199 (lN 4) ∈ am_TB := am_in 970 (by decide +kernel) rfl
set_option maxRecDepth 20000 in
theorem kl_X8_201 : Cond.constantLong RX8 201 (lN 5) ∈ am_TB := am_in 975 (by decide +kernel) rfl
set_option maxRecDepth 20000 in
theorem kl_X8_225 : Cond.constantLong RX8 225 (lN 12) ∈ am_TB := am_in 1015 (by decide +kernel) rfl
set_option maxRecDepth 20000 in
theorem kl_X8_231 : Cond.constantLong RX8 231 (lN 8) ∈ am_TB := am_in 1032 (by decide +kernel) rfl
set_option maxRecDepth 20000 in
theorem kl_X8_236 : Cond.constantLong RX8 236 (lN 6) ∈ am_TB := am_in 1041 (by decide +kernel) rfl
set_option maxRecDepth 20000 in
theorem kl_X8_245 : Cond.constantLong RX8 245 (lN 10) ∈ am_TB := am_in 1070 (by decide +kernel) rfl
set_option maxRecDepth 20000 in
theorem kl_X8_247 : Cond.constantLong RX8 247 (-1000001) ∈ am_TB := am_in 1071 (by decide +kernel) rfl
set_option maxRecDepth 20000 in
theorem kl_X8_249 : Cond.constantLong RX8 249 (lN 10000) ∈ am_TB := am_in 1072 (by decide +kernel) rfl
set_option maxRecDepth 20000 in
theorem kl_X8_251 : Cond.constantLong RX8 251 (lN 999999) ∈ am_TB := am_in 1077 (by decide +kernel) rfl
set_option maxRecDepth 20000 in
theorem kl_X8_253 : Cond.constantLong RX8 253 (lN 16807) ∈ am_TB := am_in 1078 (by decide +kernel) rfl
set_option maxRecDepth 20000 in
theorem kl_X8_255 : Cond.constantLong RX8 255 (lN 2147483647) ∈ am_TB := am_in 1079 (by decide +kernel) rfl
set_option maxRecDepth 20000 in
theorem kl_X8_260 : Cond.constantLong RX8 260 (lN 100) ∈ am_TB := am_in 1114 (by decide +kernel) rfl
set_option maxRecDepth 20000 in
theorem kl_X8_265 : Cond.constantLong RX8 265 (lN 242120) ∈ am_TB := am_in 1107 (by decide +kernel) rfl
set_option maxRecDepth 20000 in
theorem kl_X8_267 : Cond.constantLong RX8 267 (lN 222120) ∈ am_TB := am_in 1108 (by decide +kernel) rfl
set_option maxRecDepth 20000 in
theorem kl_X8_269 : Cond.constantLong RX8 269 (lN 2120) ∈ am_TB := am_in 1109 (by decide +kernel) rfl
set_option maxRecDepth 20000 in
theorem kl_X8_275 : Cond.constantLong RX8 275 (lN 141310) ∈ am_TB := am_in 1121 (by decide +kernel) rfl
set_option maxRecDepth 20000 in
theorem kl_X8_277 : Cond.constantLong RX8 277 (lN 1310) ∈ am_TB := am_in 1122 (by decide +kernel) rfl
set_option maxRecDepth 20000 in
theorem kl_X8_282 : Cond.constantLong RX8 282 (lN 121110) ∈ am_TB := am_in 1115 (by decide +kernel) rfl
set_option maxRecDepth 20000 in
theorem kl_X8_284 : Cond.constantLong RX8 284 (lN 1110) ∈ am_TB := am_in 1116 (by decide +kernel) rfl
set_option maxRecDepth 20000 in
theorem kl_X8_289 : Cond.constantLong RX8 289 (lN 2320) ∈ am_TB := am_in 1123 (by decide +kernel) rfl
set_option maxRecDepth 20000 in
theorem cl_L_7 : Cond.classLink RL 7 RX7 ∈ am_TB := am_in 54 (by decide +kernel) rfl
set_option maxRecDepth 20000 in
theorem cl_L_10 : Cond.classLink RL 10 RX8 ∈ am_TB := am_in 740 (by decide +kernel) rfl
set_option maxRecDepth 20000 in
theorem cl_X0_9 : Cond.classLink RX0 9 RX5 ∈ am_TB := am_in 168 (by decide +kernel) rfl
set_option maxRecDepth 20000 in
theorem cl_X2_1 : Cond.classLink RX2 1 RX5 ∈ am_TB := am_in 188 (by decide +kernel) rfl
set_option maxRecDepth 20000 in
theorem cl_X2_25 : Cond.classLink RX2 25 "[[I" ∈ am_TB := am_in 190 (by decide +kernel) rfl
set_option maxRecDepth 20000 in
theorem cl_X7_9 : Cond.classLink RX7 9 RX4 ∈ am_TB := am_in 62 (by decide +kernel) rfl
set_option maxRecDepth 20000 in
theorem cl_X7_16 : Cond.classLink RX7 16 RX6 ∈ am_TB := am_in 87 (by decide +kernel) rfl
set_option maxRecDepth 20000 in
theorem cl_X7_23 : Cond.classLink RX7 23 RX5 ∈ am_TB := am_in 108 (by decide +kernel) rfl
set_option maxRecDepth 20000 in
theorem cl_X7_33 : Cond.classLink RX7 33 RX0 ∈ am_TB := am_in 162 (by decide +kernel) rfl
set_option maxRecDepth 20000 in
theorem cl_X7_44 : Cond.classLink RX7 44 RX2 ∈ am_TB := am_in 182 (by decide +kernel) rfl
set_option maxRecDepth 20000 in
theorem cl_X7_53 : Cond.classLink RX7 53 RX1 ∈ am_TB := am_in 211 (by decide +kernel) rfl
set_option maxRecDepth 20000 in
theorem ac_int : Cond.arrayClass .int ∈ am_TB := am_in 86 (by decide +kernel) rfl
set_option maxRecDepth 20000 in
theorem ac_boolean : Cond.arrayClass .boolean ∈ am_TB := am_in 819 (by decide +kernel) rfl
set_option maxRecDepth 20000 in
theorem nb_X7 : Cond.instantiable RX7 10 ∈ am_TB := am_in 55 (by decide +kernel) rfl
set_option maxRecDepth 20000 in
theorem nb_X4 : Cond.instantiable RX4 4 ∈ am_TB := am_in 64 (by decide +kernel) rfl
set_option maxRecDepth 20000 in
theorem nb_X6 : Cond.instantiable RX6 4 ∈ am_TB := am_in 88 (by decide +kernel) rfl
set_option maxRecDepth 20000 in
theorem nb_X5 : Cond.instantiable RX5 9 ∈ am_TB := am_in 109 (by decide +kernel) rfl
set_option maxRecDepth 20000 in
theorem nb_X0 : Cond.instantiable RX0 3 ∈ am_TB := am_in 163 (by decide +kernel) rfl
set_option maxRecDepth 20000 in
theorem nb_X2 : Cond.instantiable RX2 5 ∈ am_TB := am_in 183 (by decide +kernel) rfl
set_option maxRecDepth 20000 in
theorem nb_X1 : Cond.instantiable RX1 3 ∈ am_TB := am_in 212 (by decide +kernel) rfl
set_option maxRecDepth 20000 in
theorem nb_X8 : Cond.instantiable RX8 24 ∈ am_TB := am_in 741 (by decide +kernel) rfl
