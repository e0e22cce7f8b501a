/-! what each pool entry says (written by facts.py) -/
set_option maxRecDepth 100000 in
theorem inJx35411 : ∀ w ∈ u_ws RJx35411 TJx35411 4, w ∈ TB := by decide +kernel
set_option maxRecDepth 100000 in
theorem inJx4a65c : ∀ w ∈ u_ws RJx4a65c TJx4a65c 3, w ∈ TB := by decide +kernel
set_option maxRecDepth 100000 in
theorem inX0 : ∀ w ∈ u_ws RX0 TX0 4, w ∈ TB := by decide +kernel
set_option maxRecDepth 100000 in
theorem inX1 : ∀ w ∈ u_ws RX1 TX1 4, w ∈ TB := by decide +kernel
set_option maxRecDepth 100000 in
theorem inX2 : ∀ w ∈ u_ws RX2 TX2 10, w ∈ TB := by decide +kernel
set_option maxRecDepth 100000 in
theorem inX3 : ∀ w ∈ u_ws RX3 TX3 5, w ∈ TB := by decide +kernel
set_option maxRecDepth 100000 in
theorem inX4 : ∀ w ∈ u_ws RX4 TX4 3, w ∈ TB := by decide +kernel
set_option maxRecDepth 100000 in
theorem inX5 : ∀ w ∈ u_ws RX5 TX5 3, w ∈ TB := by decide +kernel
set_option maxRecDepth 100000 in
theorem inX6 : ∀ w ∈ u_ws RX6 TX6 13, w ∈ TB := by decide +kernel
set_option maxRecDepth 100000 in
theorem inX7 : ∀ w ∈ u_ws RX7 TX7 12, w ∈ TB := by decide +kernel
set_option maxRecDepth 100000 in
theorem fw_0 : FW 0 := ⟨RJx35411, TJx35411, 4, tyJx35411, rfl, by decide +kernel, by decide +kernel⟩
set_option maxRecDepth 100000 in
theorem ft_0_0 : FT 0 0 false .int := ⟨RJx35411, TJx35411, 4, rfl, rfl, by decide +kernel⟩
set_option maxRecDepth 100000 in
theorem ft_0_1 : FT 0 1 false .int := ⟨RJx35411, TJx35411, 4, rfl, rfl, by decide +kernel⟩
set_option maxRecDepth 100000 in
theorem ft_0_2 : FT 0 2 false .int := ⟨RJx35411, TJx35411, 4, rfl, rfl, by decide +kernel⟩
set_option maxRecDepth 100000 in
theorem ft_0_3 : FT 0 3 true (.object "java/util/ArrayList") := ⟨RJx35411, TJx35411, 4, rfl, rfl, by decide +kernel⟩
set_option maxRecDepth 100000 in
theorem fw_1 : FW 1 := ⟨RJx4a65c, TJx4a65c, 3, tyJx4a65c, rfl, by decide +kernel, by decide +kernel⟩
set_option maxRecDepth 100000 in
theorem ft_1_0 : FT 1 0 false .int := ⟨RJx4a65c, TJx4a65c, 3, rfl, rfl, by decide +kernel⟩
set_option maxRecDepth 100000 in
theorem ft_1_1 : FT 1 1 false (.array (.object "java/lang/Object")) := ⟨RJx4a65c, TJx4a65c, 3, rfl, rfl, by decide +kernel⟩
set_option maxRecDepth 100000 in
theorem ft_1_2 : FT 1 2 false .int := ⟨RJx4a65c, TJx4a65c, 3, rfl, rfl, by decide +kernel⟩
set_option maxRecDepth 100000 in
theorem fw_2 : FW 2 := ⟨RX0, TX0, 4, tyX0, rfl, by decide +kernel, by decide +kernel⟩
set_option maxRecDepth 100000 in
theorem ft_2_0 : FT 2 0 true .int := ⟨RX0, TX0, 4, rfl, rfl, by decide +kernel⟩
set_option maxRecDepth 100000 in
theorem ft_2_1 : FT 2 1 false .int := ⟨RX0, TX0, 4, rfl, rfl, by decide +kernel⟩
set_option maxRecDepth 100000 in
theorem ft_2_2 : FT 2 2 false .int := ⟨RX0, TX0, 4, rfl, rfl, by decide +kernel⟩
set_option maxRecDepth 100000 in
theorem ft_2_3 : FT 2 3 false .int := ⟨RX0, TX0, 4, rfl, rfl, by decide +kernel⟩
set_option maxRecDepth 100000 in
theorem fw_3 : FW 3 := ⟨RX1, TX1, 4, tyX1, rfl, by decide +kernel, by decide +kernel⟩
set_option maxRecDepth 100000 in
theorem ft_3_0 : FT 3 0 true .int := ⟨RX1, TX1, 4, rfl, rfl, by decide +kernel⟩
set_option maxRecDepth 100000 in
theorem ft_3_1 : FT 3 1 true .int := ⟨RX1, TX1, 4, rfl, rfl, by decide +kernel⟩
set_option maxRecDepth 100000 in
theorem ft_3_2 : FT 3 2 false .boolean := ⟨RX1, TX1, 4, rfl, rfl, by decide +kernel⟩
set_option maxRecDepth 100000 in
theorem ft_3_3 : FT 3 3 true (.array (.object "TrackNights$Values")) := ⟨RX1, TX1, 4, rfl, rfl, by decide +kernel⟩
set_option maxRecDepth 100000 in
theorem fw_4 : FW 4 := ⟨RX2, TX2, 10, tyX2, rfl, by decide +kernel, by decide +kernel⟩
set_option maxRecDepth 100000 in
theorem ft_4_0 : FT 4 0 true .int := ⟨RX2, TX2, 10, rfl, rfl, by decide +kernel⟩
set_option maxRecDepth 100000 in
theorem ft_4_1 : FT 4 1 true .int := ⟨RX2, TX2, 10, rfl, rfl, by decide +kernel⟩
set_option maxRecDepth 100000 in
theorem ft_4_2 : FT 4 2 true .int := ⟨RX2, TX2, 10, rfl, rfl, by decide +kernel⟩
set_option maxRecDepth 100000 in
theorem ft_4_3 : FT 4 3 true .int := ⟨RX2, TX2, 10, rfl, rfl, by decide +kernel⟩
set_option maxRecDepth 100000 in
theorem ft_4_4 : FT 4 4 true .int := ⟨RX2, TX2, 10, rfl, rfl, by decide +kernel⟩
set_option maxRecDepth 100000 in
theorem ft_4_5 : FT 4 5 true (.object "java/util/ArrayList") := ⟨RX2, TX2, 10, rfl, rfl, by decide +kernel⟩
set_option maxRecDepth 100000 in
theorem ft_4_6 : FT 4 6 false .int := ⟨RX2, TX2, 10, rfl, rfl, by decide +kernel⟩
set_option maxRecDepth 100000 in
theorem ft_4_7 : FT 4 7 false .boolean := ⟨RX2, TX2, 10, rfl, rfl, by decide +kernel⟩
set_option maxRecDepth 100000 in
theorem ft_4_8 : FT 4 8 false .boolean := ⟨RX2, TX2, 10, rfl, rfl, by decide +kernel⟩
set_option maxRecDepth 100000 in
theorem ft_4_9 : FT 4 9 false .int := ⟨RX2, TX2, 10, rfl, rfl, by decide +kernel⟩
set_option maxRecDepth 100000 in
theorem fw_5 : FW 5 := ⟨RX3, TX3, 5, tyX3, rfl, by decide +kernel, by decide +kernel⟩
set_option maxRecDepth 100000 in
theorem ft_5_0 : FT 5 0 true (.object "TrackNights$Values") := ⟨RX3, TX3, 5, rfl, rfl, by decide +kernel⟩
set_option maxRecDepth 100000 in
theorem ft_5_1 : FT 5 1 false .int := ⟨RX3, TX3, 5, rfl, rfl, by decide +kernel⟩
set_option maxRecDepth 100000 in
theorem ft_5_2 : FT 5 2 false .int := ⟨RX3, TX3, 5, rfl, rfl, by decide +kernel⟩
set_option maxRecDepth 100000 in
theorem ft_5_3 : FT 5 3 false .boolean := ⟨RX3, TX3, 5, rfl, rfl, by decide +kernel⟩
set_option maxRecDepth 100000 in
theorem ft_5_4 : FT 5 4 false .int := ⟨RX3, TX3, 5, rfl, rfl, by decide +kernel⟩
set_option maxRecDepth 100000 in
theorem fw_6 : FW 6 := ⟨RX4, TX4, 3, tyX4, rfl, by decide +kernel, by decide +kernel⟩
set_option maxRecDepth 100000 in
theorem ft_6_0 : FT 6 0 false .int := ⟨RX4, TX4, 3, rfl, rfl, by decide +kernel⟩
set_option maxRecDepth 100000 in
theorem ft_6_1 : FT 6 1 false .int := ⟨RX4, TX4, 3, rfl, rfl, by decide +kernel⟩
set_option maxRecDepth 100000 in
theorem ft_6_2 : FT 6 2 false .int := ⟨RX4, TX4, 3, rfl, rfl, by decide +kernel⟩
set_option maxRecDepth 100000 in
theorem fw_7 : FW 7 := ⟨RX5, TX5, 3, tyX5, rfl, by decide +kernel, by decide +kernel⟩
set_option maxRecDepth 100000 in
theorem ft_7_0 : FT 7 0 true (.object "TrackNights$Section") := ⟨RX5, TX5, 3, rfl, rfl, by decide +kernel⟩
set_option maxRecDepth 100000 in
theorem ft_7_1 : FT 7 1 true (.object "TrackNights$Machine") := ⟨RX5, TX5, 3, rfl, rfl, by decide +kernel⟩
set_option maxRecDepth 100000 in
theorem ft_7_2 : FT 7 2 true .int := ⟨RX5, TX5, 3, rfl, rfl, by decide +kernel⟩
set_option maxRecDepth 100000 in
theorem fw_8 : FW 8 := ⟨RX6, TX6, 13, tyX6, rfl, by decide +kernel, by decide +kernel⟩
set_option maxRecDepth 100000 in
theorem ft_8_0 : FT 8 0 true (.array (.object "TrackNights$Section")) := ⟨RX6, TX6, 13, rfl, rfl, by decide +kernel⟩
set_option maxRecDepth 100000 in
theorem ft_8_1 : FT 8 1 true (.object "java/util/ArrayList") := ⟨RX6, TX6, 13, rfl, rfl, by decide +kernel⟩
set_option maxRecDepth 100000 in
theorem ft_8_2 : FT 8 2 true (.object "java/util/ArrayList") := ⟨RX6, TX6, 13, rfl, rfl, by decide +kernel⟩
set_option maxRecDepth 100000 in
theorem ft_8_3 : FT 8 3 true (.object "java/util/ArrayList") := ⟨RX6, TX6, 13, rfl, rfl, by decide +kernel⟩
set_option maxRecDepth 100000 in
theorem ft_8_4 : FT 8 4 true (.object "TrackNights$Values") := ⟨RX6, TX6, 13, rfl, rfl, by decide +kernel⟩
set_option maxRecDepth 100000 in
theorem ft_8_5 : FT 8 5 true (.object "TrackNights$Section") := ⟨RX6, TX6, 13, rfl, rfl, by decide +kernel⟩
set_option maxRecDepth 100000 in
theorem ft_8_6 : FT 8 6 false .int := ⟨RX6, TX6, 13, rfl, rfl, by decide +kernel⟩
set_option maxRecDepth 100000 in
theorem ft_8_7 : FT 8 7 false .int := ⟨RX6, TX6, 13, rfl, rfl, by decide +kernel⟩
set_option maxRecDepth 100000 in
theorem ft_8_8 : FT 8 8 false .int := ⟨RX6, TX6, 13, rfl, rfl, by decide +kernel⟩
set_option maxRecDepth 100000 in
theorem ft_8_9 : FT 8 9 false .int := ⟨RX6, TX6, 13, rfl, rfl, by decide +kernel⟩
set_option maxRecDepth 100000 in
theorem ft_8_10 : FT 8 10 false .int := ⟨RX6, TX6, 13, rfl, rfl, by decide +kernel⟩
set_option maxRecDepth 100000 in
theorem ft_8_11 : FT 8 11 false .int := ⟨RX6, TX6, 13, rfl, rfl, by decide +kernel⟩
set_option maxRecDepth 100000 in
theorem ft_8_12 : FT 8 12 false .int := ⟨RX6, TX6, 13, rfl, rfl, by decide +kernel⟩
set_option maxRecDepth 100000 in
theorem fw_9 : FW 9 := ⟨RX7, TX7, 12, tyX7, rfl, by decide +kernel, by decide +kernel⟩
set_option maxRecDepth 100000 in
theorem ft_9_0 : FT 9 0 false .int := ⟨RX7, TX7, 12, rfl, rfl, by decide +kernel⟩
set_option maxRecDepth 100000 in
theorem ft_9_1 : FT 9 1 true (.array (.array .int)) := ⟨RX7, TX7, 12, rfl, rfl, by decide +kernel⟩
set_option maxRecDepth 100000 in
theorem ft_9_2 : FT 9 2 true (.object "java/util/ArrayList") := ⟨RX7, TX7, 12, rfl, rfl, by decide +kernel⟩
set_option maxRecDepth 100000 in
theorem ft_9_3 : FT 9 3 true (.object "java/util/ArrayList") := ⟨RX7, TX7, 12, rfl, rfl, by decide +kernel⟩
set_option maxRecDepth 100000 in
theorem ft_9_4 : FT 9 4 true (.object "java/util/ArrayList") := ⟨RX7, TX7, 12, rfl, rfl, by decide +kernel⟩
set_option maxRecDepth 100000 in
theorem ft_9_5 : FT 9 5 false .int := ⟨RX7, TX7, 12, rfl, rfl, by decide +kernel⟩
set_option maxRecDepth 100000 in
theorem ft_9_6 : FT 9 6 false .int := ⟨RX7, TX7, 12, rfl, rfl, by decide +kernel⟩
set_option maxRecDepth 100000 in
theorem ft_9_7 : FT 9 7 false .int := ⟨RX7, TX7, 12, rfl, rfl, by decide +kernel⟩
set_option maxRecDepth 100000 in
theorem ft_9_8 : FT 9 8 false .int := ⟨RX7, TX7, 12, rfl, rfl, by decide +kernel⟩
set_option maxRecDepth 100000 in
theorem ft_9_9 : FT 9 9 false .int := ⟨RX7, TX7, 12, rfl, rfl, by decide +kernel⟩
set_option maxRecDepth 100000 in
theorem ft_9_10 : FT 9 10 false .int := ⟨RX7, TX7, 12, rfl, rfl, by decide +kernel⟩
set_option maxRecDepth 100000 in
theorem ft_9_11 : FT 9 11 false .long := ⟨RX7, TX7, 12, rfl, rfl, by decide +kernel⟩
set_option maxRecDepth 100000 in
theorem fl_Jx4a65c_9 : FL RJx4a65c 9 1 1 := ⟨RJx4a65c, TJx4a65c, 3, "java/util/ArrayList", rfl, by decide, inJx4a65c, Or.inl (TB_of 107 rfl rfl), Or.inl rfl⟩
set_option maxRecDepth 100000 in
theorem flp_Jx4a65c_9 : FLP RJx4a65c 9 1 1 := ⟨RJx4a65c, TJx4a65c, 3, rfl, by decide, inJx4a65c, (TB_of 107 rfl rfl), rfl⟩
set_option maxRecDepth 100000 in
theorem fl_Jx35411_37 : FL RJx35411 37 1 1 := ⟨RJx4a65c, TJx4a65c, 3, "java/util/ArrayList", rfl, by decide, inJx4a65c, Or.inl (TB_of 108 rfl rfl), Or.inl rfl⟩
set_option maxRecDepth 100000 in
theorem fl_Jx4a65c_48 : FL RJx4a65c 48 1 2 := ⟨RJx4a65c, TJx4a65c, 3, "java/util/ArrayList", rfl, by decide, inJx4a65c, Or.inl (TB_of 110 rfl rfl), Or.inl rfl⟩
set_option maxRecDepth 100000 in
theorem flp_Jx4a65c_48 : FLP RJx4a65c 48 1 2 := ⟨RJx4a65c, TJx4a65c, 3, rfl, by decide, inJx4a65c, (TB_of 110 rfl rfl), rfl⟩
set_option maxRecDepth 100000 in
theorem fl_Jx35411_17 : FL RJx35411 17 1 0 := ⟨RJx4a65c, TJx4a65c, 3, "java/util/ArrayList", rfl, by decide, inJx4a65c, Or.inl (TB_of 112 rfl rfl), Or.inr (TB_of 113 rfl rfl)⟩
set_option maxRecDepth 100000 in
theorem fl_Jx4a65c_63 : FL RJx4a65c 63 1 0 := ⟨RJx4a65c, TJx4a65c, 3, "java/util/ArrayList", rfl, by decide, inJx4a65c, Or.inl (TB_of 114 rfl rfl), Or.inr (TB_of 113 rfl rfl)⟩
set_option maxRecDepth 100000 in
theorem fl_X4_9 : FL RX4 9 6 0 := ⟨RX4, TX4, 3, "TrackNights$Values", rfl, by decide, inX4, Or.inl (TB_of 128 rfl rfl), Or.inl rfl⟩
set_option maxRecDepth 100000 in
theorem flp_X4_9 : FLP RX4 9 6 0 := ⟨RX4, TX4, 3, rfl, by decide, inX4, (TB_of 128 rfl rfl), rfl⟩
set_option maxRecDepth 100000 in
theorem fl_X4_15 : FL RX4 15 6 1 := ⟨RX4, TX4, 3, "TrackNights$Values", rfl, by decide, inX4, Or.inl (TB_of 132 rfl rfl), Or.inl rfl⟩
set_option maxRecDepth 100000 in
theorem flp_X4_15 : FLP RX4 15 6 1 := ⟨RX4, TX4, 3, rfl, by decide, inX4, (TB_of 132 rfl rfl), rfl⟩
set_option maxRecDepth 100000 in
theorem fl_X4_18 : FL RX4 18 6 2 := ⟨RX4, TX4, 3, "TrackNights$Values", rfl, by decide, inX4, Or.inl (TB_of 136 rfl rfl), Or.inl rfl⟩
set_option maxRecDepth 100000 in
theorem flp_X4_18 : FLP RX4 18 6 2 := ⟨RX4, TX4, 3, rfl, by decide, inX4, (TB_of 136 rfl rfl), rfl⟩
set_option maxRecDepth 100000 in
theorem fl_X3_14 : FL RX3 14 5 0 := ⟨RX3, TX3, 5, "TrackNights$Section", rfl, by decide, inX3, Or.inl (TB_of 154 rfl rfl), Or.inl rfl⟩
set_option maxRecDepth 100000 in
theorem flp_X3_14 : FLP RX3 14 5 0 := ⟨RX3, TX3, 5, rfl, by decide, inX3, (TB_of 154 rfl rfl), rfl⟩
set_option maxRecDepth 100000 in
theorem fl_X3_20 : FL RX3 20 5 1 := ⟨RX3, TX3, 5, "TrackNights$Section", rfl, by decide, inX3, Or.inl (TB_of 156 rfl rfl), Or.inl rfl⟩
set_option maxRecDepth 100000 in
theorem flp_X3_20 : FLP RX3 20 5 1 := ⟨RX3, TX3, 5, rfl, by decide, inX3, (TB_of 156 rfl rfl), rfl⟩
set_option maxRecDepth 100000 in
theorem fl_X3_24 : FL RX3 24 5 2 := ⟨RX3, TX3, 5, "TrackNights$Section", rfl, by decide, inX3, Or.inl (TB_of 158 rfl rfl), Or.inl rfl⟩
set_option maxRecDepth 100000 in
theorem flp_X3_24 : FLP RX3 24 5 2 := ⟨RX3, TX3, 5, rfl, by decide, inX3, (TB_of 158 rfl rfl), rfl⟩
set_option maxRecDepth 100000 in
theorem fl_X3_27 : FL RX3 27 5 3 := ⟨RX3, TX3, 5, "TrackNights$Section", rfl, by decide, inX3, Or.inl (TB_of 160 rfl rfl), Or.inl rfl⟩
set_option maxRecDepth 100000 in
theorem flp_X3_27 : FLP RX3 27 5 3 := ⟨RX3, TX3, 5, rfl, by decide, inX3, (TB_of 160 rfl rfl), rfl⟩
set_option maxRecDepth 100000 in
theorem fl_X3_31 : FL RX3 31 5 4 := ⟨RX3, TX3, 5, "TrackNights$Section", rfl, by decide, inX3, Or.inl (TB_of 162 rfl rfl), Or.inl rfl⟩
set_option maxRecDepth 100000 in
theorem flp_X3_31 : FLP RX3 31 5 4 := ⟨RX3, TX3, 5, rfl, by decide, inX3, (TB_of 162 rfl rfl), rfl⟩
set_option maxRecDepth 100000 in
theorem fl_X6_11 : FL RX6 11 8 0 := ⟨RX6, TX6, 13, "TrackNights", rfl, by decide, inX6, Or.inl (TB_of 175 rfl rfl), Or.inl rfl⟩
set_option maxRecDepth 100000 in
theorem flp_X6_11 : FLP RX6 11 8 0 := ⟨RX6, TX6, 13, rfl, by decide, inX6, (TB_of 175 rfl rfl), rfl⟩
set_option maxRecDepth 100000 in
theorem fl_X6_18 : FL RX6 18 8 1 := ⟨RX6, TX6, 13, "TrackNights", rfl, by decide, inX6, Or.inl (TB_of 176 rfl rfl), Or.inl rfl⟩
set_option maxRecDepth 100000 in
theorem flp_X6_18 : FLP RX6 18 8 1 := ⟨RX6, TX6, 13, rfl, by decide, inX6, (TB_of 176 rfl rfl), rfl⟩
set_option maxRecDepth 100000 in
theorem fl_X6_22 : FL RX6 22 8 2 := ⟨RX6, TX6, 13, "TrackNights", rfl, by decide, inX6, Or.inl (TB_of 177 rfl rfl), Or.inl rfl⟩
set_option maxRecDepth 100000 in
theorem flp_X6_22 : FLP RX6 22 8 2 := ⟨RX6, TX6, 13, rfl, by decide, inX6, (TB_of 177 rfl rfl), rfl⟩
set_option maxRecDepth 100000 in
theorem fl_X6_25 : FL RX6 25 8 3 := ⟨RX6, TX6, 13, "TrackNights", rfl, by decide, inX6, Or.inl (TB_of 178 rfl rfl), Or.inl rfl⟩
set_option maxRecDepth 100000 in
theorem flp_X6_25 : FLP RX6 25 8 3 := ⟨RX6, TX6, 13, rfl, by decide, inX6, (TB_of 178 rfl rfl), rfl⟩
set_option maxRecDepth 100000 in
theorem fl_X6_33 : FL RX6 33 8 4 := ⟨RX6, TX6, 13, "TrackNights", rfl, by decide, inX6, Or.inl (TB_of 179 rfl rfl), Or.inl rfl⟩
set_option maxRecDepth 100000 in
theorem flp_X6_33 : FLP RX6 33 8 4 := ⟨RX6, TX6, 13, rfl, by decide, inX6, (TB_of 179 rfl rfl), rfl⟩
set_option maxRecDepth 100000 in
theorem fl_X6_38 : FL RX6 38 8 5 := ⟨RX6, TX6, 13, "TrackNights", rfl, by decide, inX6, Or.inl (TB_of 180 rfl rfl), Or.inl rfl⟩
set_option maxRecDepth 100000 in
theorem flp_X6_38 : FLP RX6 38 8 5 := ⟨RX6, TX6, 13, rfl, by decide, inX6, (TB_of 180 rfl rfl), rfl⟩
set_option maxRecDepth 100000 in
theorem fl_X6_42 : FL RX6 42 8 6 := ⟨RX6, TX6, 13, "TrackNights", rfl, by decide, inX6, Or.inl (TB_of 181 rfl rfl), Or.inl rfl⟩
set_option maxRecDepth 100000 in
theorem flp_X6_42 : FLP RX6 42 8 6 := ⟨RX6, TX6, 13, rfl, by decide, inX6, (TB_of 181 rfl rfl), rfl⟩
set_option maxRecDepth 100000 in
theorem fl_X6_46 : FL RX6 46 8 7 := ⟨RX6, TX6, 13, "TrackNights", rfl, by decide, inX6, Or.inl (TB_of 182 rfl rfl), Or.inl rfl⟩
set_option maxRecDepth 100000 in
theorem flp_X6_46 : FLP RX6 46 8 7 := ⟨RX6, TX6, 13, rfl, by decide, inX6, (TB_of 182 rfl rfl), rfl⟩
set_option maxRecDepth 100000 in
theorem fl_X6_49 : FL RX6 49 8 8 := ⟨RX6, TX6, 13, "TrackNights", rfl, by decide, inX6, Or.inl (TB_of 183 rfl rfl), Or.inl rfl⟩
set_option maxRecDepth 100000 in
theorem flp_X6_49 : FLP RX6 49 8 8 := ⟨RX6, TX6, 13, rfl, by decide, inX6, (TB_of 183 rfl rfl), rfl⟩
set_option maxRecDepth 100000 in
theorem fl_X6_52 : FL RX6 52 8 9 := ⟨RX6, TX6, 13, "TrackNights", rfl, by decide, inX6, Or.inl (TB_of 184 rfl rfl), Or.inl rfl⟩
set_option maxRecDepth 100000 in
theorem flp_X6_52 : FLP RX6 52 8 9 := ⟨RX6, TX6, 13, rfl, by decide, inX6, (TB_of 184 rfl rfl), rfl⟩
set_option maxRecDepth 100000 in
theorem fl_X6_55 : FL RX6 55 8 10 := ⟨RX6, TX6, 13, "TrackNights", rfl, by decide, inX6, Or.inl (TB_of 185 rfl rfl), Or.inl rfl⟩
set_option maxRecDepth 100000 in
theorem flp_X6_55 : FLP RX6 55 8 10 := ⟨RX6, TX6, 13, rfl, by decide, inX6, (TB_of 185 rfl rfl), rfl⟩
set_option maxRecDepth 100000 in
theorem fl_X6_58 : FL RX6 58 8 11 := ⟨RX6, TX6, 13, "TrackNights", rfl, by decide, inX6, Or.inl (TB_of 186 rfl rfl), Or.inl rfl⟩
set_option maxRecDepth 100000 in
theorem flp_X6_58 : FLP RX6 58 8 11 := ⟨RX6, TX6, 13, rfl, by decide, inX6, (TB_of 186 rfl rfl), rfl⟩
set_option maxRecDepth 100000 in
theorem fl_X6_61 : FL RX6 61 8 12 := ⟨RX6, TX6, 13, "TrackNights", rfl, by decide, inX6, Or.inl (TB_of 187 rfl rfl), Or.inl rfl⟩
set_option maxRecDepth 100000 in
theorem flp_X6_61 : FLP RX6 61 8 12 := ⟨RX6, TX6, 13, rfl, by decide, inX6, (TB_of 187 rfl rfl), rfl⟩
set_option maxRecDepth 100000 in
theorem fl_X1_21 : FL RX1 21 3 0 := ⟨RX1, TX1, 4, "TrackNights$Measure", rfl, by decide, inX1, Or.inl (TB_of 618 rfl rfl), Or.inl rfl⟩
set_option maxRecDepth 100000 in
theorem flp_X1_21 : FLP RX1 21 3 0 := ⟨RX1, TX1, 4, rfl, by decide, inX1, (TB_of 618 rfl rfl), rfl⟩
set_option maxRecDepth 100000 in
theorem fl_X1_25 : FL RX1 25 3 1 := ⟨RX1, TX1, 4, "TrackNights$Measure", rfl, by decide, inX1, Or.inl (TB_of 619 rfl rfl), Or.inl rfl⟩
set_option maxRecDepth 100000 in
theorem flp_X1_25 : FLP RX1 25 3 1 := ⟨RX1, TX1, 4, rfl, by decide, inX1, (TB_of 619 rfl rfl), rfl⟩
set_option maxRecDepth 100000 in
theorem fl_X1_9 : FL RX1 9 3 2 := ⟨RX1, TX1, 4, "TrackNights$Measure", rfl, by decide, inX1, Or.inl (TB_of 621 rfl rfl), Or.inl rfl⟩
set_option maxRecDepth 100000 in
theorem flp_X1_9 : FLP RX1 9 3 2 := ⟨RX1, TX1, 4, rfl, by decide, inX1, (TB_of 621 rfl rfl), rfl⟩
set_option maxRecDepth 100000 in
theorem fl_X1_17 : FL RX1 17 3 3 := ⟨RX1, TX1, 4, "TrackNights$Measure", rfl, by decide, inX1, Or.inl (TB_of 623 rfl rfl), Or.inl rfl⟩
set_option maxRecDepth 100000 in
theorem flp_X1_17 : FLP RX1 17 3 3 := ⟨RX1, TX1, 4, rfl, by decide, inX1, (TB_of 623 rfl rfl), rfl⟩
set_option maxRecDepth 100000 in
theorem fl_X0_16 : FL RX0 16 2 0 := ⟨RX0, TX0, 4, "TrackNights$Machine", rfl, by decide, inX0, Or.inl (TB_of 718 rfl rfl), Or.inl rfl⟩
set_option maxRecDepth 100000 in
theorem flp_X0_16 : FLP RX0 16 2 0 := ⟨RX0, TX0, 4, rfl, by decide, inX0, (TB_of 718 rfl rfl), rfl⟩
set_option maxRecDepth 100000 in
theorem fl_X0_19 : FL RX0 19 2 1 := ⟨RX0, TX0, 4, "TrackNights$Machine", rfl, by decide, inX0, Or.inl (TB_of 720 rfl rfl), Or.inl rfl⟩
set_option maxRecDepth 100000 in
theorem flp_X0_19 : FLP RX0 19 2 1 := ⟨RX0, TX0, 4, rfl, by decide, inX0, (TB_of 720 rfl rfl), rfl⟩
set_option maxRecDepth 100000 in
theorem fl_X0_7 : FL RX0 7 2 2 := ⟨RX0, TX0, 4, "TrackNights$Machine", rfl, by decide, inX0, Or.inl (TB_of 723 rfl rfl), Or.inl rfl⟩
set_option maxRecDepth 100000 in
theorem flp_X0_7 : FLP RX0 7 2 2 := ⟨RX0, TX0, 4, rfl, by decide, inX0, (TB_of 723 rfl rfl), rfl⟩
set_option maxRecDepth 100000 in
theorem fl_X0_13 : FL RX0 13 2 3 := ⟨RX0, TX0, 4, "TrackNights$Machine", rfl, by decide, inX0, Or.inl (TB_of 725 rfl rfl), Or.inl rfl⟩
set_option maxRecDepth 100000 in
theorem flp_X0_13 : FLP RX0 13 2 3 := ⟨RX0, TX0, 4, rfl, by decide, inX0, (TB_of 725 rfl rfl), rfl⟩
set_option maxRecDepth 100000 in
theorem fl_X2_32 : FL RX2 32 4 0 := ⟨RX2, TX2, 10, "TrackNights$Possession", rfl, by decide, inX2, Or.inl (TB_of 770 rfl rfl), Or.inl rfl⟩
set_option maxRecDepth 100000 in
theorem flp_X2_32 : FLP RX2 32 4 0 := ⟨RX2, TX2, 10, rfl, by decide, inX2, (TB_of 770 rfl rfl), rfl⟩
set_option maxRecDepth 100000 in
theorem fl_X2_35 : FL RX2 35 4 1 := ⟨RX2, TX2, 10, "TrackNights$Possession", rfl, by decide, inX2, Or.inl (TB_of 772 rfl rfl), Or.inl rfl⟩
set_option maxRecDepth 100000 in
theorem flp_X2_35 : FLP RX2 35 4 1 := ⟨RX2, TX2, 10, rfl, by decide, inX2, (TB_of 772 rfl rfl), rfl⟩
set_option maxRecDepth 100000 in
theorem fl_X2_38 : FL RX2 38 4 2 := ⟨RX2, TX2, 10, "TrackNights$Possession", rfl, by decide, inX2, Or.inl (TB_of 774 rfl rfl), Or.inl rfl⟩
set_option maxRecDepth 100000 in
theorem flp_X2_38 : FLP RX2 38 4 2 := ⟨RX2, TX2, 10, rfl, by decide, inX2, (TB_of 774 rfl rfl), rfl⟩
set_option maxRecDepth 100000 in
theorem fl_X2_41 : FL RX2 41 4 3 := ⟨RX2, TX2, 10, "TrackNights$Possession", rfl, by decide, inX2, Or.inl (TB_of 776 rfl rfl), Or.inl rfl⟩
set_option maxRecDepth 100000 in
theorem flp_X2_41 : FLP RX2 41 4 3 := ⟨RX2, TX2, 10, rfl, by decide, inX2, (TB_of 776 rfl rfl), rfl⟩
set_option maxRecDepth 100000 in
theorem fl_X2_44 : FL RX2 44 4 4 := ⟨RX2, TX2, 10, "TrackNights$Possession", rfl, by decide, inX2, Or.inl (TB_of 778 rfl rfl), Or.inl rfl⟩
set_option maxRecDepth 100000 in
theorem flp_X2_44 : FLP RX2 44 4 4 := ⟨RX2, TX2, 10, rfl, by decide, inX2, (TB_of 778 rfl rfl), rfl⟩
set_option maxRecDepth 100000 in
theorem fl_X2_12 : FL RX2 12 4 5 := ⟨RX2, TX2, 10, "TrackNights$Possession", rfl, by decide, inX2, Or.inl (TB_of 780 rfl rfl), Or.inl rfl⟩
set_option maxRecDepth 100000 in
theorem flp_X2_12 : FLP RX2 12 4 5 := ⟨RX2, TX2, 10, rfl, by decide, inX2, (TB_of 780 rfl rfl), rfl⟩
set_option maxRecDepth 100000 in
theorem fl_X2_18 : FL RX2 18 4 6 := ⟨RX2, TX2, 10, "TrackNights$Possession", rfl, by decide, inX2, Or.inl (TB_of 782 rfl rfl), Or.inl rfl⟩
set_option maxRecDepth 100000 in
theorem flp_X2_18 : FLP RX2 18 4 6 := ⟨RX2, TX2, 10, rfl, by decide, inX2, (TB_of 782 rfl rfl), rfl⟩
set_option maxRecDepth 100000 in
theorem fl_X2_22 : FL RX2 22 4 7 := ⟨RX2, TX2, 10, "TrackNights$Possession", rfl, by decide, inX2, Or.inl (TB_of 784 rfl rfl), Or.inl rfl⟩
set_option maxRecDepth 100000 in
theorem flp_X2_22 : FLP RX2 22 4 7 := ⟨RX2, TX2, 10, rfl, by decide, inX2, (TB_of 784 rfl rfl), rfl⟩
set_option maxRecDepth 100000 in
theorem fl_X2_26 : FL RX2 26 4 8 := ⟨RX2, TX2, 10, "TrackNights$Possession", rfl, by decide, inX2, Or.inl (TB_of 785 rfl rfl), Or.inl rfl⟩
set_option maxRecDepth 100000 in
theorem flp_X2_26 : FLP RX2 26 4 8 := ⟨RX2, TX2, 10, rfl, by decide, inX2, (TB_of 785 rfl rfl), rfl⟩
set_option maxRecDepth 100000 in
theorem fl_X2_29 : FL RX2 29 4 9 := ⟨RX2, TX2, 10, "TrackNights$Possession", rfl, by decide, inX2, Or.inl (TB_of 786 rfl rfl), Or.inl rfl⟩
set_option maxRecDepth 100000 in
theorem flp_X2_29 : FLP RX2 29 4 9 := ⟨RX2, TX2, 10, rfl, by decide, inX2, (TB_of 786 rfl rfl), rfl⟩
set_option maxRecDepth 100000 in
theorem fl_X5_7 : FL RX5 7 7 0 := ⟨RX5, TX5, 3, "TrackNights$Work", rfl, by decide, inX5, Or.inl (TB_of 838 rfl rfl), Or.inl rfl⟩
set_option maxRecDepth 100000 in
theorem flp_X5_7 : FLP RX5 7 7 0 := ⟨RX5, TX5, 3, rfl, by decide, inX5, (TB_of 838 rfl rfl), rfl⟩
set_option maxRecDepth 100000 in
theorem fl_X5_13 : FL RX5 13 7 1 := ⟨RX5, TX5, 3, "TrackNights$Work", rfl, by decide, inX5, Or.inl (TB_of 840 rfl rfl), Or.inl rfl⟩
set_option maxRecDepth 100000 in
theorem flp_X5_13 : FLP RX5 13 7 1 := ⟨RX5, TX5, 3, rfl, by decide, inX5, (TB_of 840 rfl rfl), rfl⟩
set_option maxRecDepth 100000 in
theorem fl_X5_17 : FL RX5 17 7 2 := ⟨RX5, TX5, 3, "TrackNights$Work", rfl, by decide, inX5, Or.inl (TB_of 843 rfl rfl), Or.inl rfl⟩
set_option maxRecDepth 100000 in
theorem flp_X5_17 : FLP RX5 17 7 2 := ⟨RX5, TX5, 3, rfl, by decide, inX5, (TB_of 843 rfl rfl), rfl⟩
set_option maxRecDepth 100000 in
theorem fl_X7_31 : FL RX7 31 9 0 := ⟨RX7, TX7, 12, "TrackNightsModel", rfl, by decide, inX7, Or.inl (TB_of 979 rfl rfl), Or.inl rfl⟩
set_option maxRecDepth 100000 in
theorem flp_X7_31 : FLP RX7 31 9 0 := ⟨RX7, TX7, 12, rfl, by decide, inX7, (TB_of 979 rfl rfl), rfl⟩
set_option maxRecDepth 100000 in
theorem fl_X7_11 : FL RX7 11 9 1 := ⟨RX7, TX7, 12, "TrackNightsModel", rfl, by decide, inX7, Or.inl (TB_of 980 rfl rfl), Or.inl rfl⟩
set_option maxRecDepth 100000 in
theorem flp_X7_11 : FLP RX7 11 9 1 := ⟨RX7, TX7, 12, rfl, by decide, inX7, (TB_of 980 rfl rfl), rfl⟩
set_option maxRecDepth 100000 in
theorem fl_X7_17 : FL RX7 17 9 2 := ⟨RX7, TX7, 12, "TrackNightsModel", rfl, by decide, inX7, Or.inl (TB_of 981 rfl rfl), Or.inl rfl⟩
set_option maxRecDepth 100000 in
theorem flp_X7_17 : FLP RX7 17 9 2 := ⟨RX7, TX7, 12, rfl, by decide, inX7, (TB_of 981 rfl rfl), rfl⟩
set_option maxRecDepth 100000 in
theorem fl_X7_21 : FL RX7 21 9 3 := ⟨RX7, TX7, 12, "TrackNightsModel", rfl, by decide, inX7, Or.inl (TB_of 982 rfl rfl), Or.inl rfl⟩
set_option maxRecDepth 100000 in
theorem flp_X7_21 : FLP RX7 21 9 3 := ⟨RX7, TX7, 12, rfl, by decide, inX7, (TB_of 982 rfl rfl), rfl⟩
set_option maxRecDepth 100000 in
theorem fl_X7_24 : FL RX7 24 9 4 := ⟨RX7, TX7, 12, "TrackNightsModel", rfl, by decide, inX7, Or.inl (TB_of 983 rfl rfl), Or.inl rfl⟩
set_option maxRecDepth 100000 in
theorem flp_X7_24 : FLP RX7 24 9 4 := ⟨RX7, TX7, 12, rfl, by decide, inX7, (TB_of 983 rfl rfl), rfl⟩
set_option maxRecDepth 100000 in
theorem fl_X7_93 : FL RX7 93 9 5 := ⟨RX7, TX7, 12, "TrackNightsModel", rfl, by decide, inX7, Or.inl (TB_of 984 rfl rfl), Or.inl rfl⟩
set_option maxRecDepth 100000 in
theorem flp_X7_93 : FLP RX7 93 9 5 := ⟨RX7, TX7, 12, rfl, by decide, inX7, (TB_of 984 rfl rfl), rfl⟩
set_option maxRecDepth 100000 in
theorem fl_X7_27 : FL RX7 27 9 6 := ⟨RX7, TX7, 12, "TrackNightsModel", rfl, by decide, inX7, Or.inl (TB_of 985 rfl rfl), Or.inl rfl⟩
set_option maxRecDepth 100000 in
theorem flp_X7_27 : FLP RX7 27 9 6 := ⟨RX7, TX7, 12, rfl, by decide, inX7, (TB_of 985 rfl rfl), rfl⟩
set_option maxRecDepth 100000 in
theorem fl_X7_103 : FL RX7 103 9 7 := ⟨RX7, TX7, 12, "TrackNightsModel", rfl, by decide, inX7, Or.inl (TB_of 986 rfl rfl), Or.inl rfl⟩
set_option maxRecDepth 100000 in
theorem flp_X7_103 : FLP RX7 103 9 7 := ⟨RX7, TX7, 12, rfl, by decide, inX7, (TB_of 986 rfl rfl), rfl⟩
set_option maxRecDepth 100000 in
theorem fl_X7_109 : FL RX7 109 9 8 := ⟨RX7, TX7, 12, "TrackNightsModel", rfl, by decide, inX7, Or.inl (TB_of 987 rfl rfl), Or.inl rfl⟩
set_option maxRecDepth 100000 in
theorem flp_X7_109 : FLP RX7 109 9 8 := ⟨RX7, TX7, 12, rfl, by decide, inX7, (TB_of 987 rfl rfl), rfl⟩
set_option maxRecDepth 100000 in
theorem fl_X7_106 : FL RX7 106 9 9 := ⟨RX7, TX7, 12, "TrackNightsModel", rfl, by decide, inX7, Or.inl (TB_of 988 rfl rfl), Or.inl rfl⟩
set_option maxRecDepth 100000 in
theorem flp_X7_106 : FLP RX7 106 9 9 := ⟨RX7, TX7, 12, rfl, by decide, inX7, (TB_of 988 rfl rfl), rfl⟩
set_option maxRecDepth 100000 in
theorem fl_X7_168 : FL RX7 168 9 10 := ⟨RX7, TX7, 12, "TrackNightsModel", rfl, by decide, inX7, Or.inl (TB_of 989 rfl rfl), Or.inl rfl⟩
set_option maxRecDepth 100000 in
theorem flp_X7_168 : FLP RX7 168 9 10 := ⟨RX7, TX7, 12, rfl, by decide, inX7, (TB_of 989 rfl rfl), rfl⟩
set_option maxRecDepth 100000 in
theorem fl_X7_216 : FL RX7 216 9 11 := ⟨RX7, TX7, 12, "TrackNightsModel", rfl, by decide, inX7, Or.inl (TB_of 990 rfl rfl), Or.inl rfl⟩
set_option maxRecDepth 100000 in
theorem flp_X7_216 : FLP RX7 216 9 11 := ⟨RX7, TX7, 12, rfl, by decide, inX7, (TB_of 990 rfl rfl), rfl⟩
set_option maxRecDepth 100000 in
theorem fl_Jx35411_25 : FL RJx35411 25 0 0 := ⟨RJx35411, TJx35411, 4, "java/util/ArrayList$Itr", rfl, by decide, inJx35411, Or.inl (TB_of 1060 rfl rfl), Or.inl rfl⟩
set_option maxRecDepth 100000 in
theorem flp_Jx35411_25 : FLP RJx35411 25 0 0 := ⟨RJx35411, TJx35411, 4, rfl, by decide, inJx35411, (TB_of 1060 rfl rfl), rfl⟩
set_option maxRecDepth 100000 in
theorem fl_Jx35411_13 : FL RJx35411 13 0 1 := ⟨RJx35411, TJx35411, 4, "java/util/ArrayList$Itr", rfl, by decide, inJx35411, Or.inl (TB_of 1061 rfl rfl), Or.inl rfl⟩
set_option maxRecDepth 100000 in
theorem flp_Jx35411_13 : FLP RJx35411 13 0 1 := ⟨RJx35411, TJx35411, 4, rfl, by decide, inJx35411, (TB_of 1061 rfl rfl), rfl⟩
set_option maxRecDepth 100000 in
theorem fl_Jx35411_22 : FL RJx35411 22 0 2 := ⟨RJx35411, TJx35411, 4, "java/util/ArrayList$Itr", rfl, by decide, inJx35411, Or.inl (TB_of 1062 rfl rfl), Or.inl rfl⟩
set_option maxRecDepth 100000 in
theorem flp_Jx35411_22 : FLP RJx35411 22 0 2 := ⟨RJx35411, TJx35411, 4, rfl, by decide, inJx35411, (TB_of 1062 rfl rfl), rfl⟩
set_option maxRecDepth 100000 in
theorem fl_Jx35411_1 : FL RJx35411 1 0 3 := ⟨RJx35411, TJx35411, 4, "java/util/ArrayList$Itr", rfl, by decide, inJx35411, Or.inl (TB_of 1063 rfl rfl), Or.inl rfl⟩
set_option maxRecDepth 100000 in
theorem flp_Jx35411_1 : FLP RJx35411 1 0 3 := ⟨RJx35411, TJx35411, 4, rfl, by decide, inJx35411, (TB_of 1063 rfl rfl), rfl⟩
set_option maxRecDepth 100000 in
theorem fl_Jx35411_28 : FL RJx35411 28 1 2 := ⟨RJx4a65c, TJx4a65c, 3, "java/util/ArrayList", rfl, by decide, inJx4a65c, Or.inr ⟨"java/util/ArrayList", (NB_of 109 rfl rfl)⟩, Or.inl rfl⟩
set_option maxRecDepth 100000 in
theorem fl_X3_34 : FL RX3 34 6 0 := ⟨RX4, TX4, 3, "TrackNights$Values", rfl, by decide, inX4, Or.inr ⟨"TrackNights", (NB_of 129 rfl rfl)⟩, Or.inl rfl⟩
set_option maxRecDepth 100000 in
theorem fl_X1_31 : FL RX1 31 6 0 := ⟨RX4, TX4, 3, "TrackNights$Values", rfl, by decide, inX4, Or.inr ⟨"TrackNights", (NB_of 130 rfl rfl)⟩, Or.inl rfl⟩
set_option maxRecDepth 100000 in
theorem fl_X6_274 : FL RX6 274 6 0 := ⟨RX4, TX4, 3, "TrackNights$Values", rfl, by decide, inX4, Or.inr ⟨"TrackNights", (NB_of 131 rfl rfl)⟩, Or.inl rfl⟩
set_option maxRecDepth 100000 in
theorem fl_X1_28 : FL RX1 28 6 1 := ⟨RX4, TX4, 3, "TrackNights$Values", rfl, by decide, inX4, Or.inr ⟨"TrackNights", (NB_of 133 rfl rfl)⟩, Or.inl rfl⟩
set_option maxRecDepth 100000 in
theorem fl_X3_37 : FL RX3 37 6 1 := ⟨RX4, TX4, 3, "TrackNights$Values", rfl, by decide, inX4, Or.inr ⟨"TrackNights", (NB_of 134 rfl rfl)⟩, Or.inl rfl⟩
set_option maxRecDepth 100000 in
theorem fl_X6_277 : FL RX6 277 6 1 := ⟨RX4, TX4, 3, "TrackNights$Values", rfl, by decide, inX4, Or.inr ⟨"TrackNights", (NB_of 135 rfl rfl)⟩, Or.inl rfl⟩
set_option maxRecDepth 100000 in
theorem fl_X3_40 : FL RX3 40 6 2 := ⟨RX4, TX4, 3, "TrackNights$Values", rfl, by decide, inX4, Or.inr ⟨"TrackNights", (NB_of 137 rfl rfl)⟩, Or.inl rfl⟩
set_option maxRecDepth 100000 in
theorem fl_X1_34 : FL RX1 34 6 2 := ⟨RX4, TX4, 3, "TrackNights$Values", rfl, by decide, inX4, Or.inr ⟨"TrackNights", (NB_of 138 rfl rfl)⟩, Or.inl rfl⟩
set_option maxRecDepth 100000 in
theorem fl_X6_280 : FL RX6 280 6 2 := ⟨RX4, TX4, 3, "TrackNights$Values", rfl, by decide, inX4, Or.inr ⟨"TrackNights", (NB_of 139 rfl rfl)⟩, Or.inl rfl⟩
set_option maxRecDepth 100000 in
theorem fl_X6_114 : FL RX6 114 5 0 := ⟨RX3, TX3, 5, "TrackNights$Section", rfl, by decide, inX3, Or.inr ⟨"TrackNights", (NB_of 155 rfl rfl)⟩, Or.inl rfl⟩
set_option maxRecDepth 100000 in
theorem fl_X6_283 : FL RX6 283 5 1 := ⟨RX3, TX3, 5, "TrackNights$Section", rfl, by decide, inX3, Or.inr ⟨"TrackNights", (NB_of 157 rfl rfl)⟩, Or.inl rfl⟩
set_option maxRecDepth 100000 in
theorem fl_X6_286 : FL RX6 286 5 2 := ⟨RX3, TX3, 5, "TrackNights$Section", rfl, by decide, inX3, Or.inr ⟨"TrackNights", (NB_of 159 rfl rfl)⟩, Or.inl rfl⟩
set_option maxRecDepth 100000 in
theorem fl_X6_68 : FL RX6 68 5 3 := ⟨RX3, TX3, 5, "TrackNights$Section", rfl, by decide, inX3, Or.inr ⟨"TrackNights", (NB_of 161 rfl rfl)⟩, Or.inl rfl⟩
set_option maxRecDepth 100000 in
theorem fl_X6_79 : FL RX6 79 5 4 := ⟨RX3, TX3, 5, "TrackNights$Section", rfl, by decide, inX3, Or.inr ⟨"TrackNights", (NB_of 163 rfl rfl)⟩, Or.inl rfl⟩
set_option maxRecDepth 100000 in
theorem fl_X6_139 : FL RX6 139 3 1 := ⟨RX1, TX1, 4, "TrackNights$Measure", rfl, by decide, inX1, Or.inr ⟨"TrackNights", (NB_of 620 rfl rfl)⟩, Or.inl rfl⟩
set_option maxRecDepth 100000 in
theorem fl_X6_134 : FL RX6 134 3 2 := ⟨RX1, TX1, 4, "TrackNights$Measure", rfl, by decide, inX1, Or.inr ⟨"TrackNights", (NB_of 622 rfl rfl)⟩, Or.inl rfl⟩
set_option maxRecDepth 100000 in
theorem fl_X6_201 : FL RX6 201 2 0 := ⟨RX0, TX0, 4, "TrackNights$Machine", rfl, by decide, inX0, Or.inr ⟨"TrackNights", (NB_of 719 rfl rfl)⟩, Or.inl rfl⟩
set_option maxRecDepth 100000 in
theorem fl_X6_161 : FL RX6 161 2 1 := ⟨RX0, TX0, 4, "TrackNights$Machine", rfl, by decide, inX0, Or.inr ⟨"TrackNights", (NB_of 721 rfl rfl)⟩, Or.inl rfl⟩
set_option maxRecDepth 100000 in
theorem fl_X2_62 : FL RX2 62 2 1 := ⟨RX0, TX0, 4, "TrackNights$Machine", rfl, by decide, inX0, Or.inr ⟨"TrackNights", (NB_of 722 rfl rfl)⟩, Or.inl rfl⟩
set_option maxRecDepth 100000 in
theorem fl_X6_309 : FL RX6 309 2 2 := ⟨RX0, TX0, 4, "TrackNights$Machine", rfl, by decide, inX0, Or.inr ⟨"TrackNights", (NB_of 724 rfl rfl)⟩, Or.inl rfl⟩
set_option maxRecDepth 100000 in
theorem fl_X6_312 : FL RX6 312 2 3 := ⟨RX0, TX0, 4, "TrackNights$Machine", rfl, by decide, inX0, Or.inr ⟨"TrackNights", (NB_of 726 rfl rfl)⟩, Or.inl rfl⟩
set_option maxRecDepth 100000 in
theorem fl_X6_317 : FL RX6 317 4 0 := ⟨RX2, TX2, 10, "TrackNights$Possession", rfl, by decide, inX2, Or.inr ⟨"TrackNights", (NB_of 771 rfl rfl)⟩, Or.inl rfl⟩
set_option maxRecDepth 100000 in
theorem fl_X6_250 : FL RX6 250 4 1 := ⟨RX2, TX2, 10, "TrackNights$Possession", rfl, by decide, inX2, Or.inr ⟨"TrackNights", (NB_of 773 rfl rfl)⟩, Or.inl rfl⟩
set_option maxRecDepth 100000 in
theorem fl_X6_247 : FL RX6 247 4 2 := ⟨RX2, TX2, 10, "TrackNights$Possession", rfl, by decide, inX2, Or.inr ⟨"TrackNights", (NB_of 775 rfl rfl)⟩, Or.inl rfl⟩
set_option maxRecDepth 100000 in
theorem fl_X6_227 : FL RX6 227 4 3 := ⟨RX2, TX2, 10, "TrackNights$Possession", rfl, by decide, inX2, Or.inr ⟨"TrackNights", (NB_of 777 rfl rfl)⟩, Or.inl rfl⟩
set_option maxRecDepth 100000 in
theorem fl_X6_211 : FL RX6 211 4 4 := ⟨RX2, TX2, 10, "TrackNights$Possession", rfl, by decide, inX2, Or.inr ⟨"TrackNights", (NB_of 779 rfl rfl)⟩, Or.inl rfl⟩
set_option maxRecDepth 100000 in
theorem fl_X6_196 : FL RX6 196 4 5 := ⟨RX2, TX2, 10, "TrackNights$Possession", rfl, by decide, inX2, Or.inr ⟨"TrackNights", (NB_of 781 rfl rfl)⟩, Or.inl rfl⟩
set_option maxRecDepth 100000 in
theorem fl_X6_191 : FL RX6 191 4 6 := ⟨RX2, TX2, 10, "TrackNights$Possession", rfl, by decide, inX2, Or.inr ⟨"TrackNights", (NB_of 783 rfl rfl)⟩, Or.inl rfl⟩
set_option maxRecDepth 100000 in
theorem fl_X6_259 : FL RX6 259 4 9 := ⟨RX2, TX2, 10, "TrackNights$Possession", rfl, by decide, inX2, Or.inr ⟨"TrackNights", (NB_of 787 rfl rfl)⟩, Or.inl rfl⟩
set_option maxRecDepth 100000 in
theorem fl_X6_457 : FL RX6 457 7 0 := ⟨RX5, TX5, 3, "TrackNights$Work", rfl, by decide, inX5, Or.inr ⟨"TrackNights", (NB_of 839 rfl rfl)⟩, Or.inl rfl⟩
set_option maxRecDepth 100000 in
theorem fl_X2_57 : FL RX2 57 7 1 := ⟨RX5, TX5, 3, "TrackNights$Work", rfl, by decide, inX5, Or.inr ⟨"TrackNights", (NB_of 841 rfl rfl)⟩, Or.inl rfl⟩
set_option maxRecDepth 100000 in
theorem fl_X6_452 : FL RX6 452 7 1 := ⟨RX5, TX5, 3, "TrackNights$Work", rfl, by decide, inX5, Or.inr ⟨"TrackNights", (NB_of 842 rfl rfl)⟩, Or.inl rfl⟩
set_option maxRecDepth 100000 in
theorem fl_X2_61 : FL RX2 61 7 2 := ⟨RX5, TX5, 3, "TrackNights$Work", rfl, by decide, inX5, Or.inr ⟨"TrackNights", (NB_of 844 rfl rfl)⟩, Or.inl rfl⟩
set_option maxRecDepth 100000 in
theorem fl_X6_456 : FL RX6 456 7 2 := ⟨RX5, TX5, 3, "TrackNights$Work", rfl, by decide, inX5, Or.inr ⟨"TrackNights", (NB_of 845 rfl rfl)⟩, Or.inl rfl⟩
set_option maxRecDepth 100000 in
theorem nw_L_8 : NW RL 8 8 13 [.null, .null, .null, .null, .null, .null, .int 0, .int 0, .int 0, .int 0, .int 0, .int 0, .int 0] := ⟨RX6, TX6, tyX6, rfl, inX6, by decide +kernel, (TB_of 83 rfl rfl), (TB_of 84 rfl rfl), (TB_of 58 rfl rfl), by intro j hj; match j, hj with | 0, _ => rfl | 1, _ => rfl | 2, _ => rfl | 3, _ => rfl | 4, _ => rfl | 5, _ => rfl | 6, _ => rfl | 7, _ => rfl | 8, _ => rfl | 9, _ => rfl | 10, _ => rfl | 11, _ => rfl | 12, _ => rfl | n + 13, h => exact absurd h (by omega)⟩
set_option maxRecDepth 100000 in
theorem nw_X6_9 : NW RX6 9 5 5 [.null, .int 0, .int 0, .int 0, .int 0] := ⟨RX3, TX3, tyX3, rfl, inX3, by decide +kernel, (TB_of 91 rfl rfl), (TB_of 147 rfl rfl), (TB_of 63 rfl rfl), by intro j hj; match j, hj with | 0, _ => rfl | 1, _ => rfl | 2, _ => rfl | 3, _ => rfl | 4, _ => rfl | n + 5, h => exact absurd h (by omega)⟩
set_option maxRecDepth 100000 in
theorem nw_X6_15 : NW RX6 15 1 3 [.int 0, .null, .int 0] := ⟨RJx4a65c, TJx4a65c, tyJx4a65c, rfl, inJx4a65c, by decide +kernel, (TB_of 93 rfl rfl), (TB_of 94 rfl rfl), (TB_of 61 rfl rfl), by intro j hj; match j, hj with | 0, _ => rfl | 1, _ => rfl | 2, _ => rfl | n + 3, h => exact absurd h (by omega)⟩
set_option maxRecDepth 100000 in
theorem nw_X6_28 : NW RX6 28 6 3 [.int 0, .int 0, .int 0] := ⟨RX4, TX4, tyX4, rfl, inX4, by decide +kernel, (TB_of 122 rfl rfl), (TB_of 123 rfl rfl), (TB_of 62 rfl rfl), by intro j hj; match j, hj with | 0, _ => rfl | 1, _ => rfl | 2, _ => rfl | n + 3, h => exact absurd h (by omega)⟩
set_option maxRecDepth 100000 in
theorem nw_X3_9 : NW RX3 9 6 3 [.int 0, .int 0, .int 0] := ⟨RX4, TX4, tyX4, rfl, inX4, by decide +kernel, (TB_of 152 rfl rfl), (TB_of 123 rfl rfl), (TB_of 62 rfl rfl), by intro j hj; match j, hj with | 0, _ => rfl | 1, _ => rfl | 2, _ => rfl | n + 3, h => exact absurd h (by omega)⟩
set_option maxRecDepth 100000 in
theorem nw_X6_110 : NW RX6 110 3 4 [.int 0, .int 0, .int 0, .null] := ⟨RX1, TX1, tyX1, rfl, inX1, by decide +kernel, (TB_of 247 rfl rfl), (TB_of 310 rfl rfl), (TB_of 75 rfl rfl), by intro j hj; match j, hj with | 0, _ => rfl | 1, _ => rfl | 2, _ => rfl | 3, _ => rfl | n + 4, h => exact absurd h (by omega)⟩
set_option maxRecDepth 100000 in
theorem nw_X6_176 : NW RX6 176 4 10 [.int 0, .int 0, .int 0, .int 0, .int 0, .null, .int 0, .int 0, .int 0, .int 0] := ⟨RX2, TX2, tyX2, rfl, inX2, by decide +kernel, (TB_of 252 rfl rfl), (TB_of 763 rfl rfl), (TB_of 80 rfl rfl), by intro j hj; match j, hj with | 0, _ => rfl | 1, _ => rfl | 2, _ => rfl | 3, _ => rfl | 4, _ => rfl | 5, _ => rfl | 6, _ => rfl | 7, _ => rfl | 8, _ => rfl | 9, _ => rfl | n + 10, h => exact absurd h (by omega)⟩
set_option maxRecDepth 100000 in
theorem nw_X6_148 : NW RX6 148 2 4 [.int 0, .int 0, .int 0, .int 0] := ⟨RX0, TX0, tyX0, rfl, inX0, by decide +kernel, (TB_of 488 rfl rfl), (TB_of 713 rfl rfl), (TB_of 79 rfl rfl), by intro j hj; match j, hj with | 0, _ => rfl | 1, _ => rfl | 2, _ => rfl | 3, _ => rfl | n + 4, h => exact absurd h (by omega)⟩
set_option maxRecDepth 100000 in
theorem nw_X2_55 : NW RX2 55 7 3 [.null, .null, .int 0] := ⟨RX5, TX5, tyX5, rfl, inX5, by decide +kernel, (TB_of 505 rfl rfl), (TB_of 833 rfl rfl), (TB_of 81 rfl rfl), by intro j hj; match j, hj with | 0, _ => rfl | 1, _ => rfl | 2, _ => rfl | n + 3, h => exact absurd h (by omega)⟩
set_option maxRecDepth 100000 in
theorem nw_X6_222 : NW RX6 222 7 3 [.null, .null, .int 0] := ⟨RX5, TX5, tyX5, rfl, inX5, by decide +kernel, (TB_of 593 rfl rfl), (TB_of 833 rfl rfl), (TB_of 81 rfl rfl), by intro j hj; match j, hj with | 0, _ => rfl | 1, _ => rfl | 2, _ => rfl | n + 3, h => exact absurd h (by omega)⟩
set_option maxRecDepth 100000 in
theorem nw_X1_15 : NW RX1 15 6 3 [.int 0, .int 0, .int 0] := ⟨RX4, TX4, tyX4, rfl, inX4, by decide +kernel, (TB_of 616 rfl rfl), (TB_of 123 rfl rfl), (TB_of 62 rfl rfl), by intro j hj; match j, hj with | 0, _ => rfl | 1, _ => rfl | 2, _ => rfl | n + 3, h => exact absurd h (by omega)⟩
set_option maxRecDepth 100000 in
theorem nw_X2_9 : NW RX2 9 1 3 [.int 0, .null, .int 0] := ⟨RJx4a65c, TJx4a65c, tyJx4a65c, rfl, inJx4a65c, by decide +kernel, (TB_of 768 rfl rfl), (TB_of 94 rfl rfl), (TB_of 61 rfl rfl), by intro j hj; match j, hj with | 0, _ => rfl | 1, _ => rfl | 2, _ => rfl | n + 3, h => exact absurd h (by omega)⟩
set_option maxRecDepth 100000 in
theorem nw_L_103 : NW RL 103 9 12 [.int 0, .null, .null, .null, .null, .int 0, .int 0, .int 0, .int 0, .int 0, .int 0, .long 0] := ⟨RX7, TX7, tyX7, rfl, inX7, by decide +kernel, (TB_of 969 rfl rfl), (TB_of 970 rfl rfl), (TB_of 64 rfl rfl), by intro j hj; match j, hj with | 0, _ => rfl | 1, _ => rfl | 2, _ => rfl | 3, _ => rfl | 4, _ => rfl | 5, _ => rfl | 6, _ => rfl | 7, _ => rfl | 8, _ => rfl | 9, _ => rfl | 10, _ => rfl | 11, _ => rfl | n + 12, h => exact absurd h (by omega)⟩
set_option maxRecDepth 100000 in
theorem nw_X7_14 : NW RX7 14 1 3 [.int 0, .null, .int 0] := ⟨RJx4a65c, TJx4a65c, tyJx4a65c, rfl, inJx4a65c, by decide +kernel, (TB_of 977 rfl rfl), (TB_of 94 rfl rfl), (TB_of 61 rfl rfl), by intro j hj; match j, hj with | 0, _ => rfl | 1, _ => rfl | 2, _ => rfl | n + 3, h => exact absurd h (by omega)⟩
set_option maxRecDepth 100000 in
theorem nw_Jx4a65c_267 : NW RJx4a65c 267 0 4 [.int 0, .int 0, .int 0, .null] := ⟨RJx35411, TJx35411, tyJx35411, rfl, inJx35411, by decide +kernel, (TB_of 1054 rfl rfl), (TB_of 1055 rfl rfl), (TB_of 74 rfl rfl), by intro j hj; match j, hj with | 0, _ => rfl | 1, _ => rfl | 2, _ => rfl | 3, _ => rfl | n + 4, h => exact absurd h (by omega)⟩
set_option maxRecDepth 100000 in
theorem lk_L_102 : LkI RL 102 yX6_init cX6_init 2 0 := ⟨(TB_of 85 rfl rfl), (TB_of 86 rfl rfl), (TB_of 58 rfl rfl), (TB_of 87 rfl rfl), ⟨⟨by decide, by decide⟩, by decide +kernel⟩, rfl⟩
set_option maxRecDepth 100000 in
theorem lk_X6_17 : LkI RX6 17 yJx4a65c_init_da8c8 cJx4a65c_init_da8c8 1 0 := ⟨(TB_of 95 rfl rfl), (TB_of 96 rfl rfl), (TB_of 61 rfl rfl), (TB_of 97 rfl rfl), ⟨⟨by decide, by decide⟩, by decide +kernel⟩, rfl⟩
set_option maxRecDepth 100000 in
theorem lk_Jx4a65c_1 : LkI RJx4a65c 1 yJxc12de_init_da8c8 cJxc12de_init_da8c8 1 0 := ⟨(TB_of 98 rfl rfl), (TB_of 99 rfl rfl), (TB_of 60 rfl rfl), (TB_of 100 rfl rfl), ⟨⟨by decide, by decide⟩, by decide +kernel⟩, rfl⟩
set_option maxRecDepth 100000 in
theorem lk_Jxc12de_1 : LkI RJxc12de 1 yJxa1e45_init_da8c8 cJxa1e45_init_da8c8 1 0 := ⟨(TB_of 101 rfl rfl), (TB_of 102 rfl rfl), (TB_of 59 rfl rfl), (TB_of 103 rfl rfl), ⟨⟨by decide, by decide⟩, by decide +kernel⟩, rfl⟩
set_option maxRecDepth 100000 in
theorem lk_X6_30 : LkI RX6 30 yX4_init cX4_init 4 3 := ⟨(TB_of 124 rfl rfl), (TB_of 125 rfl rfl), (TB_of 62 rfl rfl), (TB_of 126 rfl rfl), ⟨⟨by decide, by decide⟩, by decide +kernel⟩, rfl⟩
set_option maxRecDepth 100000 in
theorem lk_X3_11 : LkI RX3 11 yX4_init cX4_init 4 3 := ⟨(TB_of 153 rfl rfl), (TB_of 125 rfl rfl), (TB_of 62 rfl rfl), (TB_of 126 rfl rfl), ⟨⟨by decide, by decide⟩, by decide +kernel⟩, rfl⟩
set_option maxRecDepth 100000 in
theorem lk_L_197 : LkV RL 197 yX6_digest cX6_digest 5 (some .long) 0 8 := ⟨(TB_of 215 rfl rfl), (TB_of 216 rfl rfl), (TB_of 217 rfl rfl), (TB_of 58 rfl rfl), (TB_of 218 rfl rfl), ⟨⟨by decide, by decide⟩, by decide +kernel⟩, TX6, 13, rfl⟩
set_option maxRecDepth 100000 in
theorem lk_X6_382 : LkV RX6 382 yX6_many cX6_many 2 (some .int) 1 8 := ⟨(TB_of 221 rfl rfl), (TB_of 222 rfl rfl), (TB_of 223 rfl rfl), (TB_of 58 rfl rfl), (TB_of 224 rfl rfl), ⟨⟨by decide, by decide⟩, by decide +kernel⟩, TX6, 13, rfl⟩
set_option maxRecDepth 100000 in
theorem lk_X6_104 : LkV RX6 104 yJx4a65c_size_8abf5 cJx4a65c_size_8abf5 1 (some .int) 0 1 := ⟨(TB_of 225 rfl rfl), (TB_of 226 rfl rfl), (TB_of 227 rfl rfl), (TB_of 61 rfl rfl), (TB_of 228 rfl rfl), ⟨⟨by decide, by decide⟩, by decide +kernel⟩, TJx4a65c, 3, rfl⟩
set_option maxRecDepth 100000 in
theorem lk_X6_322 : LkV RX6 322 yX6_countAligned cX6_countAligned 3 (some .int) 0 8 := ⟨(TB_of 229 rfl rfl), (TB_of 231 rfl rfl), (TB_of 0 rfl rfl), (TB_of 58 rfl rfl), (TB_of 232 rfl rfl), ⟨⟨by decide, by decide⟩, by decide +kernel⟩, TX6, 13, rfl⟩
set_option maxRecDepth 100000 in
theorem lk_X6_130 : LkV RX6 130 yJx4a65c_get_915e3 cJx4a65c_get_915e3 2 (some (.object "java/lang/Object")) 1 1 := ⟨(TB_of 233 rfl rfl), (TB_of 234 rfl rfl), (TB_of 235 rfl rfl), (TB_of 61 rfl rfl), (TB_of 236 rfl rfl), ⟨⟨by decide, by decide⟩, by decide +kernel⟩, TJx4a65c, 3, rfl⟩
set_option maxRecDepth 100000 in
theorem lk_Jx4a65c_118 : LkS RJx4a65c 118 yJ15_checkIndex_7cf53 cJ15_checkIndex_7cf53 2 (some .int) 2 := ⟨(TB_of 237 rfl rfl), (TB_of 238 rfl rfl), (TB_of 71 rfl rfl), (TB_of 239 rfl rfl), ⟨⟨by decide, by decide⟩, by decide +kernel⟩⟩
set_option maxRecDepth 100000 in
theorem lk_J15_105 : LkS RJ15 105 yJ3_checkIndex_8e157 cJ3_checkIndex_8e157 3 (some .int) 3 := ⟨(TB_of 240 rfl rfl), (TB_of 241 rfl rfl), (TB_of 72 rfl rfl), (TB_of 242 rfl rfl), ⟨⟨by decide, by decide⟩, by decide +kernel⟩⟩
set_option maxRecDepth 100000 in
theorem lk_Jx4a65c_123 : LkV RJx4a65c 123 yJx4a65c_elementData_915e3 cJx4a65c_elementData_915e3 2 (some (.object "java/lang/Object")) 1 1 := ⟨(TB_of 243 rfl rfl), (TB_of 244 rfl rfl), (TB_of 245 rfl rfl), (TB_of 61 rfl rfl), (TB_of 246 rfl rfl), ⟨⟨by decide, by decide⟩, by decide +kernel⟩, TJx4a65c, 3, rfl⟩
set_option maxRecDepth 100000 in
theorem lk_X6_325 : LkV RX6 325 yX6_countPossessions cX6_countPossessions 4 (some .int) 1 8 := ⟨(TB_of 248 rfl rfl), (TB_of 250 rfl rfl), (TB_of 1 rfl rfl), (TB_of 58 rfl rfl), (TB_of 251 rfl rfl), ⟨⟨by decide, by decide⟩, by decide +kernel⟩, TX6, 13, rfl⟩
set_option maxRecDepth 100000 in
theorem lk_X6_328 : LkV RX6 328 yX6_countTrueRisks cX6_countTrueRisks 3 (some .int) 0 8 := ⟨(TB_of 253 rfl rfl), (TB_of 255 rfl rfl), (TB_of 2 rfl rfl), (TB_of 58 rfl rfl), (TB_of 256 rfl rfl), ⟨⟨by decide, by decide⟩, by decide +kernel⟩, TX6, 13, rfl⟩
set_option maxRecDepth 100000 in
theorem lk_X6_350 : LkV RX6 350 yX3_isRisk cX3_isRisk 2 (some .boolean) 1 5 := ⟨(TB_of 257 rfl rfl), (TB_of 258 rfl rfl), (TB_of 259 rfl rfl), (TB_of 63 rfl rfl), (TB_of 260 rfl rfl), ⟨⟨by decide, by decide⟩, by decide +kernel⟩, TX3, 5, rfl⟩
set_option maxRecDepth 100000 in
theorem lk_X3_47 : LkV RX3 47 yX3_trueSpeed cX3_trueSpeed 2 (some .int) 1 5 := ⟨(TB_of 261 rfl rfl), (TB_of 262 rfl rfl), (TB_of 263 rfl rfl), (TB_of 63 rfl rfl), (TB_of 264 rfl rfl), ⟨⟨by decide, by decide⟩, by decide +kernel⟩, TX3, 5, rfl⟩
set_option maxRecDepth 100000 in
theorem lk_X3_43 : LkV RX3 43 yX4_speed cX4_speed 3 (some .int) 1 6 := ⟨(TB_of 265 rfl rfl), (TB_of 266 rfl rfl), (TB_of 267 rfl rfl), (TB_of 62 rfl rfl), (TB_of 268 rfl rfl), ⟨⟨by decide, by decide⟩, by decide +kernel⟩, TX4, 3, rfl⟩
set_option maxRecDepth 100000 in
theorem lk_X4_21 : LkV RX4 21 yX4_speedByWear cX4_speedByWear 1 (some .int) 0 6 := ⟨(TB_of 269 rfl rfl), (TB_of 271 rfl rfl), (TB_of 3 rfl rfl), (TB_of 62 rfl rfl), (TB_of 272 rfl rfl), ⟨⟨by decide, by decide⟩, by decide +kernel⟩, TX4, 3, rfl⟩
set_option maxRecDepth 100000 in
theorem lk_X4_25 : LkV RX4 25 yX4_speedByCrack cX4_speedByCrack 1 (some .int) 0 6 := ⟨(TB_of 273 rfl rfl), (TB_of 275 rfl rfl), (TB_of 4 rfl rfl), (TB_of 62 rfl rfl), (TB_of 276 rfl rfl), ⟨⟨by decide, by decide⟩, by decide +kernel⟩, TX4, 3, rfl⟩
set_option maxRecDepth 100000 in
theorem lk_X4_28 : LkS RX4 28 yJ9_min_7cf53 cJ9_min_7cf53 2 (some .int) 2 := ⟨(TB_of 277 rfl rfl), (TB_of 278 rfl rfl), (TB_of 73 rfl rfl), (TB_of 279 rfl rfl), ⟨⟨by decide, by decide⟩, by decide +kernel⟩⟩
set_option maxRecDepth 100000 in
theorem lk_X4_34 : LkV RX4 34 yX4_speedBySettle cX4_speedBySettle 1 (some .int) 0 6 := ⟨(TB_of 280 rfl rfl), (TB_of 282 rfl rfl), (TB_of 5 rfl rfl), (TB_of 62 rfl rfl), (TB_of 283 rfl rfl), ⟨⟨by decide, by decide⟩, by decide +kernel⟩, TX4, 3, rfl⟩
set_option maxRecDepth 100000 in
theorem lk_X4_37 : LkS RX4 37 yX4_speedByHeat cX4_speedByHeat 1 (some .int) 1 := ⟨(TB_of 284 rfl rfl), (TB_of 285 rfl rfl), (TB_of 62 rfl rfl), (TB_of 286 rfl rfl), ⟨⟨by decide, by decide⟩, by decide +kernel⟩⟩
set_option maxRecDepth 100000 in
theorem lk_X6_331 : LkV RX6 331 yX6_countKnownRisks cX6_countKnownRisks 4 (some .int) 0 8 := ⟨(TB_of 287 rfl rfl), (TB_of 289 rfl rfl), (TB_of 6 rfl rfl), (TB_of 58 rfl rfl), (TB_of 290 rfl rfl), ⟨⟨by decide, by decide⟩, by decide +kernel⟩, TX6, 13, rfl⟩
set_option maxRecDepth 100000 in
theorem lk_X6_294 : LkV RX6 294 yX6_knownValues cX6_knownValues 4 (some (.object "TrackNights$Values")) 1 8 := ⟨(TB_of 291 rfl rfl), (TB_of 293 rfl rfl), (TB_of 7 rfl rfl), (TB_of 58 rfl rfl), (TB_of 294 rfl rfl), ⟨⟨by decide, by decide⟩, by decide +kernel⟩, TX6, 13, rfl⟩
set_option maxRecDepth 100000 in
theorem lk_X6_301 : LkV RX6 301 yX6_knowingMeasure cX6_knowingMeasure 3 (some .int) 1 8 := ⟨(TB_of 295 rfl rfl), (TB_of 297 rfl rfl), (TB_of 8 rfl rfl), (TB_of 58 rfl rfl), (TB_of 298 rfl rfl), ⟨⟨by decide, by decide⟩, by decide +kernel⟩, TX6, 13, rfl⟩
set_option maxRecDepth 100000 in
theorem lk_X6_439 : LkV RX6 439 yX1_says cX1_says 2 (some (.object "TrackNights$Values")) 1 3 := ⟨(TB_of 299 rfl rfl), (TB_of 300 rfl rfl), (TB_of 301 rfl rfl), (TB_of 75 rfl rfl), (TB_of 302 rfl rfl), ⟨⟨by decide, by decide⟩, by decide +kernel⟩, TX1, 4, rfl⟩
set_option maxRecDepth 100000 in
theorem lk_X1_40 : LkV RX1 40 yX1_writtenOf cX1_writtenOf 2 (some (.object "TrackNights$Values")) 1 3 := ⟨(TB_of 303 rfl rfl), (TB_of 304 rfl rfl), (TB_of 305 rfl rfl), (TB_of 75 rfl rfl), (TB_of 306 rfl rfl), ⟨⟨by decide, by decide⟩, by decide +kernel⟩, TX1, 4, rfl⟩
set_option maxRecDepth 100000 in
theorem lk_X1_44 : LkV RX1 44 yX1_writtenFor cX1_writtenFor 4 (some (.object "TrackNights$Values")) 2 3 := ⟨(TB_of 307 rfl rfl), (TB_of 309 rfl rfl), (TB_of 9 rfl rfl), (TB_of 75 rfl rfl), (TB_of 311 rfl rfl), ⟨⟨by decide, by decide⟩, by decide +kernel⟩, TX1, 4, rfl⟩
set_option maxRecDepth 100000 in
theorem lk_X6_298 : LkV RX6 298 yX4_speed cX4_speed 3 (some .int) 1 6 := ⟨(TB_of 312 rfl rfl), (TB_of 266 rfl rfl), (TB_of 267 rfl rfl), (TB_of 62 rfl rfl), (TB_of 268 rfl rfl), ⟨⟨by decide, by decide⟩, by decide +kernel⟩, TX4, 3, rfl⟩
set_option maxRecDepth 100000 in
theorem lk_X6_385 : LkV RX6 385 yX6_digestSection cX6_digestSection 7 (some .long) 2 8 := ⟨(TB_of 381 rfl rfl), (TB_of 383 rfl rfl), (TB_of 11 rfl rfl), (TB_of 58 rfl rfl), (TB_of 384 rfl rfl), ⟨⟨by decide, by decide⟩, by decide +kernel⟩, TX6, 13, rfl⟩
set_option maxRecDepth 100000 in
theorem lk_X6_399 : LkV RX6 399 yX6_ofSection cX6_ofSection 4 (some .int) 2 8 := ⟨(TB_of 385 rfl rfl), (TB_of 386 rfl rfl), (TB_of 387 rfl rfl), (TB_of 58 rfl rfl), (TB_of 388 rfl rfl), ⟨⟨by decide, by decide⟩, by decide +kernel⟩, TX6, 13, rfl⟩
set_option maxRecDepth 100000 in
theorem lk_X6_64 : LkV RX6 64 yX6_sectionAt cX6_sectionAt 2 (some (.object "TrackNights$Section")) 1 8 := ⟨(TB_of 389 rfl rfl), (TB_of 391 rfl rfl), (TB_of 12 rfl rfl), (TB_of 58 rfl rfl), (TB_of 392 rfl rfl), ⟨⟨by decide, by decide⟩, by decide +kernel⟩, TX6, 13, rfl⟩
set_option maxRecDepth 100000 in
theorem lk_X6_340 : LkV RX6 340 yX6_checkSection cX6_checkSection 2 none 1 8 := ⟨(TB_of 393 rfl rfl), (TB_of 395 rfl rfl), (TB_of 13 rfl rfl), (TB_of 58 rfl rfl), (TB_of 396 rfl rfl), ⟨⟨by decide, by decide⟩, by decide +kernel⟩, TX6, 13, rfl⟩
set_option maxRecDepth 100000 in
theorem lk_X6_289 : LkV RX6 289 yX3_trueSpeed cX3_trueSpeed 2 (some .int) 1 5 := ⟨(TB_of 413 rfl rfl), (TB_of 262 rfl rfl), (TB_of 263 rfl rfl), (TB_of 63 rfl rfl), (TB_of 264 rfl rfl), ⟨⟨by decide, by decide⟩, by decide +kernel⟩, TX3, 5, rfl⟩
set_option maxRecDepth 100000 in
theorem lk_X6_402 : LkV RX6 402 yX6_known cX6_known 5 (some .int) 2 8 := ⟨(TB_of 415 rfl rfl), (TB_of 416 rfl rfl), (TB_of 417 rfl rfl), (TB_of 58 rfl rfl), (TB_of 418 rfl rfl), ⟨⟨by decide, by decide⟩, by decide +kernel⟩, TX6, 13, rfl⟩
set_option maxRecDepth 100000 in
theorem lk_X6_405 : LkV RX6 405 yX6_why cX6_why 5 (some .int) 2 8 := ⟨(TB_of 420 rfl rfl), (TB_of 421 rfl rfl), (TB_of 422 rfl rfl), (TB_of 58 rfl rfl), (TB_of 423 rfl rfl), ⟨⟨by decide, by decide⟩, by decide +kernel⟩, TX6, 13, rfl⟩
set_option maxRecDepth 100000 in
theorem lk_X6_306 : LkV RX6 306 yX4_decider cX4_decider 3 (some .int) 1 6 := ⟨(TB_of 424 rfl rfl), (TB_of 425 rfl rfl), (TB_of 426 rfl rfl), (TB_of 62 rfl rfl), (TB_of 427 rfl rfl), ⟨⟨by decide, by decide⟩, by decide +kernel⟩, TX4, 3, rfl⟩
set_option maxRecDepth 100000 in
theorem lk_X4_41 : LkV RX4 41 yX4_speed cX4_speed 3 (some .int) 1 6 := ⟨(TB_of 428 rfl rfl), (TB_of 266 rfl rfl), (TB_of 267 rfl rfl), (TB_of 62 rfl rfl), (TB_of 268 rfl rfl), ⟨⟨by decide, by decide⟩, by decide +kernel⟩, TX4, 3, rfl⟩
set_option maxRecDepth 100000 in
theorem lk_X6_409 : LkV RX6 409 yX6_couldSee cX6_couldSee 4 (some .int) 1 8 := ⟨(TB_of 429 rfl rfl), (TB_of 430 rfl rfl), (TB_of 431 rfl rfl), (TB_of 58 rfl rfl), (TB_of 432 rfl rfl), ⟨⟨by decide, by decide⟩, by decide +kernel⟩, TX6, 13, rfl⟩
set_option maxRecDepth 100000 in
theorem lk_X6_343 : LkV RX6 343 yX1_writtenOf cX1_writtenOf 2 (some (.object "TrackNights$Values")) 1 3 := ⟨(TB_of 433 rfl rfl), (TB_of 304 rfl rfl), (TB_of 305 rfl rfl), (TB_of 75 rfl rfl), (TB_of 306 rfl rfl), ⟨⟨by decide, by decide⟩, by decide +kernel⟩, TX1, 4, rfl⟩
set_option maxRecDepth 100000 in
theorem lk_X6_412 : LkV RX6 412 yX6_firstRisk cX6_firstRisk 5 (some .int) 2 8 := ⟨(TB_of 434 rfl rfl), (TB_of 435 rfl rfl), (TB_of 436 rfl rfl), (TB_of 58 rfl rfl), (TB_of 437 rfl rfl), ⟨⟨by decide, by decide⟩, by decide +kernel⟩, TX6, 13, rfl⟩
set_option maxRecDepth 100000 in
theorem lk_X6_82 : LkV RX6 82 yX6_checkTrains cX6_checkTrains 2 none 1 8 := ⟨(TB_of 438 rfl rfl), (TB_of 440 rfl rfl), (TB_of 14 rfl rfl), (TB_of 58 rfl rfl), (TB_of 441 rfl rfl), ⟨⟨by decide, by decide⟩, by decide +kernel⟩, TX6, 13, rfl⟩
set_option maxRecDepth 100000 in
theorem lk_X6_346 : LkV RX6 346 yX3_become cX3_become 2 none 1 5 := ⟨(TB_of 443 rfl rfl), (TB_of 444 rfl rfl), (TB_of 445 rfl rfl), (TB_of 63 rfl rfl), (TB_of 446 rfl rfl), ⟨⟨by decide, by decide⟩, by decide +kernel⟩, TX3, 5, rfl⟩
set_option maxRecDepth 100000 in
theorem lk_X6_353 : LkV RX6 353 yX3_bearDay cX3_bearDay 3 none 1 5 := ⟨(TB_of 447 rfl rfl), (TB_of 448 rfl rfl), (TB_of 449 rfl rfl), (TB_of 63 rfl rfl), (TB_of 450 rfl rfl), ⟨⟨by decide, by decide⟩, by decide +kernel⟩, TX3, 5, rfl⟩
set_option maxRecDepth 100000 in
theorem lk_X3_50 : LkS RX3 50 yJ9_min_7cf53 cJ9_min_7cf53 2 (some .int) 2 := ⟨(TB_of 451 rfl rfl), (TB_of 278 rfl rfl), (TB_of 73 rfl rfl), (TB_of 279 rfl rfl), ⟨⟨by decide, by decide⟩, by decide +kernel⟩⟩
set_option maxRecDepth 100000 in
theorem lk_X3_56 : LkV RX3 56 yX3_crackGrowth cX3_crackGrowth 1 (some .int) 0 5 := ⟨(TB_of 452 rfl rfl), (TB_of 454 rfl rfl), (TB_of 15 rfl rfl), (TB_of 63 rfl rfl), (TB_of 455 rfl rfl), ⟨⟨by decide, by decide⟩, by decide +kernel⟩, TX3, 5, rfl⟩
set_option maxRecDepth 100000 in
theorem lk_X6_415 : LkV RX6 415 yX6_bestWork cX6_bestWork 9 (some .int) 3 8 := ⟨(TB_of 456 rfl rfl), (TB_of 457 rfl rfl), (TB_of 458 rfl rfl), (TB_of 58 rfl rfl), (TB_of 459 rfl rfl), ⟨⟨by decide, by decide⟩, by decide +kernel⟩, TX6, 13, rfl⟩
set_option maxRecDepth 100000 in
theorem lk_X6_358 : LkV RX6 358 yX6_costBehind cX6_costBehind 7 (some .int) 4 8 := ⟨(TB_of 461 rfl rfl), (TB_of 463 rfl rfl), (TB_of 16 rfl rfl), (TB_of 58 rfl rfl), (TB_of 464 rfl rfl), ⟨⟨by decide, by decide⟩, by decide +kernel⟩, TX6, 13, rfl⟩
set_option maxRecDepth 100000 in
theorem lk_X6_460 : LkV RX6 460 yX3_treat cX3_treat 3 none 2 5 := ⟨(TB_of 465 rfl rfl), (TB_of 466 rfl rfl), (TB_of 467 rfl rfl), (TB_of 63 rfl rfl), (TB_of 468 rfl rfl), ⟨⟨by decide, by decide⟩, by decide +kernel⟩, TX3, 5, rfl⟩
set_option maxRecDepth 100000 in
theorem lk_X3_60 : LkS RX3 60 yJ9_max_7cf53 cJ9_max_7cf53 2 (some .int) 2 := ⟨(TB_of 469 rfl rfl), (TB_of 470 rfl rfl), (TB_of 73 rfl rfl), (TB_of 471 rfl rfl), ⟨⟨by decide, by decide⟩, by decide +kernel⟩⟩
set_option maxRecDepth 100000 in
theorem lk_X6_204 : LkV RX6 204 yX3_hoursFor cX3_hoursFor 3 (some .int) 1 5 := ⟨(TB_of 472 rfl rfl), (TB_of 473 rfl rfl), (TB_of 474 rfl rfl), (TB_of 63 rfl rfl), (TB_of 475 rfl rfl), ⟨⟨by decide, by decide⟩, by decide +kernel⟩, TX3, 5, rfl⟩
set_option maxRecDepth 100000 in
theorem lk_X6_433 : LkS RX6 433 yX6_delayCost cX6_delayCost 2 (some .int) 2 := ⟨(TB_of 476 rfl rfl), (TB_of 477 rfl rfl), (TB_of 58 rfl rfl), (TB_of 478 rfl rfl), ⟨⟨by decide, by decide⟩, by decide +kernel⟩⟩
set_option maxRecDepth 100000 in
theorem lk_X6_389 : LkV RX6 389 yX6_ofMachine cX6_ofMachine 4 (some .int) 2 8 := ⟨(TB_of 479 rfl rfl), (TB_of 480 rfl rfl), (TB_of 481 rfl rfl), (TB_of 58 rfl rfl), (TB_of 482 rfl rfl), ⟨⟨by decide, by decide⟩, by decide +kernel⟩, TX6, 13, rfl⟩
set_option maxRecDepth 100000 in
theorem lk_X6_151 : LkV RX6 151 yX6_machineAt cX6_machineAt 2 (some (.object "TrackNights$Machine")) 1 8 := ⟨(TB_of 483 rfl rfl), (TB_of 485 rfl rfl), (TB_of 17 rfl rfl), (TB_of 58 rfl rfl), (TB_of 486 rfl rfl), ⟨⟨by decide, by decide⟩, by decide +kernel⟩, TX6, 13, rfl⟩
set_option maxRecDepth 100000 in
theorem lk_X6_392 : LkV RX6 392 yX6_ofPossession cX6_ofPossession 4 (some .int) 2 8 := ⟨(TB_of 490 rfl rfl), (TB_of 491 rfl rfl), (TB_of 492 rfl rfl), (TB_of 58 rfl rfl), (TB_of 493 rfl rfl), ⟨⟨by decide, by decide⟩, by decide +kernel⟩, TX6, 13, rfl⟩
set_option maxRecDepth 100000 in
theorem lk_X6_181 : LkV RX6 181 yX6_possessionAt cX6_possessionAt 2 (some (.object "TrackNights$Possession")) 1 8 := ⟨(TB_of 494 rfl rfl), (TB_of 496 rfl rfl), (TB_of 18 rfl rfl), (TB_of 58 rfl rfl), (TB_of 497 rfl rfl), ⟨⟨by decide, by decide⟩, by decide +kernel⟩, TX6, 13, rfl⟩
set_option maxRecDepth 100000 in
theorem lk_X6_208 : LkV RX6 208 yX2_hoursPlanned cX2_hoursPlanned 3 (some .int) 0 4 := ⟨(TB_of 499 rfl rfl), (TB_of 500 rfl rfl), (TB_of 501 rfl rfl), (TB_of 80 rfl rfl), (TB_of 502 rfl rfl), ⟨⟨by decide, by decide⟩, by decide +kernel⟩, TX2, 10, rfl⟩
set_option maxRecDepth 100000 in
theorem lk_X2_47 : LkV RX2 47 yJx4a65c_size_8abf5 cJx4a65c_size_8abf5 1 (some .int) 0 1 := ⟨(TB_of 503 rfl rfl), (TB_of 226 rfl rfl), (TB_of 227 rfl rfl), (TB_of 61 rfl rfl), (TB_of 228 rfl rfl), ⟨⟨by decide, by decide⟩, by decide +kernel⟩, TJx4a65c, 3, rfl⟩
set_option maxRecDepth 100000 in
theorem lk_X2_51 : LkV RX2 51 yJx4a65c_get_915e3 cJx4a65c_get_915e3 2 (some (.object "java/lang/Object")) 1 1 := ⟨(TB_of 504 rfl rfl), (TB_of 234 rfl rfl), (TB_of 235 rfl rfl), (TB_of 61 rfl rfl), (TB_of 236 rfl rfl), ⟨⟨by decide, by decide⟩, by decide +kernel⟩, TJx4a65c, 3, rfl⟩
set_option maxRecDepth 100000 in
theorem lk_X6_242 : LkV RX6 242 yX2_marks cX2_marks 1 (some .int) 0 4 := ⟨(TB_of 506 rfl rfl), (TB_of 507 rfl rfl), (TB_of 508 rfl rfl), (TB_of 80 rfl rfl), (TB_of 509 rfl rfl), ⟨⟨by decide, by decide⟩, by decide +kernel⟩, TX2, 10, rfl⟩
set_option maxRecDepth 100000 in
theorem lk_X6_395 : LkV RX6 395 yX6_freeDay cX6_freeDay 5 (some .int) 3 8 := ⟨(TB_of 511 rfl rfl), (TB_of 512 rfl rfl), (TB_of 513 rfl rfl), (TB_of 58 rfl rfl), (TB_of 514 rfl rfl), ⟨⟨by decide, by decide⟩, by decide +kernel⟩, TX6, 13, rfl⟩
set_option maxRecDepth 100000 in
theorem lk_X6_99 : LkV RX6 99 yX6_checkStretch cX6_checkStretch 4 none 3 8 := ⟨(TB_of 515 rfl rfl), (TB_of 517 rfl rfl), (TB_of 19 rfl rfl), (TB_of 58 rfl rfl), (TB_of 518 rfl rfl), ⟨⟨by decide, by decide⟩, by decide +kernel⟩, TX6, 13, rfl⟩
set_option maxRecDepth 100000 in
theorem lk_X6_170 : LkV RX6 170 yX6_isFree cX6_isFree 7 (some .boolean) 4 8 := ⟨(TB_of 522 rfl rfl), (TB_of 524 rfl rfl), (TB_of 20 rfl rfl), (TB_of 58 rfl rfl), (TB_of 525 rfl rfl), ⟨⟨by decide, by decide⟩, by decide +kernel⟩, TX6, 13, rfl⟩
set_option maxRecDepth 100000 in
theorem lk_X6_445 : LkV RX6 445 yX2_meets cX2_meets 4 (some .boolean) 3 4 := ⟨(TB_of 526 rfl rfl), (TB_of 527 rfl rfl), (TB_of 528 rfl rfl), (TB_of 80 rfl rfl), (TB_of 529 rfl rfl), ⟨⟨by decide, by decide⟩, by decide +kernel⟩, TX2, 10, rfl⟩
set_option maxRecDepth 100000 in
theorem lk_L_7 : LkV RL 7 yX6_curve cX6_curve 5 (some .boolean) 2 8 := ⟨(TB_of 534 rfl rfl), (TB_of 535 rfl rfl), (TB_of 536 rfl rfl), (TB_of 58 rfl rfl), (TB_of 537 rfl rfl), ⟨⟨by decide, by decide⟩, by decide +kernel⟩, TX6, 13, rfl⟩
set_option maxRecDepth 100000 in
theorem lk_L_15 : LkV RL 15 yX6_sign cX6_sign 5 (some .int) 2 8 := ⟨(TB_of 542 rfl rfl), (TB_of 543 rfl rfl), (TB_of 544 rfl rfl), (TB_of 58 rfl rfl), (TB_of 545 rfl rfl), ⟨⟨by decide, by decide⟩, by decide +kernel⟩, TX6, 13, rfl⟩
set_option maxRecDepth 100000 in
theorem lk_L_21 : LkV RL 21 yX6_pass cX6_pass 6 (some .int) 3 8 := ⟨(TB_of 551 rfl rfl), (TB_of 552 rfl rfl), (TB_of 553 rfl rfl), (TB_of 58 rfl rfl), (TB_of 554 rfl rfl), ⟨⟨by decide, by decide⟩, by decide +kernel⟩, TX6, 13, rfl⟩
set_option maxRecDepth 100000 in
theorem lk_X6_95 : LkV RX6 95 yX6_passDay cX6_passDay 4 none 2 8 := ⟨(TB_of 573 rfl rfl), (TB_of 575 rfl rfl), (TB_of 21 rfl rfl), (TB_of 58 rfl rfl), (TB_of 576 rfl rfl), ⟨⟨by decide, by decide⟩, by decide +kernel⟩, TX6, 13, rfl⟩
set_option maxRecDepth 100000 in
theorem lk_X6_430 : LkV RX6 430 yX6_endNightsOf cX6_endNightsOf 4 none 1 8 := ⟨(TB_of 577 rfl rfl), (TB_of 579 rfl rfl), (TB_of 22 rfl rfl), (TB_of 58 rfl rfl), (TB_of 580 rfl rfl), ⟨⟨by decide, by decide⟩, by decide +kernel⟩, TX6, 13, rfl⟩
set_option maxRecDepth 100000 in
theorem lk_X6_255 : LkV RX6 255 yX6_endNight cX6_endNight 5 none 2 8 := ⟨(TB_of 581 rfl rfl), (TB_of 583 rfl rfl), (TB_of 23 rfl rfl), (TB_of 58 rfl rfl), (TB_of 584 rfl rfl), ⟨⟨by decide, by decide⟩, by decide +kernel⟩, TX6, 13, rfl⟩
set_option maxRecDepth 100000 in
theorem lk_X6_368 : LkV RX6 368 yX6_hoursTaken cX6_hoursTaken 4 (some .int) 1 8 := ⟨(TB_of 585 rfl rfl), (TB_of 587 rfl rfl), (TB_of 24 rfl rfl), (TB_of 58 rfl rfl), (TB_of 588 rfl rfl), ⟨⟨by decide, by decide⟩, by decide +kernel⟩, TX6, 13, rfl⟩
set_option maxRecDepth 100000 in
theorem lk_X6_463 : LkV RX6 463 yX2_hoursTakenBy cX2_hoursTakenBy 7 (some .int) 1 4 := ⟨(TB_of 589 rfl rfl), (TB_of 590 rfl rfl), (TB_of 591 rfl rfl), (TB_of 80 rfl rfl), (TB_of 592 rfl rfl), ⟨⟨by decide, by decide⟩, by decide +kernel⟩, TX2, 10, rfl⟩
set_option maxRecDepth 100000 in
theorem lk_X6_448 : LkV RX6 448 yX6_carryOut cX6_carryOut 2 none 1 8 := ⟨(TB_of 594 rfl rfl), (TB_of 596 rfl rfl), (TB_of 25 rfl rfl), (TB_of 58 rfl rfl), (TB_of 597 rfl rfl), ⟨⟨by decide, by decide⟩, by decide +kernel⟩, TX6, 13, rfl⟩
set_option maxRecDepth 100000 in
theorem lk_X6_372 : LkS RX6 372 yJ9_max_7cf53 cJ9_max_7cf53 2 (some .int) 2 := ⟨(TB_of 598 rfl rfl), (TB_of 470 rfl rfl), (TB_of 73 rfl rfl), (TB_of 471 rfl rfl), ⟨⟨by decide, by decide⟩, by decide +kernel⟩⟩
set_option maxRecDepth 100000 in
theorem lk_X6_436 : LkV RX6 436 yX6_breakIfCracked cX6_breakIfCracked 2 none 1 8 := ⟨(TB_of 599 rfl rfl), (TB_of 601 rfl rfl), (TB_of 26 rfl rfl), (TB_of 58 rfl rfl), (TB_of 602 rfl rfl), ⟨⟨by decide, by decide⟩, by decide +kernel⟩, TX6, 13, rfl⟩
set_option maxRecDepth 100000 in
theorem lk_L_27 : LkV RL 27 yX6_measure cX6_measure 8 (some .int) 4 8 := ⟨(TB_of 606 rfl rfl), (TB_of 607 rfl rfl), (TB_of 608 rfl rfl), (TB_of 58 rfl rfl), (TB_of 609 rfl rfl), ⟨⟨by decide, by decide⟩, by decide +kernel⟩, TX6, 13, rfl⟩
set_option maxRecDepth 100000 in
theorem lk_X6_112 : LkI RX6 112 yX1_init cX1_init 3 2 := ⟨(TB_of 612 rfl rfl), (TB_of 613 rfl rfl), (TB_of 75 rfl rfl), (TB_of 614 rfl rfl), ⟨⟨by decide, by decide⟩, by decide +kernel⟩, rfl⟩
set_option maxRecDepth 100000 in
theorem lk_X6_117 : LkV RX6 117 yX1_write cX1_write 4 none 2 3 := ⟨(TB_of 633 rfl rfl), (TB_of 634 rfl rfl), (TB_of 635 rfl rfl), (TB_of 75 rfl rfl), (TB_of 636 rfl rfl), ⟨⟨by decide, by decide⟩, by decide +kernel⟩, TX1, 4, rfl⟩
set_option maxRecDepth 100000 in
theorem lk_X1_37 : LkI RX1 37 yX4_init cX4_init 4 3 := ⟨(TB_of 637 rfl rfl), (TB_of 125 rfl rfl), (TB_of 62 rfl rfl), (TB_of 126 rfl rfl), ⟨⟨by decide, by decide⟩, by decide +kernel⟩, rfl⟩
set_option maxRecDepth 100000 in
theorem lk_X6_121 : LkV RX6 121 yJx4a65c_add_9ea2d cJx4a65c_add_9ea2d 2 (some .boolean) 1 1 := ⟨(TB_of 638 rfl rfl), (TB_of 639 rfl rfl), (TB_of 640 rfl rfl), (TB_of 61 rfl rfl), (TB_of 641 rfl rfl), ⟨⟨by decide, by decide⟩, by decide +kernel⟩, TJx4a65c, 3, rfl⟩
set_option maxRecDepth 100000 in
theorem lk_Jx4a65c_131 : LkV RJx4a65c 131 yJx4a65c_add_72be8 cJx4a65c_add_72be8 4 none 3 1 := ⟨(TB_of 642 rfl rfl), (TB_of 644 rfl rfl), (TB_of 27 rfl rfl), (TB_of 61 rfl rfl), (TB_of 645 rfl rfl), ⟨⟨by decide, by decide⟩, by decide +kernel⟩, TJx4a65c, 3, rfl⟩
set_option maxRecDepth 100000 in
theorem lk_Jx4a65c_129 : LkV RJx4a65c 129 yJx4a65c_grow_d5877 cJx4a65c_grow_d5877 1 (some (.array (.object "java/lang/Object"))) 0 1 := ⟨(TB_of 646 rfl rfl), (TB_of 648 rfl rfl), (TB_of 28 rfl rfl), (TB_of 61 rfl rfl), (TB_of 649 rfl rfl), ⟨⟨by decide, by decide⟩, by decide +kernel⟩, TJx4a65c, 3, rfl⟩
set_option maxRecDepth 100000 in
theorem lk_Jx4a65c_69 : LkV RJx4a65c 69 yJx4a65c_grow_92f84 cJx4a65c_grow_92f84 4 (some (.array (.object "java/lang/Object"))) 1 1 := ⟨(TB_of 650 rfl rfl), (TB_of 652 rfl rfl), (TB_of 29 rfl rfl), (TB_of 61 rfl rfl), (TB_of 653 rfl rfl), ⟨⟨by decide, by decide⟩, by decide +kernel⟩, TJx4a65c, 3, rfl⟩
set_option maxRecDepth 100000 in
theorem lk_Jx4a65c_73 : LkS RJx4a65c 73 yJ8_newLength_cabcc cJ8_newLength_cabcc 4 (some .int) 3 := ⟨(TB_of 654 rfl rfl), (TB_of 655 rfl rfl), (TB_of 76 rfl rfl), (TB_of 656 rfl rfl), ⟨⟨by decide, by decide⟩, by decide +kernel⟩⟩
set_option maxRecDepth 100000 in
theorem lk_J8_194 : LkS RJ8 194 yJ9_max_7cf53 cJ9_max_7cf53 2 (some .int) 2 := ⟨(TB_of 657 rfl rfl), (TB_of 470 rfl rfl), (TB_of 73 rfl rfl), (TB_of 471 rfl rfl), ⟨⟨by decide, by decide⟩, by decide +kernel⟩⟩
set_option maxRecDepth 100000 in
theorem lk_J8_201 : LkS RJ8 201 yJ8_hugeLength_7cf53 cJ8_hugeLength_7cf53 3 (some .int) 2 := ⟨(TB_of 659 rfl rfl), (TB_of 660 rfl rfl), (TB_of 76 rfl rfl), (TB_of 661 rfl rfl), ⟨⟨by decide, by decide⟩, by decide +kernel⟩⟩
set_option maxRecDepth 100000 in
theorem lk_Jx4a65c_66 : LkS RJx4a65c 66 yJ7_copyOf_1904c cJ7_copyOf_1904c 2 (some (.array (.object "java/lang/Object"))) 2 := ⟨(TB_of 662 rfl rfl), (TB_of 663 rfl rfl), (TB_of 77 rfl rfl), (TB_of 664 rfl rfl), ⟨⟨by decide, by decide⟩, by decide +kernel⟩⟩
set_option maxRecDepth 100000 in
theorem lk_J7_300 : LkS RJ7 300 yJ7_copyOf_6403c cJ7_copyOf_6403c 4 (some (.array (.object "java/lang/Object"))) 3 := ⟨(TB_of 682 rfl rfl), (TB_of 683 rfl rfl), (TB_of 77 rfl rfl), (TB_of 684 rfl rfl), ⟨⟨by decide, by decide⟩, by decide +kernel⟩⟩
set_option maxRecDepth 100000 in
theorem lk_J7_304 : LkS RJ7 304 yJ9_min_7cf53 cJ9_min_7cf53 2 (some .int) 2 := ⟨(TB_of 688 rfl rfl), (TB_of 278 rfl rfl), (TB_of 73 rfl rfl), (TB_of 279 rfl rfl), ⟨⟨by decide, by decide⟩, by decide +kernel⟩⟩
set_option maxRecDepth 100000 in
theorem lk_Jx4a65c_79 : LkS RJx4a65c 79 yJ9_max_7cf53 cJ9_max_7cf53 2 (some .int) 2 := ⟨(TB_of 692 rfl rfl), (TB_of 470 rfl rfl), (TB_of 73 rfl rfl), (TB_of 471 rfl rfl), ⟨⟨by decide, by decide⟩, by decide +kernel⟩⟩
set_option maxRecDepth 100000 in
theorem lk_L_31 : LkV RL 31 yX6_align cX6_align 3 (some .int) 1 8 := ⟨(TB_of 697 rfl rfl), (TB_of 698 rfl rfl), (TB_of 699 rfl rfl), (TB_of 58 rfl rfl), (TB_of 700 rfl rfl), ⟨⟨by decide, by decide⟩, by decide +kernel⟩, TX6, 13, rfl⟩
set_option maxRecDepth 100000 in
theorem lk_L_35 : LkV RL 35 yX6_machine cX6_machine 3 (some .int) 2 8 := ⟨(TB_of 706 rfl rfl), (TB_of 707 rfl rfl), (TB_of 708 rfl rfl), (TB_of 58 rfl rfl), (TB_of 709 rfl rfl), ⟨⟨by decide, by decide⟩, by decide +kernel⟩, TX6, 13, rfl⟩
set_option maxRecDepth 100000 in
theorem lk_X6_150 : LkI RX6 150 yX0_init cX0_init 3 2 := ⟨(TB_of 714 rfl rfl), (TB_of 715 rfl rfl), (TB_of 79 rfl rfl), (TB_of 716 rfl rfl), ⟨⟨by decide, by decide⟩, by decide +kernel⟩, rfl⟩
set_option maxRecDepth 100000 in
theorem lk_L_38 : LkV RL 38 yX6_service cX6_service 4 (some .int) 1 8 := ⟨(TB_of 739 rfl rfl), (TB_of 740 rfl rfl), (TB_of 741 rfl rfl), (TB_of 58 rfl rfl), (TB_of 742 rfl rfl), ⟨⟨by decide, by decide⟩, by decide +kernel⟩, TX6, 13, rfl⟩
set_option maxRecDepth 100000 in
theorem lk_X6_155 : LkV RX6 155 yX6_isOut cX6_isOut 4 (some .boolean) 1 8 := ⟨(TB_of 743 rfl rfl), (TB_of 745 rfl rfl), (TB_of 30 rfl rfl), (TB_of 58 rfl rfl), (TB_of 746 rfl rfl), ⟨⟨by decide, by decide⟩, by decide +kernel⟩, TX6, 13, rfl⟩
set_option maxRecDepth 100000 in
theorem lk_X6_442 : LkV RX6 442 yX2_uses cX2_uses 3 (some .boolean) 1 4 := ⟨(TB_of 747 rfl rfl), (TB_of 748 rfl rfl), (TB_of 749 rfl rfl), (TB_of 80 rfl rfl), (TB_of 750 rfl rfl), ⟨⟨by decide, by decide⟩, by decide +kernel⟩, TX2, 10, rfl⟩
set_option maxRecDepth 100000 in
theorem lk_L_41 : LkV RL 41 yX6_book cX6_book 6 (some .int) 5 8 := ⟨(TB_of 755 rfl rfl), (TB_of 756 rfl rfl), (TB_of 757 rfl rfl), (TB_of 58 rfl rfl), (TB_of 758 rfl rfl), ⟨⟨by decide, by decide⟩, by decide +kernel⟩, TX6, 13, rfl⟩
set_option maxRecDepth 100000 in
theorem lk_X6_178 : LkI RX6 178 yX2_init cX2_init 6 5 := ⟨(TB_of 764 rfl rfl), (TB_of 765 rfl rfl), (TB_of 80 rfl rfl), (TB_of 766 rfl rfl), ⟨⟨by decide, by decide⟩, by decide +kernel⟩, rfl⟩
set_option maxRecDepth 100000 in
theorem lk_X2_11 : LkI RX2 11 yJx4a65c_init_da8c8 cJx4a65c_init_da8c8 1 0 := ⟨(TB_of 769 rfl rfl), (TB_of 96 rfl rfl), (TB_of 61 rfl rfl), (TB_of 97 rfl rfl), ⟨⟨by decide, by decide⟩, by decide +kernel⟩, rfl⟩
set_option maxRecDepth 100000 in
theorem lk_L_45 : LkV RL 45 yX6_work cX6_work 8 (some .int) 3 8 := ⟨(TB_of 812 rfl rfl), (TB_of 813 rfl rfl), (TB_of 814 rfl rfl), (TB_of 58 rfl rfl), (TB_of 815 rfl rfl), ⟨⟨by decide, by decide⟩, by decide +kernel⟩, TX6, 13, rfl⟩
set_option maxRecDepth 100000 in
theorem lk_X6_185 : LkV RX6 185 yX2_has cX2_has 3 (some .boolean) 1 4 := ⟨(TB_of 816 rfl rfl), (TB_of 817 rfl rfl), (TB_of 818 rfl rfl), (TB_of 80 rfl rfl), (TB_of 819 rfl rfl), ⟨⟨by decide, by decide⟩, by decide +kernel⟩, TX2, 10, rfl⟩
set_option maxRecDepth 100000 in
theorem lk_X6_216 : LkV RX6 216 yX6_isElsewhere cX6_isElsewhere 5 (some .boolean) 2 8 := ⟨(TB_of 824 rfl rfl), (TB_of 826 rfl rfl), (TB_of 31 rfl rfl), (TB_of 58 rfl rfl), (TB_of 827 rfl rfl), ⟨⟨by decide, by decide⟩, by decide +kernel⟩, TX6, 13, rfl⟩
set_option maxRecDepth 100000 in
theorem lk_X6_362 : LkV RX6 362 yX2_isComingOrTaken cX2_isComingOrTaken 1 (some .boolean) 0 4 := ⟨(TB_of 828 rfl rfl), (TB_of 829 rfl rfl), (TB_of 830 rfl rfl), (TB_of 80 rfl rfl), (TB_of 831 rfl rfl), ⟨⟨by decide, by decide⟩, by decide +kernel⟩, TX2, 10, rfl⟩
set_option maxRecDepth 100000 in
theorem lk_X6_224 : LkI RX6 224 yX5_init cX5_init 4 3 := ⟨(TB_of 834 rfl rfl), (TB_of 835 rfl rfl), (TB_of 81 rfl rfl), (TB_of 836 rfl rfl), ⟨⟨by decide, by decide⟩, by decide +kernel⟩, rfl⟩
set_option maxRecDepth 100000 in
theorem lk_L_48 : LkV RL 48 yX6_cancel cX6_cancel 4 (some .int) 1 8 := ⟨(TB_of 856 rfl rfl), (TB_of 857 rfl rfl), (TB_of 858 rfl rfl), (TB_of 58 rfl rfl), (TB_of 859 rfl rfl), ⟨⟨by decide, by decide⟩, by decide +kernel⟩, TX6, 13, rfl⟩
set_option maxRecDepth 100000 in
theorem lk_L_51 : LkV RL 51 yX6_mark cX6_mark 4 (some .int) 2 8 := ⟨(TB_of 863 rfl rfl), (TB_of 864 rfl rfl), (TB_of 865 rfl rfl), (TB_of 58 rfl rfl), (TB_of 866 rfl rfl), ⟨⟨by decide, by decide⟩, by decide +kernel⟩, TX6, 13, rfl⟩
set_option maxRecDepth 100000 in
theorem lk_X6_234 : LkV RX6 234 yX2_isMarked cX2_isMarked 2 (some .boolean) 1 4 := ⟨(TB_of 869 rfl rfl), (TB_of 870 rfl rfl), (TB_of 871 rfl rfl), (TB_of 80 rfl rfl), (TB_of 872 rfl rfl), ⟨⟨by decide, by decide⟩, by decide +kernel⟩, TX2, 10, rfl⟩
set_option maxRecDepth 100000 in
theorem lk_X6_239 : LkV RX6 239 yX2_putMark cX2_putMark 2 none 1 4 := ⟨(TB_of 874 rfl rfl), (TB_of 875 rfl rfl), (TB_of 876 rfl rfl), (TB_of 80 rfl rfl), (TB_of 877 rfl rfl), ⟨⟨by decide, by decide⟩, by decide +kernel⟩, TX2, 10, rfl⟩
set_option maxRecDepth 100000 in
theorem lk_L_54 : LkV RL 54 yX6_take cX6_take 3 (some .int) 1 8 := ⟨(TB_of 881 rfl rfl), (TB_of 882 rfl rfl), (TB_of 883 rfl rfl), (TB_of 58 rfl rfl), (TB_of 884 rfl rfl), ⟨⟨by decide, by decide⟩, by decide +kernel⟩, TX6, 13, rfl⟩
set_option maxRecDepth 100000 in
theorem lk_L_57 : LkV RL 57 yX6_giveBack cX6_giveBack 3 (some .int) 1 8 := ⟨(TB_of 889 rfl rfl), (TB_of 890 rfl rfl), (TB_of 891 rfl rfl), (TB_of 58 rfl rfl), (TB_of 892 rfl rfl), ⟨⟨by decide, by decide⟩, by decide +kernel⟩, TX6, 13, rfl⟩
set_option maxRecDepth 100000 in
theorem lk_L_60 : LkV RL 60 yX6_walk cX6_walk 5 (some .boolean) 2 8 := ⟨(TB_of 897 rfl rfl), (TB_of 898 rfl rfl), (TB_of 899 rfl rfl), (TB_of 58 rfl rfl), (TB_of 900 rfl rfl), ⟨⟨by decide, by decide⟩, by decide +kernel⟩, TX6, 13, rfl⟩
set_option maxRecDepth 100000 in
theorem lk_X6_264 : LkV RX6 264 yX6_isTaken cX6_isTaken 4 (some .boolean) 1 8 := ⟨(TB_of 902 rfl rfl), (TB_of 904 rfl rfl), (TB_of 32 rfl rfl), (TB_of 58 rfl rfl), (TB_of 905 rfl rfl), ⟨⟨by decide, by decide⟩, by decide +kernel⟩, TX6, 13, rfl⟩
set_option maxRecDepth 100000 in
theorem lk_X6_267 : LkV RX6 267 yX6_signBeside cX6_signBeside 3 (some .int) 1 8 := ⟨(TB_of 906 rfl rfl), (TB_of 908 rfl rfl), (TB_of 33 rfl rfl), (TB_of 58 rfl rfl), (TB_of 909 rfl rfl), ⟨⟨by decide, by decide⟩, by decide +kernel⟩, TX6, 13, rfl⟩
set_option maxRecDepth 100000 in
theorem lk_X6_270 : LkS RX6 270 yX6_isWarned cX6_isWarned 4 (some .boolean) 3 := ⟨(TB_of 910 rfl rfl), (TB_of 911 rfl rfl), (TB_of 58 rfl rfl), (TB_of 912 rfl rfl), ⟨⟨by decide, by decide⟩, by decide +kernel⟩⟩
set_option maxRecDepth 100000 in
theorem lk_L_64 : LkV RL 64 yX6_ofSection cX6_ofSection 4 (some .int) 2 8 := ⟨(TB_of 916 rfl rfl), (TB_of 386 rfl rfl), (TB_of 387 rfl rfl), (TB_of 58 rfl rfl), (TB_of 388 rfl rfl), ⟨⟨by decide, by decide⟩, by decide +kernel⟩, TX6, 13, rfl⟩
set_option maxRecDepth 100000 in
theorem lk_L_67 : LkV RL 67 yX6_known cX6_known 5 (some .int) 2 8 := ⟨(TB_of 920 rfl rfl), (TB_of 416 rfl rfl), (TB_of 417 rfl rfl), (TB_of 58 rfl rfl), (TB_of 418 rfl rfl), ⟨⟨by decide, by decide⟩, by decide +kernel⟩, TX6, 13, rfl⟩
set_option maxRecDepth 100000 in
theorem lk_L_70 : LkV RL 70 yX6_why cX6_why 5 (some .int) 2 8 := ⟨(TB_of 924 rfl rfl), (TB_of 421 rfl rfl), (TB_of 422 rfl rfl), (TB_of 58 rfl rfl), (TB_of 423 rfl rfl), ⟨⟨by decide, by decide⟩, by decide +kernel⟩, TX6, 13, rfl⟩
set_option maxRecDepth 100000 in
theorem lk_L_74 : LkV RL 74 yX6_ofMachine cX6_ofMachine 4 (some .int) 2 8 := ⟨(TB_of 928 rfl rfl), (TB_of 480 rfl rfl), (TB_of 481 rfl rfl), (TB_of 58 rfl rfl), (TB_of 482 rfl rfl), ⟨⟨by decide, by decide⟩, by decide +kernel⟩, TX6, 13, rfl⟩
set_option maxRecDepth 100000 in
theorem lk_L_77 : LkV RL 77 yX6_ofPossession cX6_ofPossession 4 (some .int) 2 8 := ⟨(TB_of 932 rfl rfl), (TB_of 491 rfl rfl), (TB_of 492 rfl rfl), (TB_of 58 rfl rfl), (TB_of 493 rfl rfl), ⟨⟨by decide, by decide⟩, by decide +kernel⟩, TX6, 13, rfl⟩
set_option maxRecDepth 100000 in
theorem lk_L_80 : LkV RL 80 yX6_many cX6_many 2 (some .int) 1 8 := ⟨(TB_of 936 rfl rfl), (TB_of 222 rfl rfl), (TB_of 223 rfl rfl), (TB_of 58 rfl rfl), (TB_of 224 rfl rfl), ⟨⟨by decide, by decide⟩, by decide +kernel⟩, TX6, 13, rfl⟩
set_option maxRecDepth 100000 in
theorem lk_L_83 : LkV RL 83 yX6_meanWear cX6_meanWear 4 (some .double) 1 8 := ⟨(TB_of 940 rfl rfl), (TB_of 941 rfl rfl), (TB_of 942 rfl rfl), (TB_of 58 rfl rfl), (TB_of 943 rfl rfl), ⟨⟨by decide, by decide⟩, by decide +kernel⟩, TX6, 13, rfl⟩
set_option maxRecDepth 100000 in
theorem lk_L_87 : LkV RL 87 yX6_couldSee cX6_couldSee 4 (some .int) 1 8 := ⟨(TB_of 948 rfl rfl), (TB_of 430 rfl rfl), (TB_of 431 rfl rfl), (TB_of 58 rfl rfl), (TB_of 432 rfl rfl), ⟨⟨by decide, by decide⟩, by decide +kernel⟩, TX6, 13, rfl⟩
set_option maxRecDepth 100000 in
theorem lk_L_90 : LkV RL 90 yX6_firstRisk cX6_firstRisk 5 (some .int) 2 8 := ⟨(TB_of 952 rfl rfl), (TB_of 435 rfl rfl), (TB_of 436 rfl rfl), (TB_of 58 rfl rfl), (TB_of 437 rfl rfl), ⟨⟨by decide, by decide⟩, by decide +kernel⟩, TX6, 13, rfl⟩
set_option maxRecDepth 100000 in
theorem lk_L_93 : LkV RL 93 yX6_bestWork cX6_bestWork 9 (some .int) 3 8 := ⟨(TB_of 956 rfl rfl), (TB_of 457 rfl rfl), (TB_of 458 rfl rfl), (TB_of 58 rfl rfl), (TB_of 459 rfl rfl), ⟨⟨by decide, by decide⟩, by decide +kernel⟩, TX6, 13, rfl⟩
set_option maxRecDepth 100000 in
theorem lk_L_96 : LkV RL 96 yX6_freeDay cX6_freeDay 5 (some .int) 3 8 := ⟨(TB_of 960 rfl rfl), (TB_of 512 rfl rfl), (TB_of 513 rfl rfl), (TB_of 58 rfl rfl), (TB_of 514 rfl rfl), ⟨⟨by decide, by decide⟩, by decide +kernel⟩, TX6, 13, rfl⟩
set_option maxRecDepth 100000 in
theorem lk_L_99 : LkV RL 99 yX6_wouldOverrun cX6_wouldOverrun 3 (some .int) 1 8 := ⟨(TB_of 964 rfl rfl), (TB_of 965 rfl rfl), (TB_of 966 rfl rfl), (TB_of 58 rfl rfl), (TB_of 967 rfl rfl), ⟨⟨by decide, by decide⟩, by decide +kernel⟩, TX6, 13, rfl⟩
set_option maxRecDepth 100000 in
theorem lk_L_105 : LkI RL 105 yX7_init cX7_init 5 0 := ⟨(TB_of 971 rfl rfl), (TB_of 972 rfl rfl), (TB_of 64 rfl rfl), (TB_of 973 rfl rfl), ⟨⟨by decide, by decide⟩, by decide +kernel⟩, rfl⟩
set_option maxRecDepth 100000 in
theorem lk_X7_16 : LkI RX7 16 yJx4a65c_init_da8c8 cJx4a65c_init_da8c8 1 0 := ⟨(TB_of 978 rfl rfl), (TB_of 96 rfl rfl), (TB_of 61 rfl rfl), (TB_of 97 rfl rfl), ⟨⟨by decide, by decide⟩, by decide +kernel⟩, rfl⟩
set_option maxRecDepth 100000 in
theorem lk_L_112 : LkV RL 112 yX7_thrown cX7_thrown 1 (some .int) 0 9 := ⟨(TB_of 1017 rfl rfl), (TB_of 1018 rfl rfl), (TB_of 1019 rfl rfl), (TB_of 64 rfl rfl), (TB_of 1020 rfl rfl), ⟨⟨by decide, by decide⟩, by decide +kernel⟩, TX7, 12, rfl⟩
set_option maxRecDepth 100000 in
theorem lk_L_111 : LkV RL 111 yX7_curve cX7_curve 4 (some .boolean) 2 9 := ⟨(TB_of 1021 rfl rfl), (TB_of 1022 rfl rfl), (TB_of 1023 rfl rfl), (TB_of 64 rfl rfl), (TB_of 1024 rfl rfl), ⟨⟨by decide, by decide⟩, by decide +kernel⟩, TX7, 12, rfl⟩
set_option maxRecDepth 100000 in
theorem lk_X7_72 : LkS RX7 72 yX7_isSection cX7_isSection 1 (some .boolean) 1 := ⟨(TB_of 1025 rfl rfl), (TB_of 1026 rfl rfl), (TB_of 64 rfl rfl), (TB_of 1027 rfl rfl), ⟨⟨by decide, by decide⟩, by decide +kernel⟩⟩
set_option maxRecDepth 100000 in
theorem lk_X7_68 : LkS RX7 68 yX7_is cX7_is 3 (some .boolean) 3 := ⟨(TB_of 1028 rfl rfl), (TB_of 1029 rfl rfl), (TB_of 64 rfl rfl), (TB_of 1030 rfl rfl), ⟨⟨by decide, by decide⟩, by decide +kernel⟩⟩
set_option maxRecDepth 100000 in
theorem lk_L_119 : LkV RL 119 yX7_sign cX7_sign 4 (some .int) 2 9 := ⟨(TB_of 1031 rfl rfl), (TB_of 1032 rfl rfl), (TB_of 1033 rfl rfl), (TB_of 64 rfl rfl), (TB_of 1034 rfl rfl), ⟨⟨by decide, by decide⟩, by decide +kernel⟩, TX7, 12, rfl⟩
set_option maxRecDepth 100000 in
theorem lk_X7_76 : LkV RX7 76 yX7_refuse cX7_refuse 2 (some .int) 1 9 := ⟨(TB_of 1035 rfl rfl), (TB_of 1037 rfl rfl), (TB_of 34 rfl rfl), (TB_of 64 rfl rfl), (TB_of 1038 rfl rfl), ⟨⟨by decide, by decide⟩, by decide +kernel⟩, TX7, 12, rfl⟩
set_option maxRecDepth 100000 in
theorem lk_L_123 : LkV RL 123 yX7_pass_ cX7_pass_ 6 (some .int) 3 9 := ⟨(TB_of 1039 rfl rfl), (TB_of 1040 rfl rfl), (TB_of 1041 rfl rfl), (TB_of 64 rfl rfl), (TB_of 1042 rfl rfl), ⟨⟨by decide, by decide⟩, by decide +kernel⟩, TX7, 12, rfl⟩
set_option maxRecDepth 100000 in
theorem lk_X7_112 : LkS RX7 112 yX7_isTrains cX7_isTrains 1 (some .boolean) 1 := ⟨(TB_of 1043 rfl rfl), (TB_of 1044 rfl rfl), (TB_of 64 rfl rfl), (TB_of 1045 rfl rfl), ⟨⟨by decide, by decide⟩, by decide +kernel⟩⟩
set_option maxRecDepth 100000 in
theorem lk_X7_115 : LkV RX7 115 yX7_pass cX7_pass 8 (some .int) 2 9 := ⟨(TB_of 1046 rfl rfl), (TB_of 1048 rfl rfl), (TB_of 35 rfl rfl), (TB_of 64 rfl rfl), (TB_of 1049 rfl rfl), ⟨⟨by decide, by decide⟩, by decide +kernel⟩, TX7, 12, rfl⟩
set_option maxRecDepth 100000 in
theorem lk_X7_79 : LkV RX7 79 yJx4a65c_iterator_32c93 cJx4a65c_iterator_32c93 1 (some (.object "java/util/Iterator")) 0 1 := ⟨(TB_of 1050 rfl rfl), (TB_of 1051 rfl rfl), (TB_of 1052 rfl rfl), (TB_of 61 rfl rfl), (TB_of 1053 rfl rfl), ⟨⟨by decide, by decide⟩, by decide +kernel⟩, TJx4a65c, 3, rfl⟩
set_option maxRecDepth 100000 in
theorem lk_Jx4a65c_269 : LkI RJx4a65c 269 yJx35411_init_45d68 cJx35411_init_45d68 2 1 := ⟨(TB_of 1056 rfl rfl), (TB_of 1057 rfl rfl), (TB_of 74 rfl rfl), (TB_of 1058 rfl rfl), ⟨⟨by decide, by decide⟩, by decide +kernel⟩, rfl⟩
set_option maxRecDepth 100000 in
theorem lk_Jx35411_31 : LkV RJx35411 31 yJx35411_checkForComodification_da8c8 cJx35411_checkForComodification_da8c8 1 none 0 0 := ⟨(TB_of 1092 rfl rfl), (TB_of 1093 rfl rfl), (TB_of 1094 rfl rfl), (TB_of 74 rfl rfl), (TB_of 1095 rfl rfl), ⟨⟨by decide, by decide⟩, by decide +kernel⟩, TJx35411, 4, rfl⟩
set_option maxRecDepth 100000 in
theorem lk_X7_96 : LkV RX7 96 yX7_give cX7_give 7 (some .int) 2 9 := ⟨(TB_of 1097 rfl rfl), (TB_of 1099 rfl rfl), (TB_of 36 rfl rfl), (TB_of 64 rfl rfl), (TB_of 1100 rfl rfl), ⟨⟨by decide, by decide⟩, by decide +kernel⟩, TX7, 12, rfl⟩
set_option maxRecDepth 100000 in
theorem lk_X7_153 : LkV RX7 153 yX7_lives cX7_lives 3 (some (.array .int)) 0 9 := ⟨(TB_of 1101 rfl rfl), (TB_of 1103 rfl rfl), (TB_of 37 rfl rfl), (TB_of 64 rfl rfl), (TB_of 1104 rfl rfl), ⟨⟨by decide, by decide⟩, by decide +kernel⟩, TX7, 12, rfl⟩
set_option maxRecDepth 100000 in
theorem lk_X7_64 : LkV RX7 64 yJx4a65c_size_8abf5 cJx4a65c_size_8abf5 1 (some .int) 0 1 := ⟨(TB_of 1105 rfl rfl), (TB_of 226 rfl rfl), (TB_of 227 rfl rfl), (TB_of 61 rfl rfl), (TB_of 228 rfl rfl), ⟨⟨by decide, by decide⟩, by decide +kernel⟩, TJx4a65c, 3, rfl⟩
set_option maxRecDepth 100000 in
theorem lk_X7_52 : LkV RX7 52 yJx4a65c_get_915e3 cJx4a65c_get_915e3 2 (some (.object "java/lang/Object")) 1 1 := ⟨(TB_of 1106 rfl rfl), (TB_of 234 rfl rfl), (TB_of 235 rfl rfl), (TB_of 61 rfl rfl), (TB_of 236 rfl rfl), ⟨⟨by decide, by decide⟩, by decide +kernel⟩, TJx4a65c, 3, rfl⟩
set_option maxRecDepth 100000 in
theorem lk_X7_157 : LkS RX7 157 yX7_took cX7_took 7 (some .int) 2 := ⟨(TB_of 1107 rfl rfl), (TB_of 1108 rfl rfl), (TB_of 64 rfl rfl), (TB_of 1109 rfl rfl), ⟨⟨by decide, by decide⟩, by decide +kernel⟩⟩
set_option maxRecDepth 100000 in
theorem lk_X7_161 : LkS RX7 161 yX7_treat cX7_treat 3 none 3 := ⟨(TB_of 1110 rfl rfl), (TB_of 1111 rfl rfl), (TB_of 64 rfl rfl), (TB_of 1112 rfl rfl), ⟨⟨by decide, by decide⟩, by decide +kernel⟩⟩
set_option maxRecDepth 100000 in
theorem lk_X7_150 : LkS RX7 150 yJ9_max_7cf53 cJ9_max_7cf53 2 (some .int) 2 := ⟨(TB_of 1113 rfl rfl), (TB_of 470 rfl rfl), (TB_of 73 rfl rfl), (TB_of 471 rfl rfl), ⟨⟨by decide, by decide⟩, by decide +kernel⟩⟩
set_option maxRecDepth 100000 in
theorem lk_X7_38 : LkS RX7 38 yJ9_min_7cf53 cJ9_min_7cf53 2 (some .int) 2 := ⟨(TB_of 1114 rfl rfl), (TB_of 278 rfl rfl), (TB_of 73 rfl rfl), (TB_of 279 rfl rfl), ⟨⟨by decide, by decide⟩, by decide +kernel⟩⟩
set_option maxRecDepth 100000 in
theorem lk_X7_99 : LkS RX7 99 yX7_age cX7_age 2 none 2 := ⟨(TB_of 1115 rfl rfl), (TB_of 1116 rfl rfl), (TB_of 64 rfl rfl), (TB_of 1117 rfl rfl), ⟨⟨by decide, by decide⟩, by decide +kernel⟩⟩
set_option maxRecDepth 100000 in
theorem lk_X7_44 : LkS RX7 44 yX7_speedOf cX7_speedOf 4 (some .int) 2 := ⟨(TB_of 1118 rfl rfl), (TB_of 1119 rfl rfl), (TB_of 64 rfl rfl), (TB_of 1120 rfl rfl), ⟨⟨by decide, by decide⟩, by decide +kernel⟩⟩
set_option maxRecDepth 100000 in
theorem lk_X7_34 : LkS RX7 34 yX7_bears cX7_bears 4 (some .int) 3 := ⟨(TB_of 1121 rfl rfl), (TB_of 1122 rfl rfl), (TB_of 64 rfl rfl), (TB_of 1123 rfl rfl), ⟨⟨by decide, by decide⟩, by decide +kernel⟩⟩
set_option maxRecDepth 100000 in
theorem lk_L_127 : LkV RL 127 yX7_measure cX7_measure 8 (some .int) 4 9 := ⟨(TB_of 1124 rfl rfl), (TB_of 1125 rfl rfl), (TB_of 1126 rfl rfl), (TB_of 64 rfl rfl), (TB_of 1127 rfl rfl), ⟨⟨by decide, by decide⟩, by decide +kernel⟩, TX7, 12, rfl⟩
set_option maxRecDepth 100000 in
theorem lk_X7_118 : LkS RX7 118 yX7_isPart cX7_isPart 3 (some .boolean) 3 := ⟨(TB_of 1128 rfl rfl), (TB_of 1129 rfl rfl), (TB_of 64 rfl rfl), (TB_of 1130 rfl rfl), ⟨⟨by decide, by decide⟩, by decide +kernel⟩⟩
set_option maxRecDepth 100000 in
theorem lk_X7_121 : LkV RX7 121 yJx4a65c_add_9ea2d cJx4a65c_add_9ea2d 2 (some .boolean) 1 1 := ⟨(TB_of 1131 rfl rfl), (TB_of 639 rfl rfl), (TB_of 640 rfl rfl), (TB_of 61 rfl rfl), (TB_of 641 rfl rfl), ⟨⟨by decide, by decide⟩, by decide +kernel⟩, TJx4a65c, 3, rfl⟩
set_option maxRecDepth 100000 in
theorem lk_L_131 : LkV RL 131 yX7_align cX7_align 3 (some .int) 1 9 := ⟨(TB_of 1132 rfl rfl), (TB_of 1133 rfl rfl), (TB_of 1134 rfl rfl), (TB_of 64 rfl rfl), (TB_of 1135 rfl rfl), ⟨⟨by decide, by decide⟩, by decide +kernel⟩, TX7, 12, rfl⟩
set_option maxRecDepth 100000 in
theorem lk_L_134 : LkV RL 134 yX7_machine cX7_machine 4 (some .int) 2 9 := ⟨(TB_of 1136 rfl rfl), (TB_of 1137 rfl rfl), (TB_of 1138 rfl rfl), (TB_of 64 rfl rfl), (TB_of 1139 rfl rfl), ⟨⟨by decide, by decide⟩, by decide +kernel⟩, TX7, 12, rfl⟩
set_option maxRecDepth 100000 in
theorem lk_L_137 : LkV RL 137 yX7_service cX7_service 4 (some .int) 1 9 := ⟨(TB_of 1140 rfl rfl), (TB_of 1141 rfl rfl), (TB_of 1142 rfl rfl), (TB_of 64 rfl rfl), (TB_of 1143 rfl rfl), ⟨⟨by decide, by decide⟩, by decide +kernel⟩, TX7, 12, rfl⟩
set_option maxRecDepth 100000 in
theorem lk_X7_125 : LkV RX7 125 yX7_isMachine cX7_isMachine 2 (some .boolean) 1 9 := ⟨(TB_of 1144 rfl rfl), (TB_of 1146 rfl rfl), (TB_of 38 rfl rfl), (TB_of 64 rfl rfl), (TB_of 1147 rfl rfl), ⟨⟨by decide, by decide⟩, by decide +kernel⟩, TX7, 12, rfl⟩
set_option maxRecDepth 100000 in
theorem lk_X7_128 : LkS RX7 128 yX7_uses cX7_uses 4 (some .boolean) 2 := ⟨(TB_of 1148 rfl rfl), (TB_of 1149 rfl rfl), (TB_of 64 rfl rfl), (TB_of 1150 rfl rfl), ⟨⟨by decide, by decide⟩, by decide +kernel⟩⟩
set_option maxRecDepth 100000 in
theorem lk_L_141 : LkV RL 141 yX7_book cX7_book 7 (some .int) 5 9 := ⟨(TB_of 1151 rfl rfl), (TB_of 1152 rfl rfl), (TB_of 1153 rfl rfl), (TB_of 64 rfl rfl), (TB_of 1154 rfl rfl), ⟨⟨by decide, by decide⟩, by decide +kernel⟩, TX7, 12, rfl⟩
set_option maxRecDepth 100000 in
theorem lk_X7_132 : LkV RX7 132 yX7_isFree cX7_isFree 7 (some .boolean) 4 9 := ⟨(TB_of 1155 rfl rfl), (TB_of 1157 rfl rfl), (TB_of 39 rfl rfl), (TB_of 64 rfl rfl), (TB_of 1158 rfl rfl), ⟨⟨by decide, by decide⟩, by decide +kernel⟩, TX7, 12, rfl⟩
set_option maxRecDepth 100000 in
theorem lk_L_144 : LkV RL 144 yX7_work cX7_work 8 (some .int) 3 9 := ⟨(TB_of 1159 rfl rfl), (TB_of 1160 rfl rfl), (TB_of 1161 rfl rfl), (TB_of 64 rfl rfl), (TB_of 1162 rfl rfl), ⟨⟨by decide, by decide⟩, by decide +kernel⟩, TX7, 12, rfl⟩
set_option maxRecDepth 100000 in
theorem lk_X7_136 : LkV RX7 136 yX7_isNight cX7_isNight 2 (some .boolean) 1 9 := ⟨(TB_of 1163 rfl rfl), (TB_of 1165 rfl rfl), (TB_of 40 rfl rfl), (TB_of 64 rfl rfl), (TB_of 1166 rfl rfl), ⟨⟨by decide, by decide⟩, by decide +kernel⟩, TX7, 12, rfl⟩
set_option maxRecDepth 100000 in
theorem lk_X7_139 : LkV RX7 139 yX7_has cX7_has 3 (some .boolean) 2 9 := ⟨(TB_of 1167 rfl rfl), (TB_of 1169 rfl rfl), (TB_of 41 rfl rfl), (TB_of 64 rfl rfl), (TB_of 1170 rfl rfl), ⟨⟨by decide, by decide⟩, by decide +kernel⟩, TX7, 12, rfl⟩
set_option maxRecDepth 100000 in
theorem lk_X7_142 : LkV RX7 142 yX7_hours cX7_hours 3 (some .int) 2 9 := ⟨(TB_of 1171 rfl rfl), (TB_of 1173 rfl rfl), (TB_of 42 rfl rfl), (TB_of 64 rfl rfl), (TB_of 1174 rfl rfl), ⟨⟨by decide, by decide⟩, by decide +kernel⟩, TX7, 12, rfl⟩
set_option maxRecDepth 100000 in
theorem lk_L_147 : LkV RL 147 yX7_cancel cX7_cancel 4 (some .int) 1 9 := ⟨(TB_of 1175 rfl rfl), (TB_of 1176 rfl rfl), (TB_of 1177 rfl rfl), (TB_of 64 rfl rfl), (TB_of 1178 rfl rfl), ⟨⟨by decide, by decide⟩, by decide +kernel⟩, TX7, 12, rfl⟩
set_option maxRecDepth 100000 in
theorem lk_L_150 : LkV RL 150 yX7_mark cX7_mark 4 (some .int) 2 9 := ⟨(TB_of 1179 rfl rfl), (TB_of 1180 rfl rfl), (TB_of 1181 rfl rfl), (TB_of 64 rfl rfl), (TB_of 1182 rfl rfl), ⟨⟨by decide, by decide⟩, by decide +kernel⟩, TX7, 12, rfl⟩
set_option maxRecDepth 100000 in
theorem lk_X7_145 : LkS RX7 145 yJ6_bitCount_0f7a4 cJ6_bitCount_0f7a4 1 (some .int) 1 := ⟨(TB_of 1183 rfl rfl), (TB_of 1184 rfl rfl), (TB_of 82 rfl rfl), (TB_of 1185 rfl rfl), ⟨⟨by decide, by decide⟩, by decide +kernel⟩⟩
set_option maxRecDepth 100000 in
theorem lk_L_153 : LkV RL 153 yX7_take cX7_take 3 (some .int) 1 9 := ⟨(TB_of 1189 rfl rfl), (TB_of 1190 rfl rfl), (TB_of 1191 rfl rfl), (TB_of 64 rfl rfl), (TB_of 1192 rfl rfl), ⟨⟨by decide, by decide⟩, by decide +kernel⟩, TX7, 12, rfl⟩
set_option maxRecDepth 100000 in
theorem lk_L_156 : LkV RL 156 yX7_giveBack cX7_giveBack 2 (some .int) 1 9 := ⟨(TB_of 1193 rfl rfl), (TB_of 1194 rfl rfl), (TB_of 1195 rfl rfl), (TB_of 64 rfl rfl), (TB_of 1196 rfl rfl), ⟨⟨by decide, by decide⟩, by decide +kernel⟩, TX7, 12, rfl⟩
set_option maxRecDepth 100000 in
theorem lk_L_159 : LkV RL 159 yX7_walk cX7_walk 6 (some .boolean) 2 9 := ⟨(TB_of 1197 rfl rfl), (TB_of 1198 rfl rfl), (TB_of 1199 rfl rfl), (TB_of 64 rfl rfl), (TB_of 1200 rfl rfl), ⟨⟨by decide, by decide⟩, by decide +kernel⟩, TX7, 12, rfl⟩
set_option maxRecDepth 100000 in
theorem lk_X7_165 : LkV RX7 165 yX7_isTaken cX7_isTaken 5 (some .boolean) 1 9 := ⟨(TB_of 1201 rfl rfl), (TB_of 1203 rfl rfl), (TB_of 43 rfl rfl), (TB_of 64 rfl rfl), (TB_of 1204 rfl rfl), ⟨⟨by decide, by decide⟩, by decide +kernel⟩, TX7, 12, rfl⟩
set_option maxRecDepth 100000 in
theorem lk_L_162 : LkV RL 162 yX7_ofSection cX7_ofSection 3 (some .int) 2 9 := ⟨(TB_of 1205 rfl rfl), (TB_of 1206 rfl rfl), (TB_of 1207 rfl rfl), (TB_of 64 rfl rfl), (TB_of 1208 rfl rfl), ⟨⟨by decide, by decide⟩, by decide +kernel⟩, TX7, 12, rfl⟩
set_option maxRecDepth 100000 in
theorem lk_X7_171 : LkV RX7 171 yX7_ofSectionNow cX7_ofSectionNow 3 (some .int) 2 9 := ⟨(TB_of 1209 rfl rfl), (TB_of 1211 rfl rfl), (TB_of 44 rfl rfl), (TB_of 64 rfl rfl), (TB_of 1212 rfl rfl), ⟨⟨by decide, by decide⟩, by decide +kernel⟩, TX7, 12, rfl⟩
set_option maxRecDepth 100000 in
theorem lk_L_165 : LkV RL 165 yX7_known cX7_known 3 (some .int) 2 9 := ⟨(TB_of 1213 rfl rfl), (TB_of 1214 rfl rfl), (TB_of 1215 rfl rfl), (TB_of 64 rfl rfl), (TB_of 1216 rfl rfl), ⟨⟨by decide, by decide⟩, by decide +kernel⟩, TX7, 12, rfl⟩
set_option maxRecDepth 100000 in
theorem lk_X7_178 : LkV RX7 178 yX7_knownNow cX7_knownNow 4 (some .int) 2 9 := ⟨(TB_of 1217 rfl rfl), (TB_of 1219 rfl rfl), (TB_of 45 rfl rfl), (TB_of 64 rfl rfl), (TB_of 1220 rfl rfl), ⟨⟨by decide, by decide⟩, by decide +kernel⟩, TX7, 12, rfl⟩
set_option maxRecDepth 100000 in
theorem lk_X7_48 : LkV RX7 48 yX7_knownBy cX7_knownBy 5 (some .int) 1 9 := ⟨(TB_of 1221 rfl rfl), (TB_of 1223 rfl rfl), (TB_of 46 rfl rfl), (TB_of 64 rfl rfl), (TB_of 1224 rfl rfl), ⟨⟨by decide, by decide⟩, by decide +kernel⟩, TX7, 12, rfl⟩
set_option maxRecDepth 100000 in
theorem lk_X7_174 : LkV RX7 174 yX7_knownOf cX7_knownOf 6 (some (.array .int)) 1 9 := ⟨(TB_of 1225 rfl rfl), (TB_of 1227 rfl rfl), (TB_of 47 rfl rfl), (TB_of 64 rfl rfl), (TB_of 1228 rfl rfl), ⟨⟨by decide, by decide⟩, by decide +kernel⟩, TX7, 12, rfl⟩
set_option maxRecDepth 100000 in
theorem lk_L_168 : LkV RL 168 yX7_why cX7_why 3 (some .int) 2 9 := ⟨(TB_of 1230 rfl rfl), (TB_of 1231 rfl rfl), (TB_of 1232 rfl rfl), (TB_of 64 rfl rfl), (TB_of 1233 rfl rfl), ⟨⟨by decide, by decide⟩, by decide +kernel⟩, TX7, 12, rfl⟩
set_option maxRecDepth 100000 in
theorem lk_X7_184 : LkV RX7 184 yX7_whyNow cX7_whyNow 3 (some .int) 2 9 := ⟨(TB_of 1234 rfl rfl), (TB_of 1236 rfl rfl), (TB_of 48 rfl rfl), (TB_of 64 rfl rfl), (TB_of 1237 rfl rfl), ⟨⟨by decide, by decide⟩, by decide +kernel⟩, TX7, 12, rfl⟩
set_option maxRecDepth 100000 in
theorem lk_X7_181 : LkS RX7 181 yX7_whyOf cX7_whyOf 4 (some .int) 2 := ⟨(TB_of 1238 rfl rfl), (TB_of 1239 rfl rfl), (TB_of 64 rfl rfl), (TB_of 1240 rfl rfl), ⟨⟨by decide, by decide⟩, by decide +kernel⟩⟩
set_option maxRecDepth 100000 in
theorem lk_L_171 : LkV RL 171 yX7_ofMachine cX7_ofMachine 3 (some .int) 2 9 := ⟨(TB_of 1241 rfl rfl), (TB_of 1242 rfl rfl), (TB_of 1243 rfl rfl), (TB_of 64 rfl rfl), (TB_of 1244 rfl rfl), ⟨⟨by decide, by decide⟩, by decide +kernel⟩, TX7, 12, rfl⟩
set_option maxRecDepth 100000 in
theorem lk_L_174 : LkV RL 174 yX7_ofPossession cX7_ofPossession 3 (some .int) 2 9 := ⟨(TB_of 1245 rfl rfl), (TB_of 1246 rfl rfl), (TB_of 1247 rfl rfl), (TB_of 64 rfl rfl), (TB_of 1248 rfl rfl), ⟨⟨by decide, by decide⟩, by decide +kernel⟩, TX7, 12, rfl⟩
set_option maxRecDepth 100000 in
theorem lk_X7_188 : LkV RX7 188 yX7_ofNightNow cX7_ofNightNow 3 (some .int) 2 9 := ⟨(TB_of 1249 rfl rfl), (TB_of 1251 rfl rfl), (TB_of 49 rfl rfl), (TB_of 64 rfl rfl), (TB_of 1252 rfl rfl), ⟨⟨by decide, by decide⟩, by decide +kernel⟩, TX7, 12, rfl⟩
set_option maxRecDepth 100000 in
theorem lk_L_177 : LkV RL 177 yX7_many cX7_many 2 (some .int) 1 9 := ⟨(TB_of 1253 rfl rfl), (TB_of 1254 rfl rfl), (TB_of 1255 rfl rfl), (TB_of 64 rfl rfl), (TB_of 1256 rfl rfl), ⟨⟨by decide, by decide⟩, by decide +kernel⟩, TX7, 12, rfl⟩
set_option maxRecDepth 100000 in
theorem lk_X7_191 : LkV RX7 191 yX7_manyNow cX7_manyNow 8 (some .int) 1 9 := ⟨(TB_of 1257 rfl rfl), (TB_of 1259 rfl rfl), (TB_of 50 rfl rfl), (TB_of 64 rfl rfl), (TB_of 1260 rfl rfl), ⟨⟨by decide, by decide⟩, by decide +kernel⟩, TX7, 12, rfl⟩
set_option maxRecDepth 100000 in
theorem lk_L_181 : LkV RL 181 yX7_meanWear cX7_meanWear 4 (some .double) 1 9 := ⟨(TB_of 1261 rfl rfl), (TB_of 1262 rfl rfl), (TB_of 1263 rfl rfl), (TB_of 64 rfl rfl), (TB_of 1264 rfl rfl), ⟨⟨by decide, by decide⟩, by decide +kernel⟩, TX7, 12, rfl⟩
set_option maxRecDepth 100000 in
theorem lk_L_184 : LkV RL 184 yX7_couldSee cX7_couldSee 2 (some .int) 1 9 := ⟨(TB_of 1266 rfl rfl), (TB_of 1267 rfl rfl), (TB_of 1268 rfl rfl), (TB_of 64 rfl rfl), (TB_of 1269 rfl rfl), ⟨⟨by decide, by decide⟩, by decide +kernel⟩, TX7, 12, rfl⟩
set_option maxRecDepth 100000 in
theorem lk_X7_196 : LkV RX7 196 yX7_seeNow cX7_seeNow 5 (some .int) 1 9 := ⟨(TB_of 1270 rfl rfl), (TB_of 1272 rfl rfl), (TB_of 51 rfl rfl), (TB_of 64 rfl rfl), (TB_of 1273 rfl rfl), ⟨⟨by decide, by decide⟩, by decide +kernel⟩, TX7, 12, rfl⟩
set_option maxRecDepth 100000 in
theorem lk_L_187 : LkV RL 187 yX7_firstRisk cX7_firstRisk 3 (some .int) 2 9 := ⟨(TB_of 1274 rfl rfl), (TB_of 1275 rfl rfl), (TB_of 1276 rfl rfl), (TB_of 64 rfl rfl), (TB_of 1277 rfl rfl), ⟨⟨by decide, by decide⟩, by decide +kernel⟩, TX7, 12, rfl⟩
set_option maxRecDepth 100000 in
theorem lk_X7_202 : LkV RX7 202 yX7_riskNow cX7_riskNow 5 (some .int) 2 9 := ⟨(TB_of 1278 rfl rfl), (TB_of 1280 rfl rfl), (TB_of 52 rfl rfl), (TB_of 64 rfl rfl), (TB_of 1281 rfl rfl), ⟨⟨by decide, by decide⟩, by decide +kernel⟩, TX7, 12, rfl⟩
set_option maxRecDepth 100000 in
theorem lk_L_190 : LkV RL 190 yX7_bestWork cX7_bestWork 4 (some .int) 3 9 := ⟨(TB_of 1288 rfl rfl), (TB_of 1289 rfl rfl), (TB_of 1290 rfl rfl), (TB_of 64 rfl rfl), (TB_of 1291 rfl rfl), ⟨⟨by decide, by decide⟩, by decide +kernel⟩, TX7, 12, rfl⟩
set_option maxRecDepth 100000 in
theorem lk_X7_209 : LkV RX7 209 yX7_bestNow cX7_bestNow 8 (some .int) 3 9 := ⟨(TB_of 1292 rfl rfl), (TB_of 1294 rfl rfl), (TB_of 53 rfl rfl), (TB_of 64 rfl rfl), (TB_of 1295 rfl rfl), ⟨⟨by decide, by decide⟩, by decide +kernel⟩, TX7, 12, rfl⟩
set_option maxRecDepth 100000 in
theorem lk_X7_205 : LkV RX7 205 yX7_costOf cX7_costOf 8 (some .int) 4 9 := ⟨(TB_of 1296 rfl rfl), (TB_of 1298 rfl rfl), (TB_of 54 rfl rfl), (TB_of 64 rfl rfl), (TB_of 1299 rfl rfl), ⟨⟨by decide, by decide⟩, by decide +kernel⟩, TX7, 12, rfl⟩
set_option maxRecDepth 100000 in
theorem lk_L_193 : LkV RL 193 yX7_freeDay cX7_freeDay 4 (some .int) 3 9 := ⟨(TB_of 1300 rfl rfl), (TB_of 1301 rfl rfl), (TB_of 1302 rfl rfl), (TB_of 64 rfl rfl), (TB_of 1303 rfl rfl), ⟨⟨by decide, by decide⟩, by decide +kernel⟩, TX7, 12, rfl⟩
set_option maxRecDepth 100000 in
theorem lk_X7_213 : LkV RX7 213 yX7_freeNow cX7_freeNow 5 (some .int) 3 9 := ⟨(TB_of 1304 rfl rfl), (TB_of 1306 rfl rfl), (TB_of 55 rfl rfl), (TB_of 64 rfl rfl), (TB_of 1307 rfl rfl), ⟨⟨by decide, by decide⟩, by decide +kernel⟩, TX7, 12, rfl⟩
set_option maxRecDepth 100000 in
theorem lk_L_196 : LkV RL 196 yX7_wouldOverrun cX7_wouldOverrun 3 (some .int) 1 9 := ⟨(TB_of 1308 rfl rfl), (TB_of 1309 rfl rfl), (TB_of 1310 rfl rfl), (TB_of 64 rfl rfl), (TB_of 1311 rfl rfl), ⟨⟨by decide, by decide⟩, by decide +kernel⟩, TX7, 12, rfl⟩
set_option maxRecDepth 100000 in
theorem lk_L_201 : LkV RL 201 yX7_digest cX7_digest 7 (some .long) 0 9 := ⟨(TB_of 1312 rfl rfl), (TB_of 1313 rfl rfl), (TB_of 1314 rfl rfl), (TB_of 64 rfl rfl), (TB_of 1315 rfl rfl), ⟨⟨by decide, by decide⟩, by decide +kernel⟩, TX7, 12, rfl⟩
set_option maxRecDepth 100000 in
theorem lk_X7_224 : LkV RX7 224 yX7_add cX7_add 2 none 1 9 := ⟨(TB_of 1317 rfl rfl), (TB_of 1319 rfl rfl), (TB_of 56 rfl rfl), (TB_of 64 rfl rfl), (TB_of 1320 rfl rfl), ⟨⟨by decide, by decide⟩, by decide +kernel⟩, TX7, 12, rfl⟩
set_option maxRecDepth 100000 in
theorem lk_X6_37 : LkN RX6 37 yX3_init cX3_init 1 0 := ⟨⟨"TrackNights", (NB_of 148 rfl rfl)⟩, (TB_of 149 rfl rfl), (TB_of 63 rfl rfl), (TB_of 150 rfl rfl), ⟨⟨by decide, by decide⟩, by decide +kernel⟩, rfl⟩
set_option maxRecDepth 100000 in
theorem lt_127 : LkT RX6 125 127 129 "java/lang/IndexOutOfBoundsException" "no such measure" := ⟨(TB_of 397 rfl rfl), (TB_of 68 rfl rfl), by decide +kernel, by decide +kernel, by decide +kernel, by decide +kernel, by decide +kernel⟩
set_option maxRecDepth 100000 in
theorem lt_137 : LkT RX6 90 137 94 "java/lang/IllegalStateException" "the measure is aligned" := ⟨(TB_of 557 rfl rfl), (TB_of 70 rfl rfl), by decide +kernel, by decide +kernel, by decide +kernel, by decide +kernel, by decide +kernel⟩
set_option maxRecDepth 100000 in
theorem lt_356 : LkT RX6 72 356 76 "java/lang/IllegalArgumentException" "days is not 1 to 200" := ⟨(TB_of 313 rfl rfl), (TB_of 69 rfl rfl), by decide +kernel, by decide +kernel, by decide +kernel, by decide +kernel, by decide +kernel⟩
set_option maxRecDepth 100000 in
theorem lt_164 : LkT RX6 72 164 76 "java/lang/IllegalArgumentException" "day is less than 5 later, or above 2000" := ⟨(TB_of 313 rfl rfl), (TB_of 69 rfl rfl), by decide +kernel, by decide +kernel, by decide +kernel, by decide +kernel, by decide +kernel⟩
set_option maxRecDepth 100000 in
theorem lt_166 : LkT RX6 72 166 76 "java/lang/IllegalArgumentException" "hours is not 2 to 8" := ⟨(TB_of 313 rfl rfl), (TB_of 69 rfl rfl), by decide +kernel, by decide +kernel, by decide +kernel, by decide +kernel, by decide +kernel⟩
set_option maxRecDepth 100000 in
theorem lt_168 : LkT RX6 90 168 94 "java/lang/IllegalStateException" "there were 16 possessions" := ⟨(TB_of 557 rfl rfl), (TB_of 70 rfl rfl), by decide +kernel, by decide +kernel, by decide +kernel, by decide +kernel, by decide +kernel⟩
set_option maxRecDepth 100000 in
theorem lt_174 : LkT RX6 90 174 94 "java/lang/IllegalStateException" "another possession of that day has a section in common" := ⟨(TB_of 557 rfl rfl), (TB_of 70 rfl rfl), by decide +kernel, by decide +kernel, by decide +kernel, by decide +kernel, by decide +kernel⟩
set_option maxRecDepth 100000 in
theorem lt_194 : LkT RX6 90 194 94 "java/lang/IllegalStateException" "the possession is not booked" := ⟨(TB_of 557 rfl rfl), (TB_of 70 rfl rfl), by decide +kernel, by decide +kernel, by decide +kernel, by decide +kernel, by decide +kernel⟩
set_option maxRecDepth 100000 in
theorem lt_418 : LkT RX6 125 418 129 "java/lang/IndexOutOfBoundsException" "section is not 0 to 19" := ⟨(TB_of 397 rfl rfl), (TB_of 68 rfl rfl), by decide +kernel, by decide +kernel, by decide +kernel, by decide +kernel, by decide +kernel⟩
set_option maxRecDepth 100000 in
theorem lt_336 : LkT RX6 125 336 129 "java/lang/IndexOutOfBoundsException" "track is not 0 or 1" := ⟨(TB_of 397 rfl rfl), (TB_of 68 rfl rfl), by decide +kernel, by decide +kernel, by decide +kernel, by decide +kernel, by decide +kernel⟩
set_option maxRecDepth 100000 in
theorem lt_424 : LkT RX6 125 424 129 "java/lang/IndexOutOfBoundsException" "from or to is not 0 to 9" := ⟨(TB_of 397 rfl rfl), (TB_of 68 rfl rfl), by decide +kernel, by decide +kernel, by decide +kernel, by decide +kernel, by decide +kernel⟩
set_option maxRecDepth 100000 in
theorem lt_426 : LkT RX6 72 426 76 "java/lang/IllegalArgumentException" "to is below from" := ⟨(TB_of 313 rfl rfl), (TB_of 69 rfl rfl), by decide +kernel, by decide +kernel, by decide +kernel, by decide +kernel, by decide +kernel⟩
set_option maxRecDepth 100000 in
theorem lt_428 : LkT RX6 72 428 76 "java/lang/IllegalArgumentException" "trains is not 0 to 40" := ⟨(TB_of 313 rfl rfl), (TB_of 69 rfl rfl), by decide +kernel, by decide +kernel, by decide +kernel, by decide +kernel, by decide +kernel⟩
set_option maxRecDepth 100000 in
theorem lt_253 : LkT RX6 90 253 94 "java/lang/IllegalStateException" "the possession is not taken" := ⟨(TB_of 557 rfl rfl), (TB_of 70 rfl rfl), by decide +kernel, by decide +kernel, by decide +kernel, by decide +kernel, by decide +kernel⟩
set_option maxRecDepth 100000 in
theorem lt_304 : LkT RX6 72 304 76 "java/lang/IllegalArgumentException" "what is not 0 to 4" := ⟨(TB_of 313 rfl rfl), (TB_of 69 rfl rfl), by decide +kernel, by decide +kernel, by decide +kernel, by decide +kernel, by decide +kernel⟩
set_option maxRecDepth 100000 in
theorem lt_142 : LkT RX6 72 142 76 "java/lang/IllegalArgumentException" "kind is not 0 to 2" := ⟨(TB_of 313 rfl rfl), (TB_of 69 rfl rfl), by decide +kernel, by decide +kernel, by decide +kernel, by decide +kernel, by decide +kernel⟩
set_option maxRecDepth 100000 in
theorem lt_144 : LkT RX6 72 144 76 "java/lang/IllegalArgumentException" "life is not 0 to 99" := ⟨(TB_of 313 rfl rfl), (TB_of 69 rfl rfl), by decide +kernel, by decide +kernel, by decide +kernel, by decide +kernel, by decide +kernel⟩
set_option maxRecDepth 100000 in
theorem lt_146 : LkT RX6 90 146 94 "java/lang/IllegalStateException" "there are 4 machines" := ⟨(TB_of 557 rfl rfl), (TB_of 70 rfl rfl), by decide +kernel, by decide +kernel, by decide +kernel, by decide +kernel, by decide +kernel⟩
set_option maxRecDepth 100000 in
theorem lt_420 : LkT RX6 125 420 129 "java/lang/IndexOutOfBoundsException" "no such machine" := ⟨(TB_of 397 rfl rfl), (TB_of 68 rfl rfl), by decide +kernel, by decide +kernel, by decide +kernel, by decide +kernel, by decide +kernel⟩
set_option maxRecDepth 100000 in
theorem lt_334 : LkT RX6 72 334 76 "java/lang/IllegalArgumentException" "what is not 0 to 16" := ⟨(TB_of 313 rfl rfl), (TB_of 69 rfl rfl), by decide +kernel, by decide +kernel, by decide +kernel, by decide +kernel, by decide +kernel⟩
set_option maxRecDepth 100000 in
theorem lt_230 : LkT RX6 125 230 129 "java/lang/IndexOutOfBoundsException" "end is not 0 or 1" := ⟨(TB_of 397 rfl rfl), (TB_of 68 rfl rfl), by decide +kernel, by decide +kernel, by decide +kernel, by decide +kernel, by decide +kernel⟩
set_option maxRecDepth 100000 in
theorem lt_232 : LkT RX6 90 232 94 "java/lang/IllegalStateException" "its day is not this one" := ⟨(TB_of 557 rfl rfl), (TB_of 70 rfl rfl), by decide +kernel, by decide +kernel, by decide +kernel, by decide +kernel, by decide +kernel⟩
set_option maxRecDepth 100000 in
theorem lt_237 : LkT RX6 90 237 94 "java/lang/IllegalStateException" "that end is marked" := ⟨(TB_of 557 rfl rfl), (TB_of 70 rfl rfl), by decide +kernel, by decide +kernel, by decide +kernel, by decide +kernel, by decide +kernel⟩
set_option maxRecDepth 100000 in
theorem lt_102 : LkT RX6 72 102 76 "java/lang/IllegalArgumentException" "drift is not -2 to 2" := ⟨(TB_of 313 rfl rfl), (TB_of 69 rfl rfl), by decide +kernel, by decide +kernel, by decide +kernel, by decide +kernel, by decide +kernel⟩
set_option maxRecDepth 100000 in
theorem lt_108 : LkT RX6 90 108 94 "java/lang/IllegalStateException" "there were 12 measures" := ⟨(TB_of 557 rfl rfl), (TB_of 70 rfl rfl), by decide +kernel, by decide +kernel, by decide +kernel, by decide +kernel, by decide +kernel⟩
set_option maxRecDepth 100000 in
theorem lt_315 : LkT RX6 72 315 76 "java/lang/IllegalArgumentException" "what is not 0 to 3" := ⟨(TB_of 313 rfl rfl), (TB_of 69 rfl rfl), by decide +kernel, by decide +kernel, by decide +kernel, by decide +kernel, by decide +kernel⟩
set_option maxRecDepth 100000 in
theorem lt_320 : LkT RX6 72 320 76 "java/lang/IllegalArgumentException" "what is not 0 to 9" := ⟨(TB_of 313 rfl rfl), (TB_of 69 rfl rfl), by decide +kernel, by decide +kernel, by decide +kernel, by decide +kernel, by decide +kernel⟩
set_option maxRecDepth 100000 in
theorem lt_292 : LkT RX6 72 292 76 "java/lang/IllegalArgumentException" "what is not 0 to 7" := ⟨(TB_of 313 rfl rfl), (TB_of 69 rfl rfl), by decide +kernel, by decide +kernel, by decide +kernel, by decide +kernel, by decide +kernel⟩
set_option maxRecDepth 100000 in
theorem lt_86 : LkT RX6 72 86 76 "java/lang/IllegalArgumentException" "heat is not -20 to 60" := ⟨(TB_of 313 rfl rfl), (TB_of 69 rfl rfl), by decide +kernel, by decide +kernel, by decide +kernel, by decide +kernel, by decide +kernel⟩
set_option maxRecDepth 100000 in
theorem lt_88 : LkT RX6 72 88 76 "java/lang/IllegalArgumentException" "days is not 1 to 60" := ⟨(TB_of 313 rfl rfl), (TB_of 69 rfl rfl), by decide +kernel, by decide +kernel, by decide +kernel, by decide +kernel, by decide +kernel⟩
set_option maxRecDepth 100000 in
theorem lt_92 : LkT RX6 90 92 94 "java/lang/IllegalStateException" "the day would be above 2000" := ⟨(TB_of 557 rfl rfl), (TB_of 70 rfl rfl), by decide +kernel, by decide +kernel, by decide +kernel, by decide +kernel, by decide +kernel⟩
set_option maxRecDepth 100000 in
theorem lt_422 : LkT RX6 125 422 129 "java/lang/IndexOutOfBoundsException" "no such possession" := ⟨(TB_of 397 rfl rfl), (TB_of 68 rfl rfl), by decide +kernel, by decide +kernel, by decide +kernel, by decide +kernel, by decide +kernel⟩
set_option maxRecDepth 100000 in
theorem lt_159 : LkT RX6 90 159 94 "java/lang/IllegalStateException" "the machine is in a possession that is taken" := ⟨(TB_of 557 rfl rfl), (TB_of 70 rfl rfl), by decide +kernel, by decide +kernel, by decide +kernel, by decide +kernel, by decide +kernel⟩
set_option maxRecDepth 100000 in
theorem lt_74 : LkT RX6 72 74 76 "java/lang/IllegalArgumentException" "speed is not 0 to 160" := ⟨(TB_of 313 rfl rfl), (TB_of 69 rfl rfl), by decide +kernel, by decide +kernel, by decide +kernel, by decide +kernel, by decide +kernel⟩
set_option maxRecDepth 100000 in
theorem lt_245 : LkT RX6 90 245 94 "java/lang/IllegalStateException" "not both ends are marked" := ⟨(TB_of 557 rfl rfl), (TB_of 70 rfl rfl), by decide +kernel, by decide +kernel, by decide +kernel, by decide +kernel, by decide +kernel⟩
set_option maxRecDepth 100000 in
theorem lt_262 : LkT RX6 72 262 76 "java/lang/IllegalArgumentException" "sight is not 50 to 2000" := ⟨(TB_of 313 rfl rfl), (TB_of 69 rfl rfl), by decide +kernel, by decide +kernel, by decide +kernel, by decide +kernel, by decide +kernel⟩
set_option maxRecDepth 100000 in
theorem lt_189 : LkT RX6 72 189 76 "java/lang/IllegalArgumentException" "the section is not in the possession" := ⟨(TB_of 313 rfl rfl), (TB_of 69 rfl rfl), by decide +kernel, by decide +kernel, by decide +kernel, by decide +kernel, by decide +kernel⟩
set_option maxRecDepth 100000 in
theorem lt_199 : LkT RX6 90 199 94 "java/lang/IllegalStateException" "there are 6 works" := ⟨(TB_of 557 rfl rfl), (TB_of 70 rfl rfl), by decide +kernel, by decide +kernel, by decide +kernel, by decide +kernel, by decide +kernel⟩
set_option maxRecDepth 100000 in
theorem lt_214 : LkT RX6 90 214 94 "java/lang/IllegalStateException" "the works would take too long" := ⟨(TB_of 557 rfl rfl), (TB_of 70 rfl rfl), by decide +kernel, by decide +kernel, by decide +kernel, by decide +kernel, by decide +kernel⟩
set_option maxRecDepth 100000 in
theorem lt_220 : LkT RX6 90 220 94 "java/lang/IllegalStateException" "the machine is in another possession of that day" := ⟨(TB_of 557 rfl rfl), (TB_of 70 rfl rfl), by decide +kernel, by decide +kernel, by decide +kernel, by decide +kernel, by decide +kernel⟩
set_option maxRecDepth 100000 in
theorem lt_366 : LkT RX6 90 366 94 "java/lang/IllegalStateException" "the possession is neither booked nor taken" := ⟨(TB_of 557 rfl rfl), (TB_of 70 rfl rfl), by decide +kernel, by decide +kernel, by decide +kernel, by decide +kernel, by decide +kernel⟩
set_option maxRecDepth 100000 in
theorem oi_i : Cond.instanceMethod objectInit ∈ TB := (TB_of 89 rfl rfl)
set_option maxRecDepth 100000 in
theorem oi_c : Cond.code objectInit ⟨#[0xb1]⟩ 1 none ∈ TB := (TB_of 90 rfl rfl)
set_option maxRecDepth 100000 in
theorem oi_X6_3 : Cond.methodLink RX6 3 objectInit ∈ TB := (TB_of 88 rfl rfl)
set_option maxRecDepth 100000 in
theorem oi_Jxa1e45_1 : Cond.methodLink RJxa1e45 1 objectInit ∈ TB := (TB_of 104 rfl rfl)
set_option maxRecDepth 100000 in
theorem oi_X4_3 : Cond.methodLink RX4 3 objectInit ∈ TB := (TB_of 127 rfl rfl)
set_option maxRecDepth 100000 in
theorem oi_X3_3 : Cond.methodLink RX3 3 objectInit ∈ TB := (TB_of 151 rfl rfl)
set_option maxRecDepth 100000 in
theorem oi_X1_3 : Cond.methodLink RX1 3 objectInit ∈ TB := (TB_of 615 rfl rfl)
set_option maxRecDepth 100000 in
theorem oi_X0_1 : Cond.methodLink RX0 1 objectInit ∈ TB := (TB_of 717 rfl rfl)
set_option maxRecDepth 100000 in
theorem oi_X2_3 : Cond.methodLink RX2 3 objectInit ∈ TB := (TB_of 767 rfl rfl)
set_option maxRecDepth 100000 in
theorem oi_X5_1 : Cond.methodLink RX5 1 objectInit ∈ TB := (TB_of 837 rfl rfl)
set_option maxRecDepth 100000 in
theorem oi_X7_3 : Cond.methodLink RX7 3 objectInit ∈ TB := (TB_of 974 rfl rfl)
set_option maxRecDepth 100000 in
theorem oi_Jx35411_7 : Cond.methodLink RJx35411 7 objectInit ∈ TB := (TB_of 1059 rfl rfl)
set_option maxRecDepth 100000 in
theorem cob_0 : ∃ (C : String) (T : u_T) (N : Nat), vwCl[0]? = some (C, T, N) ∧ Cond.castable C "java/lang/Object" ∈ NB := ⟨RJx35411, TJx35411, 4, rfl, (NB_of 1333 rfl rfl)⟩
set_option maxRecDepth 100000 in
theorem cob_1 : ∃ (C : String) (T : u_T) (N : Nat), vwCl[1]? = some (C, T, N) ∧ Cond.castable C "java/lang/Object" ∈ NB := ⟨RJx4a65c, TJx4a65c, 3, rfl, (NB_of 1328 rfl rfl)⟩
set_option maxRecDepth 100000 in
theorem cob_2 : ∃ (C : String) (T : u_T) (N : Nat), vwCl[2]? = some (C, T, N) ∧ Cond.castable C "java/lang/Object" ∈ NB := ⟨RX0, TX0, 4, rfl, (NB_of 1335 rfl rfl)⟩
set_option maxRecDepth 100000 in
theorem cob_3 : ∃ (C : String) (T : u_T) (N : Nat), vwCl[3]? = some (C, T, N) ∧ Cond.castable C "java/lang/Object" ∈ NB := ⟨RX1, TX1, 4, rfl, (NB_of 1334 rfl rfl)⟩
set_option maxRecDepth 100000 in
theorem cob_4 : ∃ (C : String) (T : u_T) (N : Nat), vwCl[4]? = some (C, T, N) ∧ Cond.castable C "java/lang/Object" ∈ NB := ⟨RX2, TX2, 10, rfl, (NB_of 1336 rfl rfl)⟩
set_option maxRecDepth 100000 in
theorem cob_5 : ∃ (C : String) (T : u_T) (N : Nat), vwCl[5]? = some (C, T, N) ∧ Cond.castable C "java/lang/Object" ∈ NB := ⟨RX3, TX3, 5, rfl, (NB_of 1325 rfl rfl)⟩
set_option maxRecDepth 100000 in
theorem cob_6 : ∃ (C : String) (T : u_T) (N : Nat), vwCl[6]? = some (C, T, N) ∧ Cond.castable C "java/lang/Object" ∈ NB := ⟨RX4, TX4, 3, rfl, (NB_of 1326 rfl rfl)⟩
set_option maxRecDepth 100000 in
theorem cob_7 : ∃ (C : String) (T : u_T) (N : Nat), vwCl[7]? = some (C, T, N) ∧ Cond.castable C "java/lang/Object" ∈ NB := ⟨RX5, TX5, 3, rfl, (NB_of 1337 rfl rfl)⟩
set_option maxRecDepth 100000 in
theorem cob_8 : ∃ (C : String) (T : u_T) (N : Nat), vwCl[8]? = some (C, T, N) ∧ Cond.castable C "java/lang/Object" ∈ NB := ⟨RX6, TX6, 13, rfl, (NB_of 1327 rfl rfl)⟩
set_option maxRecDepth 100000 in
theorem cob_9 : ∃ (C : String) (T : u_T) (N : Nat), vwCl[9]? = some (C, T, N) ∧ Cond.castable C "java/lang/Object" ∈ NB := ⟨RX7, TX7, 12, rfl, (NB_of 1329 rfl rfl)⟩
