/-! what each pool entry says (written by facts.py) -/
set_option maxRecDepth 100000 in
theorem TB_1 {w : Cond} (i : Nat) (h : tables_1_1[i]? = some w) (hg : goodWord w = true) : w ∈ TB := List.mem_filter.mpr ⟨List.mem_append_right _ (List.mem_append_left _ (List.mem_of_getElem? h)), hg⟩
set_option maxRecDepth 100000 in
theorem NB_1 {w : Cond} (i : Nat) (h : tables_1_1[i]? = some w) (hg : nbw w = true) : w ∈ NB := List.mem_filter.mpr ⟨List.mem_append_right _ (List.mem_append_left _ (List.mem_of_getElem? h)), hg⟩
set_option maxRecDepth 100000 in
theorem TB_2 {w : Cond} (i : Nat) (h : tables_1_2[i]? = some w) (hg : goodWord w = true) : w ∈ TB := List.mem_filter.mpr ⟨List.mem_append_right _ (List.mem_append_right _ (List.mem_append_left _ (List.mem_of_getElem? h))), hg⟩
set_option maxRecDepth 100000 in
theorem NB_2 {w : Cond} (i : Nat) (h : tables_1_2[i]? = some w) (hg : nbw w = true) : w ∈ NB := List.mem_filter.mpr ⟨List.mem_append_right _ (List.mem_append_right _ (List.mem_append_left _ (List.mem_of_getElem? h))), hg⟩
set_option maxRecDepth 100000 in
theorem TB_3 {w : Cond} (i : Nat) (h : tables_1_3[i]? = some w) (hg : goodWord w = true) : w ∈ TB := List.mem_filter.mpr ⟨List.mem_append_right _ (List.mem_append_right _ (List.mem_append_right _ (List.mem_append_left _ (List.mem_of_getElem? h)))), hg⟩
set_option maxRecDepth 100000 in
theorem NB_3 {w : Cond} (i : Nat) (h : tables_1_3[i]? = some w) (hg : nbw w = true) : w ∈ NB := List.mem_filter.mpr ⟨List.mem_append_right _ (List.mem_append_right _ (List.mem_append_right _ (List.mem_append_left _ (List.mem_of_getElem? h)))), hg⟩
set_option maxRecDepth 100000 in
theorem TB_4 {w : Cond} (i : Nat) (h : tables_1_4[i]? = some w) (hg : goodWord w = true) : w ∈ TB := List.mem_filter.mpr ⟨List.mem_append_right _ (List.mem_append_right _ (List.mem_append_right _ (List.mem_append_right _ (List.mem_of_getElem? h)))), hg⟩
set_option maxRecDepth 100000 in
theorem NB_4 {w : Cond} (i : Nat) (h : tables_1_4[i]? = some w) (hg : nbw w = true) : w ∈ NB := List.mem_filter.mpr ⟨List.mem_append_right _ (List.mem_append_right _ (List.mem_append_right _ (List.mem_append_right _ (List.mem_of_getElem? h)))), hg⟩
set_option maxRecDepth 100000 in
theorem inJx4a65c : ∀ w ∈ u_ws RJx4a65c TJx4a65c 3, w ∈ TB := by decide +kernel
set_option maxRecDepth 100000 in
theorem inX0 : ∀ w ∈ u_ws RX0 TX0 4, w ∈ TB := by decide +kernel
set_option maxRecDepth 100000 in
theorem inX1 : ∀ w ∈ u_ws RX1 TX1 4, w ∈ TB := by decide +kernel
set_option maxRecDepth 100000 in
theorem inX2 : ∀ w ∈ u_ws RX2 TX2 10, w ∈ TB := by decide +kernel
set_option maxRecDepth 100000 in
theorem inX3 : ∀ w ∈ u_ws RX3 TX3 5, w ∈ TB := by decide +kernel
set_option maxRecDepth 100000 in
theorem inX4 : ∀ w ∈ u_ws RX4 TX4 3, w ∈ TB := by decide +kernel
set_option maxRecDepth 100000 in
theorem inX5 : ∀ w ∈ u_ws RX5 TX5 3, w ∈ TB := by decide +kernel
set_option maxRecDepth 100000 in
theorem inX6 : ∀ w ∈ u_ws RX6 TX6 13, w ∈ TB := by decide +kernel
set_option maxRecDepth 100000 in
theorem fw_1 : FW 1 := ⟨RJx4a65c, TJx4a65c, 3, tyJx4a65c, rfl, by decide +kernel, by decide +kernel⟩
set_option maxRecDepth 100000 in
theorem ft_1_0 : FT 1 0 false .int := ⟨RJx4a65c, TJx4a65c, 3, rfl, rfl, by decide +kernel⟩
set_option maxRecDepth 100000 in
theorem ft_1_1 : FT 1 1 false (.array (.object "java/lang/Object")) := ⟨RJx4a65c, TJx4a65c, 3, rfl, rfl, by decide +kernel⟩
set_option maxRecDepth 100000 in
theorem ft_1_2 : FT 1 2 false .int := ⟨RJx4a65c, TJx4a65c, 3, rfl, rfl, by decide +kernel⟩
set_option maxRecDepth 100000 in
theorem fw_2 : FW 2 := ⟨RX0, TX0, 4, tyX0, rfl, by decide +kernel, by decide +kernel⟩
set_option maxRecDepth 100000 in
theorem ft_2_0 : FT 2 0 true .int := ⟨RX0, TX0, 4, rfl, rfl, by decide +kernel⟩
set_option maxRecDepth 100000 in
theorem ft_2_1 : FT 2 1 false .int := ⟨RX0, TX0, 4, rfl, rfl, by decide +kernel⟩
set_option maxRecDepth 100000 in
theorem ft_2_2 : FT 2 2 false .int := ⟨RX0, TX0, 4, rfl, rfl, by decide +kernel⟩
set_option maxRecDepth 100000 in
theorem ft_2_3 : FT 2 3 false .int := ⟨RX0, TX0, 4, rfl, rfl, by decide +kernel⟩
set_option maxRecDepth 100000 in
theorem fw_3 : FW 3 := ⟨RX1, TX1, 4, tyX1, rfl, by decide +kernel, by decide +kernel⟩
set_option maxRecDepth 100000 in
theorem ft_3_0 : FT 3 0 true .int := ⟨RX1, TX1, 4, rfl, rfl, by decide +kernel⟩
set_option maxRecDepth 100000 in
theorem ft_3_1 : FT 3 1 true .int := ⟨RX1, TX1, 4, rfl, rfl, by decide +kernel⟩
set_option maxRecDepth 100000 in
theorem ft_3_2 : FT 3 2 false .boolean := ⟨RX1, TX1, 4, rfl, rfl, by decide +kernel⟩
set_option maxRecDepth 100000 in
theorem ft_3_3 : FT 3 3 true (.array (.object "TrackNights$Values")) := ⟨RX1, TX1, 4, rfl, rfl, by decide +kernel⟩
set_option maxRecDepth 100000 in
theorem fw_4 : FW 4 := ⟨RX2, TX2, 10, tyX2, rfl, by decide +kernel, by decide +kernel⟩
set_option maxRecDepth 100000 in
theorem ft_4_0 : FT 4 0 true .int := ⟨RX2, TX2, 10, rfl, rfl, by decide +kernel⟩
set_option maxRecDepth 100000 in
theorem ft_4_1 : FT 4 1 true .int := ⟨RX2, TX2, 10, rfl, rfl, by decide +kernel⟩
set_option maxRecDepth 100000 in
theorem ft_4_2 : FT 4 2 true .int := ⟨RX2, TX2, 10, rfl, rfl, by decide +kernel⟩
set_option maxRecDepth 100000 in
theorem ft_4_3 : FT 4 3 true .int := ⟨RX2, TX2, 10, rfl, rfl, by decide +kernel⟩
set_option maxRecDepth 100000 in
theorem ft_4_4 : FT 4 4 true .int := ⟨RX2, TX2, 10, rfl, rfl, by decide +kernel⟩
set_option maxRecDepth 100000 in
theorem ft_4_5 : FT 4 5 true (.object "java/util/ArrayList") := ⟨RX2, TX2, 10, rfl, rfl, by decide +kernel⟩
set_option maxRecDepth 100000 in
theorem ft_4_6 : FT 4 6 false .int := ⟨RX2, TX2, 10, rfl, rfl, by decide +kernel⟩
set_option maxRecDepth 100000 in
theorem ft_4_7 : FT 4 7 false .boolean := ⟨RX2, TX2, 10, rfl, rfl, by decide +kernel⟩
set_option maxRecDepth 100000 in
theorem ft_4_8 : FT 4 8 false .boolean := ⟨RX2, TX2, 10, rfl, rfl, by decide +kernel⟩
set_option maxRecDepth 100000 in
theorem ft_4_9 : FT 4 9 false .int := ⟨RX2, TX2, 10, rfl, rfl, by decide +kernel⟩
set_option maxRecDepth 100000 in
theorem fw_5 : FW 5 := ⟨RX3, TX3, 5, tyX3, rfl, by decide +kernel, by decide +kernel⟩
set_option maxRecDepth 100000 in
theorem ft_5_0 : FT 5 0 true (.object "TrackNights$Values") := ⟨RX3, TX3, 5, rfl, rfl, by decide +kernel⟩
set_option maxRecDepth 100000 in
theorem ft_5_1 : FT 5 1 false .int := ⟨RX3, TX3, 5, rfl, rfl, by decide +kernel⟩
set_option maxRecDepth 100000 in
theorem ft_5_2 : FT 5 2 false .int := ⟨RX3, TX3, 5, rfl, rfl, by decide +kernel⟩
set_option maxRecDepth 100000 in
theorem ft_5_3 : FT 5 3 false .boolean := ⟨RX3, TX3, 5, rfl, rfl, by decide +kernel⟩
set_option maxRecDepth 100000 in
theorem ft_5_4 : FT 5 4 false .int := ⟨RX3, TX3, 5, rfl, rfl, by decide +kernel⟩
set_option maxRecDepth 100000 in
theorem fw_6 : FW 6 := ⟨RX4, TX4, 3, tyX4, rfl, by decide +kernel, by decide +kernel⟩
set_option maxRecDepth 100000 in
theorem ft_6_0 : FT 6 0 false .int := ⟨RX4, TX4, 3, rfl, rfl, by decide +kernel⟩
set_option maxRecDepth 100000 in
theorem ft_6_1 : FT 6 1 false .int := ⟨RX4, TX4, 3, rfl, rfl, by decide +kernel⟩
set_option maxRecDepth 100000 in
theorem ft_6_2 : FT 6 2 false .int := ⟨RX4, TX4, 3, rfl, rfl, by decide +kernel⟩
set_option maxRecDepth 100000 in
theorem fw_7 : FW 7 := ⟨RX5, TX5, 3, tyX5, rfl, by decide +kernel, by decide +kernel⟩
set_option maxRecDepth 100000 in
theorem ft_7_0 : FT 7 0 true (.object "TrackNights$Section") := ⟨RX5, TX5, 3, rfl, rfl, by decide +kernel⟩
set_option maxRecDepth 100000 in
theorem ft_7_1 : FT 7 1 true (.object "TrackNights$Machine") := ⟨RX5, TX5, 3, rfl, rfl, by decide +kernel⟩
set_option maxRecDepth 100000 in
theorem ft_7_2 : FT 7 2 true .int := ⟨RX5, TX5, 3, rfl, rfl, by decide +kernel⟩
set_option maxRecDepth 100000 in
theorem fw_8 : FW 8 := ⟨RX6, TX6, 13, tyX6, rfl, by decide +kernel, by decide +kernel⟩
set_option maxRecDepth 100000 in
theorem ft_8_0 : FT 8 0 true (.array (.object "TrackNights$Section")) := ⟨RX6, TX6, 13, rfl, rfl, by decide +kernel⟩
set_option maxRecDepth 100000 in
theorem ft_8_1 : FT 8 1 true (.object "java/util/ArrayList") := ⟨RX6, TX6, 13, rfl, rfl, by decide +kernel⟩
set_option maxRecDepth 100000 in
theorem ft_8_2 : FT 8 2 true (.object "java/util/ArrayList") := ⟨RX6, TX6, 13, rfl, rfl, by decide +kernel⟩
set_option maxRecDepth 100000 in
theorem ft_8_3 : FT 8 3 true (.object "java/util/ArrayList") := ⟨RX6, TX6, 13, rfl, rfl, by decide +kernel⟩
set_option maxRecDepth 100000 in
theorem ft_8_4 : FT 8 4 true (.object "TrackNights$Values") := ⟨RX6, TX6, 13, rfl, rfl, by decide +kernel⟩
set_option maxRecDepth 100000 in
theorem ft_8_5 : FT 8 5 true (.object "TrackNights$Section") := ⟨RX6, TX6, 13, rfl, rfl, by decide +kernel⟩
set_option maxRecDepth 100000 in
theorem ft_8_6 : FT 8 6 false .int := ⟨RX6, TX6, 13, rfl, rfl, by decide +kernel⟩
set_option maxRecDepth 100000 in
theorem ft_8_7 : FT 8 7 false .int := ⟨RX6, TX6, 13, rfl, rfl, by decide +kernel⟩
set_option maxRecDepth 100000 in
theorem ft_8_8 : FT 8 8 false .int := ⟨RX6, TX6, 13, rfl, rfl, by decide +kernel⟩
set_option maxRecDepth 100000 in
theorem ft_8_9 : FT 8 9 false .int := ⟨RX6, TX6, 13, rfl, rfl, by decide +kernel⟩
set_option maxRecDepth 100000 in
theorem ft_8_10 : FT 8 10 false .int := ⟨RX6, TX6, 13, rfl, rfl, by decide +kernel⟩
set_option maxRecDepth 100000 in
theorem ft_8_11 : FT 8 11 false .int := ⟨RX6, TX6, 13, rfl, rfl, by decide +kernel⟩
set_option maxRecDepth 100000 in
theorem ft_8_12 : FT 8 12 false .int := ⟨RX6, TX6, 13, rfl, rfl, by decide +kernel⟩
set_option maxRecDepth 100000 in
theorem fl_Jx4a65c_9 : FL RJx4a65c 9 1 1 := ⟨RJx4a65c, TJx4a65c, 3, "java/util/ArrayList", rfl, by decide, inJx4a65c, Or.inl (TB_1 47 rfl rfl), Or.inl rfl⟩
set_option maxRecDepth 100000 in
theorem flp_Jx4a65c_9 : FLP RJx4a65c 9 1 1 := ⟨RJx4a65c, TJx4a65c, 3, rfl, by decide, inJx4a65c, (TB_1 47 rfl rfl), rfl⟩
set_option maxRecDepth 100000 in
theorem fl_Jx4a65c_48 : FL RJx4a65c 48 1 2 := ⟨RJx4a65c, TJx4a65c, 3, "java/util/ArrayList", rfl, by decide, inJx4a65c, Or.inl (TB_1 48 rfl rfl), Or.inl rfl⟩
set_option maxRecDepth 100000 in
theorem flp_Jx4a65c_48 : FLP RJx4a65c 48 1 2 := ⟨RJx4a65c, TJx4a65c, 3, rfl, by decide, inJx4a65c, (TB_1 48 rfl rfl), rfl⟩
set_option maxRecDepth 100000 in
theorem fl_Jx4a65c_63 : FL RJx4a65c 63 1 0 := ⟨RJx4a65c, TJx4a65c, 3, "java/util/ArrayList", rfl, by decide, inJx4a65c, Or.inl (TB_1 50 rfl rfl), Or.inr (TB_1 51 rfl rfl)⟩
set_option maxRecDepth 100000 in
theorem fl_X4_9 : FL RX4 9 6 0 := ⟨RX4, TX4, 3, "TrackNights$Values", rfl, by decide, inX4, Or.inl (TB_1 65 rfl rfl), Or.inl rfl⟩
set_option maxRecDepth 100000 in
theorem flp_X4_9 : FLP RX4 9 6 0 := ⟨RX4, TX4, 3, rfl, by decide, inX4, (TB_1 65 rfl rfl), rfl⟩
set_option maxRecDepth 100000 in
theorem fl_X4_15 : FL RX4 15 6 1 := ⟨RX4, TX4, 3, "TrackNights$Values", rfl, by decide, inX4, Or.inl (TB_1 69 rfl rfl), Or.inl rfl⟩
set_option maxRecDepth 100000 in
theorem flp_X4_15 : FLP RX4 15 6 1 := ⟨RX4, TX4, 3, rfl, by decide, inX4, (TB_1 69 rfl rfl), rfl⟩
set_option maxRecDepth 100000 in
theorem fl_X4_18 : FL RX4 18 6 2 := ⟨RX4, TX4, 3, "TrackNights$Values", rfl, by decide, inX4, Or.inl (TB_1 73 rfl rfl), Or.inl rfl⟩
set_option maxRecDepth 100000 in
theorem flp_X4_18 : FLP RX4 18 6 2 := ⟨RX4, TX4, 3, rfl, by decide, inX4, (TB_1 73 rfl rfl), rfl⟩
set_option maxRecDepth 100000 in
theorem fl_X3_14 : FL RX3 14 5 0 := ⟨RX3, TX3, 5, "TrackNights$Section", rfl, by decide, inX3, Or.inl (TB_1 91 rfl rfl), Or.inl rfl⟩
set_option maxRecDepth 100000 in
theorem flp_X3_14 : FLP RX3 14 5 0 := ⟨RX3, TX3, 5, rfl, by decide, inX3, (TB_1 91 rfl rfl), rfl⟩
set_option maxRecDepth 100000 in
theorem fl_X3_20 : FL RX3 20 5 1 := ⟨RX3, TX3, 5, "TrackNights$Section", rfl, by decide, inX3, Or.inl (TB_1 93 rfl rfl), Or.inl rfl⟩
set_option maxRecDepth 100000 in
theorem flp_X3_20 : FLP RX3 20 5 1 := ⟨RX3, TX3, 5, rfl, by decide, inX3, (TB_1 93 rfl rfl), rfl⟩
set_option maxRecDepth 100000 in
theorem fl_X3_24 : FL RX3 24 5 2 := ⟨RX3, TX3, 5, "TrackNights$Section", rfl, by decide, inX3, Or.inl (TB_1 95 rfl rfl), Or.inl rfl⟩
set_option maxRecDepth 100000 in
theorem flp_X3_24 : FLP RX3 24 5 2 := ⟨RX3, TX3, 5, rfl, by decide, inX3, (TB_1 95 rfl rfl), rfl⟩
set_option maxRecDepth 100000 in
theorem fl_X3_27 : FL RX3 27 5 3 := ⟨RX3, TX3, 5, "TrackNights$Section", rfl, by decide, inX3, Or.inl (TB_1 97 rfl rfl), Or.inl rfl⟩
set_option maxRecDepth 100000 in
theorem flp_X3_27 : FLP RX3 27 5 3 := ⟨RX3, TX3, 5, rfl, by decide, inX3, (TB_1 97 rfl rfl), rfl⟩
set_option maxRecDepth 100000 in
theorem fl_X3_31 : FL RX3 31 5 4 := ⟨RX3, TX3, 5, "TrackNights$Section", rfl, by decide, inX3, Or.inl (TB_1 99 rfl rfl), Or.inl rfl⟩
set_option maxRecDepth 100000 in
theorem flp_X3_31 : FLP RX3 31 5 4 := ⟨RX3, TX3, 5, rfl, by decide, inX3, (TB_1 99 rfl rfl), rfl⟩
set_option maxRecDepth 100000 in
theorem fl_X6_11 : FL RX6 11 8 0 := ⟨RX6, TX6, 13, "TrackNights", rfl, by decide, inX6, Or.inl (TB_1 112 rfl rfl), Or.inl rfl⟩
set_option maxRecDepth 100000 in
theorem flp_X6_11 : FLP RX6 11 8 0 := ⟨RX6, TX6, 13, rfl, by decide, inX6, (TB_1 112 rfl rfl), rfl⟩
set_option maxRecDepth 100000 in
theorem fl_X6_18 : FL RX6 18 8 1 := ⟨RX6, TX6, 13, "TrackNights", rfl, by decide, inX6, Or.inl (TB_1 113 rfl rfl), Or.inl rfl⟩
set_option maxRecDepth 100000 in
theorem flp_X6_18 : FLP RX6 18 8 1 := ⟨RX6, TX6, 13, rfl, by decide, inX6, (TB_1 113 rfl rfl), rfl⟩
set_option maxRecDepth 100000 in
theorem fl_X6_22 : FL RX6 22 8 2 := ⟨RX6, TX6, 13, "TrackNights", rfl, by decide, inX6, Or.inl (TB_1 114 rfl rfl), Or.inl rfl⟩
set_option maxRecDepth 100000 in
theorem flp_X6_22 : FLP RX6 22 8 2 := ⟨RX6, TX6, 13, rfl, by decide, inX6, (TB_1 114 rfl rfl), rfl⟩
set_option maxRecDepth 100000 in
theorem fl_X6_25 : FL RX6 25 8 3 := ⟨RX6, TX6, 13, "TrackNights", rfl, by decide, inX6, Or.inl (TB_1 115 rfl rfl), Or.inl rfl⟩
set_option maxRecDepth 100000 in
theorem flp_X6_25 : FLP RX6 25 8 3 := ⟨RX6, TX6, 13, rfl, by decide, inX6, (TB_1 115 rfl rfl), rfl⟩
set_option maxRecDepth 100000 in
theorem fl_X6_33 : FL RX6 33 8 4 := ⟨RX6, TX6, 13, "TrackNights", rfl, by decide, inX6, Or.inl (TB_1 116 rfl rfl), Or.inl rfl⟩
set_option maxRecDepth 100000 in
theorem flp_X6_33 : FLP RX6 33 8 4 := ⟨RX6, TX6, 13, rfl, by decide, inX6, (TB_1 116 rfl rfl), rfl⟩
set_option maxRecDepth 100000 in
theorem fl_X6_38 : FL RX6 38 8 5 := ⟨RX6, TX6, 13, "TrackNights", rfl, by decide, inX6, Or.inl (TB_1 117 rfl rfl), Or.inl rfl⟩
set_option maxRecDepth 100000 in
theorem flp_X6_38 : FLP RX6 38 8 5 := ⟨RX6, TX6, 13, rfl, by decide, inX6, (TB_1 117 rfl rfl), rfl⟩
set_option maxRecDepth 100000 in
theorem fl_X6_42 : FL RX6 42 8 6 := ⟨RX6, TX6, 13, "TrackNights", rfl, by decide, inX6, Or.inl (TB_1 118 rfl rfl), Or.inl rfl⟩
set_option maxRecDepth 100000 in
theorem flp_X6_42 : FLP RX6 42 8 6 := ⟨RX6, TX6, 13, rfl, by decide, inX6, (TB_1 118 rfl rfl), rfl⟩
set_option maxRecDepth 100000 in
theorem fl_X6_46 : FL RX6 46 8 7 := ⟨RX6, TX6, 13, "TrackNights", rfl, by decide, inX6, Or.inl (TB_1 119 rfl rfl), Or.inl rfl⟩
set_option maxRecDepth 100000 in
theorem flp_X6_46 : FLP RX6 46 8 7 := ⟨RX6, TX6, 13, rfl, by decide, inX6, (TB_1 119 rfl rfl), rfl⟩
set_option maxRecDepth 100000 in
theorem fl_X6_49 : FL RX6 49 8 8 := ⟨RX6, TX6, 13, "TrackNights", rfl, by decide, inX6, Or.inl (TB_1 120 rfl rfl), Or.inl rfl⟩
set_option maxRecDepth 100000 in
theorem flp_X6_49 : FLP RX6 49 8 8 := ⟨RX6, TX6, 13, rfl, by decide, inX6, (TB_1 120 rfl rfl), rfl⟩
set_option maxRecDepth 100000 in
theorem fl_X6_52 : FL RX6 52 8 9 := ⟨RX6, TX6, 13, "TrackNights", rfl, by decide, inX6, Or.inl (TB_1 121 rfl rfl), Or.inl rfl⟩
set_option maxRecDepth 100000 in
theorem flp_X6_52 : FLP RX6 52 8 9 := ⟨RX6, TX6, 13, rfl, by decide, inX6, (TB_1 121 rfl rfl), rfl⟩
set_option maxRecDepth 100000 in
theorem fl_X6_55 : FL RX6 55 8 10 := ⟨RX6, TX6, 13, "TrackNights", rfl, by decide, inX6, Or.inl (TB_1 122 rfl rfl), Or.inl rfl⟩
set_option maxRecDepth 100000 in
theorem flp_X6_55 : FLP RX6 55 8 10 := ⟨RX6, TX6, 13, rfl, by decide, inX6, (TB_1 122 rfl rfl), rfl⟩
set_option maxRecDepth 100000 in
theorem fl_X6_58 : FL RX6 58 8 11 := ⟨RX6, TX6, 13, "TrackNights", rfl, by decide, inX6, Or.inl (TB_1 123 rfl rfl), Or.inl rfl⟩
set_option maxRecDepth 100000 in
theorem flp_X6_58 : FLP RX6 58 8 11 := ⟨RX6, TX6, 13, rfl, by decide, inX6, (TB_1 123 rfl rfl), rfl⟩
set_option maxRecDepth 100000 in
theorem fl_X6_61 : FL RX6 61 8 12 := ⟨RX6, TX6, 13, "TrackNights", rfl, by decide, inX6, Or.inl (TB_1 124 rfl rfl), Or.inl rfl⟩
set_option maxRecDepth 100000 in
theorem flp_X6_61 : FLP RX6 61 8 12 := ⟨RX6, TX6, 13, rfl, by decide, inX6, (TB_1 124 rfl rfl), rfl⟩
set_option maxRecDepth 100000 in
theorem fl_X1_21 : FL RX1 21 3 0 := ⟨RX1, TX1, 4, "TrackNights$Measure", rfl, by decide, inX1, Or.inl (TB_2 162 rfl rfl), Or.inl rfl⟩
set_option maxRecDepth 100000 in
theorem flp_X1_21 : FLP RX1 21 3 0 := ⟨RX1, TX1, 4, rfl, by decide, inX1, (TB_2 162 rfl rfl), rfl⟩
set_option maxRecDepth 100000 in
theorem fl_X1_25 : FL RX1 25 3 1 := ⟨RX1, TX1, 4, "TrackNights$Measure", rfl, by decide, inX1, Or.inl (TB_2 163 rfl rfl), Or.inl rfl⟩
set_option maxRecDepth 100000 in
theorem flp_X1_25 : FLP RX1 25 3 1 := ⟨RX1, TX1, 4, rfl, by decide, inX1, (TB_2 163 rfl rfl), rfl⟩
set_option maxRecDepth 100000 in
theorem fl_X1_9 : FL RX1 9 3 2 := ⟨RX1, TX1, 4, "TrackNights$Measure", rfl, by decide, inX1, Or.inl (TB_2 164 rfl rfl), Or.inl rfl⟩
set_option maxRecDepth 100000 in
theorem flp_X1_9 : FLP RX1 9 3 2 := ⟨RX1, TX1, 4, rfl, by decide, inX1, (TB_2 164 rfl rfl), rfl⟩
set_option maxRecDepth 100000 in
theorem fl_X1_17 : FL RX1 17 3 3 := ⟨RX1, TX1, 4, "TrackNights$Measure", rfl, by decide, inX1, Or.inl (TB_2 166 rfl rfl), Or.inl rfl⟩
set_option maxRecDepth 100000 in
theorem flp_X1_17 : FLP RX1 17 3 3 := ⟨RX1, TX1, 4, rfl, by decide, inX1, (TB_2 166 rfl rfl), rfl⟩
set_option maxRecDepth 100000 in
theorem fl_X0_16 : FL RX0 16 2 0 := ⟨RX0, TX0, 4, "TrackNights$Machine", rfl, by decide, inX0, Or.inl (TB_3 7 rfl rfl), Or.inl rfl⟩
set_option maxRecDepth 100000 in
theorem flp_X0_16 : FLP RX0 16 2 0 := ⟨RX0, TX0, 4, rfl, by decide, inX0, (TB_3 7 rfl rfl), rfl⟩
set_option maxRecDepth 100000 in
theorem fl_X0_19 : FL RX0 19 2 1 := ⟨RX0, TX0, 4, "TrackNights$Machine", rfl, by decide, inX0, Or.inl (TB_3 9 rfl rfl), Or.inl rfl⟩
set_option maxRecDepth 100000 in
theorem flp_X0_19 : FLP RX0 19 2 1 := ⟨RX0, TX0, 4, rfl, by decide, inX0, (TB_3 9 rfl rfl), rfl⟩
set_option maxRecDepth 100000 in
theorem fl_X0_7 : FL RX0 7 2 2 := ⟨RX0, TX0, 4, "TrackNights$Machine", rfl, by decide, inX0, Or.inl (TB_3 12 rfl rfl), Or.inl rfl⟩
set_option maxRecDepth 100000 in
theorem flp_X0_7 : FLP RX0 7 2 2 := ⟨RX0, TX0, 4, rfl, by decide, inX0, (TB_3 12 rfl rfl), rfl⟩
set_option maxRecDepth 100000 in
theorem fl_X0_13 : FL RX0 13 2 3 := ⟨RX0, TX0, 4, "TrackNights$Machine", rfl, by decide, inX0, Or.inl (TB_3 14 rfl rfl), Or.inl rfl⟩
set_option maxRecDepth 100000 in
theorem flp_X0_13 : FLP RX0 13 2 3 := ⟨RX0, TX0, 4, rfl, by decide, inX0, (TB_3 14 rfl rfl), rfl⟩
set_option maxRecDepth 100000 in
theorem fl_X2_32 : FL RX2 32 4 0 := ⟨RX2, TX2, 10, "TrackNights$Possession", rfl, by decide, inX2, Or.inl (TB_3 48 rfl rfl), Or.inl rfl⟩
set_option maxRecDepth 100000 in
theorem flp_X2_32 : FLP RX2 32 4 0 := ⟨RX2, TX2, 10, rfl, by decide, inX2, (TB_3 48 rfl rfl), rfl⟩
set_option maxRecDepth 100000 in
theorem fl_X2_35 : FL RX2 35 4 1 := ⟨RX2, TX2, 10, "TrackNights$Possession", rfl, by decide, inX2, Or.inl (TB_3 50 rfl rfl), Or.inl rfl⟩
set_option maxRecDepth 100000 in
theorem flp_X2_35 : FLP RX2 35 4 1 := ⟨RX2, TX2, 10, rfl, by decide, inX2, (TB_3 50 rfl rfl), rfl⟩
set_option maxRecDepth 100000 in
theorem fl_X2_38 : FL RX2 38 4 2 := ⟨RX2, TX2, 10, "TrackNights$Possession", rfl, by decide, inX2, Or.inl (TB_3 52 rfl rfl), Or.inl rfl⟩
set_option maxRecDepth 100000 in
theorem flp_X2_38 : FLP RX2 38 4 2 := ⟨RX2, TX2, 10, rfl, by decide, inX2, (TB_3 52 rfl rfl), rfl⟩
set_option maxRecDepth 100000 in
theorem fl_X2_41 : FL RX2 41 4 3 := ⟨RX2, TX2, 10, "TrackNights$Possession", rfl, by decide, inX2, Or.inl (TB_3 54 rfl rfl), Or.inl rfl⟩
set_option maxRecDepth 100000 in
theorem flp_X2_41 : FLP RX2 41 4 3 := ⟨RX2, TX2, 10, rfl, by decide, inX2, (TB_3 54 rfl rfl), rfl⟩
set_option maxRecDepth 100000 in
theorem fl_X2_44 : FL RX2 44 4 4 := ⟨RX2, TX2, 10, "TrackNights$Possession", rfl, by decide, inX2, Or.inl (TB_3 56 rfl rfl), Or.inl rfl⟩
set_option maxRecDepth 100000 in
theorem flp_X2_44 : FLP RX2 44 4 4 := ⟨RX2, TX2, 10, rfl, by decide, inX2, (TB_3 56 rfl rfl), rfl⟩
set_option maxRecDepth 100000 in
theorem fl_X2_12 : FL RX2 12 4 5 := ⟨RX2, TX2, 10, "TrackNights$Possession", rfl, by decide, inX2, Or.inl (TB_3 58 rfl rfl), Or.inl rfl⟩
set_option maxRecDepth 100000 in
theorem flp_X2_12 : FLP RX2 12 4 5 := ⟨RX2, TX2, 10, rfl, by decide, inX2, (TB_3 58 rfl rfl), rfl⟩
set_option maxRecDepth 100000 in
theorem fl_X2_18 : FL RX2 18 4 6 := ⟨RX2, TX2, 10, "TrackNights$Possession", rfl, by decide, inX2, Or.inl (TB_3 60 rfl rfl), Or.inl rfl⟩
set_option maxRecDepth 100000 in
theorem flp_X2_18 : FLP RX2 18 4 6 := ⟨RX2, TX2, 10, rfl, by decide, inX2, (TB_3 60 rfl rfl), rfl⟩
set_option maxRecDepth 100000 in
theorem fl_X2_22 : FL RX2 22 4 7 := ⟨RX2, TX2, 10, "TrackNights$Possession", rfl, by decide, inX2, Or.inl (TB_3 62 rfl rfl), Or.inl rfl⟩
set_option maxRecDepth 100000 in
theorem flp_X2_22 : FLP RX2 22 4 7 := ⟨RX2, TX2, 10, rfl, by decide, inX2, (TB_3 62 rfl rfl), rfl⟩
set_option maxRecDepth 100000 in
theorem fl_X2_26 : FL RX2 26 4 8 := ⟨RX2, TX2, 10, "TrackNights$Possession", rfl, by decide, inX2, Or.inl (TB_3 63 rfl rfl), Or.inl rfl⟩
set_option maxRecDepth 100000 in
theorem flp_X2_26 : FLP RX2 26 4 8 := ⟨RX2, TX2, 10, rfl, by decide, inX2, (TB_3 63 rfl rfl), rfl⟩
set_option maxRecDepth 100000 in
theorem fl_X2_29 : FL RX2 29 4 9 := ⟨RX2, TX2, 10, "TrackNights$Possession", rfl, by decide, inX2, Or.inl (TB_3 64 rfl rfl), Or.inl rfl⟩
set_option maxRecDepth 100000 in
theorem flp_X2_29 : FLP RX2 29 4 9 := ⟨RX2, TX2, 10, rfl, by decide, inX2, (TB_3 64 rfl rfl), rfl⟩
set_option maxRecDepth 100000 in
theorem fl_X5_7 : FL RX5 7 7 0 := ⟨RX5, TX5, 3, "TrackNights$Work", rfl, by decide, inX5, Or.inl (TB_4 75 rfl rfl), Or.inl rfl⟩
set_option maxRecDepth 100000 in
theorem flp_X5_7 : FLP RX5 7 7 0 := ⟨RX5, TX5, 3, rfl, by decide, inX5, (TB_4 75 rfl rfl), rfl⟩
set_option maxRecDepth 100000 in
theorem fl_X5_13 : FL RX5 13 7 1 := ⟨RX5, TX5, 3, "TrackNights$Work", rfl, by decide, inX5, Or.inl (TB_4 77 rfl rfl), Or.inl rfl⟩
set_option maxRecDepth 100000 in
theorem flp_X5_13 : FLP RX5 13 7 1 := ⟨RX5, TX5, 3, rfl, by decide, inX5, (TB_4 77 rfl rfl), rfl⟩
set_option maxRecDepth 100000 in
theorem fl_X5_17 : FL RX5 17 7 2 := ⟨RX5, TX5, 3, "TrackNights$Work", rfl, by decide, inX5, Or.inl (TB_4 80 rfl rfl), Or.inl rfl⟩
set_option maxRecDepth 100000 in
theorem flp_X5_17 : FLP RX5 17 7 2 := ⟨RX5, TX5, 3, rfl, by decide, inX5, (TB_4 80 rfl rfl), rfl⟩
set_option maxRecDepth 100000 in
theorem fl_X3_34 : FL RX3 34 6 0 := ⟨RX4, TX4, 3, "TrackNights$Values", rfl, by decide, inX4, Or.inr ⟨"TrackNights", (NB_1 66 rfl rfl)⟩, Or.inl rfl⟩
set_option maxRecDepth 100000 in
theorem fl_X1_31 : FL RX1 31 6 0 := ⟨RX4, TX4, 3, "TrackNights$Values", rfl, by decide, inX4, Or.inr ⟨"TrackNights", (NB_1 67 rfl rfl)⟩, Or.inl rfl⟩
set_option maxRecDepth 100000 in
theorem fl_X6_274 : FL RX6 274 6 0 := ⟨RX4, TX4, 3, "TrackNights$Values", rfl, by decide, inX4, Or.inr ⟨"TrackNights", (NB_1 68 rfl rfl)⟩, Or.inl rfl⟩
set_option maxRecDepth 100000 in
theorem fl_X1_28 : FL RX1 28 6 1 := ⟨RX4, TX4, 3, "TrackNights$Values", rfl, by decide, inX4, Or.inr ⟨"TrackNights", (NB_1 70 rfl rfl)⟩, Or.inl rfl⟩
set_option maxRecDepth 100000 in
theorem fl_X3_37 : FL RX3 37 6 1 := ⟨RX4, TX4, 3, "TrackNights$Values", rfl, by decide, inX4, Or.inr ⟨"TrackNights", (NB_1 71 rfl rfl)⟩, Or.inl rfl⟩
set_option maxRecDepth 100000 in
theorem fl_X6_277 : FL RX6 277 6 1 := ⟨RX4, TX4, 3, "TrackNights$Values", rfl, by decide, inX4, Or.inr ⟨"TrackNights", (NB_1 72 rfl rfl)⟩, Or.inl rfl⟩
set_option maxRecDepth 100000 in
theorem fl_X3_40 : FL RX3 40 6 2 := ⟨RX4, TX4, 3, "TrackNights$Values", rfl, by decide, inX4, Or.inr ⟨"TrackNights", (NB_1 74 rfl rfl)⟩, Or.inl rfl⟩
set_option maxRecDepth 100000 in
theorem fl_X1_34 : FL RX1 34 6 2 := ⟨RX4, TX4, 3, "TrackNights$Values", rfl, by decide, inX4, Or.inr ⟨"TrackNights", (NB_1 75 rfl rfl)⟩, Or.inl rfl⟩
set_option maxRecDepth 100000 in
theorem fl_X6_280 : FL RX6 280 6 2 := ⟨RX4, TX4, 3, "TrackNights$Values", rfl, by decide, inX4, Or.inr ⟨"TrackNights", (NB_1 76 rfl rfl)⟩, Or.inl rfl⟩
set_option maxRecDepth 100000 in
theorem fl_X6_114 : FL RX6 114 5 0 := ⟨RX3, TX3, 5, "TrackNights$Section", rfl, by decide, inX3, Or.inr ⟨"TrackNights", (NB_1 92 rfl rfl)⟩, Or.inl rfl⟩
set_option maxRecDepth 100000 in
theorem fl_X6_283 : FL RX6 283 5 1 := ⟨RX3, TX3, 5, "TrackNights$Section", rfl, by decide, inX3, Or.inr ⟨"TrackNights", (NB_1 94 rfl rfl)⟩, Or.inl rfl⟩
set_option maxRecDepth 100000 in
theorem fl_X6_286 : FL RX6 286 5 2 := ⟨RX3, TX3, 5, "TrackNights$Section", rfl, by decide, inX3, Or.inr ⟨"TrackNights", (NB_1 96 rfl rfl)⟩, Or.inl rfl⟩
set_option maxRecDepth 100000 in
theorem fl_X6_68 : FL RX6 68 5 3 := ⟨RX3, TX3, 5, "TrackNights$Section", rfl, by decide, inX3, Or.inr ⟨"TrackNights", (NB_1 98 rfl rfl)⟩, Or.inl rfl⟩
set_option maxRecDepth 100000 in
theorem fl_X6_79 : FL RX6 79 5 4 := ⟨RX3, TX3, 5, "TrackNights$Section", rfl, by decide, inX3, Or.inr ⟨"TrackNights", (NB_1 100 rfl rfl)⟩, Or.inl rfl⟩
set_option maxRecDepth 100000 in
theorem fl_X6_134 : FL RX6 134 3 2 := ⟨RX1, TX1, 4, "TrackNights$Measure", rfl, by decide, inX1, Or.inr ⟨"TrackNights", (NB_2 165 rfl rfl)⟩, Or.inl rfl⟩
set_option maxRecDepth 100000 in
theorem fl_X6_201 : FL RX6 201 2 0 := ⟨RX0, TX0, 4, "TrackNights$Machine", rfl, by decide, inX0, Or.inr ⟨"TrackNights", (NB_3 8 rfl rfl)⟩, Or.inl rfl⟩
set_option maxRecDepth 100000 in
theorem fl_X2_62 : FL RX2 62 2 1 := ⟨RX0, TX0, 4, "TrackNights$Machine", rfl, by decide, inX0, Or.inr ⟨"TrackNights", (NB_3 10 rfl rfl)⟩, Or.inl rfl⟩
set_option maxRecDepth 100000 in
theorem fl_X6_161 : FL RX6 161 2 1 := ⟨RX0, TX0, 4, "TrackNights$Machine", rfl, by decide, inX0, Or.inr ⟨"TrackNights", (NB_3 11 rfl rfl)⟩, Or.inl rfl⟩
set_option maxRecDepth 100000 in
theorem fl_X6_309 : FL RX6 309 2 2 := ⟨RX0, TX0, 4, "TrackNights$Machine", rfl, by decide, inX0, Or.inr ⟨"TrackNights", (NB_3 13 rfl rfl)⟩, Or.inl rfl⟩
set_option maxRecDepth 100000 in
theorem fl_X6_312 : FL RX6 312 2 3 := ⟨RX0, TX0, 4, "TrackNights$Machine", rfl, by decide, inX0, Or.inr ⟨"TrackNights", (NB_3 15 rfl rfl)⟩, Or.inl rfl⟩
set_option maxRecDepth 100000 in
theorem fl_X6_317 : FL RX6 317 4 0 := ⟨RX2, TX2, 10, "TrackNights$Possession", rfl, by decide, inX2, Or.inr ⟨"TrackNights", (NB_3 49 rfl rfl)⟩, Or.inl rfl⟩
set_option maxRecDepth 100000 in
theorem fl_X6_250 : FL RX6 250 4 1 := ⟨RX2, TX2, 10, "TrackNights$Possession", rfl, by decide, inX2, Or.inr ⟨"TrackNights", (NB_3 51 rfl rfl)⟩, Or.inl rfl⟩
set_option maxRecDepth 100000 in
theorem fl_X6_247 : FL RX6 247 4 2 := ⟨RX2, TX2, 10, "TrackNights$Possession", rfl, by decide, inX2, Or.inr ⟨"TrackNights", (NB_3 53 rfl rfl)⟩, Or.inl rfl⟩
set_option maxRecDepth 100000 in
theorem fl_X6_227 : FL RX6 227 4 3 := ⟨RX2, TX2, 10, "TrackNights$Possession", rfl, by decide, inX2, Or.inr ⟨"TrackNights", (NB_3 55 rfl rfl)⟩, Or.inl rfl⟩
set_option maxRecDepth 100000 in
theorem fl_X6_211 : FL RX6 211 4 4 := ⟨RX2, TX2, 10, "TrackNights$Possession", rfl, by decide, inX2, Or.inr ⟨"TrackNights", (NB_3 57 rfl rfl)⟩, Or.inl rfl⟩
set_option maxRecDepth 100000 in
theorem fl_X6_196 : FL RX6 196 4 5 := ⟨RX2, TX2, 10, "TrackNights$Possession", rfl, by decide, inX2, Or.inr ⟨"TrackNights", (NB_3 59 rfl rfl)⟩, Or.inl rfl⟩
set_option maxRecDepth 100000 in
theorem fl_X6_191 : FL RX6 191 4 6 := ⟨RX2, TX2, 10, "TrackNights$Possession", rfl, by decide, inX2, Or.inr ⟨"TrackNights", (NB_3 61 rfl rfl)⟩, Or.inl rfl⟩
set_option maxRecDepth 100000 in
theorem fl_X6_259 : FL RX6 259 4 9 := ⟨RX2, TX2, 10, "TrackNights$Possession", rfl, by decide, inX2, Or.inr ⟨"TrackNights", (NB_3 65 rfl rfl)⟩, Or.inl rfl⟩
set_option maxRecDepth 100000 in
theorem fl_X6_457 : FL RX6 457 7 0 := ⟨RX5, TX5, 3, "TrackNights$Work", rfl, by decide, inX5, Or.inr ⟨"TrackNights", (NB_4 76 rfl rfl)⟩, Or.inl rfl⟩
set_option maxRecDepth 100000 in
theorem fl_X2_57 : FL RX2 57 7 1 := ⟨RX5, TX5, 3, "TrackNights$Work", rfl, by decide, inX5, Or.inr ⟨"TrackNights", (NB_4 78 rfl rfl)⟩, Or.inl rfl⟩
set_option maxRecDepth 100000 in
theorem fl_X6_452 : FL RX6 452 7 1 := ⟨RX5, TX5, 3, "TrackNights$Work", rfl, by decide, inX5, Or.inr ⟨"TrackNights", (NB_4 79 rfl rfl)⟩, Or.inl rfl⟩
set_option maxRecDepth 100000 in
theorem fl_X2_61 : FL RX2 61 7 2 := ⟨RX5, TX5, 3, "TrackNights$Work", rfl, by decide, inX5, Or.inr ⟨"TrackNights", (NB_4 81 rfl rfl)⟩, Or.inl rfl⟩
set_option maxRecDepth 100000 in
theorem fl_X6_456 : FL RX6 456 7 2 := ⟨RX5, TX5, 3, "TrackNights$Work", rfl, by decide, inX5, Or.inr ⟨"TrackNights", (NB_4 82 rfl rfl)⟩, Or.inl rfl⟩
set_option maxRecDepth 100000 in
theorem nw_L_9 : NW RL 9 8 13 [.null, .null, .null, .null, .null, .null, .int 0, .int 0, .int 0, .int 0, .int 0, .int 0, .int 0] := ⟨RX6, TX6, tyX6, rfl, inX6, by decide +kernel, (TB_1 23 rfl rfl), (TB_1 24 rfl rfl), (TB_1 1 rfl rfl), by intro j hj; match j, hj with | 0, _ => rfl | 1, _ => rfl | 2, _ => rfl | 3, _ => rfl | 4, _ => rfl | 5, _ => rfl | 6, _ => rfl | 7, _ => rfl | 8, _ => rfl | 9, _ => rfl | 10, _ => rfl | 11, _ => rfl | 12, _ => rfl | n + 13, h => exact absurd h (by omega)⟩
set_option maxRecDepth 100000 in
theorem nw_X6_9 : NW RX6 9 5 5 [.null, .int 0, .int 0, .int 0, .int 0] := ⟨RX3, TX3, tyX3, rfl, inX3, by decide +kernel, (TB_1 31 rfl rfl), (TB_1 84 rfl rfl), (TB_1 6 rfl rfl), by intro j hj; match j, hj with | 0, _ => rfl | 1, _ => rfl | 2, _ => rfl | 3, _ => rfl | 4, _ => rfl | n + 5, h => exact absurd h (by omega)⟩
set_option maxRecDepth 100000 in
theorem nw_X6_15 : NW RX6 15 1 3 [.int 0, .null, .int 0] := ⟨RJx4a65c, TJx4a65c, tyJx4a65c, rfl, inJx4a65c, by decide +kernel, (TB_1 33 rfl rfl), (TB_1 34 rfl rfl), (TB_1 4 rfl rfl), by intro j hj; match j, hj with | 0, _ => rfl | 1, _ => rfl | 2, _ => rfl | n + 3, h => exact absurd h (by omega)⟩
set_option maxRecDepth 100000 in
theorem nw_X6_28 : NW RX6 28 6 3 [.int 0, .int 0, .int 0] := ⟨RX4, TX4, tyX4, rfl, inX4, by decide +kernel, (TB_1 59 rfl rfl), (TB_1 60 rfl rfl), (TB_1 5 rfl rfl), by intro j hj; match j, hj with | 0, _ => rfl | 1, _ => rfl | 2, _ => rfl | n + 3, h => exact absurd h (by omega)⟩
set_option maxRecDepth 100000 in
theorem nw_X3_9 : NW RX3 9 6 3 [.int 0, .int 0, .int 0] := ⟨RX4, TX4, tyX4, rfl, inX4, by decide +kernel, (TB_1 89 rfl rfl), (TB_1 60 rfl rfl), (TB_1 5 rfl rfl), by intro j hj; match j, hj with | 0, _ => rfl | 1, _ => rfl | 2, _ => rfl | n + 3, h => exact absurd h (by omega)⟩
set_option maxRecDepth 100000 in
theorem nw_X6_176 : NW RX6 176 4 10 [.int 0, .int 0, .int 0, .int 0, .int 0, .null, .int 0, .int 0, .int 0, .int 0] := ⟨RX2, TX2, tyX2, rfl, inX2, by decide +kernel, (TB_2 65 rfl rfl), (TB_3 41 rfl rfl), (TB_1 20 rfl rfl), by intro j hj; match j, hj with | 0, _ => rfl | 1, _ => rfl | 2, _ => rfl | 3, _ => rfl | 4, _ => rfl | 5, _ => rfl | 6, _ => rfl | 7, _ => rfl | 8, _ => rfl | 9, _ => rfl | n + 10, h => exact absurd h (by omega)⟩
set_option maxRecDepth 100000 in
theorem nw_X6_148 : NW RX6 148 2 4 [.int 0, .int 0, .int 0, .int 0] := ⟨RX0, TX0, tyX0, rfl, inX0, by decide +kernel, (TB_2 74 rfl rfl), (TB_3 2 rfl rfl), (TB_1 16 rfl rfl), by intro j hj; match j, hj with | 0, _ => rfl | 1, _ => rfl | 2, _ => rfl | 3, _ => rfl | n + 4, h => exact absurd h (by omega)⟩
set_option maxRecDepth 100000 in
theorem nw_X2_55 : NW RX2 55 7 3 [.null, .null, .int 0] := ⟨RX5, TX5, tyX5, rfl, inX5, by decide +kernel, (TB_2 81 rfl rfl), (TB_4 70 rfl rfl), (TB_1 21 rfl rfl), by intro j hj; match j, hj with | 0, _ => rfl | 1, _ => rfl | 2, _ => rfl | n + 3, h => exact absurd h (by omega)⟩
set_option maxRecDepth 100000 in
theorem nw_X6_222 : NW RX6 222 7 3 [.null, .null, .int 0] := ⟨RX5, TX5, tyX5, rfl, inX5, by decide +kernel, (TB_2 82 rfl rfl), (TB_4 70 rfl rfl), (TB_1 21 rfl rfl), by intro j hj; match j, hj with | 0, _ => rfl | 1, _ => rfl | 2, _ => rfl | n + 3, h => exact absurd h (by omega)⟩
set_option maxRecDepth 100000 in
theorem nw_X6_110 : NW RX6 110 3 4 [.int 0, .int 0, .int 0, .null] := ⟨RX1, TX1, tyX1, rfl, inX1, by decide +kernel, (TB_2 154 rfl rfl), (TB_2 155 rfl rfl), (TB_1 22 rfl rfl), by intro j hj; match j, hj with | 0, _ => rfl | 1, _ => rfl | 2, _ => rfl | 3, _ => rfl | n + 4, h => exact absurd h (by omega)⟩
set_option maxRecDepth 100000 in
theorem nw_X1_15 : NW RX1 15 6 3 [.int 0, .int 0, .int 0] := ⟨RX4, TX4, tyX4, rfl, inX4, by decide +kernel, (TB_2 160 rfl rfl), (TB_1 60 rfl rfl), (TB_1 5 rfl rfl), by intro j hj; match j, hj with | 0, _ => rfl | 1, _ => rfl | 2, _ => rfl | n + 3, h => exact absurd h (by omega)⟩
set_option maxRecDepth 100000 in
theorem nw_X2_9 : NW RX2 9 1 3 [.int 0, .null, .int 0] := ⟨RJx4a65c, TJx4a65c, tyJx4a65c, rfl, inJx4a65c, by decide +kernel, (TB_3 46 rfl rfl), (TB_1 34 rfl rfl), (TB_1 4 rfl rfl), by intro j hj; match j, hj with | 0, _ => rfl | 1, _ => rfl | 2, _ => rfl | n + 3, h => exact absurd h (by omega)⟩
set_option maxRecDepth 100000 in
theorem lk_L_11 : LkI RL 11 yX6_init cX6_init 2 0 := ⟨(TB_1 25 rfl rfl), (TB_1 26 rfl rfl), (TB_1 1 rfl rfl), (TB_1 27 rfl rfl), ⟨⟨by decide, by decide⟩, by decide +kernel⟩, rfl⟩
set_option maxRecDepth 100000 in
theorem lk_X6_17 : LkI RX6 17 yJx4a65c_init_da8c8 cJx4a65c_init_da8c8 1 0 := ⟨(TB_1 35 rfl rfl), (TB_1 36 rfl rfl), (TB_1 4 rfl rfl), (TB_1 37 rfl rfl), ⟨⟨by decide, by decide⟩, by decide +kernel⟩, rfl⟩
set_option maxRecDepth 100000 in
theorem lk_Jx4a65c_1 : LkI RJx4a65c 1 yJxc12de_init_da8c8 cJxc12de_init_da8c8 1 0 := ⟨(TB_1 38 rfl rfl), (TB_1 39 rfl rfl), (TB_1 3 rfl rfl), (TB_1 40 rfl rfl), ⟨⟨by decide, by decide⟩, by decide +kernel⟩, rfl⟩
set_option maxRecDepth 100000 in
theorem lk_Jxc12de_1 : LkI RJxc12de 1 yJxa1e45_init_da8c8 cJxa1e45_init_da8c8 1 0 := ⟨(TB_1 41 rfl rfl), (TB_1 42 rfl rfl), (TB_1 2 rfl rfl), (TB_1 43 rfl rfl), ⟨⟨by decide, by decide⟩, by decide +kernel⟩, rfl⟩
set_option maxRecDepth 100000 in
theorem lk_X6_30 : LkI RX6 30 yX4_init cX4_init 4 3 := ⟨(TB_1 61 rfl rfl), (TB_1 62 rfl rfl), (TB_1 5 rfl rfl), (TB_1 63 rfl rfl), ⟨⟨by decide, by decide⟩, by decide +kernel⟩, rfl⟩
set_option maxRecDepth 100000 in
theorem lk_X3_11 : LkI RX3 11 yX4_init cX4_init 4 3 := ⟨(TB_1 90 rfl rfl), (TB_1 62 rfl rfl), (TB_1 5 rfl rfl), (TB_1 63 rfl rfl), ⟨⟨by decide, by decide⟩, by decide +kernel⟩, rfl⟩
set_option maxRecDepth 100000 in
theorem lk_L_32 : LkV RL 32 yX6_curve cX6_curve 5 (some .boolean) 2 8 := ⟨(TB_1 152 rfl rfl), (TB_1 153 rfl rfl), (TB_1 154 rfl rfl), (TB_1 1 rfl rfl), (TB_1 155 rfl rfl), ⟨⟨by decide, by decide⟩, by decide +kernel⟩, TX6, 13, rfl⟩
set_option maxRecDepth 100000 in
theorem lk_X6_64 : LkV RX6 64 yX6_sectionAt cX6_sectionAt 2 (some (.object "TrackNights$Section")) 1 8 := ⟨(TB_1 156 rfl rfl), (TB_1 158 rfl rfl), (TB_of 0 rfl rfl), (TB_1 1 rfl rfl), (TB_1 159 rfl rfl), ⟨⟨by decide, by decide⟩, by decide +kernel⟩, TX6, 13, rfl⟩
set_option maxRecDepth 100000 in
theorem lk_X6_340 : LkV RX6 340 yX6_checkSection cX6_checkSection 2 none 1 8 := ⟨(TB_1 160 rfl rfl), (TB_1 162 rfl rfl), (TB_of 1 rfl rfl), (TB_1 1 rfl rfl), (TB_1 163 rfl rfl), ⟨⟨by decide, by decide⟩, by decide +kernel⟩, TX6, 13, rfl⟩
set_option maxRecDepth 100000 in
theorem lk_L_39 : LkV RL 39 yX6_sign cX6_sign 5 (some .int) 2 8 := ⟨(TB_1 232 rfl rfl), (TB_1 233 rfl rfl), (TB_1 234 rfl rfl), (TB_1 1 rfl rfl), (TB_1 235 rfl rfl), ⟨⟨by decide, by decide⟩, by decide +kernel⟩, TX6, 13, rfl⟩
set_option maxRecDepth 100000 in
theorem lk_L_88 : LkV RL 88 yX6_pass cX6_pass 6 (some .int) 3 8 := ⟨(TB_2 12 rfl rfl), (TB_2 13 rfl rfl), (TB_2 14 rfl rfl), (TB_1 1 rfl rfl), (TB_2 15 rfl rfl), ⟨⟨by decide, by decide⟩, by decide +kernel⟩, TX6, 13, rfl⟩
set_option maxRecDepth 100000 in
theorem lk_X6_82 : LkV RX6 82 yX6_checkTrains cX6_checkTrains 2 none 1 8 := ⟨(TB_2 16 rfl rfl), (TB_2 18 rfl rfl), (TB_of 3 rfl rfl), (TB_1 1 rfl rfl), (TB_2 19 rfl rfl), ⟨⟨by decide, by decide⟩, by decide +kernel⟩, TX6, 13, rfl⟩
set_option maxRecDepth 100000 in
theorem lk_X6_95 : LkV RX6 95 yX6_passDay cX6_passDay 4 none 2 8 := ⟨(TB_2 39 rfl rfl), (TB_2 41 rfl rfl), (TB_of 4 rfl rfl), (TB_1 1 rfl rfl), (TB_2 42 rfl rfl), ⟨⟨by decide, by decide⟩, by decide +kernel⟩, TX6, 13, rfl⟩
set_option maxRecDepth 100000 in
theorem lk_X6_430 : LkV RX6 430 yX6_endNightsOf cX6_endNightsOf 4 none 1 8 := ⟨(TB_2 43 rfl rfl), (TB_2 45 rfl rfl), (TB_of 5 rfl rfl), (TB_1 1 rfl rfl), (TB_2 46 rfl rfl), ⟨⟨by decide, by decide⟩, by decide +kernel⟩, TX6, 13, rfl⟩
set_option maxRecDepth 100000 in
theorem lk_X6_104 : LkV RX6 104 yJx4a65c_size_8abf5 cJx4a65c_size_8abf5 1 (some .int) 0 1 := ⟨(TB_2 47 rfl rfl), (TB_2 48 rfl rfl), (TB_2 49 rfl rfl), (TB_1 4 rfl rfl), (TB_2 50 rfl rfl), ⟨⟨by decide, by decide⟩, by decide +kernel⟩, TJx4a65c, 3, rfl⟩
set_option maxRecDepth 100000 in
theorem lk_X6_130 : LkV RX6 130 yJx4a65c_get_915e3 cJx4a65c_get_915e3 2 (some (.object "java/lang/Object")) 1 1 := ⟨(TB_2 51 rfl rfl), (TB_2 52 rfl rfl), (TB_2 53 rfl rfl), (TB_1 4 rfl rfl), (TB_2 54 rfl rfl), ⟨⟨by decide, by decide⟩, by decide +kernel⟩, TJx4a65c, 3, rfl⟩
set_option maxRecDepth 100000 in
theorem lk_Jx4a65c_118 : LkS RJx4a65c 118 yJ15_checkIndex_7cf53 cJ15_checkIndex_7cf53 2 (some .int) 2 := ⟨(TB_2 55 rfl rfl), (TB_2 56 rfl rfl), (TB_1 13 rfl rfl), (TB_2 57 rfl rfl), ⟨⟨by decide, by decide⟩, by decide +kernel⟩⟩
set_option maxRecDepth 100000 in
theorem lk_J15_105 : LkS RJ15 105 yJ3_checkIndex_8e157 cJ3_checkIndex_8e157 3 (some .int) 3 := ⟨(TB_2 58 rfl rfl), (TB_2 59 rfl rfl), (TB_1 14 rfl rfl), (TB_2 60 rfl rfl), ⟨⟨by decide, by decide⟩, by decide +kernel⟩⟩
set_option maxRecDepth 100000 in
theorem lk_Jx4a65c_123 : LkV RJx4a65c 123 yJx4a65c_elementData_915e3 cJx4a65c_elementData_915e3 2 (some (.object "java/lang/Object")) 1 1 := ⟨(TB_2 61 rfl rfl), (TB_2 62 rfl rfl), (TB_2 63 rfl rfl), (TB_1 4 rfl rfl), (TB_2 64 rfl rfl), ⟨⟨by decide, by decide⟩, by decide +kernel⟩, TJx4a65c, 3, rfl⟩
set_option maxRecDepth 100000 in
theorem lk_X6_255 : LkV RX6 255 yX6_endNight cX6_endNight 5 none 2 8 := ⟨(TB_2 66 rfl rfl), (TB_2 68 rfl rfl), (TB_of 6 rfl rfl), (TB_1 1 rfl rfl), (TB_2 69 rfl rfl), ⟨⟨by decide, by decide⟩, by decide +kernel⟩, TX6, 13, rfl⟩
set_option maxRecDepth 100000 in
theorem lk_X6_368 : LkV RX6 368 yX6_hoursTaken cX6_hoursTaken 4 (some .int) 1 8 := ⟨(TB_2 70 rfl rfl), (TB_2 72 rfl rfl), (TB_of 7 rfl rfl), (TB_1 1 rfl rfl), (TB_2 73 rfl rfl), ⟨⟨by decide, by decide⟩, by decide +kernel⟩, TX6, 13, rfl⟩
set_option maxRecDepth 100000 in
theorem lk_X6_463 : LkV RX6 463 yX2_hoursTakenBy cX2_hoursTakenBy 7 (some .int) 1 4 := ⟨(TB_2 75 rfl rfl), (TB_2 76 rfl rfl), (TB_2 77 rfl rfl), (TB_1 20 rfl rfl), (TB_2 78 rfl rfl), ⟨⟨by decide, by decide⟩, by decide +kernel⟩, TX2, 10, rfl⟩
set_option maxRecDepth 100000 in
theorem lk_X2_47 : LkV RX2 47 yJx4a65c_size_8abf5 cJx4a65c_size_8abf5 1 (some .int) 0 1 := ⟨(TB_2 79 rfl rfl), (TB_2 48 rfl rfl), (TB_2 49 rfl rfl), (TB_1 4 rfl rfl), (TB_2 50 rfl rfl), ⟨⟨by decide, by decide⟩, by decide +kernel⟩, TJx4a65c, 3, rfl⟩
set_option maxRecDepth 100000 in
theorem lk_X2_51 : LkV RX2 51 yJx4a65c_get_915e3 cJx4a65c_get_915e3 2 (some (.object "java/lang/Object")) 1 1 := ⟨(TB_2 80 rfl rfl), (TB_2 52 rfl rfl), (TB_2 53 rfl rfl), (TB_1 4 rfl rfl), (TB_2 54 rfl rfl), ⟨⟨by decide, by decide⟩, by decide +kernel⟩, TJx4a65c, 3, rfl⟩
set_option maxRecDepth 100000 in
theorem lk_X6_448 : LkV RX6 448 yX6_carryOut cX6_carryOut 2 none 1 8 := ⟨(TB_2 83 rfl rfl), (TB_2 85 rfl rfl), (TB_of 8 rfl rfl), (TB_1 1 rfl rfl), (TB_2 86 rfl rfl), ⟨⟨by decide, by decide⟩, by decide +kernel⟩, TX6, 13, rfl⟩
set_option maxRecDepth 100000 in
theorem lk_X6_460 : LkV RX6 460 yX3_treat cX3_treat 3 none 2 5 := ⟨(TB_2 87 rfl rfl), (TB_2 88 rfl rfl), (TB_2 89 rfl rfl), (TB_1 6 rfl rfl), (TB_2 90 rfl rfl), ⟨⟨by decide, by decide⟩, by decide +kernel⟩, TX3, 5, rfl⟩
set_option maxRecDepth 100000 in
theorem lk_X3_60 : LkS RX3 60 yJ9_max_7cf53 cJ9_max_7cf53 2 (some .int) 2 := ⟨(TB_2 91 rfl rfl), (TB_2 92 rfl rfl), (TB_1 11 rfl rfl), (TB_2 93 rfl rfl), ⟨⟨by decide, by decide⟩, by decide +kernel⟩⟩
set_option maxRecDepth 100000 in
theorem lk_X3_50 : LkS RX3 50 yJ9_min_7cf53 cJ9_min_7cf53 2 (some .int) 2 := ⟨(TB_2 94 rfl rfl), (TB_2 95 rfl rfl), (TB_1 11 rfl rfl), (TB_2 96 rfl rfl), ⟨⟨by decide, by decide⟩, by decide +kernel⟩⟩
set_option maxRecDepth 100000 in
theorem lk_X6_372 : LkS RX6 372 yJ9_max_7cf53 cJ9_max_7cf53 2 (some .int) 2 := ⟨(TB_2 97 rfl rfl), (TB_2 92 rfl rfl), (TB_1 11 rfl rfl), (TB_2 93 rfl rfl), ⟨⟨by decide, by decide⟩, by decide +kernel⟩⟩
set_option maxRecDepth 100000 in
theorem lk_X6_353 : LkV RX6 353 yX3_bearDay cX3_bearDay 3 none 1 5 := ⟨(TB_2 98 rfl rfl), (TB_2 99 rfl rfl), (TB_2 100 rfl rfl), (TB_1 6 rfl rfl), (TB_2 101 rfl rfl), ⟨⟨by decide, by decide⟩, by decide +kernel⟩, TX3, 5, rfl⟩
set_option maxRecDepth 100000 in
theorem lk_X3_56 : LkV RX3 56 yX3_crackGrowth cX3_crackGrowth 1 (some .int) 0 5 := ⟨(TB_2 102 rfl rfl), (TB_2 104 rfl rfl), (TB_of 9 rfl rfl), (TB_1 6 rfl rfl), (TB_2 105 rfl rfl), ⟨⟨by decide, by decide⟩, by decide +kernel⟩, TX3, 5, rfl⟩
set_option maxRecDepth 100000 in
theorem lk_X6_433 : LkS RX6 433 yX6_delayCost cX6_delayCost 2 (some .int) 2 := ⟨(TB_2 106 rfl rfl), (TB_2 107 rfl rfl), (TB_1 1 rfl rfl), (TB_2 108 rfl rfl), ⟨⟨by decide, by decide⟩, by decide +kernel⟩⟩
set_option maxRecDepth 100000 in
theorem lk_X6_436 : LkV RX6 436 yX6_breakIfCracked cX6_breakIfCracked 2 none 1 8 := ⟨(TB_2 109 rfl rfl), (TB_2 111 rfl rfl), (TB_of 10 rfl rfl), (TB_1 1 rfl rfl), (TB_2 112 rfl rfl), ⟨⟨by decide, by decide⟩, by decide +kernel⟩, TX6, 13, rfl⟩
set_option maxRecDepth 100000 in
theorem lk_X6_350 : LkV RX6 350 yX3_isRisk cX3_isRisk 2 (some .boolean) 1 5 := ⟨(TB_2 113 rfl rfl), (TB_2 114 rfl rfl), (TB_2 115 rfl rfl), (TB_1 6 rfl rfl), (TB_2 116 rfl rfl), ⟨⟨by decide, by decide⟩, by decide +kernel⟩, TX3, 5, rfl⟩
set_option maxRecDepth 100000 in
theorem lk_X3_47 : LkV RX3 47 yX3_trueSpeed cX3_trueSpeed 2 (some .int) 1 5 := ⟨(TB_2 117 rfl rfl), (TB_2 118 rfl rfl), (TB_2 119 rfl rfl), (TB_1 6 rfl rfl), (TB_2 120 rfl rfl), ⟨⟨by decide, by decide⟩, by decide +kernel⟩, TX3, 5, rfl⟩
set_option maxRecDepth 100000 in
theorem lk_X3_43 : LkV RX3 43 yX4_speed cX4_speed 3 (some .int) 1 6 := ⟨(TB_2 121 rfl rfl), (TB_2 122 rfl rfl), (TB_2 123 rfl rfl), (TB_1 5 rfl rfl), (TB_2 124 rfl rfl), ⟨⟨by decide, by decide⟩, by decide +kernel⟩, TX4, 3, rfl⟩
set_option maxRecDepth 100000 in
theorem lk_X4_21 : LkV RX4 21 yX4_speedByWear cX4_speedByWear 1 (some .int) 0 6 := ⟨(TB_2 125 rfl rfl), (TB_2 127 rfl rfl), (TB_of 11 rfl rfl), (TB_1 5 rfl rfl), (TB_2 128 rfl rfl), ⟨⟨by decide, by decide⟩, by decide +kernel⟩, TX4, 3, rfl⟩
set_option maxRecDepth 100000 in
theorem lk_X4_25 : LkV RX4 25 yX4_speedByCrack cX4_speedByCrack 1 (some .int) 0 6 := ⟨(TB_2 129 rfl rfl), (TB_2 131 rfl rfl), (TB_of 12 rfl rfl), (TB_1 5 rfl rfl), (TB_2 132 rfl rfl), ⟨⟨by decide, by decide⟩, by decide +kernel⟩, TX4, 3, rfl⟩
set_option maxRecDepth 100000 in
theorem lk_X4_28 : LkS RX4 28 yJ9_min_7cf53 cJ9_min_7cf53 2 (some .int) 2 := ⟨(TB_2 133 rfl rfl), (TB_2 95 rfl rfl), (TB_1 11 rfl rfl), (TB_2 96 rfl rfl), ⟨⟨by decide, by decide⟩, by decide +kernel⟩⟩
set_option maxRecDepth 100000 in
theorem lk_X4_34 : LkV RX4 34 yX4_speedBySettle cX4_speedBySettle 1 (some .int) 0 6 := ⟨(TB_2 134 rfl rfl), (TB_2 136 rfl rfl), (TB_of 13 rfl rfl), (TB_1 5 rfl rfl), (TB_2 137 rfl rfl), ⟨⟨by decide, by decide⟩, by decide +kernel⟩, TX4, 3, rfl⟩
set_option maxRecDepth 100000 in
theorem lk_X4_37 : LkS RX4 37 yX4_speedByHeat cX4_speedByHeat 1 (some .int) 1 := ⟨(TB_2 138 rfl rfl), (TB_2 139 rfl rfl), (TB_1 5 rfl rfl), (TB_2 140 rfl rfl), ⟨⟨by decide, by decide⟩, by decide +kernel⟩⟩
set_option maxRecDepth 100000 in
theorem lk_L_84 : LkV RL 84 yX6_measure cX6_measure 8 (some .int) 4 8 := ⟨(TB_2 141 rfl rfl), (TB_2 142 rfl rfl), (TB_2 143 rfl rfl), (TB_1 1 rfl rfl), (TB_2 144 rfl rfl), ⟨⟨by decide, by decide⟩, by decide +kernel⟩, TX6, 13, rfl⟩
set_option maxRecDepth 100000 in
theorem lk_X6_99 : LkV RX6 99 yX6_checkStretch cX6_checkStretch 4 none 3 8 := ⟨(TB_2 145 rfl rfl), (TB_2 147 rfl rfl), (TB_of 14 rfl rfl), (TB_1 1 rfl rfl), (TB_2 148 rfl rfl), ⟨⟨by decide, by decide⟩, by decide +kernel⟩, TX6, 13, rfl⟩
set_option maxRecDepth 100000 in
theorem lk_X6_112 : LkI RX6 112 yX1_init cX1_init 3 2 := ⟨(TB_2 156 rfl rfl), (TB_2 157 rfl rfl), (TB_1 22 rfl rfl), (TB_2 158 rfl rfl), ⟨⟨by decide, by decide⟩, by decide +kernel⟩, rfl⟩
set_option maxRecDepth 100000 in
theorem lk_X6_117 : LkV RX6 117 yX1_write cX1_write 4 none 2 3 := ⟨(TB_2 176 rfl rfl), (TB_2 177 rfl rfl), (TB_2 178 rfl rfl), (TB_1 22 rfl rfl), (TB_2 179 rfl rfl), ⟨⟨by decide, by decide⟩, by decide +kernel⟩, TX1, 4, rfl⟩
set_option maxRecDepth 100000 in
theorem lk_X1_37 : LkI RX1 37 yX4_init cX4_init 4 3 := ⟨(TB_2 180 rfl rfl), (TB_1 62 rfl rfl), (TB_1 5 rfl rfl), (TB_1 63 rfl rfl), ⟨⟨by decide, by decide⟩, by decide +kernel⟩, rfl⟩
set_option maxRecDepth 100000 in
theorem lk_X6_121 : LkV RX6 121 yJx4a65c_add_9ea2d cJx4a65c_add_9ea2d 2 (some .boolean) 1 1 := ⟨(TB_2 181 rfl rfl), (TB_2 182 rfl rfl), (TB_2 183 rfl rfl), (TB_1 4 rfl rfl), (TB_2 184 rfl rfl), ⟨⟨by decide, by decide⟩, by decide +kernel⟩, TJx4a65c, 3, rfl⟩
set_option maxRecDepth 100000 in
theorem lk_Jx4a65c_131 : LkV RJx4a65c 131 yJx4a65c_add_72be8 cJx4a65c_add_72be8 4 none 3 1 := ⟨(TB_2 185 rfl rfl), (TB_2 187 rfl rfl), (TB_of 15 rfl rfl), (TB_1 4 rfl rfl), (TB_2 188 rfl rfl), ⟨⟨by decide, by decide⟩, by decide +kernel⟩, TJx4a65c, 3, rfl⟩
set_option maxRecDepth 100000 in
theorem lk_Jx4a65c_129 : LkV RJx4a65c 129 yJx4a65c_grow_d5877 cJx4a65c_grow_d5877 1 (some (.array (.object "java/lang/Object"))) 0 1 := ⟨(TB_2 189 rfl rfl), (TB_2 191 rfl rfl), (TB_of 16 rfl rfl), (TB_1 4 rfl rfl), (TB_2 192 rfl rfl), ⟨⟨by decide, by decide⟩, by decide +kernel⟩, TJx4a65c, 3, rfl⟩
set_option maxRecDepth 100000 in
theorem lk_Jx4a65c_69 : LkV RJx4a65c 69 yJx4a65c_grow_92f84 cJx4a65c_grow_92f84 4 (some (.array (.object "java/lang/Object"))) 1 1 := ⟨(TB_2 193 rfl rfl), (TB_2 195 rfl rfl), (TB_of 17 rfl rfl), (TB_1 4 rfl rfl), (TB_2 196 rfl rfl), ⟨⟨by decide, by decide⟩, by decide +kernel⟩, TJx4a65c, 3, rfl⟩
set_option maxRecDepth 100000 in
theorem lk_Jx4a65c_73 : LkS RJx4a65c 73 yJ8_newLength_cabcc cJ8_newLength_cabcc 4 (some .int) 3 := ⟨(TB_2 197 rfl rfl), (TB_2 198 rfl rfl), (TB_1 17 rfl rfl), (TB_2 199 rfl rfl), ⟨⟨by decide, by decide⟩, by decide +kernel⟩⟩
set_option maxRecDepth 100000 in
theorem lk_J8_194 : LkS RJ8 194 yJ9_max_7cf53 cJ9_max_7cf53 2 (some .int) 2 := ⟨(TB_2 200 rfl rfl), (TB_2 92 rfl rfl), (TB_1 11 rfl rfl), (TB_2 93 rfl rfl), ⟨⟨by decide, by decide⟩, by decide +kernel⟩⟩
set_option maxRecDepth 100000 in
theorem lk_J8_201 : LkS RJ8 201 yJ8_hugeLength_7cf53 cJ8_hugeLength_7cf53 3 (some .int) 2 := ⟨(TB_2 202 rfl rfl), (TB_2 203 rfl rfl), (TB_1 17 rfl rfl), (TB_2 204 rfl rfl), ⟨⟨by decide, by decide⟩, by decide +kernel⟩⟩
set_option maxRecDepth 100000 in
theorem lk_Jx4a65c_66 : LkS RJx4a65c 66 yJ7_copyOf_1904c cJ7_copyOf_1904c 2 (some (.array (.object "java/lang/Object"))) 2 := ⟨(TB_2 205 rfl rfl), (TB_2 206 rfl rfl), (TB_1 18 rfl rfl), (TB_2 207 rfl rfl), ⟨⟨by decide, by decide⟩, by decide +kernel⟩⟩
set_option maxRecDepth 100000 in
theorem lk_J7_300 : LkS RJ7 300 yJ7_copyOf_6403c cJ7_copyOf_6403c 4 (some (.array (.object "java/lang/Object"))) 3 := ⟨(TB_2 223 rfl rfl), (TB_2 224 rfl rfl), (TB_1 18 rfl rfl), (TB_2 225 rfl rfl), ⟨⟨by decide, by decide⟩, by decide +kernel⟩⟩
set_option maxRecDepth 100000 in
theorem lk_J7_304 : LkS RJ7 304 yJ9_min_7cf53 cJ9_min_7cf53 2 (some .int) 2 := ⟨(TB_2 229 rfl rfl), (TB_2 95 rfl rfl), (TB_1 11 rfl rfl), (TB_2 96 rfl rfl), ⟨⟨by decide, by decide⟩, by decide +kernel⟩⟩
set_option maxRecDepth 100000 in
theorem lk_Jx4a65c_79 : LkS RJx4a65c 79 yJ9_max_7cf53 cJ9_max_7cf53 2 (some .int) 2 := ⟨(TB_2 233 rfl rfl), (TB_2 92 rfl rfl), (TB_1 11 rfl rfl), (TB_2 93 rfl rfl), ⟨⟨by decide, by decide⟩, by decide +kernel⟩⟩
set_option maxRecDepth 100000 in
theorem lk_L_42 : LkV RL 42 yX6_machine cX6_machine 3 (some .int) 2 8 := ⟨(TB_2 235 rfl rfl), (TB_2 236 rfl rfl), (TB_2 237 rfl rfl), (TB_1 1 rfl rfl), (TB_2 238 rfl rfl), ⟨⟨by decide, by decide⟩, by decide +kernel⟩, TX6, 13, rfl⟩
set_option maxRecDepth 100000 in
theorem lk_X6_150 : LkI RX6 150 yX0_init cX0_init 3 2 := ⟨(TB_3 3 rfl rfl), (TB_3 4 rfl rfl), (TB_1 16 rfl rfl), (TB_3 5 rfl rfl), ⟨⟨by decide, by decide⟩, by decide +kernel⟩, rfl⟩
set_option maxRecDepth 100000 in
theorem lk_L_54 : LkV RL 54 yX6_book cX6_book 6 (some .int) 5 8 := ⟨(TB_3 25 rfl rfl), (TB_3 26 rfl rfl), (TB_3 27 rfl rfl), (TB_1 1 rfl rfl), (TB_3 28 rfl rfl), ⟨⟨by decide, by decide⟩, by decide +kernel⟩, TX6, 13, rfl⟩
set_option maxRecDepth 100000 in
theorem lk_X6_170 : LkV RX6 170 yX6_isFree cX6_isFree 7 (some .boolean) 4 8 := ⟨(TB_3 32 rfl rfl), (TB_3 34 rfl rfl), (TB_of 18 rfl rfl), (TB_1 1 rfl rfl), (TB_3 35 rfl rfl), ⟨⟨by decide, by decide⟩, by decide +kernel⟩, TX6, 13, rfl⟩
set_option maxRecDepth 100000 in
theorem lk_X6_445 : LkV RX6 445 yX2_meets cX2_meets 4 (some .boolean) 3 4 := ⟨(TB_3 36 rfl rfl), (TB_3 37 rfl rfl), (TB_3 38 rfl rfl), (TB_1 20 rfl rfl), (TB_3 39 rfl rfl), ⟨⟨by decide, by decide⟩, by decide +kernel⟩, TX2, 10, rfl⟩
set_option maxRecDepth 100000 in
theorem lk_X6_178 : LkI RX6 178 yX2_init cX2_init 6 5 := ⟨(TB_3 42 rfl rfl), (TB_3 43 rfl rfl), (TB_1 20 rfl rfl), (TB_3 44 rfl rfl), ⟨⟨by decide, by decide⟩, by decide +kernel⟩, rfl⟩
set_option maxRecDepth 100000 in
theorem lk_X2_11 : LkI RX2 11 yJx4a65c_init_da8c8 cJx4a65c_init_da8c8 1 0 := ⟨(TB_3 47 rfl rfl), (TB_1 36 rfl rfl), (TB_1 4 rfl rfl), (TB_1 37 rfl rfl), ⟨⟨by decide, by decide⟩, by decide +kernel⟩, rfl⟩
set_option maxRecDepth 100000 in
theorem lk_L_65 : LkV RL 65 yX6_cancel cX6_cancel 4 (some .int) 1 8 := ⟨(TB_3 87 rfl rfl), (TB_3 88 rfl rfl), (TB_3 89 rfl rfl), (TB_1 1 rfl rfl), (TB_3 90 rfl rfl), ⟨⟨by decide, by decide⟩, by decide +kernel⟩, TX6, 13, rfl⟩
set_option maxRecDepth 100000 in
theorem lk_X6_181 : LkV RX6 181 yX6_possessionAt cX6_possessionAt 2 (some (.object "TrackNights$Possession")) 1 8 := ⟨(TB_3 91 rfl rfl), (TB_3 93 rfl rfl), (TB_of 19 rfl rfl), (TB_1 1 rfl rfl), (TB_3 94 rfl rfl), ⟨⟨by decide, by decide⟩, by decide +kernel⟩, TX6, 13, rfl⟩
set_option maxRecDepth 100000 in
theorem lk_L_68 : LkV RL 68 yX6_mark cX6_mark 4 (some .int) 2 8 := ⟨(TB_3 97 rfl rfl), (TB_3 98 rfl rfl), (TB_3 99 rfl rfl), (TB_1 1 rfl rfl), (TB_3 100 rfl rfl), ⟨⟨by decide, by decide⟩, by decide +kernel⟩, TX6, 13, rfl⟩
set_option maxRecDepth 100000 in
theorem lk_X6_234 : LkV RX6 234 yX2_isMarked cX2_isMarked 2 (some .boolean) 1 4 := ⟨(TB_3 103 rfl rfl), (TB_3 104 rfl rfl), (TB_3 105 rfl rfl), (TB_1 20 rfl rfl), (TB_3 106 rfl rfl), ⟨⟨by decide, by decide⟩, by decide +kernel⟩, TX2, 10, rfl⟩
set_option maxRecDepth 100000 in
theorem lk_X6_239 : LkV RX6 239 yX2_putMark cX2_putMark 2 none 1 4 := ⟨(TB_3 108 rfl rfl), (TB_3 109 rfl rfl), (TB_3 110 rfl rfl), (TB_1 20 rfl rfl), (TB_3 111 rfl rfl), ⟨⟨by decide, by decide⟩, by decide +kernel⟩, TX2, 10, rfl⟩
set_option maxRecDepth 100000 in
theorem lk_X6_242 : LkV RX6 242 yX2_marks cX2_marks 1 (some .int) 0 4 := ⟨(TB_3 112 rfl rfl), (TB_3 113 rfl rfl), (TB_3 114 rfl rfl), (TB_1 20 rfl rfl), (TB_3 115 rfl rfl), ⟨⟨by decide, by decide⟩, by decide +kernel⟩, TX2, 10, rfl⟩
set_option maxRecDepth 100000 in
theorem lk_L_71 : LkV RL 71 yX6_take cX6_take 3 (some .int) 1 8 := ⟨(TB_3 116 rfl rfl), (TB_3 117 rfl rfl), (TB_3 118 rfl rfl), (TB_1 1 rfl rfl), (TB_3 119 rfl rfl), ⟨⟨by decide, by decide⟩, by decide +kernel⟩, TX6, 13, rfl⟩
set_option maxRecDepth 100000 in
theorem lk_L_77 : LkV RL 77 yX6_giveBack cX6_giveBack 3 (some .int) 1 8 := ⟨(TB_3 121 rfl rfl), (TB_3 122 rfl rfl), (TB_3 123 rfl rfl), (TB_1 1 rfl rfl), (TB_3 124 rfl rfl), ⟨⟨by decide, by decide⟩, by decide +kernel⟩, TX6, 13, rfl⟩
set_option maxRecDepth 100000 in
theorem lk_L_80 : LkV RL 80 yX6_walk cX6_walk 5 (some .boolean) 2 8 := ⟨(TB_3 126 rfl rfl), (TB_3 127 rfl rfl), (TB_3 128 rfl rfl), (TB_1 1 rfl rfl), (TB_3 129 rfl rfl), ⟨⟨by decide, by decide⟩, by decide +kernel⟩, TX6, 13, rfl⟩
set_option maxRecDepth 100000 in
theorem lk_X6_264 : LkV RX6 264 yX6_isTaken cX6_isTaken 4 (some .boolean) 1 8 := ⟨(TB_3 131 rfl rfl), (TB_3 133 rfl rfl), (TB_of 20 rfl rfl), (TB_1 1 rfl rfl), (TB_3 134 rfl rfl), ⟨⟨by decide, by decide⟩, by decide +kernel⟩, TX6, 13, rfl⟩
set_option maxRecDepth 100000 in
theorem lk_X6_185 : LkV RX6 185 yX2_has cX2_has 3 (some .boolean) 1 4 := ⟨(TB_3 135 rfl rfl), (TB_3 136 rfl rfl), (TB_3 137 rfl rfl), (TB_1 20 rfl rfl), (TB_3 138 rfl rfl), ⟨⟨by decide, by decide⟩, by decide +kernel⟩, TX2, 10, rfl⟩
set_option maxRecDepth 100000 in
theorem lk_X6_267 : LkV RX6 267 yX6_signBeside cX6_signBeside 3 (some .int) 1 8 := ⟨(TB_3 139 rfl rfl), (TB_3 141 rfl rfl), (TB_of 21 rfl rfl), (TB_1 1 rfl rfl), (TB_3 142 rfl rfl), ⟨⟨by decide, by decide⟩, by decide +kernel⟩, TX6, 13, rfl⟩
set_option maxRecDepth 100000 in
theorem lk_X6_270 : LkS RX6 270 yX6_isWarned cX6_isWarned 4 (some .boolean) 3 := ⟨(TB_3 143 rfl rfl), (TB_3 144 rfl rfl), (TB_1 1 rfl rfl), (TB_3 145 rfl rfl), ⟨⟨by decide, by decide⟩, by decide +kernel⟩⟩
set_option maxRecDepth 100000 in
theorem lk_L_36 : LkV RL 36 yX6_ofSection cX6_ofSection 4 (some .int) 2 8 := ⟨(TB_3 146 rfl rfl), (TB_3 147 rfl rfl), (TB_3 148 rfl rfl), (TB_1 1 rfl rfl), (TB_3 149 rfl rfl), ⟨⟨by decide, by decide⟩, by decide +kernel⟩, TX6, 13, rfl⟩
set_option maxRecDepth 100000 in
theorem lk_X6_289 : LkV RX6 289 yX3_trueSpeed cX3_trueSpeed 2 (some .int) 1 5 := ⟨(TB_3 150 rfl rfl), (TB_2 118 rfl rfl), (TB_2 119 rfl rfl), (TB_1 6 rfl rfl), (TB_2 120 rfl rfl), ⟨⟨by decide, by decide⟩, by decide +kernel⟩, TX3, 5, rfl⟩
set_option maxRecDepth 100000 in
theorem lk_L_58 : LkV RL 58 yX6_ofPossession cX6_ofPossession 4 (some .int) 2 8 := ⟨(TB_3 152 rfl rfl), (TB_3 153 rfl rfl), (TB_3 154 rfl rfl), (TB_1 1 rfl rfl), (TB_3 155 rfl rfl), ⟨⟨by decide, by decide⟩, by decide +kernel⟩, TX6, 13, rfl⟩
set_option maxRecDepth 100000 in
theorem lk_X6_208 : LkV RX6 208 yX2_hoursPlanned cX2_hoursPlanned 3 (some .int) 0 4 := ⟨(TB_3 156 rfl rfl), (TB_3 157 rfl rfl), (TB_3 158 rfl rfl), (TB_1 20 rfl rfl), (TB_3 159 rfl rfl), ⟨⟨by decide, by decide⟩, by decide +kernel⟩, TX2, 10, rfl⟩
set_option maxRecDepth 100000 in
theorem lk_L_28 : LkV RL 28 yX6_many cX6_many 2 (some .int) 1 8 := ⟨(TB_3 161 rfl rfl), (TB_3 162 rfl rfl), (TB_3 163 rfl rfl), (TB_1 1 rfl rfl), (TB_3 164 rfl rfl), ⟨⟨by decide, by decide⟩, by decide +kernel⟩, TX6, 13, rfl⟩
set_option maxRecDepth 100000 in
theorem lk_X6_322 : LkV RX6 322 yX6_countAligned cX6_countAligned 3 (some .int) 0 8 := ⟨(TB_3 165 rfl rfl), (TB_3 167 rfl rfl), (TB_of 22 rfl rfl), (TB_1 1 rfl rfl), (TB_3 168 rfl rfl), ⟨⟨by decide, by decide⟩, by decide +kernel⟩, TX6, 13, rfl⟩
set_option maxRecDepth 100000 in
theorem lk_X6_325 : LkV RX6 325 yX6_countPossessions cX6_countPossessions 4 (some .int) 1 8 := ⟨(TB_3 169 rfl rfl), (TB_3 171 rfl rfl), (TB_of 23 rfl rfl), (TB_1 1 rfl rfl), (TB_3 172 rfl rfl), ⟨⟨by decide, by decide⟩, by decide +kernel⟩, TX6, 13, rfl⟩
set_option maxRecDepth 100000 in
theorem lk_X6_328 : LkV RX6 328 yX6_countTrueRisks cX6_countTrueRisks 3 (some .int) 0 8 := ⟨(TB_3 173 rfl rfl), (TB_3 175 rfl rfl), (TB_of 24 rfl rfl), (TB_1 1 rfl rfl), (TB_3 176 rfl rfl), ⟨⟨by decide, by decide⟩, by decide +kernel⟩, TX6, 13, rfl⟩
set_option maxRecDepth 100000 in
theorem lk_X6_331 : LkV RX6 331 yX6_countKnownRisks cX6_countKnownRisks 4 (some .int) 0 8 := ⟨(TB_3 177 rfl rfl), (TB_3 179 rfl rfl), (TB_of 25 rfl rfl), (TB_1 1 rfl rfl), (TB_3 180 rfl rfl), ⟨⟨by decide, by decide⟩, by decide +kernel⟩, TX6, 13, rfl⟩
set_option maxRecDepth 100000 in
theorem lk_X6_294 : LkV RX6 294 yX6_knownValues cX6_knownValues 4 (some (.object "TrackNights$Values")) 1 8 := ⟨(TB_3 181 rfl rfl), (TB_3 183 rfl rfl), (TB_of 26 rfl rfl), (TB_1 1 rfl rfl), (TB_3 184 rfl rfl), ⟨⟨by decide, by decide⟩, by decide +kernel⟩, TX6, 13, rfl⟩
set_option maxRecDepth 100000 in
theorem lk_X6_301 : LkV RX6 301 yX6_knowingMeasure cX6_knowingMeasure 3 (some .int) 1 8 := ⟨(TB_3 185 rfl rfl), (TB_3 187 rfl rfl), (TB_of 27 rfl rfl), (TB_1 1 rfl rfl), (TB_3 188 rfl rfl), ⟨⟨by decide, by decide⟩, by decide +kernel⟩, TX6, 13, rfl⟩
set_option maxRecDepth 100000 in
theorem lk_X6_439 : LkV RX6 439 yX1_says cX1_says 2 (some (.object "TrackNights$Values")) 1 3 := ⟨(TB_3 189 rfl rfl), (TB_3 190 rfl rfl), (TB_3 191 rfl rfl), (TB_1 22 rfl rfl), (TB_3 192 rfl rfl), ⟨⟨by decide, by decide⟩, by decide +kernel⟩, TX1, 4, rfl⟩
set_option maxRecDepth 100000 in
theorem lk_X1_40 : LkV RX1 40 yX1_writtenFor cX1_writtenFor 4 (some (.object "TrackNights$Values")) 2 3 := ⟨(TB_3 193 rfl rfl), (TB_3 195 rfl rfl), (TB_of 28 rfl rfl), (TB_1 22 rfl rfl), (TB_3 196 rfl rfl), ⟨⟨by decide, by decide⟩, by decide +kernel⟩, TX1, 4, rfl⟩
set_option maxRecDepth 100000 in
theorem lk_X6_298 : LkV RX6 298 yX4_speed cX4_speed 3 (some .int) 1 6 := ⟨(TB_3 197 rfl rfl), (TB_2 122 rfl rfl), (TB_2 123 rfl rfl), (TB_1 5 rfl rfl), (TB_2 124 rfl rfl), ⟨⟨by decide, by decide⟩, by decide +kernel⟩, TX4, 3, rfl⟩
set_option maxRecDepth 100000 in
theorem lk_L_50 : LkV RL 50 yX6_freeDay cX6_freeDay 5 (some .int) 3 8 := ⟨(TB_3 199 rfl rfl), (TB_3 200 rfl rfl), (TB_3 201 rfl rfl), (TB_1 1 rfl rfl), (TB_3 202 rfl rfl), ⟨⟨by decide, by decide⟩, by decide +kernel⟩, TX6, 13, rfl⟩
set_option maxRecDepth 100000 in
theorem lk_L_74 : LkV RL 74 yX6_wouldOverrun cX6_wouldOverrun 3 (some .int) 1 8 := ⟨(TB_3 203 rfl rfl), (TB_3 204 rfl rfl), (TB_3 205 rfl rfl), (TB_1 1 rfl rfl), (TB_3 206 rfl rfl), ⟨⟨by decide, by decide⟩, by decide +kernel⟩, TX6, 13, rfl⟩
set_option maxRecDepth 100000 in
theorem lk_X6_362 : LkV RX6 362 yX2_isComingOrTaken cX2_isComingOrTaken 1 (some .boolean) 0 4 := ⟨(TB_3 207 rfl rfl), (TB_3 208 rfl rfl), (TB_3 209 rfl rfl), (TB_1 20 rfl rfl), (TB_3 210 rfl rfl), ⟨⟨by decide, by decide⟩, by decide +kernel⟩, TX2, 10, rfl⟩
set_option maxRecDepth 100000 in
theorem lk_L_103 : LkV RL 103 yX6_digest cX6_digest 5 (some .long) 0 8 := ⟨(TB_3 212 rfl rfl), (TB_3 213 rfl rfl), (TB_3 214 rfl rfl), (TB_1 1 rfl rfl), (TB_3 215 rfl rfl), ⟨⟨by decide, by decide⟩, by decide +kernel⟩, TX6, 13, rfl⟩
set_option maxRecDepth 100000 in
theorem lk_X6_382 : LkV RX6 382 yX6_many cX6_many 2 (some .int) 1 8 := ⟨(TB_3 218 rfl rfl), (TB_3 162 rfl rfl), (TB_3 163 rfl rfl), (TB_1 1 rfl rfl), (TB_3 164 rfl rfl), ⟨⟨by decide, by decide⟩, by decide +kernel⟩, TX6, 13, rfl⟩
set_option maxRecDepth 100000 in
theorem lk_X6_385 : LkV RX6 385 yX6_digestSection cX6_digestSection 7 (some .long) 2 8 := ⟨(TB_3 219 rfl rfl), (TB_3 221 rfl rfl), (TB_of 29 rfl rfl), (TB_1 1 rfl rfl), (TB_3 222 rfl rfl), ⟨⟨by decide, by decide⟩, by decide +kernel⟩, TX6, 13, rfl⟩
set_option maxRecDepth 100000 in
theorem lk_X6_399 : LkV RX6 399 yX6_ofSection cX6_ofSection 4 (some .int) 2 8 := ⟨(TB_3 223 rfl rfl), (TB_3 147 rfl rfl), (TB_3 148 rfl rfl), (TB_1 1 rfl rfl), (TB_3 149 rfl rfl), ⟨⟨by decide, by decide⟩, by decide +kernel⟩, TX6, 13, rfl⟩
set_option maxRecDepth 100000 in
theorem lk_X6_402 : LkV RX6 402 yX6_known cX6_known 5 (some .int) 2 8 := ⟨(TB_3 224 rfl rfl), (TB_3 225 rfl rfl), (TB_3 226 rfl rfl), (TB_1 1 rfl rfl), (TB_3 227 rfl rfl), ⟨⟨by decide, by decide⟩, by decide +kernel⟩, TX6, 13, rfl⟩
set_option maxRecDepth 100000 in
theorem lk_X6_405 : LkV RX6 405 yX6_why cX6_why 5 (some .int) 2 8 := ⟨(TB_3 229 rfl rfl), (TB_3 230 rfl rfl), (TB_3 231 rfl rfl), (TB_1 1 rfl rfl), (TB_3 232 rfl rfl), ⟨⟨by decide, by decide⟩, by decide +kernel⟩, TX6, 13, rfl⟩
set_option maxRecDepth 100000 in
theorem lk_X6_306 : LkV RX6 306 yX4_decider cX4_decider 3 (some .int) 1 6 := ⟨(TB_3 233 rfl rfl), (TB_3 234 rfl rfl), (TB_3 235 rfl rfl), (TB_1 5 rfl rfl), (TB_3 236 rfl rfl), ⟨⟨by decide, by decide⟩, by decide +kernel⟩, TX4, 3, rfl⟩
set_option maxRecDepth 100000 in
theorem lk_X4_41 : LkV RX4 41 yX4_speed cX4_speed 3 (some .int) 1 6 := ⟨(TB_3 237 rfl rfl), (TB_2 122 rfl rfl), (TB_2 123 rfl rfl), (TB_1 5 rfl rfl), (TB_2 124 rfl rfl), ⟨⟨by decide, by decide⟩, by decide +kernel⟩, TX4, 3, rfl⟩
set_option maxRecDepth 100000 in
theorem lk_X6_409 : LkV RX6 409 yX6_couldSee cX6_couldSee 4 (some .int) 1 8 := ⟨(TB_3 238 rfl rfl), (TB_3 239 rfl rfl), (TB_4 0 rfl rfl), (TB_1 1 rfl rfl), (TB_4 1 rfl rfl), ⟨⟨by decide, by decide⟩, by decide +kernel⟩, TX6, 13, rfl⟩
set_option maxRecDepth 100000 in
theorem lk_X6_343 : LkV RX6 343 yX1_writtenOf cX1_writtenOf 2 (some (.object "TrackNights$Values")) 1 3 := ⟨(TB_4 2 rfl rfl), (TB_4 3 rfl rfl), (TB_4 4 rfl rfl), (TB_1 22 rfl rfl), (TB_4 5 rfl rfl), ⟨⟨by decide, by decide⟩, by decide +kernel⟩, TX1, 4, rfl⟩
set_option maxRecDepth 100000 in
theorem lk_X6_412 : LkV RX6 412 yX6_firstRisk cX6_firstRisk 5 (some .int) 2 8 := ⟨(TB_4 6 rfl rfl), (TB_4 7 rfl rfl), (TB_4 8 rfl rfl), (TB_1 1 rfl rfl), (TB_4 9 rfl rfl), ⟨⟨by decide, by decide⟩, by decide +kernel⟩, TX6, 13, rfl⟩
set_option maxRecDepth 100000 in
theorem lk_X6_346 : LkV RX6 346 yX3_become cX3_become 2 none 1 5 := ⟨(TB_4 10 rfl rfl), (TB_4 11 rfl rfl), (TB_4 12 rfl rfl), (TB_1 6 rfl rfl), (TB_4 13 rfl rfl), ⟨⟨by decide, by decide⟩, by decide +kernel⟩, TX3, 5, rfl⟩
set_option maxRecDepth 100000 in
theorem lk_X6_415 : LkV RX6 415 yX6_bestWork cX6_bestWork 9 (some .int) 3 8 := ⟨(TB_4 14 rfl rfl), (TB_4 15 rfl rfl), (TB_4 16 rfl rfl), (TB_1 1 rfl rfl), (TB_4 17 rfl rfl), ⟨⟨by decide, by decide⟩, by decide +kernel⟩, TX6, 13, rfl⟩
set_option maxRecDepth 100000 in
theorem lk_X6_358 : LkV RX6 358 yX6_costBehind cX6_costBehind 7 (some .int) 4 8 := ⟨(TB_4 19 rfl rfl), (TB_4 21 rfl rfl), (TB_of 30 rfl rfl), (TB_1 1 rfl rfl), (TB_4 22 rfl rfl), ⟨⟨by decide, by decide⟩, by decide +kernel⟩, TX6, 13, rfl⟩
set_option maxRecDepth 100000 in
theorem lk_X6_204 : LkV RX6 204 yX3_hoursFor cX3_hoursFor 3 (some .int) 1 5 := ⟨(TB_4 23 rfl rfl), (TB_4 24 rfl rfl), (TB_4 25 rfl rfl), (TB_1 6 rfl rfl), (TB_4 26 rfl rfl), ⟨⟨by decide, by decide⟩, by decide +kernel⟩, TX3, 5, rfl⟩
set_option maxRecDepth 100000 in
theorem lk_X6_389 : LkV RX6 389 yX6_ofMachine cX6_ofMachine 4 (some .int) 2 8 := ⟨(TB_4 27 rfl rfl), (TB_4 28 rfl rfl), (TB_4 29 rfl rfl), (TB_1 1 rfl rfl), (TB_4 30 rfl rfl), ⟨⟨by decide, by decide⟩, by decide +kernel⟩, TX6, 13, rfl⟩
set_option maxRecDepth 100000 in
theorem lk_X6_151 : LkV RX6 151 yX6_machineAt cX6_machineAt 2 (some (.object "TrackNights$Machine")) 1 8 := ⟨(TB_4 31 rfl rfl), (TB_4 33 rfl rfl), (TB_of 31 rfl rfl), (TB_1 1 rfl rfl), (TB_4 34 rfl rfl), ⟨⟨by decide, by decide⟩, by decide +kernel⟩, TX6, 13, rfl⟩
set_option maxRecDepth 100000 in
theorem lk_X6_392 : LkV RX6 392 yX6_ofPossession cX6_ofPossession 4 (some .int) 2 8 := ⟨(TB_4 37 rfl rfl), (TB_3 153 rfl rfl), (TB_3 154 rfl rfl), (TB_1 1 rfl rfl), (TB_3 155 rfl rfl), ⟨⟨by decide, by decide⟩, by decide +kernel⟩, TX6, 13, rfl⟩
set_option maxRecDepth 100000 in
theorem lk_X6_395 : LkV RX6 395 yX6_freeDay cX6_freeDay 5 (some .int) 3 8 := ⟨(TB_4 38 rfl rfl), (TB_3 200 rfl rfl), (TB_3 201 rfl rfl), (TB_1 1 rfl rfl), (TB_3 202 rfl rfl), ⟨⟨by decide, by decide⟩, by decide +kernel⟩, TX6, 13, rfl⟩
set_option maxRecDepth 100000 in
theorem lk_L_24 : LkS RL 24 yL_below cL_below 2 (some .int) 2 := ⟨(TB_4 39 rfl rfl), (TB_4 40 rfl rfl), (TB_1 0 rfl rfl), (TB_4 41 rfl rfl), ⟨⟨by decide, by decide⟩, by decide +kernel⟩⟩
set_option maxRecDepth 100000 in
theorem lk_L_20 : LkS RL 20 yL_cell cL_cell 2 (some .int) 2 := ⟨(TB_4 43 rfl rfl), (TB_4 44 rfl rfl), (TB_1 0 rfl rfl), (TB_4 45 rfl rfl), ⟨⟨by decide, by decide⟩, by decide +kernel⟩⟩
set_option maxRecDepth 100000 in
theorem lk_L_14 : LkS RL 14 yL_keep cL_keep 4 none 2 := ⟨(TB_4 47 rfl rfl), (TB_4 48 rfl rfl), (TB_1 0 rfl rfl), (TB_4 49 rfl rfl), ⟨⟨by decide, by decide⟩, by decide +kernel⟩⟩
set_option maxRecDepth 100000 in
theorem lk_L_107 : LkV RL 107 yX6_work cX6_work 8 (some .int) 3 8 := ⟨(TB_4 54 rfl rfl), (TB_4 55 rfl rfl), (TB_4 56 rfl rfl), (TB_1 1 rfl rfl), (TB_4 57 rfl rfl), ⟨⟨by decide, by decide⟩, by decide +kernel⟩, TX6, 13, rfl⟩
set_option maxRecDepth 100000 in
theorem lk_X6_216 : LkV RX6 216 yX6_isElsewhere cX6_isElsewhere 5 (some .boolean) 2 8 := ⟨(TB_4 61 rfl rfl), (TB_4 63 rfl rfl), (TB_of 32 rfl rfl), (TB_1 1 rfl rfl), (TB_4 64 rfl rfl), ⟨⟨by decide, by decide⟩, by decide +kernel⟩, TX6, 13, rfl⟩
set_option maxRecDepth 100000 in
theorem lk_X6_442 : LkV RX6 442 yX2_uses cX2_uses 3 (some .boolean) 1 4 := ⟨(TB_4 65 rfl rfl), (TB_4 66 rfl rfl), (TB_4 67 rfl rfl), (TB_1 20 rfl rfl), (TB_4 68 rfl rfl), ⟨⟨by decide, by decide⟩, by decide +kernel⟩, TX2, 10, rfl⟩
set_option maxRecDepth 100000 in
theorem lk_X6_224 : LkI RX6 224 yX5_init cX5_init 4 3 := ⟨(TB_4 71 rfl rfl), (TB_4 72 rfl rfl), (TB_1 21 rfl rfl), (TB_4 73 rfl rfl), ⟨⟨by decide, by decide⟩, by decide +kernel⟩, rfl⟩
set_option maxRecDepth 100000 in
theorem lk_L_91 : LkS RL 91 yL_isStep cL_isStep 9 (some .boolean) 6 := ⟨(TB_4 90 rfl rfl), (TB_4 91 rfl rfl), (TB_1 0 rfl rfl), (TB_4 92 rfl rfl), ⟨⟨by decide, by decide⟩, by decide +kernel⟩⟩
set_option maxRecDepth 100000 in
theorem lk_L_95 : LkS RL 95 yL_areSteps cL_areSteps 6 (some .boolean) 3 := ⟨(TB_4 93 rfl rfl), (TB_4 94 rfl rfl), (TB_1 0 rfl rfl), (TB_4 95 rfl rfl), ⟨⟨by decide, by decide⟩, by decide +kernel⟩⟩
set_option maxRecDepth 100000 in
theorem lk_L_99 : LkS RL 99 yL_isSo cL_isSo 10 (some .boolean) 3 := ⟨(TB_4 96 rfl rfl), (TB_4 97 rfl rfl), (TB_1 0 rfl rfl), (TB_4 98 rfl rfl), ⟨⟨by decide, by decide⟩, by decide +kernel⟩⟩
set_option maxRecDepth 100000 in
theorem lk_L_111 : LkV RL 111 yX6_known cX6_known 5 (some .int) 2 8 := ⟨(TB_4 99 rfl rfl), (TB_3 225 rfl rfl), (TB_3 226 rfl rfl), (TB_1 1 rfl rfl), (TB_3 227 rfl rfl), ⟨⟨by decide, by decide⟩, by decide +kernel⟩, TX6, 13, rfl⟩
set_option maxRecDepth 100000 in
theorem lk_L_114 : LkV RL 114 yX6_why cX6_why 5 (some .int) 2 8 := ⟨(TB_4 100 rfl rfl), (TB_3 230 rfl rfl), (TB_3 231 rfl rfl), (TB_1 1 rfl rfl), (TB_3 232 rfl rfl), ⟨⟨by decide, by decide⟩, by decide +kernel⟩, TX6, 13, rfl⟩
set_option maxRecDepth 100000 in
theorem lk_L_118 : LkV RL 118 yX6_couldSee cX6_couldSee 4 (some .int) 1 8 := ⟨(TB_4 101 rfl rfl), (TB_3 239 rfl rfl), (TB_4 0 rfl rfl), (TB_1 1 rfl rfl), (TB_4 1 rfl rfl), ⟨⟨by decide, by decide⟩, by decide +kernel⟩, TX6, 13, rfl⟩
set_option maxRecDepth 100000 in
theorem lk_L_121 : LkV RL 121 yX6_ofMachine cX6_ofMachine 4 (some .int) 2 8 := ⟨(TB_4 102 rfl rfl), (TB_4 28 rfl rfl), (TB_4 29 rfl rfl), (TB_1 1 rfl rfl), (TB_4 30 rfl rfl), ⟨⟨by decide, by decide⟩, by decide +kernel⟩, TX6, 13, rfl⟩
set_option maxRecDepth 100000 in
theorem lk_L_124 : LkV RL 124 yX6_meanWear cX6_meanWear 4 (some .double) 1 8 := ⟨(TB_4 103 rfl rfl), (TB_4 104 rfl rfl), (TB_4 105 rfl rfl), (TB_1 1 rfl rfl), (TB_4 106 rfl rfl), ⟨⟨by decide, by decide⟩, by decide +kernel⟩, TX6, 13, rfl⟩
set_option maxRecDepth 100000 in
theorem lk_L_45 : LkS RL 45 yJ9_min_7cf53 cJ9_min_7cf53 2 (some .int) 2 := ⟨(TB_4 110 rfl rfl), (TB_2 95 rfl rfl), (TB_1 11 rfl rfl), (TB_2 96 rfl rfl), ⟨⟨by decide, by decide⟩, by decide +kernel⟩⟩
set_option maxRecDepth 100000 in
theorem lk_X6_37 : LkN RX6 37 yX3_init cX3_init 1 0 := ⟨⟨"TrackNights", (NB_1 85 rfl rfl)⟩, (TB_1 86 rfl rfl), (TB_1 6 rfl rfl), (TB_1 87 rfl rfl), ⟨⟨by decide, by decide⟩, by decide +kernel⟩, rfl⟩
set_option maxRecDepth 100000 in
theorem lt_356 : LkT RX6 72 356 76 "java/lang/IllegalArgumentException" "days is not 1 to 200" := ⟨(TB_1 236 rfl rfl), (TB_1 12 rfl rfl), by decide +kernel, by decide +kernel, by decide +kernel, by decide +kernel, by decide +kernel⟩
set_option maxRecDepth 100000 in
theorem lt_164 : LkT RX6 72 164 76 "java/lang/IllegalArgumentException" "day is less than 5 later, or above 2000" := ⟨(TB_1 236 rfl rfl), (TB_1 12 rfl rfl), by decide +kernel, by decide +kernel, by decide +kernel, by decide +kernel, by decide +kernel⟩
set_option maxRecDepth 100000 in
theorem lt_166 : LkT RX6 72 166 76 "java/lang/IllegalArgumentException" "hours is not 2 to 8" := ⟨(TB_1 236 rfl rfl), (TB_1 12 rfl rfl), by decide +kernel, by decide +kernel, by decide +kernel, by decide +kernel, by decide +kernel⟩
set_option maxRecDepth 100000 in
theorem lt_168 : LkT RX6 90 168 94 "java/lang/IllegalStateException" "there were 16 possessions" := ⟨(TB_2 23 rfl rfl), (TB_1 15 rfl rfl), by decide +kernel, by decide +kernel, by decide +kernel, by decide +kernel, by decide +kernel⟩
set_option maxRecDepth 100000 in
theorem lt_174 : LkT RX6 90 174 94 "java/lang/IllegalStateException" "another possession of that day has a section in common" := ⟨(TB_2 23 rfl rfl), (TB_1 15 rfl rfl), by decide +kernel, by decide +kernel, by decide +kernel, by decide +kernel, by decide +kernel⟩
set_option maxRecDepth 100000 in
theorem lt_194 : LkT RX6 90 194 94 "java/lang/IllegalStateException" "the possession is not booked" := ⟨(TB_2 23 rfl rfl), (TB_1 15 rfl rfl), by decide +kernel, by decide +kernel, by decide +kernel, by decide +kernel, by decide +kernel⟩
set_option maxRecDepth 100000 in
theorem lt_418 : LkT RX6 125 418 129 "java/lang/IndexOutOfBoundsException" "section is not 0 to 19" := ⟨(TB_1 164 rfl rfl), (TB_1 10 rfl rfl), by decide +kernel, by decide +kernel, by decide +kernel, by decide +kernel, by decide +kernel⟩
set_option maxRecDepth 100000 in
theorem lt_336 : LkT RX6 125 336 129 "java/lang/IndexOutOfBoundsException" "track is not 0 or 1" := ⟨(TB_1 164 rfl rfl), (TB_1 10 rfl rfl), by decide +kernel, by decide +kernel, by decide +kernel, by decide +kernel, by decide +kernel⟩
set_option maxRecDepth 100000 in
theorem lt_424 : LkT RX6 125 424 129 "java/lang/IndexOutOfBoundsException" "from or to is not 0 to 9" := ⟨(TB_1 164 rfl rfl), (TB_1 10 rfl rfl), by decide +kernel, by decide +kernel, by decide +kernel, by decide +kernel, by decide +kernel⟩
set_option maxRecDepth 100000 in
theorem lt_426 : LkT RX6 72 426 76 "java/lang/IllegalArgumentException" "to is below from" := ⟨(TB_1 236 rfl rfl), (TB_1 12 rfl rfl), by decide +kernel, by decide +kernel, by decide +kernel, by decide +kernel, by decide +kernel⟩
set_option maxRecDepth 100000 in
theorem lt_428 : LkT RX6 72 428 76 "java/lang/IllegalArgumentException" "trains is not 0 to 40" := ⟨(TB_1 236 rfl rfl), (TB_1 12 rfl rfl), by decide +kernel, by decide +kernel, by decide +kernel, by decide +kernel, by decide +kernel⟩
set_option maxRecDepth 100000 in
theorem lt_253 : LkT RX6 90 253 94 "java/lang/IllegalStateException" "the possession is not taken" := ⟨(TB_2 23 rfl rfl), (TB_1 15 rfl rfl), by decide +kernel, by decide +kernel, by decide +kernel, by decide +kernel, by decide +kernel⟩
set_option maxRecDepth 100000 in
theorem lt_304 : LkT RX6 72 304 76 "java/lang/IllegalArgumentException" "what is not 0 to 4" := ⟨(TB_1 236 rfl rfl), (TB_1 12 rfl rfl), by decide +kernel, by decide +kernel, by decide +kernel, by decide +kernel, by decide +kernel⟩
set_option maxRecDepth 100000 in
theorem lt_142 : LkT RX6 72 142 76 "java/lang/IllegalArgumentException" "kind is not 0 to 2" := ⟨(TB_1 236 rfl rfl), (TB_1 12 rfl rfl), by decide +kernel, by decide +kernel, by decide +kernel, by decide +kernel, by decide +kernel⟩
set_option maxRecDepth 100000 in
theorem lt_144 : LkT RX6 72 144 76 "java/lang/IllegalArgumentException" "life is not 0 to 99" := ⟨(TB_1 236 rfl rfl), (TB_1 12 rfl rfl), by decide +kernel, by decide +kernel, by decide +kernel, by decide +kernel, by decide +kernel⟩
set_option maxRecDepth 100000 in
theorem lt_146 : LkT RX6 90 146 94 "java/lang/IllegalStateException" "there are 4 machines" := ⟨(TB_2 23 rfl rfl), (TB_1 15 rfl rfl), by decide +kernel, by decide +kernel, by decide +kernel, by decide +kernel, by decide +kernel⟩
set_option maxRecDepth 100000 in
theorem lt_420 : LkT RX6 125 420 129 "java/lang/IndexOutOfBoundsException" "no such machine" := ⟨(TB_1 164 rfl rfl), (TB_1 10 rfl rfl), by decide +kernel, by decide +kernel, by decide +kernel, by decide +kernel, by decide +kernel⟩
set_option maxRecDepth 100000 in
theorem lt_334 : LkT RX6 72 334 76 "java/lang/IllegalArgumentException" "what is not 0 to 16" := ⟨(TB_1 236 rfl rfl), (TB_1 12 rfl rfl), by decide +kernel, by decide +kernel, by decide +kernel, by decide +kernel, by decide +kernel⟩
set_option maxRecDepth 100000 in
theorem lt_230 : LkT RX6 125 230 129 "java/lang/IndexOutOfBoundsException" "end is not 0 or 1" := ⟨(TB_1 164 rfl rfl), (TB_1 10 rfl rfl), by decide +kernel, by decide +kernel, by decide +kernel, by decide +kernel, by decide +kernel⟩
set_option maxRecDepth 100000 in
theorem lt_232 : LkT RX6 90 232 94 "java/lang/IllegalStateException" "its day is not this one" := ⟨(TB_2 23 rfl rfl), (TB_1 15 rfl rfl), by decide +kernel, by decide +kernel, by decide +kernel, by decide +kernel, by decide +kernel⟩
set_option maxRecDepth 100000 in
theorem lt_237 : LkT RX6 90 237 94 "java/lang/IllegalStateException" "that end is marked" := ⟨(TB_2 23 rfl rfl), (TB_1 15 rfl rfl), by decide +kernel, by decide +kernel, by decide +kernel, by decide +kernel, by decide +kernel⟩
set_option maxRecDepth 100000 in
theorem lt_102 : LkT RX6 72 102 76 "java/lang/IllegalArgumentException" "drift is not -2 to 2" := ⟨(TB_1 236 rfl rfl), (TB_1 12 rfl rfl), by decide +kernel, by decide +kernel, by decide +kernel, by decide +kernel, by decide +kernel⟩
set_option maxRecDepth 100000 in
theorem lt_108 : LkT RX6 90 108 94 "java/lang/IllegalStateException" "there were 12 measures" := ⟨(TB_2 23 rfl rfl), (TB_1 15 rfl rfl), by decide +kernel, by decide +kernel, by decide +kernel, by decide +kernel, by decide +kernel⟩
set_option maxRecDepth 100000 in
theorem lt_315 : LkT RX6 72 315 76 "java/lang/IllegalArgumentException" "what is not 0 to 3" := ⟨(TB_1 236 rfl rfl), (TB_1 12 rfl rfl), by decide +kernel, by decide +kernel, by decide +kernel, by decide +kernel, by decide +kernel⟩
set_option maxRecDepth 100000 in
theorem lt_320 : LkT RX6 72 320 76 "java/lang/IllegalArgumentException" "what is not 0 to 9" := ⟨(TB_1 236 rfl rfl), (TB_1 12 rfl rfl), by decide +kernel, by decide +kernel, by decide +kernel, by decide +kernel, by decide +kernel⟩
set_option maxRecDepth 100000 in
theorem lt_292 : LkT RX6 72 292 76 "java/lang/IllegalArgumentException" "what is not 0 to 7" := ⟨(TB_1 236 rfl rfl), (TB_1 12 rfl rfl), by decide +kernel, by decide +kernel, by decide +kernel, by decide +kernel, by decide +kernel⟩
set_option maxRecDepth 100000 in
theorem lt_86 : LkT RX6 72 86 76 "java/lang/IllegalArgumentException" "heat is not -20 to 60" := ⟨(TB_1 236 rfl rfl), (TB_1 12 rfl rfl), by decide +kernel, by decide +kernel, by decide +kernel, by decide +kernel, by decide +kernel⟩
set_option maxRecDepth 100000 in
theorem lt_88 : LkT RX6 72 88 76 "java/lang/IllegalArgumentException" "days is not 1 to 60" := ⟨(TB_1 236 rfl rfl), (TB_1 12 rfl rfl), by decide +kernel, by decide +kernel, by decide +kernel, by decide +kernel, by decide +kernel⟩
set_option maxRecDepth 100000 in
theorem lt_92 : LkT RX6 90 92 94 "java/lang/IllegalStateException" "the day would be above 2000" := ⟨(TB_2 23 rfl rfl), (TB_1 15 rfl rfl), by decide +kernel, by decide +kernel, by decide +kernel, by decide +kernel, by decide +kernel⟩
set_option maxRecDepth 100000 in
theorem lt_422 : LkT RX6 125 422 129 "java/lang/IndexOutOfBoundsException" "no such possession" := ⟨(TB_1 164 rfl rfl), (TB_1 10 rfl rfl), by decide +kernel, by decide +kernel, by decide +kernel, by decide +kernel, by decide +kernel⟩
set_option maxRecDepth 100000 in
theorem lt_74 : LkT RX6 72 74 76 "java/lang/IllegalArgumentException" "speed is not 0 to 160" := ⟨(TB_1 236 rfl rfl), (TB_1 12 rfl rfl), by decide +kernel, by decide +kernel, by decide +kernel, by decide +kernel, by decide +kernel⟩
set_option maxRecDepth 100000 in
theorem lt_245 : LkT RX6 90 245 94 "java/lang/IllegalStateException" "not both ends are marked" := ⟨(TB_2 23 rfl rfl), (TB_1 15 rfl rfl), by decide +kernel, by decide +kernel, by decide +kernel, by decide +kernel, by decide +kernel⟩
set_option maxRecDepth 100000 in
theorem lt_262 : LkT RX6 72 262 76 "java/lang/IllegalArgumentException" "sight is not 50 to 2000" := ⟨(TB_1 236 rfl rfl), (TB_1 12 rfl rfl), by decide +kernel, by decide +kernel, by decide +kernel, by decide +kernel, by decide +kernel⟩
set_option maxRecDepth 100000 in
theorem lt_189 : LkT RX6 72 189 76 "java/lang/IllegalArgumentException" "the section is not in the possession" := ⟨(TB_1 236 rfl rfl), (TB_1 12 rfl rfl), by decide +kernel, by decide +kernel, by decide +kernel, by decide +kernel, by decide +kernel⟩
set_option maxRecDepth 100000 in
theorem lt_199 : LkT RX6 90 199 94 "java/lang/IllegalStateException" "there are 6 works" := ⟨(TB_2 23 rfl rfl), (TB_1 15 rfl rfl), by decide +kernel, by decide +kernel, by decide +kernel, by decide +kernel, by decide +kernel⟩
set_option maxRecDepth 100000 in
theorem lt_214 : LkT RX6 90 214 94 "java/lang/IllegalStateException" "the works would take too long" := ⟨(TB_2 23 rfl rfl), (TB_1 15 rfl rfl), by decide +kernel, by decide +kernel, by decide +kernel, by decide +kernel, by decide +kernel⟩
set_option maxRecDepth 100000 in
theorem lt_220 : LkT RX6 90 220 94 "java/lang/IllegalStateException" "the machine is in another possession of that day" := ⟨(TB_2 23 rfl rfl), (TB_1 15 rfl rfl), by decide +kernel, by decide +kernel, by decide +kernel, by decide +kernel, by decide +kernel⟩
set_option maxRecDepth 100000 in
theorem lt_366 : LkT RX6 90 366 94 "java/lang/IllegalStateException" "the possession is neither booked nor taken" := ⟨(TB_2 23 rfl rfl), (TB_1 15 rfl rfl), by decide +kernel, by decide +kernel, by decide +kernel, by decide +kernel, by decide +kernel⟩
set_option maxRecDepth 100000 in
theorem oi_i : Cond.instanceMethod objectInit ∈ TB := (TB_1 29 rfl rfl)
set_option maxRecDepth 100000 in
theorem oi_c : Cond.code objectInit ⟨#[0xb1]⟩ 1 none ∈ TB := (TB_1 30 rfl rfl)
set_option maxRecDepth 100000 in
theorem oi_X6_3 : Cond.methodLink RX6 3 objectInit ∈ TB := (TB_1 28 rfl rfl)
set_option maxRecDepth 100000 in
theorem oi_Jxa1e45_1 : Cond.methodLink RJxa1e45 1 objectInit ∈ TB := (TB_1 44 rfl rfl)
set_option maxRecDepth 100000 in
theorem oi_X4_3 : Cond.methodLink RX4 3 objectInit ∈ TB := (TB_1 64 rfl rfl)
set_option maxRecDepth 100000 in
theorem oi_X3_3 : Cond.methodLink RX3 3 objectInit ∈ TB := (TB_1 88 rfl rfl)
set_option maxRecDepth 100000 in
theorem oi_X1_3 : Cond.methodLink RX1 3 objectInit ∈ TB := (TB_2 159 rfl rfl)
set_option maxRecDepth 100000 in
theorem oi_X0_1 : Cond.methodLink RX0 1 objectInit ∈ TB := (TB_3 6 rfl rfl)
set_option maxRecDepth 100000 in
theorem oi_X2_3 : Cond.methodLink RX2 3 objectInit ∈ TB := (TB_3 45 rfl rfl)
set_option maxRecDepth 100000 in
theorem oi_X5_1 : Cond.methodLink RX5 1 objectInit ∈ TB := (TB_4 74 rfl rfl)
set_option maxRecDepth 100000 in
theorem cob_1 : ∃ (C : String) (T : u_T) (N : Nat), vwCl[1]? = some (C, T, N) ∧ Cond.castable C "java/lang/Object" ∈ NB := ⟨RJx4a65c, TJx4a65c, 3, rfl, (NB_4 117 rfl rfl)⟩
set_option maxRecDepth 100000 in
theorem cob_2 : ∃ (C : String) (T : u_T) (N : Nat), vwCl[2]? = some (C, T, N) ∧ Cond.castable C "java/lang/Object" ∈ NB := ⟨RX0, TX0, 4, rfl, (NB_4 121 rfl rfl)⟩
set_option maxRecDepth 100000 in
theorem cob_3 : ∃ (C : String) (T : u_T) (N : Nat), vwCl[3]? = some (C, T, N) ∧ Cond.castable C "java/lang/Object" ∈ NB := ⟨RX1, TX1, 4, rfl, (NB_4 124 rfl rfl)⟩
set_option maxRecDepth 100000 in
theorem cob_4 : ∃ (C : String) (T : u_T) (N : Nat), vwCl[4]? = some (C, T, N) ∧ Cond.castable C "java/lang/Object" ∈ NB := ⟨RX2, TX2, 10, rfl, (NB_4 122 rfl rfl)⟩
set_option maxRecDepth 100000 in
theorem cob_5 : ∃ (C : String) (T : u_T) (N : Nat), vwCl[5]? = some (C, T, N) ∧ Cond.castable C "java/lang/Object" ∈ NB := ⟨RX3, TX3, 5, rfl, (NB_4 114 rfl rfl)⟩
set_option maxRecDepth 100000 in
theorem cob_6 : ∃ (C : String) (T : u_T) (N : Nat), vwCl[6]? = some (C, T, N) ∧ Cond.castable C "java/lang/Object" ∈ NB := ⟨RX4, TX4, 3, rfl, (NB_4 115 rfl rfl)⟩
set_option maxRecDepth 100000 in
theorem cob_7 : ∃ (C : String) (T : u_T) (N : Nat), vwCl[7]? = some (C, T, N) ∧ Cond.castable C "java/lang/Object" ∈ NB := ⟨RX5, TX5, 3, rfl, (NB_4 123 rfl rfl)⟩
set_option maxRecDepth 100000 in
theorem cob_8 : ∃ (C : String) (T : u_T) (N : Nat), vwCl[8]? = some (C, T, N) ∧ Cond.castable C "java/lang/Object" ∈ NB := ⟨RX6, TX6, 13, rfl, (NB_4 116 rfl rfl)⟩
