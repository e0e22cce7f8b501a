/-! what each pool entry says (written by facts.py) -/
set_option maxRecDepth 100000 in
theorem TB_1 {w : Cond} (i : Nat) (h : tables_1_1[i]? = some w) (hg : goodWord w = true) : w ∈ TB := List.mem_filter.mpr ⟨List.mem_append_right _ (List.mem_append_left _ (List.mem_of_getElem? h)), hg⟩
set_option maxRecDepth 100000 in
theorem NB_1 {w : Cond} (i : Nat) (h : tables_1_1[i]? = some w) (hg : nbw w = true) : w ∈ NB := List.mem_filter.mpr ⟨List.mem_append_right _ (List.mem_append_left _ (List.mem_of_getElem? h)), hg⟩
set_option maxRecDepth 100000 in
theorem TB_2 {w : Cond} (i : Nat) (h : tables_1_2[i]? = some w) (hg : goodWord w = true) : w ∈ TB := List.mem_filter.mpr ⟨List.mem_append_right _ (List.mem_append_right _ (List.mem_append_left _ (List.mem_of_getElem? h))), hg⟩
set_option maxRecDepth 100000 in
theorem NB_2 {w : Cond} (i : Nat) (h : tables_1_2[i]? = some w) (hg : nbw w = true) : w ∈ NB := List.mem_filter.mpr ⟨List.mem_append_right _ (List.mem_append_right _ (List.mem_append_left _ (List.mem_of_getElem? h))), hg⟩
set_option maxRecDepth 100000 in
theorem TB_3 {w : Cond} (i : Nat) (h : tables_1_3[i]? = some w) (hg : goodWord w = true) : w ∈ TB := List.mem_filter.mpr ⟨List.mem_append_right _ (List.mem_append_right _ (List.mem_append_right _ (List.mem_append_left _ (List.mem_of_getElem? h)))), hg⟩
set_option maxRecDepth 100000 in
theorem NB_3 {w : Cond} (i : Nat) (h : tables_1_3[i]? = some w) (hg : nbw w = true) : w ∈ NB := List.mem_filter.mpr ⟨List.mem_append_right _ (List.mem_append_right _ (List.mem_append_right _ (List.mem_append_left _ (List.mem_of_getElem? h)))), hg⟩
set_option maxRecDepth 100000 in
theorem TB_4 {w : Cond} (i : Nat) (h : tables_1_4[i]? = some w) (hg : goodWord w = true) : w ∈ TB := List.mem_filter.mpr ⟨List.mem_append_right _ (List.mem_append_right _ (List.mem_append_right _ (List.mem_append_right _ (List.mem_append_left _ (List.mem_of_getElem? h))))), hg⟩
set_option maxRecDepth 100000 in
theorem NB_4 {w : Cond} (i : Nat) (h : tables_1_4[i]? = some w) (hg : nbw w = true) : w ∈ NB := List.mem_filter.mpr ⟨List.mem_append_right _ (List.mem_append_right _ (List.mem_append_right _ (List.mem_append_right _ (List.mem_append_left _ (List.mem_of_getElem? h))))), hg⟩
set_option maxRecDepth 100000 in
theorem TB_5 {w : Cond} (i : Nat) (h : tables_1_5[i]? = some w) (hg : goodWord w = true) : w ∈ TB := List.mem_filter.mpr ⟨List.mem_append_right _ (List.mem_append_right _ (List.mem_append_right _ (List.mem_append_right _ (List.mem_append_right _ (List.mem_append_left _ (List.mem_of_getElem? h)))))), hg⟩
set_option maxRecDepth 100000 in
theorem NB_5 {w : Cond} (i : Nat) (h : tables_1_5[i]? = some w) (hg : nbw w = true) : w ∈ NB := List.mem_filter.mpr ⟨List.mem_append_right _ (List.mem_append_right _ (List.mem_append_right _ (List.mem_append_right _ (List.mem_append_right _ (List.mem_append_left _ (List.mem_of_getElem? h)))))), hg⟩
set_option maxRecDepth 100000 in
theorem TB_6 {w : Cond} (i : Nat) (h : tables_1_6[i]? = some w) (hg : goodWord w = true) : w ∈ TB := List.mem_filter.mpr ⟨List.mem_append_right _ (List.mem_append_right _ (List.mem_append_right _ (List.mem_append_right _ (List.mem_append_right _ (List.mem_append_right _ (List.mem_of_getElem? h)))))), hg⟩
set_option maxRecDepth 100000 in
theorem NB_6 {w : Cond} (i : Nat) (h : tables_1_6[i]? = some w) (hg : nbw w = true) : w ∈ NB := List.mem_filter.mpr ⟨List.mem_append_right _ (List.mem_append_right _ (List.mem_append_right _ (List.mem_append_right _ (List.mem_append_right _ (List.mem_append_right _ (List.mem_of_getElem? h)))))), hg⟩
set_option maxRecDepth 100000 in
theorem inJx35411 : ∀ w ∈ u_ws RJx35411 TJx35411 4, w ∈ TB := by decide +kernel
set_option maxRecDepth 100000 in
theorem inJx4a65c : ∀ w ∈ u_ws RJx4a65c TJx4a65c 3, w ∈ TB := by decide +kernel
set_option maxRecDepth 100000 in
theorem inX0 : ∀ w ∈ u_ws RX0 TX0 4, w ∈ TB := by decide +kernel
set_option maxRecDepth 100000 in
theorem inX1 : ∀ w ∈ u_ws RX1 TX1 4, w ∈ TB := by decide +kernel
set_option maxRecDepth 100000 in
theorem inX2 : ∀ w ∈ u_ws RX2 TX2 10, w ∈ TB := by decide +kernel
set_option maxRecDepth 100000 in
theorem inX3 : ∀ w ∈ u_ws RX3 TX3 5, w ∈ TB := by decide +kernel
set_option maxRecDepth 100000 in
theorem inX4 : ∀ w ∈ u_ws RX4 TX4 3, w ∈ TB := by decide +kernel
set_option maxRecDepth 100000 in
theorem inX5 : ∀ w ∈ u_ws RX5 TX5 3, w ∈ TB := by decide +kernel
set_option maxRecDepth 100000 in
theorem inX6 : ∀ w ∈ u_ws RX6 TX6 13, w ∈ TB := by decide +kernel
set_option maxRecDepth 100000 in
theorem inX7 : ∀ w ∈ u_ws RX7 TX7 12, w ∈ TB := by decide +kernel
set_option maxRecDepth 100000 in
theorem fw_0 : FW 0 := ⟨RJx35411, TJx35411, 4, tyJx35411, rfl, by decide +kernel, by decide +kernel⟩
set_option maxRecDepth 100000 in
theorem ft_0_0 : FT 0 0 false .int := ⟨RJx35411, TJx35411, 4, rfl, rfl, by decide +kernel⟩
set_option maxRecDepth 100000 in
theorem ft_0_1 : FT 0 1 false .int := ⟨RJx35411, TJx35411, 4, rfl, rfl, by decide +kernel⟩
set_option maxRecDepth 100000 in
theorem ft_0_2 : FT 0 2 false .int := ⟨RJx35411, TJx35411, 4, rfl, rfl, by decide +kernel⟩
set_option maxRecDepth 100000 in
theorem ft_0_3 : FT 0 3 true (.object "java/util/ArrayList") := ⟨RJx35411, TJx35411, 4, rfl, rfl, by decide +kernel⟩
set_option maxRecDepth 100000 in
theorem fw_1 : FW 1 := ⟨RJx4a65c, TJx4a65c, 3, tyJx4a65c, rfl, by decide +kernel, by decide +kernel⟩
set_option maxRecDepth 100000 in
theorem ft_1_0 : FT 1 0 false .int := ⟨RJx4a65c, TJx4a65c, 3, rfl, rfl, by decide +kernel⟩
set_option maxRecDepth 100000 in
theorem ft_1_1 : FT 1 1 false (.array (.object "java/lang/Object")) := ⟨RJx4a65c, TJx4a65c, 3, rfl, rfl, by decide +kernel⟩
set_option maxRecDepth 100000 in
theorem ft_1_2 : FT 1 2 false .int := ⟨RJx4a65c, TJx4a65c, 3, rfl, rfl, by decide +kernel⟩
set_option maxRecDepth 100000 in
theorem fw_2 : FW 2 := ⟨RX0, TX0, 4, tyX0, rfl, by decide +kernel, by decide +kernel⟩
set_option maxRecDepth 100000 in
theorem ft_2_0 : FT 2 0 true .int := ⟨RX0, TX0, 4, rfl, rfl, by decide +kernel⟩
set_option maxRecDepth 100000 in
theorem ft_2_1 : FT 2 1 false .int := ⟨RX0, TX0, 4, rfl, rfl, by decide +kernel⟩
set_option maxRecDepth 100000 in
theorem ft_2_2 : FT 2 2 false .int := ⟨RX0, TX0, 4, rfl, rfl, by decide +kernel⟩
set_option maxRecDepth 100000 in
theorem ft_2_3 : FT 2 3 false .int := ⟨RX0, TX0, 4, rfl, rfl, by decide +kernel⟩
set_option maxRecDepth 100000 in
theorem fw_3 : FW 3 := ⟨RX1, TX1, 4, tyX1, rfl, by decide +kernel, by decide +kernel⟩
set_option maxRecDepth 100000 in
theorem ft_3_0 : FT 3 0 true .int := ⟨RX1, TX1, 4, rfl, rfl, by decide +kernel⟩
set_option maxRecDepth 100000 in
theorem ft_3_1 : FT 3 1 true .int := ⟨RX1, TX1, 4, rfl, rfl, by decide +kernel⟩
set_option maxRecDepth 100000 in
theorem ft_3_2 : FT 3 2 false .boolean := ⟨RX1, TX1, 4, rfl, rfl, by decide +kernel⟩
set_option maxRecDepth 100000 in
theorem ft_3_3 : FT 3 3 true (.array (.object "TrackNights$Values")) := ⟨RX1, TX1, 4, rfl, rfl, by decide +kernel⟩
set_option maxRecDepth 100000 in
theorem fw_4 : FW 4 := ⟨RX2, TX2, 10, tyX2, rfl, by decide +kernel, by decide +kernel⟩
set_option maxRecDepth 100000 in
theorem ft_4_0 : FT 4 0 true .int := ⟨RX2, TX2, 10, rfl, rfl, by decide +kernel⟩
set_option maxRecDepth 100000 in
theorem ft_4_1 : FT 4 1 true .int := ⟨RX2, TX2, 10, rfl, rfl, by decide +kernel⟩
set_option maxRecDepth 100000 in
theorem ft_4_2 : FT 4 2 true .int := ⟨RX2, TX2, 10, rfl, rfl, by decide +kernel⟩
set_option maxRecDepth 100000 in
theorem ft_4_3 : FT 4 3 true .int := ⟨RX2, TX2, 10, rfl, rfl, by decide +kernel⟩
set_option maxRecDepth 100000 in
theorem ft_4_4 : FT 4 4 true .int := ⟨RX2, TX2, 10, rfl, rfl, by decide +kernel⟩
set_option maxRecDepth 100000 in
theorem ft_4_5 : FT 4 5 true (.object "java/util/ArrayList") := ⟨RX2, TX2, 10, rfl, rfl, by decide +kernel⟩
set_option maxRecDepth 100000 in
theorem ft_4_6 : FT 4 6 false .int := ⟨RX2, TX2, 10, rfl, rfl, by decide +kernel⟩
set_option maxRecDepth 100000 in
theorem ft_4_7 : FT 4 7 false .boolean := ⟨RX2, TX2, 10, rfl, rfl, by decide +kernel⟩
set_option maxRecDepth 100000 in
theorem ft_4_8 : FT 4 8 false .boolean := ⟨RX2, TX2, 10, rfl, rfl, by decide +kernel⟩
set_option maxRecDepth 100000 in
theorem ft_4_9 : FT 4 9 false .int := ⟨RX2, TX2, 10, rfl, rfl, by decide +kernel⟩
set_option maxRecDepth 100000 in
theorem fw_5 : FW 5 := ⟨RX3, TX3, 5, tyX3, rfl, by decide +kernel, by decide +kernel⟩
set_option maxRecDepth 100000 in
theorem ft_5_0 : FT 5 0 true (.object "TrackNights$Values") := ⟨RX3, TX3, 5, rfl, rfl, by decide +kernel⟩
set_option maxRecDepth 100000 in
theorem ft_5_1 : FT 5 1 false .int := ⟨RX3, TX3, 5, rfl, rfl, by decide +kernel⟩
set_option maxRecDepth 100000 in
theorem ft_5_2 : FT 5 2 false .int := ⟨RX3, TX3, 5, rfl, rfl, by decide +kernel⟩
set_option maxRecDepth 100000 in
theorem ft_5_3 : FT 5 3 false .boolean := ⟨RX3, TX3, 5, rfl, rfl, by decide +kernel⟩
set_option maxRecDepth 100000 in
theorem ft_5_4 : FT 5 4 false .int := ⟨RX3, TX3, 5, rfl, rfl, by decide +kernel⟩
set_option maxRecDepth 100000 in
theorem fw_6 : FW 6 := ⟨RX4, TX4, 3, tyX4, rfl, by decide +kernel, by decide +kernel⟩
set_option maxRecDepth 100000 in
theorem ft_6_0 : FT 6 0 false .int := ⟨RX4, TX4, 3, rfl, rfl, by decide +kernel⟩
set_option maxRecDepth 100000 in
theorem ft_6_1 : FT 6 1 false .int := ⟨RX4, TX4, 3, rfl, rfl, by decide +kernel⟩
set_option maxRecDepth 100000 in
theorem ft_6_2 : FT 6 2 false .int := ⟨RX4, TX4, 3, rfl, rfl, by decide +kernel⟩
set_option maxRecDepth 100000 in
theorem fw_7 : FW 7 := ⟨RX5, TX5, 3, tyX5, rfl, by decide +kernel, by decide +kernel⟩
set_option maxRecDepth 100000 in
theorem ft_7_0 : FT 7 0 true (.object "TrackNights$Section") := ⟨RX5, TX5, 3, rfl, rfl, by decide +kernel⟩
set_option maxRecDepth 100000 in
theorem ft_7_1 : FT 7 1 true (.object "TrackNights$Machine") := ⟨RX5, TX5, 3, rfl, rfl, by decide +kernel⟩
set_option maxRecDepth 100000 in
theorem ft_7_2 : FT 7 2 true .int := ⟨RX5, TX5, 3, rfl, rfl, by decide +kernel⟩
set_option maxRecDepth 100000 in
theorem fw_8 : FW 8 := ⟨RX6, TX6, 13, tyX6, rfl, by decide +kernel, by decide +kernel⟩
set_option maxRecDepth 100000 in
theorem ft_8_0 : FT 8 0 true (.array (.object "TrackNights$Section")) := ⟨RX6, TX6, 13, rfl, rfl, by decide +kernel⟩
set_option maxRecDepth 100000 in
theorem ft_8_1 : FT 8 1 true (.object "java/util/ArrayList") := ⟨RX6, TX6, 13, rfl, rfl, by decide +kernel⟩
set_option maxRecDepth 100000 in
theorem ft_8_2 : FT 8 2 true (.object "java/util/ArrayList") := ⟨RX6, TX6, 13, rfl, rfl, by decide +kernel⟩
set_option maxRecDepth 100000 in
theorem ft_8_3 : FT 8 3 true (.object "java/util/ArrayList") := ⟨RX6, TX6, 13, rfl, rfl, by decide +kernel⟩
set_option maxRecDepth 100000 in
theorem ft_8_4 : FT 8 4 true (.object "TrackNights$Values") := ⟨RX6, TX6, 13, rfl, rfl, by decide +kernel⟩
set_option maxRecDepth 100000 in
theorem ft_8_5 : FT 8 5 true (.object "TrackNights$Section") := ⟨RX6, TX6, 13, rfl, rfl, by decide +kernel⟩
set_option maxRecDepth 100000 in
theorem ft_8_6 : FT 8 6 false .int := ⟨RX6, TX6, 13, rfl, rfl, by decide +kernel⟩
set_option maxRecDepth 100000 in
theorem ft_8_7 : FT 8 7 false .int := ⟨RX6, TX6, 13, rfl, rfl, by decide +kernel⟩
set_option maxRecDepth 100000 in
theorem ft_8_8 : FT 8 8 false .int := ⟨RX6, TX6, 13, rfl, rfl, by decide +kernel⟩
set_option maxRecDepth 100000 in
theorem ft_8_9 : FT 8 9 false .int := ⟨RX6, TX6, 13, rfl, rfl, by decide +kernel⟩
set_option maxRecDepth 100000 in
theorem ft_8_10 : FT 8 10 false .int := ⟨RX6, TX6, 13, rfl, rfl, by decide +kernel⟩
set_option maxRecDepth 100000 in
theorem ft_8_11 : FT 8 11 false .int := ⟨RX6, TX6, 13, rfl, rfl, by decide +kernel⟩
set_option maxRecDepth 100000 in
theorem ft_8_12 : FT 8 12 false .int := ⟨RX6, TX6, 13, rfl, rfl, by decide +kernel⟩
set_option maxRecDepth 100000 in
theorem fw_9 : FW 9 := ⟨RX7, TX7, 12, tyX7, rfl, by decide +kernel, by decide +kernel⟩
set_option maxRecDepth 100000 in
theorem ft_9_0 : FT 9 0 false .int := ⟨RX7, TX7, 12, rfl, rfl, by decide +kernel⟩
set_option maxRecDepth 100000 in
theorem ft_9_1 : FT 9 1 true (.array (.array .int)) := ⟨RX7, TX7, 12, rfl, rfl, by decide +kernel⟩
set_option maxRecDepth 100000 in
theorem ft_9_2 : FT 9 2 true (.object "java/util/ArrayList") := ⟨RX7, TX7, 12, rfl, rfl, by decide +kernel⟩
set_option maxRecDepth 100000 in
theorem ft_9_3 : FT 9 3 true (.object "java/util/ArrayList") := ⟨RX7, TX7, 12, rfl, rfl, by decide +kernel⟩
set_option maxRecDepth 100000 in
theorem ft_9_4 : FT 9 4 true (.object "java/util/ArrayList") := ⟨RX7, TX7, 12, rfl, rfl, by decide +kernel⟩
set_option maxRecDepth 100000 in
theorem ft_9_5 : FT 9 5 false .int := ⟨RX7, TX7, 12, rfl, rfl, by decide +kernel⟩
set_option maxRecDepth 100000 in
theorem ft_9_6 : FT 9 6 false .int := ⟨RX7, TX7, 12, rfl, rfl, by decide +kernel⟩
set_option maxRecDepth 100000 in
theorem ft_9_7 : FT 9 7 false .int := ⟨RX7, TX7, 12, rfl, rfl, by decide +kernel⟩
set_option maxRecDepth 100000 in
theorem ft_9_8 : FT 9 8 false .int := ⟨RX7, TX7, 12, rfl, rfl, by decide +kernel⟩
set_option maxRecDepth 100000 in
theorem ft_9_9 : FT 9 9 false .int := ⟨RX7, TX7, 12, rfl, rfl, by decide +kernel⟩
set_option maxRecDepth 100000 in
theorem ft_9_10 : FT 9 10 false .int := ⟨RX7, TX7, 12, rfl, rfl, by decide +kernel⟩
set_option maxRecDepth 100000 in
theorem ft_9_11 : FT 9 11 false .long := ⟨RX7, TX7, 12, rfl, rfl, by decide +kernel⟩
set_option maxRecDepth 100000 in
theorem fl_Jx4a65c_9 : FL RJx4a65c 9 1 1 := ⟨RJx4a65c, TJx4a65c, 3, "java/util/ArrayList", rfl, by decide, inJx4a65c, Or.inl (TB_1 50 rfl rfl), Or.inl rfl⟩
set_option maxRecDepth 100000 in
theorem flp_Jx4a65c_9 : FLP RJx4a65c 9 1 1 := ⟨RJx4a65c, TJx4a65c, 3, rfl, by decide, inJx4a65c, (TB_1 50 rfl rfl), rfl⟩
set_option maxRecDepth 100000 in
theorem fl_Jx35411_37 : FL RJx35411 37 1 1 := ⟨RJx4a65c, TJx4a65c, 3, "java/util/ArrayList", rfl, by decide, inJx4a65c, Or.inl (TB_1 51 rfl rfl), Or.inl rfl⟩
set_option maxRecDepth 100000 in
theorem fl_Jx4a65c_48 : FL RJx4a65c 48 1 2 := ⟨RJx4a65c, TJx4a65c, 3, "java/util/ArrayList", rfl, by decide, inJx4a65c, Or.inl (TB_1 53 rfl rfl), Or.inl rfl⟩
set_option maxRecDepth 100000 in
theorem flp_Jx4a65c_48 : FLP RJx4a65c 48 1 2 := ⟨RJx4a65c, TJx4a65c, 3, rfl, by decide, inJx4a65c, (TB_1 53 rfl rfl), rfl⟩
set_option maxRecDepth 100000 in
theorem fl_Jx35411_17 : FL RJx35411 17 1 0 := ⟨RJx4a65c, TJx4a65c, 3, "java/util/ArrayList", rfl, by decide, inJx4a65c, Or.inl (TB_1 55 rfl rfl), Or.inr (TB_1 56 rfl rfl)⟩
set_option maxRecDepth 100000 in
theorem fl_Jx4a65c_63 : FL RJx4a65c 63 1 0 := ⟨RJx4a65c, TJx4a65c, 3, "java/util/ArrayList", rfl, by decide, inJx4a65c, Or.inl (TB_1 57 rfl rfl), Or.inr (TB_1 56 rfl rfl)⟩
set_option maxRecDepth 100000 in
theorem fl_X4_9 : FL RX4 9 6 0 := ⟨RX4, TX4, 3, "TrackNights$Values", rfl, by decide, inX4, Or.inl (TB_1 71 rfl rfl), Or.inl rfl⟩
set_option maxRecDepth 100000 in
theorem flp_X4_9 : FLP RX4 9 6 0 := ⟨RX4, TX4, 3, rfl, by decide, inX4, (TB_1 71 rfl rfl), rfl⟩
set_option maxRecDepth 100000 in
theorem fl_X4_15 : FL RX4 15 6 1 := ⟨RX4, TX4, 3, "TrackNights$Values", rfl, by decide, inX4, Or.inl (TB_1 75 rfl rfl), Or.inl rfl⟩
set_option maxRecDepth 100000 in
theorem flp_X4_15 : FLP RX4 15 6 1 := ⟨RX4, TX4, 3, rfl, by decide, inX4, (TB_1 75 rfl rfl), rfl⟩
set_option maxRecDepth 100000 in
theorem fl_X4_18 : FL RX4 18 6 2 := ⟨RX4, TX4, 3, "TrackNights$Values", rfl, by decide, inX4, Or.inl (TB_1 79 rfl rfl), Or.inl rfl⟩
set_option maxRecDepth 100000 in
theorem flp_X4_18 : FLP RX4 18 6 2 := ⟨RX4, TX4, 3, rfl, by decide, inX4, (TB_1 79 rfl rfl), rfl⟩
set_option maxRecDepth 100000 in
theorem fl_X3_14 : FL RX3 14 5 0 := ⟨RX3, TX3, 5, "TrackNights$Section", rfl, by decide, inX3, Or.inl (TB_1 97 rfl rfl), Or.inl rfl⟩
set_option maxRecDepth 100000 in
theorem flp_X3_14 : FLP RX3 14 5 0 := ⟨RX3, TX3, 5, rfl, by decide, inX3, (TB_1 97 rfl rfl), rfl⟩
set_option maxRecDepth 100000 in
theorem fl_X3_20 : FL RX3 20 5 1 := ⟨RX3, TX3, 5, "TrackNights$Section", rfl, by decide, inX3, Or.inl (TB_1 99 rfl rfl), Or.inl rfl⟩
set_option maxRecDepth 100000 in
theorem flp_X3_20 : FLP RX3 20 5 1 := ⟨RX3, TX3, 5, rfl, by decide, inX3, (TB_1 99 rfl rfl), rfl⟩
set_option maxRecDepth 100000 in
theorem fl_X3_24 : FL RX3 24 5 2 := ⟨RX3, TX3, 5, "TrackNights$Section", rfl, by decide, inX3, Or.inl (TB_1 101 rfl rfl), Or.inl rfl⟩
set_option maxRecDepth 100000 in
theorem flp_X3_24 : FLP RX3 24 5 2 := ⟨RX3, TX3, 5, rfl, by decide, inX3, (TB_1 101 rfl rfl), rfl⟩
set_option maxRecDepth 100000 in
theorem fl_X3_27 : FL RX3 27 5 3 := ⟨RX3, TX3, 5, "TrackNights$Section", rfl, by decide, inX3, Or.inl (TB_1 103 rfl rfl), Or.inl rfl⟩
set_option maxRecDepth 100000 in
theorem flp_X3_27 : FLP RX3 27 5 3 := ⟨RX3, TX3, 5, rfl, by decide, inX3, (TB_1 103 rfl rfl), rfl⟩
set_option maxRecDepth 100000 in
theorem fl_X3_31 : FL RX3 31 5 4 := ⟨RX3, TX3, 5, "TrackNights$Section", rfl, by decide, inX3, Or.inl (TB_1 105 rfl rfl), Or.inl rfl⟩
set_option maxRecDepth 100000 in
theorem flp_X3_31 : FLP RX3 31 5 4 := ⟨RX3, TX3, 5, rfl, by decide, inX3, (TB_1 105 rfl rfl), rfl⟩
set_option maxRecDepth 100000 in
theorem fl_X6_11 : FL RX6 11 8 0 := ⟨RX6, TX6, 13, "TrackNights", rfl, by decide, inX6, Or.inl (TB_1 118 rfl rfl), Or.inl rfl⟩
set_option maxRecDepth 100000 in
theorem flp_X6_11 : FLP RX6 11 8 0 := ⟨RX6, TX6, 13, rfl, by decide, inX6, (TB_1 118 rfl rfl), rfl⟩
set_option maxRecDepth 100000 in
theorem fl_X6_18 : FL RX6 18 8 1 := ⟨RX6, TX6, 13, "TrackNights", rfl, by decide, inX6, Or.inl (TB_1 119 rfl rfl), Or.inl rfl⟩
set_option maxRecDepth 100000 in
theorem flp_X6_18 : FLP RX6 18 8 1 := ⟨RX6, TX6, 13, rfl, by decide, inX6, (TB_1 119 rfl rfl), rfl⟩
set_option maxRecDepth 100000 in
theorem fl_X6_22 : FL RX6 22 8 2 := ⟨RX6, TX6, 13, "TrackNights", rfl, by decide, inX6, Or.inl (TB_1 120 rfl rfl), Or.inl rfl⟩
set_option maxRecDepth 100000 in
theorem flp_X6_22 : FLP RX6 22 8 2 := ⟨RX6, TX6, 13, rfl, by decide, inX6, (TB_1 120 rfl rfl), rfl⟩
set_option maxRecDepth 100000 in
theorem fl_X6_25 : FL RX6 25 8 3 := ⟨RX6, TX6, 13, "TrackNights", rfl, by decide, inX6, Or.inl (TB_1 121 rfl rfl), Or.inl rfl⟩
set_option maxRecDepth 100000 in
theorem flp_X6_25 : FLP RX6 25 8 3 := ⟨RX6, TX6, 13, rfl, by decide, inX6, (TB_1 121 rfl rfl), rfl⟩
set_option maxRecDepth 100000 in
theorem fl_X6_33 : FL RX6 33 8 4 := ⟨RX6, TX6, 13, "TrackNights", rfl, by decide, inX6, Or.inl (TB_1 122 rfl rfl), Or.inl rfl⟩
set_option maxRecDepth 100000 in
theorem flp_X6_33 : FLP RX6 33 8 4 := ⟨RX6, TX6, 13, rfl, by decide, inX6, (TB_1 122 rfl rfl), rfl⟩
set_option maxRecDepth 100000 in
theorem fl_X6_38 : FL RX6 38 8 5 := ⟨RX6, TX6, 13, "TrackNights", rfl, by decide, inX6, Or.inl (TB_1 123 rfl rfl), Or.inl rfl⟩
set_option maxRecDepth 100000 in
theorem flp_X6_38 : FLP RX6 38 8 5 := ⟨RX6, TX6, 13, rfl, by decide, inX6, (TB_1 123 rfl rfl), rfl⟩
set_option maxRecDepth 100000 in
theorem fl_X6_42 : FL RX6 42 8 6 := ⟨RX6, TX6, 13, "TrackNights", rfl, by decide, inX6, Or.inl (TB_1 124 rfl rfl), Or.inl rfl⟩
set_option maxRecDepth 100000 in
theorem flp_X6_42 : FLP RX6 42 8 6 := ⟨RX6, TX6, 13, rfl, by decide, inX6, (TB_1 124 rfl rfl), rfl⟩
set_option maxRecDepth 100000 in
theorem fl_X6_46 : FL RX6 46 8 7 := ⟨RX6, TX6, 13, "TrackNights", rfl, by decide, inX6, Or.inl (TB_1 125 rfl rfl), Or.inl rfl⟩
set_option maxRecDepth 100000 in
theorem flp_X6_46 : FLP RX6 46 8 7 := ⟨RX6, TX6, 13, rfl, by decide, inX6, (TB_1 125 rfl rfl), rfl⟩
set_option maxRecDepth 100000 in
theorem fl_X6_49 : FL RX6 49 8 8 := ⟨RX6, TX6, 13, "TrackNights", rfl, by decide, inX6, Or.inl (TB_1 126 rfl rfl), Or.inl rfl⟩
set_option maxRecDepth 100000 in
theorem flp_X6_49 : FLP RX6 49 8 8 := ⟨RX6, TX6, 13, rfl, by decide, inX6, (TB_1 126 rfl rfl), rfl⟩
set_option maxRecDepth 100000 in
theorem fl_X6_52 : FL RX6 52 8 9 := ⟨RX6, TX6, 13, "TrackNights", rfl, by decide, inX6, Or.inl (TB_1 127 rfl rfl), Or.inl rfl⟩
set_option maxRecDepth 100000 in
theorem flp_X6_52 : FLP RX6 52 8 9 := ⟨RX6, TX6, 13, rfl, by decide, inX6, (TB_1 127 rfl rfl), rfl⟩
set_option maxRecDepth 100000 in
theorem fl_X6_55 : FL RX6 55 8 10 := ⟨RX6, TX6, 13, "TrackNights", rfl, by decide, inX6, Or.inl (TB_1 128 rfl rfl), Or.inl rfl⟩
set_option maxRecDepth 100000 in
theorem flp_X6_55 : FLP RX6 55 8 10 := ⟨RX6, TX6, 13, rfl, by decide, inX6, (TB_1 128 rfl rfl), rfl⟩
set_option maxRecDepth 100000 in
theorem fl_X6_58 : FL RX6 58 8 11 := ⟨RX6, TX6, 13, "TrackNights", rfl, by decide, inX6, Or.inl (TB_1 129 rfl rfl), Or.inl rfl⟩
set_option maxRecDepth 100000 in
theorem flp_X6_58 : FLP RX6 58 8 11 := ⟨RX6, TX6, 13, rfl, by decide, inX6, (TB_1 129 rfl rfl), rfl⟩
set_option maxRecDepth 100000 in
theorem fl_X6_61 : FL RX6 61 8 12 := ⟨RX6, TX6, 13, "TrackNights", rfl, by decide, inX6, Or.inl (TB_1 130 rfl rfl), Or.inl rfl⟩
set_option maxRecDepth 100000 in
theorem flp_X6_61 : FLP RX6 61 8 12 := ⟨RX6, TX6, 13, rfl, by decide, inX6, (TB_1 130 rfl rfl), rfl⟩
set_option maxRecDepth 100000 in
theorem fl_X1_21 : FL RX1 21 3 0 := ⟨RX1, TX1, 4, "TrackNights$Measure", rfl, by decide, inX1, Or.inl (TB_3 80 rfl rfl), Or.inl rfl⟩
set_option maxRecDepth 100000 in
theorem flp_X1_21 : FLP RX1 21 3 0 := ⟨RX1, TX1, 4, rfl, by decide, inX1, (TB_3 80 rfl rfl), rfl⟩
set_option maxRecDepth 100000 in
theorem fl_X1_25 : FL RX1 25 3 1 := ⟨RX1, TX1, 4, "TrackNights$Measure", rfl, by decide, inX1, Or.inl (TB_3 81 rfl rfl), Or.inl rfl⟩
set_option maxRecDepth 100000 in
theorem flp_X1_25 : FLP RX1 25 3 1 := ⟨RX1, TX1, 4, rfl, by decide, inX1, (TB_3 81 rfl rfl), rfl⟩
set_option maxRecDepth 100000 in
theorem fl_X1_9 : FL RX1 9 3 2 := ⟨RX1, TX1, 4, "TrackNights$Measure", rfl, by decide, inX1, Or.inl (TB_3 83 rfl rfl), Or.inl rfl⟩
set_option maxRecDepth 100000 in
theorem flp_X1_9 : FLP RX1 9 3 2 := ⟨RX1, TX1, 4, rfl, by decide, inX1, (TB_3 83 rfl rfl), rfl⟩
set_option maxRecDepth 100000 in
theorem fl_X1_17 : FL RX1 17 3 3 := ⟨RX1, TX1, 4, "TrackNights$Measure", rfl, by decide, inX1, Or.inl (TB_3 85 rfl rfl), Or.inl rfl⟩
set_option maxRecDepth 100000 in
theorem flp_X1_17 : FLP RX1 17 3 3 := ⟨RX1, TX1, 4, rfl, by decide, inX1, (TB_3 85 rfl rfl), rfl⟩
set_option maxRecDepth 100000 in
theorem fl_X0_16 : FL RX0 16 2 0 := ⟨RX0, TX0, 4, "TrackNights$Machine", rfl, by decide, inX0, Or.inl (TB_3 180 rfl rfl), Or.inl rfl⟩
set_option maxRecDepth 100000 in
theorem flp_X0_16 : FLP RX0 16 2 0 := ⟨RX0, TX0, 4, rfl, by decide, inX0, (TB_3 180 rfl rfl), rfl⟩
set_option maxRecDepth 100000 in
theorem fl_X0_19 : FL RX0 19 2 1 := ⟨RX0, TX0, 4, "TrackNights$Machine", rfl, by decide, inX0, Or.inl (TB_3 182 rfl rfl), Or.inl rfl⟩
set_option maxRecDepth 100000 in
theorem flp_X0_19 : FLP RX0 19 2 1 := ⟨RX0, TX0, 4, rfl, by decide, inX0, (TB_3 182 rfl rfl), rfl⟩
set_option maxRecDepth 100000 in
theorem fl_X0_7 : FL RX0 7 2 2 := ⟨RX0, TX0, 4, "TrackNights$Machine", rfl, by decide, inX0, Or.inl (TB_3 185 rfl rfl), Or.inl rfl⟩
set_option maxRecDepth 100000 in
theorem flp_X0_7 : FLP RX0 7 2 2 := ⟨RX0, TX0, 4, rfl, by decide, inX0, (TB_3 185 rfl rfl), rfl⟩
set_option maxRecDepth 100000 in
theorem fl_X0_13 : FL RX0 13 2 3 := ⟨RX0, TX0, 4, "TrackNights$Machine", rfl, by decide, inX0, Or.inl (TB_3 187 rfl rfl), Or.inl rfl⟩
set_option maxRecDepth 100000 in
theorem flp_X0_13 : FLP RX0 13 2 3 := ⟨RX0, TX0, 4, rfl, by decide, inX0, (TB_3 187 rfl rfl), rfl⟩
set_option maxRecDepth 100000 in
theorem fl_X2_32 : FL RX2 32 4 0 := ⟨RX2, TX2, 10, "TrackNights$Possession", rfl, by decide, inX2, Or.inl (TB_3 232 rfl rfl), Or.inl rfl⟩
set_option maxRecDepth 100000 in
theorem flp_X2_32 : FLP RX2 32 4 0 := ⟨RX2, TX2, 10, rfl, by decide, inX2, (TB_3 232 rfl rfl), rfl⟩
set_option maxRecDepth 100000 in
theorem fl_X2_35 : FL RX2 35 4 1 := ⟨RX2, TX2, 10, "TrackNights$Possession", rfl, by decide, inX2, Or.inl (TB_3 234 rfl rfl), Or.inl rfl⟩
set_option maxRecDepth 100000 in
theorem flp_X2_35 : FLP RX2 35 4 1 := ⟨RX2, TX2, 10, rfl, by decide, inX2, (TB_3 234 rfl rfl), rfl⟩
set_option maxRecDepth 100000 in
theorem fl_X2_38 : FL RX2 38 4 2 := ⟨RX2, TX2, 10, "TrackNights$Possession", rfl, by decide, inX2, Or.inl (TB_3 236 rfl rfl), Or.inl rfl⟩
set_option maxRecDepth 100000 in
theorem flp_X2_38 : FLP RX2 38 4 2 := ⟨RX2, TX2, 10, rfl, by decide, inX2, (TB_3 236 rfl rfl), rfl⟩
set_option maxRecDepth 100000 in
theorem fl_X2_41 : FL RX2 41 4 3 := ⟨RX2, TX2, 10, "TrackNights$Possession", rfl, by decide, inX2, Or.inl (TB_3 238 rfl rfl), Or.inl rfl⟩
set_option maxRecDepth 100000 in
theorem flp_X2_41 : FLP RX2 41 4 3 := ⟨RX2, TX2, 10, rfl, by decide, inX2, (TB_3 238 rfl rfl), rfl⟩
set_option maxRecDepth 100000 in
theorem fl_X2_44 : FL RX2 44 4 4 := ⟨RX2, TX2, 10, "TrackNights$Possession", rfl, by decide, inX2, Or.inl (TB_4 0 rfl rfl), Or.inl rfl⟩
set_option maxRecDepth 100000 in
theorem flp_X2_44 : FLP RX2 44 4 4 := ⟨RX2, TX2, 10, rfl, by decide, inX2, (TB_4 0 rfl rfl), rfl⟩
set_option maxRecDepth 100000 in
theorem fl_X2_12 : FL RX2 12 4 5 := ⟨RX2, TX2, 10, "TrackNights$Possession", rfl, by decide, inX2, Or.inl (TB_4 2 rfl rfl), Or.inl rfl⟩
set_option maxRecDepth 100000 in
theorem flp_X2_12 : FLP RX2 12 4 5 := ⟨RX2, TX2, 10, rfl, by decide, inX2, (TB_4 2 rfl rfl), rfl⟩
set_option maxRecDepth 100000 in
theorem fl_X2_18 : FL RX2 18 4 6 := ⟨RX2, TX2, 10, "TrackNights$Possession", rfl, by decide, inX2, Or.inl (TB_4 4 rfl rfl), Or.inl rfl⟩
set_option maxRecDepth 100000 in
theorem flp_X2_18 : FLP RX2 18 4 6 := ⟨RX2, TX2, 10, rfl, by decide, inX2, (TB_4 4 rfl rfl), rfl⟩
set_option maxRecDepth 100000 in
theorem fl_X2_22 : FL RX2 22 4 7 := ⟨RX2, TX2, 10, "TrackNights$Possession", rfl, by decide, inX2, Or.inl (TB_4 6 rfl rfl), Or.inl rfl⟩
set_option maxRecDepth 100000 in
theorem flp_X2_22 : FLP RX2 22 4 7 := ⟨RX2, TX2, 10, rfl, by decide, inX2, (TB_4 6 rfl rfl), rfl⟩
set_option maxRecDepth 100000 in
theorem fl_X2_26 : FL RX2 26 4 8 := ⟨RX2, TX2, 10, "TrackNights$Possession", rfl, by decide, inX2, Or.inl (TB_4 7 rfl rfl), Or.inl rfl⟩
set_option maxRecDepth 100000 in
theorem flp_X2_26 : FLP RX2 26 4 8 := ⟨RX2, TX2, 10, rfl, by decide, inX2, (TB_4 7 rfl rfl), rfl⟩
set_option maxRecDepth 100000 in
theorem fl_X2_29 : FL RX2 29 4 9 := ⟨RX2, TX2, 10, "TrackNights$Possession", rfl, by decide, inX2, Or.inl (TB_4 8 rfl rfl), Or.inl rfl⟩
set_option maxRecDepth 100000 in
theorem flp_X2_29 : FLP RX2 29 4 9 := ⟨RX2, TX2, 10, rfl, by decide, inX2, (TB_4 8 rfl rfl), rfl⟩
set_option maxRecDepth 100000 in
theorem fl_X5_7 : FL RX5 7 7 0 := ⟨RX5, TX5, 3, "TrackNights$Work", rfl, by decide, inX5, Or.inl (TB_4 60 rfl rfl), Or.inl rfl⟩
set_option maxRecDepth 100000 in
theorem flp_X5_7 : FLP RX5 7 7 0 := ⟨RX5, TX5, 3, rfl, by decide, inX5, (TB_4 60 rfl rfl), rfl⟩
set_option maxRecDepth 100000 in
theorem fl_X5_13 : FL RX5 13 7 1 := ⟨RX5, TX5, 3, "TrackNights$Work", rfl, by decide, inX5, Or.inl (TB_4 62 rfl rfl), Or.inl rfl⟩
set_option maxRecDepth 100000 in
theorem flp_X5_13 : FLP RX5 13 7 1 := ⟨RX5, TX5, 3, rfl, by decide, inX5, (TB_4 62 rfl rfl), rfl⟩
set_option maxRecDepth 100000 in
theorem fl_X5_17 : FL RX5 17 7 2 := ⟨RX5, TX5, 3, "TrackNights$Work", rfl, by decide, inX5, Or.inl (TB_4 65 rfl rfl), Or.inl rfl⟩
set_option maxRecDepth 100000 in
theorem flp_X5_17 : FLP RX5 17 7 2 := ⟨RX5, TX5, 3, rfl, by decide, inX5, (TB_4 65 rfl rfl), rfl⟩
set_option maxRecDepth 100000 in
theorem fl_X7_31 : FL RX7 31 9 0 := ⟨RX7, TX7, 12, "TrackNightsModel", rfl, by decide, inX7, Or.inl (TB_4 201 rfl rfl), Or.inl rfl⟩
set_option maxRecDepth 100000 in
theorem flp_X7_31 : FLP RX7 31 9 0 := ⟨RX7, TX7, 12, rfl, by decide, inX7, (TB_4 201 rfl rfl), rfl⟩
set_option maxRecDepth 100000 in
theorem fl_X7_11 : FL RX7 11 9 1 := ⟨RX7, TX7, 12, "TrackNightsModel", rfl, by decide, inX7, Or.inl (TB_4 202 rfl rfl), Or.inl rfl⟩
set_option maxRecDepth 100000 in
theorem flp_X7_11 : FLP RX7 11 9 1 := ⟨RX7, TX7, 12, rfl, by decide, inX7, (TB_4 202 rfl rfl), rfl⟩
set_option maxRecDepth 100000 in
theorem fl_X7_17 : FL RX7 17 9 2 := ⟨RX7, TX7, 12, "TrackNightsModel", rfl, by decide, inX7, Or.inl (TB_4 203 rfl rfl), Or.inl rfl⟩
set_option maxRecDepth 100000 in
theorem flp_X7_17 : FLP RX7 17 9 2 := ⟨RX7, TX7, 12, rfl, by decide, inX7, (TB_4 203 rfl rfl), rfl⟩
set_option maxRecDepth 100000 in
theorem fl_X7_21 : FL RX7 21 9 3 := ⟨RX7, TX7, 12, "TrackNightsModel", rfl, by decide, inX7, Or.inl (TB_4 204 rfl rfl), Or.inl rfl⟩
set_option maxRecDepth 100000 in
theorem flp_X7_21 : FLP RX7 21 9 3 := ⟨RX7, TX7, 12, rfl, by decide, inX7, (TB_4 204 rfl rfl), rfl⟩
set_option maxRecDepth 100000 in
theorem fl_X7_24 : FL RX7 24 9 4 := ⟨RX7, TX7, 12, "TrackNightsModel", rfl, by decide, inX7, Or.inl (TB_4 205 rfl rfl), Or.inl rfl⟩
set_option maxRecDepth 100000 in
theorem flp_X7_24 : FLP RX7 24 9 4 := ⟨RX7, TX7, 12, rfl, by decide, inX7, (TB_4 205 rfl rfl), rfl⟩
set_option maxRecDepth 100000 in
theorem fl_X7_93 : FL RX7 93 9 5 := ⟨RX7, TX7, 12, "TrackNightsModel", rfl, by decide, inX7, Or.inl (TB_4 206 rfl rfl), Or.inl rfl⟩
set_option maxRecDepth 100000 in
theorem flp_X7_93 : FLP RX7 93 9 5 := ⟨RX7, TX7, 12, rfl, by decide, inX7, (TB_4 206 rfl rfl), rfl⟩
set_option maxRecDepth 100000 in
theorem fl_X7_27 : FL RX7 27 9 6 := ⟨RX7, TX7, 12, "TrackNightsModel", rfl, by decide, inX7, Or.inl (TB_4 207 rfl rfl), Or.inl rfl⟩
set_option maxRecDepth 100000 in
theorem flp_X7_27 : FLP RX7 27 9 6 := ⟨RX7, TX7, 12, rfl, by decide, inX7, (TB_4 207 rfl rfl), rfl⟩
set_option maxRecDepth 100000 in
theorem fl_X7_103 : FL RX7 103 9 7 := ⟨RX7, TX7, 12, "TrackNightsModel", rfl, by decide, inX7, Or.inl (TB_4 208 rfl rfl), Or.inl rfl⟩
set_option maxRecDepth 100000 in
theorem flp_X7_103 : FLP RX7 103 9 7 := ⟨RX7, TX7, 12, rfl, by decide, inX7, (TB_4 208 rfl rfl), rfl⟩
set_option maxRecDepth 100000 in
theorem fl_X7_109 : FL RX7 109 9 8 := ⟨RX7, TX7, 12, "TrackNightsModel", rfl, by decide, inX7, Or.inl (TB_4 209 rfl rfl), Or.inl rfl⟩
set_option maxRecDepth 100000 in
theorem flp_X7_109 : FLP RX7 109 9 8 := ⟨RX7, TX7, 12, rfl, by decide, inX7, (TB_4 209 rfl rfl), rfl⟩
set_option maxRecDepth 100000 in
theorem fl_X7_106 : FL RX7 106 9 9 := ⟨RX7, TX7, 12, "TrackNightsModel", rfl, by decide, inX7, Or.inl (TB_4 210 rfl rfl), Or.inl rfl⟩
set_option maxRecDepth 100000 in
theorem flp_X7_106 : FLP RX7 106 9 9 := ⟨RX7, TX7, 12, rfl, by decide, inX7, (TB_4 210 rfl rfl), rfl⟩
set_option maxRecDepth 100000 in
theorem fl_X7_168 : FL RX7 168 9 10 := ⟨RX7, TX7, 12, "TrackNightsModel", rfl, by decide, inX7, Or.inl (TB_4 211 rfl rfl), Or.inl rfl⟩
set_option maxRecDepth 100000 in
theorem flp_X7_168 : FLP RX7 168 9 10 := ⟨RX7, TX7, 12, rfl, by decide, inX7, (TB_4 211 rfl rfl), rfl⟩
set_option maxRecDepth 100000 in
theorem fl_X7_216 : FL RX7 216 9 11 := ⟨RX7, TX7, 12, "TrackNightsModel", rfl, by decide, inX7, Or.inl (TB_4 212 rfl rfl), Or.inl rfl⟩
set_option maxRecDepth 100000 in
theorem flp_X7_216 : FLP RX7 216 9 11 := ⟨RX7, TX7, 12, rfl, by decide, inX7, (TB_4 212 rfl rfl), rfl⟩
set_option maxRecDepth 100000 in
theorem fl_Jx35411_25 : FL RJx35411 25 0 0 := ⟨RJx35411, TJx35411, 4, "java/util/ArrayList$Itr", rfl, by decide, inJx35411, Or.inl (TB_5 42 rfl rfl), Or.inl rfl⟩
set_option maxRecDepth 100000 in
theorem flp_Jx35411_25 : FLP RJx35411 25 0 0 := ⟨RJx35411, TJx35411, 4, rfl, by decide, inJx35411, (TB_5 42 rfl rfl), rfl⟩
set_option maxRecDepth 100000 in
theorem fl_Jx35411_13 : FL RJx35411 13 0 1 := ⟨RJx35411, TJx35411, 4, "java/util/ArrayList$Itr", rfl, by decide, inJx35411, Or.inl (TB_5 43 rfl rfl), Or.inl rfl⟩
set_option maxRecDepth 100000 in
theorem flp_Jx35411_13 : FLP RJx35411 13 0 1 := ⟨RJx35411, TJx35411, 4, rfl, by decide, inJx35411, (TB_5 43 rfl rfl), rfl⟩
set_option maxRecDepth 100000 in
theorem fl_Jx35411_22 : FL RJx35411 22 0 2 := ⟨RJx35411, TJx35411, 4, "java/util/ArrayList$Itr", rfl, by decide, inJx35411, Or.inl (TB_5 44 rfl rfl), Or.inl rfl⟩
set_option maxRecDepth 100000 in
theorem flp_Jx35411_22 : FLP RJx35411 22 0 2 := ⟨RJx35411, TJx35411, 4, rfl, by decide, inJx35411, (TB_5 44 rfl rfl), rfl⟩
set_option maxRecDepth 100000 in
theorem fl_Jx35411_1 : FL RJx35411 1 0 3 := ⟨RJx35411, TJx35411, 4, "java/util/ArrayList$Itr", rfl, by decide, inJx35411, Or.inl (TB_5 45 rfl rfl), Or.inl rfl⟩
set_option maxRecDepth 100000 in
theorem flp_Jx35411_1 : FLP RJx35411 1 0 3 := ⟨RJx35411, TJx35411, 4, rfl, by decide, inJx35411, (TB_5 45 rfl rfl), rfl⟩
set_option maxRecDepth 100000 in
theorem fl_Jx35411_28 : FL RJx35411 28 1 2 := ⟨RJx4a65c, TJx4a65c, 3, "java/util/ArrayList", rfl, by decide, inJx4a65c, Or.inr ⟨"java/util/ArrayList", (NB_1 52 rfl rfl)⟩, Or.inl rfl⟩
set_option maxRecDepth 100000 in
theorem fl_X3_34 : FL RX3 34 6 0 := ⟨RX4, TX4, 3, "TrackNights$Values", rfl, by decide, inX4, Or.inr ⟨"TrackNights", (NB_1 72 rfl rfl)⟩, Or.inl rfl⟩
set_option maxRecDepth 100000 in
theorem fl_X1_31 : FL RX1 31 6 0 := ⟨RX4, TX4, 3, "TrackNights$Values", rfl, by decide, inX4, Or.inr ⟨"TrackNights", (NB_1 73 rfl rfl)⟩, Or.inl rfl⟩
set_option maxRecDepth 100000 in
theorem fl_X6_274 : FL RX6 274 6 0 := ⟨RX4, TX4, 3, "TrackNights$Values", rfl, by decide, inX4, Or.inr ⟨"TrackNights", (NB_1 74 rfl rfl)⟩, Or.inl rfl⟩
set_option maxRecDepth 100000 in
theorem fl_X1_28 : FL RX1 28 6 1 := ⟨RX4, TX4, 3, "TrackNights$Values", rfl, by decide, inX4, Or.inr ⟨"TrackNights", (NB_1 76 rfl rfl)⟩, Or.inl rfl⟩
set_option maxRecDepth 100000 in
theorem fl_X3_37 : FL RX3 37 6 1 := ⟨RX4, TX4, 3, "TrackNights$Values", rfl, by decide, inX4, Or.inr ⟨"TrackNights", (NB_1 77 rfl rfl)⟩, Or.inl rfl⟩
set_option maxRecDepth 100000 in
theorem fl_X6_277 : FL RX6 277 6 1 := ⟨RX4, TX4, 3, "TrackNights$Values", rfl, by decide, inX4, Or.inr ⟨"TrackNights", (NB_1 78 rfl rfl)⟩, Or.inl rfl⟩
set_option maxRecDepth 100000 in
theorem fl_X3_40 : FL RX3 40 6 2 := ⟨RX4, TX4, 3, "TrackNights$Values", rfl, by decide, inX4, Or.inr ⟨"TrackNights", (NB_1 80 rfl rfl)⟩, Or.inl rfl⟩
set_option maxRecDepth 100000 in
theorem fl_X1_34 : FL RX1 34 6 2 := ⟨RX4, TX4, 3, "TrackNights$Values", rfl, by decide, inX4, Or.inr ⟨"TrackNights", (NB_1 81 rfl rfl)⟩, Or.inl rfl⟩
set_option maxRecDepth 100000 in
theorem fl_X6_280 : FL RX6 280 6 2 := ⟨RX4, TX4, 3, "TrackNights$Values", rfl, by decide, inX4, Or.inr ⟨"TrackNights", (NB_1 82 rfl rfl)⟩, Or.inl rfl⟩
set_option maxRecDepth 100000 in
theorem fl_X6_114 : FL RX6 114 5 0 := ⟨RX3, TX3, 5, "TrackNights$Section", rfl, by decide, inX3, Or.inr ⟨"TrackNights", (NB_1 98 rfl rfl)⟩, Or.inl rfl⟩
set_option maxRecDepth 100000 in
theorem fl_X6_283 : FL RX6 283 5 1 := ⟨RX3, TX3, 5, "TrackNights$Section", rfl, by decide, inX3, Or.inr ⟨"TrackNights", (NB_1 100 rfl rfl)⟩, Or.inl rfl⟩
set_option maxRecDepth 100000 in
theorem fl_X6_286 : FL RX6 286 5 2 := ⟨RX3, TX3, 5, "TrackNights$Section", rfl, by decide, inX3, Or.inr ⟨"TrackNights", (NB_1 102 rfl rfl)⟩, Or.inl rfl⟩
set_option maxRecDepth 100000 in
theorem fl_X6_68 : FL RX6 68 5 3 := ⟨RX3, TX3, 5, "TrackNights$Section", rfl, by decide, inX3, Or.inr ⟨"TrackNights", (NB_1 104 rfl rfl)⟩, Or.inl rfl⟩
set_option maxRecDepth 100000 in
theorem fl_X6_79 : FL RX6 79 5 4 := ⟨RX3, TX3, 5, "TrackNights$Section", rfl, by decide, inX3, Or.inr ⟨"TrackNights", (NB_1 106 rfl rfl)⟩, Or.inl rfl⟩
set_option maxRecDepth 100000 in
theorem fl_X6_139 : FL RX6 139 3 1 := ⟨RX1, TX1, 4, "TrackNights$Measure", rfl, by decide, inX1, Or.inr ⟨"TrackNights", (NB_3 82 rfl rfl)⟩, Or.inl rfl⟩
set_option maxRecDepth 100000 in
theorem fl_X6_134 : FL RX6 134 3 2 := ⟨RX1, TX1, 4, "TrackNights$Measure", rfl, by decide, inX1, Or.inr ⟨"TrackNights", (NB_3 84 rfl rfl)⟩, Or.inl rfl⟩
set_option maxRecDepth 100000 in
theorem fl_X6_201 : FL RX6 201 2 0 := ⟨RX0, TX0, 4, "TrackNights$Machine", rfl, by decide, inX0, Or.inr ⟨"TrackNights", (NB_3 181 rfl rfl)⟩, Or.inl rfl⟩
set_option maxRecDepth 100000 in
theorem fl_X6_161 : FL RX6 161 2 1 := ⟨RX0, TX0, 4, "TrackNights$Machine", rfl, by decide, inX0, Or.inr ⟨"TrackNights", (NB_3 183 rfl rfl)⟩, Or.inl rfl⟩
set_option maxRecDepth 100000 in
theorem fl_X2_62 : FL RX2 62 2 1 := ⟨RX0, TX0, 4, "TrackNights$Machine", rfl, by decide, inX0, Or.inr ⟨"TrackNights", (NB_3 184 rfl rfl)⟩, Or.inl rfl⟩
set_option maxRecDepth 100000 in
theorem fl_X6_309 : FL RX6 309 2 2 := ⟨RX0, TX0, 4, "TrackNights$Machine", rfl, by decide, inX0, Or.inr ⟨"TrackNights", (NB_3 186 rfl rfl)⟩, Or.inl rfl⟩
set_option maxRecDepth 100000 in
theorem fl_X6_312 : FL RX6 312 2 3 := ⟨RX0, TX0, 4, "TrackNights$Machine", rfl, by decide, inX0, Or.inr ⟨"TrackNights", (NB_3 188 rfl rfl)⟩, Or.inl rfl⟩
set_option maxRecDepth 100000 in
theorem fl_X6_317 : FL RX6 317 4 0 := ⟨RX2, TX2, 10, "TrackNights$Possession", rfl, by decide, inX2, Or.inr ⟨"TrackNights", (NB_3 233 rfl rfl)⟩, Or.inl rfl⟩
set_option maxRecDepth 100000 in
theorem fl_X6_250 : FL RX6 250 4 1 := ⟨RX2, TX2, 10, "TrackNights$Possession", rfl, by decide, inX2, Or.inr ⟨"TrackNights", (NB_3 235 rfl rfl)⟩, Or.inl rfl⟩
set_option maxRecDepth 100000 in
theorem fl_X6_247 : FL RX6 247 4 2 := ⟨RX2, TX2, 10, "TrackNights$Possession", rfl, by decide, inX2, Or.inr ⟨"TrackNights", (NB_3 237 rfl rfl)⟩, Or.inl rfl⟩
set_option maxRecDepth 100000 in
theorem fl_X6_227 : FL RX6 227 4 3 := ⟨RX2, TX2, 10, "TrackNights$Possession", rfl, by decide, inX2, Or.inr ⟨"TrackNights", (NB_3 239 rfl rfl)⟩, Or.inl rfl⟩
set_option maxRecDepth 100000 in
theorem fl_X6_211 : FL RX6 211 4 4 := ⟨RX2, TX2, 10, "TrackNights$Possession", rfl, by decide, inX2, Or.inr ⟨"TrackNights", (NB_4 1 rfl rfl)⟩, Or.inl rfl⟩
set_option maxRecDepth 100000 in
theorem fl_X6_196 : FL RX6 196 4 5 := ⟨RX2, TX2, 10, "TrackNights$Possession", rfl, by decide, inX2, Or.inr ⟨"TrackNights", (NB_4 3 rfl rfl)⟩, Or.inl rfl⟩
set_option maxRecDepth 100000 in
theorem fl_X6_191 : FL RX6 191 4 6 := ⟨RX2, TX2, 10, "TrackNights$Possession", rfl, by decide, inX2, Or.inr ⟨"TrackNights", (NB_4 5 rfl rfl)⟩, Or.inl rfl⟩
set_option maxRecDepth 100000 in
theorem fl_X6_259 : FL RX6 259 4 9 := ⟨RX2, TX2, 10, "TrackNights$Possession", rfl, by decide, inX2, Or.inr ⟨"TrackNights", (NB_4 9 rfl rfl)⟩, Or.inl rfl⟩
set_option maxRecDepth 100000 in
theorem fl_X6_457 : FL RX6 457 7 0 := ⟨RX5, TX5, 3, "TrackNights$Work", rfl, by decide, inX5, Or.inr ⟨"TrackNights", (NB_4 61 rfl rfl)⟩, Or.inl rfl⟩
set_option maxRecDepth 100000 in
theorem fl_X2_57 : FL RX2 57 7 1 := ⟨RX5, TX5, 3, "TrackNights$Work", rfl, by decide, inX5, Or.inr ⟨"TrackNights", (NB_4 63 rfl rfl)⟩, Or.inl rfl⟩
set_option maxRecDepth 100000 in
theorem fl_X6_452 : FL RX6 452 7 1 := ⟨RX5, TX5, 3, "TrackNights$Work", rfl, by decide, inX5, Or.inr ⟨"TrackNights", (NB_4 64 rfl rfl)⟩, Or.inl rfl⟩
set_option maxRecDepth 100000 in
theorem fl_X2_61 : FL RX2 61 7 2 := ⟨RX5, TX5, 3, "TrackNights$Work", rfl, by decide, inX5, Or.inr ⟨"TrackNights", (NB_4 66 rfl rfl)⟩, Or.inl rfl⟩
set_option maxRecDepth 100000 in
theorem fl_X6_456 : FL RX6 456 7 2 := ⟨RX5, TX5, 3, "TrackNights$Work", rfl, by decide, inX5, Or.inr ⟨"TrackNights", (NB_4 67 rfl rfl)⟩, Or.inl rfl⟩
set_option maxRecDepth 100000 in
theorem nw_L_8 : NW RL 8 8 13 [.null, .null, .null, .null, .null, .null, .int 0, .int 0, .int 0, .int 0, .int 0, .int 0, .int 0] := ⟨RX6, TX6, tyX6, rfl, inX6, by decide +kernel, (TB_1 26 rfl rfl), (TB_1 27 rfl rfl), (TB_1 1 rfl rfl), by intro j hj; match j, hj with | 0, _ => rfl | 1, _ => rfl | 2, _ => rfl | 3, _ => rfl | 4, _ => rfl | 5, _ => rfl | 6, _ => rfl | 7, _ => rfl | 8, _ => rfl | 9, _ => rfl | 10, _ => rfl | 11, _ => rfl | 12, _ => rfl | n + 13, h => exact absurd h (by omega)⟩
set_option maxRecDepth 100000 in
theorem nw_X6_9 : NW RX6 9 5 5 [.null, .int 0, .int 0, .int 0, .int 0] := ⟨RX3, TX3, tyX3, rfl, inX3, by decide +kernel, (TB_1 34 rfl rfl), (TB_1 90 rfl rfl), (TB_1 6 rfl rfl), by intro j hj; match j, hj with | 0, _ => rfl | 1, _ => rfl | 2, _ => rfl | 3, _ => rfl | 4, _ => rfl | n + 5, h => exact absurd h (by omega)⟩
set_option maxRecDepth 100000 in
theorem nw_X6_15 : NW RX6 15 1 3 [.int 0, .null, .int 0] := ⟨RJx4a65c, TJx4a65c, tyJx4a65c, rfl, inJx4a65c, by decide +kernel, (TB_1 36 rfl rfl), (TB_1 37 rfl rfl), (TB_1 4 rfl rfl), by intro j hj; match j, hj with | 0, _ => rfl | 1, _ => rfl | 2, _ => rfl | n + 3, h => exact absurd h (by omega)⟩
set_option maxRecDepth 100000 in
theorem nw_X6_28 : NW RX6 28 6 3 [.int 0, .int 0, .int 0] := ⟨RX4, TX4, tyX4, rfl, inX4, by decide +kernel, (TB_1 65 rfl rfl), (TB_1 66 rfl rfl), (TB_1 5 rfl rfl), by intro j hj; match j, hj with | 0, _ => rfl | 1, _ => rfl | 2, _ => rfl | n + 3, h => exact absurd h (by omega)⟩
set_option maxRecDepth 100000 in
theorem nw_X3_9 : NW RX3 9 6 3 [.int 0, .int 0, .int 0] := ⟨RX4, TX4, tyX4, rfl, inX4, by decide +kernel, (TB_1 95 rfl rfl), (TB_1 66 rfl rfl), (TB_1 5 rfl rfl), by intro j hj; match j, hj with | 0, _ => rfl | 1, _ => rfl | 2, _ => rfl | n + 3, h => exact absurd h (by omega)⟩
set_option maxRecDepth 100000 in
theorem nw_X6_110 : NW RX6 110 3 4 [.int 0, .int 0, .int 0, .null] := ⟨RX1, TX1, tyX1, rfl, inX1, by decide +kernel, (TB_1 190 rfl rfl), (TB_2 9 rfl rfl), (TB_1 18 rfl rfl), by intro j hj; match j, hj with | 0, _ => rfl | 1, _ => rfl | 2, _ => rfl | 3, _ => rfl | n + 4, h => exact absurd h (by omega)⟩
set_option maxRecDepth 100000 in
theorem nw_X6_176 : NW RX6 176 4 10 [.int 0, .int 0, .int 0, .int 0, .int 0, .null, .int 0, .int 0, .int 0, .int 0] := ⟨RX2, TX2, tyX2, rfl, inX2, by decide +kernel, (TB_1 195 rfl rfl), (TB_3 225 rfl rfl), (TB_1 23 rfl rfl), by intro j hj; match j, hj with | 0, _ => rfl | 1, _ => rfl | 2, _ => rfl | 3, _ => rfl | 4, _ => rfl | 5, _ => rfl | 6, _ => rfl | 7, _ => rfl | 8, _ => rfl | 9, _ => rfl | n + 10, h => exact absurd h (by omega)⟩
set_option maxRecDepth 100000 in
theorem nw_X6_148 : NW RX6 148 2 4 [.int 0, .int 0, .int 0, .int 0] := ⟨RX0, TX0, tyX0, rfl, inX0, by decide +kernel, (TB_2 190 rfl rfl), (TB_3 175 rfl rfl), (TB_1 22 rfl rfl), by intro j hj; match j, hj with | 0, _ => rfl | 1, _ => rfl | 2, _ => rfl | 3, _ => rfl | n + 4, h => exact absurd h (by omega)⟩
set_option maxRecDepth 100000 in
theorem nw_X2_55 : NW RX2 55 7 3 [.null, .null, .int 0] := ⟨RX5, TX5, tyX5, rfl, inX5, by decide +kernel, (TB_2 207 rfl rfl), (TB_4 55 rfl rfl), (TB_1 24 rfl rfl), by intro j hj; match j, hj with | 0, _ => rfl | 1, _ => rfl | 2, _ => rfl | n + 3, h => exact absurd h (by omega)⟩
set_option maxRecDepth 100000 in
theorem nw_X6_222 : NW RX6 222 7 3 [.null, .null, .int 0] := ⟨RX5, TX5, tyX5, rfl, inX5, by decide +kernel, (TB_3 55 rfl rfl), (TB_4 55 rfl rfl), (TB_1 24 rfl rfl), by intro j hj; match j, hj with | 0, _ => rfl | 1, _ => rfl | 2, _ => rfl | n + 3, h => exact absurd h (by omega)⟩
set_option maxRecDepth 100000 in
theorem nw_X1_15 : NW RX1 15 6 3 [.int 0, .int 0, .int 0] := ⟨RX4, TX4, tyX4, rfl, inX4, by decide +kernel, (TB_3 78 rfl rfl), (TB_1 66 rfl rfl), (TB_1 5 rfl rfl), by intro j hj; match j, hj with | 0, _ => rfl | 1, _ => rfl | 2, _ => rfl | n + 3, h => exact absurd h (by omega)⟩
set_option maxRecDepth 100000 in
theorem nw_X2_9 : NW RX2 9 1 3 [.int 0, .null, .int 0] := ⟨RJx4a65c, TJx4a65c, tyJx4a65c, rfl, inJx4a65c, by decide +kernel, (TB_3 230 rfl rfl), (TB_1 37 rfl rfl), (TB_1 4 rfl rfl), by intro j hj; match j, hj with | 0, _ => rfl | 1, _ => rfl | 2, _ => rfl | n + 3, h => exact absurd h (by omega)⟩
set_option maxRecDepth 100000 in
theorem nw_L_103 : NW RL 103 9 12 [.int 0, .null, .null, .null, .null, .int 0, .int 0, .int 0, .int 0, .int 0, .int 0, .long 0] := ⟨RX7, TX7, tyX7, rfl, inX7, by decide +kernel, (TB_4 191 rfl rfl), (TB_4 192 rfl rfl), (TB_1 7 rfl rfl), by intro j hj; match j, hj with | 0, _ => rfl | 1, _ => rfl | 2, _ => rfl | 3, _ => rfl | 4, _ => rfl | 5, _ => rfl | 6, _ => rfl | 7, _ => rfl | 8, _ => rfl | 9, _ => rfl | 10, _ => rfl | 11, _ => rfl | n + 12, h => exact absurd h (by omega)⟩
set_option maxRecDepth 100000 in
theorem nw_X7_14 : NW RX7 14 1 3 [.int 0, .null, .int 0] := ⟨RJx4a65c, TJx4a65c, tyJx4a65c, rfl, inJx4a65c, by decide +kernel, (TB_4 199 rfl rfl), (TB_1 37 rfl rfl), (TB_1 4 rfl rfl), by intro j hj; match j, hj with | 0, _ => rfl | 1, _ => rfl | 2, _ => rfl | n + 3, h => exact absurd h (by omega)⟩
set_option maxRecDepth 100000 in
theorem nw_Jx4a65c_267 : NW RJx4a65c 267 0 4 [.int 0, .int 0, .int 0, .null] := ⟨RJx35411, TJx35411, tyJx35411, rfl, inJx35411, by decide +kernel, (TB_5 36 rfl rfl), (TB_5 37 rfl rfl), (TB_1 17 rfl rfl), by intro j hj; match j, hj with | 0, _ => rfl | 1, _ => rfl | 2, _ => rfl | 3, _ => rfl | n + 4, h => exact absurd h (by omega)⟩
set_option maxRecDepth 100000 in
theorem lk_L_102 : LkI RL 102 yX6_init cX6_init 2 0 := ⟨(TB_1 28 rfl rfl), (TB_1 29 rfl rfl), (TB_1 1 rfl rfl), (TB_1 30 rfl rfl), ⟨⟨by decide, by decide⟩, by decide +kernel⟩, rfl⟩
set_option maxRecDepth 100000 in
theorem lk_X6_17 : LkI RX6 17 yJx4a65c_init_da8c8 cJx4a65c_init_da8c8 1 0 := ⟨(TB_1 38 rfl rfl), (TB_1 39 rfl rfl), (TB_1 4 rfl rfl), (TB_1 40 rfl rfl), ⟨⟨by decide, by decide⟩, by decide +kernel⟩, rfl⟩
set_option maxRecDepth 100000 in
theorem lk_Jx4a65c_1 : LkI RJx4a65c 1 yJxc12de_init_da8c8 cJxc12de_init_da8c8 1 0 := ⟨(TB_1 41 rfl rfl), (TB_1 42 rfl rfl), (TB_1 3 rfl rfl), (TB_1 43 rfl rfl), ⟨⟨by decide, by decide⟩, by decide +kernel⟩, rfl⟩
set_option maxRecDepth 100000 in
theorem lk_Jxc12de_1 : LkI RJxc12de 1 yJxa1e45_init_da8c8 cJxa1e45_init_da8c8 1 0 := ⟨(TB_1 44 rfl rfl), (TB_1 45 rfl rfl), (TB_1 2 rfl rfl), (TB_1 46 rfl rfl), ⟨⟨by decide, by decide⟩, by decide +kernel⟩, rfl⟩
set_option maxRecDepth 100000 in
theorem lk_X6_30 : LkI RX6 30 yX4_init cX4_init 4 3 := ⟨(TB_1 67 rfl rfl), (TB_1 68 rfl rfl), (TB_1 5 rfl rfl), (TB_1 69 rfl rfl), ⟨⟨by decide, by decide⟩, by decide +kernel⟩, rfl⟩
set_option maxRecDepth 100000 in
theorem lk_X3_11 : LkI RX3 11 yX4_init cX4_init 4 3 := ⟨(TB_1 96 rfl rfl), (TB_1 68 rfl rfl), (TB_1 5 rfl rfl), (TB_1 69 rfl rfl), ⟨⟨by decide, by decide⟩, by decide +kernel⟩, rfl⟩
set_option maxRecDepth 100000 in
theorem lk_L_197 : LkV RL 197 yX6_digest cX6_digest 5 (some .long) 0 8 := ⟨(TB_1 158 rfl rfl), (TB_1 159 rfl rfl), (TB_1 160 rfl rfl), (TB_1 1 rfl rfl), (TB_1 161 rfl rfl), ⟨⟨by decide, by decide⟩, by decide +kernel⟩, TX6, 13, rfl⟩
set_option maxRecDepth 100000 in
theorem lk_X6_382 : LkV RX6 382 yX6_many cX6_many 2 (some .int) 1 8 := ⟨(TB_1 164 rfl rfl), (TB_1 165 rfl rfl), (TB_1 166 rfl rfl), (TB_1 1 rfl rfl), (TB_1 167 rfl rfl), ⟨⟨by decide, by decide⟩, by decide +kernel⟩, TX6, 13, rfl⟩
set_option maxRecDepth 100000 in
theorem lk_X6_104 : LkV RX6 104 yJx4a65c_size_8abf5 cJx4a65c_size_8abf5 1 (some .int) 0 1 := ⟨(TB_1 168 rfl rfl), (TB_1 169 rfl rfl), (TB_1 170 rfl rfl), (TB_1 4 rfl rfl), (TB_1 171 rfl rfl), ⟨⟨by decide, by decide⟩, by decide +kernel⟩, TJx4a65c, 3, rfl⟩
set_option maxRecDepth 100000 in
theorem lk_X6_322 : LkV RX6 322 yX6_countAligned cX6_countAligned 3 (some .int) 0 8 := ⟨(TB_1 172 rfl rfl), (TB_1 174 rfl rfl), (TB_of 0 rfl rfl), (TB_1 1 rfl rfl), (TB_1 175 rfl rfl), ⟨⟨by decide, by decide⟩, by decide +kernel⟩, TX6, 13, rfl⟩
set_option maxRecDepth 100000 in
theorem lk_X6_130 : LkV RX6 130 yJx4a65c_get_915e3 cJx4a65c_get_915e3 2 (some (.object "java/lang/Object")) 1 1 := ⟨(TB_1 176 rfl rfl), (TB_1 177 rfl rfl), (TB_1 178 rfl rfl), (TB_1 4 rfl rfl), (TB_1 179 rfl rfl), ⟨⟨by decide, by decide⟩, by decide +kernel⟩, TJx4a65c, 3, rfl⟩
set_option maxRecDepth 100000 in
theorem lk_Jx4a65c_118 : LkS RJx4a65c 118 yJ15_checkIndex_7cf53 cJ15_checkIndex_7cf53 2 (some .int) 2 := ⟨(TB_1 180 rfl rfl), (TB_1 181 rfl rfl), (TB_1 14 rfl rfl), (TB_1 182 rfl rfl), ⟨⟨by decide, by decide⟩, by decide +kernel⟩⟩
set_option maxRecDepth 100000 in
theorem lk_J15_105 : LkS RJ15 105 yJ3_checkIndex_8e157 cJ3_checkIndex_8e157 3 (some .int) 3 := ⟨(TB_1 183 rfl rfl), (TB_1 184 rfl rfl), (TB_1 15 rfl rfl), (TB_1 185 rfl rfl), ⟨⟨by decide, by decide⟩, by decide +kernel⟩⟩
set_option maxRecDepth 100000 in
theorem lk_Jx4a65c_123 : LkV RJx4a65c 123 yJx4a65c_elementData_915e3 cJx4a65c_elementData_915e3 2 (some (.object "java/lang/Object")) 1 1 := ⟨(TB_1 186 rfl rfl), (TB_1 187 rfl rfl), (TB_1 188 rfl rfl), (TB_1 4 rfl rfl), (TB_1 189 rfl rfl), ⟨⟨by decide, by decide⟩, by decide +kernel⟩, TJx4a65c, 3, rfl⟩
set_option maxRecDepth 100000 in
theorem lk_X6_325 : LkV RX6 325 yX6_countPossessions cX6_countPossessions 4 (some .int) 1 8 := ⟨(TB_1 191 rfl rfl), (TB_1 193 rfl rfl), (TB_of 1 rfl rfl), (TB_1 1 rfl rfl), (TB_1 194 rfl rfl), ⟨⟨by decide, by decide⟩, by decide +kernel⟩, TX6, 13, rfl⟩
set_option maxRecDepth 100000 in
theorem lk_X6_328 : LkV RX6 328 yX6_countTrueRisks cX6_countTrueRisks 3 (some .int) 0 8 := ⟨(TB_1 196 rfl rfl), (TB_1 198 rfl rfl), (TB_of 2 rfl rfl), (TB_1 1 rfl rfl), (TB_1 199 rfl rfl), ⟨⟨by decide, by decide⟩, by decide +kernel⟩, TX6, 13, rfl⟩
set_option maxRecDepth 100000 in
theorem lk_X6_350 : LkV RX6 350 yX3_isRisk cX3_isRisk 2 (some .boolean) 1 5 := ⟨(TB_1 200 rfl rfl), (TB_1 201 rfl rfl), (TB_1 202 rfl rfl), (TB_1 6 rfl rfl), (TB_1 203 rfl rfl), ⟨⟨by decide, by decide⟩, by decide +kernel⟩, TX3, 5, rfl⟩
set_option maxRecDepth 100000 in
theorem lk_X3_47 : LkV RX3 47 yX3_trueSpeed cX3_trueSpeed 2 (some .int) 1 5 := ⟨(TB_1 204 rfl rfl), (TB_1 205 rfl rfl), (TB_1 206 rfl rfl), (TB_1 6 rfl rfl), (TB_1 207 rfl rfl), ⟨⟨by decide, by decide⟩, by decide +kernel⟩, TX3, 5, rfl⟩
set_option maxRecDepth 100000 in
theorem lk_X3_43 : LkV RX3 43 yX4_speed cX4_speed 3 (some .int) 1 6 := ⟨(TB_1 208 rfl rfl), (TB_1 209 rfl rfl), (TB_1 210 rfl rfl), (TB_1 5 rfl rfl), (TB_1 211 rfl rfl), ⟨⟨by decide, by decide⟩, by decide +kernel⟩, TX4, 3, rfl⟩
set_option maxRecDepth 100000 in
theorem lk_X4_21 : LkV RX4 21 yX4_speedByWear cX4_speedByWear 1 (some .int) 0 6 := ⟨(TB_1 212 rfl rfl), (TB_1 214 rfl rfl), (TB_of 3 rfl rfl), (TB_1 5 rfl rfl), (TB_1 215 rfl rfl), ⟨⟨by decide, by decide⟩, by decide +kernel⟩, TX4, 3, rfl⟩
set_option maxRecDepth 100000 in
theorem lk_X4_25 : LkV RX4 25 yX4_speedByCrack cX4_speedByCrack 1 (some .int) 0 6 := ⟨(TB_1 216 rfl rfl), (TB_1 218 rfl rfl), (TB_of 4 rfl rfl), (TB_1 5 rfl rfl), (TB_1 219 rfl rfl), ⟨⟨by decide, by decide⟩, by decide +kernel⟩, TX4, 3, rfl⟩
set_option maxRecDepth 100000 in
theorem lk_X4_28 : LkS RX4 28 yJ9_min_7cf53 cJ9_min_7cf53 2 (some .int) 2 := ⟨(TB_1 220 rfl rfl), (TB_1 221 rfl rfl), (TB_1 16 rfl rfl), (TB_1 222 rfl rfl), ⟨⟨by decide, by decide⟩, by decide +kernel⟩⟩
set_option maxRecDepth 100000 in
theorem lk_X4_34 : LkV RX4 34 yX4_speedBySettle cX4_speedBySettle 1 (some .int) 0 6 := ⟨(TB_1 223 rfl rfl), (TB_1 225 rfl rfl), (TB_of 5 rfl rfl), (TB_1 5 rfl rfl), (TB_1 226 rfl rfl), ⟨⟨by decide, by decide⟩, by decide +kernel⟩, TX4, 3, rfl⟩
set_option maxRecDepth 100000 in
theorem lk_X4_37 : LkS RX4 37 yX4_speedByHeat cX4_speedByHeat 1 (some .int) 1 := ⟨(TB_1 227 rfl rfl), (TB_1 228 rfl rfl), (TB_1 5 rfl rfl), (TB_1 229 rfl rfl), ⟨⟨by decide, by decide⟩, by decide +kernel⟩⟩
set_option maxRecDepth 100000 in
theorem lk_X6_331 : LkV RX6 331 yX6_countKnownRisks cX6_countKnownRisks 4 (some .int) 0 8 := ⟨(TB_1 230 rfl rfl), (TB_1 232 rfl rfl), (TB_of 6 rfl rfl), (TB_1 1 rfl rfl), (TB_1 233 rfl rfl), ⟨⟨by decide, by decide⟩, by decide +kernel⟩, TX6, 13, rfl⟩
set_option maxRecDepth 100000 in
theorem lk_X6_294 : LkV RX6 294 yX6_knownValues cX6_knownValues 4 (some (.object "TrackNights$Values")) 1 8 := ⟨(TB_1 234 rfl rfl), (TB_1 236 rfl rfl), (TB_of 7 rfl rfl), (TB_1 1 rfl rfl), (TB_1 237 rfl rfl), ⟨⟨by decide, by decide⟩, by decide +kernel⟩, TX6, 13, rfl⟩
set_option maxRecDepth 100000 in
theorem lk_X6_301 : LkV RX6 301 yX6_knowingMeasure cX6_knowingMeasure 3 (some .int) 1 8 := ⟨(TB_1 238 rfl rfl), (TB_2 0 rfl rfl), (TB_of 8 rfl rfl), (TB_1 1 rfl rfl), (TB_2 1 rfl rfl), ⟨⟨by decide, by decide⟩, by decide +kernel⟩, TX6, 13, rfl⟩
set_option maxRecDepth 100000 in
theorem lk_X6_439 : LkV RX6 439 yX1_says cX1_says 2 (some (.object "TrackNights$Values")) 1 3 := ⟨(TB_2 2 rfl rfl), (TB_2 3 rfl rfl), (TB_2 4 rfl rfl), (TB_1 18 rfl rfl), (TB_2 5 rfl rfl), ⟨⟨by decide, by decide⟩, by decide +kernel⟩, TX1, 4, rfl⟩
set_option maxRecDepth 100000 in
theorem lk_X1_40 : LkV RX1 40 yX1_writtenFor cX1_writtenFor 4 (some (.object "TrackNights$Values")) 2 3 := ⟨(TB_2 6 rfl rfl), (TB_2 8 rfl rfl), (TB_of 9 rfl rfl), (TB_1 18 rfl rfl), (TB_2 10 rfl rfl), ⟨⟨by decide, by decide⟩, by decide +kernel⟩, TX1, 4, rfl⟩
set_option maxRecDepth 100000 in
theorem lk_X6_298 : LkV RX6 298 yX4_speed cX4_speed 3 (some .int) 1 6 := ⟨(TB_2 11 rfl rfl), (TB_1 209 rfl rfl), (TB_1 210 rfl rfl), (TB_1 5 rfl rfl), (TB_1 211 rfl rfl), ⟨⟨by decide, by decide⟩, by decide +kernel⟩, TX4, 3, rfl⟩
set_option maxRecDepth 100000 in
theorem lk_X6_385 : LkV RX6 385 yX6_digestSection cX6_digestSection 7 (some .long) 2 8 := ⟨(TB_2 80 rfl rfl), (TB_2 82 rfl rfl), (TB_of 11 rfl rfl), (TB_1 1 rfl rfl), (TB_2 83 rfl rfl), ⟨⟨by decide, by decide⟩, by decide +kernel⟩, TX6, 13, rfl⟩
set_option maxRecDepth 100000 in
theorem lk_X6_399 : LkV RX6 399 yX6_ofSection cX6_ofSection 4 (some .int) 2 8 := ⟨(TB_2 84 rfl rfl), (TB_2 85 rfl rfl), (TB_2 86 rfl rfl), (TB_1 1 rfl rfl), (TB_2 87 rfl rfl), ⟨⟨by decide, by decide⟩, by decide +kernel⟩, TX6, 13, rfl⟩
set_option maxRecDepth 100000 in
theorem lk_X6_64 : LkV RX6 64 yX6_sectionAt cX6_sectionAt 2 (some (.object "TrackNights$Section")) 1 8 := ⟨(TB_2 88 rfl rfl), (TB_2 90 rfl rfl), (TB_of 12 rfl rfl), (TB_1 1 rfl rfl), (TB_2 91 rfl rfl), ⟨⟨by decide, by decide⟩, by decide +kernel⟩, TX6, 13, rfl⟩
set_option maxRecDepth 100000 in
theorem lk_X6_340 : LkV RX6 340 yX6_checkSection cX6_checkSection 2 none 1 8 := ⟨(TB_2 92 rfl rfl), (TB_2 94 rfl rfl), (TB_of 13 rfl rfl), (TB_1 1 rfl rfl), (TB_2 95 rfl rfl), ⟨⟨by decide, by decide⟩, by decide +kernel⟩, TX6, 13, rfl⟩
set_option maxRecDepth 100000 in
theorem lk_X6_289 : LkV RX6 289 yX3_trueSpeed cX3_trueSpeed 2 (some .int) 1 5 := ⟨(TB_2 112 rfl rfl), (TB_1 205 rfl rfl), (TB_1 206 rfl rfl), (TB_1 6 rfl rfl), (TB_1 207 rfl rfl), ⟨⟨by decide, by decide⟩, by decide +kernel⟩, TX3, 5, rfl⟩
set_option maxRecDepth 100000 in
theorem lk_X6_402 : LkV RX6 402 yX6_known cX6_known 5 (some .int) 2 8 := ⟨(TB_2 114 rfl rfl), (TB_2 115 rfl rfl), (TB_2 116 rfl rfl), (TB_1 1 rfl rfl), (TB_2 117 rfl rfl), ⟨⟨by decide, by decide⟩, by decide +kernel⟩, TX6, 13, rfl⟩
set_option maxRecDepth 100000 in
theorem lk_X6_405 : LkV RX6 405 yX6_why cX6_why 5 (some .int) 2 8 := ⟨(TB_2 119 rfl rfl), (TB_2 120 rfl rfl), (TB_2 121 rfl rfl), (TB_1 1 rfl rfl), (TB_2 122 rfl rfl), ⟨⟨by decide, by decide⟩, by decide +kernel⟩, TX6, 13, rfl⟩
set_option maxRecDepth 100000 in
theorem lk_X6_306 : LkV RX6 306 yX4_decider cX4_decider 3 (some .int) 1 6 := ⟨(TB_2 123 rfl rfl), (TB_2 124 rfl rfl), (TB_2 125 rfl rfl), (TB_1 5 rfl rfl), (TB_2 126 rfl rfl), ⟨⟨by decide, by decide⟩, by decide +kernel⟩, TX4, 3, rfl⟩
set_option maxRecDepth 100000 in
theorem lk_X4_41 : LkV RX4 41 yX4_speed cX4_speed 3 (some .int) 1 6 := ⟨(TB_2 127 rfl rfl), (TB_1 209 rfl rfl), (TB_1 210 rfl rfl), (TB_1 5 rfl rfl), (TB_1 211 rfl rfl), ⟨⟨by decide, by decide⟩, by decide +kernel⟩, TX4, 3, rfl⟩
set_option maxRecDepth 100000 in
theorem lk_X6_409 : LkV RX6 409 yX6_couldSee cX6_couldSee 4 (some .int) 1 8 := ⟨(TB_2 128 rfl rfl), (TB_2 129 rfl rfl), (TB_2 130 rfl rfl), (TB_1 1 rfl rfl), (TB_2 131 rfl rfl), ⟨⟨by decide, by decide⟩, by decide +kernel⟩, TX6, 13, rfl⟩
set_option maxRecDepth 100000 in
theorem lk_X6_343 : LkV RX6 343 yX1_writtenOf cX1_writtenOf 2 (some (.object "TrackNights$Values")) 1 3 := ⟨(TB_2 132 rfl rfl), (TB_2 133 rfl rfl), (TB_2 134 rfl rfl), (TB_1 18 rfl rfl), (TB_2 135 rfl rfl), ⟨⟨by decide, by decide⟩, by decide +kernel⟩, TX1, 4, rfl⟩
set_option maxRecDepth 100000 in
theorem lk_X6_412 : LkV RX6 412 yX6_firstRisk cX6_firstRisk 5 (some .int) 2 8 := ⟨(TB_2 136 rfl rfl), (TB_2 137 rfl rfl), (TB_2 138 rfl rfl), (TB_1 1 rfl rfl), (TB_2 139 rfl rfl), ⟨⟨by decide, by decide⟩, by decide +kernel⟩, TX6, 13, rfl⟩
set_option maxRecDepth 100000 in
theorem lk_X6_82 : LkV RX6 82 yX6_checkTrains cX6_checkTrains 2 none 1 8 := ⟨(TB_2 140 rfl rfl), (TB_2 142 rfl rfl), (TB_of 14 rfl rfl), (TB_1 1 rfl rfl), (TB_2 143 rfl rfl), ⟨⟨by decide, by decide⟩, by decide +kernel⟩, TX6, 13, rfl⟩
set_option maxRecDepth 100000 in
theorem lk_X6_346 : LkV RX6 346 yX3_become cX3_become 2 none 1 5 := ⟨(TB_2 145 rfl rfl), (TB_2 146 rfl rfl), (TB_2 147 rfl rfl), (TB_1 6 rfl rfl), (TB_2 148 rfl rfl), ⟨⟨by decide, by decide⟩, by decide +kernel⟩, TX3, 5, rfl⟩
set_option maxRecDepth 100000 in
theorem lk_X6_353 : LkV RX6 353 yX3_bearDay cX3_bearDay 3 none 1 5 := ⟨(TB_2 149 rfl rfl), (TB_2 150 rfl rfl), (TB_2 151 rfl rfl), (TB_1 6 rfl rfl), (TB_2 152 rfl rfl), ⟨⟨by decide, by decide⟩, by decide +kernel⟩, TX3, 5, rfl⟩
set_option maxRecDepth 100000 in
theorem lk_X3_50 : LkS RX3 50 yJ9_min_7cf53 cJ9_min_7cf53 2 (some .int) 2 := ⟨(TB_2 153 rfl rfl), (TB_1 221 rfl rfl), (TB_1 16 rfl rfl), (TB_1 222 rfl rfl), ⟨⟨by decide, by decide⟩, by decide +kernel⟩⟩
set_option maxRecDepth 100000 in
theorem lk_X3_56 : LkV RX3 56 yX3_crackGrowth cX3_crackGrowth 1 (some .int) 0 5 := ⟨(TB_2 154 rfl rfl), (TB_2 156 rfl rfl), (TB_of 15 rfl rfl), (TB_1 6 rfl rfl), (TB_2 157 rfl rfl), ⟨⟨by decide, by decide⟩, by decide +kernel⟩, TX3, 5, rfl⟩
set_option maxRecDepth 100000 in
theorem lk_X6_415 : LkV RX6 415 yX6_bestWork cX6_bestWork 9 (some .int) 3 8 := ⟨(TB_2 158 rfl rfl), (TB_2 159 rfl rfl), (TB_2 160 rfl rfl), (TB_1 1 rfl rfl), (TB_2 161 rfl rfl), ⟨⟨by decide, by decide⟩, by decide +kernel⟩, TX6, 13, rfl⟩
set_option maxRecDepth 100000 in
theorem lk_X6_358 : LkV RX6 358 yX6_costBehind cX6_costBehind 7 (some .int) 4 8 := ⟨(TB_2 163 rfl rfl), (TB_2 165 rfl rfl), (TB_of 16 rfl rfl), (TB_1 1 rfl rfl), (TB_2 166 rfl rfl), ⟨⟨by decide, by decide⟩, by decide +kernel⟩, TX6, 13, rfl⟩
set_option maxRecDepth 100000 in
theorem lk_X6_460 : LkV RX6 460 yX3_treat cX3_treat 3 none 2 5 := ⟨(TB_2 167 rfl rfl), (TB_2 168 rfl rfl), (TB_2 169 rfl rfl), (TB_1 6 rfl rfl), (TB_2 170 rfl rfl), ⟨⟨by decide, by decide⟩, by decide +kernel⟩, TX3, 5, rfl⟩
set_option maxRecDepth 100000 in
theorem lk_X3_60 : LkS RX3 60 yJ9_max_7cf53 cJ9_max_7cf53 2 (some .int) 2 := ⟨(TB_2 171 rfl rfl), (TB_2 172 rfl rfl), (TB_1 16 rfl rfl), (TB_2 173 rfl rfl), ⟨⟨by decide, by decide⟩, by decide +kernel⟩⟩
set_option maxRecDepth 100000 in
theorem lk_X6_204 : LkV RX6 204 yX3_hoursFor cX3_hoursFor 3 (some .int) 1 5 := ⟨(TB_2 174 rfl rfl), (TB_2 175 rfl rfl), (TB_2 176 rfl rfl), (TB_1 6 rfl rfl), (TB_2 177 rfl rfl), ⟨⟨by decide, by decide⟩, by decide +kernel⟩, TX3, 5, rfl⟩
set_option maxRecDepth 100000 in
theorem lk_X6_433 : LkS RX6 433 yX6_delayCost cX6_delayCost 2 (some .int) 2 := ⟨(TB_2 178 rfl rfl), (TB_2 179 rfl rfl), (TB_1 1 rfl rfl), (TB_2 180 rfl rfl), ⟨⟨by decide, by decide⟩, by decide +kernel⟩⟩
set_option maxRecDepth 100000 in
theorem lk_X6_389 : LkV RX6 389 yX6_ofMachine cX6_ofMachine 4 (some .int) 2 8 := ⟨(TB_2 181 rfl rfl), (TB_2 182 rfl rfl), (TB_2 183 rfl rfl), (TB_1 1 rfl rfl), (TB_2 184 rfl rfl), ⟨⟨by decide, by decide⟩, by decide +kernel⟩, TX6, 13, rfl⟩
set_option maxRecDepth 100000 in
theorem lk_X6_151 : LkV RX6 151 yX6_machineAt cX6_machineAt 2 (some (.object "TrackNights$Machine")) 1 8 := ⟨(TB_2 185 rfl rfl), (TB_2 187 rfl rfl), (TB_of 17 rfl rfl), (TB_1 1 rfl rfl), (TB_2 188 rfl rfl), ⟨⟨by decide, by decide⟩, by decide +kernel⟩, TX6, 13, rfl⟩
set_option maxRecDepth 100000 in
theorem lk_X6_392 : LkV RX6 392 yX6_ofPossession cX6_ofPossession 4 (some .int) 2 8 := ⟨(TB_2 192 rfl rfl), (TB_2 193 rfl rfl), (TB_2 194 rfl rfl), (TB_1 1 rfl rfl), (TB_2 195 rfl rfl), ⟨⟨by decide, by decide⟩, by decide +kernel⟩, TX6, 13, rfl⟩
set_option maxRecDepth 100000 in
theorem lk_X6_181 : LkV RX6 181 yX6_possessionAt cX6_possessionAt 2 (some (.object "TrackNights$Possession")) 1 8 := ⟨(TB_2 196 rfl rfl), (TB_2 198 rfl rfl), (TB_of 18 rfl rfl), (TB_1 1 rfl rfl), (TB_2 199 rfl rfl), ⟨⟨by decide, by decide⟩, by decide +kernel⟩, TX6, 13, rfl⟩
set_option maxRecDepth 100000 in
theorem lk_X6_208 : LkV RX6 208 yX2_hoursPlanned cX2_hoursPlanned 3 (some .int) 0 4 := ⟨(TB_2 201 rfl rfl), (TB_2 202 rfl rfl), (TB_2 203 rfl rfl), (TB_1 23 rfl rfl), (TB_2 204 rfl rfl), ⟨⟨by decide, by decide⟩, by decide +kernel⟩, TX2, 10, rfl⟩
set_option maxRecDepth 100000 in
theorem lk_X2_47 : LkV RX2 47 yJx4a65c_size_8abf5 cJx4a65c_size_8abf5 1 (some .int) 0 1 := ⟨(TB_2 205 rfl rfl), (TB_1 169 rfl rfl), (TB_1 170 rfl rfl), (TB_1 4 rfl rfl), (TB_1 171 rfl rfl), ⟨⟨by decide, by decide⟩, by decide +kernel⟩, TJx4a65c, 3, rfl⟩
set_option maxRecDepth 100000 in
theorem lk_X2_51 : LkV RX2 51 yJx4a65c_get_915e3 cJx4a65c_get_915e3 2 (some (.object "java/lang/Object")) 1 1 := ⟨(TB_2 206 rfl rfl), (TB_1 177 rfl rfl), (TB_1 178 rfl rfl), (TB_1 4 rfl rfl), (TB_1 179 rfl rfl), ⟨⟨by decide, by decide⟩, by decide +kernel⟩, TJx4a65c, 3, rfl⟩
set_option maxRecDepth 100000 in
theorem lk_X6_242 : LkV RX6 242 yX2_marks cX2_marks 1 (some .int) 0 4 := ⟨(TB_2 208 rfl rfl), (TB_2 209 rfl rfl), (TB_2 210 rfl rfl), (TB_1 23 rfl rfl), (TB_2 211 rfl rfl), ⟨⟨by decide, by decide⟩, by decide +kernel⟩, TX2, 10, rfl⟩
set_option maxRecDepth 100000 in
theorem lk_X6_395 : LkV RX6 395 yX6_freeDay cX6_freeDay 5 (some .int) 3 8 := ⟨(TB_2 213 rfl rfl), (TB_2 214 rfl rfl), (TB_2 215 rfl rfl), (TB_1 1 rfl rfl), (TB_2 216 rfl rfl), ⟨⟨by decide, by decide⟩, by decide +kernel⟩, TX6, 13, rfl⟩
set_option maxRecDepth 100000 in
theorem lk_X6_99 : LkV RX6 99 yX6_checkStretch cX6_checkStretch 4 none 3 8 := ⟨(TB_2 217 rfl rfl), (TB_2 219 rfl rfl), (TB_of 19 rfl rfl), (TB_1 1 rfl rfl), (TB_2 220 rfl rfl), ⟨⟨by decide, by decide⟩, by decide +kernel⟩, TX6, 13, rfl⟩
set_option maxRecDepth 100000 in
theorem lk_X6_170 : LkV RX6 170 yX6_isFree cX6_isFree 7 (some .boolean) 4 8 := ⟨(TB_2 224 rfl rfl), (TB_2 226 rfl rfl), (TB_of 20 rfl rfl), (TB_1 1 rfl rfl), (TB_2 227 rfl rfl), ⟨⟨by decide, by decide⟩, by decide +kernel⟩, TX6, 13, rfl⟩
set_option maxRecDepth 100000 in
theorem lk_X6_445 : LkV RX6 445 yX2_meets cX2_meets 4 (some .boolean) 3 4 := ⟨(TB_2 228 rfl rfl), (TB_2 229 rfl rfl), (TB_2 230 rfl rfl), (TB_1 23 rfl rfl), (TB_2 231 rfl rfl), ⟨⟨by decide, by decide⟩, by decide +kernel⟩, TX2, 10, rfl⟩
set_option maxRecDepth 100000 in
theorem lk_L_7 : LkV RL 7 yX6_curve cX6_curve 5 (some .boolean) 2 8 := ⟨(TB_2 236 rfl rfl), (TB_2 237 rfl rfl), (TB_2 238 rfl rfl), (TB_1 1 rfl rfl), (TB_2 239 rfl rfl), ⟨⟨by decide, by decide⟩, by decide +kernel⟩, TX6, 13, rfl⟩
set_option maxRecDepth 100000 in
theorem lk_L_15 : LkV RL 15 yX6_sign cX6_sign 5 (some .int) 2 8 := ⟨(TB_3 4 rfl rfl), (TB_3 5 rfl rfl), (TB_3 6 rfl rfl), (TB_1 1 rfl rfl), (TB_3 7 rfl rfl), ⟨⟨by decide, by decide⟩, by decide +kernel⟩, TX6, 13, rfl⟩
set_option maxRecDepth 100000 in
theorem lk_L_21 : LkV RL 21 yX6_pass cX6_pass 6 (some .int) 3 8 := ⟨(TB_3 13 rfl rfl), (TB_3 14 rfl rfl), (TB_3 15 rfl rfl), (TB_1 1 rfl rfl), (TB_3 16 rfl rfl), ⟨⟨by decide, by decide⟩, by decide +kernel⟩, TX6, 13, rfl⟩
set_option maxRecDepth 100000 in
theorem lk_X6_95 : LkV RX6 95 yX6_passDay cX6_passDay 4 none 2 8 := ⟨(TB_3 35 rfl rfl), (TB_3 37 rfl rfl), (TB_of 21 rfl rfl), (TB_1 1 rfl rfl), (TB_3 38 rfl rfl), ⟨⟨by decide, by decide⟩, by decide +kernel⟩, TX6, 13, rfl⟩
set_option maxRecDepth 100000 in
theorem lk_X6_430 : LkV RX6 430 yX6_endNightsOf cX6_endNightsOf 4 none 1 8 := ⟨(TB_3 39 rfl rfl), (TB_3 41 rfl rfl), (TB_of 22 rfl rfl), (TB_1 1 rfl rfl), (TB_3 42 rfl rfl), ⟨⟨by decide, by decide⟩, by decide +kernel⟩, TX6, 13, rfl⟩
set_option maxRecDepth 100000 in
theorem lk_X6_255 : LkV RX6 255 yX6_endNight cX6_endNight 5 none 2 8 := ⟨(TB_3 43 rfl rfl), (TB_3 45 rfl rfl), (TB_of 23 rfl rfl), (TB_1 1 rfl rfl), (TB_3 46 rfl rfl), ⟨⟨by decide, by decide⟩, by decide +kernel⟩, TX6, 13, rfl⟩
set_option maxRecDepth 100000 in
theorem lk_X6_368 : LkV RX6 368 yX6_hoursTaken cX6_hoursTaken 4 (some .int) 1 8 := ⟨(TB_3 47 rfl rfl), (TB_3 49 rfl rfl), (TB_of 24 rfl rfl), (TB_1 1 rfl rfl), (TB_3 50 rfl rfl), ⟨⟨by decide, by decide⟩, by decide +kernel⟩, TX6, 13, rfl⟩
set_option maxRecDepth 100000 in
theorem lk_X6_463 : LkV RX6 463 yX2_hoursTakenBy cX2_hoursTakenBy 7 (some .int) 1 4 := ⟨(TB_3 51 rfl rfl), (TB_3 52 rfl rfl), (TB_3 53 rfl rfl), (TB_1 23 rfl rfl), (TB_3 54 rfl rfl), ⟨⟨by decide, by decide⟩, by decide +kernel⟩, TX2, 10, rfl⟩
set_option maxRecDepth 100000 in
theorem lk_X6_448 : LkV RX6 448 yX6_carryOut cX6_carryOut 2 none 1 8 := ⟨(TB_3 56 rfl rfl), (TB_3 58 rfl rfl), (TB_of 25 rfl rfl), (TB_1 1 rfl rfl), (TB_3 59 rfl rfl), ⟨⟨by decide, by decide⟩, by decide +kernel⟩, TX6, 13, rfl⟩
set_option maxRecDepth 100000 in
theorem lk_X6_372 : LkS RX6 372 yJ9_max_7cf53 cJ9_max_7cf53 2 (some .int) 2 := ⟨(TB_3 60 rfl rfl), (TB_2 172 rfl rfl), (TB_1 16 rfl rfl), (TB_2 173 rfl rfl), ⟨⟨by decide, by decide⟩, by decide +kernel⟩⟩
set_option maxRecDepth 100000 in
theorem lk_X6_436 : LkV RX6 436 yX6_breakIfCracked cX6_breakIfCracked 2 none 1 8 := ⟨(TB_3 61 rfl rfl), (TB_3 63 rfl rfl), (TB_of 26 rfl rfl), (TB_1 1 rfl rfl), (TB_3 64 rfl rfl), ⟨⟨by decide, by decide⟩, by decide +kernel⟩, TX6, 13, rfl⟩
set_option maxRecDepth 100000 in
theorem lk_L_27 : LkV RL 27 yX6_measure cX6_measure 8 (some .int) 4 8 := ⟨(TB_3 68 rfl rfl), (TB_3 69 rfl rfl), (TB_3 70 rfl rfl), (TB_1 1 rfl rfl), (TB_3 71 rfl rfl), ⟨⟨by decide, by decide⟩, by decide +kernel⟩, TX6, 13, rfl⟩
set_option maxRecDepth 100000 in
theorem lk_X6_112 : LkI RX6 112 yX1_init cX1_init 3 2 := ⟨(TB_3 74 rfl rfl), (TB_3 75 rfl rfl), (TB_1 18 rfl rfl), (TB_3 76 rfl rfl), ⟨⟨by decide, by decide⟩, by decide +kernel⟩, rfl⟩
set_option maxRecDepth 100000 in
theorem lk_X6_117 : LkV RX6 117 yX1_write cX1_write 4 none 2 3 := ⟨(TB_3 95 rfl rfl), (TB_3 96 rfl rfl), (TB_3 97 rfl rfl), (TB_1 18 rfl rfl), (TB_3 98 rfl rfl), ⟨⟨by decide, by decide⟩, by decide +kernel⟩, TX1, 4, rfl⟩
set_option maxRecDepth 100000 in
theorem lk_X1_37 : LkI RX1 37 yX4_init cX4_init 4 3 := ⟨(TB_3 99 rfl rfl), (TB_1 68 rfl rfl), (TB_1 5 rfl rfl), (TB_1 69 rfl rfl), ⟨⟨by decide, by decide⟩, by decide +kernel⟩, rfl⟩
set_option maxRecDepth 100000 in
theorem lk_X6_121 : LkV RX6 121 yJx4a65c_add_9ea2d cJx4a65c_add_9ea2d 2 (some .boolean) 1 1 := ⟨(TB_3 100 rfl rfl), (TB_3 101 rfl rfl), (TB_3 102 rfl rfl), (TB_1 4 rfl rfl), (TB_3 103 rfl rfl), ⟨⟨by decide, by decide⟩, by decide +kernel⟩, TJx4a65c, 3, rfl⟩
set_option maxRecDepth 100000 in
theorem lk_Jx4a65c_131 : LkV RJx4a65c 131 yJx4a65c_add_72be8 cJx4a65c_add_72be8 4 none 3 1 := ⟨(TB_3 104 rfl rfl), (TB_3 106 rfl rfl), (TB_of 27 rfl rfl), (TB_1 4 rfl rfl), (TB_3 107 rfl rfl), ⟨⟨by decide, by decide⟩, by decide +kernel⟩, TJx4a65c, 3, rfl⟩
set_option maxRecDepth 100000 in
theorem lk_Jx4a65c_129 : LkV RJx4a65c 129 yJx4a65c_grow_d5877 cJx4a65c_grow_d5877 1 (some (.array (.object "java/lang/Object"))) 0 1 := ⟨(TB_3 108 rfl rfl), (TB_3 110 rfl rfl), (TB_of 28 rfl rfl), (TB_1 4 rfl rfl), (TB_3 111 rfl rfl), ⟨⟨by decide, by decide⟩, by decide +kernel⟩, TJx4a65c, 3, rfl⟩
set_option maxRecDepth 100000 in
theorem lk_Jx4a65c_69 : LkV RJx4a65c 69 yJx4a65c_grow_92f84 cJx4a65c_grow_92f84 4 (some (.array (.object "java/lang/Object"))) 1 1 := ⟨(TB_3 112 rfl rfl), (TB_3 114 rfl rfl), (TB_of 29 rfl rfl), (TB_1 4 rfl rfl), (TB_3 115 rfl rfl), ⟨⟨by decide, by decide⟩, by decide +kernel⟩, TJx4a65c, 3, rfl⟩
set_option maxRecDepth 100000 in
theorem lk_Jx4a65c_73 : LkS RJx4a65c 73 yJ8_newLength_cabcc cJ8_newLength_cabcc 4 (some .int) 3 := ⟨(TB_3 116 rfl rfl), (TB_3 117 rfl rfl), (TB_1 19 rfl rfl), (TB_3 118 rfl rfl), ⟨⟨by decide, by decide⟩, by decide +kernel⟩⟩
set_option maxRecDepth 100000 in
theorem lk_J8_194 : LkS RJ8 194 yJ9_max_7cf53 cJ9_max_7cf53 2 (some .int) 2 := ⟨(TB_3 119 rfl rfl), (TB_2 172 rfl rfl), (TB_1 16 rfl rfl), (TB_2 173 rfl rfl), ⟨⟨by decide, by decide⟩, by decide +kernel⟩⟩
set_option maxRecDepth 100000 in
theorem lk_J8_201 : LkS RJ8 201 yJ8_hugeLength_7cf53 cJ8_hugeLength_7cf53 3 (some .int) 2 := ⟨(TB_3 121 rfl rfl), (TB_3 122 rfl rfl), (TB_1 19 rfl rfl), (TB_3 123 rfl rfl), ⟨⟨by decide, by decide⟩, by decide +kernel⟩⟩
set_option maxRecDepth 100000 in
theorem lk_Jx4a65c_66 : LkS RJx4a65c 66 yJ7_copyOf_1904c cJ7_copyOf_1904c 2 (some (.array (.object "java/lang/Object"))) 2 := ⟨(TB_3 124 rfl rfl), (TB_3 125 rfl rfl), (TB_1 20 rfl rfl), (TB_3 126 rfl rfl), ⟨⟨by decide, by decide⟩, by decide +kernel⟩⟩
set_option maxRecDepth 100000 in
theorem lk_J7_300 : LkS RJ7 300 yJ7_copyOf_6403c cJ7_copyOf_6403c 4 (some (.array (.object "java/lang/Object"))) 3 := ⟨(TB_3 144 rfl rfl), (TB_3 145 rfl rfl), (TB_1 20 rfl rfl), (TB_3 146 rfl rfl), ⟨⟨by decide, by decide⟩, by decide +kernel⟩⟩
set_option maxRecDepth 100000 in
theorem lk_J7_304 : LkS RJ7 304 yJ9_min_7cf53 cJ9_min_7cf53 2 (some .int) 2 := ⟨(TB_3 150 rfl rfl), (TB_1 221 rfl rfl), (TB_1 16 rfl rfl), (TB_1 222 rfl rfl), ⟨⟨by decide, by decide⟩, by decide +kernel⟩⟩
set_option maxRecDepth 100000 in
theorem lk_Jx4a65c_79 : LkS RJx4a65c 79 yJ9_max_7cf53 cJ9_max_7cf53 2 (some .int) 2 := ⟨(TB_3 154 rfl rfl), (TB_2 172 rfl rfl), (TB_1 16 rfl rfl), (TB_2 173 rfl rfl), ⟨⟨by decide, by decide⟩, by decide +kernel⟩⟩
set_option maxRecDepth 100000 in
theorem lk_L_31 : LkV RL 31 yX6_align cX6_align 3 (some .int) 1 8 := ⟨(TB_3 159 rfl rfl), (TB_3 160 rfl rfl), (TB_3 161 rfl rfl), (TB_1 1 rfl rfl), (TB_3 162 rfl rfl), ⟨⟨by decide, by decide⟩, by decide +kernel⟩, TX6, 13, rfl⟩
set_option maxRecDepth 100000 in
theorem lk_L_35 : LkV RL 35 yX6_machine cX6_machine 3 (some .int) 2 8 := ⟨(TB_3 168 rfl rfl), (TB_3 169 rfl rfl), (TB_3 170 rfl rfl), (TB_1 1 rfl rfl), (TB_3 171 rfl rfl), ⟨⟨by decide, by decide⟩, by decide +kernel⟩, TX6, 13, rfl⟩
set_option maxRecDepth 100000 in
theorem lk_X6_150 : LkI RX6 150 yX0_init cX0_init 3 2 := ⟨(TB_3 176 rfl rfl), (TB_3 177 rfl rfl), (TB_1 22 rfl rfl), (TB_3 178 rfl rfl), ⟨⟨by decide, by decide⟩, by decide +kernel⟩, rfl⟩
set_option maxRecDepth 100000 in
theorem lk_L_38 : LkV RL 38 yX6_service cX6_service 4 (some .int) 1 8 := ⟨(TB_3 201 rfl rfl), (TB_3 202 rfl rfl), (TB_3 203 rfl rfl), (TB_1 1 rfl rfl), (TB_3 204 rfl rfl), ⟨⟨by decide, by decide⟩, by decide +kernel⟩, TX6, 13, rfl⟩
set_option maxRecDepth 100000 in
theorem lk_X6_155 : LkV RX6 155 yX6_isOut cX6_isOut 4 (some .boolean) 1 8 := ⟨(TB_3 205 rfl rfl), (TB_3 207 rfl rfl), (TB_of 30 rfl rfl), (TB_1 1 rfl rfl), (TB_3 208 rfl rfl), ⟨⟨by decide, by decide⟩, by decide +kernel⟩, TX6, 13, rfl⟩
set_option maxRecDepth 100000 in
theorem lk_X6_442 : LkV RX6 442 yX2_uses cX2_uses 3 (some .boolean) 1 4 := ⟨(TB_3 209 rfl rfl), (TB_3 210 rfl rfl), (TB_3 211 rfl rfl), (TB_1 23 rfl rfl), (TB_3 212 rfl rfl), ⟨⟨by decide, by decide⟩, by decide +kernel⟩, TX2, 10, rfl⟩
set_option maxRecDepth 100000 in
theorem lk_L_41 : LkV RL 41 yX6_book cX6_book 6 (some .int) 5 8 := ⟨(TB_3 217 rfl rfl), (TB_3 218 rfl rfl), (TB_3 219 rfl rfl), (TB_1 1 rfl rfl), (TB_3 220 rfl rfl), ⟨⟨by decide, by decide⟩, by decide +kernel⟩, TX6, 13, rfl⟩
set_option maxRecDepth 100000 in
theorem lk_X6_178 : LkI RX6 178 yX2_init cX2_init 6 5 := ⟨(TB_3 226 rfl rfl), (TB_3 227 rfl rfl), (TB_1 23 rfl rfl), (TB_3 228 rfl rfl), ⟨⟨by decide, by decide⟩, by decide +kernel⟩, rfl⟩
set_option maxRecDepth 100000 in
theorem lk_X2_11 : LkI RX2 11 yJx4a65c_init_da8c8 cJx4a65c_init_da8c8 1 0 := ⟨(TB_3 231 rfl rfl), (TB_1 39 rfl rfl), (TB_1 4 rfl rfl), (TB_1 40 rfl rfl), ⟨⟨by decide, by decide⟩, by decide +kernel⟩, rfl⟩
set_option maxRecDepth 100000 in
theorem lk_L_45 : LkV RL 45 yX6_work cX6_work 8 (some .int) 3 8 := ⟨(TB_4 34 rfl rfl), (TB_4 35 rfl rfl), (TB_4 36 rfl rfl), (TB_1 1 rfl rfl), (TB_4 37 rfl rfl), ⟨⟨by decide, by decide⟩, by decide +kernel⟩, TX6, 13, rfl⟩
set_option maxRecDepth 100000 in
theorem lk_X6_185 : LkV RX6 185 yX2_has cX2_has 3 (some .boolean) 1 4 := ⟨(TB_4 38 rfl rfl), (TB_4 39 rfl rfl), (TB_4 40 rfl rfl), (TB_1 23 rfl rfl), (TB_4 41 rfl rfl), ⟨⟨by decide, by decide⟩, by decide +kernel⟩, TX2, 10, rfl⟩
set_option maxRecDepth 100000 in
theorem lk_X6_216 : LkV RX6 216 yX6_isElsewhere cX6_isElsewhere 5 (some .boolean) 2 8 := ⟨(TB_4 46 rfl rfl), (TB_4 48 rfl rfl), (TB_of 31 rfl rfl), (TB_1 1 rfl rfl), (TB_4 49 rfl rfl), ⟨⟨by decide, by decide⟩, by decide +kernel⟩, TX6, 13, rfl⟩
set_option maxRecDepth 100000 in
theorem lk_X6_362 : LkV RX6 362 yX2_isComingOrTaken cX2_isComingOrTaken 1 (some .boolean) 0 4 := ⟨(TB_4 50 rfl rfl), (TB_4 51 rfl rfl), (TB_4 52 rfl rfl), (TB_1 23 rfl rfl), (TB_4 53 rfl rfl), ⟨⟨by decide, by decide⟩, by decide +kernel⟩, TX2, 10, rfl⟩
set_option maxRecDepth 100000 in
theorem lk_X6_224 : LkI RX6 224 yX5_init cX5_init 4 3 := ⟨(TB_4 56 rfl rfl), (TB_4 57 rfl rfl), (TB_1 24 rfl rfl), (TB_4 58 rfl rfl), ⟨⟨by decide, by decide⟩, by decide +kernel⟩, rfl⟩
set_option maxRecDepth 100000 in
theorem lk_L_48 : LkV RL 48 yX6_cancel cX6_cancel 4 (some .int) 1 8 := ⟨(TB_4 78 rfl rfl), (TB_4 79 rfl rfl), (TB_4 80 rfl rfl), (TB_1 1 rfl rfl), (TB_4 81 rfl rfl), ⟨⟨by decide, by decide⟩, by decide +kernel⟩, TX6, 13, rfl⟩
set_option maxRecDepth 100000 in
theorem lk_L_51 : LkV RL 51 yX6_mark cX6_mark 4 (some .int) 2 8 := ⟨(TB_4 85 rfl rfl), (TB_4 86 rfl rfl), (TB_4 87 rfl rfl), (TB_1 1 rfl rfl), (TB_4 88 rfl rfl), ⟨⟨by decide, by decide⟩, by decide +kernel⟩, TX6, 13, rfl⟩
set_option maxRecDepth 100000 in
theorem lk_X6_234 : LkV RX6 234 yX2_isMarked cX2_isMarked 2 (some .boolean) 1 4 := ⟨(TB_4 91 rfl rfl), (TB_4 92 rfl rfl), (TB_4 93 rfl rfl), (TB_1 23 rfl rfl), (TB_4 94 rfl rfl), ⟨⟨by decide, by decide⟩, by decide +kernel⟩, TX2, 10, rfl⟩
set_option maxRecDepth 100000 in
theorem lk_X6_239 : LkV RX6 239 yX2_putMark cX2_putMark 2 none 1 4 := ⟨(TB_4 96 rfl rfl), (TB_4 97 rfl rfl), (TB_4 98 rfl rfl), (TB_1 23 rfl rfl), (TB_4 99 rfl rfl), ⟨⟨by decide, by decide⟩, by decide +kernel⟩, TX2, 10, rfl⟩
set_option maxRecDepth 100000 in
theorem lk_L_54 : LkV RL 54 yX6_take cX6_take 3 (some .int) 1 8 := ⟨(TB_4 103 rfl rfl), (TB_4 104 rfl rfl), (TB_4 105 rfl rfl), (TB_1 1 rfl rfl), (TB_4 106 rfl rfl), ⟨⟨by decide, by decide⟩, by decide +kernel⟩, TX6, 13, rfl⟩
set_option maxRecDepth 100000 in
theorem lk_L_57 : LkV RL 57 yX6_giveBack cX6_giveBack 3 (some .int) 1 8 := ⟨(TB_4 111 rfl rfl), (TB_4 112 rfl rfl), (TB_4 113 rfl rfl), (TB_1 1 rfl rfl), (TB_4 114 rfl rfl), ⟨⟨by decide, by decide⟩, by decide +kernel⟩, TX6, 13, rfl⟩
set_option maxRecDepth 100000 in
theorem lk_L_60 : LkV RL 60 yX6_walk cX6_walk 5 (some .boolean) 2 8 := ⟨(TB_4 119 rfl rfl), (TB_4 120 rfl rfl), (TB_4 121 rfl rfl), (TB_1 1 rfl rfl), (TB_4 122 rfl rfl), ⟨⟨by decide, by decide⟩, by decide +kernel⟩, TX6, 13, rfl⟩
set_option maxRecDepth 100000 in
theorem lk_X6_264 : LkV RX6 264 yX6_isTaken cX6_isTaken 4 (some .boolean) 1 8 := ⟨(TB_4 124 rfl rfl), (TB_4 126 rfl rfl), (TB_of 32 rfl rfl), (TB_1 1 rfl rfl), (TB_4 127 rfl rfl), ⟨⟨by decide, by decide⟩, by decide +kernel⟩, TX6, 13, rfl⟩
set_option maxRecDepth 100000 in
theorem lk_X6_267 : LkV RX6 267 yX6_signBeside cX6_signBeside 3 (some .int) 1 8 := ⟨(TB_4 128 rfl rfl), (TB_4 130 rfl rfl), (TB_of 33 rfl rfl), (TB_1 1 rfl rfl), (TB_4 131 rfl rfl), ⟨⟨by decide, by decide⟩, by decide +kernel⟩, TX6, 13, rfl⟩
set_option maxRecDepth 100000 in
theorem lk_X6_270 : LkS RX6 270 yX6_isWarned cX6_isWarned 4 (some .boolean) 3 := ⟨(TB_4 132 rfl rfl), (TB_4 133 rfl rfl), (TB_1 1 rfl rfl), (TB_4 134 rfl rfl), ⟨⟨by decide, by decide⟩, by decide +kernel⟩⟩
set_option maxRecDepth 100000 in
theorem lk_L_64 : LkV RL 64 yX6_ofSection cX6_ofSection 4 (some .int) 2 8 := ⟨(TB_4 138 rfl rfl), (TB_2 85 rfl rfl), (TB_2 86 rfl rfl), (TB_1 1 rfl rfl), (TB_2 87 rfl rfl), ⟨⟨by decide, by decide⟩, by decide +kernel⟩, TX6, 13, rfl⟩
set_option maxRecDepth 100000 in
theorem lk_L_67 : LkV RL 67 yX6_known cX6_known 5 (some .int) 2 8 := ⟨(TB_4 142 rfl rfl), (TB_2 115 rfl rfl), (TB_2 116 rfl rfl), (TB_1 1 rfl rfl), (TB_2 117 rfl rfl), ⟨⟨by decide, by decide⟩, by decide +kernel⟩, TX6, 13, rfl⟩
set_option maxRecDepth 100000 in
theorem lk_L_70 : LkV RL 70 yX6_why cX6_why 5 (some .int) 2 8 := ⟨(TB_4 146 rfl rfl), (TB_2 120 rfl rfl), (TB_2 121 rfl rfl), (TB_1 1 rfl rfl), (TB_2 122 rfl rfl), ⟨⟨by decide, by decide⟩, by decide +kernel⟩, TX6, 13, rfl⟩
set_option maxRecDepth 100000 in
theorem lk_L_74 : LkV RL 74 yX6_ofMachine cX6_ofMachine 4 (some .int) 2 8 := ⟨(TB_4 150 rfl rfl), (TB_2 182 rfl rfl), (TB_2 183 rfl rfl), (TB_1 1 rfl rfl), (TB_2 184 rfl rfl), ⟨⟨by decide, by decide⟩, by decide +kernel⟩, TX6, 13, rfl⟩
set_option maxRecDepth 100000 in
theorem lk_L_77 : LkV RL 77 yX6_ofPossession cX6_ofPossession 4 (some .int) 2 8 := ⟨(TB_4 154 rfl rfl), (TB_2 193 rfl rfl), (TB_2 194 rfl rfl), (TB_1 1 rfl rfl), (TB_2 195 rfl rfl), ⟨⟨by decide, by decide⟩, by decide +kernel⟩, TX6, 13, rfl⟩
set_option maxRecDepth 100000 in
theorem lk_L_80 : LkV RL 80 yX6_many cX6_many 2 (some .int) 1 8 := ⟨(TB_4 158 rfl rfl), (TB_1 165 rfl rfl), (TB_1 166 rfl rfl), (TB_1 1 rfl rfl), (TB_1 167 rfl rfl), ⟨⟨by decide, by decide⟩, by decide +kernel⟩, TX6, 13, rfl⟩
set_option maxRecDepth 100000 in
theorem lk_L_83 : LkV RL 83 yX6_meanWear cX6_meanWear 4 (some .double) 1 8 := ⟨(TB_4 162 rfl rfl), (TB_4 163 rfl rfl), (TB_4 164 rfl rfl), (TB_1 1 rfl rfl), (TB_4 165 rfl rfl), ⟨⟨by decide, by decide⟩, by decide +kernel⟩, TX6, 13, rfl⟩
set_option maxRecDepth 100000 in
theorem lk_L_87 : LkV RL 87 yX6_couldSee cX6_couldSee 4 (some .int) 1 8 := ⟨(TB_4 170 rfl rfl), (TB_2 129 rfl rfl), (TB_2 130 rfl rfl), (TB_1 1 rfl rfl), (TB_2 131 rfl rfl), ⟨⟨by decide, by decide⟩, by decide +kernel⟩, TX6, 13, rfl⟩
set_option maxRecDepth 100000 in
theorem lk_L_90 : LkV RL 90 yX6_firstRisk cX6_firstRisk 5 (some .int) 2 8 := ⟨(TB_4 174 rfl rfl), (TB_2 137 rfl rfl), (TB_2 138 rfl rfl), (TB_1 1 rfl rfl), (TB_2 139 rfl rfl), ⟨⟨by decide, by decide⟩, by decide +kernel⟩, TX6, 13, rfl⟩
set_option maxRecDepth 100000 in
theorem lk_L_93 : LkV RL 93 yX6_bestWork cX6_bestWork 9 (some .int) 3 8 := ⟨(TB_4 178 rfl rfl), (TB_2 159 rfl rfl), (TB_2 160 rfl rfl), (TB_1 1 rfl rfl), (TB_2 161 rfl rfl), ⟨⟨by decide, by decide⟩, by decide +kernel⟩, TX6, 13, rfl⟩
set_option maxRecDepth 100000 in
theorem lk_L_96 : LkV RL 96 yX6_freeDay cX6_freeDay 5 (some .int) 3 8 := ⟨(TB_4 182 rfl rfl), (TB_2 214 rfl rfl), (TB_2 215 rfl rfl), (TB_1 1 rfl rfl), (TB_2 216 rfl rfl), ⟨⟨by decide, by decide⟩, by decide +kernel⟩, TX6, 13, rfl⟩
set_option maxRecDepth 100000 in
theorem lk_L_99 : LkV RL 99 yX6_wouldOverrun cX6_wouldOverrun 3 (some .int) 1 8 := ⟨(TB_4 186 rfl rfl), (TB_4 187 rfl rfl), (TB_4 188 rfl rfl), (TB_1 1 rfl rfl), (TB_4 189 rfl rfl), ⟨⟨by decide, by decide⟩, by decide +kernel⟩, TX6, 13, rfl⟩
set_option maxRecDepth 100000 in
theorem lk_L_105 : LkI RL 105 yX7_init cX7_init 5 0 := ⟨(TB_4 193 rfl rfl), (TB_4 194 rfl rfl), (TB_1 7 rfl rfl), (TB_4 195 rfl rfl), ⟨⟨by decide, by decide⟩, by decide +kernel⟩, rfl⟩
set_option maxRecDepth 100000 in
theorem lk_X7_16 : LkI RX7 16 yJx4a65c_init_da8c8 cJx4a65c_init_da8c8 1 0 := ⟨(TB_4 200 rfl rfl), (TB_1 39 rfl rfl), (TB_1 4 rfl rfl), (TB_1 40 rfl rfl), ⟨⟨by decide, by decide⟩, by decide +kernel⟩, rfl⟩
set_option maxRecDepth 100000 in
theorem lk_L_112 : LkV RL 112 yX7_thrown cX7_thrown 1 (some .int) 0 9 := ⟨(TB_4 239 rfl rfl), (TB_5 0 rfl rfl), (TB_5 1 rfl rfl), (TB_1 7 rfl rfl), (TB_5 2 rfl rfl), ⟨⟨by decide, by decide⟩, by decide +kernel⟩, TX7, 12, rfl⟩
set_option maxRecDepth 100000 in
theorem lk_L_111 : LkV RL 111 yX7_curve cX7_curve 4 (some .boolean) 2 9 := ⟨(TB_5 3 rfl rfl), (TB_5 4 rfl rfl), (TB_5 5 rfl rfl), (TB_1 7 rfl rfl), (TB_5 6 rfl rfl), ⟨⟨by decide, by decide⟩, by decide +kernel⟩, TX7, 12, rfl⟩
set_option maxRecDepth 100000 in
theorem lk_X7_72 : LkS RX7 72 yX7_isSection cX7_isSection 1 (some .boolean) 1 := ⟨(TB_5 7 rfl rfl), (TB_5 8 rfl rfl), (TB_1 7 rfl rfl), (TB_5 9 rfl rfl), ⟨⟨by decide, by decide⟩, by decide +kernel⟩⟩
set_option maxRecDepth 100000 in
theorem lk_X7_68 : LkS RX7 68 yX7_is cX7_is 3 (some .boolean) 3 := ⟨(TB_5 10 rfl rfl), (TB_5 11 rfl rfl), (TB_1 7 rfl rfl), (TB_5 12 rfl rfl), ⟨⟨by decide, by decide⟩, by decide +kernel⟩⟩
set_option maxRecDepth 100000 in
theorem lk_L_119 : LkV RL 119 yX7_sign cX7_sign 4 (some .int) 2 9 := ⟨(TB_5 13 rfl rfl), (TB_5 14 rfl rfl), (TB_5 15 rfl rfl), (TB_1 7 rfl rfl), (TB_5 16 rfl rfl), ⟨⟨by decide, by decide⟩, by decide +kernel⟩, TX7, 12, rfl⟩
set_option maxRecDepth 100000 in
theorem lk_X7_76 : LkV RX7 76 yX7_refuse cX7_refuse 2 (some .int) 1 9 := ⟨(TB_5 17 rfl rfl), (TB_5 19 rfl rfl), (TB_of 34 rfl rfl), (TB_1 7 rfl rfl), (TB_5 20 rfl rfl), ⟨⟨by decide, by decide⟩, by decide +kernel⟩, TX7, 12, rfl⟩
set_option maxRecDepth 100000 in
theorem lk_L_123 : LkV RL 123 yX7_pass_ cX7_pass_ 6 (some .int) 3 9 := ⟨(TB_5 21 rfl rfl), (TB_5 22 rfl rfl), (TB_5 23 rfl rfl), (TB_1 7 rfl rfl), (TB_5 24 rfl rfl), ⟨⟨by decide, by decide⟩, by decide +kernel⟩, TX7, 12, rfl⟩
set_option maxRecDepth 100000 in
theorem lk_X7_112 : LkS RX7 112 yX7_isTrains cX7_isTrains 1 (some .boolean) 1 := ⟨(TB_5 25 rfl rfl), (TB_5 26 rfl rfl), (TB_1 7 rfl rfl), (TB_5 27 rfl rfl), ⟨⟨by decide, by decide⟩, by decide +kernel⟩⟩
set_option maxRecDepth 100000 in
theorem lk_X7_115 : LkV RX7 115 yX7_pass cX7_pass 8 (some .int) 2 9 := ⟨(TB_5 28 rfl rfl), (TB_5 30 rfl rfl), (TB_of 35 rfl rfl), (TB_1 7 rfl rfl), (TB_5 31 rfl rfl), ⟨⟨by decide, by decide⟩, by decide +kernel⟩, TX7, 12, rfl⟩
set_option maxRecDepth 100000 in
theorem lk_X7_79 : LkV RX7 79 yJx4a65c_iterator_32c93 cJx4a65c_iterator_32c93 1 (some (.object "java/util/Iterator")) 0 1 := ⟨(TB_5 32 rfl rfl), (TB_5 33 rfl rfl), (TB_5 34 rfl rfl), (TB_1 4 rfl rfl), (TB_5 35 rfl rfl), ⟨⟨by decide, by decide⟩, by decide +kernel⟩, TJx4a65c, 3, rfl⟩
set_option maxRecDepth 100000 in
theorem lk_Jx4a65c_269 : LkI RJx4a65c 269 yJx35411_init_45d68 cJx35411_init_45d68 2 1 := ⟨(TB_5 38 rfl rfl), (TB_5 39 rfl rfl), (TB_1 17 rfl rfl), (TB_5 40 rfl rfl), ⟨⟨by decide, by decide⟩, by decide +kernel⟩, rfl⟩
set_option maxRecDepth 100000 in
theorem lk_Jx35411_31 : LkV RJx35411 31 yJx35411_checkForComodification_da8c8 cJx35411_checkForComodification_da8c8 1 none 0 0 := ⟨(TB_5 74 rfl rfl), (TB_5 75 rfl rfl), (TB_5 76 rfl rfl), (TB_1 17 rfl rfl), (TB_5 77 rfl rfl), ⟨⟨by decide, by decide⟩, by decide +kernel⟩, TJx35411, 4, rfl⟩
set_option maxRecDepth 100000 in
theorem lk_X7_96 : LkV RX7 96 yX7_give cX7_give 7 (some .int) 2 9 := ⟨(TB_5 79 rfl rfl), (TB_5 81 rfl rfl), (TB_of 36 rfl rfl), (TB_1 7 rfl rfl), (TB_5 82 rfl rfl), ⟨⟨by decide, by decide⟩, by decide +kernel⟩, TX7, 12, rfl⟩
set_option maxRecDepth 100000 in
theorem lk_X7_153 : LkV RX7 153 yX7_lives cX7_lives 3 (some (.array .int)) 0 9 := ⟨(TB_5 83 rfl rfl), (TB_5 85 rfl rfl), (TB_of 37 rfl rfl), (TB_1 7 rfl rfl), (TB_5 86 rfl rfl), ⟨⟨by decide, by decide⟩, by decide +kernel⟩, TX7, 12, rfl⟩
set_option maxRecDepth 100000 in
theorem lk_X7_64 : LkV RX7 64 yJx4a65c_size_8abf5 cJx4a65c_size_8abf5 1 (some .int) 0 1 := ⟨(TB_5 87 rfl rfl), (TB_1 169 rfl rfl), (TB_1 170 rfl rfl), (TB_1 4 rfl rfl), (TB_1 171 rfl rfl), ⟨⟨by decide, by decide⟩, by decide +kernel⟩, TJx4a65c, 3, rfl⟩
set_option maxRecDepth 100000 in
theorem lk_X7_52 : LkV RX7 52 yJx4a65c_get_915e3 cJx4a65c_get_915e3 2 (some (.object "java/lang/Object")) 1 1 := ⟨(TB_5 88 rfl rfl), (TB_1 177 rfl rfl), (TB_1 178 rfl rfl), (TB_1 4 rfl rfl), (TB_1 179 rfl rfl), ⟨⟨by decide, by decide⟩, by decide +kernel⟩, TJx4a65c, 3, rfl⟩
set_option maxRecDepth 100000 in
theorem lk_X7_157 : LkS RX7 157 yX7_took cX7_took 7 (some .int) 2 := ⟨(TB_5 89 rfl rfl), (TB_5 90 rfl rfl), (TB_1 7 rfl rfl), (TB_5 91 rfl rfl), ⟨⟨by decide, by decide⟩, by decide +kernel⟩⟩
set_option maxRecDepth 100000 in
theorem lk_X7_161 : LkS RX7 161 yX7_treat cX7_treat 3 none 3 := ⟨(TB_5 92 rfl rfl), (TB_5 93 rfl rfl), (TB_1 7 rfl rfl), (TB_5 94 rfl rfl), ⟨⟨by decide, by decide⟩, by decide +kernel⟩⟩
set_option maxRecDepth 100000 in
theorem lk_X7_150 : LkS RX7 150 yJ9_max_7cf53 cJ9_max_7cf53 2 (some .int) 2 := ⟨(TB_5 95 rfl rfl), (TB_2 172 rfl rfl), (TB_1 16 rfl rfl), (TB_2 173 rfl rfl), ⟨⟨by decide, by decide⟩, by decide +kernel⟩⟩
set_option maxRecDepth 100000 in
theorem lk_X7_38 : LkS RX7 38 yJ9_min_7cf53 cJ9_min_7cf53 2 (some .int) 2 := ⟨(TB_5 96 rfl rfl), (TB_1 221 rfl rfl), (TB_1 16 rfl rfl), (TB_1 222 rfl rfl), ⟨⟨by decide, by decide⟩, by decide +kernel⟩⟩
set_option maxRecDepth 100000 in
theorem lk_X7_99 : LkS RX7 99 yX7_age cX7_age 2 none 2 := ⟨(TB_5 97 rfl rfl), (TB_5 98 rfl rfl), (TB_1 7 rfl rfl), (TB_5 99 rfl rfl), ⟨⟨by decide, by decide⟩, by decide +kernel⟩⟩
set_option maxRecDepth 100000 in
theorem lk_X7_44 : LkS RX7 44 yX7_speedOf cX7_speedOf 4 (some .int) 2 := ⟨(TB_5 100 rfl rfl), (TB_5 101 rfl rfl), (TB_1 7 rfl rfl), (TB_5 102 rfl rfl), ⟨⟨by decide, by decide⟩, by decide +kernel⟩⟩
set_option maxRecDepth 100000 in
theorem lk_X7_34 : LkS RX7 34 yX7_bears cX7_bears 4 (some .int) 3 := ⟨(TB_5 103 rfl rfl), (TB_5 104 rfl rfl), (TB_1 7 rfl rfl), (TB_5 105 rfl rfl), ⟨⟨by decide, by decide⟩, by decide +kernel⟩⟩
set_option maxRecDepth 100000 in
theorem lk_L_127 : LkV RL 127 yX7_measure cX7_measure 8 (some .int) 4 9 := ⟨(TB_5 106 rfl rfl), (TB_5 107 rfl rfl), (TB_5 108 rfl rfl), (TB_1 7 rfl rfl), (TB_5 109 rfl rfl), ⟨⟨by decide, by decide⟩, by decide +kernel⟩, TX7, 12, rfl⟩
set_option maxRecDepth 100000 in
theorem lk_X7_118 : LkS RX7 118 yX7_isPart cX7_isPart 3 (some .boolean) 3 := ⟨(TB_5 110 rfl rfl), (TB_5 111 rfl rfl), (TB_1 7 rfl rfl), (TB_5 112 rfl rfl), ⟨⟨by decide, by decide⟩, by decide +kernel⟩⟩
set_option maxRecDepth 100000 in
theorem lk_X7_121 : LkV RX7 121 yJx4a65c_add_9ea2d cJx4a65c_add_9ea2d 2 (some .boolean) 1 1 := ⟨(TB_5 113 rfl rfl), (TB_3 101 rfl rfl), (TB_3 102 rfl rfl), (TB_1 4 rfl rfl), (TB_3 103 rfl rfl), ⟨⟨by decide, by decide⟩, by decide +kernel⟩, TJx4a65c, 3, rfl⟩
set_option maxRecDepth 100000 in
theorem lk_L_131 : LkV RL 131 yX7_align cX7_align 3 (some .int) 1 9 := ⟨(TB_5 114 rfl rfl), (TB_5 115 rfl rfl), (TB_5 116 rfl rfl), (TB_1 7 rfl rfl), (TB_5 117 rfl rfl), ⟨⟨by decide, by decide⟩, by decide +kernel⟩, TX7, 12, rfl⟩
set_option maxRecDepth 100000 in
theorem lk_L_134 : LkV RL 134 yX7_machine cX7_machine 4 (some .int) 2 9 := ⟨(TB_5 118 rfl rfl), (TB_5 119 rfl rfl), (TB_5 120 rfl rfl), (TB_1 7 rfl rfl), (TB_5 121 rfl rfl), ⟨⟨by decide, by decide⟩, by decide +kernel⟩, TX7, 12, rfl⟩
set_option maxRecDepth 100000 in
theorem lk_L_137 : LkV RL 137 yX7_service cX7_service 4 (some .int) 1 9 := ⟨(TB_5 122 rfl rfl), (TB_5 123 rfl rfl), (TB_5 124 rfl rfl), (TB_1 7 rfl rfl), (TB_5 125 rfl rfl), ⟨⟨by decide, by decide⟩, by decide +kernel⟩, TX7, 12, rfl⟩
set_option maxRecDepth 100000 in
theorem lk_X7_125 : LkV RX7 125 yX7_isMachine cX7_isMachine 2 (some .boolean) 1 9 := ⟨(TB_5 126 rfl rfl), (TB_5 128 rfl rfl), (TB_of 38 rfl rfl), (TB_1 7 rfl rfl), (TB_5 129 rfl rfl), ⟨⟨by decide, by decide⟩, by decide +kernel⟩, TX7, 12, rfl⟩
set_option maxRecDepth 100000 in
theorem lk_X7_128 : LkS RX7 128 yX7_uses cX7_uses 4 (some .boolean) 2 := ⟨(TB_5 130 rfl rfl), (TB_5 131 rfl rfl), (TB_1 7 rfl rfl), (TB_5 132 rfl rfl), ⟨⟨by decide, by decide⟩, by decide +kernel⟩⟩
set_option maxRecDepth 100000 in
theorem lk_L_141 : LkV RL 141 yX7_book cX7_book 7 (some .int) 5 9 := ⟨(TB_5 133 rfl rfl), (TB_5 134 rfl rfl), (TB_5 135 rfl rfl), (TB_1 7 rfl rfl), (TB_5 136 rfl rfl), ⟨⟨by decide, by decide⟩, by decide +kernel⟩, TX7, 12, rfl⟩
set_option maxRecDepth 100000 in
theorem lk_X7_132 : LkV RX7 132 yX7_isFree cX7_isFree 7 (some .boolean) 4 9 := ⟨(TB_5 137 rfl rfl), (TB_5 139 rfl rfl), (TB_of 39 rfl rfl), (TB_1 7 rfl rfl), (TB_5 140 rfl rfl), ⟨⟨by decide, by decide⟩, by decide +kernel⟩, TX7, 12, rfl⟩
set_option maxRecDepth 100000 in
theorem lk_L_144 : LkV RL 144 yX7_work cX7_work 8 (some .int) 3 9 := ⟨(TB_5 141 rfl rfl), (TB_5 142 rfl rfl), (TB_5 143 rfl rfl), (TB_1 7 rfl rfl), (TB_5 144 rfl rfl), ⟨⟨by decide, by decide⟩, by decide +kernel⟩, TX7, 12, rfl⟩
set_option maxRecDepth 100000 in
theorem lk_X7_136 : LkV RX7 136 yX7_isNight cX7_isNight 2 (some .boolean) 1 9 := ⟨(TB_5 145 rfl rfl), (TB_5 147 rfl rfl), (TB_of 40 rfl rfl), (TB_1 7 rfl rfl), (TB_5 148 rfl rfl), ⟨⟨by decide, by decide⟩, by decide +kernel⟩, TX7, 12, rfl⟩
set_option maxRecDepth 100000 in
theorem lk_X7_139 : LkV RX7 139 yX7_has cX7_has 3 (some .boolean) 2 9 := ⟨(TB_5 149 rfl rfl), (TB_5 151 rfl rfl), (TB_of 41 rfl rfl), (TB_1 7 rfl rfl), (TB_5 152 rfl rfl), ⟨⟨by decide, by decide⟩, by decide +kernel⟩, TX7, 12, rfl⟩
set_option maxRecDepth 100000 in
theorem lk_X7_142 : LkV RX7 142 yX7_hours cX7_hours 3 (some .int) 2 9 := ⟨(TB_5 153 rfl rfl), (TB_5 155 rfl rfl), (TB_of 42 rfl rfl), (TB_1 7 rfl rfl), (TB_5 156 rfl rfl), ⟨⟨by decide, by decide⟩, by decide +kernel⟩, TX7, 12, rfl⟩
set_option maxRecDepth 100000 in
theorem lk_L_147 : LkV RL 147 yX7_cancel cX7_cancel 4 (some .int) 1 9 := ⟨(TB_5 157 rfl rfl), (TB_5 158 rfl rfl), (TB_5 159 rfl rfl), (TB_1 7 rfl rfl), (TB_5 160 rfl rfl), ⟨⟨by decide, by decide⟩, by decide +kernel⟩, TX7, 12, rfl⟩
set_option maxRecDepth 100000 in
theorem lk_L_150 : LkV RL 150 yX7_mark cX7_mark 4 (some .int) 2 9 := ⟨(TB_5 161 rfl rfl), (TB_5 162 rfl rfl), (TB_5 163 rfl rfl), (TB_1 7 rfl rfl), (TB_5 164 rfl rfl), ⟨⟨by decide, by decide⟩, by decide +kernel⟩, TX7, 12, rfl⟩
set_option maxRecDepth 100000 in
theorem lk_X7_145 : LkS RX7 145 yJ6_bitCount_0f7a4 cJ6_bitCount_0f7a4 1 (some .int) 1 := ⟨(TB_5 165 rfl rfl), (TB_5 166 rfl rfl), (TB_1 25 rfl rfl), (TB_5 167 rfl rfl), ⟨⟨by decide, by decide⟩, by decide +kernel⟩⟩
set_option maxRecDepth 100000 in
theorem lk_L_153 : LkV RL 153 yX7_take cX7_take 3 (some .int) 1 9 := ⟨(TB_5 171 rfl rfl), (TB_5 172 rfl rfl), (TB_5 173 rfl rfl), (TB_1 7 rfl rfl), (TB_5 174 rfl rfl), ⟨⟨by decide, by decide⟩, by decide +kernel⟩, TX7, 12, rfl⟩
set_option maxRecDepth 100000 in
theorem lk_L_156 : LkV RL 156 yX7_giveBack cX7_giveBack 2 (some .int) 1 9 := ⟨(TB_5 175 rfl rfl), (TB_5 176 rfl rfl), (TB_5 177 rfl rfl), (TB_1 7 rfl rfl), (TB_5 178 rfl rfl), ⟨⟨by decide, by decide⟩, by decide +kernel⟩, TX7, 12, rfl⟩
set_option maxRecDepth 100000 in
theorem lk_L_159 : LkV RL 159 yX7_walk cX7_walk 6 (some .boolean) 2 9 := ⟨(TB_5 179 rfl rfl), (TB_5 180 rfl rfl), (TB_5 181 rfl rfl), (TB_1 7 rfl rfl), (TB_5 182 rfl rfl), ⟨⟨by decide, by decide⟩, by decide +kernel⟩, TX7, 12, rfl⟩
set_option maxRecDepth 100000 in
theorem lk_X7_165 : LkV RX7 165 yX7_isTaken cX7_isTaken 5 (some .boolean) 1 9 := ⟨(TB_5 183 rfl rfl), (TB_5 185 rfl rfl), (TB_of 43 rfl rfl), (TB_1 7 rfl rfl), (TB_5 186 rfl rfl), ⟨⟨by decide, by decide⟩, by decide +kernel⟩, TX7, 12, rfl⟩
set_option maxRecDepth 100000 in
theorem lk_L_162 : LkV RL 162 yX7_ofSection cX7_ofSection 3 (some .int) 2 9 := ⟨(TB_5 187 rfl rfl), (TB_5 188 rfl rfl), (TB_5 189 rfl rfl), (TB_1 7 rfl rfl), (TB_5 190 rfl rfl), ⟨⟨by decide, by decide⟩, by decide +kernel⟩, TX7, 12, rfl⟩
set_option maxRecDepth 100000 in
theorem lk_X7_171 : LkV RX7 171 yX7_ofSectionNow cX7_ofSectionNow 3 (some .int) 2 9 := ⟨(TB_5 191 rfl rfl), (TB_5 193 rfl rfl), (TB_of 44 rfl rfl), (TB_1 7 rfl rfl), (TB_5 194 rfl rfl), ⟨⟨by decide, by decide⟩, by decide +kernel⟩, TX7, 12, rfl⟩
set_option maxRecDepth 100000 in
theorem lk_L_165 : LkV RL 165 yX7_known cX7_known 3 (some .int) 2 9 := ⟨(TB_5 195 rfl rfl), (TB_5 196 rfl rfl), (TB_5 197 rfl rfl), (TB_1 7 rfl rfl), (TB_5 198 rfl rfl), ⟨⟨by decide, by decide⟩, by decide +kernel⟩, TX7, 12, rfl⟩
set_option maxRecDepth 100000 in
theorem lk_X7_178 : LkV RX7 178 yX7_knownNow cX7_knownNow 4 (some .int) 2 9 := ⟨(TB_5 199 rfl rfl), (TB_5 201 rfl rfl), (TB_of 45 rfl rfl), (TB_1 7 rfl rfl), (TB_5 202 rfl rfl), ⟨⟨by decide, by decide⟩, by decide +kernel⟩, TX7, 12, rfl⟩
set_option maxRecDepth 100000 in
theorem lk_X7_48 : LkV RX7 48 yX7_knownBy cX7_knownBy 5 (some .int) 1 9 := ⟨(TB_5 203 rfl rfl), (TB_5 205 rfl rfl), (TB_of 46 rfl rfl), (TB_1 7 rfl rfl), (TB_5 206 rfl rfl), ⟨⟨by decide, by decide⟩, by decide +kernel⟩, TX7, 12, rfl⟩
set_option maxRecDepth 100000 in
theorem lk_X7_174 : LkV RX7 174 yX7_knownOf cX7_knownOf 6 (some (.array .int)) 1 9 := ⟨(TB_5 207 rfl rfl), (TB_5 209 rfl rfl), (TB_of 47 rfl rfl), (TB_1 7 rfl rfl), (TB_5 210 rfl rfl), ⟨⟨by decide, by decide⟩, by decide +kernel⟩, TX7, 12, rfl⟩
set_option maxRecDepth 100000 in
theorem lk_L_168 : LkV RL 168 yX7_why cX7_why 3 (some .int) 2 9 := ⟨(TB_5 212 rfl rfl), (TB_5 213 rfl rfl), (TB_5 214 rfl rfl), (TB_1 7 rfl rfl), (TB_5 215 rfl rfl), ⟨⟨by decide, by decide⟩, by decide +kernel⟩, TX7, 12, rfl⟩
set_option maxRecDepth 100000 in
theorem lk_X7_184 : LkV RX7 184 yX7_whyNow cX7_whyNow 3 (some .int) 2 9 := ⟨(TB_5 216 rfl rfl), (TB_5 218 rfl rfl), (TB_of 48 rfl rfl), (TB_1 7 rfl rfl), (TB_5 219 rfl rfl), ⟨⟨by decide, by decide⟩, by decide +kernel⟩, TX7, 12, rfl⟩
set_option maxRecDepth 100000 in
theorem lk_X7_181 : LkS RX7 181 yX7_whyOf cX7_whyOf 4 (some .int) 2 := ⟨(TB_5 220 rfl rfl), (TB_5 221 rfl rfl), (TB_1 7 rfl rfl), (TB_5 222 rfl rfl), ⟨⟨by decide, by decide⟩, by decide +kernel⟩⟩
set_option maxRecDepth 100000 in
theorem lk_L_171 : LkV RL 171 yX7_ofMachine cX7_ofMachine 3 (some .int) 2 9 := ⟨(TB_5 223 rfl rfl), (TB_5 224 rfl rfl), (TB_5 225 rfl rfl), (TB_1 7 rfl rfl), (TB_5 226 rfl rfl), ⟨⟨by decide, by decide⟩, by decide +kernel⟩, TX7, 12, rfl⟩
set_option maxRecDepth 100000 in
theorem lk_L_174 : LkV RL 174 yX7_ofPossession cX7_ofPossession 3 (some .int) 2 9 := ⟨(TB_5 227 rfl rfl), (TB_5 228 rfl rfl), (TB_5 229 rfl rfl), (TB_1 7 rfl rfl), (TB_5 230 rfl rfl), ⟨⟨by decide, by decide⟩, by decide +kernel⟩, TX7, 12, rfl⟩
set_option maxRecDepth 100000 in
theorem lk_X7_188 : LkV RX7 188 yX7_ofNightNow cX7_ofNightNow 3 (some .int) 2 9 := ⟨(TB_5 231 rfl rfl), (TB_5 233 rfl rfl), (TB_of 49 rfl rfl), (TB_1 7 rfl rfl), (TB_5 234 rfl rfl), ⟨⟨by decide, by decide⟩, by decide +kernel⟩, TX7, 12, rfl⟩
set_option maxRecDepth 100000 in
theorem lk_L_177 : LkV RL 177 yX7_many cX7_many 2 (some .int) 1 9 := ⟨(TB_5 235 rfl rfl), (TB_5 236 rfl rfl), (TB_5 237 rfl rfl), (TB_1 7 rfl rfl), (TB_5 238 rfl rfl), ⟨⟨by decide, by decide⟩, by decide +kernel⟩, TX7, 12, rfl⟩
set_option maxRecDepth 100000 in
theorem lk_X7_191 : LkV RX7 191 yX7_manyNow cX7_manyNow 8 (some .int) 1 9 := ⟨(TB_5 239 rfl rfl), (TB_6 1 rfl rfl), (TB_of 50 rfl rfl), (TB_1 7 rfl rfl), (TB_6 2 rfl rfl), ⟨⟨by decide, by decide⟩, by decide +kernel⟩, TX7, 12, rfl⟩
set_option maxRecDepth 100000 in
theorem lk_L_181 : LkV RL 181 yX7_meanWear cX7_meanWear 4 (some .double) 1 9 := ⟨(TB_6 3 rfl rfl), (TB_6 4 rfl rfl), (TB_6 5 rfl rfl), (TB_1 7 rfl rfl), (TB_6 6 rfl rfl), ⟨⟨by decide, by decide⟩, by decide +kernel⟩, TX7, 12, rfl⟩
set_option maxRecDepth 100000 in
theorem lk_L_184 : LkV RL 184 yX7_couldSee cX7_couldSee 2 (some .int) 1 9 := ⟨(TB_6 8 rfl rfl), (TB_6 9 rfl rfl), (TB_6 10 rfl rfl), (TB_1 7 rfl rfl), (TB_6 11 rfl rfl), ⟨⟨by decide, by decide⟩, by decide +kernel⟩, TX7, 12, rfl⟩
set_option maxRecDepth 100000 in
theorem lk_X7_196 : LkV RX7 196 yX7_seeNow cX7_seeNow 5 (some .int) 1 9 := ⟨(TB_6 12 rfl rfl), (TB_6 14 rfl rfl), (TB_of 51 rfl rfl), (TB_1 7 rfl rfl), (TB_6 15 rfl rfl), ⟨⟨by decide, by decide⟩, by decide +kernel⟩, TX7, 12, rfl⟩
set_option maxRecDepth 100000 in
theorem lk_L_187 : LkV RL 187 yX7_firstRisk cX7_firstRisk 3 (some .int) 2 9 := ⟨(TB_6 16 rfl rfl), (TB_6 17 rfl rfl), (TB_6 18 rfl rfl), (TB_1 7 rfl rfl), (TB_6 19 rfl rfl), ⟨⟨by decide, by decide⟩, by decide +kernel⟩, TX7, 12, rfl⟩
set_option maxRecDepth 100000 in
theorem lk_X7_202 : LkV RX7 202 yX7_riskNow cX7_riskNow 5 (some .int) 2 9 := ⟨(TB_6 20 rfl rfl), (TB_6 22 rfl rfl), (TB_of 52 rfl rfl), (TB_1 7 rfl rfl), (TB_6 23 rfl rfl), ⟨⟨by decide, by decide⟩, by decide +kernel⟩, TX7, 12, rfl⟩
set_option maxRecDepth 100000 in
theorem lk_L_190 : LkV RL 190 yX7_bestWork cX7_bestWork 4 (some .int) 3 9 := ⟨(TB_6 30 rfl rfl), (TB_6 31 rfl rfl), (TB_6 32 rfl rfl), (TB_1 7 rfl rfl), (TB_6 33 rfl rfl), ⟨⟨by decide, by decide⟩, by decide +kernel⟩, TX7, 12, rfl⟩
set_option maxRecDepth 100000 in
theorem lk_X7_209 : LkV RX7 209 yX7_bestNow cX7_bestNow 8 (some .int) 3 9 := ⟨(TB_6 34 rfl rfl), (TB_6 36 rfl rfl), (TB_of 53 rfl rfl), (TB_1 7 rfl rfl), (TB_6 37 rfl rfl), ⟨⟨by decide, by decide⟩, by decide +kernel⟩, TX7, 12, rfl⟩
set_option maxRecDepth 100000 in
theorem lk_X7_205 : LkV RX7 205 yX7_costOf cX7_costOf 8 (some .int) 4 9 := ⟨(TB_6 38 rfl rfl), (TB_6 40 rfl rfl), (TB_of 54 rfl rfl), (TB_1 7 rfl rfl), (TB_6 41 rfl rfl), ⟨⟨by decide, by decide⟩, by decide +kernel⟩, TX7, 12, rfl⟩
set_option maxRecDepth 100000 in
theorem lk_L_193 : LkV RL 193 yX7_freeDay cX7_freeDay 4 (some .int) 3 9 := ⟨(TB_6 42 rfl rfl), (TB_6 43 rfl rfl), (TB_6 44 rfl rfl), (TB_1 7 rfl rfl), (TB_6 45 rfl rfl), ⟨⟨by decide, by decide⟩, by decide +kernel⟩, TX7, 12, rfl⟩
set_option maxRecDepth 100000 in
theorem lk_X7_213 : LkV RX7 213 yX7_freeNow cX7_freeNow 5 (some .int) 3 9 := ⟨(TB_6 46 rfl rfl), (TB_6 48 rfl rfl), (TB_of 55 rfl rfl), (TB_1 7 rfl rfl), (TB_6 49 rfl rfl), ⟨⟨by decide, by decide⟩, by decide +kernel⟩, TX7, 12, rfl⟩
set_option maxRecDepth 100000 in
theorem lk_L_196 : LkV RL 196 yX7_wouldOverrun cX7_wouldOverrun 3 (some .int) 1 9 := ⟨(TB_6 50 rfl rfl), (TB_6 51 rfl rfl), (TB_6 52 rfl rfl), (TB_1 7 rfl rfl), (TB_6 53 rfl rfl), ⟨⟨by decide, by decide⟩, by decide +kernel⟩, TX7, 12, rfl⟩
set_option maxRecDepth 100000 in
theorem lk_L_201 : LkV RL 201 yX7_digest cX7_digest 7 (some .long) 0 9 := ⟨(TB_6 54 rfl rfl), (TB_6 55 rfl rfl), (TB_6 56 rfl rfl), (TB_1 7 rfl rfl), (TB_6 57 rfl rfl), ⟨⟨by decide, by decide⟩, by decide +kernel⟩, TX7, 12, rfl⟩
set_option maxRecDepth 100000 in
theorem lk_X7_224 : LkV RX7 224 yX7_add cX7_add 2 none 1 9 := ⟨(TB_6 59 rfl rfl), (TB_6 61 rfl rfl), (TB_of 56 rfl rfl), (TB_1 7 rfl rfl), (TB_6 62 rfl rfl), ⟨⟨by decide, by decide⟩, by decide +kernel⟩, TX7, 12, rfl⟩
set_option maxRecDepth 100000 in
theorem lk_X6_37 : LkN RX6 37 yX3_init cX3_init 1 0 := ⟨⟨"TrackNights", (NB_1 91 rfl rfl)⟩, (TB_1 92 rfl rfl), (TB_1 6 rfl rfl), (TB_1 93 rfl rfl), ⟨⟨by decide, by decide⟩, by decide +kernel⟩, rfl⟩
set_option maxRecDepth 100000 in
theorem lt_127 : LkT RX6 125 127 129 "java/lang/IndexOutOfBoundsException" "no such measure" := ⟨(TB_2 96 rfl rfl), (TB_1 11 rfl rfl), by decide +kernel, by decide +kernel, by decide +kernel, by decide +kernel, by decide +kernel⟩
set_option maxRecDepth 100000 in
theorem lt_137 : LkT RX6 90 137 94 "java/lang/IllegalStateException" "the measure is aligned" := ⟨(TB_3 19 rfl rfl), (TB_1 13 rfl rfl), by decide +kernel, by decide +kernel, by decide +kernel, by decide +kernel, by decide +kernel⟩
set_option maxRecDepth 100000 in
theorem lt_356 : LkT RX6 72 356 76 "java/lang/IllegalArgumentException" "days is not 1 to 200" := ⟨(TB_2 12 rfl rfl), (TB_1 12 rfl rfl), by decide +kernel, by decide +kernel, by decide +kernel, by decide +kernel, by decide +kernel⟩
set_option maxRecDepth 100000 in
theorem lt_164 : LkT RX6 72 164 76 "java/lang/IllegalArgumentException" "day is less than 5 later, or above 2000" := ⟨(TB_2 12 rfl rfl), (TB_1 12 rfl rfl), by decide +kernel, by decide +kernel, by decide +kernel, by decide +kernel, by decide +kernel⟩
set_option maxRecDepth 100000 in
theorem lt_166 : LkT RX6 72 166 76 "java/lang/IllegalArgumentException" "hours is not 2 to 8" := ⟨(TB_2 12 rfl rfl), (TB_1 12 rfl rfl), by decide +kernel, by decide +kernel, by decide +kernel, by decide +kernel, by decide +kernel⟩
set_option maxRecDepth 100000 in
theorem lt_168 : LkT RX6 90 168 94 "java/lang/IllegalStateException" "there were 16 possessions" := ⟨(TB_3 19 rfl rfl), (TB_1 13 rfl rfl), by decide +kernel, by decide +kernel, by decide +kernel, by decide +kernel, by decide +kernel⟩
set_option maxRecDepth 100000 in
theorem lt_174 : LkT RX6 90 174 94 "java/lang/IllegalStateException" "another possession of that day has a section in common" := ⟨(TB_3 19 rfl rfl), (TB_1 13 rfl rfl), by decide +kernel, by decide +kernel, by decide +kernel, by decide +kernel, by decide +kernel⟩
set_option maxRecDepth 100000 in
theorem lt_194 : LkT RX6 90 194 94 "java/lang/IllegalStateException" "the possession is not booked" := ⟨(TB_3 19 rfl rfl), (TB_1 13 rfl rfl), by decide +kernel, by decide +kernel, by decide +kernel, by decide +kernel, by decide +kernel⟩
set_option maxRecDepth 100000 in
theorem lt_418 : LkT RX6 125 418 129 "java/lang/IndexOutOfBoundsException" "section is not 0 to 19" := ⟨(TB_2 96 rfl rfl), (TB_1 11 rfl rfl), by decide +kernel, by decide +kernel, by decide +kernel, by decide +kernel, by decide +kernel⟩
set_option maxRecDepth 100000 in
theorem lt_336 : LkT RX6 125 336 129 "java/lang/IndexOutOfBoundsException" "track is not 0 or 1" := ⟨(TB_2 96 rfl rfl), (TB_1 11 rfl rfl), by decide +kernel, by decide +kernel, by decide +kernel, by decide +kernel, by decide +kernel⟩
set_option maxRecDepth 100000 in
theorem lt_424 : LkT RX6 125 424 129 "java/lang/IndexOutOfBoundsException" "from or to is not 0 to 9" := ⟨(TB_2 96 rfl rfl), (TB_1 11 rfl rfl), by decide +kernel, by decide +kernel, by decide +kernel, by decide +kernel, by decide +kernel⟩
set_option maxRecDepth 100000 in
theorem lt_426 : LkT RX6 72 426 76 "java/lang/IllegalArgumentException" "to is below from" := ⟨(TB_2 12 rfl rfl), (TB_1 12 rfl rfl), by decide +kernel, by decide +kernel, by decide +kernel, by decide +kernel, by decide +kernel⟩
set_option maxRecDepth 100000 in
theorem lt_428 : LkT RX6 72 428 76 "java/lang/IllegalArgumentException" "trains is not 0 to 40" := ⟨(TB_2 12 rfl rfl), (TB_1 12 rfl rfl), by decide +kernel, by decide +kernel, by decide +kernel, by decide +kernel, by decide +kernel⟩
set_option maxRecDepth 100000 in
theorem lt_253 : LkT RX6 90 253 94 "java/lang/IllegalStateException" "the possession is not taken" := ⟨(TB_3 19 rfl rfl), (TB_1 13 rfl rfl), by decide +kernel, by decide +kernel, by decide +kernel, by decide +kernel, by decide +kernel⟩
set_option maxRecDepth 100000 in
theorem lt_304 : LkT RX6 72 304 76 "java/lang/IllegalArgumentException" "what is not 0 to 4" := ⟨(TB_2 12 rfl rfl), (TB_1 12 rfl rfl), by decide +kernel, by decide +kernel, by decide +kernel, by decide +kernel, by decide +kernel⟩
set_option maxRecDepth 100000 in
theorem lt_142 : LkT RX6 72 142 76 "java/lang/IllegalArgumentException" "kind is not 0 to 2" := ⟨(TB_2 12 rfl rfl), (TB_1 12 rfl rfl), by decide +kernel, by decide +kernel, by decide +kernel, by decide +kernel, by decide +kernel⟩
set_option maxRecDepth 100000 in
theorem lt_144 : LkT RX6 72 144 76 "java/lang/IllegalArgumentException" "life is not 0 to 99" := ⟨(TB_2 12 rfl rfl), (TB_1 12 rfl rfl), by decide +kernel, by decide +kernel, by decide +kernel, by decide +kernel, by decide +kernel⟩
set_option maxRecDepth 100000 in
theorem lt_146 : LkT RX6 90 146 94 "java/lang/IllegalStateException" "there are 4 machines" := ⟨(TB_3 19 rfl rfl), (TB_1 13 rfl rfl), by decide +kernel, by decide +kernel, by decide +kernel, by decide +kernel, by decide +kernel⟩
set_option maxRecDepth 100000 in
theorem lt_420 : LkT RX6 125 420 129 "java/lang/IndexOutOfBoundsException" "no such machine" := ⟨(TB_2 96 rfl rfl), (TB_1 11 rfl rfl), by decide +kernel, by decide +kernel, by decide +kernel, by decide +kernel, by decide +kernel⟩
set_option maxRecDepth 100000 in
theorem lt_334 : LkT RX6 72 334 76 "java/lang/IllegalArgumentException" "what is not 0 to 16" := ⟨(TB_2 12 rfl rfl), (TB_1 12 rfl rfl), by decide +kernel, by decide +kernel, by decide +kernel, by decide +kernel, by decide +kernel⟩
set_option maxRecDepth 100000 in
theorem lt_230 : LkT RX6 125 230 129 "java/lang/IndexOutOfBoundsException" "end is not 0 or 1" := ⟨(TB_2 96 rfl rfl), (TB_1 11 rfl rfl), by decide +kernel, by decide +kernel, by decide +kernel, by decide +kernel, by decide +kernel⟩
set_option maxRecDepth 100000 in
theorem lt_232 : LkT RX6 90 232 94 "java/lang/IllegalStateException" "its day is not this one" := ⟨(TB_3 19 rfl rfl), (TB_1 13 rfl rfl), by decide +kernel, by decide +kernel, by decide +kernel, by decide +kernel, by decide +kernel⟩
set_option maxRecDepth 100000 in
theorem lt_237 : LkT RX6 90 237 94 "java/lang/IllegalStateException" "that end is marked" := ⟨(TB_3 19 rfl rfl), (TB_1 13 rfl rfl), by decide +kernel, by decide +kernel, by decide +kernel, by decide +kernel, by decide +kernel⟩
set_option maxRecDepth 100000 in
theorem lt_102 : LkT RX6 72 102 76 "java/lang/IllegalArgumentException" "drift is not -2 to 2" := ⟨(TB_2 12 rfl rfl), (TB_1 12 rfl rfl), by decide +kernel, by decide +kernel, by decide +kernel, by decide +kernel, by decide +kernel⟩
set_option maxRecDepth 100000 in
theorem lt_108 : LkT RX6 90 108 94 "java/lang/IllegalStateException" "there were 12 measures" := ⟨(TB_3 19 rfl rfl), (TB_1 13 rfl rfl), by decide +kernel, by decide +kernel, by decide +kernel, by decide +kernel, by decide +kernel⟩
set_option maxRecDepth 100000 in
theorem lt_315 : LkT RX6 72 315 76 "java/lang/IllegalArgumentException" "what is not 0 to 3" := ⟨(TB_2 12 rfl rfl), (TB_1 12 rfl rfl), by decide +kernel, by decide +kernel, by decide +kernel, by decide +kernel, by decide +kernel⟩
set_option maxRecDepth 100000 in
theorem lt_320 : LkT RX6 72 320 76 "java/lang/IllegalArgumentException" "what is not 0 to 9" := ⟨(TB_2 12 rfl rfl), (TB_1 12 rfl rfl), by decide +kernel, by decide +kernel, by decide +kernel, by decide +kernel, by decide +kernel⟩
set_option maxRecDepth 100000 in
theorem lt_292 : LkT RX6 72 292 76 "java/lang/IllegalArgumentException" "what is not 0 to 7" := ⟨(TB_2 12 rfl rfl), (TB_1 12 rfl rfl), by decide +kernel, by decide +kernel, by decide +kernel, by decide +kernel, by decide +kernel⟩
set_option maxRecDepth 100000 in
theorem lt_86 : LkT RX6 72 86 76 "java/lang/IllegalArgumentException" "heat is not -20 to 60" := ⟨(TB_2 12 rfl rfl), (TB_1 12 rfl rfl), by decide +kernel, by decide +kernel, by decide +kernel, by decide +kernel, by decide +kernel⟩
set_option maxRecDepth 100000 in
theorem lt_88 : LkT RX6 72 88 76 "java/lang/IllegalArgumentException" "days is not 1 to 60" := ⟨(TB_2 12 rfl rfl), (TB_1 12 rfl rfl), by decide +kernel, by decide +kernel, by decide +kernel, by decide +kernel, by decide +kernel⟩
set_option maxRecDepth 100000 in
theorem lt_92 : LkT RX6 90 92 94 "java/lang/IllegalStateException" "the day would be above 2000" := ⟨(TB_3 19 rfl rfl), (TB_1 13 rfl rfl), by decide +kernel, by decide +kernel, by decide +kernel, by decide +kernel, by decide +kernel⟩
set_option maxRecDepth 100000 in
theorem lt_422 : LkT RX6 125 422 129 "java/lang/IndexOutOfBoundsException" "no such possession" := ⟨(TB_2 96 rfl rfl), (TB_1 11 rfl rfl), by decide +kernel, by decide +kernel, by decide +kernel, by decide +kernel, by decide +kernel⟩
set_option maxRecDepth 100000 in
theorem lt_159 : LkT RX6 90 159 94 "java/lang/IllegalStateException" "the machine is in a possession that is taken" := ⟨(TB_3 19 rfl rfl), (TB_1 13 rfl rfl), by decide +kernel, by decide +kernel, by decide +kernel, by decide +kernel, by decide +kernel⟩
set_option maxRecDepth 100000 in
theorem lt_74 : LkT RX6 72 74 76 "java/lang/IllegalArgumentException" "speed is not 0 to 160" := ⟨(TB_2 12 rfl rfl), (TB_1 12 rfl rfl), by decide +kernel, by decide +kernel, by decide +kernel, by decide +kernel, by decide +kernel⟩
set_option maxRecDepth 100000 in
theorem lt_245 : LkT RX6 90 245 94 "java/lang/IllegalStateException" "not both ends are marked" := ⟨(TB_3 19 rfl rfl), (TB_1 13 rfl rfl), by decide +kernel, by decide +kernel, by decide +kernel, by decide +kernel, by decide +kernel⟩
set_option maxRecDepth 100000 in
theorem lt_262 : LkT RX6 72 262 76 "java/lang/IllegalArgumentException" "sight is not 50 to 2000" := ⟨(TB_2 12 rfl rfl), (TB_1 12 rfl rfl), by decide +kernel, by decide +kernel, by decide +kernel, by decide +kernel, by decide +kernel⟩
set_option maxRecDepth 100000 in
theorem lt_189 : LkT RX6 72 189 76 "java/lang/IllegalArgumentException" "the section is not in the possession" := ⟨(TB_2 12 rfl rfl), (TB_1 12 rfl rfl), by decide +kernel, by decide +kernel, by decide +kernel, by decide +kernel, by decide +kernel⟩
set_option maxRecDepth 100000 in
theorem lt_199 : LkT RX6 90 199 94 "java/lang/IllegalStateException" "there are 6 works" := ⟨(TB_3 19 rfl rfl), (TB_1 13 rfl rfl), by decide +kernel, by decide +kernel, by decide +kernel, by decide +kernel, by decide +kernel⟩
set_option maxRecDepth 100000 in
theorem lt_214 : LkT RX6 90 214 94 "java/lang/IllegalStateException" "the works would take too long" := ⟨(TB_3 19 rfl rfl), (TB_1 13 rfl rfl), by decide +kernel, by decide +kernel, by decide +kernel, by decide +kernel, by decide +kernel⟩
set_option maxRecDepth 100000 in
theorem lt_220 : LkT RX6 90 220 94 "java/lang/IllegalStateException" "the machine is in another possession of that day" := ⟨(TB_3 19 rfl rfl), (TB_1 13 rfl rfl), by decide +kernel, by decide +kernel, by decide +kernel, by decide +kernel, by decide +kernel⟩
set_option maxRecDepth 100000 in
theorem lt_366 : LkT RX6 90 366 94 "java/lang/IllegalStateException" "the possession is neither booked nor taken" := ⟨(TB_3 19 rfl rfl), (TB_1 13 rfl rfl), by decide +kernel, by decide +kernel, by decide +kernel, by decide +kernel, by decide +kernel⟩
set_option maxRecDepth 100000 in
theorem oi_i : Cond.instanceMethod objectInit ∈ TB := (TB_1 32 rfl rfl)
set_option maxRecDepth 100000 in
theorem oi_c : Cond.code objectInit ⟨#[0xb1]⟩ 1 none ∈ TB := (TB_1 33 rfl rfl)
set_option maxRecDepth 100000 in
theorem oi_X6_3 : Cond.methodLink RX6 3 objectInit ∈ TB := (TB_1 31 rfl rfl)
set_option maxRecDepth 100000 in
theorem oi_Jxa1e45_1 : Cond.methodLink RJxa1e45 1 objectInit ∈ TB := (TB_1 47 rfl rfl)
set_option maxRecDepth 100000 in
theorem oi_X4_3 : Cond.methodLink RX4 3 objectInit ∈ TB := (TB_1 70 rfl rfl)
set_option maxRecDepth 100000 in
theorem oi_X3_3 : Cond.methodLink RX3 3 objectInit ∈ TB := (TB_1 94 rfl rfl)
set_option maxRecDepth 100000 in
theorem oi_X1_3 : Cond.methodLink RX1 3 objectInit ∈ TB := (TB_3 77 rfl rfl)
set_option maxRecDepth 100000 in
theorem oi_X0_1 : Cond.methodLink RX0 1 objectInit ∈ TB := (TB_3 179 rfl rfl)
set_option maxRecDepth 100000 in
theorem oi_X2_3 : Cond.methodLink RX2 3 objectInit ∈ TB := (TB_3 229 rfl rfl)
set_option maxRecDepth 100000 in
theorem oi_X5_1 : Cond.methodLink RX5 1 objectInit ∈ TB := (TB_4 59 rfl rfl)
set_option maxRecDepth 100000 in
theorem oi_X7_3 : Cond.methodLink RX7 3 objectInit ∈ TB := (TB_4 196 rfl rfl)
set_option maxRecDepth 100000 in
theorem oi_Jx35411_7 : Cond.methodLink RJx35411 7 objectInit ∈ TB := (TB_5 41 rfl rfl)
set_option maxRecDepth 100000 in
theorem cob_0 : ∃ (C : String) (T : u_T) (N : Nat), vwCl[0]? = some (C, T, N) ∧ Cond.castable C "java/lang/Object" ∈ NB := ⟨RJx35411, TJx35411, 4, rfl, (NB_6 75 rfl rfl)⟩
set_option maxRecDepth 100000 in
theorem cob_1 : ∃ (C : String) (T : u_T) (N : Nat), vwCl[1]? = some (C, T, N) ∧ Cond.castable C "java/lang/Object" ∈ NB := ⟨RJx4a65c, TJx4a65c, 3, rfl, (NB_6 70 rfl rfl)⟩
set_option maxRecDepth 100000 in
theorem cob_2 : ∃ (C : String) (T : u_T) (N : Nat), vwCl[2]? = some (C, T, N) ∧ Cond.castable C "java/lang/Object" ∈ NB := ⟨RX0, TX0, 4, rfl, (NB_6 77 rfl rfl)⟩
set_option maxRecDepth 100000 in
theorem cob_3 : ∃ (C : String) (T : u_T) (N : Nat), vwCl[3]? = some (C, T, N) ∧ Cond.castable C "java/lang/Object" ∈ NB := ⟨RX1, TX1, 4, rfl, (NB_6 76 rfl rfl)⟩
set_option maxRecDepth 100000 in
theorem cob_4 : ∃ (C : String) (T : u_T) (N : Nat), vwCl[4]? = some (C, T, N) ∧ Cond.castable C "java/lang/Object" ∈ NB := ⟨RX2, TX2, 10, rfl, (NB_6 78 rfl rfl)⟩
set_option maxRecDepth 100000 in
theorem cob_5 : ∃ (C : String) (T : u_T) (N : Nat), vwCl[5]? = some (C, T, N) ∧ Cond.castable C "java/lang/Object" ∈ NB := ⟨RX3, TX3, 5, rfl, (NB_6 67 rfl rfl)⟩
set_option maxRecDepth 100000 in
theorem cob_6 : ∃ (C : String) (T : u_T) (N : Nat), vwCl[6]? = some (C, T, N) ∧ Cond.castable C "java/lang/Object" ∈ NB := ⟨RX4, TX4, 3, rfl, (NB_6 68 rfl rfl)⟩
set_option maxRecDepth 100000 in
theorem cob_7 : ∃ (C : String) (T : u_T) (N : Nat), vwCl[7]? = some (C, T, N) ∧ Cond.castable C "java/lang/Object" ∈ NB := ⟨RX5, TX5, 3, rfl, (NB_6 79 rfl rfl)⟩
set_option maxRecDepth 100000 in
theorem cob_8 : ∃ (C : String) (T : u_T) (N : Nat), vwCl[8]? = some (C, T, N) ∧ Cond.castable C "java/lang/Object" ∈ NB := ⟨RX6, TX6, 13, rfl, (NB_6 69 rfl rfl)⟩
set_option maxRecDepth 100000 in
theorem cob_9 : ∃ (C : String) (T : u_T) (N : Nat), vwCl[9]? = some (C, T, N) ∧ Cond.castable C "java/lang/Object" ∈ NB := ⟨RX7, TX7, 12, rfl, (NB_6 71 rfl rfl)⟩
