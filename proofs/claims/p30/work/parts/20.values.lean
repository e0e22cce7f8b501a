/-! Values: speeds and what decides -/
abbrev rmk (f c s l : Nat) : Room := { frames := f, cells := c, slots := s, locals := l }
theorem fin_i {P : Option Value → Wd → Prop} {x y : Int32} {w : Wd} (e : y = x) (h : P (some (.int x)) w) : P (some (.int y)) w := e ▸ h
def s_wear (x : Int32) : Int32 := if 60 ≤ x then (if 80 ≤ x then (if 100 ≤ x then 20 else 60) else 100) else 160
def s_crack (x : Int32) : Int32 := if 10 ≤ x then (if 20 ≤ x then (if 40 ≤ x then 0 else 40) else 80) else 160
def s_settle (x : Int32) : Int32 := if 20 ≤ x then (if 30 ≤ x then (if 40 ≤ x then (if 50 ≤ x then 10 else 40) else 80) else 120) else 160
def s_heat (x : Int32) : Int32 := if x ≤ 30 then (if x ≤ 20 then (if (-40) ≤ x then 160 else 100) else 80) else 40
abbrev oV (x y z : Int32) : va_E := .inr (6, [.int x, .int y, .int z])
set_option maxHeartbeats 400000 in
set_option maxRecDepth 100000 in
theorem c_X4_speedByWear : CtrA yX4_speedByWear cX4_speedByWear 1 (some .int) (rmk 0 0 0 0) (fun Γ av w post _ => ∃ a t x y z, av = [.ref a] ∧ w a = some (t, oV x y z) ∧ post (some (.int (s_wear x))) w) := by
  refine ctr_of (by decide) ?_
  rintro g av w hG hO ⟨a, t, x, y, z, rfl, ha, hk⟩
  refine ⟨Nat.le_of_ble_eq_true rfl, ?_⟩
  show X g w 0 0 0 [some (.ref a)] []
  refine x_aload_n hG (pc := 0) 0 dX4_speedByWear_0 rfl rfl ?_
  refine x_getf hG (pc := 1) fl_X4_9 (by first | assumption | exact hR.main) rfl dX4_speedByWear_1 ?_
  refine x_bipush hG (pc := 4) 60 dX4_speedByWear_4 (by decide) ?_
  refine x_icmp_ge hG (pc := 6) 13 dX4_speedByWear_6 (by decide) (fun h6 => ?_) (fun h6 => ?_)
  · refine x_aload_n hG (pc := 13) 0 dX4_speedByWear_13 rfl rfl ?_
    refine x_getf hG (pc := 14) fl_X4_9 (by first | assumption | exact hR.main) rfl dX4_speedByWear_14 ?_
    refine x_bipush hG (pc := 17) 80 dX4_speedByWear_17 (by decide) ?_
    refine x_icmp_ge hG (pc := 19) 25 dX4_speedByWear_19 (by decide) (fun h19 => ?_) (fun h19 => ?_)
    · refine x_aload_n hG (pc := 25) 0 dX4_speedByWear_25 rfl rfl ?_
      refine x_getf hG (pc := 26) fl_X4_9 (by first | assumption | exact hR.main) rfl dX4_speedByWear_26 ?_
      refine x_bipush hG (pc := 29) 100 dX4_speedByWear_29 (by decide) ?_
      refine x_icmp_ge hG (pc := 31) 39 dX4_speedByWear_31 (by decide) (fun h31 => ?_) (fun h31 => ?_)
      · refine x_bipush hG (pc := 39) 20 dX4_speedByWear_39 (by decide) ?_
        refine x_ireturn hG (pc := 41) dX4_speedByWear_41 rfl rfl (by rw [hG.mc]; exact Nat.le_of_ble_eq_true rfl) (by rw [hG.ms]; exact Nat.le_of_ble_eq_true rfl) ?_
        exact fin_i (by simp [s_wear, h6, h19, h31]) hk
      · refine x_bipush hG (pc := 34) 60 dX4_speedByWear_34 (by decide) ?_
        refine x_goto hG (pc := 36) 41 dX4_speedByWear_36 (by decide) ?_
        refine x_ireturn hG (pc := 41) dX4_speedByWear_41 rfl rfl (by rw [hG.mc]; exact Nat.le_of_ble_eq_true rfl) (by rw [hG.ms]; exact Nat.le_of_ble_eq_true rfl) ?_
        exact fin_i (by simp [s_wear, h6, h19, h31]) hk
    · refine x_bipush hG (pc := 22) 100 dX4_speedByWear_22 (by decide) ?_
      refine x_ireturn hG (pc := 24) dX4_speedByWear_24 rfl rfl (by rw [hG.mc]; exact Nat.le_of_ble_eq_true rfl) (by rw [hG.ms]; exact Nat.le_of_ble_eq_true rfl) ?_
      exact fin_i (by simp [s_wear, h6, h19]) hk
  · refine x_sipush hG (pc := 9) 160 dX4_speedByWear_9 (by decide) ?_
    refine x_ireturn hG (pc := 12) dX4_speedByWear_12 rfl rfl (by rw [hG.mc]; exact Nat.le_of_ble_eq_true rfl) (by rw [hG.ms]; exact Nat.le_of_ble_eq_true rfl) ?_
    exact fin_i (by simp [s_wear, h6]) hk
set_option maxHeartbeats 400000 in
set_option maxRecDepth 100000 in
theorem c_X4_speedByCrack : CtrA yX4_speedByCrack cX4_speedByCrack 1 (some .int) (rmk 0 0 0 0) (fun Γ av w post _ => ∃ a t x y z, av = [.ref a] ∧ w a = some (t, oV x y z) ∧ post (some (.int (s_crack y))) w) := by
  refine ctr_of (by decide) ?_
  rintro g av w hG hO ⟨a, t, x, y, z, rfl, ha, hk⟩
  refine ⟨Nat.le_of_ble_eq_true rfl, ?_⟩
  show X g w 0 0 0 [some (.ref a)] []
  refine x_aload_n hG (pc := 0) 0 dX4_speedByCrack_0 rfl rfl ?_
  refine x_getf hG (pc := 1) fl_X4_15 (by first | assumption | exact hR.main) rfl dX4_speedByCrack_1 ?_
  refine x_bipush hG (pc := 4) 10 dX4_speedByCrack_4 (by decide) ?_
  refine x_icmp_ge hG (pc := 6) 13 dX4_speedByCrack_6 (by decide) (fun h6 => ?_) (fun h6 => ?_)
  · refine x_aload_n hG (pc := 13) 0 dX4_speedByCrack_13 rfl rfl ?_
    refine x_getf hG (pc := 14) fl_X4_15 (by first | assumption | exact hR.main) rfl dX4_speedByCrack_14 ?_
    refine x_bipush hG (pc := 17) 20 dX4_speedByCrack_17 (by decide) ?_
    refine x_icmp_ge hG (pc := 19) 25 dX4_speedByCrack_19 (by decide) (fun h19 => ?_) (fun h19 => ?_)
    · refine x_aload_n hG (pc := 25) 0 dX4_speedByCrack_25 rfl rfl ?_
      refine x_getf hG (pc := 26) fl_X4_15 (by first | assumption | exact hR.main) rfl dX4_speedByCrack_26 ?_
      refine x_bipush hG (pc := 29) 40 dX4_speedByCrack_29 (by decide) ?_
      refine x_icmp_ge hG (pc := 31) 39 dX4_speedByCrack_31 (by decide) (fun h31 => ?_) (fun h31 => ?_)
      · refine x_iconst hG (pc := 39) 0 dX4_speedByCrack_39 (by decide) ?_
        refine x_ireturn hG (pc := 40) dX4_speedByCrack_40 rfl rfl (by rw [hG.mc]; exact Nat.le_of_ble_eq_true rfl) (by rw [hG.ms]; exact Nat.le_of_ble_eq_true rfl) ?_
        exact fin_i (by simp [s_crack, h6, h19, h31]) hk
      · refine x_bipush hG (pc := 34) 40 dX4_speedByCrack_34 (by decide) ?_
        refine x_goto hG (pc := 36) 40 dX4_speedByCrack_36 (by decide) ?_
        refine x_ireturn hG (pc := 40) dX4_speedByCrack_40 rfl rfl (by rw [hG.mc]; exact Nat.le_of_ble_eq_true rfl) (by rw [hG.ms]; exact Nat.le_of_ble_eq_true rfl) ?_
        exact fin_i (by simp [s_crack, h6, h19, h31]) hk
    · refine x_bipush hG (pc := 22) 80 dX4_speedByCrack_22 (by decide) ?_
      refine x_ireturn hG (pc := 24) dX4_speedByCrack_24 rfl rfl (by rw [hG.mc]; exact Nat.le_of_ble_eq_true rfl) (by rw [hG.ms]; exact Nat.le_of_ble_eq_true rfl) ?_
      exact fin_i (by simp [s_crack, h6, h19]) hk
  · refine x_sipush hG (pc := 9) 160 dX4_speedByCrack_9 (by decide) ?_
    refine x_ireturn hG (pc := 12) dX4_speedByCrack_12 rfl rfl (by rw [hG.mc]; exact Nat.le_of_ble_eq_true rfl) (by rw [hG.ms]; exact Nat.le_of_ble_eq_true rfl) ?_
    exact fin_i (by simp [s_crack, h6]) hk
set_option maxHeartbeats 400000 in
set_option maxRecDepth 100000 in
theorem c_X4_speedBySettle : CtrA yX4_speedBySettle cX4_speedBySettle 1 (some .int) (rmk 0 0 0 0) (fun Γ av w post _ => ∃ a t x y z, av = [.ref a] ∧ w a = some (t, oV x y z) ∧ post (some (.int (s_settle z))) w) := by
  refine ctr_of (by decide) ?_
  rintro g av w hG hO ⟨a, t, x, y, z, rfl, ha, hk⟩
  refine ⟨Nat.le_of_ble_eq_true rfl, ?_⟩
  show X g w 0 0 0 [some (.ref a)] []
  refine x_aload_n hG (pc := 0) 0 dX4_speedBySettle_0 rfl rfl ?_
  refine x_getf hG (pc := 1) fl_X4_18 (by first | assumption | exact hR.main) rfl dX4_speedBySettle_1 ?_
  refine x_bipush hG (pc := 4) 20 dX4_speedBySettle_4 (by decide) ?_
  refine x_icmp_ge hG (pc := 6) 13 dX4_speedBySettle_6 (by decide) (fun h6 => ?_) (fun h6 => ?_)
  · refine x_aload_n hG (pc := 13) 0 dX4_speedBySettle_13 rfl rfl ?_
    refine x_getf hG (pc := 14) fl_X4_18 (by first | assumption | exact hR.main) rfl dX4_speedBySettle_14 ?_
    refine x_bipush hG (pc := 17) 30 dX4_speedBySettle_17 (by decide) ?_
    refine x_icmp_ge hG (pc := 19) 25 dX4_speedBySettle_19 (by decide) (fun h19 => ?_) (fun h19 => ?_)
    · refine x_aload_n hG (pc := 25) 0 dX4_speedBySettle_25 rfl rfl ?_
      refine x_getf hG (pc := 26) fl_X4_18 (by first | assumption | exact hR.main) rfl dX4_speedBySettle_26 ?_
      refine x_bipush hG (pc := 29) 40 dX4_speedBySettle_29 (by decide) ?_
      refine x_icmp_ge hG (pc := 31) 37 dX4_speedBySettle_31 (by decide) (fun h31 => ?_) (fun h31 => ?_)
      · refine x_aload_n hG (pc := 37) 0 dX4_speedBySettle_37 rfl rfl ?_
        refine x_getf hG (pc := 38) fl_X4_18 (by first | assumption | exact hR.main) rfl dX4_speedBySettle_38 ?_
        refine x_bipush hG (pc := 41) 50 dX4_speedBySettle_41 (by decide) ?_
        refine x_icmp_ge hG (pc := 43) 51 dX4_speedBySettle_43 (by decide) (fun h43 => ?_) (fun h43 => ?_)
        · refine x_bipush hG (pc := 51) 10 dX4_speedBySettle_51 (by decide) ?_
          refine x_ireturn hG (pc := 53) dX4_speedBySettle_53 rfl rfl (by rw [hG.mc]; exact Nat.le_of_ble_eq_true rfl) (by rw [hG.ms]; exact Nat.le_of_ble_eq_true rfl) ?_
          exact fin_i (by simp [s_settle, h6, h19, h31, h43]) hk
        · refine x_bipush hG (pc := 46) 40 dX4_speedBySettle_46 (by decide) ?_
          refine x_goto hG (pc := 48) 53 dX4_speedBySettle_48 (by decide) ?_
          refine x_ireturn hG (pc := 53) dX4_speedBySettle_53 rfl rfl (by rw [hG.mc]; exact Nat.le_of_ble_eq_true rfl) (by rw [hG.ms]; exact Nat.le_of_ble_eq_true rfl) ?_
          exact fin_i (by simp [s_settle, h6, h19, h31, h43]) hk
      · refine x_bipush hG (pc := 34) 80 dX4_speedBySettle_34 (by decide) ?_
        refine x_ireturn hG (pc := 36) dX4_speedBySettle_36 rfl rfl (by rw [hG.mc]; exact Nat.le_of_ble_eq_true rfl) (by rw [hG.ms]; exact Nat.le_of_ble_eq_true rfl) ?_
        exact fin_i (by simp [s_settle, h6, h19, h31]) hk
    · refine x_bipush hG (pc := 22) 120 dX4_speedBySettle_22 (by decide) ?_
      refine x_ireturn hG (pc := 24) dX4_speedBySettle_24 rfl rfl (by rw [hG.mc]; exact Nat.le_of_ble_eq_true rfl) (by rw [hG.ms]; exact Nat.le_of_ble_eq_true rfl) ?_
      exact fin_i (by simp [s_settle, h6, h19]) hk
  · refine x_sipush hG (pc := 9) 160 dX4_speedBySettle_9 (by decide) ?_
    refine x_ireturn hG (pc := 12) dX4_speedBySettle_12 rfl rfl (by rw [hG.mc]; exact Nat.le_of_ble_eq_true rfl) (by rw [hG.ms]; exact Nat.le_of_ble_eq_true rfl) ?_
    exact fin_i (by simp [s_settle, h6]) hk
set_option maxHeartbeats 400000 in
set_option maxRecDepth 100000 in
theorem c_X4_speedByHeat : CtrA yX4_speedByHeat cX4_speedByHeat 1 (some .int) (rmk 0 0 0 0) (fun Γ av w post _ => ∃ x, av = [.int x] ∧ post (some (.int (s_heat x))) w) := by
  refine ctr_of (by decide) ?_
  rintro g av w hG hO ⟨x, rfl, hk⟩
  refine ⟨Nat.le_of_ble_eq_true rfl, ?_⟩
  show X g w 0 0 0 [some (.int x)] []
  refine x_iload_n hG (pc := 0) 0 dX4_speedByHeat_0 rfl rfl ?_
  refine x_bipush hG (pc := 1) 30 dX4_speedByHeat_1 (by decide) ?_
  refine x_icmp_le hG (pc := 3) 9 dX4_speedByHeat_3 (by decide) (fun h3 => ?_) (fun h3 => ?_)
  · refine x_iload_n hG (pc := 9) 0 dX4_speedByHeat_9 rfl rfl ?_
    refine x_bipush hG (pc := 10) 20 dX4_speedByHeat_10 (by decide) ?_
    refine x_icmp_le hG (pc := 12) 18 dX4_speedByHeat_12 (by decide) (fun h12 => ?_) (fun h12 => ?_)
    · refine x_iload_n hG (pc := 18) 0 dX4_speedByHeat_18 rfl rfl ?_
      refine x_bipush hG (pc := 19) (-40) dX4_speedByHeat_19 (by decide) ?_
      refine x_icmp_ge hG (pc := 21) 29 dX4_speedByHeat_21 (by decide) (fun h21 => ?_) (fun h21 => ?_)
      · refine x_sipush hG (pc := 29) 160 dX4_speedByHeat_29 (by decide) ?_
        refine x_ireturn hG (pc := 32) dX4_speedByHeat_32 rfl rfl (by rw [hG.mc]; exact Nat.le_of_ble_eq_true rfl) (by rw [hG.ms]; exact Nat.le_of_ble_eq_true rfl) ?_
        exact fin_i (by simp [s_heat, h3, h12, h21]) hk
      · refine x_bipush hG (pc := 24) 100 dX4_speedByHeat_24 (by decide) ?_
        refine x_goto hG (pc := 26) 32 dX4_speedByHeat_26 (by decide) ?_
        refine x_ireturn hG (pc := 32) dX4_speedByHeat_32 rfl rfl (by rw [hG.mc]; exact Nat.le_of_ble_eq_true rfl) (by rw [hG.ms]; exact Nat.le_of_ble_eq_true rfl) ?_
        exact fin_i (by simp [s_heat, h3, h12, h21]) hk
    · refine x_bipush hG (pc := 15) 80 dX4_speedByHeat_15 (by decide) ?_
      refine x_ireturn hG (pc := 17) dX4_speedByHeat_17 rfl rfl (by rw [hG.mc]; exact Nat.le_of_ble_eq_true rfl) (by rw [hG.ms]; exact Nat.le_of_ble_eq_true rfl) ?_
      exact fin_i (by simp [s_heat, h3, h12]) hk
  · refine x_bipush hG (pc := 6) 40 dX4_speedByHeat_6 (by decide) ?_
    refine x_ireturn hG (pc := 8) dX4_speedByHeat_8 rfl rfl (by rw [hG.mc]; exact Nat.le_of_ble_eq_true rfl) (by rw [hG.ms]; exact Nat.le_of_ble_eq_true rfl) ?_
    exact fin_i (by simp [s_heat, h3]) hk
