/-! Math, the rest of Values, Section -/
theorem wup_e {w : Wd} {a b : Nat} {x : Tg × va_E} {ta tb : Tg} {ea eb : va_E} (ha : w a = some (ta, ea)) (hb : w b = some (tb, eb)) (h : eb ≠ ea) : wup w a x b = some (tb, eb) := by
  refine (wup_n fun q => h ?_).trans hb
  subst q
  rw [ha] at hb
  exact (congrArg (fun z => z.2) (Option.some.inj hb)).symm
theorem wup_w {w : Wd} {a : Nat} {x y : Tg × va_E} : wup (wup w a x) a y = wup w a y := by
  funext b
  unfold wup
  by_cases h : b = a
  · rw [if_pos h, if_pos h]
  · rw [if_neg h, if_neg h, if_neg h]
theorem fin_p {P : Option Value → Wd → Prop} {r : Option Value} {w1 w2 : Wd} (e : w2 = w1) (h : P r w1) : P r w2 := e ▸ h
def s_speed (x y z t : Int32) : Int32 := mn (mn (s_wear x) (s_crack y)) (mn (s_settle z) (s_heat t))
def s_dec (x y z t : Int32) : Int32 := if s_speed x y z t = 160 then 0 else if s_wear x = s_speed x y z t then 1 else if s_crack y = s_speed x y z t then 2 else if s_settle z = s_speed x y z t then 3 else 4
abbrev oS (v : Nat) (tamps free curve sign : Int32) : va_E := .inr (5, [.ref v, .int tamps, .int free, .int curve, .int sign])
set_option maxHeartbeats 400000 in
set_option maxRecDepth 100000 in
theorem c_X4_speed : CtrA yX4_speed cX4_speed 3 (some .int) (rmk 1 0 0 33) (fun Γ av w post _ => ∃ a t x y z u, av = [.ref a, .int u] ∧ w a = some (t, oV x y z) ∧ post (some (.int (s_speed x y z u))) w) := by
  refine ctr_of (by decide) ?_
  rintro g av w hG hO ⟨a, t, x, y, z, u, rfl, ha, hk⟩
  refine ⟨Nat.le_of_ble_eq_true rfl, ?_⟩
  show X g w 0 0 0 [some (.ref a), some (.int u), none] []
  refine x_aload_n hG (pc := 0) 0 dX4_speed_0 rfl rfl ?_
  refine x_callV hG hO (pc := 1) [] c_X4_speedByWear lk_X4_21 (by first | assumption | exact hR.main) rfl rfl ⟨by decide, by decide⟩ (Nat.le_of_ble_eq_true rfl) (by rw [hG.mc]; exact Nat.le_of_ble_eq_true rfl) (by rw [hG.ms]; exact Nat.le_of_ble_eq_true rfl) dX4_speed_1 ?_
  refine ⟨a, t, x, y, z, rfl, ha, ?_⟩
  refine x_aload_n hG (pc := 4) 0 dX4_speed_4 rfl rfl ?_
  refine x_callV hG hO (pc := 5) [] c_X4_speedByCrack lk_X4_25 (by first | assumption | exact hR.main) rfl rfl ⟨by decide, by decide⟩ (Nat.le_of_ble_eq_true rfl) (by rw [hG.mc]; exact Nat.le_of_ble_eq_true rfl) (by rw [hG.ms]; exact Nat.le_of_ble_eq_true rfl) dX4_speed_5 ?_
  refine ⟨a, t, x, y, z, rfl, ha, ?_⟩
  refine x_mmin hG (pc := 8) lk_X4_28 dX4_speed_8 (by decide) (Nat.le_of_ble_eq_true rfl) (by rw [hG.mc]; exact Nat.le_of_ble_eq_true rfl) (by rw [hG.ms]; exact Nat.le_of_ble_eq_true rfl) ?_
  refine x_istore_n hG (pc := 11) 2 dX4_speed_11 rfl (Nat.le_of_ble_eq_true rfl) rfl (by dsimp only [List.set]) ?_
  refine x_iload_n hG (pc := 12) 2 dX4_speed_12 rfl rfl ?_
  refine x_aload_n hG (pc := 13) 0 dX4_speed_13 rfl rfl ?_
  refine x_callV hG hO (pc := 14) [] c_X4_speedBySettle lk_X4_34 (by first | assumption | exact hR.main) rfl rfl ⟨by decide, by decide⟩ (Nat.le_of_ble_eq_true rfl) (by rw [hG.mc]; exact Nat.le_of_ble_eq_true rfl) (by rw [hG.ms]; exact Nat.le_of_ble_eq_true rfl) dX4_speed_14 ?_
  refine ⟨a, t, x, y, z, rfl, ha, ?_⟩
  refine x_iload_n hG (pc := 17) 1 dX4_speed_17 rfl rfl ?_
  refine x_callS hG hO (pc := 18) [_] c_X4_speedByHeat lk_X4_37 rfl rfl ⟨by decide, by decide⟩ (Nat.le_of_ble_eq_true rfl) (by rw [hG.mc]; exact Nat.le_of_ble_eq_true rfl) (by rw [hG.ms]; exact Nat.le_of_ble_eq_true rfl) dX4_speed_18 ?_
  refine ⟨_, rfl, ?_⟩
  refine x_mmin hG (pc := 21) lk_X4_28 dX4_speed_21 (by decide) (Nat.le_of_ble_eq_true rfl) (by rw [hG.mc]; exact Nat.le_of_ble_eq_true rfl) (by rw [hG.ms]; exact Nat.le_of_ble_eq_true rfl) ?_
  refine x_mmin hG (pc := 24) lk_X4_28 dX4_speed_24 (by decide) (Nat.le_of_ble_eq_true rfl) (by rw [hG.mc]; exact Nat.le_of_ble_eq_true rfl) (by rw [hG.ms]; exact Nat.le_of_ble_eq_true rfl) ?_
  refine x_ireturn hG (pc := 27) dX4_speed_27 rfl rfl (by rw [hG.mc]; exact Nat.le_of_ble_eq_true rfl) (by rw [hG.ms]; exact Nat.le_of_ble_eq_true rfl) ?_
  exact hk
set_option maxHeartbeats 400000 in
set_option maxRecDepth 100000 in
theorem c_X4_decider : CtrA yX4_decider cX4_decider 3 (some .int) (rmk 2 0 0 55) (fun Γ av w post _ => ∃ a t x y z u, av = [.ref a, .int u] ∧ w a = some (t, oV x y z) ∧ post (some (.int (s_dec x y z u))) w) := by
  refine ctr_of (by decide) ?_
  rintro g av w hG hO ⟨a, t, x, y, z, u, rfl, ha, hk⟩
  refine ⟨Nat.le_of_ble_eq_true rfl, ?_⟩
  show X g w 0 0 0 [some (.ref a), some (.int u), none] []
  refine x_aload_n hG (pc := 0) 0 dX4_decider_0 rfl rfl ?_
  refine x_iload_n hG (pc := 1) 1 dX4_decider_1 rfl rfl ?_
  refine x_callV hG hO (pc := 2) [_] c_X4_speed lk_X4_41 (by first | assumption | exact hR.main) rfl rfl ⟨by decide, by decide⟩ (Nat.le_of_ble_eq_true rfl) (by rw [hG.mc]; exact Nat.le_of_ble_eq_true rfl) (by rw [hG.ms]; exact Nat.le_of_ble_eq_true rfl) dX4_decider_2 ?_
  refine ⟨a, t, x, y, z, u, rfl, ha, ?_⟩
  refine x_istore_n hG (pc := 5) 2 dX4_decider_5 rfl (Nat.le_of_ble_eq_true rfl) rfl (by dsimp only [List.set]) ?_
  refine x_iload_n hG (pc := 6) 2 dX4_decider_6 rfl rfl ?_
  refine x_sipush hG (pc := 7) 160 dX4_decider_7 (by decide) ?_
  refine x_icmp_ne hG (pc := 10) 15 dX4_decider_10 (by decide) (fun h10 => ?_) (fun h10 => ?_)
  · refine x_aload_n hG (pc := 15) 0 dX4_decider_15 rfl rfl ?_
    refine x_callV hG hO (pc := 16) [] c_X4_speedByWear lk_X4_21 (by first | assumption | exact hR.main) rfl rfl ⟨by decide, by decide⟩ (Nat.le_of_ble_eq_true rfl) (by rw [hG.mc]; exact Nat.le_of_ble_eq_true rfl) (by rw [hG.ms]; exact Nat.le_of_ble_eq_true rfl) dX4_decider_16 ?_
    refine ⟨a, t, x, y, z, rfl, ha, ?_⟩
    refine x_iload_n hG (pc := 19) 2 dX4_decider_19 rfl rfl ?_
    refine x_icmp_ne hG (pc := 20) 25 dX4_decider_20 (by decide) (fun h20 => ?_) (fun h20 => ?_)
    · refine x_aload_n hG (pc := 25) 0 dX4_decider_25 rfl rfl ?_
      refine x_callV hG hO (pc := 26) [] c_X4_speedByCrack lk_X4_25 (by first | assumption | exact hR.main) rfl rfl ⟨by decide, by decide⟩ (Nat.le_of_ble_eq_true rfl) (by rw [hG.mc]; exact Nat.le_of_ble_eq_true rfl) (by rw [hG.ms]; exact Nat.le_of_ble_eq_true rfl) dX4_decider_26 ?_
      refine ⟨a, t, x, y, z, rfl, ha, ?_⟩
      refine x_iload_n hG (pc := 29) 2 dX4_decider_29 rfl rfl ?_
      refine x_icmp_ne hG (pc := 30) 35 dX4_decider_30 (by decide) (fun h30 => ?_) (fun h30 => ?_)
      · refine x_aload_n hG (pc := 35) 0 dX4_decider_35 rfl rfl ?_
        refine x_callV hG hO (pc := 36) [] c_X4_speedBySettle lk_X4_34 (by first | assumption | exact hR.main) rfl rfl ⟨by decide, by decide⟩ (Nat.le_of_ble_eq_true rfl) (by rw [hG.mc]; exact Nat.le_of_ble_eq_true rfl) (by rw [hG.ms]; exact Nat.le_of_ble_eq_true rfl) dX4_decider_36 ?_
        refine ⟨a, t, x, y, z, rfl, ha, ?_⟩
        refine x_iload_n hG (pc := 39) 2 dX4_decider_39 rfl rfl ?_
        refine x_icmp_ne hG (pc := 40) 47 dX4_decider_40 (by decide) (fun h40 => ?_) (fun h40 => ?_)
        · refine x_iconst hG (pc := 47) 4 dX4_decider_47 (by decide) ?_
          refine x_ireturn hG (pc := 48) dX4_decider_48 rfl rfl (by rw [hG.mc]; exact Nat.le_of_ble_eq_true rfl) (by rw [hG.ms]; exact Nat.le_of_ble_eq_true rfl) ?_
          exact fin_i (by simp [s_dec, h10, h20, h30, h40]) hk
        · refine x_iconst hG (pc := 43) 3 dX4_decider_43 (by decide) ?_
          refine x_goto hG (pc := 44) 48 dX4_decider_44 (by decide) ?_
          refine x_ireturn hG (pc := 48) dX4_decider_48 rfl rfl (by rw [hG.mc]; exact Nat.le_of_ble_eq_true rfl) (by rw [hG.ms]; exact Nat.le_of_ble_eq_true rfl) ?_
          exact fin_i (by simp [s_dec, h10, h20, h30, h40]) hk
      · refine x_iconst hG (pc := 33) 2 dX4_decider_33 (by decide) ?_
        refine x_ireturn hG (pc := 34) dX4_decider_34 rfl rfl (by rw [hG.mc]; exact Nat.le_of_ble_eq_true rfl) (by rw [hG.ms]; exact Nat.le_of_ble_eq_true rfl) ?_
        exact fin_i (by simp [s_dec, h10, h20, h30]) hk
    · refine x_iconst hG (pc := 23) 1 dX4_decider_23 (by decide) ?_
      refine x_ireturn hG (pc := 24) dX4_decider_24 rfl rfl (by rw [hG.mc]; exact Nat.le_of_ble_eq_true rfl) (by rw [hG.ms]; exact Nat.le_of_ble_eq_true rfl) ?_
      exact fin_i (by simp [s_dec, h10, h20]) hk
  · refine x_iconst hG (pc := 13) 0 dX4_decider_13 (by decide) ?_
    refine x_ireturn hG (pc := 14) dX4_decider_14 rfl rfl (by rw [hG.mc]; exact Nat.le_of_ble_eq_true rfl) (by rw [hG.ms]; exact Nat.le_of_ble_eq_true rfl) ?_
    exact fin_i (by simp [s_dec, h10]) hk
