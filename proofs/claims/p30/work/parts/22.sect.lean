/-! Section's methods, Values' constructor -/
theorem x_gen {g : Cxt} {w1 : Wd} {kc ks pc : Nat} {lv : List (Option Value)} {st : List Value} (h : ∀ w2 : Wd, w2 = w1 → X g w2 kc ks pc lv st) : X g w1 kc ks pc lv st := h w1 rfl
theorem wup_id {w : Wd} {a : Nat} {x : Tg × va_E} (h : w a = some x) : wup w a x = w := by
  funext b
  unfold wup
  by_cases q : b = a
  · rw [if_pos q, q, h]
  · rw [if_neg q]
theorem wup_c {w : Wd} {a b : Nat} {x y : Tg × va_E} (h : a ≠ b) : wup (wup w a x) b y = wup (wup w b y) a x := by
  funext c
  unfold wup
  by_cases h1 : c = a
  · subst h1
    rw [if_neg h, if_pos rfl, if_pos rfl]
  · rw [if_neg h1, if_neg h1]
theorem wd_nE {w : Wd} {a b : Nat} {ta tb : Tg} {ea eb : va_E} (ha : w a = some (ta, ea)) (hb : w b = some (tb, eb)) (h : eb ≠ ea) : a ≠ b := by
  intro q
  subst q
  rw [ha] at hb
  exact h (congrArg (fun z => z.2) (Option.some.inj hb)).symm
def bW (x c t : Int32) : Int32 := mn 100 (x + if c = 0 then t / 8 else t / 4)
def bG (x y : Int32) : Int32 := if y ≤ 0 then (if x < 50 then 0 else 1) else 1 + y / 8
def bC (x y : Int32) : Int32 := mn 60 (y + bG x y)
def bS (z t p : Int32) : Int32 := mn 60 (z + (t + 5 * p) / 10)
def s_hours (k c : Int32) : Int32 := (if k = 0 then 1 else if k = 1 then 2 else 4) + (if c = 0 then 0 else 1)
def tW (k x : Int32) : Int32 := if k = 0 then x else if k = 1 then mn 100 (x + 2) else 0
def tC (k y : Int32) : Int32 := if k = 0 then y else if k = 1 then mx 0 (y - 8) else 0
def tS (k z : Int32) : Int32 := if k = 0 then z / 4 else if k = 1 then z else 0
def tT (k p : Int32) : Int32 := if k = 0 then p + 1 else if k = 1 then p else 0
def tF (k f h : Int32) : Int32 := if k = 0 then f else if k = 1 then f else mx 10 (mn 40 h)
theorem n10 : ¬ (1 : Int32) = 0 := by decide
theorem ti_ne {x : Int32} {n : Int} {y : Int32} (h : ¬ x = y) (hy : y.toInt = n) : ¬ x.toInt = n := fun q => h (Int32.toInt_inj.mp (q.trans hy.symm))
set_option maxHeartbeats 400000 in
set_option maxRecDepth 100000 in
theorem c_X3_trueSpeed : CtrA yX3_trueSpeed cX3_trueSpeed 2 (some .int) (rmk 2 0 0 55) (fun Γ av w post _ => ∃ a ta v tv p f c s x y z u, av = [.ref a, .int u] ∧ w a = some (ta, oS v p f c s) ∧ w v = some (tv, oV x y z) ∧ post (some (.int (s_speed x y z (u - f)))) w) := by
  refine ctr_of (by decide) ?_
  rintro g av w hG hO ⟨a, ta, v, tv, p, f, c, s, x, y, z, u, rfl, ha, hv, hk⟩
  refine ⟨Nat.le_of_ble_eq_true rfl, ?_⟩
  show X g w 0 0 0 [some (.ref a), some (.int u)] []
  refine x_aload_n hG (pc := 0) 0 dX3_trueSpeed_0 rfl rfl ?_
  refine x_getf hG (pc := 1) fl_X3_14 (by first | assumption | exact hR.main) rfl dX3_trueSpeed_1 ?_
  refine x_iload_n hG (pc := 4) 1 dX3_trueSpeed_4 rfl rfl ?_
  refine x_aload_n hG (pc := 5) 0 dX3_trueSpeed_5 rfl rfl ?_
  refine x_getf hG (pc := 6) fl_X3_24 (by first | assumption | exact hR.main) rfl dX3_trueSpeed_6 ?_
  refine x_isub hG (pc := 9) dX3_trueSpeed_9 ?_
  refine x_callV hG hO (pc := 10) [_] c_X4_speed lk_X3_43 (by first | assumption | exact hR.main) rfl rfl ⟨by decide, by decide⟩ (Nat.le_of_ble_eq_true rfl) (by rw [hG.mc]; exact Nat.le_of_ble_eq_true rfl) (by rw [hG.ms]; exact Nat.le_of_ble_eq_true rfl) dX3_trueSpeed_10 ?_
  refine ⟨v, tv, x, y, z, _, rfl, hv, ?_⟩
  refine x_ireturn hG (pc := 13) dX3_trueSpeed_13 rfl rfl (by rw [hG.mc]; exact Nat.le_of_ble_eq_true rfl) (by rw [hG.ms]; exact Nat.le_of_ble_eq_true rfl) ?_
  exact hk
set_option maxHeartbeats 400000 in
set_option maxRecDepth 100000 in
theorem c_X3_isRisk : CtrA yX3_isRisk cX3_isRisk 2 (some .boolean) (rmk 3 0 0 76) (fun Γ av w post _ => ∃ a ta v tv p f c s x y z u, av = [.ref a, .int u] ∧ w a = some (ta, oS v p f c s) ∧ w v = some (tv, oV x y z) ∧ post (some (.int (if s ≤ s_speed x y z (u - f) then 0 else 1))) w) := by
  refine ctr_of (by decide) ?_
  rintro g av w hG hO ⟨a, ta, v, tv, p, f, c, s, x, y, z, u, rfl, ha, hv, hk⟩
  refine ⟨Nat.le_of_ble_eq_true rfl, ?_⟩
  show X g w 0 0 0 [some (.ref a), some (.int u)] []
  refine x_aload_n hG (pc := 0) 0 dX3_isRisk_0 rfl rfl ?_
  refine x_getf hG (pc := 1) fl_X3_31 (by first | assumption | exact hR.main) rfl dX3_isRisk_1 ?_
  refine x_aload_n hG (pc := 4) 0 dX3_isRisk_4 rfl rfl ?_
  refine x_iload_n hG (pc := 5) 1 dX3_isRisk_5 rfl rfl ?_
  refine x_callV hG hO (pc := 6) [_] c_X3_trueSpeed lk_X3_47 (by first | assumption | exact hR.main) rfl rfl ⟨by decide, by decide⟩ (Nat.le_of_ble_eq_true rfl) (by rw [hG.mc]; exact Nat.le_of_ble_eq_true rfl) (by rw [hG.ms]; exact Nat.le_of_ble_eq_true rfl) dX3_isRisk_6 ?_
  refine ⟨a, ta, v, tv, p, f, c, s, x, y, z, _, rfl, ha, hv, ?_⟩
  refine x_icmp_le hG (pc := 9) 16 dX3_isRisk_9 (by decide) (fun h9 => ?_) (fun h9 => ?_)
  · refine x_iconst hG (pc := 16) 0 dX3_isRisk_16 (by decide) ?_
    refine x_ireturn hG (pc := 17) dX3_isRisk_17 rfl rfl (by rw [hG.mc]; exact Nat.le_of_ble_eq_true rfl) (by rw [hG.ms]; exact Nat.le_of_ble_eq_true rfl) ?_
    exact fin_i (by simp [h9]) hk
  · refine x_iconst hG (pc := 12) 1 dX3_isRisk_12 (by decide) ?_
    refine x_goto hG (pc := 13) 17 dX3_isRisk_13 (by decide) ?_
    refine x_ireturn hG (pc := 17) dX3_isRisk_17 rfl rfl (by rw [hG.mc]; exact Nat.le_of_ble_eq_true rfl) (by rw [hG.ms]; exact Nat.le_of_ble_eq_true rfl) ?_
    exact fin_i (by simp [h9]) hk
set_option maxHeartbeats 400000 in
set_option maxRecDepth 100000 in
theorem c_X3_crackGrowth : CtrA yX3_crackGrowth cX3_crackGrowth 1 (some .int) (rmk 0 0 0 0) (fun Γ av w post _ => ∃ a ta v tv p f c s x y z, av = [.ref a] ∧ w a = some (ta, oS v p f c s) ∧ w v = some (tv, oV x y z) ∧ post (some (.int (bG x y))) w) := by
  refine ctr_of (by decide) ?_
  rintro g av w hG hO ⟨a, ta, v, tv, p, f, c, s, x, y, z, rfl, ha, hv, hk⟩
  refine ⟨Nat.le_of_ble_eq_true rfl, ?_⟩
  show X g w 0 0 0 [some (.ref a)] []
  refine x_aload_n hG (pc := 0) 0 dX3_crackGrowth_0 rfl rfl ?_
  refine x_getf hG (pc := 1) fl_X3_14 (by first | assumption | exact hR.main) rfl dX3_crackGrowth_1 ?_
  refine x_getf hG (pc := 4) fl_X3_37 (by first | assumption | exact hR.main) rfl dX3_crackGrowth_4 ?_
  refine x_if_le hG (pc := 7) 23 dX3_crackGrowth_7 (by decide) (fun h7 => ?_) (fun h7 => ?_)
  · refine x_aload_n hG (pc := 23) 0 dX3_crackGrowth_23 rfl rfl ?_
    refine x_getf hG (pc := 24) fl_X3_14 (by first | assumption | exact hR.main) rfl dX3_crackGrowth_24 ?_
    refine x_getf hG (pc := 27) fl_X3_34 (by first | assumption | exact hR.main) rfl dX3_crackGrowth_27 ?_
    refine x_bipush hG (pc := 30) 50 dX3_crackGrowth_30 (by decide) ?_
    refine x_icmp_lt hG (pc := 32) 39 dX3_crackGrowth_32 (by decide) (fun h32 => ?_) (fun h32 => ?_)
    · refine x_iconst hG (pc := 39) 0 dX3_crackGrowth_39 (by decide) ?_
      refine x_ireturn hG (pc := 40) dX3_crackGrowth_40 rfl rfl (by rw [hG.mc]; exact Nat.le_of_ble_eq_true rfl) (by rw [hG.ms]; exact Nat.le_of_ble_eq_true rfl) ?_
      exact fin_i (by simp [bG, h7, h32]) hk
    · refine x_iconst hG (pc := 35) 1 dX3_crackGrowth_35 (by decide) ?_
      refine x_goto hG (pc := 36) 40 dX3_crackGrowth_36 (by decide) ?_
      refine x_ireturn hG (pc := 40) dX3_crackGrowth_40 rfl rfl (by rw [hG.mc]; exact Nat.le_of_ble_eq_true rfl) (by rw [hG.ms]; exact Nat.le_of_ble_eq_true rfl) ?_
      exact fin_i (by simp [bG, h7, h32]) hk
  · refine x_iconst hG (pc := 10) 1 dX3_crackGrowth_10 (by decide) ?_
    refine x_aload_n hG (pc := 11) 0 dX3_crackGrowth_11 rfl rfl ?_
    refine x_getf hG (pc := 12) fl_X3_14 (by first | assumption | exact hR.main) rfl dX3_crackGrowth_12 ?_
    refine x_getf hG (pc := 15) fl_X3_37 (by first | assumption | exact hR.main) rfl dX3_crackGrowth_15 ?_
    refine x_bipush hG (pc := 18) 8 dX3_crackGrowth_18 (by decide) ?_
    refine x_idiv hG (pc := 20) dX3_crackGrowth_20 (by decide) ?_
    refine x_iadd hG (pc := 21) dX3_crackGrowth_21 ?_
    refine x_ireturn hG (pc := 22) dX3_crackGrowth_22 rfl rfl (by rw [hG.mc]; exact Nat.le_of_ble_eq_true rfl) (by rw [hG.ms]; exact Nat.le_of_ble_eq_true rfl) ?_
    exact fin_i (by simp [bG, h7]) hk
set_option maxHeartbeats 400000 in
set_option maxRecDepth 100000 in
theorem c_X3_bearDay : CtrA yX3_bearDay cX3_bearDay 3 none (rmk 1 0 0 33) (fun Γ av w post _ => ∃ a ta v tv p f c s x y z u, av = [.ref a, .int u] ∧ w a = some (ta, oS v p f c s) ∧ w v = some (tv, oV x y z) ∧ post none (wup w v (tv, oV (bW x c u) (bC (bW x c u) y) (bS z u p)))) := by
  refine ctr_of (by decide) ?_
  rintro g av w hG hO ⟨a, ta, v, tv, p, f, c, s, x, y, z, u, rfl, ha, hv, hk⟩
  refine ⟨Nat.le_of_ble_eq_true rfl, ?_⟩
  show X g w 0 0 0 [some (.ref a), some (.int u), none] []
  refine x_aload_n hG (pc := 0) 0 dX3_bearDay_0 rfl rfl ?_
  refine x_getf hG (pc := 1) fl_X3_27 (by first | assumption | exact hR.main) rfl dX3_bearDay_1 ?_
  refine x_if_eq hG (pc := 4) 13 dX3_bearDay_4 (by decide) (fun h4 => ?_) (fun h4 => ?_)
  · refine x_iload_n hG (pc := 13) 1 dX3_bearDay_13 rfl rfl ?_
    refine x_bipush hG (pc := 14) 8 dX3_bearDay_14 (by decide) ?_
    refine x_idiv hG (pc := 16) dX3_bearDay_16 (by decide) ?_
    refine x_istore_n hG (pc := 17) 2 dX3_bearDay_17 rfl (Nat.le_of_ble_eq_true rfl) rfl (by dsimp only [List.set]) ?_
    refine x_aload_n hG (pc := 18) 0 dX3_bearDay_18 rfl rfl ?_
    refine x_getf hG (pc := 19) fl_X3_14 (by first | assumption | exact hR.main) rfl dX3_bearDay_19 ?_
    refine x_bipush hG (pc := 22) 100 dX3_bearDay_22 (by decide) ?_
    refine x_aload_n hG (pc := 24) 0 dX3_bearDay_24 rfl rfl ?_
    refine x_getf hG (pc := 25) fl_X3_14 (by first | assumption | exact hR.main) rfl dX3_bearDay_25 ?_
    refine x_getf hG (pc := 28) fl_X3_34 (by first | assumption | exact hR.main) rfl dX3_bearDay_28 ?_
    refine x_iload_n hG (pc := 31) 2 dX3_bearDay_31 rfl rfl ?_
    refine x_iadd hG (pc := 32) dX3_bearDay_32 ?_
    refine x_mmin hG (pc := 33) lk_X3_50 dX3_bearDay_33 (by decide) (Nat.le_of_ble_eq_true rfl) (by rw [hG.mc]; exact Nat.le_of_ble_eq_true rfl) (by rw [hG.ms]; exact Nat.le_of_ble_eq_true rfl) ?_
    refine x_putf hG (pc := 36) fl_X3_34 fw_6 ft_6_0 (by first | assumption | exact hR.main) (Nat.le_of_ble_eq_true rfl) rfl rfl (by dsimp only [List.set]) dX3_bearDay_36 ?_
    refine x_gen (fun w1 e1 => ?_)
    have hv1 := (congrFun e1 v).trans wup_s
    have ha1 := (congrFun e1 a).trans (wup_e hv ha (by intro q; cases q))
    refine x_aload_n hG (pc := 39) 0 dX3_bearDay_39 rfl rfl ?_
    refine x_getf hG (pc := 40) fl_X3_14 (by first | assumption | exact hR.main) rfl dX3_bearDay_40 ?_
    refine x_bipush hG (pc := 43) 60 dX3_bearDay_43 (by decide) ?_
    refine x_aload_n hG (pc := 45) 0 dX3_bearDay_45 rfl rfl ?_
    refine x_getf hG (pc := 46) fl_X3_14 (by first | assumption | exact hR.main) rfl dX3_bearDay_46 ?_
    refine x_getf hG (pc := 49) fl_X3_37 (by first | assumption | exact hR.main) rfl dX3_bearDay_49 ?_
    refine x_aload_n hG (pc := 52) 0 dX3_bearDay_52 rfl rfl ?_
    refine x_callV hG hO (pc := 53) [] c_X3_crackGrowth lk_X3_56 (by first | assumption | exact hR.main) rfl rfl ⟨by decide, by decide⟩ (Nat.le_of_ble_eq_true rfl) (by rw [hG.mc]; exact Nat.le_of_ble_eq_true rfl) (by rw [hG.ms]; exact Nat.le_of_ble_eq_true rfl) dX3_bearDay_53 ?_
    refine ⟨a, ta, v, tv, p, f, c, s, _, _, _, rfl, ha1, hv1, ?_⟩
    refine x_iadd hG (pc := 56) dX3_bearDay_56 ?_
    refine x_mmin hG (pc := 57) lk_X3_50 dX3_bearDay_57 (by decide) (Nat.le_of_ble_eq_true rfl) (by rw [hG.mc]; exact Nat.le_of_ble_eq_true rfl) (by rw [hG.ms]; exact Nat.le_of_ble_eq_true rfl) ?_
    refine x_putf hG (pc := 60) fl_X3_37 fw_6 ft_6_1 (by first | assumption | exact hR.main) (Nat.le_of_ble_eq_true rfl) rfl rfl (by dsimp only [List.set]) dX3_bearDay_60 ?_
    refine x_gen (fun w2 e2 => ?_)
    have hv2 := (congrFun e2 v).trans wup_s
    have ha2 := (congrFun e2 a).trans (wup_e hv1 ha1 (by intro q; cases q))
    refine x_aload_n hG (pc := 63) 0 dX3_bearDay_63 rfl rfl ?_
    refine x_getf hG (pc := 64) fl_X3_14 (by first | assumption | exact hR.main) rfl dX3_bearDay_64 ?_
    refine x_bipush hG (pc := 67) 60 dX3_bearDay_67 (by decide) ?_
    refine x_aload_n hG (pc := 69) 0 dX3_bearDay_69 rfl rfl ?_
    refine x_getf hG (pc := 70) fl_X3_14 (by first | assumption | exact hR.main) rfl dX3_bearDay_70 ?_
    refine x_getf hG (pc := 73) fl_X3_40 (by first | assumption | exact hR.main) rfl dX3_bearDay_73 ?_
    refine x_iload_n hG (pc := 76) 1 dX3_bearDay_76 rfl rfl ?_
    refine x_iconst hG (pc := 77) 5 dX3_bearDay_77 (by decide) ?_
    refine x_aload_n hG (pc := 78) 0 dX3_bearDay_78 rfl rfl ?_
    refine x_getf hG (pc := 79) fl_X3_20 (by first | assumption | exact hR.main) rfl dX3_bearDay_79 ?_
    refine x_imul hG (pc := 82) dX3_bearDay_82 ?_
    refine x_iadd hG (pc := 83) dX3_bearDay_83 ?_
    refine x_bipush hG (pc := 84) 10 dX3_bearDay_84 (by decide) ?_
    refine x_idiv hG (pc := 86) dX3_bearDay_86 (by decide) ?_
    refine x_iadd hG (pc := 87) dX3_bearDay_87 ?_
    refine x_mmin hG (pc := 88) lk_X3_50 dX3_bearDay_88 (by decide) (Nat.le_of_ble_eq_true rfl) (by rw [hG.mc]; exact Nat.le_of_ble_eq_true rfl) (by rw [hG.ms]; exact Nat.le_of_ble_eq_true rfl) ?_
    refine x_putf hG (pc := 91) fl_X3_40 fw_6 ft_6_2 (by first | assumption | exact hR.main) (Nat.le_of_ble_eq_true rfl) rfl rfl (by dsimp only [List.set]) dX3_bearDay_91 ?_
    refine x_gen (fun w3 e3 => ?_)
    have hv3 := (congrFun e3 v).trans wup_s
    have ha3 := (congrFun e3 a).trans (wup_e hv2 ha2 (by intro q; cases q))
    refine x_return hG (pc := 94) dX3_bearDay_94 rfl (by rw [hG.mc]; exact Nat.le_of_ble_eq_true rfl) (by rw [hG.ms]; exact Nat.le_of_ble_eq_true rfl) ?_
    subst e3 e2 e1
    rw [wup_w, wup_w]
    simp only [bW, h4, ↓reduceIte] at hk
    exact hk
  · refine x_iload_n hG (pc := 7) 1 dX3_bearDay_7 rfl rfl ?_
    refine x_iconst hG (pc := 8) 4 dX3_bearDay_8 (by decide) ?_
    refine x_idiv hG (pc := 9) dX3_bearDay_9 (by decide) ?_
    refine x_goto hG (pc := 10) 17 dX3_bearDay_10 (by decide) ?_
    refine x_istore_n hG (pc := 17) 2 dX3_bearDay_17 rfl (Nat.le_of_ble_eq_true rfl) rfl (by dsimp only [List.set]) ?_
    refine x_aload_n hG (pc := 18) 0 dX3_bearDay_18 rfl rfl ?_
    refine x_getf hG (pc := 19) fl_X3_14 (by first | assumption | exact hR.main) rfl dX3_bearDay_19 ?_
    refine x_bipush hG (pc := 22) 100 dX3_bearDay_22 (by decide) ?_
    refine x_aload_n hG (pc := 24) 0 dX3_bearDay_24 rfl rfl ?_
    refine x_getf hG (pc := 25) fl_X3_14 (by first | assumption | exact hR.main) rfl dX3_bearDay_25 ?_
    refine x_getf hG (pc := 28) fl_X3_34 (by first | assumption | exact hR.main) rfl dX3_bearDay_28 ?_
    refine x_iload_n hG (pc := 31) 2 dX3_bearDay_31 rfl rfl ?_
    refine x_iadd hG (pc := 32) dX3_bearDay_32 ?_
    refine x_mmin hG (pc := 33) lk_X3_50 dX3_bearDay_33 (by decide) (Nat.le_of_ble_eq_true rfl) (by rw [hG.mc]; exact Nat.le_of_ble_eq_true rfl) (by rw [hG.ms]; exact Nat.le_of_ble_eq_true rfl) ?_
    refine x_putf hG (pc := 36) fl_X3_34 fw_6 ft_6_0 (by first | assumption | exact hR.main) (Nat.le_of_ble_eq_true rfl) rfl rfl (by dsimp only [List.set]) dX3_bearDay_36 ?_
    refine x_gen (fun w1 e1 => ?_)
    have hv1 := (congrFun e1 v).trans wup_s
    have ha1 := (congrFun e1 a).trans (wup_e hv ha (by intro q; cases q))
    refine x_aload_n hG (pc := 39) 0 dX3_bearDay_39 rfl rfl ?_
    refine x_getf hG (pc := 40) fl_X3_14 (by first | assumption | exact hR.main) rfl dX3_bearDay_40 ?_
    refine x_bipush hG (pc := 43) 60 dX3_bearDay_43 (by decide) ?_
    refine x_aload_n hG (pc := 45) 0 dX3_bearDay_45 rfl rfl ?_
    refine x_getf hG (pc := 46) fl_X3_14 (by first | assumption | exact hR.main) rfl dX3_bearDay_46 ?_
    refine x_getf hG (pc := 49) fl_X3_37 (by first | assumption | exact hR.main) rfl dX3_bearDay_49 ?_
    refine x_aload_n hG (pc := 52) 0 dX3_bearDay_52 rfl rfl ?_
    refine x_callV hG hO (pc := 53) [] c_X3_crackGrowth lk_X3_56 (by first | assumption | exact hR.main) rfl rfl ⟨by decide, by decide⟩ (Nat.le_of_ble_eq_true rfl) (by rw [hG.mc]; exact Nat.le_of_ble_eq_true rfl) (by rw [hG.ms]; exact Nat.le_of_ble_eq_true rfl) dX3_bearDay_53 ?_
    refine ⟨a, ta, v, tv, p, f, c, s, _, _, _, rfl, ha1, hv1, ?_⟩
    refine x_iadd hG (pc := 56) dX3_bearDay_56 ?_
    refine x_mmin hG (pc := 57) lk_X3_50 dX3_bearDay_57 (by decide) (Nat.le_of_ble_eq_true rfl) (by rw [hG.mc]; exact Nat.le_of_ble_eq_true rfl) (by rw [hG.ms]; exact Nat.le_of_ble_eq_true rfl) ?_
    refine x_putf hG (pc := 60) fl_X3_37 fw_6 ft_6_1 (by first | assumption | exact hR.main) (Nat.le_of_ble_eq_true rfl) rfl rfl (by dsimp only [List.set]) dX3_bearDay_60 ?_
    refine x_gen (fun w2 e2 => ?_)
    have hv2 := (congrFun e2 v).trans wup_s
    have ha2 := (congrFun e2 a).trans (wup_e hv1 ha1 (by intro q; cases q))
    refine x_aload_n hG (pc := 63) 0 dX3_bearDay_63 rfl rfl ?_
    refine x_getf hG (pc := 64) fl_X3_14 (by first | assumption | exact hR.main) rfl dX3_bearDay_64 ?_
    refine x_bipush hG (pc := 67) 60 dX3_bearDay_67 (by decide) ?_
    refine x_aload_n hG (pc := 69) 0 dX3_bearDay_69 rfl rfl ?_
    refine x_getf hG (pc := 70) fl_X3_14 (by first | assumption | exact hR.main) rfl dX3_bearDay_70 ?_
    refine x_getf hG (pc := 73) fl_X3_40 (by first | assumption | exact hR.main) rfl dX3_bearDay_73 ?_
    refine x_iload_n hG (pc := 76) 1 dX3_bearDay_76 rfl rfl ?_
    refine x_iconst hG (pc := 77) 5 dX3_bearDay_77 (by decide) ?_
    refine x_aload_n hG (pc := 78) 0 dX3_bearDay_78 rfl rfl ?_
    refine x_getf hG (pc := 79) fl_X3_20 (by first | assumption | exact hR.main) rfl dX3_bearDay_79 ?_
    refine x_imul hG (pc := 82) dX3_bearDay_82 ?_
    refine x_iadd hG (pc := 83) dX3_bearDay_83 ?_
    refine x_bipush hG (pc := 84) 10 dX3_bearDay_84 (by decide) ?_
    refine x_idiv hG (pc := 86) dX3_bearDay_86 (by decide) ?_
    refine x_iadd hG (pc := 87) dX3_bearDay_87 ?_
    refine x_mmin hG (pc := 88) lk_X3_50 dX3_bearDay_88 (by decide) (Nat.le_of_ble_eq_true rfl) (by rw [hG.mc]; exact Nat.le_of_ble_eq_true rfl) (by rw [hG.ms]; exact Nat.le_of_ble_eq_true rfl) ?_
    refine x_putf hG (pc := 91) fl_X3_40 fw_6 ft_6_2 (by first | assumption | exact hR.main) (Nat.le_of_ble_eq_true rfl) rfl rfl (by dsimp only [List.set]) dX3_bearDay_91 ?_
    refine x_gen (fun w3 e3 => ?_)
    have hv3 := (congrFun e3 v).trans wup_s
    have ha3 := (congrFun e3 a).trans (wup_e hv2 ha2 (by intro q; cases q))
    refine x_return hG (pc := 94) dX3_bearDay_94 rfl (by rw [hG.mc]; exact Nat.le_of_ble_eq_true rfl) (by rw [hG.ms]; exact Nat.le_of_ble_eq_true rfl) ?_
    subst e3 e2 e1
    rw [wup_w, wup_w]
    simp only [bW, h4, ↓reduceIte] at hk
    exact hk
set_option maxHeartbeats 400000 in
set_option maxRecDepth 100000 in
theorem c_X3_hoursFor : CtrA yX3_hoursFor cX3_hoursFor 3 (some .int) (rmk 0 0 0 0) (fun Γ av w post _ => ∃ a ta v p f c s k, av = [.ref a, .int k] ∧ w a = some (ta, oS v p f c s) ∧ post (some (.int (s_hours k c))) w) := by
  refine ctr_of (by decide) ?_
  rintro g av w hG hO ⟨a, ta, v, p, f, c, s, k, rfl, ha, hk⟩
  refine ⟨Nat.le_of_ble_eq_true rfl, ?_⟩
  show X g w 0 0 0 [some (.ref a), some (.int k), none] []
  refine x_aload_n hG (pc := 0) 0 dX3_hoursFor_0 rfl rfl ?_
  refine x_getf hG (pc := 1) fl_X3_27 (by first | assumption | exact hR.main) rfl dX3_hoursFor_1 ?_
  refine x_if_eq hG (pc := 4) 11 dX3_hoursFor_4 (by decide) (fun h4 => ?_) (fun h4 => ?_)
  · refine x_iconst hG (pc := 11) 0 dX3_hoursFor_11 (by decide) ?_
    refine x_istore_n hG (pc := 12) 2 dX3_hoursFor_12 rfl (Nat.le_of_ble_eq_true rfl) rfl (by dsimp only [List.set]) ?_
    refine x_iload_n hG (pc := 13) 1 dX3_hoursFor_13 rfl rfl ?_
    by_cases q0 : k = 0
    · refine x_lookup hG (pc := 14) (off := 26) 40 dX3_hoursFor_14 (by decide) (by rw [q0]; rfl) (by decide) ?_
      refine x_iconst hG (pc := 40) 1 dX3_hoursFor_40 (by decide) ?_
      refine x_iload_n hG (pc := 41) 2 dX3_hoursFor_41 rfl rfl ?_
      refine x_iadd hG (pc := 42) dX3_hoursFor_42 ?_
      refine x_ireturn hG (pc := 43) dX3_hoursFor_43 rfl rfl (by rw [hG.mc]; exact Nat.le_of_ble_eq_true rfl) (by rw [hG.ms]; exact Nat.le_of_ble_eq_true rfl) ?_
      exact fin_i (by simp [s_hours, h4, q0]) hk
    · by_cases q1 : k = 1
      · refine x_lookup hG (pc := 14) (off := 30) 44 dX3_hoursFor_14 (by decide) (by rw [q1]; rfl) (by decide) ?_
        refine x_iconst hG (pc := 44) 2 dX3_hoursFor_44 (by decide) ?_
        refine x_iload_n hG (pc := 45) 2 dX3_hoursFor_45 rfl rfl ?_
        refine x_iadd hG (pc := 46) dX3_hoursFor_46 ?_
        refine x_ireturn hG (pc := 47) dX3_hoursFor_47 rfl rfl (by rw [hG.mc]; exact Nat.le_of_ble_eq_true rfl) (by rw [hG.ms]; exact Nat.le_of_ble_eq_true rfl) ?_
        exact fin_i (by simp [s_hours, h4, q0, q1]) hk
      · refine x_lookup hG (pc := 14) (off := 34) 48 dX3_hoursFor_14 (by decide) (by have z0 := ti_ne q0 (n := 0) rfl; have z1 := ti_ne q1 (n := 1) rfl; simp [Op.lookupswitch.offset, z0, z1, Ne.symm z0, Ne.symm z1]) (by decide) ?_
        refine x_iconst hG (pc := 48) 4 dX3_hoursFor_48 (by decide) ?_
        refine x_iload_n hG (pc := 49) 2 dX3_hoursFor_49 rfl rfl ?_
        refine x_iadd hG (pc := 50) dX3_hoursFor_50 ?_
        refine x_ireturn hG (pc := 51) dX3_hoursFor_51 rfl rfl (by rw [hG.mc]; exact Nat.le_of_ble_eq_true rfl) (by rw [hG.ms]; exact Nat.le_of_ble_eq_true rfl) ?_
        exact fin_i (by simp [s_hours, h4, q0, q1]) hk
  · refine x_iconst hG (pc := 7) 1 dX3_hoursFor_7 (by decide) ?_
    refine x_goto hG (pc := 8) 12 dX3_hoursFor_8 (by decide) ?_
    refine x_istore_n hG (pc := 12) 2 dX3_hoursFor_12 rfl (Nat.le_of_ble_eq_true rfl) rfl (by dsimp only [List.set]) ?_
    refine x_iload_n hG (pc := 13) 1 dX3_hoursFor_13 rfl rfl ?_
    by_cases q0 : k = 0
    · refine x_lookup hG (pc := 14) (off := 26) 40 dX3_hoursFor_14 (by decide) (by rw [q0]; rfl) (by decide) ?_
      refine x_iconst hG (pc := 40) 1 dX3_hoursFor_40 (by decide) ?_
      refine x_iload_n hG (pc := 41) 2 dX3_hoursFor_41 rfl rfl ?_
      refine x_iadd hG (pc := 42) dX3_hoursFor_42 ?_
      refine x_ireturn hG (pc := 43) dX3_hoursFor_43 rfl rfl (by rw [hG.mc]; exact Nat.le_of_ble_eq_true rfl) (by rw [hG.ms]; exact Nat.le_of_ble_eq_true rfl) ?_
      exact fin_i (by simp [s_hours, h4, q0]) hk
    · by_cases q1 : k = 1
      · refine x_lookup hG (pc := 14) (off := 30) 44 dX3_hoursFor_14 (by decide) (by rw [q1]; rfl) (by decide) ?_
        refine x_iconst hG (pc := 44) 2 dX3_hoursFor_44 (by decide) ?_
        refine x_iload_n hG (pc := 45) 2 dX3_hoursFor_45 rfl rfl ?_
        refine x_iadd hG (pc := 46) dX3_hoursFor_46 ?_
        refine x_ireturn hG (pc := 47) dX3_hoursFor_47 rfl rfl (by rw [hG.mc]; exact Nat.le_of_ble_eq_true rfl) (by rw [hG.ms]; exact Nat.le_of_ble_eq_true rfl) ?_
        exact fin_i (by simp [s_hours, h4, q0, q1]) hk
      · refine x_lookup hG (pc := 14) (off := 34) 48 dX3_hoursFor_14 (by decide) (by have z0 := ti_ne q0 (n := 0) rfl; have z1 := ti_ne q1 (n := 1) rfl; simp [Op.lookupswitch.offset, z0, z1, Ne.symm z0, Ne.symm z1]) (by decide) ?_
        refine x_iconst hG (pc := 48) 4 dX3_hoursFor_48 (by decide) ?_
        refine x_iload_n hG (pc := 49) 2 dX3_hoursFor_49 rfl rfl ?_
        refine x_iadd hG (pc := 50) dX3_hoursFor_50 ?_
        refine x_ireturn hG (pc := 51) dX3_hoursFor_51 rfl rfl (by rw [hG.mc]; exact Nat.le_of_ble_eq_true rfl) (by rw [hG.ms]; exact Nat.le_of_ble_eq_true rfl) ?_
        exact fin_i (by simp [s_hours, h4, q0, q1]) hk
set_option maxHeartbeats 400000 in
set_option maxRecDepth 100000 in
theorem c_X3_treat : CtrA yX3_treat cX3_treat 3 none (rmk 1 0 0 33) (fun Γ av w post _ => ∃ a ta v tv p f c s x y z k u, av = [.ref a, .int k, .int u] ∧ w a = some (ta, oS v p f c s) ∧ w v = some (tv, oV x y z) ∧ post none (wup (wup w v (tv, oV (tW k x) (tC k y) (tS k z))) a (ta, oS v (tT k p) (tF k f u) c s))) := by
  refine ctr_of (by decide) ?_
  rintro g av w hG hO ⟨a, ta, v, tv, p, f, c, s, x, y, z, k, u, rfl, ha, hv, hk⟩
  refine ⟨Nat.le_of_ble_eq_true rfl, ?_⟩
  show X g w 0 0 0 [some (.ref a), some (.int k), some (.int u)] []
  refine x_iload_n hG (pc := 0) 1 dX3_treat_0 rfl rfl ?_
  refine x_if_ne hG (pc := 1) 33 dX3_treat_1 (by decide) (fun h1 => ?_) (fun h1 => ?_)
  · refine x_iload_n hG (pc := 33) 1 dX3_treat_33 rfl rfl ?_
    refine x_iconst hG (pc := 34) 1 dX3_treat_34 (by decide) ?_
    refine x_icmp_ne hG (pc := 35) 83 dX3_treat_35 (by decide) (fun h35 => ?_) (fun h35 => ?_)
    · refine x_aload_n hG (pc := 83) 0 dX3_treat_83 rfl rfl ?_
      refine x_getf hG (pc := 84) fl_X3_14 (by first | assumption | exact hR.main) rfl dX3_treat_84 ?_
      refine x_iconst hG (pc := 87) 0 dX3_treat_87 (by decide) ?_
      refine x_putf hG (pc := 88) fl_X3_34 fw_6 ft_6_0 (by first | assumption | exact hR.main) (Nat.le_of_ble_eq_true rfl) rfl rfl (by dsimp only [List.set]) dX3_treat_88 ?_
      refine x_gen (fun w1 e1 => ?_)
      have hv1 := (congrFun e1 v).trans wup_s
      have ha1 := (congrFun e1 a).trans (wup_e hv ha (by intro q; cases q))
      refine x_aload_n hG (pc := 91) 0 dX3_treat_91 rfl rfl ?_
      refine x_getf hG (pc := 92) fl_X3_14 (by first | assumption | exact hR.main) rfl dX3_treat_92 ?_
      refine x_iconst hG (pc := 95) 0 dX3_treat_95 (by decide) ?_
      refine x_putf hG (pc := 96) fl_X3_37 fw_6 ft_6_1 (by first | assumption | exact hR.main) (Nat.le_of_ble_eq_true rfl) rfl rfl (by dsimp only [List.set]) dX3_treat_96 ?_
      refine x_gen (fun w2 e2 => ?_)
      have hv2 := (congrFun e2 v).trans wup_s
      have ha2 := (congrFun e2 a).trans (wup_e hv1 ha1 (by intro q; cases q))
      refine x_aload_n hG (pc := 99) 0 dX3_treat_99 rfl rfl ?_
      refine x_getf hG (pc := 100) fl_X3_14 (by first | assumption | exact hR.main) rfl dX3_treat_100 ?_
      refine x_iconst hG (pc := 103) 0 dX3_treat_103 (by decide) ?_
      refine x_putf hG (pc := 104) fl_X3_40 fw_6 ft_6_2 (by first | assumption | exact hR.main) (Nat.le_of_ble_eq_true rfl) rfl rfl (by dsimp only [List.set]) dX3_treat_104 ?_
      refine x_gen (fun w3 e3 => ?_)
      have hv3 := (congrFun e3 v).trans wup_s
      have ha3 := (congrFun e3 a).trans (wup_e hv2 ha2 (by intro q; cases q))
      refine x_aload_n hG (pc := 107) 0 dX3_treat_107 rfl rfl ?_
      refine x_iconst hG (pc := 108) 0 dX3_treat_108 (by decide) ?_
      refine x_putf hG (pc := 109) fl_X3_20 fw_5 ft_5_1 (by first | assumption | exact hR.main) (Nat.le_of_ble_eq_true rfl) rfl rfl (by dsimp only [List.set]) dX3_treat_109 ?_
      refine x_gen (fun w4 e4 => ?_)
      have ha4 := (congrFun e4 a).trans wup_s
      have hv4 := (congrFun e4 v).trans (wup_e ha3 hv3 (by intro q; cases q))
      refine x_aload_n hG (pc := 112) 0 dX3_treat_112 rfl rfl ?_
      refine x_bipush hG (pc := 113) 10 dX3_treat_113 (by decide) ?_
      refine x_bipush hG (pc := 115) 40 dX3_treat_115 (by decide) ?_
      refine x_iload_n hG (pc := 117) 2 dX3_treat_117 rfl rfl ?_
      refine x_mmin hG (pc := 118) lk_X3_50 dX3_treat_118 (by decide) (Nat.le_of_ble_eq_true rfl) (by rw [hG.mc]; exact Nat.le_of_ble_eq_true rfl) (by rw [hG.ms]; exact Nat.le_of_ble_eq_true rfl) ?_
      refine x_mmax hG (pc := 121) lk_X3_60 dX3_treat_121 (by decide) (Nat.le_of_ble_eq_true rfl) (by rw [hG.mc]; exact Nat.le_of_ble_eq_true rfl) (by rw [hG.ms]; exact Nat.le_of_ble_eq_true rfl) ?_
      refine x_putf hG (pc := 124) fl_X3_24 fw_5 ft_5_2 (by first | assumption | exact hR.main) (Nat.le_of_ble_eq_true rfl) rfl rfl (by dsimp only [List.set]) dX3_treat_124 ?_
      refine x_gen (fun w5 e5 => ?_)
      have ha5 := (congrFun e5 a).trans wup_s
      have hv5 := (congrFun e5 v).trans (wup_e ha4 hv4 (by intro q; cases q))
      refine x_return hG (pc := 127) dX3_treat_127 rfl (by rw [hG.mc]; exact Nat.le_of_ble_eq_true rfl) (by rw [hG.ms]; exact Nat.le_of_ble_eq_true rfl) ?_
      subst e5 e4 e3 e2 e1
      rw [wup_w, wup_w, wup_w]
      simp only [tW, tC, tS, tT, tF, h1, h35, ↓reduceIte] at hk
      exact hk
    · refine x_aload_n hG (pc := 38) 0 dX3_treat_38 rfl rfl ?_
      refine x_getf hG (pc := 39) fl_X3_14 (by first | assumption | exact hR.main) rfl dX3_treat_39 ?_
      refine x_iconst hG (pc := 42) 0 dX3_treat_42 (by decide) ?_
      refine x_aload_n hG (pc := 43) 0 dX3_treat_43 rfl rfl ?_
      refine x_getf hG (pc := 44) fl_X3_14 (by first | assumption | exact hR.main) rfl dX3_treat_44 ?_
      refine x_getf hG (pc := 47) fl_X3_37 (by first | assumption | exact hR.main) rfl dX3_treat_47 ?_
      refine x_bipush hG (pc := 50) 8 dX3_treat_50 (by decide) ?_
      refine x_isub hG (pc := 52) dX3_treat_52 ?_
      refine x_mmax hG (pc := 53) lk_X3_60 dX3_treat_53 (by decide) (Nat.le_of_ble_eq_true rfl) (by rw [hG.mc]; exact Nat.le_of_ble_eq_true rfl) (by rw [hG.ms]; exact Nat.le_of_ble_eq_true rfl) ?_
      refine x_putf hG (pc := 56) fl_X3_37 fw_6 ft_6_1 (by first | assumption | exact hR.main) (Nat.le_of_ble_eq_true rfl) rfl rfl (by dsimp only [List.set]) dX3_treat_56 ?_
      refine x_gen (fun w1 e1 => ?_)
      have hv1 := (congrFun e1 v).trans wup_s
      have ha1 := (congrFun e1 a).trans (wup_e hv ha (by intro q; cases q))
      refine x_aload_n hG (pc := 59) 0 dX3_treat_59 rfl rfl ?_
      refine x_getf hG (pc := 60) fl_X3_14 (by first | assumption | exact hR.main) rfl dX3_treat_60 ?_
      refine x_bipush hG (pc := 63) 100 dX3_treat_63 (by decide) ?_
      refine x_aload_n hG (pc := 65) 0 dX3_treat_65 rfl rfl ?_
      refine x_getf hG (pc := 66) fl_X3_14 (by first | assumption | exact hR.main) rfl dX3_treat_66 ?_
      refine x_getf hG (pc := 69) fl_X3_34 (by first | assumption | exact hR.main) rfl dX3_treat_69 ?_
      refine x_iconst hG (pc := 72) 2 dX3_treat_72 (by decide) ?_
      refine x_iadd hG (pc := 73) dX3_treat_73 ?_
      refine x_mmin hG (pc := 74) lk_X3_50 dX3_treat_74 (by decide) (Nat.le_of_ble_eq_true rfl) (by rw [hG.mc]; exact Nat.le_of_ble_eq_true rfl) (by rw [hG.ms]; exact Nat.le_of_ble_eq_true rfl) ?_
      refine x_putf hG (pc := 77) fl_X3_34 fw_6 ft_6_0 (by first | assumption | exact hR.main) (Nat.le_of_ble_eq_true rfl) rfl rfl (by dsimp only [List.set]) dX3_treat_77 ?_
      refine x_gen (fun w2 e2 => ?_)
      have hv2 := (congrFun e2 v).trans wup_s
      have ha2 := (congrFun e2 a).trans (wup_e hv1 ha1 (by intro q; cases q))
      refine x_goto hG (pc := 80) 127 dX3_treat_80 (by decide) ?_
      refine x_return hG (pc := 127) dX3_treat_127 rfl (by rw [hG.mc]; exact Nat.le_of_ble_eq_true rfl) (by rw [hG.ms]; exact Nat.le_of_ble_eq_true rfl) ?_
      subst e2 e1
      rw [wup_w]
      simp only [tW, tC, tS, tT, tF, h1, h35, n10, ↓reduceIte] at hk
      rw [wup_id (wup_e hv ha (by intro q; cases q))] at hk
      exact hk
  · refine x_aload_n hG (pc := 4) 0 dX3_treat_4 rfl rfl ?_
    refine x_getf hG (pc := 5) fl_X3_14 (by first | assumption | exact hR.main) rfl dX3_treat_5 ?_
    refine x_aload_n hG (pc := 8) 0 dX3_treat_8 rfl rfl ?_
    refine x_getf hG (pc := 9) fl_X3_14 (by first | assumption | exact hR.main) rfl dX3_treat_9 ?_
    refine x_getf hG (pc := 12) fl_X3_40 (by first | assumption | exact hR.main) rfl dX3_treat_12 ?_
    refine x_iconst hG (pc := 15) 4 dX3_treat_15 (by decide) ?_
    refine x_idiv hG (pc := 16) dX3_treat_16 (by decide) ?_
    refine x_putf hG (pc := 17) fl_X3_40 fw_6 ft_6_2 (by first | assumption | exact hR.main) (Nat.le_of_ble_eq_true rfl) rfl rfl (by dsimp only [List.set]) dX3_treat_17 ?_
    refine x_gen (fun w1 e1 => ?_)
    have hv1 := (congrFun e1 v).trans wup_s
    have ha1 := (congrFun e1 a).trans (wup_e hv ha (by intro q; cases q))
    refine x_aload_n hG (pc := 20) 0 dX3_treat_20 rfl rfl ?_
    refine x_dup hG (pc := 21) dX3_treat_21 rfl ?_
    refine x_getf hG (pc := 22) fl_X3_20 (by first | assumption | exact hR.main) rfl dX3_treat_22 ?_
    refine x_iconst hG (pc := 25) 1 dX3_treat_25 (by decide) ?_
    refine x_iadd hG (pc := 26) dX3_treat_26 ?_
    refine x_putf hG (pc := 27) fl_X3_20 fw_5 ft_5_1 (by first | assumption | exact hR.main) (Nat.le_of_ble_eq_true rfl) rfl rfl (by dsimp only [List.set]) dX3_treat_27 ?_
    refine x_gen (fun w2 e2 => ?_)
    have ha2 := (congrFun e2 a).trans wup_s
    have hv2 := (congrFun e2 v).trans (wup_e ha1 hv1 (by intro q; cases q))
    refine x_goto hG (pc := 30) 127 dX3_treat_30 (by decide) ?_
    refine x_return hG (pc := 127) dX3_treat_127 rfl (by rw [hG.mc]; exact Nat.le_of_ble_eq_true rfl) (by rw [hG.ms]; exact Nat.le_of_ble_eq_true rfl) ?_
    subst e2 e1
    simp only [tW, tC, tS, tT, tF, h1, ↓reduceIte] at hk
    exact hk
set_option maxHeartbeats 400000 in
set_option maxRecDepth 100000 in
theorem c_X4_init : CtrA yX4_init cX4_init 4 none (rmk 1 0 0 20) (fun Γ av w post _ => ∃ a t x y z x0 y0 z0, av = [.ref a, .int x, .int y, .int z] ∧ w a = some (t, oV x0 y0 z0) ∧ post none (wup w a (t, oV x y z))) := by
  refine ctr_of (by decide) ?_
  rintro g av w hG hO ⟨a, t, x, y, z, x0, y0, z0, rfl, ha, hk⟩
  refine ⟨Nat.le_of_ble_eq_true rfl, ?_⟩
  show X g w 0 0 0 [some (.ref a), some (.int x), some (.int y), some (.int z)] []
  refine x_aload_n hG (pc := 0) 0 dX4_init_0 rfl rfl ?_
  refine x_objInit hG (pc := 1) oi_X4_3 oi_i oi_c dX4_init_1 (by decide) (Nat.le_of_ble_eq_true rfl) (Nat.le_of_ble_eq_true rfl) ?_
  refine x_aload_n hG (pc := 4) 0 dX4_init_4 rfl rfl ?_
  refine x_iload_n hG (pc := 5) 1 dX4_init_5 rfl rfl ?_
  refine x_putf hG (pc := 6) fl_X4_9 fw_6 ft_6_0 (by first | assumption | exact hR.main) (Nat.le_of_ble_eq_true rfl) rfl rfl (by dsimp only [List.set]) dX4_init_6 ?_
  refine x_gen (fun w1 e1 => ?_)
  have ha1 := (congrFun e1 a).trans wup_s
  refine x_aload_n hG (pc := 9) 0 dX4_init_9 rfl rfl ?_
  refine x_iload_n hG (pc := 10) 2 dX4_init_10 rfl rfl ?_
  refine x_putf hG (pc := 11) fl_X4_15 fw_6 ft_6_1 (by first | assumption | exact hR.main) (Nat.le_of_ble_eq_true rfl) rfl rfl (by dsimp only [List.set]) dX4_init_11 ?_
  refine x_gen (fun w2 e2 => ?_)
  have ha2 := (congrFun e2 a).trans wup_s
  refine x_aload_n hG (pc := 14) 0 dX4_init_14 rfl rfl ?_
  refine x_iload_n hG (pc := 15) 3 dX4_init_15 rfl rfl ?_
  refine x_putf hG (pc := 16) fl_X4_18 fw_6 ft_6_2 (by first | assumption | exact hR.main) (Nat.le_of_ble_eq_true rfl) rfl rfl (by dsimp only [List.set]) dX4_init_16 ?_
  refine x_gen (fun w3 e3 => ?_)
  have ha3 := (congrFun e3 a).trans wup_s
  refine x_return hG (pc := 19) dX4_init_19 rfl (by rw [hG.mc]; exact Nat.le_of_ble_eq_true rfl) (by rw [hG.ms]; exact Nat.le_of_ble_eq_true rfl) ?_
  subst e3 e2 e1
  rw [wup_w, wup_w]
  exact hk
set_option maxHeartbeats 400000 in
set_option maxRecDepth 100000 in
theorem c_X3_init : CtrA yX3_init cX3_init 1 none (rmk 2 1 3 43) (fun Γ av w post _ => ∃ a ta tv s0, av = [.ref a] ∧ w a = some (ta, .inr (5, [.null, .int 0, .int 0, .int 0, .int s0])) ∧ ∀ v, w v = none → n0A Γ v → post none (wup (wup w v (tv, oV 0 0 0)) a (ta, oS v 0 27 0 160))) := by
  refine ctr_of (by decide) ?_
  rintro g av w hG hO ⟨a, ta, tv, s0, rfl, ha, hk⟩
  refine ⟨Nat.le_of_ble_eq_true rfl, ?_⟩
  show X g w 0 0 0 [some (.ref a)] []
  refine x_aload_n hG (pc := 0) 0 dX3_init_0 rfl rfl ?_
  refine x_objInit hG (pc := 1) oi_X3_3 oi_i oi_c dX3_init_1 (by decide) (Nat.le_of_ble_eq_true rfl) (Nat.le_of_ble_eq_true rfl) ?_
  refine x_aload_n hG (pc := 4) 0 dX3_init_4 rfl rfl ?_
  refine x_new hG (pc := 5) tv nw_X3_9 dX3_init_5 (by rw [hG.mc]; exact Nat.le_of_ble_eq_true rfl) (by rw [hG.ms]; exact Nat.le_of_ble_eq_true rfl) (fun v hfv hnv => ?_)
  refine x_gen (fun w0 e0 => ?_)
  have hv := (congrFun e0 v).trans wup_s
  have ha0 := (congrFun e0 a).trans (wup_f hfv ha)
  refine x_dup hG (pc := 8) dX3_init_8 rfl ?_
  refine x_iconst hG (pc := 9) 0 dX3_init_9 (by decide) ?_
  refine x_iconst hG (pc := 10) 0 dX3_init_10 (by decide) ?_
  refine x_iconst hG (pc := 11) 0 dX3_init_11 (by decide) ?_
  refine x_callI hG hO (pc := 12) [_, _, _] c_X4_init lk_X3_11 rfl rfl ⟨by decide, by decide⟩ (Nat.le_of_ble_eq_true rfl) (by rw [hG.mc]; exact Nat.le_of_ble_eq_true rfl) (by rw [hG.ms]; exact Nat.le_of_ble_eq_true rfl) dX3_init_12 ?_
  refine ⟨v, tv, 0, 0, 0, _, _, _, rfl, hv, ?_⟩
  refine x_gen (fun w9 e9 => ?_)
  have ha := (congrFun e9 a).trans (wup_e hv ha0 (by intro q; cases q))
  refine x_putfF hG (pc := 15) flp_X3_14 fw_5 ft_5_0 (by first | assumption | exact hR.main) (Nat.le_of_ble_eq_true rfl) rfl rfl (by dsimp only [List.set]) dX3_init_15 rfl ?_
  refine x_gen (fun w1 e1 => ?_)
  have ha1 := (congrFun e1 a).trans wup_s
  refine x_aload_n hG (pc := 18) 0 dX3_init_18 rfl rfl ?_
  refine x_iconst hG (pc := 19) 0 dX3_init_19 (by decide) ?_
  refine x_putf hG (pc := 20) fl_X3_20 fw_5 ft_5_1 (by first | assumption | exact hR.main) (Nat.le_of_ble_eq_true rfl) rfl rfl (by dsimp only [List.set]) dX3_init_20 ?_
  refine x_gen (fun w2 e2 => ?_)
  have ha2 := (congrFun e2 a).trans wup_s
  refine x_aload_n hG (pc := 23) 0 dX3_init_23 rfl rfl ?_
  refine x_bipush hG (pc := 24) 27 dX3_init_24 (by decide) ?_
  refine x_putf hG (pc := 26) fl_X3_24 fw_5 ft_5_2 (by first | assumption | exact hR.main) (Nat.le_of_ble_eq_true rfl) rfl rfl (by dsimp only [List.set]) dX3_init_26 ?_
  refine x_gen (fun w3 e3 => ?_)
  have ha3 := (congrFun e3 a).trans wup_s
  refine x_aload_n hG (pc := 29) 0 dX3_init_29 rfl rfl ?_
  refine x_iconst hG (pc := 30) 0 dX3_init_30 (by decide) ?_
  refine x_putf hG (pc := 31) fl_X3_27 fw_5 ft_5_3 (by first | assumption | exact hR.main) (Nat.le_of_ble_eq_true rfl) rfl rfl (by dsimp only [List.set]) dX3_init_31 ?_
  refine x_gen (fun w4 e4 => ?_)
  have ha4 := (congrFun e4 a).trans wup_s
  refine x_aload_n hG (pc := 34) 0 dX3_init_34 rfl rfl ?_
  refine x_sipush hG (pc := 35) 160 dX3_init_35 (by decide) ?_
  refine x_putf hG (pc := 38) fl_X3_31 fw_5 ft_5_4 (by first | assumption | exact hR.main) (Nat.le_of_ble_eq_true rfl) rfl rfl (by dsimp only [List.set]) dX3_init_38 ?_
  refine x_gen (fun w5 e5 => ?_)
  have ha5 := (congrFun e5 a).trans wup_s
  refine x_gen (fun wz ez => ?_)
  refine x_return hG (pc := 41) dX3_init_41 rfl (by rw [hG.mc]; exact Nat.le_of_ble_eq_true rfl) (by rw [hG.ms]; exact Nat.le_of_ble_eq_true rfl) ?_
  subst ez e5 e4 e3 e2 e1 e9 e0
  simp only [wup_w]
  exact hk v hfv hnv
