/-! Possession; Section.become -/
theorem hasI {b : Bool} : True := trivial
theorem nI_1' (i : Nat) : nI i + Int32.ofInt 1 = nI (i + 1) := nI_1 i
theorem uses_t {n : Nat} {ma : Nat → Nat} {tool i : Nat} (hi : i < n) (h : ma i = tool) : uses n ma tool = 1 := if_pos ⟨i, hi, h⟩
theorem uses_f {n : Nat} {ma : Nat → Nat} {tool : Nat} (h : ∀ j, j < n → ¬ ma j = tool) : uses n ma tool = 0 := if_neg fun ⟨i, hi, q⟩ => h i hi q
theorem rf_ne {a b : Nat} (h : ¬ (some a = some b)) : ¬ a = b := fun q => h (congrArg some q)
set_option maxHeartbeats 400000 in
set_option maxRecDepth 100000 in
theorem c_X2_has : CtrA yX2_has cX2_has 3 (some .boolean) (rmk 0 0 0 0) (fun Γ av w post _ => ∃ a t tr fr to dy hh wk st m1 m2 ov s, av = [.ref a, .int s] ∧ w a = some (t, oP tr fr to dy hh wk st m1 m2 ov) ∧ post (some (.int (s_has tr fr to s))) w) := by
  refine ctr_of (by decide) ?_
  rintro g av w hG hO ⟨a, t, tr, fr, to, dy, hh, wk, st, m1, m2, ov, s, rfl, ha, hk⟩
  refine ⟨Nat.le_of_ble_eq_true rfl, ?_⟩
  show X g w 0 0 0 [some (.ref a), some (.int s), none] []
  refine x_iload_n hG (pc := 0) 1 dX2_has_0 rfl rfl ?_
  refine x_bipush hG (pc := 1) 10 dX2_has_1 (by decide) ?_
  refine x_irem hG (pc := 3) dX2_has_3 (by decide) ?_
  show X g w _ _ _ _ [.int (rm10 s)]
  refine x_istore_n hG (pc := 4) 2 dX2_has_4 rfl (Nat.le_of_ble_eq_true rfl) rfl (by dsimp only [List.set]) ?_
  refine x_iload_n hG (pc := 5) 1 dX2_has_5 rfl rfl ?_
  refine x_bipush hG (pc := 6) 10 dX2_has_6 (by decide) ?_
  refine x_idiv hG (pc := 8) dX2_has_8 (by decide) ?_
  refine x_aload_n hG (pc := 9) 0 dX2_has_9 rfl rfl ?_
  refine x_getf hG (pc := 10) fl_X2_32 (by first | assumption | exact hR.main) rfl dX2_has_10 ?_
  refine x_icmp_ne hG (pc := 13) 36 dX2_has_13 (by decide) (fun h13 => ?_) (fun h13 => ?_)
  · refine x_iconst hG (pc := 36) 0 dX2_has_36 (by decide) ?_
    refine x_ireturn hG (pc := 37) dX2_has_37 rfl rfl (by rw [hG.mc]; exact Nat.le_of_ble_eq_true rfl) (by rw [hG.ms]; exact Nat.le_of_ble_eq_true rfl) ?_
    exact fin_i (by simp [s_has, h13]) hk
  · refine x_iload_n hG (pc := 16) 2 dX2_has_16 rfl rfl ?_
    refine x_aload_n hG (pc := 17) 0 dX2_has_17 rfl rfl ?_
    refine x_getf hG (pc := 18) fl_X2_35 (by first | assumption | exact hR.main) rfl dX2_has_18 ?_
    refine x_icmp_lt hG (pc := 21) 36 dX2_has_21 (by decide) (fun h21 => ?_) (fun h21 => ?_)
    · refine x_iconst hG (pc := 36) 0 dX2_has_36 (by decide) ?_
      refine x_ireturn hG (pc := 37) dX2_has_37 rfl rfl (by rw [hG.mc]; exact Nat.le_of_ble_eq_true rfl) (by rw [hG.ms]; exact Nat.le_of_ble_eq_true rfl) ?_
      exact fin_i (by simp [s_has, h13, h21]) hk
    · refine x_iload_n hG (pc := 24) 2 dX2_has_24 rfl rfl ?_
      refine x_aload_n hG (pc := 25) 0 dX2_has_25 rfl rfl ?_
      refine x_getf hG (pc := 26) fl_X2_38 (by first | assumption | exact hR.main) rfl dX2_has_26 ?_
      refine x_icmp_gt hG (pc := 29) 36 dX2_has_29 (by decide) (fun h29 => ?_) (fun h29 => ?_)
      · refine x_iconst hG (pc := 36) 0 dX2_has_36 (by decide) ?_
        refine x_ireturn hG (pc := 37) dX2_has_37 rfl rfl (by rw [hG.mc]; exact Nat.le_of_ble_eq_true rfl) (by rw [hG.ms]; exact Nat.le_of_ble_eq_true rfl) ?_
        exact fin_i (by simp [s_has, h13, h21, h29]) hk
      · refine x_iconst hG (pc := 32) 1 dX2_has_32 (by decide) ?_
        refine x_goto hG (pc := 33) 37 dX2_has_33 (by decide) ?_
        refine x_ireturn hG (pc := 37) dX2_has_37 rfl rfl (by rw [hG.mc]; exact Nat.le_of_ble_eq_true rfl) (by rw [hG.ms]; exact Nat.le_of_ble_eq_true rfl) ?_
        exact fin_i (by simp [s_has, h13, h21, h29]) hk
set_option maxHeartbeats 400000 in
set_option maxRecDepth 100000 in
theorem c_X2_meets : CtrA yX2_meets cX2_meets 4 (some .boolean) (rmk 0 0 0 0) (fun Γ av w post _ => ∃ a t tr fr to dy hh wk st m1 m2 ov ot p q, av = [.ref a, .int ot, .int p, .int q] ∧ w a = some (t, oP tr fr to dy hh wk st m1 m2 ov) ∧ post (some (.int (s_meets tr fr to ot p q))) w) := by
  refine ctr_of (by decide) ?_
  rintro g av w hG hO ⟨a, t, tr, fr, to, dy, hh, wk, st, m1, m2, ov, ot, p, q, rfl, ha, hk⟩
  refine ⟨Nat.le_of_ble_eq_true rfl, ?_⟩
  show X g w 0 0 0 [some (.ref a), some (.int ot), some (.int p), some (.int q)] []
  refine x_aload_n hG (pc := 0) 0 dX2_meets_0 rfl rfl ?_
  refine x_getf hG (pc := 1) fl_X2_32 (by first | assumption | exact hR.main) rfl dX2_meets_1 ?_
  refine x_iload_n hG (pc := 4) 1 dX2_meets_4 rfl rfl ?_
  refine x_icmp_ne hG (pc := 5) 28 dX2_meets_5 (by decide) (fun h5 => ?_) (fun h5 => ?_)
  · refine x_iconst hG (pc := 28) 0 dX2_meets_28 (by decide) ?_
    refine x_ireturn hG (pc := 29) dX2_meets_29 rfl rfl (by rw [hG.mc]; exact Nat.le_of_ble_eq_true rfl) (by rw [hG.ms]; exact Nat.le_of_ble_eq_true rfl) ?_
    exact fin_i (by simp [s_meets, h5]) hk
  · refine x_aload_n hG (pc := 8) 0 dX2_meets_8 rfl rfl ?_
    refine x_getf hG (pc := 9) fl_X2_35 (by first | assumption | exact hR.main) rfl dX2_meets_9 ?_
    refine x_iload_n hG (pc := 12) 3 dX2_meets_12 rfl rfl ?_
    refine x_icmp_gt hG (pc := 13) 28 dX2_meets_13 (by decide) (fun h13 => ?_) (fun h13 => ?_)
    · refine x_iconst hG (pc := 28) 0 dX2_meets_28 (by decide) ?_
      refine x_ireturn hG (pc := 29) dX2_meets_29 rfl rfl (by rw [hG.mc]; exact Nat.le_of_ble_eq_true rfl) (by rw [hG.ms]; exact Nat.le_of_ble_eq_true rfl) ?_
      exact fin_i (by simp [s_meets, h5, h13]) hk
    · refine x_iload_n hG (pc := 16) 2 dX2_meets_16 rfl rfl ?_
      refine x_aload_n hG (pc := 17) 0 dX2_meets_17 rfl rfl ?_
      refine x_getf hG (pc := 18) fl_X2_38 (by first | assumption | exact hR.main) rfl dX2_meets_18 ?_
      refine x_icmp_gt hG (pc := 21) 28 dX2_meets_21 (by decide) (fun h21 => ?_) (fun h21 => ?_)
      · refine x_iconst hG (pc := 28) 0 dX2_meets_28 (by decide) ?_
        refine x_ireturn hG (pc := 29) dX2_meets_29 rfl rfl (by rw [hG.mc]; exact Nat.le_of_ble_eq_true rfl) (by rw [hG.ms]; exact Nat.le_of_ble_eq_true rfl) ?_
        exact fin_i (by simp [s_meets, h5, h13, h21]) hk
      · refine x_iconst hG (pc := 24) 1 dX2_meets_24 (by decide) ?_
        refine x_goto hG (pc := 25) 29 dX2_meets_25 (by decide) ?_
        refine x_ireturn hG (pc := 29) dX2_meets_29 rfl rfl (by rw [hG.mc]; exact Nat.le_of_ble_eq_true rfl) (by rw [hG.ms]; exact Nat.le_of_ble_eq_true rfl) ?_
        exact fin_i (by simp [s_meets, h5, h13, h21]) hk
set_option maxHeartbeats 400000 in
set_option maxRecDepth 100000 in
theorem c_X2_isComingOrTaken : CtrA yX2_isComingOrTaken cX2_isComingOrTaken 1 (some .boolean) (rmk 0 0 0 0) (fun Γ av w post _ => ∃ a t tr fr to dy hh wk st m1 m2 ov, av = [.ref a] ∧ w a = some (t, oP tr fr to dy hh wk st m1 m2 ov) ∧ post (some (.int (s_cot st))) w) := by
  refine ctr_of (by decide) ?_
  rintro g av w hG hO ⟨a, t, tr, fr, to, dy, hh, wk, st, m1, m2, ov, rfl, ha, hk⟩
  refine ⟨Nat.le_of_ble_eq_true rfl, ?_⟩
  show X g w 0 0 0 [some (.ref a)] []
  refine x_aload_n hG (pc := 0) 0 dX2_isComingOrTaken_0 rfl rfl ?_
  refine x_getf hG (pc := 1) fl_X2_18 (by first | assumption | exact hR.main) rfl dX2_isComingOrTaken_1 ?_
  refine x_if_eq hG (pc := 4) 15 dX2_isComingOrTaken_4 (by decide) (fun h4 => ?_) (fun h4 => ?_)
  · refine x_iconst hG (pc := 15) 1 dX2_isComingOrTaken_15 (by decide) ?_
    refine x_goto hG (pc := 16) 20 dX2_isComingOrTaken_16 (by decide) ?_
    refine x_ireturn hG (pc := 20) dX2_isComingOrTaken_20 rfl rfl (by rw [hG.mc]; exact Nat.le_of_ble_eq_true rfl) (by rw [hG.ms]; exact Nat.le_of_ble_eq_true rfl) ?_
    exact fin_i (by simp [s_cot, h4]) hk
  · refine x_aload_n hG (pc := 7) 0 dX2_isComingOrTaken_7 rfl rfl ?_
    refine x_getf hG (pc := 8) fl_X2_18 (by first | assumption | exact hR.main) rfl dX2_isComingOrTaken_8 ?_
    refine x_iconst hG (pc := 11) 1 dX2_isComingOrTaken_11 (by decide) ?_
    refine x_icmp_ne hG (pc := 12) 19 dX2_isComingOrTaken_12 (by decide) (fun h12 => ?_) (fun h12 => ?_)
    · refine x_iconst hG (pc := 19) 0 dX2_isComingOrTaken_19 (by decide) ?_
      refine x_ireturn hG (pc := 20) dX2_isComingOrTaken_20 rfl rfl (by rw [hG.mc]; exact Nat.le_of_ble_eq_true rfl) (by rw [hG.ms]; exact Nat.le_of_ble_eq_true rfl) ?_
      exact fin_i (by simp [s_cot, h4, h12]) hk
    · refine x_iconst hG (pc := 15) 1 dX2_isComingOrTaken_15 (by decide) ?_
      refine x_goto hG (pc := 16) 20 dX2_isComingOrTaken_16 (by decide) ?_
      refine x_ireturn hG (pc := 20) dX2_isComingOrTaken_20 rfl rfl (by rw [hG.mc]; exact Nat.le_of_ble_eq_true rfl) (by rw [hG.ms]; exact Nat.le_of_ble_eq_true rfl) ?_
      exact fin_i (by simp [s_cot, h4, h12]) hk
set_option maxHeartbeats 400000 in
set_option maxRecDepth 100000 in
theorem c_X2_isMarked : CtrA yX2_isMarked cX2_isMarked 2 (some .boolean) (rmk 0 0 0 0) (fun Γ av w post _ => ∃ a t tr fr to dy hh wk st m1 m2 ov e, av = [.ref a, .int e] ∧ w a = some (t, oP tr fr to dy hh wk st m1 m2 ov) ∧ (m1 = 0 ∨ m1 = 1) ∧ (m2 = 0 ∨ m2 = 1) ∧ post (some (.int (if e = 0 then m1 else m2))) w) := by
  refine ctr_of (by decide) ?_
  rintro g av w hG hO ⟨a, t, tr, fr, to, dy, hh, wk, st, m1, m2, ov, e, rfl, ha, hm1, hm2, hk⟩
  refine ⟨Nat.le_of_ble_eq_true rfl, ?_⟩
  show X g w 0 0 0 [some (.ref a), some (.int e)] []
  refine x_iload_n hG (pc := 0) 1 dX2_isMarked_0 rfl rfl ?_
  refine x_if_ne hG (pc := 1) 11 dX2_isMarked_1 (by decide) (fun h1 => ?_) (fun h1 => ?_)
  · refine x_aload_n hG (pc := 11) 0 dX2_isMarked_11 rfl rfl ?_
    refine x_getf hG (pc := 12) fl_X2_26 (by first | assumption | exact hR.main) rfl dX2_isMarked_12 ?_
    refine x_ireturn hG (pc := 15) dX2_isMarked_15 rfl (nb01 hm2) (by rw [hG.mc]; exact Nat.le_of_ble_eq_true rfl) (by rw [hG.ms]; exact Nat.le_of_ble_eq_true rfl) ?_
    exact fin_i (by simp [h1]) hk
  · refine x_aload_n hG (pc := 4) 0 dX2_isMarked_4 rfl rfl ?_
    refine x_getf hG (pc := 5) fl_X2_22 (by first | assumption | exact hR.main) rfl dX2_isMarked_5 ?_
    refine x_goto hG (pc := 8) 15 dX2_isMarked_8 (by decide) ?_
    refine x_ireturn hG (pc := 15) dX2_isMarked_15 rfl (nb01 hm1) (by rw [hG.mc]; exact Nat.le_of_ble_eq_true rfl) (by rw [hG.ms]; exact Nat.le_of_ble_eq_true rfl) ?_
    exact fin_i (by simp [h1]) hk
set_option maxHeartbeats 400000 in
set_option maxRecDepth 100000 in
theorem c_X2_marks : CtrA yX2_marks cX2_marks 1 (some .int) (rmk 0 0 0 0) (fun Γ av w post _ => ∃ a t tr fr to dy hh wk st m1 m2 ov, av = [.ref a] ∧ w a = some (t, oP tr fr to dy hh wk st m1 m2 ov) ∧ post (some (.int ((if m1 = 0 then 0 else 1) + (if m2 = 0 then 0 else 1)))) w) := by
  refine ctr_of (by decide) ?_
  rintro g av w hG hO ⟨a, t, tr, fr, to, dy, hh, wk, st, m1, m2, ov, rfl, ha, hk⟩
  refine ⟨Nat.le_of_ble_eq_true rfl, ?_⟩
  show X g w 0 0 0 [some (.ref a)] []
  refine x_aload_n hG (pc := 0) 0 dX2_marks_0 rfl rfl ?_
  refine x_getf hG (pc := 1) fl_X2_22 (by first | assumption | exact hR.main) rfl dX2_marks_1 ?_
  refine x_if_eq hG (pc := 4) 11 dX2_marks_4 (by decide) (fun h4 => ?_) (fun h4 => ?_)
  · refine x_iconst hG (pc := 11) 0 dX2_marks_11 (by decide) ?_
    refine x_aload_n hG (pc := 12) 0 dX2_marks_12 rfl rfl ?_
    refine x_getf hG (pc := 13) fl_X2_26 (by first | assumption | exact hR.main) rfl dX2_marks_13 ?_
    refine x_if_eq hG (pc := 16) 23 dX2_marks_16 (by decide) (fun h16 => ?_) (fun h16 => ?_)
    · refine x_iconst hG (pc := 23) 0 dX2_marks_23 (by decide) ?_
      refine x_iadd hG (pc := 24) dX2_marks_24 ?_
      refine x_ireturn hG (pc := 25) dX2_marks_25 rfl rfl (by rw [hG.mc]; exact Nat.le_of_ble_eq_true rfl) (by rw [hG.ms]; exact Nat.le_of_ble_eq_true rfl) ?_
      exact fin_i (by simp [h4, h16]) hk
    · refine x_iconst hG (pc := 19) 1 dX2_marks_19 (by decide) ?_
      refine x_goto hG (pc := 20) 24 dX2_marks_20 (by decide) ?_
      refine x_iadd hG (pc := 24) dX2_marks_24 ?_
      refine x_ireturn hG (pc := 25) dX2_marks_25 rfl rfl (by rw [hG.mc]; exact Nat.le_of_ble_eq_true rfl) (by rw [hG.ms]; exact Nat.le_of_ble_eq_true rfl) ?_
      exact fin_i (by simp [h4, h16]) hk
  · refine x_iconst hG (pc := 7) 1 dX2_marks_7 (by decide) ?_
    refine x_goto hG (pc := 8) 12 dX2_marks_8 (by decide) ?_
    refine x_aload_n hG (pc := 12) 0 dX2_marks_12 rfl rfl ?_
    refine x_getf hG (pc := 13) fl_X2_26 (by first | assumption | exact hR.main) rfl dX2_marks_13 ?_
    refine x_if_eq hG (pc := 16) 23 dX2_marks_16 (by decide) (fun h16 => ?_) (fun h16 => ?_)
    · refine x_iconst hG (pc := 23) 0 dX2_marks_23 (by decide) ?_
      refine x_iadd hG (pc := 24) dX2_marks_24 ?_
      refine x_ireturn hG (pc := 25) dX2_marks_25 rfl rfl (by rw [hG.mc]; exact Nat.le_of_ble_eq_true rfl) (by rw [hG.ms]; exact Nat.le_of_ble_eq_true rfl) ?_
      exact fin_i (by simp [h4, h16]) hk
    · refine x_iconst hG (pc := 19) 1 dX2_marks_19 (by decide) ?_
      refine x_goto hG (pc := 20) 24 dX2_marks_20 (by decide) ?_
      refine x_iadd hG (pc := 24) dX2_marks_24 ?_
      refine x_ireturn hG (pc := 25) dX2_marks_25 rfl rfl (by rw [hG.mc]; exact Nat.le_of_ble_eq_true rfl) (by rw [hG.ms]; exact Nat.le_of_ble_eq_true rfl) ?_
      exact fin_i (by simp [h4, h16]) hk
set_option maxHeartbeats 400000 in
set_option maxRecDepth 100000 in
theorem c_X2_putMark : CtrA yX2_putMark cX2_putMark 2 none (rmk 0 0 0 0) (fun Γ av w post _ => ∃ a t tr fr to dy hh wk st m1 m2 ov e, av = [.ref a, .int e] ∧ w a = some (t, oP tr fr to dy hh wk st m1 m2 ov) ∧ post none (wup w a (t, oP tr fr to dy hh wk st (if e = 0 then 1 else m1) (if e = 0 then m2 else 1) ov))) := by
  refine ctr_of (by decide) ?_
  rintro g av w hG hO ⟨a, t, tr, fr, to, dy, hh, wk, st, m1, m2, ov, e, rfl, ha, hk⟩
  refine ⟨Nat.le_of_ble_eq_true rfl, ?_⟩
  show X g w 0 0 0 [some (.ref a), some (.int e)] []
  refine x_iload_n hG (pc := 0) 1 dX2_putMark_0 rfl rfl ?_
  refine x_if_ne hG (pc := 1) 12 dX2_putMark_1 (by decide) (fun h1 => ?_) (fun h1 => ?_)
  · refine x_aload_n hG (pc := 12) 0 dX2_putMark_12 rfl rfl ?_
    refine x_iconst hG (pc := 13) 1 dX2_putMark_13 (by decide) ?_
    refine x_putf hG (pc := 14) fl_X2_26 fw_4 ft_4_8 (by first | assumption | exact hR.main) (Nat.le_of_ble_eq_true rfl) rfl rfl (by dsimp only [List.set]) dX2_putMark_14 ?_
    refine x_return hG (pc := 17) dX2_putMark_17 rfl (by rw [hG.mc]; exact Nat.le_of_ble_eq_true rfl) (by rw [hG.ms]; exact Nat.le_of_ble_eq_true rfl) ?_
    simp only [h1, ↓reduceIte] at hk
    exact hk
  · refine x_aload_n hG (pc := 4) 0 dX2_putMark_4 rfl rfl ?_
    refine x_iconst hG (pc := 5) 1 dX2_putMark_5 (by decide) ?_
    refine x_putf hG (pc := 6) fl_X2_22 fw_4 ft_4_7 (by first | assumption | exact hR.main) (Nat.le_of_ble_eq_true rfl) rfl rfl (by dsimp only [List.set]) dX2_putMark_6 ?_
    refine x_goto hG (pc := 9) 17 dX2_putMark_9 (by decide) ?_
    refine x_return hG (pc := 17) dX2_putMark_17 rfl (by rw [hG.mc]; exact Nat.le_of_ble_eq_true rfl) (by rw [hG.ms]; exact Nat.le_of_ble_eq_true rfl) ?_
    simp only [h1, ↓reduceIte] at hk
    exact hk
set_option maxHeartbeats 400000 in
set_option maxRecDepth 100000 in
theorem c_X2_init : CtrA yX2_init cX2_init 6 none (rmk 4 1 3 80) (fun Γ av w post _ => ∃ a t tr fr to dy hh tl, av = [.ref a, .int tr, .int fr, .int to, .int dy, .int hh] ∧ w a = some (t, .inr (4, [.int 0, .int 0, .int 0, .int 0, .int 0, .null, .int 0, .int 0, .int 0, .int 0])) ∧ ∀ q, w q = none → n0A Γ q → post none (wup (wup w q (tl, oL 0 Γ.2.2.2.1 0)) a (t, oP tr fr to dy hh q 0 0 0 0))) := by
  refine ctr_of (by decide) ?_
  rintro g av w hG hO ⟨a, t, tr, fr, to, dy, hh, tl, rfl, ha, hk⟩
  refine ⟨Nat.le_of_ble_eq_true rfl, ?_⟩
  show X g w 0 0 0 [some (.ref a), some (.int tr), some (.int fr), some (.int to), some (.int dy), some (.int hh)] []
  refine x_aload_n hG (pc := 0) 0 dX2_init_0 rfl rfl ?_
  refine x_objInit hG (pc := 1) oi_X2_3 oi_i oi_c dX2_init_1 (by decide) (Nat.le_of_ble_eq_true rfl) (Nat.le_of_ble_eq_true rfl) ?_
  refine x_aload_n hG (pc := 4) 0 dX2_init_4 rfl rfl ?_
  refine x_new hG (pc := 5) tl nw_X2_9 dX2_init_5 (by rw [hG.mc]; exact Nat.le_of_ble_eq_true rfl) (by rw [hG.ms]; exact Nat.le_of_ble_eq_true rfl) (fun q hfq hnq => ?_)
  refine x_gen (fun v1 z1 => ?_)
  have hq1 := (congrFun z1 q).trans wup_s
  have hb1 := (congrFun z1 a).trans (wup_f hfq ha)
  refine x_dup hG (pc := 8) dX2_init_8 rfl ?_
  refine x_callI hG hO (pc := 9) [] c_Jx4a65c_init_da8c8 lk_X2_11 rfl rfl ⟨by decide, by decide⟩ (Nat.le_of_ble_eq_true rfl) (by rw [hG.mc]; exact Nat.le_of_ble_eq_true rfl) (by rw [hG.ms]; exact Nat.le_of_ble_eq_true rfl) dX2_init_9 ?_
  refine ⟨q, tl, _, rfl, hq1, ?_⟩
  refine x_gen (fun v2 z2 => ?_)
  have hb2 := (congrFun z2 a).trans (wup_e hq1 hb1 (by intro q; cases q))
  refine x_putfF hG (pc := 12) flp_X2_12 fw_4 ft_4_5 hb2 (Nat.le_of_ble_eq_true rfl) rfl rfl (by dsimp only [List.set]) dX2_init_12 rfl ?_
  refine x_gen (fun w1 e1 => ?_)
  have ha1 := (congrFun e1 a).trans wup_s
  refine x_aload_n hG (pc := 15) 0 dX2_init_15 rfl rfl ?_
  refine x_iconst hG (pc := 16) 0 dX2_init_16 (by decide) ?_
  refine x_putf hG (pc := 17) fl_X2_18 fw_4 ft_4_6 ha1 (Nat.le_of_ble_eq_true rfl) rfl rfl (by dsimp only [List.set]) dX2_init_17 ?_
  refine x_gen (fun w2 e2 => ?_)
  have ha2 := (congrFun e2 a).trans wup_s
  refine x_aload_n hG (pc := 20) 0 dX2_init_20 rfl rfl ?_
  refine x_iconst hG (pc := 21) 0 dX2_init_21 (by decide) ?_
  refine x_putf hG (pc := 22) fl_X2_22 fw_4 ft_4_7 ha2 (Nat.le_of_ble_eq_true rfl) rfl rfl (by dsimp only [List.set]) dX2_init_22 ?_
  refine x_gen (fun w3 e3 => ?_)
  have ha3 := (congrFun e3 a).trans wup_s
  refine x_aload_n hG (pc := 25) 0 dX2_init_25 rfl rfl ?_
  refine x_iconst hG (pc := 26) 0 dX2_init_26 (by decide) ?_
  refine x_putf hG (pc := 27) fl_X2_26 fw_4 ft_4_8 ha3 (Nat.le_of_ble_eq_true rfl) rfl rfl (by dsimp only [List.set]) dX2_init_27 ?_
  refine x_gen (fun w4 e4 => ?_)
  have ha4 := (congrFun e4 a).trans wup_s
  refine x_aload_n hG (pc := 30) 0 dX2_init_30 rfl rfl ?_
  refine x_iconst hG (pc := 31) 0 dX2_init_31 (by decide) ?_
  refine x_putf hG (pc := 32) fl_X2_29 fw_4 ft_4_9 ha4 (Nat.le_of_ble_eq_true rfl) rfl rfl (by dsimp only [List.set]) dX2_init_32 ?_
  refine x_gen (fun w5 e5 => ?_)
  have ha5 := (congrFun e5 a).trans wup_s
  refine x_aload_n hG (pc := 35) 0 dX2_init_35 rfl rfl ?_
  refine x_iload_n hG (pc := 36) 1 dX2_init_36 rfl rfl ?_
  refine x_putfF hG (pc := 37) flp_X2_32 fw_4 ft_4_0 ha5 (Nat.le_of_ble_eq_true rfl) rfl rfl (by dsimp only [List.set]) dX2_init_37 rfl ?_
  refine x_gen (fun w6 e6 => ?_)
  have ha6 := (congrFun e6 a).trans wup_s
  refine x_aload_n hG (pc := 40) 0 dX2_init_40 rfl rfl ?_
  refine x_iload_n hG (pc := 41) 2 dX2_init_41 rfl rfl ?_
  refine x_putfF hG (pc := 42) flp_X2_35 fw_4 ft_4_1 ha6 (Nat.le_of_ble_eq_true rfl) rfl rfl (by dsimp only [List.set]) dX2_init_42 rfl ?_
  refine x_gen (fun w7 e7 => ?_)
  have ha7 := (congrFun e7 a).trans wup_s
  refine x_aload_n hG (pc := 45) 0 dX2_init_45 rfl rfl ?_
  refine x_iload_n hG (pc := 46) 3 dX2_init_46 rfl rfl ?_
  refine x_putfF hG (pc := 47) flp_X2_38 fw_4 ft_4_2 ha7 (Nat.le_of_ble_eq_true rfl) rfl rfl (by dsimp only [List.set]) dX2_init_47 rfl ?_
  refine x_gen (fun w8 e8 => ?_)
  have ha8 := (congrFun e8 a).trans wup_s
  refine x_aload_n hG (pc := 50) 0 dX2_init_50 rfl rfl ?_
  refine x_iload hG (pc := 51) dX2_init_51 rfl ?_
  refine x_putfF hG (pc := 53) flp_X2_41 fw_4 ft_4_3 ha8 (Nat.le_of_ble_eq_true rfl) rfl rfl (by dsimp only [List.set]) dX2_init_53 rfl ?_
  refine x_gen (fun w9 e9 => ?_)
  have ha9 := (congrFun e9 a).trans wup_s
  refine x_aload_n hG (pc := 56) 0 dX2_init_56 rfl rfl ?_
  refine x_iload hG (pc := 57) dX2_init_57 rfl ?_
  refine x_putfF hG (pc := 59) flp_X2_44 fw_4 ft_4_4 ha9 (Nat.le_of_ble_eq_true rfl) rfl rfl (by dsimp only [List.set]) dX2_init_59 rfl ?_
  refine x_gen (fun w10 e10 => ?_)
  have ha10 := (congrFun e10 a).trans wup_s
  refine x_return hG (pc := 62) dX2_init_62 rfl (by rw [hG.mc]; exact Nat.le_of_ble_eq_true rfl) (by rw [hG.ms]; exact Nat.le_of_ble_eq_true rfl) ?_
  subst e10 e9 e8 e7 e6 e5 e4 e3 e2 e1 z2 z1
  simp only [wup_w]
  exact hk q hfq hnq
set_option maxHeartbeats 400000 in
set_option maxRecDepth 100000 in
theorem c_X2_uses : CtrA yX2_uses cX2_uses 3 (some .boolean) (rmk 3 0 0 64) (fun Γ av w post _ => ∃ a t tr fr to dy hh wk st m1 m2 ov tool tk te e cap md n, ∃ (el sa ma : Nat → Nat) (hr : Nat → Int32), av = [.ref a, .ref tool] ∧ w a = some (t, oP tr fr to dy hh wk st m1 m2 ov) ∧ AL Γ w wk tk te e cap md n el ∧ WK w n el sa ma hr ∧ post (some (.int (uses n ma tool))) w) := by
  refine ctr_of (by decide) ?_
  rintro g av w hG hO ⟨a, t, tr, fr, to, dy, hh, wk, st, m1, m2, ov, tool, tk, te, e, cap, md, n, el, sa, ma, hr, rfl, ha, hA, hW, hk⟩
  refine ⟨Nat.le_of_ble_eq_true rfl, ?_⟩
  show X g w 0 0 0 [some (.ref a), some (.ref tool), none] []
  have hl := hA.1
  have hn : n ≤ 30 := by
    rcases hA.2 with h | h <;> omega
  refine x_iconst hG (pc := 0) 0 dX2_uses_0 (by decide) ?_
  refine x_istore_n hG (pc := 1) 2 dX2_uses_1 rfl (Nat.le_of_ble_eq_true rfl) rfl (by dsimp only [List.set]) ?_
  refine nat_down (P := fun i => (∀ j, j < i → ¬ ma j = tool) → X g w 0 0 2 [some (.ref a), some (.ref tool), some (.int (nI i))] []) n (fun i hi ih hI => ?_) 0 (Nat.zero_le _) (fun j h => absurd h (Nat.not_lt_zero _))
  refine x_iload_n hG (pc := 2) 2 dX2_uses_2 rfl rfl ?_
  refine x_aload_n hG (pc := 3) 0 dX2_uses_3 rfl rfl ?_
  refine x_getf hG (pc := 4) fl_X2_12 (by first | assumption | exact hR.main) rfl dX2_uses_4 ?_
  refine x_callV hG hO (pc := 7) [] c_Jx4a65c_size_8abf5 lk_X2_47 hl rfl rfl ⟨by decide, by decide⟩ (Nat.le_of_ble_eq_true rfl) (by rw [hG.mc]; exact Nat.le_of_ble_eq_true rfl) (by rw [hG.ms]; exact Nat.le_of_ble_eq_true rfl) dX2_uses_7 ?_
  refine ⟨wk, tk, md, e, n, rfl, hl, ?_⟩
  refine x_icmp_ge hG (pc := 10) 39 dX2_uses_10 (by decide) (fun h10 => ?_) (fun h10 => ?_)
  · have hin : i = n := by
      rcases Nat.lt_or_ge i n with q | q
      · exact absurd h10 (nI_ge q (by omega))
      · omega
    refine x_iconst hG (pc := 39) 0 dX2_uses_39 (by decide) ?_
    refine x_ireturn hG (pc := 40) dX2_uses_40 rfl rfl (by rw [hG.mc]; exact Nat.le_of_ble_eq_true rfl) (by rw [hG.ms]; exact Nat.le_of_ble_eq_true rfl) ?_
    exact fin_i (uses_f (by rw [← hin]; exact hI)).symm hk
  · have hin : i < n := by
      rcases Nat.lt_or_ge i n with q | q
      · exact q
      · exact absurd (nI_le q (by omega)) h10
    refine x_aload_n hG (pc := 13) 0 dX2_uses_13 rfl rfl ?_
    refine x_getf hG (pc := 14) fl_X2_12 (by first | assumption | exact hR.main) rfl dX2_uses_14 ?_
    refine x_iload_n hG (pc := 17) 2 dX2_uses_17 rfl rfl ?_
    refine x_callV hG hO (pc := 18) [_] c_Jx4a65c_get_915e3 lk_X2_51 hl rfl rfl ⟨by decide, by decide⟩ (Nat.le_of_ble_eq_true rfl) (by rw [hG.mc]; exact Nat.le_of_ble_eq_true rfl) (by rw [hG.ms]; exact Nat.le_of_ble_eq_true rfl) dX2_uses_18 ?_
    refine ⟨wk, tk, te, e, cap, md, n, el, i, rfl, hA, hin, ?_⟩
    obtain ⟨tw, hw⟩ := hW i hin
    refine x_castC hG (pc := 21) ck_X2_55 hw dX2_uses_21 ?_
    refine x_getf hG (pc := 24) fl_X2_57 hw rfl dX2_uses_24 ?_
    refine x_aload_n hG (pc := 27) 1 dX2_uses_27 rfl rfl ?_
    refine x_acmp_ne hG (pc := 28) (rx := some _) (ry := some _) 33 dX2_uses_28 (by decide) (fun h28 => ?_) (fun h28 => ?_)
    · refine x_iinc hG (pc := 33) (nI (i + 1)) dX2_uses_33 rfl (Nat.le_of_ble_eq_true rfl) rfl (nI_1' i) (by dsimp only [List.set]) ?_
      refine x_goto hG (pc := 36) 2 dX2_uses_36 (by decide) ?_
      exact ih (i + 1) (by omega) (by omega) (fun j hj => by
        rcases Nat.lt_or_ge j i with q | q
        · exact hI j q
        · rw [show j = i by omega]
          exact rf_ne h28)
    · refine x_iconst hG (pc := 31) 1 dX2_uses_31 (by decide) ?_
      refine x_ireturn hG (pc := 32) dX2_uses_32 rfl rfl (by rw [hG.mc]; exact Nat.le_of_ble_eq_true rfl) (by rw [hG.ms]; exact Nat.le_of_ble_eq_true rfl) ?_
      exact fin_i (uses_t hin (Option.some.inj h28)).symm hk
set_option maxHeartbeats 400000 in
set_option maxRecDepth 100000 in
theorem c_X2_hoursPlanned : CtrA yX2_hoursPlanned cX2_hoursPlanned 3 (some .int) (rmk 3 0 0 64) (fun Γ av w post _ => ∃ a t tr fr to dy hh wk st m1 m2 ov tk te e cap md n, ∃ (el sa ma : Nat → Nat) (hr : Nat → Int32), av = [.ref a] ∧ w a = some (t, oP tr fr to dy hh wk st m1 m2 ov) ∧ AL Γ w wk tk te e cap md n el ∧ WK w n el sa ma hr ∧ post (some (.int (hsum hr n))) w) := by
  refine ctr_of (by decide) ?_
  rintro g av w hG hO ⟨a, t, tr, fr, to, dy, hh, wk, st, m1, m2, ov, tk, te, e, cap, md, n, el, sa, ma, hr, rfl, ha, hA, hW, hk⟩
  refine ⟨Nat.le_of_ble_eq_true rfl, ?_⟩
  show X g w 0 0 0 [some (.ref a), none, none] []
  have hl := hA.1
  have hn : n ≤ 30 := by
    rcases hA.2 with h | h <;> omega
  refine x_iconst hG (pc := 0) 0 dX2_hoursPlanned_0 (by decide) ?_
  refine x_istore_n hG (pc := 1) 1 dX2_hoursPlanned_1 rfl (Nat.le_of_ble_eq_true rfl) rfl (by dsimp only [List.set]) ?_
  refine x_iconst hG (pc := 2) 0 dX2_hoursPlanned_2 (by decide) ?_
  refine x_istore_n hG (pc := 3) 2 dX2_hoursPlanned_3 rfl (Nat.le_of_ble_eq_true rfl) rfl (by dsimp only [List.set]) ?_
  refine nat_down (P := fun i => X g w 0 0 4 [some (.ref a), some (.int (hsum hr i)), some (.int (nI i))] []) n (fun i hi ih => ?_) 0 (Nat.zero_le _)
  refine x_iload_n hG (pc := 4) 2 dX2_hoursPlanned_4 rfl rfl ?_
  refine x_aload_n hG (pc := 5) 0 dX2_hoursPlanned_5 rfl rfl ?_
  refine x_getf hG (pc := 6) fl_X2_12 (by first | assumption | exact hR.main) rfl dX2_hoursPlanned_6 ?_
  refine x_callV hG hO (pc := 9) [] c_Jx4a65c_size_8abf5 lk_X2_47 hl rfl rfl ⟨by decide, by decide⟩ (Nat.le_of_ble_eq_true rfl) (by rw [hG.mc]; exact Nat.le_of_ble_eq_true rfl) (by rw [hG.ms]; exact Nat.le_of_ble_eq_true rfl) dX2_hoursPlanned_9 ?_
  refine ⟨wk, tk, md, e, n, rfl, hl, ?_⟩
  refine x_icmp_ge hG (pc := 12) 38 dX2_hoursPlanned_12 (by decide) (fun h12 => ?_) (fun h12 => ?_)
  · have hin : i = n := by
      rcases Nat.lt_or_ge i n with q | q
      · exact absurd h12 (nI_ge q (by omega))
      · omega
    refine x_iload_n hG (pc := 38) 1 dX2_hoursPlanned_38 rfl rfl ?_
    refine x_ireturn hG (pc := 39) dX2_hoursPlanned_39 rfl rfl (by rw [hG.mc]; exact Nat.le_of_ble_eq_true rfl) (by rw [hG.ms]; exact Nat.le_of_ble_eq_true rfl) ?_
    rw [hin]
    exact hk
  · have hin : i < n := by
      rcases Nat.lt_or_ge i n with q | q
      · exact q
      · exact absurd (nI_le q (by omega)) h12
    refine x_iload_n hG (pc := 15) 1 dX2_hoursPlanned_15 rfl rfl ?_
    refine x_aload_n hG (pc := 16) 0 dX2_hoursPlanned_16 rfl rfl ?_
    refine x_getf hG (pc := 17) fl_X2_12 (by first | assumption | exact hR.main) rfl dX2_hoursPlanned_17 ?_
    refine x_iload_n hG (pc := 20) 2 dX2_hoursPlanned_20 rfl rfl ?_
    refine x_callV hG hO (pc := 21) [_] c_Jx4a65c_get_915e3 lk_X2_51 hl rfl rfl ⟨by decide, by decide⟩ (Nat.le_of_ble_eq_true rfl) (by rw [hG.mc]; exact Nat.le_of_ble_eq_true rfl) (by rw [hG.ms]; exact Nat.le_of_ble_eq_true rfl) dX2_hoursPlanned_21 ?_
    refine ⟨wk, tk, te, e, cap, md, n, el, i, rfl, hA, hin, ?_⟩
    obtain ⟨tw, hw⟩ := hW i hin
    refine x_castC hG (pc := 24) ck_X2_55 hw dX2_hoursPlanned_24 ?_
    refine x_getf hG (pc := 27) fl_X2_61 hw rfl dX2_hoursPlanned_27 ?_
    refine x_iadd hG (pc := 30) dX2_hoursPlanned_30 ?_
    refine x_istore_n hG (pc := 31) 1 dX2_hoursPlanned_31 rfl (Nat.le_of_ble_eq_true rfl) rfl (by dsimp only [List.set]) ?_
    refine x_iinc hG (pc := 32) (nI (i + 1)) dX2_hoursPlanned_32 rfl (Nat.le_of_ble_eq_true rfl) rfl (nI_1' i) (by dsimp only [List.set]) ?_
    refine x_goto hG (pc := 35) 4 dX2_hoursPlanned_35 (by decide) ?_
    exact ih (i + 1) (by omega) (by omega)
set_option maxHeartbeats 400000 in
set_option maxRecDepth 100000 in
theorem c_X2_hoursTakenBy : CtrA yX2_hoursTakenBy cX2_hoursTakenBy 7 (some .int) (rmk 3 0 0 64) (fun Γ av w post _ => ∃ a t tr fr to dy hh wk st m1 m2 ov tool tm k0 l0 d0 f0 tk te e cap md n, ∃ (el sa ma : Nat → Nat) (hr : Nat → Int32), av = [.ref a, .ref tool] ∧ w a = some (t, oP tr fr to dy hh wk st m1 m2 ov) ∧ w tool = some (tm, oM k0 l0 d0 f0) ∧ AL Γ w wk tk te e cap md n el ∧ WK w n el sa ma hr ∧ post (some (.int (htS ma hr tool l0 n).2)) w) := by
  refine ctr_of (by decide) ?_
  rintro g av w hG hO ⟨a, t, tr, fr, to, dy, hh, wk, st, m1, m2, ov, tool, tm, k0, l0, d0, f0, tk, te, e, cap, md, n, el, sa, ma, hr, rfl, ha, hm, hA, hW, hk⟩
  refine ⟨Nat.le_of_ble_eq_true rfl, ?_⟩
  show X g w 0 0 0 [some (.ref a), some (.ref tool), none, none, none, none, none] []
  have hl := hA.1
  have hn : n ≤ 30 := by
    rcases hA.2 with h | h <;> omega
  refine x_aload_n hG (pc := 0) 1 dX2_hoursTakenBy_0 rfl rfl ?_
  refine x_getf hG (pc := 1) fl_X2_62 hm rfl dX2_hoursTakenBy_1 ?_
  refine x_istore_n hG (pc := 4) 2 dX2_hoursTakenBy_4 rfl (Nat.le_of_ble_eq_true rfl) rfl (by dsimp only [List.set]) ?_
  refine x_iconst hG (pc := 5) 0 dX2_hoursTakenBy_5 (by decide) ?_
  refine x_istore_n hG (pc := 6) 3 dX2_hoursTakenBy_6 rfl (Nat.le_of_ble_eq_true rfl) rfl (by dsimp only [List.set]) ?_
  refine x_iconst hG (pc := 7) 0 dX2_hoursTakenBy_7 (by decide) ?_
  refine x_istore hG (pc := 8) dX2_hoursTakenBy_8 (Nat.le_of_ble_eq_true rfl) rfl (by dsimp only [List.set]) ?_
  refine nat_down (P := fun i => ∀ z5 z6 : Option Value, X g w 0 0 10 [some (.ref a), some (.ref tool), some (.int (htS ma hr tool l0 i).1), some (.int (htS ma hr tool l0 i).2), some (.int (nI i)), z5, z6] []) n (fun i hi ih z5 z6 => ?_) 0 (Nat.zero_le _) none none
  refine x_iload hG (pc := 10) dX2_hoursTakenBy_10 rfl ?_
  refine x_aload_n hG (pc := 12) 0 dX2_hoursTakenBy_12 rfl rfl ?_
  refine x_getf hG (pc := 13) fl_X2_12 (by first | assumption | exact hR.main) rfl dX2_hoursTakenBy_13 ?_
  refine x_callV hG hO (pc := 16) [] c_Jx4a65c_size_8abf5 lk_X2_47 hl rfl rfl ⟨by decide, by decide⟩ (Nat.le_of_ble_eq_true rfl) (by rw [hG.mc]; exact Nat.le_of_ble_eq_true rfl) (by rw [hG.ms]; exact Nat.le_of_ble_eq_true rfl) dX2_hoursTakenBy_16 ?_
  refine ⟨wk, tk, md, e, n, rfl, hl, ?_⟩
  refine x_icmp_ge hG (pc := 19) 107 dX2_hoursTakenBy_19 (by decide) (fun h19 => ?_) (fun h19 => ?_)
  · have hin : i = n := by
      rcases Nat.lt_or_ge i n with q | q
      · exact absurd h19 (nI_ge q (by omega))
      · omega
    refine x_iload_n hG (pc := 107) 3 dX2_hoursTakenBy_107 rfl rfl ?_
    refine x_ireturn hG (pc := 108) dX2_hoursTakenBy_108 rfl rfl (by rw [hG.mc]; exact Nat.le_of_ble_eq_true rfl) (by rw [hG.ms]; exact Nat.le_of_ble_eq_true rfl) ?_
    rw [hin]
    exact hk
  · have hin : i < n := by
      rcases Nat.lt_or_ge i n with q | q
      · exact q
      · exact absurd (nI_le q (by omega)) h19
    refine x_aload_n hG (pc := 22) 0 dX2_hoursTakenBy_22 rfl rfl ?_
    refine x_getf hG (pc := 23) fl_X2_12 (by first | assumption | exact hR.main) rfl dX2_hoursTakenBy_23 ?_
    refine x_iload hG (pc := 26) dX2_hoursTakenBy_26 rfl ?_
    refine x_callV hG hO (pc := 28) [_] c_Jx4a65c_get_915e3 lk_X2_51 hl rfl rfl ⟨by decide, by decide⟩ (Nat.le_of_ble_eq_true rfl) (by rw [hG.mc]; exact Nat.le_of_ble_eq_true rfl) (by rw [hG.ms]; exact Nat.le_of_ble_eq_true rfl) dX2_hoursTakenBy_28 ?_
    refine ⟨wk, tk, te, e, cap, md, n, el, i, rfl, hA, hin, ?_⟩
    obtain ⟨tw, hw⟩ := hW i hin
    refine x_castC hG (pc := 31) ck_X2_55 hw dX2_hoursTakenBy_31 ?_
    refine x_astore hG (pc := 34) dX2_hoursTakenBy_34 (Nat.le_of_ble_eq_true rfl) rfl (by dsimp only [List.set]) ?_
    refine x_aload hG (pc := 36) dX2_hoursTakenBy_36 rfl ?_
    refine x_getf hG (pc := 38) fl_X2_57 hw rfl dX2_hoursTakenBy_38 ?_
    refine x_aload_n hG (pc := 41) 1 dX2_hoursTakenBy_41 rfl rfl ?_
    refine x_acmp_ne hG (pc := 42) (rx := some _) (ry := some _) 101 dX2_hoursTakenBy_42 (by decide) (fun h42 => ?_) (fun h42 => ?_)
    · have k42 := rf_ne h42
      refine x_iinc hG (pc := 101) (nI (i + 1)) dX2_hoursTakenBy_101 rfl (Nat.le_of_ble_eq_true rfl) rfl (nI_1' i) (by dsimp only [List.set]) ?_
      refine x_goto hG (pc := 104) 10 dX2_hoursTakenBy_104 (by decide) ?_
      have hh := ih (i + 1) (by omega) (by omega)
      simp only [htS, k42, h19, h42, ↓reduceIte] at hh
      exact hh _ _
    · have k42 := Option.some.inj h42
      refine x_iload_n hG (pc := 45) 2 dX2_hoursTakenBy_45 rfl rfl ?_
      refine x_aload hG (pc := 46) dX2_hoursTakenBy_46 rfl ?_
      refine x_getf hG (pc := 48) fl_X2_61 hw rfl dX2_hoursTakenBy_48 ?_
      refine x_icmp_ge hG (pc := 51) 58 dX2_hoursTakenBy_51 (by decide) (fun h51 => ?_) (fun h51 => ?_)
      · refine x_iconst hG (pc := 58) 0 dX2_hoursTakenBy_58 (by decide) ?_
        refine x_istore hG (pc := 59) dX2_hoursTakenBy_59 (Nat.le_of_ble_eq_true rfl) rfl (by dsimp only [List.set]) ?_
        refine x_iload hG (pc := 61) dX2_hoursTakenBy_61 rfl ?_
        refine x_if_eq hG (pc := 63) 70 dX2_hoursTakenBy_63 (by decide) (fun h63 => ?_) (fun h63 => ?_)
        · refine x_iload_n hG (pc := 70) 2 dX2_hoursTakenBy_70 rfl rfl ?_
          refine x_aload hG (pc := 71) dX2_hoursTakenBy_71 rfl ?_
          refine x_getf hG (pc := 73) fl_X2_61 hw rfl dX2_hoursTakenBy_73 ?_
          refine x_isub hG (pc := 76) dX2_hoursTakenBy_76 ?_
          refine x_istore_n hG (pc := 77) 2 dX2_hoursTakenBy_77 rfl (Nat.le_of_ble_eq_true rfl) rfl (by dsimp only [List.set]) ?_
          refine x_iload_n hG (pc := 78) 3 dX2_hoursTakenBy_78 rfl rfl ?_
          refine x_iload hG (pc := 79) dX2_hoursTakenBy_79 rfl ?_
          refine x_if_eq hG (pc := 81) 94 dX2_hoursTakenBy_81 (by decide) (fun h81 => ?_) (fun h81 => ?_)
          · refine x_aload hG (pc := 94) dX2_hoursTakenBy_94 rfl ?_
            refine x_getf hG (pc := 96) fl_X2_61 hw rfl dX2_hoursTakenBy_96 ?_
            refine x_iadd hG (pc := 99) dX2_hoursTakenBy_99 ?_
            refine x_istore_n hG (pc := 100) 3 dX2_hoursTakenBy_100 rfl (Nat.le_of_ble_eq_true rfl) rfl (by dsimp only [List.set]) ?_
            refine x_iinc hG (pc := 101) (nI (i + 1)) dX2_hoursTakenBy_101 rfl (Nat.le_of_ble_eq_true rfl) rfl (nI_1' i) (by dsimp only [List.set]) ?_
            refine x_goto hG (pc := 104) 10 dX2_hoursTakenBy_104 (by decide) ?_
            have hh := ih (i + 1) (by omega) (by omega)
            simp only [htS, k42, h19, h42, h51, h63, h81, ↓reduceIte] at hh
            exact hh _ _
          · exact absurd rfl h81
        · exact absurd rfl h63
      · refine x_iconst hG (pc := 54) 1 dX2_hoursTakenBy_54 (by decide) ?_
        refine x_goto hG (pc := 55) 59 dX2_hoursTakenBy_55 (by decide) ?_
        refine x_istore hG (pc := 59) dX2_hoursTakenBy_59 (Nat.le_of_ble_eq_true rfl) rfl (by dsimp only [List.set]) ?_
        refine x_iload hG (pc := 61) dX2_hoursTakenBy_61 rfl ?_
        refine x_if_eq hG (pc := 63) 70 dX2_hoursTakenBy_63 (by decide) (fun h63 => ?_) (fun h63 => ?_)
        · exact absurd h63 (by decide)
        · refine x_iconst hG (pc := 66) 0 dX2_hoursTakenBy_66 (by decide) ?_
          refine x_goto hG (pc := 67) 77 dX2_hoursTakenBy_67 (by decide) ?_
          refine x_istore_n hG (pc := 77) 2 dX2_hoursTakenBy_77 rfl (Nat.le_of_ble_eq_true rfl) rfl (by dsimp only [List.set]) ?_
          refine x_iload_n hG (pc := 78) 3 dX2_hoursTakenBy_78 rfl rfl ?_
          refine x_iload hG (pc := 79) dX2_hoursTakenBy_79 rfl ?_
          refine x_if_eq hG (pc := 81) 94 dX2_hoursTakenBy_81 (by decide) (fun h81 => ?_) (fun h81 => ?_)
          · exact absurd h81 (by decide)
          · refine x_aload hG (pc := 84) dX2_hoursTakenBy_84 rfl ?_
            refine x_getf hG (pc := 86) fl_X2_61 hw rfl dX2_hoursTakenBy_86 ?_
            refine x_iconst hG (pc := 89) 2 dX2_hoursTakenBy_89 (by decide) ?_
            refine x_iadd hG (pc := 90) dX2_hoursTakenBy_90 ?_
            refine x_goto hG (pc := 91) 99 dX2_hoursTakenBy_91 (by decide) ?_
            refine x_iadd hG (pc := 99) dX2_hoursTakenBy_99 ?_
            refine x_istore_n hG (pc := 100) 3 dX2_hoursTakenBy_100 rfl (Nat.le_of_ble_eq_true rfl) rfl (by dsimp only [List.set]) ?_
            refine x_iinc hG (pc := 101) (nI (i + 1)) dX2_hoursTakenBy_101 rfl (Nat.le_of_ble_eq_true rfl) rfl (nI_1' i) (by dsimp only [List.set]) ?_
            refine x_goto hG (pc := 104) 10 dX2_hoursTakenBy_104 (by decide) ?_
            have hh := ih (i + 1) (by omega) (by omega)
            simp only [htS, k42, h19, h42, h51, h63, h81, ↓reduceIte] at hh
            exact hh _ _
set_option maxHeartbeats 400000 in
set_option maxRecDepth 100000 in
theorem c_X3_become : CtrA yX3_become cX3_become 2 none (rmk 0 0 0 0) (fun Γ av w post _ => ∃ a ta v tv p f c s x y z b tb u tu p2 f2 c2 s2 x2 y2 z2, av = [.ref a, .ref b] ∧ w a = some (ta, oS v p f c s) ∧ w v = some (tv, oV x y z) ∧ w b = some (tb, oS u p2 f2 c2 s2) ∧ w u = some (tu, oV x2 y2 z2) ∧ tb ≠ ta ∧ tu ≠ tv ∧ (c2 = 0 ∨ c2 = 1) ∧ post none (wup (wup w v (tv, oV x2 y2 z2)) a (ta, oS v p2 f2 c2 s2))) := by
  refine ctr_of (by decide) ?_
  rintro g av w hG hO ⟨a, ta, v, tv, p, f, c, s, x, y, z, b, tb, u, tu, p2, f2, c2, s2, x2, y2, z2, rfl, ha, hv, hb, hu, nb, nu, hc2, hk⟩
  refine ⟨Nat.le_of_ble_eq_true rfl, ?_⟩
  show X g w 0 0 0 [some (.ref a), some (.ref b)] []
  refine x_aload_n hG (pc := 0) 0 dX3_become_0 rfl rfl ?_
  refine x_getf hG (pc := 1) fl_X3_14 (by first | assumption | exact hR.main) rfl dX3_become_1 ?_
  refine x_aload_n hG (pc := 4) 1 dX3_become_4 rfl rfl ?_
  refine x_getf hG (pc := 5) fl_X3_14 (by first | assumption | exact hR.main) rfl dX3_become_5 ?_
  refine x_getf hG (pc := 8) fl_X3_34 (by first | assumption | exact hR.main) rfl dX3_become_8 ?_
  refine x_putf hG (pc := 11) fl_X3_34 fw_6 ft_6_0 (by first | assumption | exact hR.main) (Nat.le_of_ble_eq_true rfl) rfl rfl (by dsimp only [List.set]) dX3_become_11 ?_
  refine x_gen (fun w1 e1 => ?_)
  have hv1 := (congrFun e1 v).trans wup_s
  have ha1 := (congrFun e1 a).trans (wup_e hv ha (by intro q; cases q))
  have hb1 := (congrFun e1 b).trans (wup_e hv hb (by intro q; cases q))
  have hu1 := (congrFun e1 u).trans (wup_t hv hu nu)
  refine x_aload_n hG (pc := 14) 0 dX3_become_14 rfl rfl ?_
  refine x_getf hG (pc := 15) fl_X3_14 (by first | assumption | exact hR.main) rfl dX3_become_15 ?_
  refine x_aload_n hG (pc := 18) 1 dX3_become_18 rfl rfl ?_
  refine x_getf hG (pc := 19) fl_X3_14 (by first | assumption | exact hR.main) rfl dX3_become_19 ?_
  refine x_getf hG (pc := 22) fl_X3_37 (by first | assumption | exact hR.main) rfl dX3_become_22 ?_
  refine x_putf hG (pc := 25) fl_X3_37 fw_6 ft_6_1 (by first | assumption | exact hR.main) (Nat.le_of_ble_eq_true rfl) rfl rfl (by dsimp only [List.set]) dX3_become_25 ?_
  refine x_gen (fun w2 e2 => ?_)
  have hv2 := (congrFun e2 v).trans wup_s
  have ha2 := (congrFun e2 a).trans (wup_e hv1 ha1 (by intro q; cases q))
  have hb2 := (congrFun e2 b).trans (wup_e hv1 hb1 (by intro q; cases q))
  have hu2 := (congrFun e2 u).trans (wup_t hv1 hu1 nu)
  refine x_aload_n hG (pc := 28) 0 dX3_become_28 rfl rfl ?_
  refine x_getf hG (pc := 29) fl_X3_14 (by first | assumption | exact hR.main) rfl dX3_become_29 ?_
  refine x_aload_n hG (pc := 32) 1 dX3_become_32 rfl rfl ?_
  refine x_getf hG (pc := 33) fl_X3_14 (by first | assumption | exact hR.main) rfl dX3_become_33 ?_
  refine x_getf hG (pc := 36) fl_X3_40 (by first | assumption | exact hR.main) rfl dX3_become_36 ?_
  refine x_putf hG (pc := 39) fl_X3_40 fw_6 ft_6_2 (by first | assumption | exact hR.main) (Nat.le_of_ble_eq_true rfl) rfl rfl (by dsimp only [List.set]) dX3_become_39 ?_
  refine x_gen (fun w3 e3 => ?_)
  have hv3 := (congrFun e3 v).trans wup_s
  have ha3 := (congrFun e3 a).trans (wup_e hv2 ha2 (by intro q; cases q))
  have hb3 := (congrFun e3 b).trans (wup_e hv2 hb2 (by intro q; cases q))
  have hu3 := (congrFun e3 u).trans (wup_t hv2 hu2 nu)
  refine x_aload_n hG (pc := 42) 0 dX3_become_42 rfl rfl ?_
  refine x_aload_n hG (pc := 43) 1 dX3_become_43 rfl rfl ?_
  refine x_getf hG (pc := 44) fl_X3_20 (by first | assumption | exact hR.main) rfl dX3_become_44 ?_
  refine x_putf hG (pc := 47) fl_X3_20 fw_5 ft_5_1 (by first | assumption | exact hR.main) (Nat.le_of_ble_eq_true rfl) rfl rfl (by dsimp only [List.set]) dX3_become_47 ?_
  refine x_gen (fun w4 e4 => ?_)
  have ha4 := (congrFun e4 a).trans wup_s
  have hv4 := (congrFun e4 v).trans (wup_e ha3 hv3 (by intro q; cases q))
  have hb4 := (congrFun e4 b).trans (wup_t ha3 hb3 nb)
  have hu4 := (congrFun e4 u).trans (wup_e ha3 hu3 (by intro q; cases q))
  refine x_aload_n hG (pc := 50) 0 dX3_become_50 rfl rfl ?_
  refine x_aload_n hG (pc := 51) 1 dX3_become_51 rfl rfl ?_
  refine x_getf hG (pc := 52) fl_X3_24 (by first | assumption | exact hR.main) rfl dX3_become_52 ?_
  refine x_putf hG (pc := 55) fl_X3_24 fw_5 ft_5_2 (by first | assumption | exact hR.main) (Nat.le_of_ble_eq_true rfl) rfl rfl (by dsimp only [List.set]) dX3_become_55 ?_
  refine x_gen (fun w5 e5 => ?_)
  have ha5 := (congrFun e5 a).trans wup_s
  have hv5 := (congrFun e5 v).trans (wup_e ha4 hv4 (by intro q; cases q))
  have hb5 := (congrFun e5 b).trans (wup_t ha4 hb4 nb)
  have hu5 := (congrFun e5 u).trans (wup_e ha4 hu4 (by intro q; cases q))
  refine x_aload_n hG (pc := 58) 0 dX3_become_58 rfl rfl ?_
  refine x_aload_n hG (pc := 59) 1 dX3_become_59 rfl rfl ?_
  refine x_getf hG (pc := 60) fl_X3_27 (by first | assumption | exact hR.main) rfl dX3_become_60 ?_
  refine x_putf hG (pc := 63) fl_X3_27 fw_5 ft_5_3 (by first | assumption | exact hR.main) (Nat.le_of_ble_eq_true rfl) (nb01 hc2) (fb01 hc2) (by dsimp only [List.set]) dX3_become_63 ?_
  refine x_gen (fun w6 e6 => ?_)
  have ha6 := (congrFun e6 a).trans wup_s
  have hv6 := (congrFun e6 v).trans (wup_e ha5 hv5 (by intro q; cases q))
  have hb6 := (congrFun e6 b).trans (wup_t ha5 hb5 nb)
  have hu6 := (congrFun e6 u).trans (wup_e ha5 hu5 (by intro q; cases q))
  refine x_aload_n hG (pc := 66) 0 dX3_become_66 rfl rfl ?_
  refine x_aload_n hG (pc := 67) 1 dX3_become_67 rfl rfl ?_
  refine x_getf hG (pc := 68) fl_X3_31 (by first | assumption | exact hR.main) rfl dX3_become_68 ?_
  refine x_putf hG (pc := 71) fl_X3_31 fw_5 ft_5_4 (by first | assumption | exact hR.main) (Nat.le_of_ble_eq_true rfl) rfl rfl (by dsimp only [List.set]) dX3_become_71 ?_
  refine x_gen (fun w7 e7 => ?_)
  have ha7 := (congrFun e7 a).trans wup_s
  have hv7 := (congrFun e7 v).trans (wup_e ha6 hv6 (by intro q; cases q))
  have hb7 := (congrFun e7 b).trans (wup_t ha6 hb6 nb)
  have hu7 := (congrFun e7 u).trans (wup_e ha6 hu6 (by intro q; cases q))
  refine x_return hG (pc := 74) dX3_become_74 rfl (by rw [hG.mc]; exact Nat.le_of_ble_eq_true rfl) (by rw [hG.ms]; exact Nat.le_of_ble_eq_true rfl) ?_
  subst e7 e6 e5 e4 e3 e2 e1
  simp only [wup_w]
  exact hk
