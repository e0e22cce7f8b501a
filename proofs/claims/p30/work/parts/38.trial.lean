/-! TrackNights: what would be, on the trial section -/
theorem tg_ne {a b c d : Nat} (h : b ≠ c) : ((a, b, d) : Tg) ≠ (a, c, d) := fun q => h (congrArg (fun z : Tg => z.2.1) q)
theorem ck_n3 {S : St} {i : Nat} {k t : Int32} {n : Nat} (h : k = 3) : cRow S i k = sS S i := if_pos h
theorem ck_n {S : St} {i : Nat} {k : Int32} (h : ¬ k = 3) : cRow S i k = trt (sS S i) k (gl S 1) := if_neg h
theorem agn5 {f : Nat → Int32} {t : Int32} : ∀ j, agn f t j 5 = f 5
  | 0 => rfl
  | j + 1 => agn5 j
set_option maxHeartbeats 400000 in
set_option maxRecDepth 100000 in
theorem c_X6_costBehind : CtrA yX6_costBehind cX6_costBehind 7 (some .int) (rmk 3 0 0 76) (fun Γ av w post xpost => ∃ (L : LayC) (S : St), ∃ i kd t dn, av = [.ref (thC L), .ref (L.1 (3, i, 0)), .int kd, .int t, .int (nI dn)] ∧ RepC Γ L S w ∧ i < 20 ∧ dn ≤ 200 ∧ (sS S i 5 = 0 ∨ sS S i 5 = 1) ∧ (∀ f w1, RepC Γ (L.1, L.2.1, L.2.2.1, f) S w1 → FrM w w1 → post (some (.int (cBeh S i kd t dn))) w1)) := by
  refine ctr_of (by decide) ?_
  rintro g av w hG hO ⟨L, S, i, kd, t, dn, rfl, hR, hi, hd, h5, hk⟩
  refine ⟨Nat.le_of_ble_eq_true rfl, ?_⟩
  show X g w 0 0 0 [some (.ref (thC L)), some (.ref (L.1 (3, i, 0))), some (.int kd), some (.int t), some (.int (nI dn)), none, none] []
  refine x_aload_n hG (pc := 0) 0 dX6_costBehind_0 rfl rfl ?_
  refine x_getf hG (pc := 1) fl_X6_38 hR.main rfl dX6_costBehind_1 ?_
  refine x_aload_n hG (pc := 4) 1 dX6_costBehind_4 rfl rfl ?_
  refine x_callV hG hO (pc := 5) [_] c_X3_become lk_X6_346 hR.tri rfl rfl ⟨by decide, by decide⟩ (Nat.le_of_ble_eq_true rfl) (by rw [hG.mc]; exact Nat.le_of_ble_eq_true rfl) (by rw [hG.ms]; exact Nat.le_of_ble_eq_true rfl) dX6_costBehind_5 ?_
  refine ⟨_, _, _, _, _, _, _, _, _, _, _, _, _, _, _, _, _, _, _, _, _, _, rfl, hR.tri, hR.triv, hR.sec hi, hR.val hi, tg_ne (by omega), tg_ne (by omega), h5, ?_⟩
  refine x_gen (fun w1 e1 => ?_)
  obtain ⟨hR1, hF1⟩ := hR.uT (f := sS S i) e1
  refine x_iconst hG (pc := 8) 0 dX6_costBehind_8 (by decide) ?_
  refine x_istore hG (pc := 9) dX6_costBehind_9 (Nat.le_of_ble_eq_true rfl) rfl (by dsimp only [List.set]) ?_
  refine x_iload_n hG (pc := 11) 2 dX6_costBehind_11 rfl rfl ?_
  refine x_iconst hG (pc := 12) 3 dX6_costBehind_12 (by decide) ?_
  refine x_icmp_eq hG (pc := 13) 38 dX6_costBehind_13 (by decide) (fun h13 => ?_) (fun h13 => ?_)
  · refine x_iload_n hG (pc := 38) 2 dX6_costBehind_38 rfl rfl ?_
    refine x_iconst hG (pc := 39) 2 dX6_costBehind_39 (by decide) ?_
    refine x_icmp_ne hG (pc := 40) 49 dX6_costBehind_40 (by decide) (fun h40 => ?_) (fun h40 => ?_)
    · have hx : ∃ w5, w5 = w1 ∧ RepC (gΓ g) (L.1, L.2.1, L.2.2.1, cRow S i kd) S w5 ∧ FrM w w5 := ⟨_, rfl, (by rw [cRow, if_pos h13]; exact hR1), hF1⟩
      obtain ⟨w5, e5, hR5, hF5⟩ := hx
      rw [← e5]
      have hc : (if kd = 3 then 0 else if kd = 2 then 30 * s_hours kd (sS S i 5) + 300 else 30 * s_hours kd (sS S i 5)) = 0 := if_pos h13
      refine x_iconst hG (pc := 49) 0 dX6_costBehind_49 (by decide) ?_
      refine x_istore hG (pc := 50) dX6_costBehind_50 (Nat.le_of_ble_eq_true rfl) rfl (by dsimp only [List.set]) ?_
      refine nat_down (P := fun j => ∀ w6, RepC (gΓ g) (L.1, L.2.1, L.2.2.1, agn (cRow S i kd) t j) S w6 → FrM w w6 → X g w6 0 0 52 [some (.ref (thC L)), some (.ref (L.1 (3, i, 0))), some (.int kd), some (.int t), some (.int (nI dn)), some (.int (csum (cRow S i kd) t (gl S 1) 0 j)), some (.int (nI j))] []) dn (fun j hj0 ih w6 hR6 hF6 => ?_) 0 (Nat.zero_le _) w5 hR5 hF5
      refine x_iload hG (pc := 52) dX6_costBehind_52 rfl ?_
      refine x_iload hG (pc := 54) dX6_costBehind_54 rfl ?_
      refine x_icmp_ge hG (pc := 56) 93 dX6_costBehind_56 (by decide) (fun h56 => ?_) (fun h56 => ?_)
      · have hje : j = dn := by
          rcases Nat.lt_or_ge j dn with q | q
          · exact absurd h56 (nI_ge q (by omega))
          · omega
        refine x_iload hG (pc := 93) dX6_costBehind_93 rfl ?_
        refine x_ireturn hG (pc := 95) dX6_costBehind_95 rfl rfl (by rw [hG.mc]; exact Nat.le_of_ble_eq_true rfl) (by rw [hG.ms]; exact Nat.le_of_ble_eq_true rfl) ?_
        subst hje
        unfold cBeh at hk
        rw [hc] at hk
        exact hk _ _ hR6 hF6
      · have hj : j < dn := by
          rcases Nat.lt_or_ge j dn with q | q
          · exact q
          · exact absurd (nI_le q (by omega)) h56
        refine x_aload_n hG (pc := 59) 0 dX6_costBehind_59 rfl rfl ?_
        refine x_getf hG (pc := 60) fl_X6_38 hR6.main rfl dX6_costBehind_60 ?_
        refine x_iload_n hG (pc := 63) 3 dX6_costBehind_63 rfl rfl ?_
        refine x_callV hG hO (pc := 64) [_] c_X3_bearDay lk_X6_353 hR6.tri rfl rfl ⟨by decide, by decide⟩ (Nat.le_of_ble_eq_true rfl) (by rw [hG.mc]; exact Nat.le_of_ble_eq_true rfl) (by rw [hG.ms]; exact Nat.le_of_ble_eq_true rfl) dX6_costBehind_64 ?_
        refine ⟨_, _, _, _, _, _, _, _, _, _, _, t, rfl, hR6.tri, hR6.triv, ?_⟩
        refine x_gen (fun w7 e7 => ?_)
        obtain ⟨hR7, hF7⟩ := hR6.uTv (f := agn (cRow S i kd) t (j + 1)) e7 rfl rfl rfl rfl
        refine x_iload hG (pc := 67) dX6_costBehind_67 rfl ?_
        refine x_iload_n hG (pc := 69) 3 dX6_costBehind_69 rfl rfl ?_
        refine x_aload_n hG (pc := 70) 0 dX6_costBehind_70 rfl rfl ?_
        refine x_getf hG (pc := 71) fl_X6_38 hR7.main rfl dX6_costBehind_71 ?_
        refine x_aload_n hG (pc := 74) 0 dX6_costBehind_74 rfl rfl ?_
        refine x_getf hG (pc := 75) fl_X6_46 hR7.main rfl dX6_costBehind_75 ?_
        refine x_callV hG hO (pc := 78) [_] c_X3_trueSpeed lk_X6_289 hR7.tri rfl rfl ⟨by decide, by decide⟩ (Nat.le_of_ble_eq_true rfl) (by rw [hG.mc]; exact Nat.le_of_ble_eq_true rfl) (by rw [hG.ms]; exact Nat.le_of_ble_eq_true rfl) dX6_costBehind_78 ?_
        refine ⟨_, _, _, _, _, _, _, _, _, _, _, _, rfl, hR7.tri, hR7.triv, ?_⟩
        refine x_callS hG hO (pc := 81) [_, _] c_X6_delayCost lk_X6_433 rfl rfl ⟨by decide, by decide⟩ (Nat.le_of_ble_eq_true rfl) (by rw [hG.mc]; exact Nat.le_of_ble_eq_true rfl) (by rw [hG.ms]; exact Nat.le_of_ble_eq_true rfl) dX6_costBehind_81 ?_
        refine ⟨t, _, rfl, ?_⟩
        refine x_iadd hG (pc := 84) dX6_costBehind_84 ?_
        refine x_istore hG (pc := 85) dX6_costBehind_85 (Nat.le_of_ble_eq_true rfl) rfl (by dsimp only [List.set]) ?_
        refine x_iinc hG (pc := 87) (nI (j + 1)) dX6_costBehind_87 rfl (Nat.le_of_ble_eq_true rfl) rfl (nI_1' j) (by dsimp only [List.set]) ?_
        refine x_goto hG (pc := 90) 52 dX6_costBehind_90 (by decide) ?_
        exact ih (j + 1) (by omega) (by omega) w7 hR7 (hF6.tr hF7)
    · exact absurd (h13.symm.trans h40) (by decide)
  · refine x_aload_n hG (pc := 16) 0 dX6_costBehind_16 rfl rfl ?_
    refine x_getf hG (pc := 17) fl_X6_38 hR1.main rfl dX6_costBehind_17 ?_
    refine x_iload_n hG (pc := 20) 2 dX6_costBehind_20 rfl rfl ?_
    refine x_aload_n hG (pc := 21) 0 dX6_costBehind_21 rfl rfl ?_
    refine x_getf hG (pc := 22) fl_X6_46 hR1.main rfl dX6_costBehind_22 ?_
    refine x_callV hG hO (pc := 25) [_, _] c_X3_treat lk_X6_460 hR1.tri rfl rfl ⟨by decide, by decide⟩ (Nat.le_of_ble_eq_true rfl) (by rw [hG.mc]; exact Nat.le_of_ble_eq_true rfl) (by rw [hG.ms]; exact Nat.le_of_ble_eq_true rfl) dX6_costBehind_25 ?_
    refine ⟨_, _, _, _, _, _, _, _, _, _, _, _, _, rfl, hR1.tri, hR1.triv, ?_⟩
    refine x_gen (fun w2 e2 => ?_)
    obtain ⟨hR2, hF2⟩ := hR1.uT (f := trt (sS S i) kd (gl S 1)) e2
    refine x_bipush hG (pc := 28) 30 dX6_costBehind_28 (by decide) ?_
    refine x_aload_n hG (pc := 30) 1 dX6_costBehind_30 rfl rfl ?_
    refine x_iload_n hG (pc := 31) 2 dX6_costBehind_31 rfl rfl ?_
    refine x_callV hG hO (pc := 32) [_] c_X3_hoursFor lk_X6_204 (hR2.sec hi) rfl rfl ⟨by decide, by decide⟩ (Nat.le_of_ble_eq_true rfl) (by rw [hG.mc]; exact Nat.le_of_ble_eq_true rfl) (by rw [hG.ms]; exact Nat.le_of_ble_eq_true rfl) dX6_costBehind_32 ?_
    refine ⟨_, _, _, _, _, _, _, _, rfl, hR2.sec hi, ?_⟩
    refine x_imul hG (pc := 35) dX6_costBehind_35 ?_
    refine x_istore hG (pc := 36) dX6_costBehind_36 (Nat.le_of_ble_eq_true rfl) rfl (by dsimp only [List.set]) ?_
    refine x_iload_n hG (pc := 38) 2 dX6_costBehind_38 rfl rfl ?_
    refine x_iconst hG (pc := 39) 2 dX6_costBehind_39 (by decide) ?_
    refine x_icmp_ne hG (pc := 40) 49 dX6_costBehind_40 (by decide) (fun h40 => ?_) (fun h40 => ?_)
    · have hx : ∃ w5, w5 = w2 ∧ RepC (gΓ g) (L.1, L.2.1, L.2.2.1, cRow S i kd) S w5 ∧ FrM w w5 := ⟨_, rfl, (by rw [ck_n h13]; exact hR2), hF1.tr hF2⟩
      obtain ⟨w5, e5, hR5, hF5⟩ := hx
      rw [← e5]
      have hc : (if kd = 3 then 0 else if kd = 2 then 30 * s_hours kd (sS S i 5) + 300 else 30 * s_hours kd (sS S i 5)) = 30 * s_hours kd (sS S i 5) := by rw [if_neg h13, if_neg h40]
      refine x_iconst hG (pc := 49) 0 dX6_costBehind_49 (by decide) ?_
      refine x_istore hG (pc := 50) dX6_costBehind_50 (Nat.le_of_ble_eq_true rfl) rfl (by dsimp only [List.set]) ?_
      refine nat_down (P := fun j => ∀ w6, RepC (gΓ g) (L.1, L.2.1, L.2.2.1, agn (cRow S i kd) t j) S w6 → FrM w w6 → X g w6 0 0 52 [some (.ref (thC L)), some (.ref (L.1 (3, i, 0))), some (.int kd), some (.int t), some (.int (nI dn)), some (.int (csum (cRow S i kd) t (gl S 1) (30 * s_hours kd (sS S i 5)) j)), some (.int (nI j))] []) dn (fun j hj0 ih w6 hR6 hF6 => ?_) 0 (Nat.zero_le _) w5 hR5 hF5
      refine x_iload hG (pc := 52) dX6_costBehind_52 rfl ?_
      refine x_iload hG (pc := 54) dX6_costBehind_54 rfl ?_
      refine x_icmp_ge hG (pc := 56) 93 dX6_costBehind_56 (by decide) (fun h56 => ?_) (fun h56 => ?_)
      · have hje : j = dn := by
          rcases Nat.lt_or_ge j dn with q | q
          · exact absurd h56 (nI_ge q (by omega))
          · omega
        refine x_iload hG (pc := 93) dX6_costBehind_93 rfl ?_
        refine x_ireturn hG (pc := 95) dX6_costBehind_95 rfl rfl (by rw [hG.mc]; exact Nat.le_of_ble_eq_true rfl) (by rw [hG.ms]; exact Nat.le_of_ble_eq_true rfl) ?_
        subst hje
        unfold cBeh at hk
        rw [hc] at hk
        exact hk _ _ hR6 hF6
      · have hj : j < dn := by
          rcases Nat.lt_or_ge j dn with q | q
          · exact q
          · exact absurd (nI_le q (by omega)) h56
        refine x_aload_n hG (pc := 59) 0 dX6_costBehind_59 rfl rfl ?_
        refine x_getf hG (pc := 60) fl_X6_38 hR6.main rfl dX6_costBehind_60 ?_
        refine x_iload_n hG (pc := 63) 3 dX6_costBehind_63 rfl rfl ?_
        refine x_callV hG hO (pc := 64) [_] c_X3_bearDay lk_X6_353 hR6.tri rfl rfl ⟨by decide, by decide⟩ (Nat.le_of_ble_eq_true rfl) (by rw [hG.mc]; exact Nat.le_of_ble_eq_true rfl) (by rw [hG.ms]; exact Nat.le_of_ble_eq_true rfl) dX6_costBehind_64 ?_
        refine ⟨_, _, _, _, _, _, _, _, _, _, _, t, rfl, hR6.tri, hR6.triv, ?_⟩
        refine x_gen (fun w7 e7 => ?_)
        obtain ⟨hR7, hF7⟩ := hR6.uTv (f := agn (cRow S i kd) t (j + 1)) e7 rfl rfl rfl rfl
        refine x_iload hG (pc := 67) dX6_costBehind_67 rfl ?_
        refine x_iload_n hG (pc := 69) 3 dX6_costBehind_69 rfl rfl ?_
        refine x_aload_n hG (pc := 70) 0 dX6_costBehind_70 rfl rfl ?_
        refine x_getf hG (pc := 71) fl_X6_38 hR7.main rfl dX6_costBehind_71 ?_
        refine x_aload_n hG (pc := 74) 0 dX6_costBehind_74 rfl rfl ?_
        refine x_getf hG (pc := 75) fl_X6_46 hR7.main rfl dX6_costBehind_75 ?_
        refine x_callV hG hO (pc := 78) [_] c_X3_trueSpeed lk_X6_289 hR7.tri rfl rfl ⟨by decide, by decide⟩ (Nat.le_of_ble_eq_true rfl) (by rw [hG.mc]; exact Nat.le_of_ble_eq_true rfl) (by rw [hG.ms]; exact Nat.le_of_ble_eq_true rfl) dX6_costBehind_78 ?_
        refine ⟨_, _, _, _, _, _, _, _, _, _, _, _, rfl, hR7.tri, hR7.triv, ?_⟩
        refine x_callS hG hO (pc := 81) [_, _] c_X6_delayCost lk_X6_433 rfl rfl ⟨by decide, by decide⟩ (Nat.le_of_ble_eq_true rfl) (by rw [hG.mc]; exact Nat.le_of_ble_eq_true rfl) (by rw [hG.ms]; exact Nat.le_of_ble_eq_true rfl) dX6_costBehind_81 ?_
        refine ⟨t, _, rfl, ?_⟩
        refine x_iadd hG (pc := 84) dX6_costBehind_84 ?_
        refine x_istore hG (pc := 85) dX6_costBehind_85 (Nat.le_of_ble_eq_true rfl) rfl (by dsimp only [List.set]) ?_
        refine x_iinc hG (pc := 87) (nI (j + 1)) dX6_costBehind_87 rfl (Nat.le_of_ble_eq_true rfl) rfl (nI_1' j) (by dsimp only [List.set]) ?_
        refine x_goto hG (pc := 90) 52 dX6_costBehind_90 (by decide) ?_
        exact ih (j + 1) (by omega) (by omega) w7 hR7 (hF6.tr hF7)
    · refine x_iincW hG (pc := 43) _ dX6_costBehind_43 rfl (Nat.le_of_ble_eq_true rfl) rfl rfl (by dsimp only [List.set]) ?_
      have hx : ∃ w5, w5 = w2 ∧ RepC (gΓ g) (L.1, L.2.1, L.2.2.1, cRow S i kd) S w5 ∧ FrM w w5 := ⟨_, rfl, (by rw [ck_n h13]; exact hR2), hF1.tr hF2⟩
      obtain ⟨w5, e5, hR5, hF5⟩ := hx
      rw [← e5]
      have hc : (if kd = 3 then 0 else if kd = 2 then 30 * s_hours kd (sS S i 5) + 300 else 30 * s_hours kd (sS S i 5)) = 30 * s_hours kd (sS S i 5) + 300 := by rw [if_neg h13, if_pos h40]
      refine x_iconst hG (pc := 49) 0 dX6_costBehind_49 (by decide) ?_
      refine x_istore hG (pc := 50) dX6_costBehind_50 (Nat.le_of_ble_eq_true rfl) rfl (by dsimp only [List.set]) ?_
      refine nat_down (P := fun j => ∀ w6, RepC (gΓ g) (L.1, L.2.1, L.2.2.1, agn (cRow S i kd) t j) S w6 → FrM w w6 → X g w6 0 0 52 [some (.ref (thC L)), some (.ref (L.1 (3, i, 0))), some (.int kd), some (.int t), some (.int (nI dn)), some (.int (csum (cRow S i kd) t (gl S 1) (30 * s_hours kd (sS S i 5) + 300) j)), some (.int (nI j))] []) dn (fun j hj0 ih w6 hR6 hF6 => ?_) 0 (Nat.zero_le _) w5 hR5 hF5
      refine x_iload hG (pc := 52) dX6_costBehind_52 rfl ?_
      refine x_iload hG (pc := 54) dX6_costBehind_54 rfl ?_
      refine x_icmp_ge hG (pc := 56) 93 dX6_costBehind_56 (by decide) (fun h56 => ?_) (fun h56 => ?_)
      · have hje : j = dn := by
          rcases Nat.lt_or_ge j dn with q | q
          · exact absurd h56 (nI_ge q (by omega))
          · omega
        refine x_iload hG (pc := 93) dX6_costBehind_93 rfl ?_
        refine x_ireturn hG (pc := 95) dX6_costBehind_95 rfl rfl (by rw [hG.mc]; exact Nat.le_of_ble_eq_true rfl) (by rw [hG.ms]; exact Nat.le_of_ble_eq_true rfl) ?_
        subst hje
        unfold cBeh at hk
        rw [hc] at hk
        exact hk _ _ hR6 hF6
      · have hj : j < dn := by
          rcases Nat.lt_or_ge j dn with q | q
          · exact q
          · exact absurd (nI_le q (by omega)) h56
        refine x_aload_n hG (pc := 59) 0 dX6_costBehind_59 rfl rfl ?_
        refine x_getf hG (pc := 60) fl_X6_38 hR6.main rfl dX6_costBehind_60 ?_
        refine x_iload_n hG (pc := 63) 3 dX6_costBehind_63 rfl rfl ?_
        refine x_callV hG hO (pc := 64) [_] c_X3_bearDay lk_X6_353 hR6.tri rfl rfl ⟨by decide, by decide⟩ (Nat.le_of_ble_eq_true rfl) (by rw [hG.mc]; exact Nat.le_of_ble_eq_true rfl) (by rw [hG.ms]; exact Nat.le_of_ble_eq_true rfl) dX6_costBehind_64 ?_
        refine ⟨_, _, _, _, _, _, _, _, _, _, _, t, rfl, hR6.tri, hR6.triv, ?_⟩
        refine x_gen (fun w7 e7 => ?_)
        obtain ⟨hR7, hF7⟩ := hR6.uTv (f := agn (cRow S i kd) t (j + 1)) e7 rfl rfl rfl rfl
        refine x_iload hG (pc := 67) dX6_costBehind_67 rfl ?_
        refine x_iload_n hG (pc := 69) 3 dX6_costBehind_69 rfl rfl ?_
        refine x_aload_n hG (pc := 70) 0 dX6_costBehind_70 rfl rfl ?_
        refine x_getf hG (pc := 71) fl_X6_38 hR7.main rfl dX6_costBehind_71 ?_
        refine x_aload_n hG (pc := 74) 0 dX6_costBehind_74 rfl rfl ?_
        refine x_getf hG (pc := 75) fl_X6_46 hR7.main rfl dX6_costBehind_75 ?_
        refine x_callV hG hO (pc := 78) [_] c_X3_trueSpeed lk_X6_289 hR7.tri rfl rfl ⟨by decide, by decide⟩ (Nat.le_of_ble_eq_true rfl) (by rw [hG.mc]; exact Nat.le_of_ble_eq_true rfl) (by rw [hG.ms]; exact Nat.le_of_ble_eq_true rfl) dX6_costBehind_78 ?_
        refine ⟨_, _, _, _, _, _, _, _, _, _, _, _, rfl, hR7.tri, hR7.triv, ?_⟩
        refine x_callS hG hO (pc := 81) [_, _] c_X6_delayCost lk_X6_433 rfl rfl ⟨by decide, by decide⟩ (Nat.le_of_ble_eq_true rfl) (by rw [hG.mc]; exact Nat.le_of_ble_eq_true rfl) (by rw [hG.ms]; exact Nat.le_of_ble_eq_true rfl) dX6_costBehind_81 ?_
        refine ⟨t, _, rfl, ?_⟩
        refine x_iadd hG (pc := 84) dX6_costBehind_84 ?_
        refine x_istore hG (pc := 85) dX6_costBehind_85 (Nat.le_of_ble_eq_true rfl) rfl (by dsimp only [List.set]) ?_
        refine x_iinc hG (pc := 87) (nI (j + 1)) dX6_costBehind_87 rfl (Nat.le_of_ble_eq_true rfl) rfl (nI_1' j) (by dsimp only [List.set]) ?_
        refine x_goto hG (pc := 90) 52 dX6_costBehind_90 (by decide) ?_
        exact ih (j + 1) (by omega) (by omega) w7 hR7 (hF6.tr hF7)
