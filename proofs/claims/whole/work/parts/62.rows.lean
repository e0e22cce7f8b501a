/-! The reference: age, treat, hours, has, uses, took, lives -/
theorem age_c {f : Nat → Int32} {t x y z : Int32} (hx : x = bW (f 0) (f 5) t) (hy : y = bC (bW (f 0) (f 5) t) (f 1)) (hz : z = bS (f 2) t (f 3)) : rset (rset (rset f 0 x) 1 y) 2 z = age f t := by
  subst hx hy hz
  rfl
theorem bW_8 {x c t : Int32} (h : ¬ c = 1) (hc : c = 0 ∨ c = 1) : mn 100 (x + t / 8) = bW x c t := by
  unfold bW
  rw [if_pos (hc.resolve_right h)]
theorem bW_4 {x c t : Int32} (h : c = 1) : mn 100 (x + t / 4) = bW x c t := by
  subst h
  rfl
set_option maxHeartbeats 400000 in
set_option maxRecDepth 100000 in
theorem c_X7_age : CtrA yX7_age cX7_age 2 none (rmk 1 0 0 33) (fun Γ av w post _ => ∃ a t f u, av = [.ref a, .int u] ∧ w a = some (t, aI Γ.2.1 7 f) ∧ (f 5 = 0 ∨ f 5 = 1) ∧ 0 ≤ (f 1).toInt ∧ post none (wup w a (t, aI Γ.2.1 7 (age f u)))) := by
  refine ctr_of (by decide) ?_
  rintro g av w hG hO ⟨a, t, f, u, rfl, ha, h5, h1, hk⟩
  refine ⟨Nat.le_of_ble_eq_true rfl, ?_⟩
  show X g w 0 0 0 [some (.ref a), some (.int u)] []
  refine x_aload_n hG (pc := 0) 0 dX7_age_0 rfl rfl ?_
  refine x_iconst hG (pc := 1) 0 dX7_age_1 (by decide) ?_
  refine x_bipush hG (pc := 2) 100 dX7_age_2 (by decide) ?_
  refine x_aload_n hG (pc := 4) 0 dX7_age_4 rfl rfl ?_
  refine x_iconst hG (pc := 5) 0 dX7_age_5 (by decide) ?_
  refine x_ialdN hG (pc := 6) (c := 0) (by first | assumption | exact hR.main) (by decide) dX7_age_6 ?_
  refine x_iload_n hG (pc := 7) 1 dX7_age_7 rfl rfl ?_
  refine x_aload_n hG (pc := 8) 0 dX7_age_8 rfl rfl ?_
  refine x_iconst hG (pc := 9) 5 dX7_age_9 (by decide) ?_
  refine x_ialdN hG (pc := 10) (c := 5) (by first | assumption | exact hR.main) (by decide) dX7_age_10 ?_
  refine x_iconst hG (pc := 11) 1 dX7_age_11 (by decide) ?_
  refine x_icmp_ne hG (pc := 12) 19 dX7_age_12 (by decide) (fun h12 => ?_) (fun h12 => ?_)
  · refine x_bipush hG (pc := 19) 8 dX7_age_19 (by decide) ?_
    refine x_idiv hG (pc := 21) dX7_age_21 (by decide) ?_
    refine x_iadd hG (pc := 22) dX7_age_22 ?_
    refine x_mmin hG (pc := 23) lk_X7_38 dX7_age_23 (by decide) (Nat.le_of_ble_eq_true rfl) (by rw [hG.mc]; exact Nat.le_of_ble_eq_true rfl) (by rw [hG.ms]; exact Nat.le_of_ble_eq_true rfl) ?_
    rw [bW_8 h12 h5]
    refine x_iastN hG (pc := 26) (c := 0) (by first | assumption | exact hR.main) (by decide) dX7_age_26 ?_
    refine x_gen (fun w1 e1 => ?_)
    have ha1 := (congrFun e1 a).trans wup_s
    refine x_aload_n hG (pc := 27) 0 dX7_age_27 rfl rfl ?_
    refine x_iconst hG (pc := 28) 1 dX7_age_28 (by decide) ?_
    refine x_ialdN hG (pc := 29) (c := 1) ha1 (by decide) dX7_age_29 ?_
    refine x_if_le hG (pc := 30) 56 dX7_age_30 (by decide) (fun h30 => ?_) (fun h30 => ?_)
    · replace h30 : f 1 ≤ 0 := h30
      refine x_aload_n hG (pc := 56) 0 dX7_age_56 rfl rfl ?_
      refine x_iconst hG (pc := 57) 0 dX7_age_57 (by decide) ?_
      refine x_ialdN hG (pc := 58) (c := 0) ha1 (by decide) dX7_age_58 ?_
      refine x_bipush hG (pc := 59) 50 dX7_age_59 (by decide) ?_
      refine x_icmp_lt hG (pc := 61) 68 dX7_age_61 (by decide) (fun h61 => ?_) (fun h61 => ?_)
      · replace h61 : (bW (f 0) (f 5) u) < 50 := h61
        obtain ⟨w2, e2⟩ : ∃ w2, w2 = w1 := ⟨_, rfl⟩
        rw [← e2]
        have hz2 : w2 = wup w a (t, aI (gK g) 7 (rset (rset f 0 (bW (f 0) (f 5) u)) 1 (bC (bW (f 0) (f 5) u) (f 1)))) := by
          rw [e2, e1, rset_same (f := rset f 0 (bW (f 0) (f 5) u)) (i := 1) (x := bC (bW (f 0) (f 5) u) (f 1)) (show f 1 = _ from bC_0 h30 h1 h61)]
        have ha2 : w2 a = some (t, aI (gK g) 7 (rset (rset f 0 (bW (f 0) (f 5) u)) 1 (bC (bW (f 0) (f 5) u) (f 1)))) := (congrFun hz2 a).trans wup_s
        refine x_aload_n hG (pc := 68) 0 dX7_age_68 rfl rfl ?_
        refine x_iconst hG (pc := 69) 2 dX7_age_69 (by decide) ?_
        refine x_bipush hG (pc := 70) 60 dX7_age_70 (by decide) ?_
        refine x_aload_n hG (pc := 72) 0 dX7_age_72 rfl rfl ?_
        refine x_iconst hG (pc := 73) 2 dX7_age_73 (by decide) ?_
        refine x_ialdN hG (pc := 74) (c := 2) ha2 (by decide) dX7_age_74 ?_
        refine x_iload_n hG (pc := 75) 1 dX7_age_75 rfl rfl ?_
        refine x_iconst hG (pc := 76) 5 dX7_age_76 (by decide) ?_
        refine x_aload_n hG (pc := 77) 0 dX7_age_77 rfl rfl ?_
        refine x_iconst hG (pc := 78) 3 dX7_age_78 (by decide) ?_
        refine x_ialdN hG (pc := 79) (c := 3) ha2 (by decide) dX7_age_79 ?_
        refine x_imul hG (pc := 80) dX7_age_80 ?_
        refine x_iadd hG (pc := 81) dX7_age_81 ?_
        refine x_bipush hG (pc := 82) 10 dX7_age_82 (by decide) ?_
        refine x_idiv hG (pc := 84) dX7_age_84 (by decide) ?_
        refine x_iadd hG (pc := 85) dX7_age_85 ?_
        refine x_mmin hG (pc := 86) lk_X7_38 dX7_age_86 (by decide) (Nat.le_of_ble_eq_true rfl) (by rw [hG.mc]; exact Nat.le_of_ble_eq_true rfl) (by rw [hG.ms]; exact Nat.le_of_ble_eq_true rfl) ?_
        refine x_iastN hG (pc := 89) (c := 2) ha2 (by decide) dX7_age_89 ?_
        refine x_return hG (pc := 90) dX7_age_90 rfl (by rw [hG.mc]; exact Nat.le_of_ble_eq_true rfl) (by rw [hG.ms]; exact Nat.le_of_ble_eq_true rfl) ?_
        rw [hz2, wup_w]
        exact hk
      · replace h61 : ¬ (bW (f 0) (f 5) u) < 50 := h61
        refine x_aload_n hG (pc := 64) 0 dX7_age_64 rfl rfl ?_
        refine x_iconst hG (pc := 65) 1 dX7_age_65 (by decide) ?_
        refine x_iconst hG (pc := 66) 1 dX7_age_66 (by decide) ?_
        refine x_iastN hG (pc := 67) (c := 1) ha1 (by decide) dX7_age_67 ?_
        refine x_gen (fun w2 e2 => ?_)
        have hz2 : w2 = wup w a (t, aI (gK g) 7 (rset (rset f 0 (bW (f 0) (f 5) u)) 1 (bC (bW (f 0) (f 5) u) (f 1)))) := by
          rw [e2, e1, wup_w, ← bC_1 (x := (bW (f 0) (f 5) u)) h30 h1 h61]
        have ha2 : w2 a = some (t, aI (gK g) 7 (rset (rset f 0 (bW (f 0) (f 5) u)) 1 (bC (bW (f 0) (f 5) u) (f 1)))) := (congrFun hz2 a).trans wup_s
        refine x_aload_n hG (pc := 68) 0 dX7_age_68 rfl rfl ?_
        refine x_iconst hG (pc := 69) 2 dX7_age_69 (by decide) ?_
        refine x_bipush hG (pc := 70) 60 dX7_age_70 (by decide) ?_
        refine x_aload_n hG (pc := 72) 0 dX7_age_72 rfl rfl ?_
        refine x_iconst hG (pc := 73) 2 dX7_age_73 (by decide) ?_
        refine x_ialdN hG (pc := 74) (c := 2) ha2 (by decide) dX7_age_74 ?_
        refine x_iload_n hG (pc := 75) 1 dX7_age_75 rfl rfl ?_
        refine x_iconst hG (pc := 76) 5 dX7_age_76 (by decide) ?_
        refine x_aload_n hG (pc := 77) 0 dX7_age_77 rfl rfl ?_
        refine x_iconst hG (pc := 78) 3 dX7_age_78 (by decide) ?_
        refine x_ialdN hG (pc := 79) (c := 3) ha2 (by decide) dX7_age_79 ?_
        refine x_imul hG (pc := 80) dX7_age_80 ?_
        refine x_iadd hG (pc := 81) dX7_age_81 ?_
        refine x_bipush hG (pc := 82) 10 dX7_age_82 (by decide) ?_
        refine x_idiv hG (pc := 84) dX7_age_84 (by decide) ?_
        refine x_iadd hG (pc := 85) dX7_age_85 ?_
        refine x_mmin hG (pc := 86) lk_X7_38 dX7_age_86 (by decide) (Nat.le_of_ble_eq_true rfl) (by rw [hG.mc]; exact Nat.le_of_ble_eq_true rfl) (by rw [hG.ms]; exact Nat.le_of_ble_eq_true rfl) ?_
        refine x_iastN hG (pc := 89) (c := 2) ha2 (by decide) dX7_age_89 ?_
        refine x_return hG (pc := 90) dX7_age_90 rfl (by rw [hG.mc]; exact Nat.le_of_ble_eq_true rfl) (by rw [hG.ms]; exact Nat.le_of_ble_eq_true rfl) ?_
        rw [hz2, wup_w]
        exact hk
    · replace h30 : ¬ f 1 ≤ 0 := h30
      refine x_aload_n hG (pc := 33) 0 dX7_age_33 rfl rfl ?_
      refine x_iconst hG (pc := 34) 1 dX7_age_34 (by decide) ?_
      refine x_bipush hG (pc := 35) 60 dX7_age_35 (by decide) ?_
      refine x_aload_n hG (pc := 37) 0 dX7_age_37 rfl rfl ?_
      refine x_iconst hG (pc := 38) 1 dX7_age_38 (by decide) ?_
      refine x_ialdN hG (pc := 39) (c := 1) (by first | assumption | exact hR.main) (by decide) dX7_age_39 ?_
      refine x_iconst hG (pc := 40) 1 dX7_age_40 (by decide) ?_
      refine x_iadd hG (pc := 41) dX7_age_41 ?_
      refine x_aload_n hG (pc := 42) 0 dX7_age_42 rfl rfl ?_
      refine x_iconst hG (pc := 43) 1 dX7_age_43 (by decide) ?_
      refine x_ialdN hG (pc := 44) (c := 1) ha1 (by decide) dX7_age_44 ?_
      refine x_bipush hG (pc := 45) 8 dX7_age_45 (by decide) ?_
      refine x_idiv hG (pc := 47) dX7_age_47 (by decide) ?_
      refine x_iadd hG (pc := 48) dX7_age_48 ?_
      refine x_mmin hG (pc := 49) lk_X7_38 dX7_age_49 (by decide) (Nat.le_of_ble_eq_true rfl) (by rw [hG.mc]; exact Nat.le_of_ble_eq_true rfl) (by rw [hG.ms]; exact Nat.le_of_ble_eq_true rfl) ?_
      rw [show mn 60 (rset f 0 (bW (f 0) (f 5) u) 1 + 1 + rset f 0 (bW (f 0) (f 5) u) 1 / 8) = bC (bW (f 0) (f 5) u) (f 1) from bC_2 h30]
      refine x_iastN hG (pc := 52) (c := 1) ha1 (by decide) dX7_age_52 ?_
      refine x_gen (fun w2 e2 => ?_)
      have hz2 : w2 = wup w a (t, aI (gK g) 7 (rset (rset f 0 (bW (f 0) (f 5) u)) 1 (bC (bW (f 0) (f 5) u) (f 1)))) := by
        rw [e2, e1, wup_w]
      refine x_goto hG (pc := 53) 68 dX7_age_53 (by decide) ?_
      have ha2 : w2 a = some (t, aI (gK g) 7 (rset (rset f 0 (bW (f 0) (f 5) u)) 1 (bC (bW (f 0) (f 5) u) (f 1)))) := (congrFun hz2 a).trans wup_s
      refine x_aload_n hG (pc := 68) 0 dX7_age_68 rfl rfl ?_
      refine x_iconst hG (pc := 69) 2 dX7_age_69 (by decide) ?_
      refine x_bipush hG (pc := 70) 60 dX7_age_70 (by decide) ?_
      refine x_aload_n hG (pc := 72) 0 dX7_age_72 rfl rfl ?_
      refine x_iconst hG (pc := 73) 2 dX7_age_73 (by decide) ?_
      refine x_ialdN hG (pc := 74) (c := 2) ha2 (by decide) dX7_age_74 ?_
      refine x_iload_n hG (pc := 75) 1 dX7_age_75 rfl rfl ?_
      refine x_iconst hG (pc := 76) 5 dX7_age_76 (by decide) ?_
      refine x_aload_n hG (pc := 77) 0 dX7_age_77 rfl rfl ?_
      refine x_iconst hG (pc := 78) 3 dX7_age_78 (by decide) ?_
      refine x_ialdN hG (pc := 79) (c := 3) ha2 (by decide) dX7_age_79 ?_
      refine x_imul hG (pc := 80) dX7_age_80 ?_
      refine x_iadd hG (pc := 81) dX7_age_81 ?_
      refine x_bipush hG (pc := 82) 10 dX7_age_82 (by decide) ?_
      refine x_idiv hG (pc := 84) dX7_age_84 (by decide) ?_
      refine x_iadd hG (pc := 85) dX7_age_85 ?_
      refine x_mmin hG (pc := 86) lk_X7_38 dX7_age_86 (by decide) (Nat.le_of_ble_eq_true rfl) (by rw [hG.mc]; exact Nat.le_of_ble_eq_true rfl) (by rw [hG.ms]; exact Nat.le_of_ble_eq_true rfl) ?_
      refine x_iastN hG (pc := 89) (c := 2) ha2 (by decide) dX7_age_89 ?_
      refine x_return hG (pc := 90) dX7_age_90 rfl (by rw [hG.mc]; exact Nat.le_of_ble_eq_true rfl) (by rw [hG.ms]; exact Nat.le_of_ble_eq_true rfl) ?_
      rw [hz2, wup_w]
      exact hk
  · refine x_iconst hG (pc := 15) 4 dX7_age_15 (by decide) ?_
    refine x_goto hG (pc := 16) 21 dX7_age_16 (by decide) ?_
    refine x_idiv hG (pc := 21) dX7_age_21 (by decide) ?_
    refine x_iadd hG (pc := 22) dX7_age_22 ?_
    refine x_mmin hG (pc := 23) lk_X7_38 dX7_age_23 (by decide) (Nat.le_of_ble_eq_true rfl) (by rw [hG.mc]; exact Nat.le_of_ble_eq_true rfl) (by rw [hG.ms]; exact Nat.le_of_ble_eq_true rfl) ?_
    rw [bW_4 h12]
    refine x_iastN hG (pc := 26) (c := 0) (by first | assumption | exact hR.main) (by decide) dX7_age_26 ?_
    refine x_gen (fun w1 e1 => ?_)
    have ha1 := (congrFun e1 a).trans wup_s
    refine x_aload_n hG (pc := 27) 0 dX7_age_27 rfl rfl ?_
    refine x_iconst hG (pc := 28) 1 dX7_age_28 (by decide) ?_
    refine x_ialdN hG (pc := 29) (c := 1) ha1 (by decide) dX7_age_29 ?_
    refine x_if_le hG (pc := 30) 56 dX7_age_30 (by decide) (fun h30 => ?_) (fun h30 => ?_)
    · replace h30 : f 1 ≤ 0 := h30
      refine x_aload_n hG (pc := 56) 0 dX7_age_56 rfl rfl ?_
      refine x_iconst hG (pc := 57) 0 dX7_age_57 (by decide) ?_
      refine x_ialdN hG (pc := 58) (c := 0) ha1 (by decide) dX7_age_58 ?_
      refine x_bipush hG (pc := 59) 50 dX7_age_59 (by decide) ?_
      refine x_icmp_lt hG (pc := 61) 68 dX7_age_61 (by decide) (fun h61 => ?_) (fun h61 => ?_)
      · replace h61 : (bW (f 0) (f 5) u) < 50 := h61
        obtain ⟨w2, e2⟩ : ∃ w2, w2 = w1 := ⟨_, rfl⟩
        rw [← e2]
        have hz2 : w2 = wup w a (t, aI (gK g) 7 (rset (rset f 0 (bW (f 0) (f 5) u)) 1 (bC (bW (f 0) (f 5) u) (f 1)))) := by
          rw [e2, e1, rset_same (f := rset f 0 (bW (f 0) (f 5) u)) (i := 1) (x := bC (bW (f 0) (f 5) u) (f 1)) (show f 1 = _ from bC_0 h30 h1 h61)]
        have ha2 : w2 a = some (t, aI (gK g) 7 (rset (rset f 0 (bW (f 0) (f 5) u)) 1 (bC (bW (f 0) (f 5) u) (f 1)))) := (congrFun hz2 a).trans wup_s
        refine x_aload_n hG (pc := 68) 0 dX7_age_68 rfl rfl ?_
        refine x_iconst hG (pc := 69) 2 dX7_age_69 (by decide) ?_
        refine x_bipush hG (pc := 70) 60 dX7_age_70 (by decide) ?_
        refine x_aload_n hG (pc := 72) 0 dX7_age_72 rfl rfl ?_
        refine x_iconst hG (pc := 73) 2 dX7_age_73 (by decide) ?_
        refine x_ialdN hG (pc := 74) (c := 2) ha2 (by decide) dX7_age_74 ?_
        refine x_iload_n hG (pc := 75) 1 dX7_age_75 rfl rfl ?_
        refine x_iconst hG (pc := 76) 5 dX7_age_76 (by decide) ?_
        refine x_aload_n hG (pc := 77) 0 dX7_age_77 rfl rfl ?_
        refine x_iconst hG (pc := 78) 3 dX7_age_78 (by decide) ?_
        refine x_ialdN hG (pc := 79) (c := 3) ha2 (by decide) dX7_age_79 ?_
        refine x_imul hG (pc := 80) dX7_age_80 ?_
        refine x_iadd hG (pc := 81) dX7_age_81 ?_
        refine x_bipush hG (pc := 82) 10 dX7_age_82 (by decide) ?_
        refine x_idiv hG (pc := 84) dX7_age_84 (by decide) ?_
        refine x_iadd hG (pc := 85) dX7_age_85 ?_
        refine x_mmin hG (pc := 86) lk_X7_38 dX7_age_86 (by decide) (Nat.le_of_ble_eq_true rfl) (by rw [hG.mc]; exact Nat.le_of_ble_eq_true rfl) (by rw [hG.ms]; exact Nat.le_of_ble_eq_true rfl) ?_
        refine x_iastN hG (pc := 89) (c := 2) ha2 (by decide) dX7_age_89 ?_
        refine x_return hG (pc := 90) dX7_age_90 rfl (by rw [hG.mc]; exact Nat.le_of_ble_eq_true rfl) (by rw [hG.ms]; exact Nat.le_of_ble_eq_true rfl) ?_
        rw [hz2, wup_w]
        exact hk
      · replace h61 : ¬ (bW (f 0) (f 5) u) < 50 := h61
        refine x_aload_n hG (pc := 64) 0 dX7_age_64 rfl rfl ?_
        refine x_iconst hG (pc := 65) 1 dX7_age_65 (by decide) ?_
        refine x_iconst hG (pc := 66) 1 dX7_age_66 (by decide) ?_
        refine x_iastN hG (pc := 67) (c := 1) ha1 (by decide) dX7_age_67 ?_
        refine x_gen (fun w2 e2 => ?_)
        have hz2 : w2 = wup w a (t, aI (gK g) 7 (rset (rset f 0 (bW (f 0) (f 5) u)) 1 (bC (bW (f 0) (f 5) u) (f 1)))) := by
          rw [e2, e1, wup_w, ← bC_1 (x := (bW (f 0) (f 5) u)) h30 h1 h61]
        have ha2 : w2 a = some (t, aI (gK g) 7 (rset (rset f 0 (bW (f 0) (f 5) u)) 1 (bC (bW (f 0) (f 5) u) (f 1)))) := (congrFun hz2 a).trans wup_s
        refine x_aload_n hG (pc := 68) 0 dX7_age_68 rfl rfl ?_
        refine x_iconst hG (pc := 69) 2 dX7_age_69 (by decide) ?_
        refine x_bipush hG (pc := 70) 60 dX7_age_70 (by decide) ?_
        refine x_aload_n hG (pc := 72) 0 dX7_age_72 rfl rfl ?_
        refine x_iconst hG (pc := 73) 2 dX7_age_73 (by decide) ?_
        refine x_ialdN hG (pc := 74) (c := 2) ha2 (by decide) dX7_age_74 ?_
        refine x_iload_n hG (pc := 75) 1 dX7_age_75 rfl rfl ?_
        refine x_iconst hG (pc := 76) 5 dX7_age_76 (by decide) ?_
        refine x_aload_n hG (pc := 77) 0 dX7_age_77 rfl rfl ?_
        refine x_iconst hG (pc := 78) 3 dX7_age_78 (by decide) ?_
        refine x_ialdN hG (pc := 79) (c := 3) ha2 (by decide) dX7_age_79 ?_
        refine x_imul hG (pc := 80) dX7_age_80 ?_
        refine x_iadd hG (pc := 81) dX7_age_81 ?_
        refine x_bipush hG (pc := 82) 10 dX7_age_82 (by decide) ?_
        refine x_idiv hG (pc := 84) dX7_age_84 (by decide) ?_
        refine x_iadd hG (pc := 85) dX7_age_85 ?_
        refine x_mmin hG (pc := 86) lk_X7_38 dX7_age_86 (by decide) (Nat.le_of_ble_eq_true rfl) (by rw [hG.mc]; exact Nat.le_of_ble_eq_true rfl) (by rw [hG.ms]; exact Nat.le_of_ble_eq_true rfl) ?_
        refine x_iastN hG (pc := 89) (c := 2) ha2 (by decide) dX7_age_89 ?_
        refine x_return hG (pc := 90) dX7_age_90 rfl (by rw [hG.mc]; exact Nat.le_of_ble_eq_true rfl) (by rw [hG.ms]; exact Nat.le_of_ble_eq_true rfl) ?_
        rw [hz2, wup_w]
        exact hk
    · replace h30 : ¬ f 1 ≤ 0 := h30
      refine x_aload_n hG (pc := 33) 0 dX7_age_33 rfl rfl ?_
      refine x_iconst hG (pc := 34) 1 dX7_age_34 (by decide) ?_
      refine x_bipush hG (pc := 35) 60 dX7_age_35 (by decide) ?_
      refine x_aload_n hG (pc := 37) 0 dX7_age_37 rfl rfl ?_
      refine x_iconst hG (pc := 38) 1 dX7_age_38 (by decide) ?_
      refine x_ialdN hG (pc := 39) (c := 1) (by first | assumption | exact hR.main) (by decide) dX7_age_39 ?_
      refine x_iconst hG (pc := 40) 1 dX7_age_40 (by decide) ?_
      refine x_iadd hG (pc := 41) dX7_age_41 ?_
      refine x_aload_n hG (pc := 42) 0 dX7_age_42 rfl rfl ?_
      refine x_iconst hG (pc := 43) 1 dX7_age_43 (by decide) ?_
      refine x_ialdN hG (pc := 44) (c := 1) ha1 (by decide) dX7_age_44 ?_
      refine x_bipush hG (pc := 45) 8 dX7_age_45 (by decide) ?_
      refine x_idiv hG (pc := 47) dX7_age_47 (by decide) ?_
      refine x_iadd hG (pc := 48) dX7_age_48 ?_
      refine x_mmin hG (pc := 49) lk_X7_38 dX7_age_49 (by decide) (Nat.le_of_ble_eq_true rfl) (by rw [hG.mc]; exact Nat.le_of_ble_eq_true rfl) (by rw [hG.ms]; exact Nat.le_of_ble_eq_true rfl) ?_
      rw [show mn 60 (rset f 0 (bW (f 0) (f 5) u) 1 + 1 + rset f 0 (bW (f 0) (f 5) u) 1 / 8) = bC (bW (f 0) (f 5) u) (f 1) from bC_2 h30]
      refine x_iastN hG (pc := 52) (c := 1) ha1 (by decide) dX7_age_52 ?_
      refine x_gen (fun w2 e2 => ?_)
      have hz2 : w2 = wup w a (t, aI (gK g) 7 (rset (rset f 0 (bW (f 0) (f 5) u)) 1 (bC (bW (f 0) (f 5) u) (f 1)))) := by
        rw [e2, e1, wup_w]
      refine x_goto hG (pc := 53) 68 dX7_age_53 (by decide) ?_
      have ha2 : w2 a = some (t, aI (gK g) 7 (rset (rset f 0 (bW (f 0) (f 5) u)) 1 (bC (bW (f 0) (f 5) u) (f 1)))) := (congrFun hz2 a).trans wup_s
      refine x_aload_n hG (pc := 68) 0 dX7_age_68 rfl rfl ?_
      refine x_iconst hG (pc := 69) 2 dX7_age_69 (by decide) ?_
      refine x_bipush hG (pc := 70) 60 dX7_age_70 (by decide) ?_
      refine x_aload_n hG (pc := 72) 0 dX7_age_72 rfl rfl ?_
      refine x_iconst hG (pc := 73) 2 dX7_age_73 (by decide) ?_
      refine x_ialdN hG (pc := 74) (c := 2) ha2 (by decide) dX7_age_74 ?_
      refine x_iload_n hG (pc := 75) 1 dX7_age_75 rfl rfl ?_
      refine x_iconst hG (pc := 76) 5 dX7_age_76 (by decide) ?_
      refine x_aload_n hG (pc := 77) 0 dX7_age_77 rfl rfl ?_
      refine x_iconst hG (pc := 78) 3 dX7_age_78 (by decide) ?_
      refine x_ialdN hG (pc := 79) (c := 3) ha2 (by decide) dX7_age_79 ?_
      refine x_imul hG (pc := 80) dX7_age_80 ?_
      refine x_iadd hG (pc := 81) dX7_age_81 ?_
      refine x_bipush hG (pc := 82) 10 dX7_age_82 (by decide) ?_
      refine x_idiv hG (pc := 84) dX7_age_84 (by decide) ?_
      refine x_iadd hG (pc := 85) dX7_age_85 ?_
      refine x_mmin hG (pc := 86) lk_X7_38 dX7_age_86 (by decide) (Nat.le_of_ble_eq_true rfl) (by rw [hG.mc]; exact Nat.le_of_ble_eq_true rfl) (by rw [hG.ms]; exact Nat.le_of_ble_eq_true rfl) ?_
      refine x_iastN hG (pc := 89) (c := 2) ha2 (by decide) dX7_age_89 ?_
      refine x_return hG (pc := 90) dX7_age_90 rfl (by rw [hG.mc]; exact Nat.le_of_ble_eq_true rfl) (by rw [hG.ms]; exact Nat.le_of_ble_eq_true rfl) ?_
      rw [hz2, wup_w]
      exact hk
set_option maxHeartbeats 400000 in
set_option maxRecDepth 100000 in
theorem c_X7_treat : CtrA yX7_treat cX7_treat 3 none (rmk 1 0 0 33) (fun Γ av w post _ => ∃ a t f k h, av = [.ref a, .int k, .int h] ∧ w a = some (t, aI Γ.2.1 7 f) ∧ post none (wup w a (t, aI Γ.2.1 7 (trt f k h)))) := by
  refine ctr_of (by decide) ?_
  rintro g av w hG hO ⟨a, t, f, k, h, rfl, ha, hk⟩
  refine ⟨Nat.le_of_ble_eq_true rfl, ?_⟩
  show X g w 0 0 0 [some (.ref a), some (.int k), some (.int h)] []
  refine x_iload_n hG (pc := 0) 1 dX7_treat_0 rfl rfl ?_
  refine x_if_ne hG (pc := 1) 21 dX7_treat_1 (by decide) (fun h1 => ?_) (fun h1 => ?_)
  · refine x_iload_n hG (pc := 21) 1 dX7_treat_21 rfl rfl ?_
    refine x_iconst hG (pc := 22) 1 dX7_treat_22 (by decide) ?_
    refine x_icmp_ne hG (pc := 23) 55 dX7_treat_23 (by decide) (fun h23 => ?_) (fun h23 => ?_)
    · refine x_aload_n hG (pc := 55) 0 dX7_treat_55 rfl rfl ?_
      refine x_iconst hG (pc := 56) 0 dX7_treat_56 (by decide) ?_
      refine x_iconst hG (pc := 57) 0 dX7_treat_57 (by decide) ?_
      refine x_iastN hG (pc := 58) (c := 0) ha (by decide) dX7_treat_58 ?_
      refine x_gen (fun w1 e1 => ?_)
      have ha1 := (congrFun e1 a).trans wup_s
      refine x_aload_n hG (pc := 59) 0 dX7_treat_59 rfl rfl ?_
      refine x_iconst hG (pc := 60) 1 dX7_treat_60 (by decide) ?_
      refine x_iconst hG (pc := 61) 0 dX7_treat_61 (by decide) ?_
      refine x_iastN hG (pc := 62) (c := 1) ha1 (by decide) dX7_treat_62 ?_
      refine x_gen (fun w2 e2 => ?_)
      have ha2 := (congrFun e2 a).trans wup_s
      refine x_aload_n hG (pc := 63) 0 dX7_treat_63 rfl rfl ?_
      refine x_iconst hG (pc := 64) 2 dX7_treat_64 (by decide) ?_
      refine x_iconst hG (pc := 65) 0 dX7_treat_65 (by decide) ?_
      refine x_iastN hG (pc := 66) (c := 2) ha2 (by decide) dX7_treat_66 ?_
      refine x_gen (fun w3 e3 => ?_)
      have ha3 := (congrFun e3 a).trans wup_s
      refine x_aload_n hG (pc := 67) 0 dX7_treat_67 rfl rfl ?_
      refine x_iconst hG (pc := 68) 3 dX7_treat_68 (by decide) ?_
      refine x_iconst hG (pc := 69) 0 dX7_treat_69 (by decide) ?_
      refine x_iastN hG (pc := 70) (c := 3) ha3 (by decide) dX7_treat_70 ?_
      refine x_gen (fun w4 e4 => ?_)
      have ha4 := (congrFun e4 a).trans wup_s
      refine x_aload_n hG (pc := 71) 0 dX7_treat_71 rfl rfl ?_
      refine x_iconst hG (pc := 72) 4 dX7_treat_72 (by decide) ?_
      refine x_bipush hG (pc := 73) 10 dX7_treat_73 (by decide) ?_
      refine x_bipush hG (pc := 75) 40 dX7_treat_75 (by decide) ?_
      refine x_iload_n hG (pc := 77) 2 dX7_treat_77 rfl rfl ?_
      refine x_mmin hG (pc := 78) lk_X7_38 dX7_treat_78 (by decide) (Nat.le_of_ble_eq_true rfl) (by rw [hG.mc]; exact Nat.le_of_ble_eq_true rfl) (by rw [hG.ms]; exact Nat.le_of_ble_eq_true rfl) ?_
      refine x_mmax hG (pc := 81) lk_X7_150 dX7_treat_81 (by decide) (Nat.le_of_ble_eq_true rfl) (by rw [hG.mc]; exact Nat.le_of_ble_eq_true rfl) (by rw [hG.ms]; exact Nat.le_of_ble_eq_true rfl) ?_
      refine x_iastN hG (pc := 84) (c := 4) ha4 (by decide) dX7_treat_84 ?_
      refine x_gen (fun w5 e5 => ?_)
      have ha5 := (congrFun e5 a).trans wup_s
      refine x_return hG (pc := 85) dX7_treat_85 rfl (by rw [hG.mc]; exact Nat.le_of_ble_eq_true rfl) (by rw [hG.ms]; exact Nat.le_of_ble_eq_true rfl) ?_
      have hz : w5 = wup w a (t, aI (gK g) 7 (trt f k h)) := by
        rw [e5, e4, e3, e2, e1]
        simp only [wup_w]
        refine congrArg (wup w a) (congrArg (fun y => (t, aI (gK g) 7 y)) ?_)
        funext j
        simp only [trt, tW, tC, tS, tT, tF, rset, h1, h23, ↓reduceIte]
        all_goals (rcases j with _ | _ | _ | _ | _ | j <;> simp)
      rw [hz]
      exact hk
    · refine x_aload_n hG (pc := 26) 0 dX7_treat_26 rfl rfl ?_
      refine x_iconst hG (pc := 27) 1 dX7_treat_27 (by decide) ?_
      refine x_iconst hG (pc := 28) 0 dX7_treat_28 (by decide) ?_
      refine x_aload_n hG (pc := 29) 0 dX7_treat_29 rfl rfl ?_
      refine x_iconst hG (pc := 30) 1 dX7_treat_30 (by decide) ?_
      refine x_ialdN hG (pc := 31) (c := 1) ha (by decide) dX7_treat_31 ?_
      refine x_bipush hG (pc := 32) 8 dX7_treat_32 (by decide) ?_
      refine x_isub hG (pc := 34) dX7_treat_34 ?_
      refine x_mmax hG (pc := 35) lk_X7_150 dX7_treat_35 (by decide) (Nat.le_of_ble_eq_true rfl) (by rw [hG.mc]; exact Nat.le_of_ble_eq_true rfl) (by rw [hG.ms]; exact Nat.le_of_ble_eq_true rfl) ?_
      refine x_iastN hG (pc := 38) (c := 1) ha (by decide) dX7_treat_38 ?_
      refine x_gen (fun w1 e1 => ?_)
      have ha1 := (congrFun e1 a).trans wup_s
      refine x_aload_n hG (pc := 39) 0 dX7_treat_39 rfl rfl ?_
      refine x_iconst hG (pc := 40) 0 dX7_treat_40 (by decide) ?_
      refine x_bipush hG (pc := 41) 100 dX7_treat_41 (by decide) ?_
      refine x_aload_n hG (pc := 43) 0 dX7_treat_43 rfl rfl ?_
      refine x_iconst hG (pc := 44) 0 dX7_treat_44 (by decide) ?_
      refine x_ialdN hG (pc := 45) (c := 0) ha1 (by decide) dX7_treat_45 ?_
      refine x_iconst hG (pc := 46) 2 dX7_treat_46 (by decide) ?_
      refine x_iadd hG (pc := 47) dX7_treat_47 ?_
      refine x_mmin hG (pc := 48) lk_X7_38 dX7_treat_48 (by decide) (Nat.le_of_ble_eq_true rfl) (by rw [hG.mc]; exact Nat.le_of_ble_eq_true rfl) (by rw [hG.ms]; exact Nat.le_of_ble_eq_true rfl) ?_
      refine x_iastN hG (pc := 51) (c := 0) ha1 (by decide) dX7_treat_51 ?_
      refine x_gen (fun w2 e2 => ?_)
      have ha2 := (congrFun e2 a).trans wup_s
      refine x_goto hG (pc := 52) 85 dX7_treat_52 (by decide) ?_
      refine x_return hG (pc := 85) dX7_treat_85 rfl (by rw [hG.mc]; exact Nat.le_of_ble_eq_true rfl) (by rw [hG.ms]; exact Nat.le_of_ble_eq_true rfl) ?_
      have hz : w2 = wup w a (t, aI (gK g) 7 (trt f k h)) := by
        rw [e2, e1]
        simp only [wup_w]
        refine congrArg (wup w a) (congrArg (fun y => (t, aI (gK g) 7 y)) ?_)
        funext j
        simp only [trt, tW, tC, tS, tT, tF, rset, h1, h23, ↓reduceIte]
        all_goals (rcases j with _ | _ | _ | _ | _ | j <;> simp)
      rw [hz]
      exact hk
  · refine x_aload_n hG (pc := 4) 0 dX7_treat_4 rfl rfl ?_
    refine x_iconst hG (pc := 5) 2 dX7_treat_5 (by decide) ?_
    refine x_dup2 hG (pc := 6) dX7_treat_6 rfl rfl ?_
    refine x_ialdN hG (pc := 7) (c := 2) ha (by decide) dX7_treat_7 ?_
    refine x_iconst hG (pc := 8) 4 dX7_treat_8 (by decide) ?_
    refine x_idiv hG (pc := 9) dX7_treat_9 (by decide) ?_
    refine x_iastN hG (pc := 10) (c := 2) ha (by decide) dX7_treat_10 ?_
    refine x_gen (fun w1 e1 => ?_)
    have ha1 := (congrFun e1 a).trans wup_s
    refine x_aload_n hG (pc := 11) 0 dX7_treat_11 rfl rfl ?_
    refine x_iconst hG (pc := 12) 3 dX7_treat_12 (by decide) ?_
    refine x_dup2 hG (pc := 13) dX7_treat_13 rfl rfl ?_
    refine x_ialdN hG (pc := 14) (c := 3) ha1 (by decide) dX7_treat_14 ?_
    refine x_iconst hG (pc := 15) 1 dX7_treat_15 (by decide) ?_
    refine x_iadd hG (pc := 16) dX7_treat_16 ?_
    refine x_iastN hG (pc := 17) (c := 3) ha1 (by decide) dX7_treat_17 ?_
    refine x_gen (fun w2 e2 => ?_)
    have ha2 := (congrFun e2 a).trans wup_s
    refine x_goto hG (pc := 18) 85 dX7_treat_18 (by decide) ?_
    refine x_return hG (pc := 85) dX7_treat_85 rfl (by rw [hG.mc]; exact Nat.le_of_ble_eq_true rfl) (by rw [hG.ms]; exact Nat.le_of_ble_eq_true rfl) ?_
    have hz : w2 = wup w a (t, aI (gK g) 7 (trt f k h)) := by
      rw [e2, e1]
      simp only [wup_w]
      refine congrArg (wup w a) (congrArg (fun y => (t, aI (gK g) 7 y)) ?_)
      funext j
      simp only [trt, tW, tC, tS, tT, tF, rset, h1, ↓reduceIte]
      all_goals (rcases j with _ | _ | _ | _ | _ | j <;> simp)
    rw [hz]
    exact hk
set_option maxHeartbeats 400000 in
set_option maxRecDepth 100000 in
theorem c_X7_hours : CtrA yX7_hours cX7_hours 3 (some .int) (rmk 0 0 0 0) (fun Γ av w post xpost => ∃ (L : LayM) (S : St), ∃ kd s, av = [.ref (thM L), .int kd, .int (nI s)] ∧ RepM Γ L S w ∧ s < 20 ∧ (0 ≤ kd.toInt ∧ kd.toInt ≤ 2) ∧ (sS S s 5 = 0 ∨ sS S s 5 = 1) ∧ post (some (.int (s_hours kd (sS S s 5)))) w) := by
  refine ctr_of (by decide) ?_
  rintro g av w hG hO ⟨L, S, kd, s, rfl, hR, hs, hkd, hc, hk⟩
  refine ⟨Nat.le_of_ble_eq_true rfl, ?_⟩
  show X g w 0 0 0 [some (.ref (thM L)), some (.int kd), some (.int (nI s))] []
  refine x_iconst hG (pc := 0) 1 dX7_hours_0 (by decide) ?_
  refine x_iload_n hG (pc := 1) 1 dX7_hours_1 rfl rfl ?_
  refine x_ishl hG (pc := 2) dX7_hours_2 ?_
  refine x_aload_n hG (pc := 3) 0 dX7_hours_3 rfl rfl ?_
  refine x_getf hG (pc := 4) fl_X7_11 hR.main rfl dX7_hours_4 ?_
  refine x_iload_n hG (pc := 7) 2 dX7_hours_7 rfl rfl ?_
  refine x_aaldI hG (pc := 8) hR.secs (vp_in_nI hs (by decide)) dX7_hours_8 ?_
  rw [nI_clamp (by omega), lE_at hs]
  show X g _ _ _ _ _ (.ref (L.1 (52, s, 0)) :: _)
  refine x_iconst hG (pc := 9) 5 dX7_hours_9 (by decide) ?_
  refine x_ialdN hG (pc := 10) (c := 5) (hR.sec hs) (by decide) dX7_hours_10 ?_
  refine x_iadd hG (pc := 11) dX7_hours_11 ?_
  refine x_ireturn hG (pc := 12) dX7_hours_12 rfl rfl (by rw [hG.mc]; exact Nat.le_of_ble_eq_true rfl) (by rw [hG.ms]; exact Nat.le_of_ble_eq_true rfl) ?_
  exact fin_i (hours_eq hkd hc) hk
theorem has_n {tr fr to s : Int32} (h : ¬ tr = s / 10) : 0 = s_has tr fr to s := (if_neg (fun z => h z.symm)).symm
theorem has_z {tr fr to s : Int32} (h : tr = s / 10) (h2 : s_is (rm10 s) fr to = 0) : 0 = s_has tr fr to s := h2.symm.trans (if_pos h.symm).symm
theorem has_p {tr fr to s : Int32} (h : tr = s / 10) (h2 : ¬ s_is (rm10 s) fr to = 0) : 1 = s_has tr fr to s := (s_is01.resolve_left h2).symm.trans (if_pos h.symm).symm
theorem liv_0 {S : St} : (fun _ => 0) = liv S 0 := by
  funext j
  rw [liv, if_neg (Nat.not_lt_zero _)]
theorem tkR_s {f g : Nat → Int32} {k m : Nat} (h : (f (11 + 3 * k)).toNatClampNeg = m) : tkR f g (k + 1) = if f (12 + 3 * k) ≤ (tkR f g k).1 m then (rset (tkR f g k).1 m ((tkR f g k).1 m - f (12 + 3 * k)), (tkR f g k).2 + f (12 + 3 * k)) else (rset (tkR f g k).1 m 0, (tkR f g k).2 + (f (12 + 3 * k) + 2)) := by
  subst h
  rfl
theorem ge_f6 {f : Nat → Int32} {k : Nat} (h6 : 0 ≤ (f 6).toInt) (h : f 6 ≤ nI k) (hk : k ≤ nJ f) : k = nJ f := by
  rcases Nat.lt_or_ge k (nJ f) with q | q
  · rw [← i_nn h6] at h
    have := (f 6).toInt_lt
    exact absurd h (nI_ge q (by have h1 : (f 6).toNatClampNeg = (f 6).toInt.toNat := rfl; omega))
  · omega
theorem lt_f6 {f : Nat → Int32} {k : Nat} (h6 : 0 ≤ (f 6).toInt) (h : ¬ f 6 ≤ nI k) (hk : k < 2 ^ 31) : k < nJ f := by
  rcases Nat.lt_or_ge k (nJ f) with q | q
  · exact q
  · refine absurd (Int32.le_iff_toInt_le.mpr ?_) h
    have h1 : nJ f = (f 6).toInt.toNat := rfl
    rw [nI_toInt hk]
    omega
set_option maxHeartbeats 400000 in
set_option maxRecDepth 100000 in
theorem c_X7_has : CtrA yX7_has cX7_has 3 (some .boolean) (rmk 1 0 0 22) (fun Γ av w post _ => ∃ m a t f s, av = [.ref m, .ref a, .int s] ∧ w a = some (t, aI Γ.2.1 28 f) ∧ post (some (.int (s_has (f 1) (f 2) (f 3) s))) w) := by
  refine ctr_of (by decide) ?_
  rintro g av w hG hO ⟨m, a, t, f, s, rfl, ha, hk⟩
  refine ⟨Nat.le_of_ble_eq_true rfl, ?_⟩
  show X g w 0 0 0 [some (.ref m), some (.ref a), some (.int s)] []
  refine x_aload_n hG (pc := 0) 1 dX7_has_0 rfl rfl ?_
  refine x_iconst hG (pc := 1) 1 dX7_has_1 (by decide) ?_
  refine x_ialdN hG (pc := 2) (c := 1) (by first | assumption | exact hR.main) (by decide) dX7_has_2 ?_
  refine x_iload_n hG (pc := 3) 2 dX7_has_3 rfl rfl ?_
  refine x_bipush hG (pc := 4) 10 dX7_has_4 (by decide) ?_
  refine x_idiv hG (pc := 6) dX7_has_6 (by decide) ?_
  refine x_icmp_ne hG (pc := 7) 30 dX7_has_7 (by decide) (fun h7 => ?_) (fun h7 => ?_)
  · refine x_iconst hG (pc := 30) 0 dX7_has_30 (by decide) ?_
    refine x_ireturn hG (pc := 31) dX7_has_31 rfl rfl (by rw [hG.mc]; exact Nat.le_of_ble_eq_true rfl) (by rw [hG.ms]; exact Nat.le_of_ble_eq_true rfl) ?_
    exact fin_i (has_n h7) hk
  · refine x_iload_n hG (pc := 10) 2 dX7_has_10 rfl rfl ?_
    refine x_bipush hG (pc := 11) 10 dX7_has_11 (by decide) ?_
    refine x_irem hG (pc := 13) dX7_has_13 (by decide) ?_
    show X g w _ _ _ _ (.int (rm10 s) :: _)
    refine x_aload_n hG (pc := 14) 1 dX7_has_14 rfl rfl ?_
    refine x_iconst hG (pc := 15) 2 dX7_has_15 (by decide) ?_
    refine x_ialdN hG (pc := 16) (c := 2) (by first | assumption | exact hR.main) (by decide) dX7_has_16 ?_
    refine x_aload_n hG (pc := 17) 1 dX7_has_17 rfl rfl ?_
    refine x_iconst hG (pc := 18) 3 dX7_has_18 (by decide) ?_
    refine x_ialdN hG (pc := 19) (c := 3) (by first | assumption | exact hR.main) (by decide) dX7_has_19 ?_
    refine x_callS hG hO (pc := 20) [_, _, _] c_X7_is lk_X7_68 rfl rfl ⟨by decide, by decide⟩ (Nat.le_of_ble_eq_true rfl) (by rw [hG.mc]; exact Nat.le_of_ble_eq_true rfl) (by rw [hG.ms]; exact Nat.le_of_ble_eq_true rfl) dX7_has_20 ?_
    refine ⟨rm10 s, _, _, rfl, ?_⟩
    refine x_if_eq hG (pc := 23) 30 dX7_has_23 (by decide) (fun h23 => ?_) (fun h23 => ?_)
    · refine x_iconst hG (pc := 30) 0 dX7_has_30 (by decide) ?_
      refine x_ireturn hG (pc := 31) dX7_has_31 rfl rfl (by rw [hG.mc]; exact Nat.le_of_ble_eq_true rfl) (by rw [hG.ms]; exact Nat.le_of_ble_eq_true rfl) ?_
      exact fin_i (has_z h7 h23) hk
    · refine x_iconst hG (pc := 26) 1 dX7_has_26 (by decide) ?_
      refine x_goto hG (pc := 27) 31 dX7_has_27 (by decide) ?_
      refine x_ireturn hG (pc := 31) dX7_has_31 rfl rfl (by rw [hG.mc]; exact Nat.le_of_ble_eq_true rfl) (by rw [hG.ms]; exact Nat.le_of_ble_eq_true rfl) ?_
      exact fin_i (has_p h7 h23) hk
set_option maxHeartbeats 400000 in
set_option maxRecDepth 100000 in
theorem c_X7_uses : CtrA yX7_uses cX7_uses 4 (some .boolean) (rmk 0 0 0 0) (fun Γ av w post _ => ∃ a t f m, av = [.ref a, .int (nI m)] ∧ w a = some (t, aI Γ.2.1 28 f) ∧ m < 100 ∧ nJ f ≤ 6 ∧ 0 ≤ (f 6).toInt ∧ (∀ j, j < nJ f → 0 ≤ (f (11 + 3 * j)).toInt) ∧ post (some (.int (uses (nJ f) (fun j => (f (11 + 3 * j)).toNatClampNeg) m))) w) := by
  refine ctr_of (by decide) ?_
  rintro g av w hG hO ⟨a, t, f, m, rfl, ha, hm, hn6, h6, hj, hk⟩
  refine ⟨Nat.le_of_ble_eq_true rfl, ?_⟩
  show X g w 0 0 0 [some (.ref a), some (.int (nI m)), none, none] []
  have u0 : (0 : Int32) = uses 0 (fun j => (f (11 + 3 * j)).toNatClampNeg) m := (uses_f (fun i hi => absurd hi (Nat.not_lt_zero _))).symm
  refine x_iconst hG (pc := 0) 0 dX7_uses_0 (by decide) ?_
  refine x_istore_n hG (pc := 1) 2 dX7_uses_1 rfl (Nat.le_of_ble_eq_true rfl) rfl (by dsimp only [List.set]) ?_
  refine x_iconst hG (pc := 2) 0 dX7_uses_2 (by decide) ?_
  refine x_istore_n hG (pc := 3) 3 dX7_uses_3 rfl (Nat.le_of_ble_eq_true rfl) rfl (by dsimp only [List.set]) ?_
  refine nat_down (P := fun k => X g w 0 0 4 [some (.ref a), some (.int (nI m)), some (.int (uses k (fun j => (f (11 + 3 * j)).toNatClampNeg) m)), some (.int (nI k))] []) (nJ f) (fun k hkk ih => ?_) 0 (Nat.zero_le _)
  refine x_iload_n hG (pc := 4) 3 dX7_uses_4 rfl rfl ?_
  refine x_aload_n hG (pc := 5) 0 dX7_uses_5 rfl rfl ?_
  refine x_bipush hG (pc := 6) 6 dX7_uses_6 (by decide) ?_
  refine x_ialdN hG (pc := 8) (c := 6) (by first | assumption | exact hR.main) (by decide) dX7_uses_8 ?_
  refine x_icmp_ge hG (pc := 9) 40 dX7_uses_9 (by decide) (fun h9 => ?_) (fun h9 => ?_)
  · have hke := ge_f6 h6 h9 hkk
    refine x_iload_n hG (pc := 40) 2 dX7_uses_40 rfl rfl ?_
    refine x_ireturn hG (pc := 41) dX7_uses_41 rfl (nb01 (by unfold uses; split <;> simp)) (by rw [hG.mc]; exact Nat.le_of_ble_eq_true rfl) (by rw [hG.ms]; exact Nat.le_of_ble_eq_true rfl) ?_
    rw [hke]
    exact hk
  · have hkn := lt_f6 h6 h9 (by omega)
    refine x_iload_n hG (pc := 12) 2 dX7_uses_12 rfl rfl ?_
    refine x_aload_n hG (pc := 13) 0 dX7_uses_13 rfl rfl ?_
    refine x_bipush hG (pc := 14) 10 dX7_uses_14 (by decide) ?_
    refine x_iconst hG (pc := 16) 3 dX7_uses_16 (by decide) ?_
    refine x_iload_n hG (pc := 17) 3 dX7_uses_17 rfl rfl ?_
    refine x_imul hG (pc := 18) dX7_uses_18 ?_
    refine x_iadd hG (pc := 19) dX7_uses_19 ?_
    refine x_iconst hG (pc := 20) 1 dX7_uses_20 (by decide) ?_
    refine x_iadd hG (pc := 21) dX7_uses_21 ?_
    refine x_ialdN hG (pc := 22) (c := 11 + 3 * k) ha (by omega) dX7_uses_22 ?_ (hv := ix3 k)
    refine x_iload_n hG (pc := 23) 1 dX7_uses_23 rfl rfl ?_
    refine x_icmp_ne hG (pc := 24) 31 dX7_uses_24 (by decide) (fun h24 => ?_) (fun h24 => ?_)
    · refine x_iconst hG (pc := 31) 0 dX7_uses_31 (by decide) ?_
      refine x_ior hG (pc := 32) dX7_uses_32 ?_
      rw [show uses k (fun j => (f (11 + 3 * j)).toNatClampNeg) m ||| 0 = uses (k + 1) (fun j => (f (11 + 3 * j)).toNatClampNeg) m from by rw [uses_s, if_neg (fun z => h24 ((cl_eq (hj k hkn) (by omega)).mpr z))]]
      refine x_istore_n hG (pc := 33) 2 dX7_uses_33 rfl (Nat.le_of_ble_eq_true rfl) rfl (by dsimp only [List.set]) ?_
      refine x_iinc hG (pc := 34) (nI (k + 1)) dX7_uses_34 rfl (Nat.le_of_ble_eq_true rfl) rfl (nI_1' k) (by dsimp only [List.set]) ?_
      refine x_goto hG (pc := 37) 4 dX7_uses_37 (by decide) ?_
      exact ih (k + 1) (by omega) (by omega)
    · refine x_iconst hG (pc := 27) 1 dX7_uses_27 (by decide) ?_
      refine x_goto hG (pc := 28) 32 dX7_uses_28 (by decide) ?_
      refine x_ior hG (pc := 32) dX7_uses_32 ?_
      rw [show uses k (fun j => (f (11 + 3 * j)).toNatClampNeg) m ||| 1 = uses (k + 1) (fun j => (f (11 + 3 * j)).toNatClampNeg) m from by rw [uses_s, if_pos ((cl_eq (hj k hkn) (by omega)).mp h24)]]
      refine x_istore_n hG (pc := 33) 2 dX7_uses_33 rfl (Nat.le_of_ble_eq_true rfl) rfl (by dsimp only [List.set]) ?_
      refine x_iinc hG (pc := 34) (nI (k + 1)) dX7_uses_34 rfl (Nat.le_of_ble_eq_true rfl) rfl (nI_1' k) (by dsimp only [List.set]) ?_
      refine x_goto hG (pc := 37) 4 dX7_uses_37 (by decide) ?_
      exact ih (k + 1) (by omega) (by omega)
set_option maxHeartbeats 400000 in
set_option maxRecDepth 100000 in
theorem c_X7_took : CtrA yX7_took cX7_took 7 (some .int) (rmk 0 0 0 0) (fun Γ av w post _ => ∃ a t f b tb f2, av = [.ref a, .ref b] ∧ w a = some (t, aI Γ.2.1 28 f) ∧ w b = some (tb, aI Γ.2.1 4 f2) ∧ t ≠ tb ∧ nJ f ≤ 6 ∧ 0 ≤ (f 6).toInt ∧ (∀ j, j < nJ f → 0 ≤ (f (11 + 3 * j)).toInt ∧ (f (11 + 3 * j)).toNatClampNeg < 4) ∧ post (some (.int (tkR f f2 (nJ f)).2)) (wup w b (tb, aI Γ.2.1 4 (tkR f f2 (nJ f)).1))) := by
  refine ctr_of (by decide) ?_
  rintro g av w hG hO ⟨a, t, f, b, tb, f2, rfl, ha, hb, hne, hn6, h6, hj, hk⟩
  refine ⟨Nat.le_of_ble_eq_true rfl, ?_⟩
  show X g w 0 0 0 [some (.ref a), some (.ref b), none, none, none, none, none] []
  refine x_iconst hG (pc := 0) 0 dX7_took_0 (by decide) ?_
  refine x_istore_n hG (pc := 1) 2 dX7_took_1 rfl (Nat.le_of_ble_eq_true rfl) rfl (by dsimp only [List.set]) ?_
  refine x_iconst hG (pc := 2) 0 dX7_took_2 (by decide) ?_
  refine x_istore_n hG (pc := 3) 3 dX7_took_3 rfl (Nat.le_of_ble_eq_true rfl) rfl (by dsimp only [List.set]) ?_
  refine nat_down (P := fun k => ∀ (w1 : Wd) (z4 z5 z6 : Option Value), w1 = wup w b (tb, aI (gK g) 4 (tkR f f2 k).1) → X g w1 0 0 4 [some (.ref a), some (.ref b), some (.int (tkR f f2 k).2), some (.int (nI k)), z4, z5, z6] []) (nJ f) (fun k hkk ih w1 z4 z5 z6 e1 => ?_) 0 (Nat.zero_le _) w none none none (wup_id hb).symm
  have hb1 := (congrFun e1 b).trans wup_s
  have ha1 := (congrFun e1 a).trans (wup_t hb ha hne)
  refine x_iload_n hG (pc := 4) 3 dX7_took_4 rfl rfl ?_
  refine x_aload_n hG (pc := 5) 0 dX7_took_5 rfl rfl ?_
  refine x_bipush hG (pc := 6) 6 dX7_took_6 (by decide) ?_
  refine x_ialdN hG (pc := 8) (c := 6) ha1 (by decide) dX7_took_8 ?_
  refine x_icmp_ge hG (pc := 9) 95 dX7_took_9 (by decide) (fun h9 => ?_) (fun h9 => ?_)
  · have hke := ge_f6 h6 h9 hkk
    refine x_iload_n hG (pc := 95) 2 dX7_took_95 rfl rfl ?_
    refine x_ireturn hG (pc := 96) dX7_took_96 rfl rfl (by rw [hG.mc]; exact Nat.le_of_ble_eq_true rfl) (by rw [hG.ms]; exact Nat.le_of_ble_eq_true rfl) ?_
    rw [← hke] at hk
    rw [e1]
    exact hk
  · have hkn := lt_f6 h6 h9 (by omega)
    refine x_aload_n hG (pc := 12) 0 dX7_took_12 rfl rfl ?_
    refine x_bipush hG (pc := 13) 10 dX7_took_13 (by decide) ?_
    refine x_iconst hG (pc := 15) 3 dX7_took_15 (by decide) ?_
    refine x_iload_n hG (pc := 16) 3 dX7_took_16 rfl rfl ?_
    refine x_imul hG (pc := 17) dX7_took_17 ?_
    refine x_iadd hG (pc := 18) dX7_took_18 ?_
    refine x_iconst hG (pc := 19) 1 dX7_took_19 (by decide) ?_
    refine x_iadd hG (pc := 20) dX7_took_20 ?_
    refine x_ialdN hG (pc := 21) (c := 11 + 3 * k) ha1 (by omega) dX7_took_21 ?_ (hv := ix3 k)
    obtain ⟨hj0, hj4⟩ := hj k hkn
    obtain ⟨mm, hmm⟩ : ∃ mm, (f (11 + 3 * k)).toNatClampNeg = mm := ⟨_, rfl⟩
    rw [hmm] at hj4
    have hme : (f (11 + 3 * k)) = nI mm := ((cl_eq hj0 (by omega)).mpr hmm)
    rw [hme]
    refine x_istore hG (pc := 22) dX7_took_22 (Nat.le_of_ble_eq_true rfl) rfl (by dsimp only [List.set]) ?_
    refine x_aload_n hG (pc := 24) 0 dX7_took_24 rfl rfl ?_
    refine x_bipush hG (pc := 25) 10 dX7_took_25 (by decide) ?_
    refine x_iconst hG (pc := 27) 3 dX7_took_27 (by decide) ?_
    refine x_iload_n hG (pc := 28) 3 dX7_took_28 rfl rfl ?_
    refine x_imul hG (pc := 29) dX7_took_29 ?_
    refine x_iadd hG (pc := 30) dX7_took_30 ?_
    refine x_iconst hG (pc := 31) 2 dX7_took_31 (by decide) ?_
    refine x_iadd hG (pc := 32) dX7_took_32 ?_
    refine x_ialdN hG (pc := 33) (c := 12 + 3 * k) ha1 (by omega) dX7_took_33 ?_ (hv := ix4 k)
    refine x_istore hG (pc := 34) dX7_took_34 (Nat.le_of_ble_eq_true rfl) rfl (by dsimp only [List.set]) ?_
    refine x_aload_n hG (pc := 36) 1 dX7_took_36 rfl rfl ?_
    refine x_iload hG (pc := 37) dX7_took_37 rfl ?_
    refine x_ialdN hG (pc := 39) (c := mm) hb1 (by omega) dX7_took_39 ?_ (hv := rfl)
    refine x_iload hG (pc := 40) dX7_took_40 rfl ?_
    refine x_icmp_lt hG (pc := 42) 49 dX7_took_42 (by decide) (fun h42 => ?_) (fun h42 => ?_)
    · refine x_iconst hG (pc := 49) 0 dX7_took_49 (by decide) ?_
      refine x_istore hG (pc := 50) dX7_took_50 (Nat.le_of_ble_eq_true rfl) rfl (by dsimp only [List.set]) ?_
      refine x_iload_n hG (pc := 52) 2 dX7_took_52 rfl rfl ?_
      refine x_iload hG (pc := 53) dX7_took_53 rfl ?_
      refine x_if_eq hG (pc := 55) 63 dX7_took_55 (by decide) (fun h55 => ?_) (fun h55 => ?_)
      · refine x_iload hG (pc := 63) dX7_took_63 rfl ?_
        refine x_iconst hG (pc := 65) 2 dX7_took_65 (by decide) ?_
        refine x_iadd hG (pc := 66) dX7_took_66 ?_
        refine x_iadd hG (pc := 67) dX7_took_67 ?_
        refine x_istore_n hG (pc := 68) 2 dX7_took_68 rfl (Nat.le_of_ble_eq_true rfl) rfl (by dsimp only [List.set]) ?_
        refine x_aload_n hG (pc := 69) 1 dX7_took_69 rfl rfl ?_
        refine x_iload hG (pc := 70) dX7_took_70 rfl ?_
        refine x_iload hG (pc := 72) dX7_took_72 rfl ?_
        refine x_if_eq hG (pc := 74) 87 dX7_took_74 (by decide) (fun h74 => ?_) (fun h74 => ?_)
        · refine x_iconst hG (pc := 87) 0 dX7_took_87 (by decide) ?_
          refine x_iastN hG (pc := 88) (c := mm) hb1 (by omega) dX7_took_88 ?_ (hv := rfl)
          refine x_gen (fun w2 e2 => ?_)
          have hs := (tkR_s (f := f) (g := f2) hmm).trans (if_neg (Int32.not_le.mpr h42))
          refine x_iinc hG (pc := 89) (nI (k + 1)) dX7_took_89 rfl (Nat.le_of_ble_eq_true rfl) rfl (nI_1' k) (by dsimp only [List.set]) ?_
          refine x_goto hG (pc := 92) 4 dX7_took_92 (by decide) ?_
          have hh := ih (k + 1) (by omega) (by omega) w2
          rw [hs] at hh
          exact hh _ _ _ (by rw [e2, e1, wup_w])
        · exact absurd rfl h74
      · exact absurd rfl h55
    · refine x_iconst hG (pc := 45) 1 dX7_took_45 (by decide) ?_
      refine x_goto hG (pc := 46) 50 dX7_took_46 (by decide) ?_
      refine x_istore hG (pc := 50) dX7_took_50 (Nat.le_of_ble_eq_true rfl) rfl (by dsimp only [List.set]) ?_
      refine x_iload_n hG (pc := 52) 2 dX7_took_52 rfl rfl ?_
      refine x_iload hG (pc := 53) dX7_took_53 rfl ?_
      refine x_if_eq hG (pc := 55) 63 dX7_took_55 (by decide) (fun h55 => ?_) (fun h55 => ?_)
      · exact absurd h55 (by decide)
      · refine x_iload hG (pc := 58) dX7_took_58 rfl ?_
        refine x_goto hG (pc := 60) 67 dX7_took_60 (by decide) ?_
        refine x_iadd hG (pc := 67) dX7_took_67 ?_
        refine x_istore_n hG (pc := 68) 2 dX7_took_68 rfl (Nat.le_of_ble_eq_true rfl) rfl (by dsimp only [List.set]) ?_
        refine x_aload_n hG (pc := 69) 1 dX7_took_69 rfl rfl ?_
        refine x_iload hG (pc := 70) dX7_took_70 rfl ?_
        refine x_iload hG (pc := 72) dX7_took_72 rfl ?_
        refine x_if_eq hG (pc := 74) 87 dX7_took_74 (by decide) (fun h74 => ?_) (fun h74 => ?_)
        · exact absurd h74 (by decide)
        · refine x_aload_n hG (pc := 77) 1 dX7_took_77 rfl rfl ?_
          refine x_iload hG (pc := 78) dX7_took_78 rfl ?_
          refine x_ialdN hG (pc := 80) (c := mm) hb1 (by omega) dX7_took_80 ?_ (hv := rfl)
          refine x_iload hG (pc := 81) dX7_took_81 rfl ?_
          refine x_isub hG (pc := 83) dX7_took_83 ?_
          refine x_goto hG (pc := 84) 88 dX7_took_84 (by decide) ?_
          refine x_iastN hG (pc := 88) (c := mm) hb1 (by omega) dX7_took_88 ?_ (hv := rfl)
          refine x_gen (fun w2 e2 => ?_)
          have hs := (tkR_s (f := f) (g := f2) hmm).trans (if_pos (Int32.not_lt.mp h42))
          refine x_iinc hG (pc := 89) (nI (k + 1)) dX7_took_89 rfl (Nat.le_of_ble_eq_true rfl) rfl (nI_1' k) (by dsimp only [List.set]) ?_
          refine x_goto hG (pc := 92) 4 dX7_took_92 (by decide) ?_
          have hh := ih (k + 1) (by omega) (by omega) w2
          rw [hs] at hh
          exact hh _ _ _ (by rw [e2, e1, wup_w])
set_option maxHeartbeats 400000 in
set_option maxRecDepth 100000 in
theorem c_X7_lives : CtrA yX7_lives cX7_lives 3 (some (.array .int)) (rmk 3 1 4 64) (fun Γ av w post xpost => ∃ (L : LayM) (S : St), av = [.ref (thM L)] ∧ RepM Γ L S w ∧ nM S ≤ 4 ∧ ∀ (q : Nat) (w1 : Wd), w q = none → w1 = wup w q ((61, 0, 0), aI Γ.2.1 4 (liv S (nM S))) → post (some (.ref q)) w1) := by
  refine ctr_of (by decide) ?_
  rintro g av w hG hO ⟨L, S, rfl, hR, hn, hk⟩
  refine ⟨Nat.le_of_ble_eq_true rfl, ?_⟩
  show X g w 0 0 0 [some (.ref (thM L)), none, none] []
  refine x_iconst hG (pc := 0) 4 dX7_lives_0 (by decide) ?_
  refine x_newI hG (pc := 1) (61, 0, 0) (by decide) (n := 4) (by decide) (by decide) dX7_lives_1 (by rw [hG.mc]; exact Nat.le_of_ble_eq_true rfl) (by rw [hG.ms]; exact Nat.le_of_ble_eq_true rfl) (fun q hfq hnq => ?_)
  rw [liv_0 (S := S)]
  refine x_gen (fun w0 e0 => ?_)
  refine x_astore_n hG (pc := 3) 1 dX7_lives_3 rfl (Nat.le_of_ble_eq_true rfl) rfl (by dsimp only [List.set]) ?_
  refine x_iconst hG (pc := 4) 0 dX7_lives_4 (by decide) ?_
  refine x_istore_n hG (pc := 5) 2 dX7_lives_5 rfl (Nat.le_of_ble_eq_true rfl) rfl (by dsimp only [List.set]) ?_
  refine nat_down (P := fun k => ∀ (w1 : Wd), w1 = wup w q ((61, 0, 0), aI (gK g) 4 (liv S k)) → X g w1 1 4 6 [some (.ref (thM L)), some (.ref q), some (.int (nI k))] []) (nM S) (fun k hi ih w1 e1 => ?_) 0 (Nat.zero_le _) w0 e0
  have hR1 := hR.nw hfq e1
  have hq1 := (congrFun e1 q).trans wup_s
  refine x_iload_n hG (pc := 6) 2 dX7_lives_6 rfl rfl ?_
  refine x_aload_n hG (pc := 7) 0 dX7_lives_7 rfl rfl ?_
  refine x_getf hG (pc := 8) fl_X7_17 hR1.main rfl dX7_lives_8 ?_
  refine x_callV hG hO (pc := 11) [] c_Jx4a65c_size_8abf5 lk_X7_64 (hR1.lst (id := 1) (by decide)).1 rfl rfl ⟨by decide, by decide⟩ (Nat.le_of_ble_eq_true rfl) (by rw [hG.mc]; exact Nat.le_of_ble_eq_true rfl) (by rw [hG.ms]; exact Nat.le_of_ble_eq_true rfl) dX7_lives_11 ?_
  refine ⟨_, _, _, _, _, rfl, (hR1.lst (id := 1) (by decide)).1, ?_⟩
  show X g _ _ _ _ _ (.int (nI (nM S)) :: _)
  refine x_icmp_ge hG (pc := 14) 39 dX7_lives_14 (by decide) (fun h14 => ?_) (fun h14 => ?_)
  · have hkn : k = nM S := by
      rcases Nat.lt_or_ge k (nM S) with q | q
      · exact absurd h14 (nI_ge (b := nM S) q (by omega))
      · omega
    refine x_aload_n hG (pc := 39) 1 dX7_lives_39 rfl rfl ?_
    refine x_areturn hG (pc := 40) dX7_lives_40 rfl (Or.inr ⟨_, rfl⟩) (by rw [hG.mc]; exact Nat.le_of_ble_eq_true rfl) (by rw [hG.ms]; exact Nat.le_of_ble_eq_true rfl) ?_
    rw [hkn] at e1
    exact hk q w1 hfq e1
  · have hkn : k < nM S := by
      rcases Nat.lt_or_ge k (nM S) with q | q
      · exact q
      · exact absurd (nI_le q (by omega)) h14
    refine x_aload_n hG (pc := 17) 1 dX7_lives_17 rfl rfl ?_
    refine x_iload_n hG (pc := 18) 2 dX7_lives_18 rfl rfl ?_
    refine x_aload_n hG (pc := 19) 0 dX7_lives_19 rfl rfl ?_
    refine x_getf hG (pc := 20) fl_X7_17 hR1.main rfl dX7_lives_20 ?_
    refine x_iload_n hG (pc := 23) 2 dX7_lives_23 rfl rfl ?_
    refine x_callV hG hO (pc := 24) [_] c_Jx4a65c_get_915e3 lk_X7_52 (hR1.lst (id := 1) (by decide)).1 rfl rfl ⟨by decide, by decide⟩ (Nat.le_of_ble_eq_true rfl) (by rw [hG.mc]; exact Nat.le_of_ble_eq_true rfl) (by rw [hG.ms]; exact Nat.le_of_ble_eq_true rfl) dX7_lives_24 ?_
    refine ⟨_, _, _, _, _, _, _, _, k, rfl, (hR1.lst (id := 1) (by decide)), hkn, ?_⟩
    show X g _ _ _ _ _ (.ref (L.1 (56, k, 0)) :: _)
    refine x_castI hG (pc := 27) ckl_X7_56 (hR1.mac hkn) dX7_lives_27 ?_
    refine x_iconst hG (pc := 30) 1 dX7_lives_30 (by decide) ?_
    refine x_ialdN hG (pc := 31) (c := 1) (hR1.mac hkn) (by decide) dX7_lives_31 ?_
    refine x_iastN hG (pc := 32) (c := k) hq1 (by omega) dX7_lives_32 ?_ (hv := rfl)
    rw [liv_s]
    refine x_gen (fun w2 e2 => ?_)
    refine x_iinc hG (pc := 33) (nI (k + 1)) dX7_lives_33 rfl (Nat.le_of_ble_eq_true rfl) rfl (nI_1' k) (by dsimp only [List.set]) ?_
    refine x_goto hG (pc := 36) 6 dX7_lives_36 (by decide) ?_
    exact ih (k + 1) (by omega) (by omega) w2 (by rw [e2, e1, wup_w])
