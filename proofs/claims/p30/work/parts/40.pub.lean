/-! TrackNights: the calls, one -/
theorem ix_le {x : Int32} {n : Nat} (h1 : ¬ x < 1) (h2 : x ≤ nI n) (hn : n < 2 ^ 31) : ∃ k, k ≤ n ∧ x = nI k := by
  have a : ¬ x.toInt < (1 : Int32).toInt := fun q => h1 (Int32.lt_iff_toInt_lt.mpr q)
  have b := Int32.le_iff_toInt_le.mp h2
  rw [nI_toInt hn] at b
  simp at a
  refine ⟨x.toInt.toNat, by omega, Int32.toInt_inj.mp ?_⟩
  rw [nI_toInt (by omega)]
  omega
theorem eS_setE {S : St} {i : Nat} {f : Nat → Int32} : eS (setE S i f) i = f := rset_s
theorem oBrk_f {S : St} {k : Nat} : Fm S (oBrk S k) := by
  unfold oBrk
  split
  · exact Fm.rf
  · split
    · exact Fm.rf
    · exact Fm.sS.tr Fm.sG
theorem oSec_f {S : St} {t : Int32} {i : Nat} : Fm S (oSec S t i) := by
  unfold oSec
  dsimp only
  split
  · exact (Fm.sS.tr Fm.sG).tr oBrk_f
  · exact ((Fm.sS.tr Fm.sG).tr oBrk_f).tr Fm.sG
theorem dys_f {S : St} {t : Int32} : ∀ i, Fm S (dys S t i)
  | 0 => Fm.rf
  | i + 1 => (dys_f i).tr oSec_f
theorem oDay_f {S : St} {t h : Int32} : Fm S (oDay S t h) := ((nts_f _).tr Fm.sG).tr (dys_f 20)
theorem pas_f {S : St} {t h : Int32} : ∀ d, Fm S (pas S t h d)
  | 0 => Fm.rf
  | d + 1 => (pas_f d).tr oDay_f
theorem JOk.fm {S T : St} (h : JOk S) (hF : Fm S T) : JOk T := fun n hn => (h n (by rw [← hF.1]; exact hn)).fm hF
set_option maxHeartbeats 400000 in
set_option maxRecDepth 100000 in
theorem c_X6_curve : CtrA yX6_curve cX6_curve 5 (some .boolean) (rmk 8 4 24 140) (fun Γ av w post xpost => ∃ (L : LayC) (S : St), ∃ i b, av = [.ref (thC L), .int i, .int b] ∧ RepC Γ L S w ∧ Inv S ∧ (b = 0 ∨ b = 1) ∧ Out Γ L w post xpost [xI] (oCur S i b)) := by
  refine ctr_of (by decide) ?_
  rintro g av w hG hO ⟨L, S, i, b, rfl, hR, hI, hb, hk⟩
  refine ⟨Nat.le_of_ble_eq_true rfl, ?_⟩
  show X g w 0 0 0 [some (.ref (thC L)), some (.int i), some (.int b), none, none] []
  refine x_aload_n hG (pc := 0) 0 dX6_curve_0 rfl rfl ?_
  refine x_iload_n hG (pc := 1) 1 dX6_curve_1 rfl rfl ?_
  refine x_callV hG hO (pc := 2) [_] c_X6_sectionAt lk_X6_64 (by first | assumption | exact hR.main) rfl rfl ⟨by decide, by decide⟩ (Nat.le_of_ble_eq_true rfl) (by rw [hG.mc]; exact Nat.le_of_ble_eq_true rfl) (by rw [hG.ms]; exact Nat.le_of_ble_eq_true rfl) dX6_curve_2 ?_
  refine ⟨L, S, i, rfl, hR, fun k hkn hiq => ?_, fun hb => hk.bad (k := 0) (v := 0) (S1 := S) (by simp only [oCur, ixO_n (n := 20) hb (by decide)]) rfl⟩
  subst hiq
  refine x_astore_n hG (pc := 5) 3 dX6_curve_5 rfl (Nat.le_of_ble_eq_true rfl) rfl (by dsimp only [List.set]) ?_
  refine x_aload_n hG (pc := 6) 3 dX6_curve_6 rfl rfl ?_
  refine x_getf hG (pc := 7) fl_X6_68 (hR.sec hkn) rfl dX6_curve_7 ?_
  refine x_istore hG (pc := 10) dX6_curve_10 (Nat.le_of_ble_eq_true rfl) rfl (by dsimp only [List.set]) ?_
  refine x_aload_n hG (pc := 12) 3 dX6_curve_12 rfl rfl ?_
  refine x_iload_n hG (pc := 13) 2 dX6_curve_13 rfl rfl ?_
  refine x_putf hG (pc := 14) fl_X6_68 fw_5 ft_5_3 (hR.sec hkn) (Nat.le_of_ble_eq_true rfl) (nb01 hb) (fb01 hb) (by dsimp only [List.set]) dX6_curve_14 ?_
  refine x_gen (fun w1 e1 => ?_)
  obtain ⟨hR1, hF1⟩ := hR.uS hkn (f := rset (sS S k) 5 b) e1 rfl rfl rfl
  refine x_iload hG (pc := 17) dX6_curve_17 rfl ?_
  refine x_ireturn hG (pc := 19) dX6_curve_19 rfl (nb01 (hI.1 k hkn).2.2.1) (by rw [hG.mc]; exact Nat.le_of_ble_eq_true rfl) (by rw [hG.ms]; exact Nat.le_of_ble_eq_true rfl) ?_
  exact hk.ok (by simp only [oCur, ixO_s (n := 20) hkn (by decide)]) rfl hR1 hF1
set_option maxHeartbeats 400000 in
set_option maxRecDepth 100000 in
theorem c_X6_sign : CtrA yX6_sign cX6_sign 5 (some .int) (rmk 8 4 24 140) (fun Γ av w post xpost => ∃ (L : LayC) (S : St), ∃ i v, av = [.ref (thC L), .int i, .int v] ∧ RepC Γ L S w ∧ Inv S ∧ Out Γ L w post xpost [xI, xA] (oSig S i v)) := by
  refine ctr_of (by decide) ?_
  rintro g av w hG hO ⟨L, S, i, v, rfl, hR, hI, hk⟩
  refine ⟨Nat.le_of_ble_eq_true rfl, ?_⟩
  show X g w 0 0 0 [some (.ref (thC L)), some (.int i), some (.int v), none, none] []
  refine x_aload_n hG (pc := 0) 0 dX6_sign_0 rfl rfl ?_
  refine x_iload_n hG (pc := 1) 1 dX6_sign_1 rfl rfl ?_
  refine x_callV hG hO (pc := 2) [_] c_X6_sectionAt lk_X6_64 (by first | assumption | exact hR.main) rfl rfl ⟨by decide, by decide⟩ (Nat.le_of_ble_eq_true rfl) (by rw [hG.mc]; exact Nat.le_of_ble_eq_true rfl) (by rw [hG.ms]; exact Nat.le_of_ble_eq_true rfl) dX6_sign_2 ?_
  refine ⟨L, S, i, rfl, hR, fun k hkn hiq => ?_, fun hb => hk.bad (k := 0) (v := 0) (S1 := S) (by simp only [oSig, ixO_n (n := 20) hb (by decide)]) rfl⟩
  subst hiq
  refine x_astore_n hG (pc := 5) 3 dX6_sign_5 rfl (Nat.le_of_ble_eq_true rfl) rfl (by dsimp only [List.set]) ?_
  refine x_iload_n hG (pc := 6) 2 dX6_sign_6 rfl rfl ?_
  refine x_if_lt hG (pc := 7) 17 dX6_sign_7 (by decide) (fun h7 => ?_) (fun h7 => ?_)
  · refine x_throw hG hO (pc := 17) _ _ lt_74 dX6_sign_17 dX6_sign_20 dX6_sign_21 dX6_sign_23 dX6_sign_26 (by decide) (Nat.le_of_ble_eq_true rfl) (by rw [hG.mc]; exact Nat.le_of_ble_eq_true rfl) (by rw [hG.ms]; exact Nat.le_of_ble_eq_true rfl) ?_
    exact hk.bad (k := 1) (v := 0) (S1 := S) (by simp only [oSig, ixO_s (n := 20) hkn (by decide), h7, ↓reduceIte]) rfl
  · refine x_iload_n hG (pc := 10) 2 dX6_sign_10 rfl rfl ?_
    refine x_sipush hG (pc := 11) 160 dX6_sign_11 (by decide) ?_
    refine x_icmp_le hG (pc := 14) 27 dX6_sign_14 (by decide) (fun h14 => ?_) (fun h14 => ?_)
    · refine x_aload_n hG (pc := 27) 3 dX6_sign_27 rfl rfl ?_
      refine x_getf hG (pc := 28) fl_X6_79 (hR.sec hkn) rfl dX6_sign_28 ?_
      refine x_istore hG (pc := 31) dX6_sign_31 (Nat.le_of_ble_eq_true rfl) rfl (by dsimp only [List.set]) ?_
      refine x_aload_n hG (pc := 33) 3 dX6_sign_33 rfl rfl ?_
      refine x_iload_n hG (pc := 34) 2 dX6_sign_34 rfl rfl ?_
      refine x_putf hG (pc := 35) fl_X6_79 fw_5 ft_5_4 (hR.sec hkn) (Nat.le_of_ble_eq_true rfl) rfl rfl (by dsimp only [List.set]) dX6_sign_35 ?_
      refine x_gen (fun w1 e1 => ?_)
      obtain ⟨hR1, hF1⟩ := hR.uS hkn (f := rset (sS S k) 6 v) e1 rfl rfl rfl
      refine x_iload hG (pc := 38) dX6_sign_38 rfl ?_
      refine x_ireturn hG (pc := 40) dX6_sign_40 rfl rfl (by rw [hG.mc]; exact Nat.le_of_ble_eq_true rfl) (by rw [hG.ms]; exact Nat.le_of_ble_eq_true rfl) ?_
      exact hk.ok (by simp only [oSig, ixO_s (n := 20) hkn (by decide), h7, h14, ↓reduceIte]) rfl hR1 hF1
    · refine x_throw hG hO (pc := 17) _ _ lt_74 dX6_sign_17 dX6_sign_20 dX6_sign_21 dX6_sign_23 dX6_sign_26 (by decide) (Nat.le_of_ble_eq_true rfl) (by rw [hG.mc]; exact Nat.le_of_ble_eq_true rfl) (by rw [hG.ms]; exact Nat.le_of_ble_eq_true rfl) ?_
      exact hk.bad (k := 1) (v := 0) (S1 := S) (by simp only [oSig, ixO_s (n := 20) hkn (by decide), h7, h14, ↓reduceIte]) rfl
set_option maxHeartbeats 400000 in
set_option maxRecDepth 100000 in
theorem c_X6_pass : CtrA yX6_pass cX6_pass 6 (some .int) (rmk 8 4 24 183) (fun Γ av w post xpost => ∃ (L : LayC) (S : St), ∃ t h d, av = [.ref (thC L), .int t, .int h, .int d] ∧ RepC Γ L S w ∧ Inv S ∧ Out Γ L w post xpost [xA, xS] (oPas S t h d)) := by
  refine ctr_of (by decide) ?_
  rintro g av w hG hO ⟨L, S, t, h, d, rfl, hR, hI, hk⟩
  refine ⟨Nat.le_of_ble_eq_true rfl, ?_⟩
  show X g w 0 0 0 [some (.ref (thC L)), some (.int t), some (.int h), some (.int d), none, none] []
  refine x_aload_n hG (pc := 0) 0 dX6_pass_0 rfl rfl ?_
  refine x_iload_n hG (pc := 1) 1 dX6_pass_1 rfl rfl ?_
  refine x_callV hG hO (pc := 2) [_] c_X6_checkTrains lk_X6_82 (by first | assumption | exact hR.main) rfl rfl ⟨by decide, by decide⟩ (Nat.le_of_ble_eq_true rfl) (by rw [hG.mc]; exact Nat.le_of_ble_eq_true rfl) (by rw [hG.ms]; exact Nat.le_of_ble_eq_true rfl) dX6_pass_2 ?_
  refine ⟨thC L, t, rfl, fun ht1 ht2 => ?_, fun hb => hk.bad (k := 0) (v := 0) (S1 := S) ?_ rfl⟩
  case refine_2 =>
    rcases hb with hb | hb
    · simp only [oPas, hb, ↓reduceIte]
    · by_cases q : t < 0
      · simp only [oPas, q, ↓reduceIte]
      · simp only [oPas, q, hb, ↓reduceIte]
  refine x_iload_n hG (pc := 5) 2 dX6_pass_5 rfl rfl ?_
  refine x_bipush hG (pc := 6) (-20) dX6_pass_6 (by decide) ?_
  refine x_icmp_lt hG (pc := 8) 17 dX6_pass_8 (by decide) (fun h8 => ?_) (fun h8 => ?_)
  · refine x_throw hG hO (pc := 17) _ _ lt_86 dX6_pass_17 dX6_pass_20 dX6_pass_21 dX6_pass_23 dX6_pass_26 (by decide) (Nat.le_of_ble_eq_true rfl) (by rw [hG.mc]; exact Nat.le_of_ble_eq_true rfl) (by rw [hG.ms]; exact Nat.le_of_ble_eq_true rfl) ?_
    exact hk.bad (k := 0) (v := 0) (S1 := S) (by simp only [oPas, ht1, ht2, h8, ↓reduceIte]) rfl
  · refine x_iload_n hG (pc := 11) 2 dX6_pass_11 rfl rfl ?_
    refine x_bipush hG (pc := 12) 60 dX6_pass_12 (by decide) ?_
    refine x_icmp_le hG (pc := 14) 27 dX6_pass_14 (by decide) (fun h14 => ?_) (fun h14 => ?_)
    · refine x_iload_n hG (pc := 27) 3 dX6_pass_27 rfl rfl ?_
      refine x_iconst hG (pc := 28) 1 dX6_pass_28 (by decide) ?_
      refine x_icmp_lt hG (pc := 29) 38 dX6_pass_29 (by decide) (fun h29 => ?_) (fun h29 => ?_)
      · refine x_throw hG hO (pc := 38) _ _ lt_88 dX6_pass_38 dX6_pass_41 dX6_pass_42 dX6_pass_44 dX6_pass_47 (by decide) (Nat.le_of_ble_eq_true rfl) (by rw [hG.mc]; exact Nat.le_of_ble_eq_true rfl) (by rw [hG.ms]; exact Nat.le_of_ble_eq_true rfl) ?_
        exact hk.bad (k := 0) (v := 0) (S1 := S) (by simp only [oPas, ht1, ht2, h8, h14, h29, ↓reduceIte]) rfl
      · refine x_iload_n hG (pc := 32) 3 dX6_pass_32 rfl rfl ?_
        refine x_bipush hG (pc := 33) 60 dX6_pass_33 (by decide) ?_
        refine x_icmp_le hG (pc := 35) 48 dX6_pass_35 (by decide) (fun h35 => ?_) (fun h35 => ?_)
        · refine x_aload_n hG (pc := 48) 0 dX6_pass_48 rfl rfl ?_
          refine x_getf hG (pc := 49) fl_X6_42 hR.main rfl dX6_pass_49 ?_
          refine x_iload_n hG (pc := 52) 3 dX6_pass_52 rfl rfl ?_
          refine x_iadd hG (pc := 53) dX6_pass_53 ?_
          refine x_sipush hG (pc := 54) 2000 dX6_pass_54 (by decide) ?_
          refine x_icmp_le hG (pc := 57) 70 dX6_pass_57 (by decide) (fun h57 => ?_) (fun h57 => ?_)
          · refine x_aload_n hG (pc := 70) 0 dX6_pass_70 rfl rfl ?_
            refine x_getf hG (pc := 71) fl_X6_52 hR.main rfl dX6_pass_71 ?_
            refine x_istore hG (pc := 74) dX6_pass_74 (Nat.le_of_ble_eq_true rfl) rfl (by dsimp only [List.set]) ?_
            refine x_iconst hG (pc := 76) 0 dX6_pass_76 (by decide) ?_
            refine x_istore hG (pc := 77) dX6_pass_77 (Nat.le_of_ble_eq_true rfl) rfl (by dsimp only [List.set]) ?_
            obtain ⟨dn, hdn, rfl⟩ := ix_le (n := 60) h29 h35 (by decide)
            refine nat_down (P := fun j => ∀ w1, RepC (gΓ g) L (pas S t h j) w1 → FrM w w1 → X g w1 1 6 79 [some (.ref (thC L)), some (.int t), some (.int h), some (.int (nI dn)), some (.int (gl S 3)), some (.int (nI j))] []) dn (fun j hj0 ih w1 hR1 hF1 => ?_) 0 (Nat.zero_le _) w hR FrM.rf
            refine x_iload hG (pc := 79) dX6_pass_79 rfl ?_
            refine x_iload_n hG (pc := 81) 3 dX6_pass_81 rfl rfl ?_
            refine x_icmp_ge hG (pc := 82) 97 dX6_pass_82 (by decide) (fun h82 => ?_) (fun h82 => ?_)
            · have hje : j = dn := by
                rcases Nat.lt_or_ge j dn with q | q
                · exact absurd h82 (nI_ge q (by omega))
                · omega
              refine x_aload_n hG (pc := 97) 0 dX6_pass_97 rfl rfl ?_
              refine x_getf hG (pc := 98) fl_X6_52 hR1.main rfl dX6_pass_98 ?_
              refine x_iload hG (pc := 101) dX6_pass_101 rfl ?_
              refine x_isub hG (pc := 103) dX6_pass_103 ?_
              refine x_ireturn hG (pc := 104) dX6_pass_104 rfl rfl (by rw [hG.mc]; exact Nat.le_of_ble_eq_true rfl) (by rw [hG.ms]; exact Nat.le_of_ble_eq_true rfl) ?_
              subst hje
              exact hk.ok (by simp only [oPas, ht1, ht2, h8, h14, h29, h35, h57, ↓reduceIte, nI_clamp (show j < 2 ^ 31 by omega)]) rfl hR1 hF1
            · have hj : j < dn := by
                rcases Nat.lt_or_ge j dn with q | q
                · exact q
                · exact absurd (nI_le q (by omega)) h82
              refine x_aload_n hG (pc := 85) 0 dX6_pass_85 rfl rfl ?_
              refine x_iload_n hG (pc := 86) 1 dX6_pass_86 rfl rfl ?_
              refine x_iload_n hG (pc := 87) 2 dX6_pass_87 rfl rfl ?_
              refine x_callV hG hO (pc := 88) [_, _] c_X6_passDay lk_X6_95 hR1.main rfl rfl ⟨by decide, by decide⟩ (Nat.le_of_ble_eq_true rfl) (by rw [hG.mc]; exact Nat.le_of_ble_eq_true rfl) (by rw [hG.ms]; exact Nat.le_of_ble_eq_true rfl) dX6_pass_88 ?_
              refine ⟨L, pas S t h j, t, h, rfl, hR1, hI.job.fm (pas_f j), fun w2 hR2 hF2 => ?_⟩
              refine x_iinc hG (pc := 91) (nI (j + 1)) dX6_pass_91 rfl (Nat.le_of_ble_eq_true rfl) rfl (nI_1' j) (by dsimp only [List.set]) ?_
              refine x_goto hG (pc := 94) 79 dX6_pass_94 (by decide) ?_
              exact ih (j + 1) (by omega) (by omega) w2 hR2 (hF1.tr hF2)
          · refine x_throw hG hO (pc := 60) _ _ lt_92 dX6_pass_60 dX6_pass_63 dX6_pass_64 dX6_pass_66 dX6_pass_69 (by decide) (Nat.le_of_ble_eq_true rfl) (by rw [hG.mc]; exact Nat.le_of_ble_eq_true rfl) (by rw [hG.ms]; exact Nat.le_of_ble_eq_true rfl) ?_
            exact hk.bad (k := 1) (v := 0) (S1 := S) (by simp only [oPas, ht1, ht2, h8, h14, h29, h35, h57, ↓reduceIte]) rfl
        · refine x_throw hG hO (pc := 38) _ _ lt_88 dX6_pass_38 dX6_pass_41 dX6_pass_42 dX6_pass_44 dX6_pass_47 (by decide) (Nat.le_of_ble_eq_true rfl) (by rw [hG.mc]; exact Nat.le_of_ble_eq_true rfl) (by rw [hG.ms]; exact Nat.le_of_ble_eq_true rfl) ?_
          exact hk.bad (k := 0) (v := 0) (S1 := S) (by simp only [oPas, ht1, ht2, h8, h14, h29, h35, ↓reduceIte]) rfl
    · refine x_throw hG hO (pc := 17) _ _ lt_86 dX6_pass_17 dX6_pass_20 dX6_pass_21 dX6_pass_23 dX6_pass_26 (by decide) (Nat.le_of_ble_eq_true rfl) (by rw [hG.mc]; exact Nat.le_of_ble_eq_true rfl) (by rw [hG.ms]; exact Nat.le_of_ble_eq_true rfl) ?_
      exact hk.bad (k := 0) (v := 0) (S1 := S) (by simp only [oPas, ht1, ht2, h8, h14, ↓reduceIte]) rfl
