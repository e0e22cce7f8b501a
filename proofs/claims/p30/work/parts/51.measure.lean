/-! TrackNights: measure, meanWear -/
set_option maxHeartbeats 400000 in
set_option maxRecDepth 100000 in
theorem c_X6_meanWear : CtrA yX6_meanWear cX6_meanWear 4 (some .double) (rmk 6 1 6 98) (fun Γ av w post xpost => ∃ (L : LayC) (S : St), ∃ t, av = [.ref (thC L), .int t] ∧ RepC Γ L S w ∧ Inv S ∧ (∀ k, k < 2 → t = nI k → post (some (.double (FP.ddiv (FP.i2d (mwS S k)) 0x4024000000000000))) w) ∧ ((t < 0 ∨ ¬ t < 2) → xpost xI w)) := by
  refine ctr_of (by decide) ?_
  rintro g av w hG hO ⟨L, S, t, rfl, hR, hI, hk, hx⟩
  refine ⟨Nat.le_of_ble_eq_true rfl, ?_⟩
  show X g w 0 0 0 [some (.ref (thC L)), some (.int t), none, none] []
  have hnM := hI.2.1.1
  have hnN := hI.2.1.2.1
  have hnE := hI.2.1.2.2
  refine x_iload_n hG (pc := 0) 1 dX6_meanWear_0 rfl rfl ?_
  refine x_if_lt hG (pc := 1) 9 dX6_meanWear_1 (by decide) (fun h1 => ?_) (fun h1 => ?_)
  · refine x_throwW hG hO (pc := 9) _ _ lt_336 dX6_meanWear_9 dX6_meanWear_12 dX6_meanWear_13 dX6_meanWear_16 dX6_meanWear_19 (by decide) (Nat.le_of_ble_eq_true rfl) (by rw [hG.mc]; exact Nat.le_of_ble_eq_true rfl) (by rw [hG.ms]; exact Nat.le_of_ble_eq_true rfl) ?_
    exact hx (Or.inl (by assumption))
  · refine x_iload_n hG (pc := 4) 1 dX6_meanWear_4 rfl rfl ?_
    refine x_iconst hG (pc := 5) 2 dX6_meanWear_5 (by decide) ?_
    refine x_icmp_lt hG (pc := 6) 20 dX6_meanWear_6 (by decide) (fun h6 => ?_) (fun h6 => ?_)
    · obtain ⟨t0, ht0, rfl⟩ := ix_lt (n := 2) rfl (by decide) h1 h6
      refine x_iconst hG (pc := 20) 0 dX6_meanWear_20 (by decide) ?_
      refine x_istore_n hG (pc := 21) 2 dX6_meanWear_21 rfl (Nat.le_of_ble_eq_true rfl) rfl (by dsimp only [List.set]) ?_
      refine x_iconst hG (pc := 22) 0 dX6_meanWear_22 (by decide) ?_
      refine x_istore_n hG (pc := 23) 3 dX6_meanWear_23 rfl (Nat.le_of_ble_eq_true rfl) rfl (by dsimp only [List.set]) ?_
      refine nat_down (P := fun k => X g w 0 0 24 [some (.ref (thC L)), some (.int (nI t0)), some (.int (cnt (fun j => sS S (t0 * 10 + j) 0) k)), some (.int (nI k))] []) 10 (fun k hi ih => ?_) 0 (Nat.zero_le _)
      refine x_iload_n hG (pc := 24) 3 dX6_meanWear_24 rfl rfl ?_
      refine x_bipush hG (pc := 25) 10 dX6_meanWear_25 (by decide) ?_
      refine x_icmp_ge hG (pc := 27) 56 dX6_meanWear_27 (by decide) (fun h27 => ?_) (fun h27 => ?_)
      · have hkn : k = 10 := by
          rcases Nat.lt_or_ge k 10 with q | q
          · exact absurd h27 (nI_ge (b := 10) q (by decide))
          · omega
        refine x_iload_n hG (pc := 56) 2 dX6_meanWear_56 rfl rfl ?_
        refine x_i2d hG (pc := 57) dX6_meanWear_57 ?_
        refine x_ldc2d hG (pc := 58) _ dX6_meanWear_58 kc_X6_338 ?_
        refine x_ddiv hG (pc := 61) dX6_meanWear_61 (by rw [hkn]; exact mw_dv hI ht0) ?_
        refine x_dreturn hG (pc := 62) dX6_meanWear_62 rfl (by rw [hG.mc]; exact Nat.le_of_ble_eq_true rfl) (by rw [hG.ms]; exact Nat.le_of_ble_eq_true rfl) ?_
        rw [hkn]
        exact hk t0 ht0 rfl
      · have hkn : k < 10 := by
          rcases Nat.lt_or_ge k 10 with q | q
          · exact q
          · exact absurd (nI_le (a := 10) q (by omega)) h27
        refine x_iload_n hG (pc := 30) 2 dX6_meanWear_30 rfl rfl ?_
        refine x_aload_n hG (pc := 31) 0 dX6_meanWear_31 rfl rfl ?_
        refine x_getf hG (pc := 32) fl_X6_11 hR.main rfl dX6_meanWear_32 ?_
        refine x_iload_n hG (pc := 35) 1 dX6_meanWear_35 rfl rfl ?_
        refine x_bipush hG (pc := 36) 10 dX6_meanWear_36 (by decide) ?_
        refine x_imul hG (pc := 38) dX6_meanWear_38 ?_
        refine x_iload_n hG (pc := 39) 3 dX6_meanWear_39 rfl rfl ?_
        refine x_iadd hG (pc := 40) dX6_meanWear_40 ?_
        rw [ti_ix ht0]
        refine x_aaldS hG (pc := 41) hR.secs (vp_in_nI (by omega) (by decide)) dX6_meanWear_41 ?_
        rw [nI_clamp (by omega), lE_at (by omega)]
        refine x_getf hG (pc := 42) fl_X6_114 (hR.sec (i := t0 * 10 + k) (by omega)) rfl dX6_meanWear_42 ?_
        refine x_getf hG (pc := 45) fl_X6_274 (hR.val (i := t0 * 10 + k) (by omega)) rfl dX6_meanWear_45 ?_
        refine x_iadd hG (pc := 48) dX6_meanWear_48 ?_
        refine x_istore_n hG (pc := 49) 2 dX6_meanWear_49 rfl (Nat.le_of_ble_eq_true rfl) rfl (by dsimp only [List.set]) ?_
        refine x_iinc hG (pc := 50) (nI (k + 1)) dX6_meanWear_50 rfl (Nat.le_of_ble_eq_true rfl) rfl (nI_1' k) (by dsimp only [List.set]) ?_
        refine x_goto hG (pc := 53) 24 dX6_meanWear_53 (by decide) ?_
        exact ih (k + 1) (by omega) (by omega)
    · refine x_throwW hG hO (pc := 9) _ _ lt_336 dX6_meanWear_9 dX6_meanWear_12 dX6_meanWear_13 dX6_meanWear_16 dX6_meanWear_19 (by decide) (Nat.le_of_ble_eq_true rfl) (by rw [hG.mc]; exact Nat.le_of_ble_eq_true rfl) (by rw [hG.ms]; exact Nat.le_of_ble_eq_true rfl) ?_
      exact hx (Or.inr (by assumption))
set_option maxHeartbeats 400000 in
set_option maxRecDepth 100000 in
theorem c_X6_measure : CtrA yX6_measure cX6_measure 8 (some .int) (rmk 8 20 100 324) (fun Γ av w post xpost => ∃ (L : LayC) (S : St), ∃ t f o d, av = [.ref (thC L), .int t, .int f, .int o, .int d] ∧ RepC Γ L S w ∧ Inv S ∧ Out Γ L w post xpost [xI, xA, xS] (oMea S t f o d)) := by
  refine ctr_of (by decide) ?_
  rintro g av w hG hO ⟨L, S, t, f, o, d, rfl, hR, hI, hk⟩
  refine ⟨Nat.le_of_ble_eq_true rfl, ?_⟩
  show X g w 0 0 0 [some (.ref (thC L)), some (.int t), some (.int f), some (.int o), some (.int d), none, none, none] []
  have hnM := hI.2.1.1
  have hnN := hI.2.1.2.1
  have hnE := hI.2.1.2.2
  refine x_aload_n hG (pc := 0) 0 dX6_measure_0 rfl rfl ?_
  refine x_iload_n hG (pc := 1) 1 dX6_measure_1 rfl rfl ?_
  refine x_iload_n hG (pc := 2) 2 dX6_measure_2 rfl rfl ?_
  refine x_iload_n hG (pc := 3) 3 dX6_measure_3 rfl rfl ?_
  refine x_callV hG hO (pc := 4) [_, _, _] c_X6_checkStretch lk_X6_99 (by first | assumption | exact hR.main) rfl rfl ⟨by decide, by decide⟩ (Nat.le_of_ble_eq_true rfl) (by rw [hG.mc]; dsimp only [rmk]; omega) (by rw [hG.ms]; dsimp only [rmk]; omega) dX6_measure_4 ?_
  refine ⟨_, t, f, o, rfl, fun h0 => ?_, fun h1 => hk.bad (k := 0) (v := 0) (S1 := S) (by simp only [oMea, h1]) rfl, fun h1 => hk.bad (k := 1) (v := 0) (S1 := S) (by simp only [oMea, h1]) rfl⟩
  obtain ⟨t0, f0, o0, rfl, rfl, rfl, ht0, hfo, ho⟩ := str_0 h0
  refine x_iload hG (pc := 7) dX6_measure_7 rfl ?_
  refine x_bipush hG (pc := 9) (-2) dX6_measure_9 (by decide) ?_
  refine x_icmp_lt hG (pc := 11) 20 dX6_measure_11 (by decide) (fun h11 => ?_) (fun h11 => ?_)
  · refine x_throw hG hO (pc := 20) _ _ lt_102 dX6_measure_20 dX6_measure_23 dX6_measure_24 dX6_measure_26 dX6_measure_29 (by decide) (Nat.le_of_ble_eq_true rfl) (by rw [hG.mc]; dsimp only [rmk]; omega) (by rw [hG.ms]; dsimp only [rmk]; omega) ?_
    exact hk.bad (k := 1) (v := 0) (S1 := S) (by simp only [oMea, h0, h11, ↓reduceIte]) rfl
  · refine x_iload hG (pc := 14) dX6_measure_14 rfl ?_
    refine x_iconst hG (pc := 16) 2 dX6_measure_16 (by decide) ?_
    refine x_icmp_le hG (pc := 17) 30 dX6_measure_17 (by decide) (fun h17 => ?_) (fun h17 => ?_)
    · refine x_aload_n hG (pc := 30) 0 dX6_measure_30 rfl rfl ?_
      refine x_getf hG (pc := 31) fl_X6_18 hR.main rfl dX6_measure_31 ?_
      refine x_callV hG hO (pc := 34) [] c_Jx4a65c_size_8abf5 lk_X6_104 (hR.lst (id := 0) (by omega)).1 rfl rfl ⟨by decide, by decide⟩ (Nat.le_of_ble_eq_true rfl) (by rw [hG.mc]; dsimp only [rmk]; omega) (by rw [hG.ms]; dsimp only [rmk]; omega) dX6_measure_34 ?_
      refine ⟨_, _, _, _, _, rfl, (hR.lst (id := 0) (by omega)).1, ?_⟩
      refine x_bipush hG (pc := 37) 12 dX6_measure_37 (by decide) ?_
      refine x_icmp_lt hG (pc := 39) 52 dX6_measure_39 (by decide) (fun h39 => ?_) (fun h39 => ?_)
      · replace h39 : nI (nE S) < 12 := h39
        refine x_new hG (pc := 52) (7, nE S, 0) nw_X6_110 dX6_measure_52 (by rw [hG.mc]; dsimp only [rmk]; omega) (by rw [hG.ms]; dsimp only [rmk]; omega) (fun r hfr hnr => ?_)
        refine x_gen (fun w1 e1 => ?_)
        have hr1 := (congrFun e1 r).trans wup_s
        refine x_dup hG (pc := 55) dX6_measure_55 rfl ?_
        refine x_iload_n hG (pc := 56) 1 dX6_measure_56 rfl rfl ?_
        refine x_iload hG (pc := 57) dX6_measure_57 rfl ?_
        refine x_callI hG hO (pc := 59) [_, _] c_X1_init lk_X6_112 rfl rfl ⟨by decide, by decide⟩ (Nat.le_of_ble_eq_true rfl) (by rw [hG.mc]; dsimp only [rmk]; omega) (by rw [hG.ms]; dsimp only [rmk]; omega) dX6_measure_59 ?_
        refine ⟨r, _, (8, nE S, 0), nI t0, d, rfl, hr1, fun qw hfw hnw => ?_⟩
        refine x_gen (fun w2 e2 => ?_)
        have hrq : r ≠ qw := fun z => by subst z; rw [hr1] at hfw; cases hfw
        have hM0 : MeI (gΓ g) (nE S) w r qw (nI t0) d w2 (eRw S t0 d (eBas (nI t0) (nI f0) (nI o0) d) f0 0) (fun _ => 0) := by
          refine ⟨(congrFun e2 r).trans wup_s, ?_, ?_, ?_⟩
          · refine ((congrFun e2 qw).trans (wup_n (fun z => hrq z.symm))).trans (wup_s.trans ?_)
            have e : (fun _ => none) = wrF (eRw S t0 d (eBas (nI t0) (nI f0) (nI o0) d) f0 0) (fun _ => 0) := by
              funext j
              unfold wrF
              have z : ¬ eBas (nI t0) (nI f0) (nI o0) d (5 + 4 * j) = 1 := by
                unfold eBas
                rw [if_neg (by omega), if_neg (by omega), if_neg (by omega), if_neg (by omega)]
                decide
              rw [show eRw S t0 d (eBas (nI t0) (nI f0) (nI o0) d) f0 0 = eBas (nI t0) (nI f0) (nI o0) d from rfl, if_neg z]
              split <;> rfl
            rw [e]
          · intro j hj hr
            exfalso
            have z : eBas (nI t0) (nI f0) (nI o0) d (5 + 4 * j) = 1 := hr
            unfold eBas at z
            rw [if_neg (by omega), if_neg (by omega), if_neg (by omega), if_neg (by omega)] at z
            exact absurd z (by decide)
          · intro b x hb hx
            have hb1 : w1 b = some x := (congrFun e1 b).trans (wup_f hfr hb)
            have hbr : b ≠ r := fun y => by subst y; rw [hfr] at hb; cases hb
            exact ((congrFun e2 b).trans (wup_n hbr)).trans (wup_f hfw hb1)
        refine x_astore hG (pc := 62) dX6_measure_62 (Nat.le_of_ble_eq_true rfl) rfl (by dsimp only [List.set]) ?_
        refine x_iload_n hG (pc := 64) 2 dX6_measure_64 rfl rfl ?_
        refine x_istore hG (pc := 65) dX6_measure_65 (Nat.le_of_ble_eq_true rfl) rfl (by dsimp only [List.set]) ?_
        refine nat_down (P := fun n => ∀ (q9 : Nat → Nat) (w3 : Wd) (z : Option Value), MeI (gΓ g) (nE S) w r qw (nI t0) d w3 (eRw S t0 d (eBas (nI t0) (nI f0) (nI o0) d) f0 n) q9 → X g w3 (3 + n) (20 + 3 * n) 67 [some (.ref (thC L)), some (.int (nI t0)), some (.int (nI f0)), some (.int (nI o0)), some (.int d), some (.ref r), some (.int (nI (f0 + n))), z] []) (o0 + 1 - f0) (fun n hn ih q9 w3 z hM => ?_) 0 (Nat.zero_le _) (fun _ => 0) w2 none hM0
        have hR3 := hM.rep hR
        refine x_iload hG (pc := 67) dX6_measure_67 rfl ?_
        refine x_iload_n hG (pc := 69) 3 dX6_measure_69 rfl rfl ?_
        refine x_icmp_gt hG (pc := 70) 120 dX6_measure_70 (by decide) (fun h70 => ?_) (fun h70 => ?_)
        · have hne : n = o0 + 1 - f0 := by
            rcases Nat.lt_or_ge n (o0 + 1 - f0) with q | q
            · exact absurd h70 (Int32.not_lt.mpr (nI_le (by omega) (by omega)))
            · omega
          refine x_aload_n hG (pc := 120) 0 dX6_measure_120 rfl rfl ?_
          refine x_getf hG (pc := 121) fl_X6_18 hR3.main rfl dX6_measure_121 ?_
          refine x_aload hG (pc := 124) dX6_measure_124 rfl ?_
          refine x_callV hG hO (pc := 126) [_] c_Jx4a65c_add_9ea2d lk_X6_121 (hR3.lst (id := 0) (by omega)).1 rfl rfl ⟨by decide, by decide⟩ (Nat.le_of_ble_eq_true rfl) (by rw [hG.mc]; dsimp only [rmk]; omega) (by rw [hG.ms]; dsimp only [rmk]; omega) dX6_measure_126 ?_
          refine ⟨_, (5, 0, 0), (6, 0, 0), _, _, _, nE S, elC L.1 0, r, _, _, rfl, hR3.lst (id := 0) (by omega), by omega, hM.1, oke_c cob_3, (by intro z; cases z), (by intro z; cases z), (by intro z; cases z), fun i hi => ⟨_, _, hR3.mea hi, oke_c cob_3, (by intro z; cases z)⟩, fun w5 e5 cap5 hAL hF5 => ?_⟩
          subst hne
          obtain ⟨L1, hth, hR5⟩ := hR3.aE (qw := qw) (q9 := q9) (f := eRw S t0 d (eBas (nI t0) (nI f0) (nI o0) d) f0 (o0 + 1 - f0)) hAL (by rw [eRw_lo (by decide), eRw_lo (by decide), eRw_lo (by decide)]; exact hF5 _ _ hM.1 (by intro z; cases z) (by intro z; cases z)) (hF5 _ _ hM.2.1 (by intro z; cases z) (by intro z; cases z)) (fun j hj hr => hF5 _ _ (hM.2.2.1 j hj hr) (by intro z; cases z) (by intro z; cases z)) (fun b x hb z1 z2 z3 => hF5 b x hb z1 z2)
          have hF6 : FrM w w5 := fun b x hb hx => hF5 b x (hM.2.2.2 b x hb (fun z => by omega)) (fun z => by rw [z] at hx; exact absurd hx (by decide)) (fun z => by rw [z] at hx; exact absurd hx (by decide))
          have hm5 := hR5.main
          rw [show L1.1 (1, 0, 0) = L.1 (1, 0, 0) from hth] at hm5
          refine x_pop hG (pc := 129) dX6_measure_129 rfl ?_
          refine x_aload_n hG (pc := 130) 0 dX6_measure_130 rfl rfl ?_
          refine x_getf hG (pc := 131) fl_X6_18 hm5 rfl dX6_measure_131 ?_
          refine x_callV hG hO (pc := 134) [] c_Jx4a65c_size_8abf5 lk_X6_104 (hR5.lst (id := 0) (by omega)).1 rfl rfl ⟨by decide, by decide⟩ (Nat.le_of_ble_eq_true rfl) (by rw [hG.mc]; dsimp only [rmk]; omega) (by rw [hG.ms]; dsimp only [rmk]; omega) dX6_measure_134 ?_
          refine ⟨_, _, _, _, _, rfl, (hR5.lst (id := 0) (by omega)).1, ?_⟩
          show X g w5 _ _ _ _ [.int (nI (nE S + 1))]
          refine x_iconst hG (pc := 137) 1 dX6_measure_137 (by decide) ?_
          refine x_isub hG (pc := 138) dX6_measure_138 ?_
          rw [nI_pred]
          refine x_ireturn hG (pc := 139) dX6_measure_139 rfl rfl (by rw [hG.mc]; dsimp only [rmk]; omega) (by rw [hG.ms]; dsimp only [rmk]; omega) ?_
          exact hk.ok (by simp only [oMea, h0, h11, h17, h39, eRow, nI_clamp (show t0 < 2 ^ 31 by omega), nI_clamp (show f0 < 2 ^ 31 by omega), nI_clamp (show o0 < 2 ^ 31 by omega), ↓reduceIte]) hth hR5 hF6
        · have hnl : n < o0 + 1 - f0 := by
            rcases Nat.lt_or_ge n (o0 + 1 - f0) with q | q
            · exact q
            · exact absurd (nI_lt2 (i := o0) (k := f0 + n) (by omega) (by omega)) h70
          refine x_iload hG (pc := 73) dX6_measure_73 rfl ?_
          refine x_iload hG (pc := 75) dX6_measure_75 rfl ?_
          refine x_iadd hG (pc := 77) dX6_measure_77 ?_
          refine x_istore hG (pc := 78) dX6_measure_78 (Nat.le_of_ble_eq_true rfl) rfl (by dsimp only [List.set]) ?_
          refine x_iload hG (pc := 80) dX6_measure_80 rfl ?_
          refine x_if_lt hG (pc := 82) 114 dX6_measure_82 (by decide) (fun h82 => ?_) (fun h82 => ?_)
          · have hrow : eSt S t0 d (eRw S t0 d (eBas (nI t0) (nI f0) (nI o0) d) f0 n) (f0 + n) = _ := if_pos h82
            refine x_iinc hG (pc := 114) (nI (f0 + (n + 1))) dX6_measure_114 rfl (Nat.le_of_ble_eq_true rfl) rfl (nI_1' (f0 + n)) (by dsimp only [List.set]) ?_
            refine x_goto hG (pc := 117) 67 dX6_measure_117 (by decide) ?_
            have hrow2 : eRw S t0 d (eBas (nI t0) (nI f0) (nI o0) d) f0 (n + 1) = _ := hrow
            first
              | exact ih (n + 1) (by omega) (by omega) _ w4 _ (by rw [hrow2]; exact hM4)
              | exact x_widen (kc2 := 3 + (n + 1)) (ks2 := 20 + 3 * (n + 1)) (by omega) (by omega) (ih (n + 1) (by omega) (by omega) q9 w3 _ (by rw [hrow2]; exact hM))
          · refine x_iload hG (pc := 85) dX6_measure_85 rfl ?_
            refine x_bipush hG (pc := 87) 10 dX6_measure_87 (by decide) ?_
            refine x_icmp_ge hG (pc := 89) 114 dX6_measure_89 (by decide) (fun h89 => ?_) (fun h89 => ?_)
            · have hrow : eSt S t0 d (eRw S t0 d (eBas (nI t0) (nI f0) (nI o0) d) f0 n) (f0 + n) = _ := (if_neg h82).trans (if_neg (fun q => absurd h89 (Int32.not_le.mpr q)))
              refine x_iinc hG (pc := 114) (nI (f0 + (n + 1))) dX6_measure_114 rfl (Nat.le_of_ble_eq_true rfl) rfl (nI_1' (f0 + n)) (by dsimp only [List.set]) ?_
              refine x_goto hG (pc := 117) 67 dX6_measure_117 (by decide) ?_
              have hrow2 : eRw S t0 d (eBas (nI t0) (nI f0) (nI o0) d) f0 (n + 1) = _ := hrow
              first
                | exact ih (n + 1) (by omega) (by omega) _ w4 _ (by rw [hrow2]; exact hM4)
                | exact x_widen (kc2 := 3 + (n + 1)) (ks2 := 20 + 3 * (n + 1)) (by omega) (by omega) (ih (n + 1) (by omega) (by omega) q9 w3 _ (by rw [hrow2]; exact hM))
            · refine x_aload hG (pc := 92) dX6_measure_92 rfl ?_
              refine x_iload hG (pc := 94) dX6_measure_94 rfl ?_
              refine x_aload_n hG (pc := 96) 0 dX6_measure_96 rfl rfl ?_
              refine x_getf hG (pc := 97) fl_X6_11 hR3.main rfl dX6_measure_97 ?_
              refine x_iload_n hG (pc := 100) 1 dX6_measure_100 rfl rfl ?_
              refine x_bipush hG (pc := 101) 10 dX6_measure_101 (by decide) ?_
              refine x_imul hG (pc := 103) dX6_measure_103 ?_
              refine x_iload hG (pc := 104) dX6_measure_104 rfl ?_
              refine x_iadd hG (pc := 106) dX6_measure_106 ?_
              obtain ⟨j, hj, hje⟩ := ix_lt (n := 10) rfl (by decide) h82 (Int32.not_le.mp h89)
              have hrow : eSt S t0 d (eRw S t0 d (eBas (nI t0) (nI f0) (nI o0) d) f0 n) (f0 + n) = _ := (if_neg h82).trans (if_pos (Int32.not_le.mp h89))
              rw [hje, nI_clamp (by omega)] at hrow
              rw [hje, ti_ix ht0]
              refine x_aaldS hG (pc := 107) hR3.secs (vp_in_nI (by omega) (by decide)) dX6_measure_107 ?_
              rw [nI_clamp (by omega), lE_at (by omega)]
              refine x_getf hG (pc := 108) fl_X6_114 (hR3.sec (i := t0 * 10 + j) (by omega)) rfl dX6_measure_108 ?_
              refine x_callV hG hO (pc := 111) [_, _] c_X1_write lk_X6_117 hM.1 rfl rfl ⟨by decide, by decide⟩ (Nat.le_of_ble_eq_true rfl) (by rw [hG.mc]; dsimp only [rmk]; omega) (by rw [hG.ms]; dsimp only [rmk]; omega) dX6_measure_111 ?_
              refine ⟨r, _, _, _, _, qw, _, _, f0 + n, _, _, _, _, _, (9, nE S, f0 + n), rfl, hM.1, hM.2.1, hR3.val (i := t0 * 10 + j) (by omega), by omega, fun q hfq hnq => ?_⟩
              refine x_gen (fun w4 e4 => ?_)
              have hM4 := hM.st (k := f0 + n) (by omega) hfq e4
              refine x_iinc hG (pc := 114) (nI (f0 + (n + 1))) dX6_measure_114 rfl (Nat.le_of_ble_eq_true rfl) rfl (nI_1' (f0 + n)) (by dsimp only [List.set]) ?_
              refine x_goto hG (pc := 117) 67 dX6_measure_117 (by decide) ?_
              have hrow2 : eRw S t0 d (eBas (nI t0) (nI f0) (nI o0) d) f0 (n + 1) = _ := hrow
              first
                | exact ih (n + 1) (by omega) (by omega) _ w4 _ (by rw [hrow2]; exact hM4)
                | exact x_widen (kc2 := 3 + (n + 1)) (ks2 := 20 + 3 * (n + 1)) (by omega) (by omega) (ih (n + 1) (by omega) (by omega) q9 w3 _ (by rw [hrow2]; exact hM))
      · replace h39 : ¬ (nI (nE S) < 12) := h39
        refine x_throw hG hO (pc := 42) _ _ lt_108 dX6_measure_42 dX6_measure_45 dX6_measure_46 dX6_measure_48 dX6_measure_51 (by decide) (Nat.le_of_ble_eq_true rfl) (by rw [hG.mc]; dsimp only [rmk]; omega) (by rw [hG.ms]; dsimp only [rmk]; omega) ?_
        exact hk.bad (k := 2) (v := 0) (S1 := S) (by simp only [oMea, h0, h11, h17, h39, ↓reduceIte]) rfl
    · refine x_throw hG hO (pc := 20) _ _ lt_102 dX6_measure_20 dX6_measure_23 dX6_measure_24 dX6_measure_26 dX6_measure_29 (by decide) (Nat.le_of_ble_eq_true rfl) (by rw [hG.mc]; dsimp only [rmk]; omega) (by rw [hG.ms]; dsimp only [rmk]; omega) ?_
      exact hk.bad (k := 1) (v := 0) (S1 := S) (by simp only [oMea, h0, h11, h17, ↓reduceIte]) rfl
