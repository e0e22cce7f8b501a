/-! TrackNights: what is known, why, how many -/
def wyV (S : St) (k : Nat) (b : Int32) : Int32 := if b = 0 then s_dec (sS S k 0) (sS S k 1) (sS S k 2) (gl S 1 - sS S k 4) else s_dec (knV S 0 (kby S (nI k) (nE S))) (knV S 1 (kby S (nI k) (nE S))) (knV S 2 (kby S (nI k) (nE S))) (gl S 1 - sS S k 4)
def oWhy (S : St) (i b : Int32) : Oc := match ixO i 20 with
  | none => (1, 0, S)
  | some k => (0, wyV S k b, S)
set_option maxHeartbeats 400000 in
set_option maxRecDepth 100000 in
theorem c_X6_known : CtrA yX6_known cX6_known 5 (some .int) (rmk 8 4 24 140) (fun Γ av w post xpost => ∃ (L : LayC) (S : St), ∃ i u, av = [.ref (thC L), .int i, .int u] ∧ RepC Γ L S w ∧ Inv S ∧ Out Γ L w post xpost [xI, xA] (oKno S i u)) := by
  refine ctr_of (by decide) ?_
  rintro g av w hG hO ⟨L, S, i, u, rfl, hR, hI, hk⟩
  refine ⟨Nat.le_of_ble_eq_true rfl, ?_⟩
  show X g w 0 0 0 [some (.ref (thC L)), some (.int i), some (.int u), none, none] []
  have hnM := hI.2.1.1
  have hnN := hI.2.1.2.1
  have hnE := hI.2.1.2.2
  refine x_aload_n hG (pc := 0) 0 dX6_known_0 rfl rfl ?_
  refine x_iload_n hG (pc := 1) 1 dX6_known_1 rfl rfl ?_
  refine x_callV hG hO (pc := 2) [_] c_X6_sectionAt lk_X6_64 (by first | assumption | exact hR.main) rfl rfl ⟨by decide, by decide⟩ (Nat.le_of_ble_eq_true rfl) (by rw [hG.mc]; exact Nat.le_of_ble_eq_true rfl) (by rw [hG.ms]; exact Nat.le_of_ble_eq_true rfl) dX6_known_2 ?_
  refine ⟨L, S, i, rfl, hR, fun k hkn hiq => ?_, fun hb => hk.bad (k := 0) (v := 0) (S1 := S) (by simp only [oKno, ixO_n (n := 20) hb (by decide)]) rfl⟩
  subst hiq
  refine x_astore_n hG (pc := 5) 3 dX6_known_5 rfl (Nat.le_of_ble_eq_true rfl) rfl (by dsimp only [List.set]) ?_
  refine x_aload_n hG (pc := 6) 0 dX6_known_6 rfl rfl ?_
  refine x_iload_n hG (pc := 7) 1 dX6_known_7 rfl rfl ?_
  refine x_callV hG hO (pc := 8) [_] c_X6_knownValues lk_X6_294 (by first | assumption | exact hR.main) rfl rfl ⟨by decide, by decide⟩ (Nat.le_of_ble_eq_true rfl) (by rw [hG.mc]; exact Nat.le_of_ble_eq_true rfl) (by rw [hG.ms]; exact Nat.le_of_ble_eq_true rfl) dX6_known_8 ?_
  refine ⟨L, S, nI k, rfl, hR, ?_⟩
  obtain ⟨tk, hkv⟩ := hR.knw (nI k)
  refine x_astore hG (pc := 11) dX6_known_11 (Nat.le_of_ble_eq_true rfl) rfl (by dsimp only [List.set]) ?_
  refine x_iload_n hG (pc := 13) 2 dX6_known_13 rfl rfl ?_
  by_cases q0 : u = nI 0
  · subst q0
    refine x_tableIn hG (pc := 14) (off := 34) 48 dX6_known_14 (by decide) (by decide) (by decide) (by decide) ?_
    refine x_aload hG (pc := 48) dX6_known_48 rfl ?_
    refine x_getf hG (pc := 50) fl_X6_274 hkv rfl dX6_known_50 ?_
    refine x_ireturn hG (pc := 53) dX6_known_53 rfl rfl (by rw [hG.mc]; exact Nat.le_of_ble_eq_true rfl) (by rw [hG.ms]; exact Nat.le_of_ble_eq_true rfl) ?_
    exact fin_i rfl (hk.ok (v := knS S k 0) (by simp only [oKno, ixO_s (n := 20) hkn (by decide), ixO_s (k := 0) (n := 5) (by decide) (by decide)]) rfl hR FrM.rf)
  · by_cases q1 : u = nI 1
    · subst q1
      refine x_tableIn hG (pc := 14) (off := 40) 54 dX6_known_14 (by decide) (by decide) (by decide) (by decide) ?_
      refine x_aload hG (pc := 54) dX6_known_54 rfl ?_
      refine x_getf hG (pc := 56) fl_X6_277 hkv rfl dX6_known_56 ?_
      refine x_ireturn hG (pc := 59) dX6_known_59 rfl rfl (by rw [hG.mc]; exact Nat.le_of_ble_eq_true rfl) (by rw [hG.ms]; exact Nat.le_of_ble_eq_true rfl) ?_
      exact fin_i rfl (hk.ok (v := knS S k 1) (by simp only [oKno, ixO_s (n := 20) hkn (by decide), ixO_s (k := 1) (n := 5) (by decide) (by decide)]) rfl hR FrM.rf)
    · by_cases q2 : u = nI 2
      · subst q2
        refine x_tableIn hG (pc := 14) (off := 46) 60 dX6_known_14 (by decide) (by decide) (by decide) (by decide) ?_
        refine x_aload hG (pc := 60) dX6_known_60 rfl ?_
        refine x_getf hG (pc := 62) fl_X6_280 hkv rfl dX6_known_62 ?_
        refine x_ireturn hG (pc := 65) dX6_known_65 rfl rfl (by rw [hG.mc]; exact Nat.le_of_ble_eq_true rfl) (by rw [hG.ms]; exact Nat.le_of_ble_eq_true rfl) ?_
        exact fin_i rfl (hk.ok (v := knS S k 2) (by simp only [oKno, ixO_s (n := 20) hkn (by decide), ixO_s (k := 2) (n := 5) (by decide) (by decide)]) rfl hR FrM.rf)
      · by_cases q3 : u = nI 3
        · subst q3
          refine x_tableIn hG (pc := 14) (off := 52) 66 dX6_known_14 (by decide) (by decide) (by decide) (by decide) ?_
          refine x_aload hG (pc := 66) dX6_known_66 rfl ?_
          refine x_aload_n hG (pc := 68) 0 dX6_known_68 rfl rfl ?_
          refine x_getf hG (pc := 69) fl_X6_46 hR.main rfl dX6_known_69 ?_
          refine x_aload_n hG (pc := 72) 3 dX6_known_72 rfl rfl ?_
          refine x_getf hG (pc := 73) fl_X6_286 (hR.sec hkn) rfl dX6_known_73 ?_
          refine x_isub hG (pc := 76) dX6_known_76 ?_
          refine x_callV hG hO (pc := 77) [_] c_X4_speed lk_X6_298 hkv rfl rfl ⟨by decide, by decide⟩ (Nat.le_of_ble_eq_true rfl) (by rw [hG.mc]; exact Nat.le_of_ble_eq_true rfl) (by rw [hG.ms]; exact Nat.le_of_ble_eq_true rfl) dX6_known_77 ?_
          refine ⟨_, _, _, _, _, _, rfl, hkv, ?_⟩
          refine x_ireturn hG (pc := 80) dX6_known_80 rfl rfl (by rw [hG.mc]; exact Nat.le_of_ble_eq_true rfl) (by rw [hG.ms]; exact Nat.le_of_ble_eq_true rfl) ?_
          exact fin_i rfl (hk.ok (v := knS S k 3) (by simp only [oKno, ixO_s (n := 20) hkn (by decide), ixO_s (k := 3) (n := 5) (by decide) (by decide)]) rfl hR FrM.rf)
        · by_cases q4 : u = nI 4
          · subst q4
            refine x_tableIn hG (pc := 14) (off := 67) 81 dX6_known_14 (by decide) (by decide) (by decide) (by decide) ?_
            refine x_aload_n hG (pc := 81) 0 dX6_known_81 rfl rfl ?_
            refine x_iload_n hG (pc := 82) 1 dX6_known_82 rfl rfl ?_
            refine x_callV hG hO (pc := 83) [_] c_X6_knowingMeasure lk_X6_301 (by first | assumption | exact hR.main) rfl rfl ⟨by decide, by decide⟩ (Nat.le_of_ble_eq_true rfl) (by rw [hG.mc]; exact Nat.le_of_ble_eq_true rfl) (by rw [hG.ms]; exact Nat.le_of_ble_eq_true rfl) dX6_known_83 ?_
            refine ⟨L, S, nI k, rfl, hR, ?_⟩
            refine x_ireturn hG (pc := 86) dX6_known_86 rfl rfl (by rw [hG.mc]; exact Nat.le_of_ble_eq_true rfl) (by rw [hG.ms]; exact Nat.le_of_ble_eq_true rfl) ?_
            exact fin_i rfl (hk.ok (v := knS S k 4) (by simp only [oKno, ixO_s (n := 20) hkn (by decide), ixO_s (k := 4) (n := 5) (by decide) (by decide)]) rfl hR FrM.rf)
          · have hnu := sw_out (u := u) (n := 5) (by decide) (all_s (p := fun j => u = nI j) (all_s (all_s (all_s (all_s (fun j h => absurd h (Nat.not_lt_zero _)) q0) q1) q2) q3) q4)
            refine x_tableOut hG (pc := 14) 87 dX6_known_14 (by omega) (by decide) ?_
            refine x_throwW hG hO (pc := 87) _ _ lt_304 dX6_known_87 dX6_known_90 dX6_known_91 dX6_known_94 dX6_known_97 (by decide) (Nat.le_of_ble_eq_true rfl) (by rw [hG.mc]; exact Nat.le_of_ble_eq_true rfl) (by rw [hG.ms]; exact Nat.le_of_ble_eq_true rfl) ?_
            exact hk.bad (k := 1) (v := 0) (S1 := S) (by simp only [oKno, ixO_s (n := 20) hkn (by decide), sw_no hnu]) rfl
set_option maxHeartbeats 400000 in
set_option maxRecDepth 100000 in
theorem v_X6_known : CtrA yX6_known cX6_known 5 (some .int) (rmk 5 0 0 110) (fun Γ av w post xpost => ∃ (L : LayC) (S : St), ∃ k v, av = [.ref (thC L), .int (nI k), .int (nI v)] ∧ RepC Γ L S w ∧ Inv S ∧ k < 20 ∧ v < 5 ∧ post (some (.int (knS S k v))) w) := by
  refine ctr_of (by decide) ?_
  rintro g av w hG hO ⟨L, S, k, v, rfl, hR, hI, hkn, hv, hk⟩
  refine ⟨Nat.le_of_ble_eq_true rfl, ?_⟩
  show X g w 0 0 0 [some (.ref (thC L)), some (.int (nI k)), some (.int (nI v)), none, none] []
  have hnM := hI.2.1.1
  have hnN := hI.2.1.2.1
  have hnE := hI.2.1.2.2
  refine x_aload_n hG (pc := 0) 0 dX6_known_0 rfl rfl ?_
  refine x_iload_n hG (pc := 1) 1 dX6_known_1 rfl rfl ?_
  refine x_callV hG hO (pc := 2) [_] v_X6_sectionAt lk_X6_64 (by first | assumption | exact hR.main) rfl rfl ⟨by decide, by decide⟩ (Nat.le_of_ble_eq_true rfl) (by rw [hG.mc]; exact Nat.le_of_ble_eq_true rfl) (by rw [hG.ms]; exact Nat.le_of_ble_eq_true rfl) dX6_known_2 ?_
  refine ⟨L, S, k, rfl, hR, hkn, ?_⟩
  refine x_astore_n hG (pc := 5) 3 dX6_known_5 rfl (Nat.le_of_ble_eq_true rfl) rfl (by dsimp only [List.set]) ?_
  refine x_aload_n hG (pc := 6) 0 dX6_known_6 rfl rfl ?_
  refine x_iload_n hG (pc := 7) 1 dX6_known_7 rfl rfl ?_
  refine x_callV hG hO (pc := 8) [_] c_X6_knownValues lk_X6_294 (by first | assumption | exact hR.main) rfl rfl ⟨by decide, by decide⟩ (Nat.le_of_ble_eq_true rfl) (by rw [hG.mc]; exact Nat.le_of_ble_eq_true rfl) (by rw [hG.ms]; exact Nat.le_of_ble_eq_true rfl) dX6_known_8 ?_
  refine ⟨L, S, nI k, rfl, hR, ?_⟩
  obtain ⟨tk, hkv⟩ := hR.knw (nI k)
  refine x_astore hG (pc := 11) dX6_known_11 (Nat.le_of_ble_eq_true rfl) rfl (by dsimp only [List.set]) ?_
  refine x_iload_n hG (pc := 13) 2 dX6_known_13 rfl rfl ?_
  by_cases q0 : v = 0
  · subst q0
    refine x_tableIn hG (pc := 14) (off := 34) 48 dX6_known_14 (by decide) (by decide) (by decide) (by decide) ?_
    refine x_aload hG (pc := 48) dX6_known_48 rfl ?_
    refine x_getf hG (pc := 50) fl_X6_274 hkv rfl dX6_known_50 ?_
    refine x_ireturn hG (pc := 53) dX6_known_53 rfl rfl (by rw [hG.mc]; exact Nat.le_of_ble_eq_true rfl) (by rw [hG.ms]; exact Nat.le_of_ble_eq_true rfl) ?_
    exact fin_i rfl hk
  · by_cases q1 : v = 1
    · subst q1
      refine x_tableIn hG (pc := 14) (off := 40) 54 dX6_known_14 (by decide) (by decide) (by decide) (by decide) ?_
      refine x_aload hG (pc := 54) dX6_known_54 rfl ?_
      refine x_getf hG (pc := 56) fl_X6_277 hkv rfl dX6_known_56 ?_
      refine x_ireturn hG (pc := 59) dX6_known_59 rfl rfl (by rw [hG.mc]; exact Nat.le_of_ble_eq_true rfl) (by rw [hG.ms]; exact Nat.le_of_ble_eq_true rfl) ?_
      exact fin_i rfl hk
    · by_cases q2 : v = 2
      · subst q2
        refine x_tableIn hG (pc := 14) (off := 46) 60 dX6_known_14 (by decide) (by decide) (by decide) (by decide) ?_
        refine x_aload hG (pc := 60) dX6_known_60 rfl ?_
        refine x_getf hG (pc := 62) fl_X6_280 hkv rfl dX6_known_62 ?_
        refine x_ireturn hG (pc := 65) dX6_known_65 rfl rfl (by rw [hG.mc]; exact Nat.le_of_ble_eq_true rfl) (by rw [hG.ms]; exact Nat.le_of_ble_eq_true rfl) ?_
        exact fin_i rfl hk
      · by_cases q3 : v = 3
        · subst q3
          refine x_tableIn hG (pc := 14) (off := 52) 66 dX6_known_14 (by decide) (by decide) (by decide) (by decide) ?_
          refine x_aload hG (pc := 66) dX6_known_66 rfl ?_
          refine x_aload_n hG (pc := 68) 0 dX6_known_68 rfl rfl ?_
          refine x_getf hG (pc := 69) fl_X6_46 hR.main rfl dX6_known_69 ?_
          refine x_aload_n hG (pc := 72) 3 dX6_known_72 rfl rfl ?_
          refine x_getf hG (pc := 73) fl_X6_286 (hR.sec hkn) rfl dX6_known_73 ?_
          refine x_isub hG (pc := 76) dX6_known_76 ?_
          refine x_callV hG hO (pc := 77) [_] c_X4_speed lk_X6_298 hkv rfl rfl ⟨by decide, by decide⟩ (Nat.le_of_ble_eq_true rfl) (by rw [hG.mc]; exact Nat.le_of_ble_eq_true rfl) (by rw [hG.ms]; exact Nat.le_of_ble_eq_true rfl) dX6_known_77 ?_
          refine ⟨_, _, _, _, _, _, rfl, hkv, ?_⟩
          refine x_ireturn hG (pc := 80) dX6_known_80 rfl rfl (by rw [hG.mc]; exact Nat.le_of_ble_eq_true rfl) (by rw [hG.ms]; exact Nat.le_of_ble_eq_true rfl) ?_
          exact fin_i rfl hk
        · by_cases q4 : v = 4
          · subst q4
            refine x_tableIn hG (pc := 14) (off := 67) 81 dX6_known_14 (by decide) (by decide) (by decide) (by decide) ?_
            refine x_aload_n hG (pc := 81) 0 dX6_known_81 rfl rfl ?_
            refine x_iload_n hG (pc := 82) 1 dX6_known_82 rfl rfl ?_
            refine x_callV hG hO (pc := 83) [_] c_X6_knowingMeasure lk_X6_301 (by first | assumption | exact hR.main) rfl rfl ⟨by decide, by decide⟩ (Nat.le_of_ble_eq_true rfl) (by rw [hG.mc]; exact Nat.le_of_ble_eq_true rfl) (by rw [hG.ms]; exact Nat.le_of_ble_eq_true rfl) dX6_known_83 ?_
            refine ⟨L, S, nI k, rfl, hR, ?_⟩
            refine x_ireturn hG (pc := 86) dX6_known_86 rfl rfl (by rw [hG.mc]; exact Nat.le_of_ble_eq_true rfl) (by rw [hG.ms]; exact Nat.le_of_ble_eq_true rfl) ?_
            exact fin_i rfl hk
          · exact absurd hv (by omega)
set_option maxHeartbeats 400000 in
set_option maxRecDepth 100000 in
theorem c_X6_many : CtrA yX6_many cX6_many 2 (some .int) (rmk 6 4 24 133) (fun Γ av w post xpost => ∃ (L : LayC) (S : St), ∃ u, av = [.ref (thC L), .int u] ∧ RepC Γ L S w ∧ Inv S ∧ Out Γ L w post xpost [xA] (oMan S u)) := by
  refine ctr_of (by decide) ?_
  rintro g av w hG hO ⟨L, S, u, rfl, hR, hI, hk⟩
  refine ⟨Nat.le_of_ble_eq_true rfl, ?_⟩
  show X g w 0 0 0 [some (.ref (thC L)), some (.int u)] []
  have hnM := hI.2.1.1
  have hnN := hI.2.1.2.1
  have hnE := hI.2.1.2.2
  refine x_iload_n hG (pc := 0) 1 dX6_many_0 rfl rfl ?_
  by_cases q0 : u = nI 0
  · subst q0
    refine x_tableIn hG (pc := 1) (off := 83) 84 dX6_many_1 (by decide) (by decide) (by decide) (by decide) ?_
    refine x_aload_n hG (pc := 84) 0 dX6_many_84 rfl rfl ?_
    refine x_getf hG (pc := 85) fl_X6_42 hR.main rfl dX6_many_85 ?_
    refine x_ireturn hG (pc := 88) dX6_many_88 rfl rfl (by rw [hG.mc]; exact Nat.le_of_ble_eq_true rfl) (by rw [hG.ms]; exact Nat.le_of_ble_eq_true rfl) ?_
    exact fin_i rfl (hk.ok (v := manV S 0) (by simp only [oMan, ixO_s (k := 0) (n := 17) (by decide) (by decide)]) rfl hR FrM.rf)
  · by_cases q1 : u = nI 1
    · subst q1
      refine x_tableIn hG (pc := 1) (off := 88) 89 dX6_many_1 (by decide) (by decide) (by decide) (by decide) ?_
      refine x_aload_n hG (pc := 89) 0 dX6_many_89 rfl rfl ?_
      refine x_getf hG (pc := 90) fl_X6_22 hR.main rfl dX6_many_90 ?_
      refine x_callV hG hO (pc := 93) [] c_Jx4a65c_size_8abf5 lk_X6_104 (hR.lst (id := 1) (by omega)).1 rfl rfl ⟨by decide, by decide⟩ (Nat.le_of_ble_eq_true rfl) (by rw [hG.mc]; exact Nat.le_of_ble_eq_true rfl) (by rw [hG.ms]; exact Nat.le_of_ble_eq_true rfl) dX6_many_93 ?_
      refine ⟨_, _, _, _, _, rfl, (hR.lst (id := 1) (by omega)).1, ?_⟩
      refine x_ireturn hG (pc := 96) dX6_many_96 rfl rfl (by rw [hG.mc]; exact Nat.le_of_ble_eq_true rfl) (by rw [hG.ms]; exact Nat.le_of_ble_eq_true rfl) ?_
      exact fin_i rfl (hk.ok (v := manV S 1) (by simp only [oMan, ixO_s (k := 1) (n := 17) (by decide) (by decide)]) rfl hR FrM.rf)
    · by_cases q2 : u = nI 2
      · subst q2
        refine x_tableIn hG (pc := 1) (off := 96) 97 dX6_many_1 (by decide) (by decide) (by decide) (by decide) ?_
        refine x_aload_n hG (pc := 97) 0 dX6_many_97 rfl rfl ?_
        refine x_getf hG (pc := 98) fl_X6_18 hR.main rfl dX6_many_98 ?_
        refine x_callV hG hO (pc := 101) [] c_Jx4a65c_size_8abf5 lk_X6_104 (hR.lst (id := 0) (by omega)).1 rfl rfl ⟨by decide, by decide⟩ (Nat.le_of_ble_eq_true rfl) (by rw [hG.mc]; exact Nat.le_of_ble_eq_true rfl) (by rw [hG.ms]; exact Nat.le_of_ble_eq_true rfl) dX6_many_101 ?_
        refine ⟨_, _, _, _, _, rfl, (hR.lst (id := 0) (by omega)).1, ?_⟩
        refine x_ireturn hG (pc := 104) dX6_many_104 rfl rfl (by rw [hG.mc]; exact Nat.le_of_ble_eq_true rfl) (by rw [hG.ms]; exact Nat.le_of_ble_eq_true rfl) ?_
        exact fin_i rfl (hk.ok (v := manV S 2) (by simp only [oMan, ixO_s (k := 2) (n := 17) (by decide) (by decide)]) rfl hR FrM.rf)
      · by_cases q3 : u = nI 3
        · subst q3
          refine x_tableIn hG (pc := 1) (off := 104) 105 dX6_many_1 (by decide) (by decide) (by decide) (by decide) ?_
          refine x_aload_n hG (pc := 105) 0 dX6_many_105 rfl rfl ?_
          refine x_callV hG hO (pc := 106) [] c_X6_countAligned lk_X6_322 (by first | assumption | exact hR.main) rfl rfl ⟨by decide, by decide⟩ (Nat.le_of_ble_eq_true rfl) (by rw [hG.mc]; exact Nat.le_of_ble_eq_true rfl) (by rw [hG.ms]; exact Nat.le_of_ble_eq_true rfl) dX6_many_106 ?_
          refine ⟨L, S, rfl, hR, ?_⟩
          refine x_ireturn hG (pc := 109) dX6_many_109 rfl rfl (by rw [hG.mc]; exact Nat.le_of_ble_eq_true rfl) (by rw [hG.ms]; exact Nat.le_of_ble_eq_true rfl) ?_
          exact fin_i rfl (hk.ok (v := manV S 3) (by simp only [oMan, ixO_s (k := 3) (n := 17) (by decide) (by decide)]) rfl hR FrM.rf)
        · by_cases q4 : u = nI 4
          · subst q4
            refine x_tableIn hG (pc := 1) (off := 109) 110 dX6_many_1 (by decide) (by decide) (by decide) (by decide) ?_
            refine x_aload_n hG (pc := 110) 0 dX6_many_110 rfl rfl ?_
            refine x_iconst hG (pc := 111) 0 dX6_many_111 (by decide) ?_
            refine x_callV hG hO (pc := 112) [_] c_X6_countPossessions lk_X6_325 (by first | assumption | exact hR.main) rfl rfl ⟨by decide, by decide⟩ (Nat.le_of_ble_eq_true rfl) (by rw [hG.mc]; exact Nat.le_of_ble_eq_true rfl) (by rw [hG.ms]; exact Nat.le_of_ble_eq_true rfl) dX6_many_112 ?_
            refine ⟨L, S, 0, rfl, hR, ?_⟩
            refine x_ireturn hG (pc := 115) dX6_many_115 rfl rfl (by rw [hG.mc]; exact Nat.le_of_ble_eq_true rfl) (by rw [hG.ms]; exact Nat.le_of_ble_eq_true rfl) ?_
            exact fin_i rfl (hk.ok (v := manV S 4) (by simp only [oMan, ixO_s (k := 4) (n := 17) (by decide) (by decide)]) rfl hR FrM.rf)
          · by_cases q5 : u = nI 5
            · subst q5
              refine x_tableIn hG (pc := 1) (off := 115) 116 dX6_many_1 (by decide) (by decide) (by decide) (by decide) ?_
              refine x_aload_n hG (pc := 116) 0 dX6_many_116 rfl rfl ?_
              refine x_iconst hG (pc := 117) 1 dX6_many_117 (by decide) ?_
              refine x_callV hG hO (pc := 118) [_] c_X6_countPossessions lk_X6_325 (by first | assumption | exact hR.main) rfl rfl ⟨by decide, by decide⟩ (Nat.le_of_ble_eq_true rfl) (by rw [hG.mc]; exact Nat.le_of_ble_eq_true rfl) (by rw [hG.ms]; exact Nat.le_of_ble_eq_true rfl) dX6_many_118 ?_
              refine ⟨L, S, 1, rfl, hR, ?_⟩
              refine x_ireturn hG (pc := 121) dX6_many_121 rfl rfl (by rw [hG.mc]; exact Nat.le_of_ble_eq_true rfl) (by rw [hG.ms]; exact Nat.le_of_ble_eq_true rfl) ?_
              exact fin_i rfl (hk.ok (v := manV S 5) (by simp only [oMan, ixO_s (k := 5) (n := 17) (by decide) (by decide)]) rfl hR FrM.rf)
            · by_cases q6 : u = nI 6
              · subst q6
                refine x_tableIn hG (pc := 1) (off := 121) 122 dX6_many_1 (by decide) (by decide) (by decide) (by decide) ?_
                refine x_aload_n hG (pc := 122) 0 dX6_many_122 rfl rfl ?_
                refine x_iconst hG (pc := 123) 2 dX6_many_123 (by decide) ?_
                refine x_callV hG hO (pc := 124) [_] c_X6_countPossessions lk_X6_325 (by first | assumption | exact hR.main) rfl rfl ⟨by decide, by decide⟩ (Nat.le_of_ble_eq_true rfl) (by rw [hG.mc]; exact Nat.le_of_ble_eq_true rfl) (by rw [hG.ms]; exact Nat.le_of_ble_eq_true rfl) dX6_many_124 ?_
                refine ⟨L, S, 2, rfl, hR, ?_⟩
                refine x_ireturn hG (pc := 127) dX6_many_127 rfl rfl (by rw [hG.mc]; exact Nat.le_of_ble_eq_true rfl) (by rw [hG.ms]; exact Nat.le_of_ble_eq_true rfl) ?_
                exact fin_i rfl (hk.ok (v := manV S 6) (by simp only [oMan, ixO_s (k := 6) (n := 17) (by decide) (by decide)]) rfl hR FrM.rf)
              · by_cases q7 : u = nI 7
                · subst q7
                  refine x_tableIn hG (pc := 1) (off := 127) 128 dX6_many_1 (by decide) (by decide) (by decide) (by decide) ?_
                  refine x_aload_n hG (pc := 128) 0 dX6_many_128 rfl rfl ?_
                  refine x_iconst hG (pc := 129) 3 dX6_many_129 (by decide) ?_
                  refine x_callV hG hO (pc := 130) [_] c_X6_countPossessions lk_X6_325 (by first | assumption | exact hR.main) rfl rfl ⟨by decide, by decide⟩ (Nat.le_of_ble_eq_true rfl) (by rw [hG.mc]; exact Nat.le_of_ble_eq_true rfl) (by rw [hG.ms]; exact Nat.le_of_ble_eq_true rfl) dX6_many_130 ?_
                  refine ⟨L, S, 3, rfl, hR, ?_⟩
                  refine x_ireturn hG (pc := 133) dX6_many_133 rfl rfl (by rw [hG.mc]; exact Nat.le_of_ble_eq_true rfl) (by rw [hG.ms]; exact Nat.le_of_ble_eq_true rfl) ?_
                  exact fin_i rfl (hk.ok (v := manV S 7) (by simp only [oMan, ixO_s (k := 7) (n := 17) (by decide) (by decide)]) rfl hR FrM.rf)
                · by_cases q8 : u = nI 8
                  · subst q8
                    refine x_tableIn hG (pc := 1) (off := 133) 134 dX6_many_1 (by decide) (by decide) (by decide) (by decide) ?_
                    refine x_aload_n hG (pc := 134) 0 dX6_many_134 rfl rfl ?_
                    refine x_iconst hG (pc := 135) 4 dX6_many_135 (by decide) ?_
                    refine x_callV hG hO (pc := 136) [_] c_X6_countPossessions lk_X6_325 (by first | assumption | exact hR.main) rfl rfl ⟨by decide, by decide⟩ (Nat.le_of_ble_eq_true rfl) (by rw [hG.mc]; exact Nat.le_of_ble_eq_true rfl) (by rw [hG.ms]; exact Nat.le_of_ble_eq_true rfl) dX6_many_136 ?_
                    refine ⟨L, S, 4, rfl, hR, ?_⟩
                    refine x_ireturn hG (pc := 139) dX6_many_139 rfl rfl (by rw [hG.mc]; exact Nat.le_of_ble_eq_true rfl) (by rw [hG.ms]; exact Nat.le_of_ble_eq_true rfl) ?_
                    exact fin_i rfl (hk.ok (v := manV S 8) (by simp only [oMan, ixO_s (k := 8) (n := 17) (by decide) (by decide)]) rfl hR FrM.rf)
                  · by_cases q9 : u = nI 9
                    · subst q9
                      refine x_tableIn hG (pc := 1) (off := 139) 140 dX6_many_1 (by decide) (by decide) (by decide) (by decide) ?_
                      refine x_aload_n hG (pc := 140) 0 dX6_many_140 rfl rfl ?_
                      refine x_getf hG (pc := 141) fl_X6_49 hR.main rfl dX6_many_141 ?_
                      refine x_ireturn hG (pc := 144) dX6_many_144 rfl rfl (by rw [hG.mc]; exact Nat.le_of_ble_eq_true rfl) (by rw [hG.ms]; exact Nat.le_of_ble_eq_true rfl) ?_
                      exact fin_i rfl (hk.ok (v := manV S 9) (by simp only [oMan, ixO_s (k := 9) (n := 17) (by decide) (by decide)]) rfl hR FrM.rf)
                    · by_cases q10 : u = nI 10
                      · subst q10
                        refine x_tableIn hG (pc := 1) (off := 144) 145 dX6_many_1 (by decide) (by decide) (by decide) (by decide) ?_
                        refine x_aload_n hG (pc := 145) 0 dX6_many_145 rfl rfl ?_
                        refine x_getf hG (pc := 146) fl_X6_52 hR.main rfl dX6_many_146 ?_
                        refine x_ireturn hG (pc := 149) dX6_many_149 rfl rfl (by rw [hG.mc]; exact Nat.le_of_ble_eq_true rfl) (by rw [hG.ms]; exact Nat.le_of_ble_eq_true rfl) ?_
                        exact fin_i rfl (hk.ok (v := manV S 10) (by simp only [oMan, ixO_s (k := 10) (n := 17) (by decide) (by decide)]) rfl hR FrM.rf)
                      · by_cases q11 : u = nI 11
                        · subst q11
                          refine x_tableIn hG (pc := 1) (off := 149) 150 dX6_many_1 (by decide) (by decide) (by decide) (by decide) ?_
                          refine x_aload_n hG (pc := 150) 0 dX6_many_150 rfl rfl ?_
                          refine x_getf hG (pc := 151) fl_X6_55 hR.main rfl dX6_many_151 ?_
                          refine x_ireturn hG (pc := 154) dX6_many_154 rfl rfl (by rw [hG.mc]; exact Nat.le_of_ble_eq_true rfl) (by rw [hG.ms]; exact Nat.le_of_ble_eq_true rfl) ?_
                          exact fin_i rfl (hk.ok (v := manV S 11) (by simp only [oMan, ixO_s (k := 11) (n := 17) (by decide) (by decide)]) rfl hR FrM.rf)
                        · by_cases q12 : u = nI 12
                          · subst q12
                            refine x_tableIn hG (pc := 1) (off := 154) 155 dX6_many_1 (by decide) (by decide) (by decide) (by decide) ?_
                            refine x_aload_n hG (pc := 155) 0 dX6_many_155 rfl rfl ?_
                            refine x_getf hG (pc := 156) fl_X6_58 hR.main rfl dX6_many_156 ?_
                            refine x_ireturn hG (pc := 159) dX6_many_159 rfl rfl (by rw [hG.mc]; exact Nat.le_of_ble_eq_true rfl) (by rw [hG.ms]; exact Nat.le_of_ble_eq_true rfl) ?_
                            exact fin_i rfl (hk.ok (v := manV S 12) (by simp only [oMan, ixO_s (k := 12) (n := 17) (by decide) (by decide)]) rfl hR FrM.rf)
                          · by_cases q13 : u = nI 13
                            · subst q13
                              refine x_tableIn hG (pc := 1) (off := 159) 160 dX6_many_1 (by decide) (by decide) (by decide) (by decide) ?_
                              refine x_aload_n hG (pc := 160) 0 dX6_many_160 rfl rfl ?_
                              refine x_callV hG hO (pc := 161) [] c_X6_countTrueRisks lk_X6_328 (by first | assumption | exact hR.main) rfl rfl ⟨by decide, by decide⟩ (Nat.le_of_ble_eq_true rfl) (by rw [hG.mc]; exact Nat.le_of_ble_eq_true rfl) (by rw [hG.ms]; exact Nat.le_of_ble_eq_true rfl) dX6_many_161 ?_
                              refine ⟨L, S, rfl, hR, ?_⟩
                              refine x_ireturn hG (pc := 164) dX6_many_164 rfl rfl (by rw [hG.mc]; exact Nat.le_of_ble_eq_true rfl) (by rw [hG.ms]; exact Nat.le_of_ble_eq_true rfl) ?_
                              exact fin_i rfl (hk.ok (v := manV S 13) (by simp only [oMan, ixO_s (k := 13) (n := 17) (by decide) (by decide)]) rfl hR FrM.rf)
                            · by_cases q14 : u = nI 14
                              · subst q14
                                refine x_tableIn hG (pc := 1) (off := 164) 165 dX6_many_1 (by decide) (by decide) (by decide) (by decide) ?_
                                refine x_aload_n hG (pc := 165) 0 dX6_many_165 rfl rfl ?_
                                refine x_callV hG hO (pc := 166) [] c_X6_countKnownRisks lk_X6_331 (by first | assumption | exact hR.main) rfl rfl ⟨by decide, by decide⟩ (Nat.le_of_ble_eq_true rfl) (by rw [hG.mc]; exact Nat.le_of_ble_eq_true rfl) (by rw [hG.ms]; exact Nat.le_of_ble_eq_true rfl) dX6_many_166 ?_
                                refine ⟨L, S, rfl, hR, ?_⟩
                                refine x_ireturn hG (pc := 169) dX6_many_169 rfl rfl (by rw [hG.mc]; exact Nat.le_of_ble_eq_true rfl) (by rw [hG.ms]; exact Nat.le_of_ble_eq_true rfl) ?_
                                exact fin_i rfl (hk.ok (v := manV S 14) (by simp only [oMan, ixO_s (k := 14) (n := 17) (by decide) (by decide)]) rfl hR FrM.rf)
                              · by_cases q15 : u = nI 15
                                · subst q15
                                  refine x_tableIn hG (pc := 1) (off := 169) 170 dX6_many_1 (by decide) (by decide) (by decide) (by decide) ?_
                                  refine x_aload_n hG (pc := 170) 0 dX6_many_170 rfl rfl ?_
                                  refine x_getf hG (pc := 171) fl_X6_46 hR.main rfl dX6_many_171 ?_
                                  refine x_ireturn hG (pc := 174) dX6_many_174 rfl rfl (by rw [hG.mc]; exact Nat.le_of_ble_eq_true rfl) (by rw [hG.ms]; exact Nat.le_of_ble_eq_true rfl) ?_
                                  exact fin_i rfl (hk.ok (v := manV S 15) (by simp only [oMan, ixO_s (k := 15) (n := 17) (by decide) (by decide)]) rfl hR FrM.rf)
                                · by_cases q16 : u = nI 16
                                  · subst q16
                                    refine x_tableIn hG (pc := 1) (off := 174) 175 dX6_many_1 (by decide) (by decide) (by decide) (by decide) ?_
                                    refine x_aload_n hG (pc := 175) 0 dX6_many_175 rfl rfl ?_
                                    refine x_getf hG (pc := 176) fl_X6_61 hR.main rfl dX6_many_176 ?_
                                    refine x_ireturn hG (pc := 179) dX6_many_179 rfl rfl (by rw [hG.mc]; exact Nat.le_of_ble_eq_true rfl) (by rw [hG.ms]; exact Nat.le_of_ble_eq_true rfl) ?_
                                    exact fin_i rfl (hk.ok (v := manV S 16) (by simp only [oMan, ixO_s (k := 16) (n := 17) (by decide) (by decide)]) rfl hR FrM.rf)
                                  · have hnu := sw_out (u := u) (n := 17) (by decide) (all_s (p := fun j => u = nI j) (all_s (all_s (all_s (all_s (all_s (all_s (all_s (all_s (all_s (all_s (all_s (all_s (all_s (all_s (all_s (all_s (fun j h => absurd h (Nat.not_lt_zero _)) q0) q1) q2) q3) q4) q5) q6) q7) q8) q9) q10) q11) q12) q13) q14) q15) q16)
                                    refine x_tableOut hG (pc := 1) 180 dX6_many_1 (by omega) (by decide) ?_
                                    refine x_throwW hG hO (pc := 180) _ _ lt_334 dX6_many_180 dX6_many_183 dX6_many_184 dX6_many_187 dX6_many_190 (by decide) (Nat.le_of_ble_eq_true rfl) (by rw [hG.mc]; exact Nat.le_of_ble_eq_true rfl) (by rw [hG.ms]; exact Nat.le_of_ble_eq_true rfl) ?_
                                    exact hk.bad (k := 0) (v := 0) (S1 := S) (by simp only [oMan, sw_no hnu]) rfl
set_option maxHeartbeats 400000 in
set_option maxRecDepth 100000 in
theorem v_X6_many : CtrA yX6_many cX6_many 2 (some .int) (rmk 6 0 0 133) (fun Γ av w post xpost => ∃ (L : LayC) (S : St), ∃ v, av = [.ref (thC L), .int (nI v)] ∧ RepC Γ L S w ∧ Inv S ∧ v < 17 ∧ post (some (.int (manV S v))) w) := by
  refine ctr_of (by decide) ?_
  rintro g av w hG hO ⟨L, S, v, rfl, hR, hI, hv, hk⟩
  refine ⟨Nat.le_of_ble_eq_true rfl, ?_⟩
  show X g w 0 0 0 [some (.ref (thC L)), some (.int (nI v))] []
  have hnM := hI.2.1.1
  have hnN := hI.2.1.2.1
  have hnE := hI.2.1.2.2
  refine x_iload_n hG (pc := 0) 1 dX6_many_0 rfl rfl ?_
  by_cases q0 : v = 0
  · subst q0
    refine x_tableIn hG (pc := 1) (off := 83) 84 dX6_many_1 (by decide) (by decide) (by decide) (by decide) ?_
    refine x_aload_n hG (pc := 84) 0 dX6_many_84 rfl rfl ?_
    refine x_getf hG (pc := 85) fl_X6_42 hR.main rfl dX6_many_85 ?_
    refine x_ireturn hG (pc := 88) dX6_many_88 rfl rfl (by rw [hG.mc]; exact Nat.le_of_ble_eq_true rfl) (by rw [hG.ms]; exact Nat.le_of_ble_eq_true rfl) ?_
    exact fin_i rfl hk
  · by_cases q1 : v = 1
    · subst q1
      refine x_tableIn hG (pc := 1) (off := 88) 89 dX6_many_1 (by decide) (by decide) (by decide) (by decide) ?_
      refine x_aload_n hG (pc := 89) 0 dX6_many_89 rfl rfl ?_
      refine x_getf hG (pc := 90) fl_X6_22 hR.main rfl dX6_many_90 ?_
      refine x_callV hG hO (pc := 93) [] c_Jx4a65c_size_8abf5 lk_X6_104 (hR.lst (id := 1) (by omega)).1 rfl rfl ⟨by decide, by decide⟩ (Nat.le_of_ble_eq_true rfl) (by rw [hG.mc]; exact Nat.le_of_ble_eq_true rfl) (by rw [hG.ms]; exact Nat.le_of_ble_eq_true rfl) dX6_many_93 ?_
      refine ⟨_, _, _, _, _, rfl, (hR.lst (id := 1) (by omega)).1, ?_⟩
      refine x_ireturn hG (pc := 96) dX6_many_96 rfl rfl (by rw [hG.mc]; exact Nat.le_of_ble_eq_true rfl) (by rw [hG.ms]; exact Nat.le_of_ble_eq_true rfl) ?_
      exact fin_i rfl hk
    · by_cases q2 : v = 2
      · subst q2
        refine x_tableIn hG (pc := 1) (off := 96) 97 dX6_many_1 (by decide) (by decide) (by decide) (by decide) ?_
        refine x_aload_n hG (pc := 97) 0 dX6_many_97 rfl rfl ?_
        refine x_getf hG (pc := 98) fl_X6_18 hR.main rfl dX6_many_98 ?_
        refine x_callV hG hO (pc := 101) [] c_Jx4a65c_size_8abf5 lk_X6_104 (hR.lst (id := 0) (by omega)).1 rfl rfl ⟨by decide, by decide⟩ (Nat.le_of_ble_eq_true rfl) (by rw [hG.mc]; exact Nat.le_of_ble_eq_true rfl) (by rw [hG.ms]; exact Nat.le_of_ble_eq_true rfl) dX6_many_101 ?_
        refine ⟨_, _, _, _, _, rfl, (hR.lst (id := 0) (by omega)).1, ?_⟩
        refine x_ireturn hG (pc := 104) dX6_many_104 rfl rfl (by rw [hG.mc]; exact Nat.le_of_ble_eq_true rfl) (by rw [hG.ms]; exact Nat.le_of_ble_eq_true rfl) ?_
        exact fin_i rfl hk
      · by_cases q3 : v = 3
        · subst q3
          refine x_tableIn hG (pc := 1) (off := 104) 105 dX6_many_1 (by decide) (by decide) (by decide) (by decide) ?_
          refine x_aload_n hG (pc := 105) 0 dX6_many_105 rfl rfl ?_
          refine x_callV hG hO (pc := 106) [] c_X6_countAligned lk_X6_322 (by first | assumption | exact hR.main) rfl rfl ⟨by decide, by decide⟩ (Nat.le_of_ble_eq_true rfl) (by rw [hG.mc]; exact Nat.le_of_ble_eq_true rfl) (by rw [hG.ms]; exact Nat.le_of_ble_eq_true rfl) dX6_many_106 ?_
          refine ⟨L, S, rfl, hR, ?_⟩
          refine x_ireturn hG (pc := 109) dX6_many_109 rfl rfl (by rw [hG.mc]; exact Nat.le_of_ble_eq_true rfl) (by rw [hG.ms]; exact Nat.le_of_ble_eq_true rfl) ?_
          exact fin_i rfl hk
        · by_cases q4 : v = 4
          · subst q4
            refine x_tableIn hG (pc := 1) (off := 109) 110 dX6_many_1 (by decide) (by decide) (by decide) (by decide) ?_
            refine x_aload_n hG (pc := 110) 0 dX6_many_110 rfl rfl ?_
            refine x_iconst hG (pc := 111) 0 dX6_many_111 (by decide) ?_
            refine x_callV hG hO (pc := 112) [_] c_X6_countPossessions lk_X6_325 (by first | assumption | exact hR.main) rfl rfl ⟨by decide, by decide⟩ (Nat.le_of_ble_eq_true rfl) (by rw [hG.mc]; exact Nat.le_of_ble_eq_true rfl) (by rw [hG.ms]; exact Nat.le_of_ble_eq_true rfl) dX6_many_112 ?_
            refine ⟨L, S, 0, rfl, hR, ?_⟩
            refine x_ireturn hG (pc := 115) dX6_many_115 rfl rfl (by rw [hG.mc]; exact Nat.le_of_ble_eq_true rfl) (by rw [hG.ms]; exact Nat.le_of_ble_eq_true rfl) ?_
            exact fin_i rfl hk
          · by_cases q5 : v = 5
            · subst q5
              refine x_tableIn hG (pc := 1) (off := 115) 116 dX6_many_1 (by decide) (by decide) (by decide) (by decide) ?_
              refine x_aload_n hG (pc := 116) 0 dX6_many_116 rfl rfl ?_
              refine x_iconst hG (pc := 117) 1 dX6_many_117 (by decide) ?_
              refine x_callV hG hO (pc := 118) [_] c_X6_countPossessions lk_X6_325 (by first | assumption | exact hR.main) rfl rfl ⟨by decide, by decide⟩ (Nat.le_of_ble_eq_true rfl) (by rw [hG.mc]; exact Nat.le_of_ble_eq_true rfl) (by rw [hG.ms]; exact Nat.le_of_ble_eq_true rfl) dX6_many_118 ?_
              refine ⟨L, S, 1, rfl, hR, ?_⟩
              refine x_ireturn hG (pc := 121) dX6_many_121 rfl rfl (by rw [hG.mc]; exact Nat.le_of_ble_eq_true rfl) (by rw [hG.ms]; exact Nat.le_of_ble_eq_true rfl) ?_
              exact fin_i rfl hk
            · by_cases q6 : v = 6
              · subst q6
                refine x_tableIn hG (pc := 1) (off := 121) 122 dX6_many_1 (by decide) (by decide) (by decide) (by decide) ?_
                refine x_aload_n hG (pc := 122) 0 dX6_many_122 rfl rfl ?_
                refine x_iconst hG (pc := 123) 2 dX6_many_123 (by decide) ?_
                refine x_callV hG hO (pc := 124) [_] c_X6_countPossessions lk_X6_325 (by first | assumption | exact hR.main) rfl rfl ⟨by decide, by decide⟩ (Nat.le_of_ble_eq_true rfl) (by rw [hG.mc]; exact Nat.le_of_ble_eq_true rfl) (by rw [hG.ms]; exact Nat.le_of_ble_eq_true rfl) dX6_many_124 ?_
                refine ⟨L, S, 2, rfl, hR, ?_⟩
                refine x_ireturn hG (pc := 127) dX6_many_127 rfl rfl (by rw [hG.mc]; exact Nat.le_of_ble_eq_true rfl) (by rw [hG.ms]; exact Nat.le_of_ble_eq_true rfl) ?_
                exact fin_i rfl hk
              · by_cases q7 : v = 7
                · subst q7
                  refine x_tableIn hG (pc := 1) (off := 127) 128 dX6_many_1 (by decide) (by decide) (by decide) (by decide) ?_
                  refine x_aload_n hG (pc := 128) 0 dX6_many_128 rfl rfl ?_
                  refine x_iconst hG (pc := 129) 3 dX6_many_129 (by decide) ?_
                  refine x_callV hG hO (pc := 130) [_] c_X6_countPossessions lk_X6_325 (by first | assumption | exact hR.main) rfl rfl ⟨by decide, by decide⟩ (Nat.le_of_ble_eq_true rfl) (by rw [hG.mc]; exact Nat.le_of_ble_eq_true rfl) (by rw [hG.ms]; exact Nat.le_of_ble_eq_true rfl) dX6_many_130 ?_
                  refine ⟨L, S, 3, rfl, hR, ?_⟩
                  refine x_ireturn hG (pc := 133) dX6_many_133 rfl rfl (by rw [hG.mc]; exact Nat.le_of_ble_eq_true rfl) (by rw [hG.ms]; exact Nat.le_of_ble_eq_true rfl) ?_
                  exact fin_i rfl hk
                · by_cases q8 : v = 8
                  · subst q8
                    refine x_tableIn hG (pc := 1) (off := 133) 134 dX6_many_1 (by decide) (by decide) (by decide) (by decide) ?_
                    refine x_aload_n hG (pc := 134) 0 dX6_many_134 rfl rfl ?_
                    refine x_iconst hG (pc := 135) 4 dX6_many_135 (by decide) ?_
                    refine x_callV hG hO (pc := 136) [_] c_X6_countPossessions lk_X6_325 (by first | assumption | exact hR.main) rfl rfl ⟨by decide, by decide⟩ (Nat.le_of_ble_eq_true rfl) (by rw [hG.mc]; exact Nat.le_of_ble_eq_true rfl) (by rw [hG.ms]; exact Nat.le_of_ble_eq_true rfl) dX6_many_136 ?_
                    refine ⟨L, S, 4, rfl, hR, ?_⟩
                    refine x_ireturn hG (pc := 139) dX6_many_139 rfl rfl (by rw [hG.mc]; exact Nat.le_of_ble_eq_true rfl) (by rw [hG.ms]; exact Nat.le_of_ble_eq_true rfl) ?_
                    exact fin_i rfl hk
                  · by_cases q9 : v = 9
                    · subst q9
                      refine x_tableIn hG (pc := 1) (off := 139) 140 dX6_many_1 (by decide) (by decide) (by decide) (by decide) ?_
                      refine x_aload_n hG (pc := 140) 0 dX6_many_140 rfl rfl ?_
                      refine x_getf hG (pc := 141) fl_X6_49 hR.main rfl dX6_many_141 ?_
                      refine x_ireturn hG (pc := 144) dX6_many_144 rfl rfl (by rw [hG.mc]; exact Nat.le_of_ble_eq_true rfl) (by rw [hG.ms]; exact Nat.le_of_ble_eq_true rfl) ?_
                      exact fin_i rfl hk
                    · by_cases q10 : v = 10
                      · subst q10
                        refine x_tableIn hG (pc := 1) (off := 144) 145 dX6_many_1 (by decide) (by decide) (by decide) (by decide) ?_
                        refine x_aload_n hG (pc := 145) 0 dX6_many_145 rfl rfl ?_
                        refine x_getf hG (pc := 146) fl_X6_52 hR.main rfl dX6_many_146 ?_
                        refine x_ireturn hG (pc := 149) dX6_many_149 rfl rfl (by rw [hG.mc]; exact Nat.le_of_ble_eq_true rfl) (by rw [hG.ms]; exact Nat.le_of_ble_eq_true rfl) ?_
                        exact fin_i rfl hk
                      · by_cases q11 : v = 11
                        · subst q11
                          refine x_tableIn hG (pc := 1) (off := 149) 150 dX6_many_1 (by decide) (by decide) (by decide) (by decide) ?_
                          refine x_aload_n hG (pc := 150) 0 dX6_many_150 rfl rfl ?_
                          refine x_getf hG (pc := 151) fl_X6_55 hR.main rfl dX6_many_151 ?_
                          refine x_ireturn hG (pc := 154) dX6_many_154 rfl rfl (by rw [hG.mc]; exact Nat.le_of_ble_eq_true rfl) (by rw [hG.ms]; exact Nat.le_of_ble_eq_true rfl) ?_
                          exact fin_i rfl hk
                        · by_cases q12 : v = 12
                          · subst q12
                            refine x_tableIn hG (pc := 1) (off := 154) 155 dX6_many_1 (by decide) (by decide) (by decide) (by decide) ?_
                            refine x_aload_n hG (pc := 155) 0 dX6_many_155 rfl rfl ?_
                            refine x_getf hG (pc := 156) fl_X6_58 hR.main rfl dX6_many_156 ?_
                            refine x_ireturn hG (pc := 159) dX6_many_159 rfl rfl (by rw [hG.mc]; exact Nat.le_of_ble_eq_true rfl) (by rw [hG.ms]; exact Nat.le_of_ble_eq_true rfl) ?_
                            exact fin_i rfl hk
                          · by_cases q13 : v = 13
                            · subst q13
                              refine x_tableIn hG (pc := 1) (off := 159) 160 dX6_many_1 (by decide) (by decide) (by decide) (by decide) ?_
                              refine x_aload_n hG (pc := 160) 0 dX6_many_160 rfl rfl ?_
                              refine x_callV hG hO (pc := 161) [] c_X6_countTrueRisks lk_X6_328 (by first | assumption | exact hR.main) rfl rfl ⟨by decide, by decide⟩ (Nat.le_of_ble_eq_true rfl) (by rw [hG.mc]; exact Nat.le_of_ble_eq_true rfl) (by rw [hG.ms]; exact Nat.le_of_ble_eq_true rfl) dX6_many_161 ?_
                              refine ⟨L, S, rfl, hR, ?_⟩
                              refine x_ireturn hG (pc := 164) dX6_many_164 rfl rfl (by rw [hG.mc]; exact Nat.le_of_ble_eq_true rfl) (by rw [hG.ms]; exact Nat.le_of_ble_eq_true rfl) ?_
                              exact fin_i rfl hk
                            · by_cases q14 : v = 14
                              · subst q14
                                refine x_tableIn hG (pc := 1) (off := 164) 165 dX6_many_1 (by decide) (by decide) (by decide) (by decide) ?_
                                refine x_aload_n hG (pc := 165) 0 dX6_many_165 rfl rfl ?_
                                refine x_callV hG hO (pc := 166) [] c_X6_countKnownRisks lk_X6_331 (by first | assumption | exact hR.main) rfl rfl ⟨by decide, by decide⟩ (Nat.le_of_ble_eq_true rfl) (by rw [hG.mc]; exact Nat.le_of_ble_eq_true rfl) (by rw [hG.ms]; exact Nat.le_of_ble_eq_true rfl) dX6_many_166 ?_
                                refine ⟨L, S, rfl, hR, ?_⟩
                                refine x_ireturn hG (pc := 169) dX6_many_169 rfl rfl (by rw [hG.mc]; exact Nat.le_of_ble_eq_true rfl) (by rw [hG.ms]; exact Nat.le_of_ble_eq_true rfl) ?_
                                exact fin_i rfl hk
                              · by_cases q15 : v = 15
                                · subst q15
                                  refine x_tableIn hG (pc := 1) (off := 169) 170 dX6_many_1 (by decide) (by decide) (by decide) (by decide) ?_
                                  refine x_aload_n hG (pc := 170) 0 dX6_many_170 rfl rfl ?_
                                  refine x_getf hG (pc := 171) fl_X6_46 hR.main rfl dX6_many_171 ?_
                                  refine x_ireturn hG (pc := 174) dX6_many_174 rfl rfl (by rw [hG.mc]; exact Nat.le_of_ble_eq_true rfl) (by rw [hG.ms]; exact Nat.le_of_ble_eq_true rfl) ?_
                                  exact fin_i rfl hk
                                · by_cases q16 : v = 16
                                  · subst q16
                                    refine x_tableIn hG (pc := 1) (off := 174) 175 dX6_many_1 (by decide) (by decide) (by decide) (by decide) ?_
                                    refine x_aload_n hG (pc := 175) 0 dX6_many_175 rfl rfl ?_
                                    refine x_getf hG (pc := 176) fl_X6_61 hR.main rfl dX6_many_176 ?_
                                    refine x_ireturn hG (pc := 179) dX6_many_179 rfl rfl (by rw [hG.mc]; exact Nat.le_of_ble_eq_true rfl) (by rw [hG.ms]; exact Nat.le_of_ble_eq_true rfl) ?_
                                    exact fin_i rfl hk
                                  · exact absurd hv (by omega)
set_option maxHeartbeats 400000 in
set_option maxRecDepth 100000 in
theorem c_X6_why : CtrA yX6_why cX6_why 5 (some .int) (rmk 8 4 24 140) (fun Γ av w post xpost => ∃ (L : LayC) (S : St), ∃ i b, av = [.ref (thC L), .int i, .int b] ∧ RepC Γ L S w ∧ Inv S ∧ Out Γ L w post xpost [xI] (oWhy S i b)) := by
  refine ctr_of (by decide) ?_
  rintro g av w hG hO ⟨L, S, i, b, rfl, hR, hI, hk⟩
  refine ⟨Nat.le_of_ble_eq_true rfl, ?_⟩
  show X g w 0 0 0 [some (.ref (thC L)), some (.int i), some (.int b), none, none] []
  have hnM := hI.2.1.1
  have hnN := hI.2.1.2.1
  have hnE := hI.2.1.2.2
  refine x_aload_n hG (pc := 0) 0 dX6_why_0 rfl rfl ?_
  refine x_iload_n hG (pc := 1) 1 dX6_why_1 rfl rfl ?_
  refine x_callV hG hO (pc := 2) [_] c_X6_sectionAt lk_X6_64 (by first | assumption | exact hR.main) rfl rfl ⟨by decide, by decide⟩ (Nat.le_of_ble_eq_true rfl) (by rw [hG.mc]; exact Nat.le_of_ble_eq_true rfl) (by rw [hG.ms]; exact Nat.le_of_ble_eq_true rfl) dX6_why_2 ?_
  refine ⟨L, S, i, rfl, hR, fun k hkn hiq => ?_, fun hb => hk.bad (k := 0) (v := 0) (S1 := S) (by simp only [oWhy, ixO_n (n := 20) hb (by decide)]) rfl⟩
  subst hiq
  refine x_astore_n hG (pc := 5) 3 dX6_why_5 rfl (Nat.le_of_ble_eq_true rfl) rfl (by dsimp only [List.set]) ?_
  refine x_iload_n hG (pc := 6) 2 dX6_why_6 rfl rfl ?_
  refine x_if_eq hG (pc := 7) 18 dX6_why_7 (by decide) (fun h7 => ?_) (fun h7 => ?_)
  · refine x_aload_n hG (pc := 18) 3 dX6_why_18 rfl rfl ?_
    refine x_getf hG (pc := 19) fl_X6_114 (hR.sec hkn) rfl dX6_why_19 ?_
    refine x_astore hG (pc := 22) dX6_why_22 (Nat.le_of_ble_eq_true rfl) rfl (by dsimp only [List.set]) ?_
    refine x_aload hG (pc := 24) dX6_why_24 rfl ?_
    refine x_aload_n hG (pc := 26) 0 dX6_why_26 rfl rfl ?_
    refine x_getf hG (pc := 27) fl_X6_46 hR.main rfl dX6_why_27 ?_
    refine x_aload_n hG (pc := 30) 3 dX6_why_30 rfl rfl ?_
    refine x_getf hG (pc := 31) fl_X6_286 (hR.sec hkn) rfl dX6_why_31 ?_
    refine x_isub hG (pc := 34) dX6_why_34 ?_
    refine x_callV hG hO (pc := 35) [_] c_X4_decider lk_X6_306 (hR.val hkn) rfl rfl ⟨by decide, by decide⟩ (Nat.le_of_ble_eq_true rfl) (by rw [hG.mc]; exact Nat.le_of_ble_eq_true rfl) (by rw [hG.ms]; exact Nat.le_of_ble_eq_true rfl) dX6_why_35 ?_
    refine ⟨_, _, _, _, _, _, rfl, hR.val hkn, ?_⟩
    have e : wyV S k b = _ := if_pos h7
    refine x_ireturn hG (pc := 38) dX6_why_38 rfl rfl (by rw [hG.mc]; exact Nat.le_of_ble_eq_true rfl) (by rw [hG.ms]; exact Nat.le_of_ble_eq_true rfl) ?_
    exact fin_i e.symm (hk.ok (v := wyV S k b) (by simp only [oWhy, ixO_s (n := 20) hkn (by decide)]) rfl hR FrM.rf)
  · refine x_aload_n hG (pc := 10) 0 dX6_why_10 rfl rfl ?_
    refine x_iload_n hG (pc := 11) 1 dX6_why_11 rfl rfl ?_
    refine x_callV hG hO (pc := 12) [_] c_X6_knownValues lk_X6_294 (by first | assumption | exact hR.main) rfl rfl ⟨by decide, by decide⟩ (Nat.le_of_ble_eq_true rfl) (by rw [hG.mc]; exact Nat.le_of_ble_eq_true rfl) (by rw [hG.ms]; exact Nat.le_of_ble_eq_true rfl) dX6_why_12 ?_
    refine ⟨L, S, nI k, rfl, hR, ?_⟩
    obtain ⟨tk, hkv⟩ := hR.knw (nI k)
    refine x_goto hG (pc := 15) 22 dX6_why_15 (by decide) ?_
    refine x_astore hG (pc := 22) dX6_why_22 (Nat.le_of_ble_eq_true rfl) rfl (by dsimp only [List.set]) ?_
    refine x_aload hG (pc := 24) dX6_why_24 rfl ?_
    refine x_aload_n hG (pc := 26) 0 dX6_why_26 rfl rfl ?_
    refine x_getf hG (pc := 27) fl_X6_46 hR.main rfl dX6_why_27 ?_
    refine x_aload_n hG (pc := 30) 3 dX6_why_30 rfl rfl ?_
    refine x_getf hG (pc := 31) fl_X6_286 (hR.sec hkn) rfl dX6_why_31 ?_
    refine x_isub hG (pc := 34) dX6_why_34 ?_
    refine x_callV hG hO (pc := 35) [_] c_X4_decider lk_X6_306 hkv rfl rfl ⟨by decide, by decide⟩ (Nat.le_of_ble_eq_true rfl) (by rw [hG.mc]; exact Nat.le_of_ble_eq_true rfl) (by rw [hG.ms]; exact Nat.le_of_ble_eq_true rfl) dX6_why_35 ?_
    refine ⟨_, _, _, _, _, _, rfl, hkv, ?_⟩
    have e : wyV S k b = _ := if_neg h7
    refine x_ireturn hG (pc := 38) dX6_why_38 rfl rfl (by rw [hG.mc]; exact Nat.le_of_ble_eq_true rfl) (by rw [hG.ms]; exact Nat.le_of_ble_eq_true rfl) ?_
    exact fin_i e.symm (hk.ok (v := wyV S k b) (by simp only [oWhy, ixO_s (n := 20) hkn (by decide)]) rfl hR FrM.rf)
set_option maxHeartbeats 400000 in
set_option maxRecDepth 100000 in
theorem v_X6_why : CtrA yX6_why cX6_why 5 (some .int) (rmk 5 0 0 110) (fun Γ av w post xpost => ∃ (L : LayC) (S : St), ∃ k b, av = [.ref (thC L), .int (nI k), .int b] ∧ RepC Γ L S w ∧ Inv S ∧ k < 20 ∧ post (some (.int (wyV S k b))) w) := by
  refine ctr_of (by decide) ?_
  rintro g av w hG hO ⟨L, S, k, b, rfl, hR, hI, hkn, hk⟩
  refine ⟨Nat.le_of_ble_eq_true rfl, ?_⟩
  show X g w 0 0 0 [some (.ref (thC L)), some (.int (nI k)), some (.int b), none, none] []
  have hnM := hI.2.1.1
  have hnN := hI.2.1.2.1
  have hnE := hI.2.1.2.2
  refine x_aload_n hG (pc := 0) 0 dX6_why_0 rfl rfl ?_
  refine x_iload_n hG (pc := 1) 1 dX6_why_1 rfl rfl ?_
  refine x_callV hG hO (pc := 2) [_] v_X6_sectionAt lk_X6_64 (by first | assumption | exact hR.main) rfl rfl ⟨by decide, by decide⟩ (Nat.le_of_ble_eq_true rfl) (by rw [hG.mc]; exact Nat.le_of_ble_eq_true rfl) (by rw [hG.ms]; exact Nat.le_of_ble_eq_true rfl) dX6_why_2 ?_
  refine ⟨L, S, k, rfl, hR, hkn, ?_⟩
  refine x_astore_n hG (pc := 5) 3 dX6_why_5 rfl (Nat.le_of_ble_eq_true rfl) rfl (by dsimp only [List.set]) ?_
  refine x_iload_n hG (pc := 6) 2 dX6_why_6 rfl rfl ?_
  refine x_if_eq hG (pc := 7) 18 dX6_why_7 (by decide) (fun h7 => ?_) (fun h7 => ?_)
  · refine x_aload_n hG (pc := 18) 3 dX6_why_18 rfl rfl ?_
    refine x_getf hG (pc := 19) fl_X6_114 (hR.sec hkn) rfl dX6_why_19 ?_
    refine x_astore hG (pc := 22) dX6_why_22 (Nat.le_of_ble_eq_true rfl) rfl (by dsimp only [List.set]) ?_
    refine x_aload hG (pc := 24) dX6_why_24 rfl ?_
    refine x_aload_n hG (pc := 26) 0 dX6_why_26 rfl rfl ?_
    refine x_getf hG (pc := 27) fl_X6_46 hR.main rfl dX6_why_27 ?_
    refine x_aload_n hG (pc := 30) 3 dX6_why_30 rfl rfl ?_
    refine x_getf hG (pc := 31) fl_X6_286 (hR.sec hkn) rfl dX6_why_31 ?_
    refine x_isub hG (pc := 34) dX6_why_34 ?_
    refine x_callV hG hO (pc := 35) [_] c_X4_decider lk_X6_306 (hR.val hkn) rfl rfl ⟨by decide, by decide⟩ (Nat.le_of_ble_eq_true rfl) (by rw [hG.mc]; exact Nat.le_of_ble_eq_true rfl) (by rw [hG.ms]; exact Nat.le_of_ble_eq_true rfl) dX6_why_35 ?_
    refine ⟨_, _, _, _, _, _, rfl, hR.val hkn, ?_⟩
    have e : wyV S k b = _ := if_pos h7
    refine x_ireturn hG (pc := 38) dX6_why_38 rfl rfl (by rw [hG.mc]; exact Nat.le_of_ble_eq_true rfl) (by rw [hG.ms]; exact Nat.le_of_ble_eq_true rfl) ?_
    exact fin_i e.symm hk
  · refine x_aload_n hG (pc := 10) 0 dX6_why_10 rfl rfl ?_
    refine x_iload_n hG (pc := 11) 1 dX6_why_11 rfl rfl ?_
    refine x_callV hG hO (pc := 12) [_] c_X6_knownValues lk_X6_294 (by first | assumption | exact hR.main) rfl rfl ⟨by decide, by decide⟩ (Nat.le_of_ble_eq_true rfl) (by rw [hG.mc]; exact Nat.le_of_ble_eq_true rfl) (by rw [hG.ms]; exact Nat.le_of_ble_eq_true rfl) dX6_why_12 ?_
    refine ⟨L, S, nI k, rfl, hR, ?_⟩
    obtain ⟨tk, hkv⟩ := hR.knw (nI k)
    refine x_goto hG (pc := 15) 22 dX6_why_15 (by decide) ?_
    refine x_astore hG (pc := 22) dX6_why_22 (Nat.le_of_ble_eq_true rfl) rfl (by dsimp only [List.set]) ?_
    refine x_aload hG (pc := 24) dX6_why_24 rfl ?_
    refine x_aload_n hG (pc := 26) 0 dX6_why_26 rfl rfl ?_
    refine x_getf hG (pc := 27) fl_X6_46 hR.main rfl dX6_why_27 ?_
    refine x_aload_n hG (pc := 30) 3 dX6_why_30 rfl rfl ?_
    refine x_getf hG (pc := 31) fl_X6_286 (hR.sec hkn) rfl dX6_why_31 ?_
    refine x_isub hG (pc := 34) dX6_why_34 ?_
    refine x_callV hG hO (pc := 35) [_] c_X4_decider lk_X6_306 hkv rfl rfl ⟨by decide, by decide⟩ (Nat.le_of_ble_eq_true rfl) (by rw [hG.mc]; exact Nat.le_of_ble_eq_true rfl) (by rw [hG.ms]; exact Nat.le_of_ble_eq_true rfl) dX6_why_35 ?_
    refine ⟨_, _, _, _, _, _, rfl, hkv, ?_⟩
    have e : wyV S k b = _ := if_neg h7
    refine x_ireturn hG (pc := 38) dX6_why_38 rfl rfl (by rw [hG.mc]; exact Nat.le_of_ble_eq_true rfl) (by rw [hG.ms]; exact Nat.le_of_ble_eq_true rfl) ?_
    exact fin_i e.symm hk
