/-! TrackNights: the questions by number -/
theorem sw_out {u : Int32} {n : Nat} (hn : n < 2 ^ 31) (h : ∀ j, j < n → ¬ u = nI j) : ¬ (0 ≤ u.toInt ∧ u.toInt < n) := by
  rintro ⟨h1, h2⟩
  obtain ⟨k, hk, e⟩ := vp_in_of (vp_in_iff.mpr ⟨h1, h2⟩) hn
  exact h k hk e
theorem sw_no {u : Int32} {n : Nat} (h : ¬ (0 ≤ u.toInt ∧ u.toInt < n)) : ixO u n = none := if_neg h
def ofS (S : St) (k v : Nat) : Int32 := if v < 7 then sS S k v else sp7 (sS S k) (gl S 1)
theorem ofS7 {S : St} {k : Nat} : ofS S k 7 = sp7 (sS S k) (gl S 1) := if_neg (by decide)
def oOfS (S : St) (i u : Int32) : Oc := match ixO i 20 with
  | none => (1, 0, S)
  | some k => match ixO u 8 with
    | none => (2, 0, S)
    | some v => (0, ofS S k v, S)
def oOfM (S : St) (i u : Int32) : Oc := match ixO i (nM S) with
  | none => (1, 0, S)
  | some k => match ixO u 4 with
    | none => (2, 0, S)
    | some v => (0, mS S k v, S)
def ofN (S : St) (k v : Nat) : Int32 := if v = 8 then bits (gS S k 8) else gS S k v
def oOfN (S : St) (i u : Int32) : Oc := match ixO i (nN S) with
  | none => (1, 0, S)
  | some k => match ixO u 10 with
    | none => (2, 0, S)
    | some v => (0, ofN S k v, S)
def knS (S : St) (k v : Nat) : Int32 := match v with
  | 3 => kSp S (nI k) (sS S k 4)
  | 4 => o1 (kby S (nI k) (nE S))
  | v => knV S v (kby S (nI k) (nE S))
def oKno (S : St) (i u : Int32) : Oc := match ixO i 20 with
  | none => (1, 0, S)
  | some k => match ixO u 5 with
    | none => (2, 0, S)
    | some v => (0, knS S k v, S)
def manV (S : St) (v : Nat) : Int32 := match v with
  | 0 => gl S 0
  | 1 => nI (nM S)
  | 2 => nI (nE S)
  | 3 => nAli S
  | 4 => nPos S 0
  | 5 => nPos S 1
  | 6 => nPos S 2
  | 7 => nPos S 3
  | 8 => nPos S 4
  | 9 => gl S 2
  | 10 => gl S 3
  | 11 => gl S 4
  | 12 => gl S 5
  | 13 => nTru S
  | 14 => nKno S
  | 15 => gl S 1
  | _ => gl S 6
def oMan (S : St) (u : Int32) : Oc := match ixO u 17 with
  | none => (1, 0, S)
  | some v => (0, manV S v, S)
theorem i_nn {x : Int32} (h : 0 ≤ x.toInt) : nI x.toNatClampNeg = x := by
  refine Int32.toInt_inj.mp ?_
  have h1 : x.toNatClampNeg = x.toInt.toNat := rfl
  have h2 := x.toInt_lt
  rw [nI_toInt (by rw [h1]; omega), h1]
  omega
set_option maxHeartbeats 400000 in
set_option maxRecDepth 100000 in
theorem c_X6_ofSection : CtrA yX6_ofSection cX6_ofSection 4 (some .int) (rmk 8 4 24 140) (fun Γ av w post xpost => ∃ (L : LayC) (S : St), ∃ i u, av = [.ref (thC L), .int i, .int u] ∧ RepC Γ L S w ∧ Inv S ∧ Out Γ L w post xpost [xI, xA] (oOfS S i u)) := by
  refine ctr_of (by decide) ?_
  rintro g av w hG hO ⟨L, S, i, u, rfl, hR, hI, hk⟩
  refine ⟨Nat.le_of_ble_eq_true rfl, ?_⟩
  show X g w 0 0 0 [some (.ref (thC L)), some (.int i), some (.int u), none] []
  have hnM := hI.2.1.1
  have hnN := hI.2.1.2.1
  have hnE := hI.2.1.2.2
  refine x_aload_n hG (pc := 0) 0 dX6_ofSection_0 rfl rfl ?_
  refine x_iload_n hG (pc := 1) 1 dX6_ofSection_1 rfl rfl ?_
  refine x_callV hG hO (pc := 2) [_] c_X6_sectionAt lk_X6_64 (by first | assumption | exact hR.main) rfl rfl ⟨by decide, by decide⟩ (Nat.le_of_ble_eq_true rfl) (by rw [hG.mc]; exact Nat.le_of_ble_eq_true rfl) (by rw [hG.ms]; exact Nat.le_of_ble_eq_true rfl) dX6_ofSection_2 ?_
  refine ⟨L, S, i, rfl, hR, fun k hkn hiq => ?_, fun hb => hk.bad (k := 0) (v := 0) (S1 := S) (by simp only [oOfS, ixO_n (n := 20) hb (by decide)]) rfl⟩
  subst hiq
  refine x_astore_n hG (pc := 5) 3 dX6_ofSection_5 rfl (Nat.le_of_ble_eq_true rfl) rfl (by dsimp only [List.set]) ?_
  refine x_iload_n hG (pc := 6) 2 dX6_ofSection_6 rfl rfl ?_
  by_cases q0 : u = nI 0
  · subst q0
    refine x_tableIn hG (pc := 7) (off := 45) 52 dX6_ofSection_7 (by decide) (by decide) (by decide) (by decide) ?_
    refine x_aload_n hG (pc := 52) 3 dX6_ofSection_52 rfl rfl ?_
    refine x_getf hG (pc := 53) fl_X6_114 (hR.sec hkn) rfl dX6_ofSection_53 ?_
    refine x_getf hG (pc := 56) fl_X6_274 (hR.val hkn) rfl dX6_ofSection_56 ?_
    refine x_ireturn hG (pc := 59) dX6_ofSection_59 rfl rfl (by rw [hG.mc]; exact Nat.le_of_ble_eq_true rfl) (by rw [hG.ms]; exact Nat.le_of_ble_eq_true rfl) ?_
    exact fin_i rfl (hk.ok (v := ofS S k 0) (by simp only [oOfS, ixO_s (n := 20) hkn (by decide), ixO_s (k := 0) (n := 8) (by decide) (by decide)]) rfl hR FrM.rf)
  · by_cases q1 : u = nI 1
    · subst q1
      refine x_tableIn hG (pc := 7) (off := 53) 60 dX6_ofSection_7 (by decide) (by decide) (by decide) (by decide) ?_
      refine x_aload_n hG (pc := 60) 3 dX6_ofSection_60 rfl rfl ?_
      refine x_getf hG (pc := 61) fl_X6_114 (hR.sec hkn) rfl dX6_ofSection_61 ?_
      refine x_getf hG (pc := 64) fl_X6_277 (hR.val hkn) rfl dX6_ofSection_64 ?_
      refine x_ireturn hG (pc := 67) dX6_ofSection_67 rfl rfl (by rw [hG.mc]; exact Nat.le_of_ble_eq_true rfl) (by rw [hG.ms]; exact Nat.le_of_ble_eq_true rfl) ?_
      exact fin_i rfl (hk.ok (v := ofS S k 1) (by simp only [oOfS, ixO_s (n := 20) hkn (by decide), ixO_s (k := 1) (n := 8) (by decide) (by decide)]) rfl hR FrM.rf)
    · by_cases q2 : u = nI 2
      · subst q2
        refine x_tableIn hG (pc := 7) (off := 61) 68 dX6_ofSection_7 (by decide) (by decide) (by decide) (by decide) ?_
        refine x_aload_n hG (pc := 68) 3 dX6_ofSection_68 rfl rfl ?_
        refine x_getf hG (pc := 69) fl_X6_114 (hR.sec hkn) rfl dX6_ofSection_69 ?_
        refine x_getf hG (pc := 72) fl_X6_280 (hR.val hkn) rfl dX6_ofSection_72 ?_
        refine x_ireturn hG (pc := 75) dX6_ofSection_75 rfl rfl (by rw [hG.mc]; exact Nat.le_of_ble_eq_true rfl) (by rw [hG.ms]; exact Nat.le_of_ble_eq_true rfl) ?_
        exact fin_i rfl (hk.ok (v := ofS S k 2) (by simp only [oOfS, ixO_s (n := 20) hkn (by decide), ixO_s (k := 2) (n := 8) (by decide) (by decide)]) rfl hR FrM.rf)
      · by_cases q3 : u = nI 3
        · subst q3
          refine x_tableIn hG (pc := 7) (off := 69) 76 dX6_ofSection_7 (by decide) (by decide) (by decide) (by decide) ?_
          refine x_aload_n hG (pc := 76) 3 dX6_ofSection_76 rfl rfl ?_
          refine x_getf hG (pc := 77) fl_X6_283 (hR.sec hkn) rfl dX6_ofSection_77 ?_
          refine x_ireturn hG (pc := 80) dX6_ofSection_80 rfl rfl (by rw [hG.mc]; exact Nat.le_of_ble_eq_true rfl) (by rw [hG.ms]; exact Nat.le_of_ble_eq_true rfl) ?_
          exact fin_i rfl (hk.ok (v := ofS S k 3) (by simp only [oOfS, ixO_s (n := 20) hkn (by decide), ixO_s (k := 3) (n := 8) (by decide) (by decide)]) rfl hR FrM.rf)
        · by_cases q4 : u = nI 4
          · subst q4
            refine x_tableIn hG (pc := 7) (off := 74) 81 dX6_ofSection_7 (by decide) (by decide) (by decide) (by decide) ?_
            refine x_aload_n hG (pc := 81) 3 dX6_ofSection_81 rfl rfl ?_
            refine x_getf hG (pc := 82) fl_X6_286 (hR.sec hkn) rfl dX6_ofSection_82 ?_
            refine x_ireturn hG (pc := 85) dX6_ofSection_85 rfl rfl (by rw [hG.mc]; exact Nat.le_of_ble_eq_true rfl) (by rw [hG.ms]; exact Nat.le_of_ble_eq_true rfl) ?_
            exact fin_i rfl (hk.ok (v := ofS S k 4) (by simp only [oOfS, ixO_s (n := 20) hkn (by decide), ixO_s (k := 4) (n := 8) (by decide) (by decide)]) rfl hR FrM.rf)
          · by_cases q5 : u = nI 5
            · subst q5
              refine x_tableIn hG (pc := 7) (off := 79) 86 dX6_ofSection_7 (by decide) (by decide) (by decide) (by decide) ?_
              refine x_aload_n hG (pc := 86) 3 dX6_ofSection_86 rfl rfl ?_
              refine x_getf hG (pc := 87) fl_X6_68 (hR.sec hkn) rfl dX6_ofSection_87 ?_
              refine x_if_eq hG (pc := 90) 97 dX6_ofSection_90 (by decide) (fun h90 => ?_) (fun h90 => ?_)
              · have hc : (0 : Int32) = ofS S k 5 := h90.symm
                refine x_iconst hG (pc := 97) 0 dX6_ofSection_97 (by decide) ?_
                show X g w _ _ 98 _ [.int _]
                refine x_ireturn hG (pc := 98) dX6_ofSection_98 rfl rfl (by rw [hG.mc]; exact Nat.le_of_ble_eq_true rfl) (by rw [hG.ms]; exact Nat.le_of_ble_eq_true rfl) ?_
                exact fin_i hc (hk.ok (v := ofS S k 5) (by simp only [oOfS, ixO_s (n := 20) hkn (by decide), ixO_s (k := 5) (n := 8) (by decide) (by decide)]) rfl hR FrM.rf)
              · have hc : (1 : Int32) = ofS S k 5 := ((hI.1 k hkn).2.2.1.resolve_left h90).symm
                refine x_iconst hG (pc := 93) 1 dX6_ofSection_93 (by decide) ?_
                refine x_goto hG (pc := 94) 98 dX6_ofSection_94 (by decide) ?_
                show X g w _ _ 98 _ [.int _]
                refine x_ireturn hG (pc := 98) dX6_ofSection_98 rfl rfl (by rw [hG.mc]; exact Nat.le_of_ble_eq_true rfl) (by rw [hG.ms]; exact Nat.le_of_ble_eq_true rfl) ?_
                exact fin_i hc (hk.ok (v := ofS S k 5) (by simp only [oOfS, ixO_s (n := 20) hkn (by decide), ixO_s (k := 5) (n := 8) (by decide) (by decide)]) rfl hR FrM.rf)
            · by_cases q6 : u = nI 6
              · subst q6
                refine x_tableIn hG (pc := 7) (off := 92) 99 dX6_ofSection_7 (by decide) (by decide) (by decide) (by decide) ?_
                refine x_aload_n hG (pc := 99) 3 dX6_ofSection_99 rfl rfl ?_
                refine x_getf hG (pc := 100) fl_X6_79 (hR.sec hkn) rfl dX6_ofSection_100 ?_
                refine x_ireturn hG (pc := 103) dX6_ofSection_103 rfl rfl (by rw [hG.mc]; exact Nat.le_of_ble_eq_true rfl) (by rw [hG.ms]; exact Nat.le_of_ble_eq_true rfl) ?_
                exact fin_i rfl (hk.ok (v := ofS S k 6) (by simp only [oOfS, ixO_s (n := 20) hkn (by decide), ixO_s (k := 6) (n := 8) (by decide) (by decide)]) rfl hR FrM.rf)
              · by_cases q7 : u = nI 7
                · subst q7
                  refine x_tableIn hG (pc := 7) (off := 97) 104 dX6_ofSection_7 (by decide) (by decide) (by decide) (by decide) ?_
                  refine x_aload_n hG (pc := 104) 3 dX6_ofSection_104 rfl rfl ?_
                  refine x_aload_n hG (pc := 105) 0 dX6_ofSection_105 rfl rfl ?_
                  refine x_getf hG (pc := 106) fl_X6_46 hR.main rfl dX6_ofSection_106 ?_
                  refine x_callV hG hO (pc := 109) [_] c_X3_trueSpeed lk_X6_289 (hR.sec hkn) rfl rfl ⟨by decide, by decide⟩ (Nat.le_of_ble_eq_true rfl) (by rw [hG.mc]; exact Nat.le_of_ble_eq_true rfl) (by rw [hG.ms]; exact Nat.le_of_ble_eq_true rfl) dX6_ofSection_109 ?_
                  refine ⟨_, _, _, _, _, _, _, _, _, _, _, _, rfl, hR.sec hkn, hR.val hkn, ?_⟩
                  refine x_ireturn hG (pc := 112) dX6_ofSection_112 rfl rfl (by rw [hG.mc]; exact Nat.le_of_ble_eq_true rfl) (by rw [hG.ms]; exact Nat.le_of_ble_eq_true rfl) ?_
                  exact fin_i ofS7.symm (hk.ok (v := ofS S k 7) (by simp only [oOfS, ixO_s (n := 20) hkn (by decide), ixO_s (k := 7) (n := 8) (by decide) (by decide)]) rfl hR FrM.rf)
                · have hnu := sw_out (u := u) (n := 8) (by decide) (all_s (p := fun j => u = nI j) (all_s (all_s (all_s (all_s (all_s (all_s (all_s (fun j h => absurd h (Nat.not_lt_zero _)) q0) q1) q2) q3) q4) q5) q6) q7)
                  refine x_tableOut hG (pc := 7) 113 dX6_ofSection_7 (by omega) (by decide) ?_
                  refine x_throwW hG hO (pc := 113) _ _ lt_292 dX6_ofSection_113 dX6_ofSection_116 dX6_ofSection_117 dX6_ofSection_120 dX6_ofSection_123 (by decide) (Nat.le_of_ble_eq_true rfl) (by rw [hG.mc]; exact Nat.le_of_ble_eq_true rfl) (by rw [hG.ms]; exact Nat.le_of_ble_eq_true rfl) ?_
                  exact hk.bad (k := 1) (v := 0) (S1 := S) (by simp only [oOfS, ixO_s (n := 20) hkn (by decide), sw_no hnu]) rfl
set_option maxHeartbeats 400000 in
set_option maxRecDepth 100000 in
theorem v_X6_ofSection : CtrA yX6_ofSection cX6_ofSection 4 (some .int) (rmk 3 0 0 76) (fun Γ av w post xpost => ∃ (L : LayC) (S : St), ∃ k v, av = [.ref (thC L), .int (nI k), .int (nI v)] ∧ RepC Γ L S w ∧ Inv S ∧ k < 20 ∧ v < 8 ∧ post (some (.int (ofS S k v))) w) := by
  refine ctr_of (by decide) ?_
  rintro g av w hG hO ⟨L, S, k, v, rfl, hR, hI, hkn, hv, hk⟩
  refine ⟨Nat.le_of_ble_eq_true rfl, ?_⟩
  show X g w 0 0 0 [some (.ref (thC L)), some (.int (nI k)), some (.int (nI v)), none] []
  have hnM := hI.2.1.1
  have hnN := hI.2.1.2.1
  have hnE := hI.2.1.2.2
  refine x_aload_n hG (pc := 0) 0 dX6_ofSection_0 rfl rfl ?_
  refine x_iload_n hG (pc := 1) 1 dX6_ofSection_1 rfl rfl ?_
  refine x_callV hG hO (pc := 2) [_] v_X6_sectionAt lk_X6_64 (by first | assumption | exact hR.main) rfl rfl ⟨by decide, by decide⟩ (Nat.le_of_ble_eq_true rfl) (by rw [hG.mc]; exact Nat.le_of_ble_eq_true rfl) (by rw [hG.ms]; exact Nat.le_of_ble_eq_true rfl) dX6_ofSection_2 ?_
  refine ⟨L, S, k, rfl, hR, hkn, ?_⟩
  refine x_astore_n hG (pc := 5) 3 dX6_ofSection_5 rfl (Nat.le_of_ble_eq_true rfl) rfl (by dsimp only [List.set]) ?_
  refine x_iload_n hG (pc := 6) 2 dX6_ofSection_6 rfl rfl ?_
  by_cases q0 : v = 0
  · subst q0
    refine x_tableIn hG (pc := 7) (off := 45) 52 dX6_ofSection_7 (by decide) (by decide) (by decide) (by decide) ?_
    refine x_aload_n hG (pc := 52) 3 dX6_ofSection_52 rfl rfl ?_
    refine x_getf hG (pc := 53) fl_X6_114 (hR.sec hkn) rfl dX6_ofSection_53 ?_
    refine x_getf hG (pc := 56) fl_X6_274 (hR.val hkn) rfl dX6_ofSection_56 ?_
    refine x_ireturn hG (pc := 59) dX6_ofSection_59 rfl rfl (by rw [hG.mc]; exact Nat.le_of_ble_eq_true rfl) (by rw [hG.ms]; exact Nat.le_of_ble_eq_true rfl) ?_
    exact fin_i rfl hk
  · by_cases q1 : v = 1
    · subst q1
      refine x_tableIn hG (pc := 7) (off := 53) 60 dX6_ofSection_7 (by decide) (by decide) (by decide) (by decide) ?_
      refine x_aload_n hG (pc := 60) 3 dX6_ofSection_60 rfl rfl ?_
      refine x_getf hG (pc := 61) fl_X6_114 (hR.sec hkn) rfl dX6_ofSection_61 ?_
      refine x_getf hG (pc := 64) fl_X6_277 (hR.val hkn) rfl dX6_ofSection_64 ?_
      refine x_ireturn hG (pc := 67) dX6_ofSection_67 rfl rfl (by rw [hG.mc]; exact Nat.le_of_ble_eq_true rfl) (by rw [hG.ms]; exact Nat.le_of_ble_eq_true rfl) ?_
      exact fin_i rfl hk
    · by_cases q2 : v = 2
      · subst q2
        refine x_tableIn hG (pc := 7) (off := 61) 68 dX6_ofSection_7 (by decide) (by decide) (by decide) (by decide) ?_
        refine x_aload_n hG (pc := 68) 3 dX6_ofSection_68 rfl rfl ?_
        refine x_getf hG (pc := 69) fl_X6_114 (hR.sec hkn) rfl dX6_ofSection_69 ?_
        refine x_getf hG (pc := 72) fl_X6_280 (hR.val hkn) rfl dX6_ofSection_72 ?_
        refine x_ireturn hG (pc := 75) dX6_ofSection_75 rfl rfl (by rw [hG.mc]; exact Nat.le_of_ble_eq_true rfl) (by rw [hG.ms]; exact Nat.le_of_ble_eq_true rfl) ?_
        exact fin_i rfl hk
      · by_cases q3 : v = 3
        · subst q3
          refine x_tableIn hG (pc := 7) (off := 69) 76 dX6_ofSection_7 (by decide) (by decide) (by decide) (by decide) ?_
          refine x_aload_n hG (pc := 76) 3 dX6_ofSection_76 rfl rfl ?_
          refine x_getf hG (pc := 77) fl_X6_283 (hR.sec hkn) rfl dX6_ofSection_77 ?_
          refine x_ireturn hG (pc := 80) dX6_ofSection_80 rfl rfl (by rw [hG.mc]; exact Nat.le_of_ble_eq_true rfl) (by rw [hG.ms]; exact Nat.le_of_ble_eq_true rfl) ?_
          exact fin_i rfl hk
        · by_cases q4 : v = 4
          · subst q4
            refine x_tableIn hG (pc := 7) (off := 74) 81 dX6_ofSection_7 (by decide) (by decide) (by decide) (by decide) ?_
            refine x_aload_n hG (pc := 81) 3 dX6_ofSection_81 rfl rfl ?_
            refine x_getf hG (pc := 82) fl_X6_286 (hR.sec hkn) rfl dX6_ofSection_82 ?_
            refine x_ireturn hG (pc := 85) dX6_ofSection_85 rfl rfl (by rw [hG.mc]; exact Nat.le_of_ble_eq_true rfl) (by rw [hG.ms]; exact Nat.le_of_ble_eq_true rfl) ?_
            exact fin_i rfl hk
          · by_cases q5 : v = 5
            · subst q5
              refine x_tableIn hG (pc := 7) (off := 79) 86 dX6_ofSection_7 (by decide) (by decide) (by decide) (by decide) ?_
              refine x_aload_n hG (pc := 86) 3 dX6_ofSection_86 rfl rfl ?_
              refine x_getf hG (pc := 87) fl_X6_68 (hR.sec hkn) rfl dX6_ofSection_87 ?_
              refine x_if_eq hG (pc := 90) 97 dX6_ofSection_90 (by decide) (fun h90 => ?_) (fun h90 => ?_)
              · have hc : (0 : Int32) = ofS S k 5 := h90.symm
                refine x_iconst hG (pc := 97) 0 dX6_ofSection_97 (by decide) ?_
                show X g w _ _ 98 _ [.int _]
                refine x_ireturn hG (pc := 98) dX6_ofSection_98 rfl rfl (by rw [hG.mc]; exact Nat.le_of_ble_eq_true rfl) (by rw [hG.ms]; exact Nat.le_of_ble_eq_true rfl) ?_
                exact fin_i hc hk
              · have hc : (1 : Int32) = ofS S k 5 := ((hI.1 k hkn).2.2.1.resolve_left h90).symm
                refine x_iconst hG (pc := 93) 1 dX6_ofSection_93 (by decide) ?_
                refine x_goto hG (pc := 94) 98 dX6_ofSection_94 (by decide) ?_
                show X g w _ _ 98 _ [.int _]
                refine x_ireturn hG (pc := 98) dX6_ofSection_98 rfl rfl (by rw [hG.mc]; exact Nat.le_of_ble_eq_true rfl) (by rw [hG.ms]; exact Nat.le_of_ble_eq_true rfl) ?_
                exact fin_i hc hk
            · by_cases q6 : v = 6
              · subst q6
                refine x_tableIn hG (pc := 7) (off := 92) 99 dX6_ofSection_7 (by decide) (by decide) (by decide) (by decide) ?_
                refine x_aload_n hG (pc := 99) 3 dX6_ofSection_99 rfl rfl ?_
                refine x_getf hG (pc := 100) fl_X6_79 (hR.sec hkn) rfl dX6_ofSection_100 ?_
                refine x_ireturn hG (pc := 103) dX6_ofSection_103 rfl rfl (by rw [hG.mc]; exact Nat.le_of_ble_eq_true rfl) (by rw [hG.ms]; exact Nat.le_of_ble_eq_true rfl) ?_
                exact fin_i rfl hk
              · by_cases q7 : v = 7
                · subst q7
                  refine x_tableIn hG (pc := 7) (off := 97) 104 dX6_ofSection_7 (by decide) (by decide) (by decide) (by decide) ?_
                  refine x_aload_n hG (pc := 104) 3 dX6_ofSection_104 rfl rfl ?_
                  refine x_aload_n hG (pc := 105) 0 dX6_ofSection_105 rfl rfl ?_
                  refine x_getf hG (pc := 106) fl_X6_46 hR.main rfl dX6_ofSection_106 ?_
                  refine x_callV hG hO (pc := 109) [_] c_X3_trueSpeed lk_X6_289 (hR.sec hkn) rfl rfl ⟨by decide, by decide⟩ (Nat.le_of_ble_eq_true rfl) (by rw [hG.mc]; exact Nat.le_of_ble_eq_true rfl) (by rw [hG.ms]; exact Nat.le_of_ble_eq_true rfl) dX6_ofSection_109 ?_
                  refine ⟨_, _, _, _, _, _, _, _, _, _, _, _, rfl, hR.sec hkn, hR.val hkn, ?_⟩
                  refine x_ireturn hG (pc := 112) dX6_ofSection_112 rfl rfl (by rw [hG.mc]; exact Nat.le_of_ble_eq_true rfl) (by rw [hG.ms]; exact Nat.le_of_ble_eq_true rfl) ?_
                  exact fin_i ofS7.symm hk
                · exact absurd hv (by omega)
set_option maxHeartbeats 400000 in
set_option maxRecDepth 100000 in
theorem c_X6_ofMachine : CtrA yX6_ofMachine cX6_ofMachine 4 (some .int) (rmk 7 4 24 119) (fun Γ av w post xpost => ∃ (L : LayC) (S : St), ∃ i u, av = [.ref (thC L), .int i, .int u] ∧ RepC Γ L S w ∧ Inv S ∧ Out Γ L w post xpost [xI, xA] (oOfM S i u)) := by
  refine ctr_of (by decide) ?_
  rintro g av w hG hO ⟨L, S, i, u, rfl, hR, hI, hk⟩
  refine ⟨Nat.le_of_ble_eq_true rfl, ?_⟩
  show X g w 0 0 0 [some (.ref (thC L)), some (.int i), some (.int u), none] []
  have hnM := hI.2.1.1
  have hnN := hI.2.1.2.1
  have hnE := hI.2.1.2.2
  refine x_aload_n hG (pc := 0) 0 dX6_ofMachine_0 rfl rfl ?_
  refine x_iload_n hG (pc := 1) 1 dX6_ofMachine_1 rfl rfl ?_
  refine x_callV hG hO (pc := 2) [_] c_X6_machineAt lk_X6_151 (by first | assumption | exact hR.main) rfl rfl ⟨by decide, by decide⟩ (Nat.le_of_ble_eq_true rfl) (by rw [hG.mc]; exact Nat.le_of_ble_eq_true rfl) (by rw [hG.ms]; exact Nat.le_of_ble_eq_true rfl) dX6_ofMachine_2 ?_
  refine ⟨L, S, i, rfl, hR, fun k hkn hiq => ?_, fun hb => hk.bad (k := 0) (v := 0) (S1 := S) (by simp only [oOfM, ixO_n (n := nM S) hb (by omega)]) rfl⟩
  subst hiq
  refine x_astore_n hG (pc := 5) 3 dX6_ofMachine_5 rfl (Nat.le_of_ble_eq_true rfl) rfl (by dsimp only [List.set]) ?_
  refine x_iload_n hG (pc := 6) 2 dX6_ofMachine_6 rfl rfl ?_
  by_cases q0 : u = nI 0
  · subst q0
    refine x_tableIn hG (pc := 7) (off := 29) 36 dX6_ofMachine_7 (by decide) (by decide) (by decide) (by decide) ?_
    refine x_aload_n hG (pc := 36) 3 dX6_ofMachine_36 rfl rfl ?_
    refine x_getf hG (pc := 37) fl_X6_201 (hR.mac hkn) rfl dX6_ofMachine_37 ?_
    refine x_ireturn hG (pc := 40) dX6_ofMachine_40 rfl rfl (by rw [hG.mc]; exact Nat.le_of_ble_eq_true rfl) (by rw [hG.ms]; exact Nat.le_of_ble_eq_true rfl) ?_
    exact fin_i rfl (hk.ok (v := mS S k 0) (by simp only [oOfM, ixO_s (n := nM S) hkn (by omega), ixO_s (k := 0) (n := 4) (by decide) (by decide)]) rfl hR FrM.rf)
  · by_cases q1 : u = nI 1
    · subst q1
      refine x_tableIn hG (pc := 7) (off := 34) 41 dX6_ofMachine_7 (by decide) (by decide) (by decide) (by decide) ?_
      refine x_aload_n hG (pc := 41) 3 dX6_ofMachine_41 rfl rfl ?_
      refine x_getf hG (pc := 42) fl_X6_161 (hR.mac hkn) rfl dX6_ofMachine_42 ?_
      refine x_ireturn hG (pc := 45) dX6_ofMachine_45 rfl rfl (by rw [hG.mc]; exact Nat.le_of_ble_eq_true rfl) (by rw [hG.ms]; exact Nat.le_of_ble_eq_true rfl) ?_
      exact fin_i rfl (hk.ok (v := mS S k 1) (by simp only [oOfM, ixO_s (n := nM S) hkn (by omega), ixO_s (k := 1) (n := 4) (by decide) (by decide)]) rfl hR FrM.rf)
    · by_cases q2 : u = nI 2
      · subst q2
        refine x_tableIn hG (pc := 7) (off := 39) 46 dX6_ofMachine_7 (by decide) (by decide) (by decide) (by decide) ?_
        refine x_aload_n hG (pc := 46) 3 dX6_ofMachine_46 rfl rfl ?_
        refine x_getf hG (pc := 47) fl_X6_309 (hR.mac hkn) rfl dX6_ofMachine_47 ?_
        refine x_ireturn hG (pc := 50) dX6_ofMachine_50 rfl rfl (by rw [hG.mc]; exact Nat.le_of_ble_eq_true rfl) (by rw [hG.ms]; exact Nat.le_of_ble_eq_true rfl) ?_
        exact fin_i rfl (hk.ok (v := mS S k 2) (by simp only [oOfM, ixO_s (n := nM S) hkn (by omega), ixO_s (k := 2) (n := 4) (by decide) (by decide)]) rfl hR FrM.rf)
      · by_cases q3 : u = nI 3
        · subst q3
          refine x_tableIn hG (pc := 7) (off := 44) 51 dX6_ofMachine_7 (by decide) (by decide) (by decide) (by decide) ?_
          refine x_aload_n hG (pc := 51) 3 dX6_ofMachine_51 rfl rfl ?_
          refine x_getf hG (pc := 52) fl_X6_312 (hR.mac hkn) rfl dX6_ofMachine_52 ?_
          refine x_ireturn hG (pc := 55) dX6_ofMachine_55 rfl rfl (by rw [hG.mc]; exact Nat.le_of_ble_eq_true rfl) (by rw [hG.ms]; exact Nat.le_of_ble_eq_true rfl) ?_
          exact fin_i rfl (hk.ok (v := mS S k 3) (by simp only [oOfM, ixO_s (n := nM S) hkn (by omega), ixO_s (k := 3) (n := 4) (by decide) (by decide)]) rfl hR FrM.rf)
        · have hnu := sw_out (u := u) (n := 4) (by decide) (all_s (p := fun j => u = nI j) (all_s (all_s (all_s (fun j h => absurd h (Nat.not_lt_zero _)) q0) q1) q2) q3)
          refine x_tableOut hG (pc := 7) 56 dX6_ofMachine_7 (by omega) (by decide) ?_
          refine x_throwW hG hO (pc := 56) _ _ lt_315 dX6_ofMachine_56 dX6_ofMachine_59 dX6_ofMachine_60 dX6_ofMachine_63 dX6_ofMachine_66 (by decide) (Nat.le_of_ble_eq_true rfl) (by rw [hG.mc]; exact Nat.le_of_ble_eq_true rfl) (by rw [hG.ms]; exact Nat.le_of_ble_eq_true rfl) ?_
          exact hk.bad (k := 1) (v := 0) (S1 := S) (by simp only [oOfM, ixO_s (n := nM S) hkn (by omega), sw_no hnu]) rfl
set_option maxHeartbeats 400000 in
set_option maxRecDepth 100000 in
theorem v_X6_ofMachine : CtrA yX6_ofMachine cX6_ofMachine 4 (some .int) (rmk 4 0 0 85) (fun Γ av w post xpost => ∃ (L : LayC) (S : St), ∃ k v, av = [.ref (thC L), .int (nI k), .int (nI v)] ∧ RepC Γ L S w ∧ Inv S ∧ k < nM S ∧ v < 4 ∧ post (some (.int (mS S k v))) w) := by
  refine ctr_of (by decide) ?_
  rintro g av w hG hO ⟨L, S, k, v, rfl, hR, hI, hkn, hv, hk⟩
  refine ⟨Nat.le_of_ble_eq_true rfl, ?_⟩
  show X g w 0 0 0 [some (.ref (thC L)), some (.int (nI k)), some (.int (nI v)), none] []
  have hnM := hI.2.1.1
  have hnN := hI.2.1.2.1
  have hnE := hI.2.1.2.2
  refine x_aload_n hG (pc := 0) 0 dX6_ofMachine_0 rfl rfl ?_
  refine x_iload_n hG (pc := 1) 1 dX6_ofMachine_1 rfl rfl ?_
  refine x_callV hG hO (pc := 2) [_] v_X6_machineAt lk_X6_151 (by first | assumption | exact hR.main) rfl rfl ⟨by decide, by decide⟩ (Nat.le_of_ble_eq_true rfl) (by rw [hG.mc]; exact Nat.le_of_ble_eq_true rfl) (by rw [hG.ms]; exact Nat.le_of_ble_eq_true rfl) dX6_ofMachine_2 ?_
  refine ⟨L, S, k, rfl, hR, hkn, ?_⟩
  refine x_astore_n hG (pc := 5) 3 dX6_ofMachine_5 rfl (Nat.le_of_ble_eq_true rfl) rfl (by dsimp only [List.set]) ?_
  refine x_iload_n hG (pc := 6) 2 dX6_ofMachine_6 rfl rfl ?_
  by_cases q0 : v = 0
  · subst q0
    refine x_tableIn hG (pc := 7) (off := 29) 36 dX6_ofMachine_7 (by decide) (by decide) (by decide) (by decide) ?_
    refine x_aload_n hG (pc := 36) 3 dX6_ofMachine_36 rfl rfl ?_
    refine x_getf hG (pc := 37) fl_X6_201 (hR.mac hkn) rfl dX6_ofMachine_37 ?_
    refine x_ireturn hG (pc := 40) dX6_ofMachine_40 rfl rfl (by rw [hG.mc]; exact Nat.le_of_ble_eq_true rfl) (by rw [hG.ms]; exact Nat.le_of_ble_eq_true rfl) ?_
    exact fin_i rfl hk
  · by_cases q1 : v = 1
    · subst q1
      refine x_tableIn hG (pc := 7) (off := 34) 41 dX6_ofMachine_7 (by decide) (by decide) (by decide) (by decide) ?_
      refine x_aload_n hG (pc := 41) 3 dX6_ofMachine_41 rfl rfl ?_
      refine x_getf hG (pc := 42) fl_X6_161 (hR.mac hkn) rfl dX6_ofMachine_42 ?_
      refine x_ireturn hG (pc := 45) dX6_ofMachine_45 rfl rfl (by rw [hG.mc]; exact Nat.le_of_ble_eq_true rfl) (by rw [hG.ms]; exact Nat.le_of_ble_eq_true rfl) ?_
      exact fin_i rfl hk
    · by_cases q2 : v = 2
      · subst q2
        refine x_tableIn hG (pc := 7) (off := 39) 46 dX6_ofMachine_7 (by decide) (by decide) (by decide) (by decide) ?_
        refine x_aload_n hG (pc := 46) 3 dX6_ofMachine_46 rfl rfl ?_
        refine x_getf hG (pc := 47) fl_X6_309 (hR.mac hkn) rfl dX6_ofMachine_47 ?_
        refine x_ireturn hG (pc := 50) dX6_ofMachine_50 rfl rfl (by rw [hG.mc]; exact Nat.le_of_ble_eq_true rfl) (by rw [hG.ms]; exact Nat.le_of_ble_eq_true rfl) ?_
        exact fin_i rfl hk
      · by_cases q3 : v = 3
        · subst q3
          refine x_tableIn hG (pc := 7) (off := 44) 51 dX6_ofMachine_7 (by decide) (by decide) (by decide) (by decide) ?_
          refine x_aload_n hG (pc := 51) 3 dX6_ofMachine_51 rfl rfl ?_
          refine x_getf hG (pc := 52) fl_X6_312 (hR.mac hkn) rfl dX6_ofMachine_52 ?_
          refine x_ireturn hG (pc := 55) dX6_ofMachine_55 rfl rfl (by rw [hG.mc]; exact Nat.le_of_ble_eq_true rfl) (by rw [hG.ms]; exact Nat.le_of_ble_eq_true rfl) ?_
          exact fin_i rfl hk
        · exact absurd hv (by omega)
set_option maxHeartbeats 400000 in
set_option maxRecDepth 100000 in
theorem c_X6_ofPossession : CtrA yX6_ofPossession cX6_ofPossession 4 (some .int) (rmk 7 4 24 119) (fun Γ av w post xpost => ∃ (L : LayC) (S : St), ∃ i u, av = [.ref (thC L), .int i, .int u] ∧ RepC Γ L S w ∧ Inv S ∧ Out Γ L w post xpost [xI, xA] (oOfN S i u)) := by
  refine ctr_of (by decide) ?_
  rintro g av w hG hO ⟨L, S, i, u, rfl, hR, hI, hk⟩
  refine ⟨Nat.le_of_ble_eq_true rfl, ?_⟩
  show X g w 0 0 0 [some (.ref (thC L)), some (.int i), some (.int u), none] []
  have hnM := hI.2.1.1
  have hnN := hI.2.1.2.1
  have hnE := hI.2.1.2.2
  refine x_aload_n hG (pc := 0) 0 dX6_ofPossession_0 rfl rfl ?_
  refine x_iload_n hG (pc := 1) 1 dX6_ofPossession_1 rfl rfl ?_
  refine x_callV hG hO (pc := 2) [_] c_X6_possessionAt lk_X6_181 (by first | assumption | exact hR.main) rfl rfl ⟨by decide, by decide⟩ (Nat.le_of_ble_eq_true rfl) (by rw [hG.mc]; exact Nat.le_of_ble_eq_true rfl) (by rw [hG.ms]; exact Nat.le_of_ble_eq_true rfl) dX6_ofPossession_2 ?_
  refine ⟨L, S, i, rfl, hR, fun k hkn hiq => ?_, fun hb => hk.bad (k := 0) (v := 0) (S1 := S) (by simp only [oOfN, ixO_n (n := nN S) hb (by omega)]) rfl⟩
  subst hiq
  refine x_astore_n hG (pc := 5) 3 dX6_ofPossession_5 rfl (Nat.le_of_ble_eq_true rfl) rfl (by dsimp only [List.set]) ?_
  refine x_iload_n hG (pc := 6) 2 dX6_ofPossession_6 rfl rfl ?_
  by_cases q0 : u = nI 0
  · subst q0
    refine x_tableIn hG (pc := 7) (off := 53) 60 dX6_ofPossession_7 (by decide) (by decide) (by decide) (by decide) ?_
    refine x_aload_n hG (pc := 60) 3 dX6_ofPossession_60 rfl rfl ?_
    refine x_getf hG (pc := 61) fl_X6_191 (hR.pos hkn) rfl dX6_ofPossession_61 ?_
    refine x_ireturn hG (pc := 64) dX6_ofPossession_64 rfl rfl (by rw [hG.mc]; exact Nat.le_of_ble_eq_true rfl) (by rw [hG.ms]; exact Nat.le_of_ble_eq_true rfl) ?_
    exact fin_i rfl (hk.ok (v := ofN S k 0) (by simp only [oOfN, ixO_s (n := nN S) hkn (by omega), ixO_s (k := 0) (n := 10) (by decide) (by decide)]) rfl hR FrM.rf)
  · by_cases q1 : u = nI 1
    · subst q1
      refine x_tableIn hG (pc := 7) (off := 58) 65 dX6_ofPossession_7 (by decide) (by decide) (by decide) (by decide) ?_
      refine x_aload_n hG (pc := 65) 3 dX6_ofPossession_65 rfl rfl ?_
      refine x_getf hG (pc := 66) fl_X6_317 (hR.pos hkn) rfl dX6_ofPossession_66 ?_
      refine x_ireturn hG (pc := 69) dX6_ofPossession_69 rfl rfl (by rw [hG.mc]; exact Nat.le_of_ble_eq_true rfl) (by rw [hG.ms]; exact Nat.le_of_ble_eq_true rfl) ?_
      exact fin_i rfl (hk.ok (v := ofN S k 1) (by simp only [oOfN, ixO_s (n := nN S) hkn (by omega), ixO_s (k := 1) (n := 10) (by decide) (by decide)]) rfl hR FrM.rf)
    · by_cases q2 : u = nI 2
      · subst q2
        refine x_tableIn hG (pc := 7) (off := 63) 70 dX6_ofPossession_7 (by decide) (by decide) (by decide) (by decide) ?_
        refine x_aload_n hG (pc := 70) 3 dX6_ofPossession_70 rfl rfl ?_
        refine x_getf hG (pc := 71) fl_X6_250 (hR.pos hkn) rfl dX6_ofPossession_71 ?_
        refine x_ireturn hG (pc := 74) dX6_ofPossession_74 rfl rfl (by rw [hG.mc]; exact Nat.le_of_ble_eq_true rfl) (by rw [hG.ms]; exact Nat.le_of_ble_eq_true rfl) ?_
        exact fin_i rfl (hk.ok (v := ofN S k 2) (by simp only [oOfN, ixO_s (n := nN S) hkn (by omega), ixO_s (k := 2) (n := 10) (by decide) (by decide)]) rfl hR FrM.rf)
      · by_cases q3 : u = nI 3
        · subst q3
          refine x_tableIn hG (pc := 7) (off := 68) 75 dX6_ofPossession_7 (by decide) (by decide) (by decide) (by decide) ?_
          refine x_aload_n hG (pc := 75) 3 dX6_ofPossession_75 rfl rfl ?_
          refine x_getf hG (pc := 76) fl_X6_247 (hR.pos hkn) rfl dX6_ofPossession_76 ?_
          refine x_ireturn hG (pc := 79) dX6_ofPossession_79 rfl rfl (by rw [hG.mc]; exact Nat.le_of_ble_eq_true rfl) (by rw [hG.ms]; exact Nat.le_of_ble_eq_true rfl) ?_
          exact fin_i rfl (hk.ok (v := ofN S k 3) (by simp only [oOfN, ixO_s (n := nN S) hkn (by omega), ixO_s (k := 3) (n := 10) (by decide) (by decide)]) rfl hR FrM.rf)
        · by_cases q4 : u = nI 4
          · subst q4
            refine x_tableIn hG (pc := 7) (off := 73) 80 dX6_ofPossession_7 (by decide) (by decide) (by decide) (by decide) ?_
            refine x_aload_n hG (pc := 80) 3 dX6_ofPossession_80 rfl rfl ?_
            refine x_getf hG (pc := 81) fl_X6_227 (hR.pos hkn) rfl dX6_ofPossession_81 ?_
            refine x_ireturn hG (pc := 84) dX6_ofPossession_84 rfl rfl (by rw [hG.mc]; exact Nat.le_of_ble_eq_true rfl) (by rw [hG.ms]; exact Nat.le_of_ble_eq_true rfl) ?_
            exact fin_i rfl (hk.ok (v := ofN S k 4) (by simp only [oOfN, ixO_s (n := nN S) hkn (by omega), ixO_s (k := 4) (n := 10) (by decide) (by decide)]) rfl hR FrM.rf)
          · by_cases q5 : u = nI 5
            · subst q5
              refine x_tableIn hG (pc := 7) (off := 78) 85 dX6_ofPossession_7 (by decide) (by decide) (by decide) (by decide) ?_
              refine x_aload_n hG (pc := 85) 3 dX6_ofPossession_85 rfl rfl ?_
              refine x_getf hG (pc := 86) fl_X6_211 (hR.pos hkn) rfl dX6_ofPossession_86 ?_
              refine x_ireturn hG (pc := 89) dX6_ofPossession_89 rfl rfl (by rw [hG.mc]; exact Nat.le_of_ble_eq_true rfl) (by rw [hG.ms]; exact Nat.le_of_ble_eq_true rfl) ?_
              exact fin_i rfl (hk.ok (v := ofN S k 5) (by simp only [oOfN, ixO_s (n := nN S) hkn (by omega), ixO_s (k := 5) (n := 10) (by decide) (by decide)]) rfl hR FrM.rf)
            · by_cases q6 : u = nI 6
              · subst q6
                refine x_tableIn hG (pc := 7) (off := 83) 90 dX6_ofPossession_7 (by decide) (by decide) (by decide) (by decide) ?_
                refine x_aload_n hG (pc := 90) 3 dX6_ofPossession_90 rfl rfl ?_
                refine x_getf hG (pc := 91) fl_X6_196 (hR.pos hkn) rfl dX6_ofPossession_91 ?_
                refine x_callV hG hO (pc := 94) [] c_Jx4a65c_size_8abf5 lk_X6_104 (hR.lst (id := k + 3) (by omega)).1 rfl rfl ⟨by decide, by decide⟩ (Nat.le_of_ble_eq_true rfl) (by rw [hG.mc]; exact Nat.le_of_ble_eq_true rfl) (by rw [hG.ms]; exact Nat.le_of_ble_eq_true rfl) dX6_ofPossession_94 ?_
                refine ⟨_, _, _, _, _, rfl, (hR.lst (id := k + 3) (by omega)).1, ?_⟩
                refine x_ireturn hG (pc := 97) dX6_ofPossession_97 rfl rfl (by rw [hG.mc]; exact Nat.le_of_ble_eq_true rfl) (by rw [hG.ms]; exact Nat.le_of_ble_eq_true rfl) ?_
                exact fin_i (i_nn (hI.2.2.2.1 k hkn).2.2.2.1.1) (hk.ok (v := ofN S k 6) (by simp only [oOfN, ixO_s (n := nN S) hkn (by omega), ixO_s (k := 6) (n := 10) (by decide) (by decide)]) rfl hR FrM.rf)
              · by_cases q7 : u = nI 7
                · subst q7
                  refine x_tableIn hG (pc := 7) (off := 91) 98 dX6_ofPossession_7 (by decide) (by decide) (by decide) (by decide) ?_
                  refine x_aload_n hG (pc := 98) 3 dX6_ofPossession_98 rfl rfl ?_
                  refine x_callV hG hO (pc := 99) [] c_X2_hoursPlanned lk_X6_208 (hR.pos hkn) rfl rfl ⟨by decide, by decide⟩ (Nat.le_of_ble_eq_true rfl) (by rw [hG.mc]; exact Nat.le_of_ble_eq_true rfl) (by rw [hG.ms]; exact Nat.le_of_ble_eq_true rfl) dX6_ofPossession_99 ?_
                  refine ⟨_, _, _, _, _, _, _, _, _, _, _, _, _, _, _, _, _, _, _, _, _, _, rfl, hR.pos hkn, hR.lst (id := k + 3) (by omega), hR.wrk hkn, ?_⟩
                  refine x_ireturn hG (pc := 102) dX6_ofPossession_102 rfl rfl (by rw [hG.mc]; exact Nat.le_of_ble_eq_true rfl) (by rw [hG.ms]; exact Nat.le_of_ble_eq_true rfl) ?_
                  exact fin_i (hI.2.2.2.1 k hkn).2.2.2.2.symm (hk.ok (v := ofN S k 7) (by simp only [oOfN, ixO_s (n := nN S) hkn (by omega), ixO_s (k := 7) (n := 10) (by decide) (by decide)]) rfl hR FrM.rf)
                · by_cases q8 : u = nI 8
                  · subst q8
                    refine x_tableIn hG (pc := 7) (off := 96) 103 dX6_ofPossession_7 (by decide) (by decide) (by decide) (by decide) ?_
                    refine x_aload_n hG (pc := 103) 3 dX6_ofPossession_103 rfl rfl ?_
                    refine x_callV hG hO (pc := 104) [] c_X2_marks lk_X6_242 (hR.pos hkn) rfl rfl ⟨by decide, by decide⟩ (Nat.le_of_ble_eq_true rfl) (by rw [hG.mc]; exact Nat.le_of_ble_eq_true rfl) (by rw [hG.ms]; exact Nat.le_of_ble_eq_true rfl) dX6_ofPossession_104 ?_
                    refine ⟨_, _, _, _, _, _, _, _, _, _, _, _, rfl, hR.pos hkn, ?_⟩
                    refine x_ireturn hG (pc := 107) dX6_ofPossession_107 rfl rfl (by rw [hG.mc]; exact Nat.le_of_ble_eq_true rfl) (by rw [hG.ms]; exact Nat.le_of_ble_eq_true rfl) ?_
                    exact fin_i rfl (hk.ok (v := ofN S k 8) (by simp only [oOfN, ixO_s (n := nN S) hkn (by omega), ixO_s (k := 8) (n := 10) (by decide) (by decide)]) rfl hR FrM.rf)
                  · by_cases q9 : u = nI 9
                    · subst q9
                      refine x_tableIn hG (pc := 7) (off := 101) 108 dX6_ofPossession_7 (by decide) (by decide) (by decide) (by decide) ?_
                      refine x_aload_n hG (pc := 108) 3 dX6_ofPossession_108 rfl rfl ?_
                      refine x_getf hG (pc := 109) fl_X6_259 (hR.pos hkn) rfl dX6_ofPossession_109 ?_
                      refine x_ireturn hG (pc := 112) dX6_ofPossession_112 rfl rfl (by rw [hG.mc]; exact Nat.le_of_ble_eq_true rfl) (by rw [hG.ms]; exact Nat.le_of_ble_eq_true rfl) ?_
                      exact fin_i rfl (hk.ok (v := ofN S k 9) (by simp only [oOfN, ixO_s (n := nN S) hkn (by omega), ixO_s (k := 9) (n := 10) (by decide) (by decide)]) rfl hR FrM.rf)
                    · have hnu := sw_out (u := u) (n := 10) (by decide) (all_s (p := fun j => u = nI j) (all_s (all_s (all_s (all_s (all_s (all_s (all_s (all_s (all_s (fun j h => absurd h (Nat.not_lt_zero _)) q0) q1) q2) q3) q4) q5) q6) q7) q8) q9)
                      refine x_tableOut hG (pc := 7) 113 dX6_ofPossession_7 (by omega) (by decide) ?_
                      refine x_throwW hG hO (pc := 113) _ _ lt_320 dX6_ofPossession_113 dX6_ofPossession_116 dX6_ofPossession_117 dX6_ofPossession_120 dX6_ofPossession_123 (by decide) (Nat.le_of_ble_eq_true rfl) (by rw [hG.mc]; exact Nat.le_of_ble_eq_true rfl) (by rw [hG.ms]; exact Nat.le_of_ble_eq_true rfl) ?_
                      exact hk.bad (k := 1) (v := 0) (S1 := S) (by simp only [oOfN, ixO_s (n := nN S) hkn (by omega), sw_no hnu]) rfl
set_option maxHeartbeats 400000 in
set_option maxRecDepth 100000 in
theorem v_X6_ofPossession : CtrA yX6_ofPossession cX6_ofPossession 4 (some .int) (rmk 4 0 0 86) (fun Γ av w post xpost => ∃ (L : LayC) (S : St), ∃ k v, av = [.ref (thC L), .int (nI k), .int (nI v)] ∧ RepC Γ L S w ∧ Inv S ∧ k < nN S ∧ v < 10 ∧ post (some (.int (ofN S k v))) w) := by
  refine ctr_of (by decide) ?_
  rintro g av w hG hO ⟨L, S, k, v, rfl, hR, hI, hkn, hv, hk⟩
  refine ⟨Nat.le_of_ble_eq_true rfl, ?_⟩
  show X g w 0 0 0 [some (.ref (thC L)), some (.int (nI k)), some (.int (nI v)), none] []
  have hnM := hI.2.1.1
  have hnN := hI.2.1.2.1
  have hnE := hI.2.1.2.2
  refine x_aload_n hG (pc := 0) 0 dX6_ofPossession_0 rfl rfl ?_
  refine x_iload_n hG (pc := 1) 1 dX6_ofPossession_1 rfl rfl ?_
  refine x_callV hG hO (pc := 2) [_] v_X6_possessionAt lk_X6_181 (by first | assumption | exact hR.main) rfl rfl ⟨by decide, by decide⟩ (Nat.le_of_ble_eq_true rfl) (by rw [hG.mc]; exact Nat.le_of_ble_eq_true rfl) (by rw [hG.ms]; exact Nat.le_of_ble_eq_true rfl) dX6_ofPossession_2 ?_
  refine ⟨L, S, k, rfl, hR, hkn, ?_⟩
  refine x_astore_n hG (pc := 5) 3 dX6_ofPossession_5 rfl (Nat.le_of_ble_eq_true rfl) rfl (by dsimp only [List.set]) ?_
  refine x_iload_n hG (pc := 6) 2 dX6_ofPossession_6 rfl rfl ?_
  by_cases q0 : v = 0
  · subst q0
    refine x_tableIn hG (pc := 7) (off := 53) 60 dX6_ofPossession_7 (by decide) (by decide) (by decide) (by decide) ?_
    refine x_aload_n hG (pc := 60) 3 dX6_ofPossession_60 rfl rfl ?_
    refine x_getf hG (pc := 61) fl_X6_191 (hR.pos hkn) rfl dX6_ofPossession_61 ?_
    refine x_ireturn hG (pc := 64) dX6_ofPossession_64 rfl rfl (by rw [hG.mc]; exact Nat.le_of_ble_eq_true rfl) (by rw [hG.ms]; exact Nat.le_of_ble_eq_true rfl) ?_
    exact fin_i rfl hk
  · by_cases q1 : v = 1
    · subst q1
      refine x_tableIn hG (pc := 7) (off := 58) 65 dX6_ofPossession_7 (by decide) (by decide) (by decide) (by decide) ?_
      refine x_aload_n hG (pc := 65) 3 dX6_ofPossession_65 rfl rfl ?_
      refine x_getf hG (pc := 66) fl_X6_317 (hR.pos hkn) rfl dX6_ofPossession_66 ?_
      refine x_ireturn hG (pc := 69) dX6_ofPossession_69 rfl rfl (by rw [hG.mc]; exact Nat.le_of_ble_eq_true rfl) (by rw [hG.ms]; exact Nat.le_of_ble_eq_true rfl) ?_
      exact fin_i rfl hk
    · by_cases q2 : v = 2
      · subst q2
        refine x_tableIn hG (pc := 7) (off := 63) 70 dX6_ofPossession_7 (by decide) (by decide) (by decide) (by decide) ?_
        refine x_aload_n hG (pc := 70) 3 dX6_ofPossession_70 rfl rfl ?_
        refine x_getf hG (pc := 71) fl_X6_250 (hR.pos hkn) rfl dX6_ofPossession_71 ?_
        refine x_ireturn hG (pc := 74) dX6_ofPossession_74 rfl rfl (by rw [hG.mc]; exact Nat.le_of_ble_eq_true rfl) (by rw [hG.ms]; exact Nat.le_of_ble_eq_true rfl) ?_
        exact fin_i rfl hk
      · by_cases q3 : v = 3
        · subst q3
          refine x_tableIn hG (pc := 7) (off := 68) 75 dX6_ofPossession_7 (by decide) (by decide) (by decide) (by decide) ?_
          refine x_aload_n hG (pc := 75) 3 dX6_ofPossession_75 rfl rfl ?_
          refine x_getf hG (pc := 76) fl_X6_247 (hR.pos hkn) rfl dX6_ofPossession_76 ?_
          refine x_ireturn hG (pc := 79) dX6_ofPossession_79 rfl rfl (by rw [hG.mc]; exact Nat.le_of_ble_eq_true rfl) (by rw [hG.ms]; exact Nat.le_of_ble_eq_true rfl) ?_
          exact fin_i rfl hk
        · by_cases q4 : v = 4
          · subst q4
            refine x_tableIn hG (pc := 7) (off := 73) 80 dX6_ofPossession_7 (by decide) (by decide) (by decide) (by decide) ?_
            refine x_aload_n hG (pc := 80) 3 dX6_ofPossession_80 rfl rfl ?_
            refine x_getf hG (pc := 81) fl_X6_227 (hR.pos hkn) rfl dX6_ofPossession_81 ?_
            refine x_ireturn hG (pc := 84) dX6_ofPossession_84 rfl rfl (by rw [hG.mc]; exact Nat.le_of_ble_eq_true rfl) (by rw [hG.ms]; exact Nat.le_of_ble_eq_true rfl) ?_
            exact fin_i rfl hk
          · by_cases q5 : v = 5
            · subst q5
              refine x_tableIn hG (pc := 7) (off := 78) 85 dX6_ofPossession_7 (by decide) (by decide) (by decide) (by decide) ?_
              refine x_aload_n hG (pc := 85) 3 dX6_ofPossession_85 rfl rfl ?_
              refine x_getf hG (pc := 86) fl_X6_211 (hR.pos hkn) rfl dX6_ofPossession_86 ?_
              refine x_ireturn hG (pc := 89) dX6_ofPossession_89 rfl rfl (by rw [hG.mc]; exact Nat.le_of_ble_eq_true rfl) (by rw [hG.ms]; exact Nat.le_of_ble_eq_true rfl) ?_
              exact fin_i rfl hk
            · by_cases q6 : v = 6
              · subst q6
                refine x_tableIn hG (pc := 7) (off := 83) 90 dX6_ofPossession_7 (by decide) (by decide) (by decide) (by decide) ?_
                refine x_aload_n hG (pc := 90) 3 dX6_ofPossession_90 rfl rfl ?_
                refine x_getf hG (pc := 91) fl_X6_196 (hR.pos hkn) rfl dX6_ofPossession_91 ?_
                refine x_callV hG hO (pc := 94) [] c_Jx4a65c_size_8abf5 lk_X6_104 (hR.lst (id := k + 3) (by omega)).1 rfl rfl ⟨by decide, by decide⟩ (Nat.le_of_ble_eq_true rfl) (by rw [hG.mc]; exact Nat.le_of_ble_eq_true rfl) (by rw [hG.ms]; exact Nat.le_of_ble_eq_true rfl) dX6_ofPossession_94 ?_
                refine ⟨_, _, _, _, _, rfl, (hR.lst (id := k + 3) (by omega)).1, ?_⟩
                refine x_ireturn hG (pc := 97) dX6_ofPossession_97 rfl rfl (by rw [hG.mc]; exact Nat.le_of_ble_eq_true rfl) (by rw [hG.ms]; exact Nat.le_of_ble_eq_true rfl) ?_
                exact fin_i (i_nn (hI.2.2.2.1 k hkn).2.2.2.1.1) hk
              · by_cases q7 : v = 7
                · subst q7
                  refine x_tableIn hG (pc := 7) (off := 91) 98 dX6_ofPossession_7 (by decide) (by decide) (by decide) (by decide) ?_
                  refine x_aload_n hG (pc := 98) 3 dX6_ofPossession_98 rfl rfl ?_
                  refine x_callV hG hO (pc := 99) [] c_X2_hoursPlanned lk_X6_208 (hR.pos hkn) rfl rfl ⟨by decide, by decide⟩ (Nat.le_of_ble_eq_true rfl) (by rw [hG.mc]; exact Nat.le_of_ble_eq_true rfl) (by rw [hG.ms]; exact Nat.le_of_ble_eq_true rfl) dX6_ofPossession_99 ?_
                  refine ⟨_, _, _, _, _, _, _, _, _, _, _, _, _, _, _, _, _, _, _, _, _, _, rfl, hR.pos hkn, hR.lst (id := k + 3) (by omega), hR.wrk hkn, ?_⟩
                  refine x_ireturn hG (pc := 102) dX6_ofPossession_102 rfl rfl (by rw [hG.mc]; exact Nat.le_of_ble_eq_true rfl) (by rw [hG.ms]; exact Nat.le_of_ble_eq_true rfl) ?_
                  exact fin_i (hI.2.2.2.1 k hkn).2.2.2.2.symm hk
                · by_cases q8 : v = 8
                  · subst q8
                    refine x_tableIn hG (pc := 7) (off := 96) 103 dX6_ofPossession_7 (by decide) (by decide) (by decide) (by decide) ?_
                    refine x_aload_n hG (pc := 103) 3 dX6_ofPossession_103 rfl rfl ?_
                    refine x_callV hG hO (pc := 104) [] c_X2_marks lk_X6_242 (hR.pos hkn) rfl rfl ⟨by decide, by decide⟩ (Nat.le_of_ble_eq_true rfl) (by rw [hG.mc]; exact Nat.le_of_ble_eq_true rfl) (by rw [hG.ms]; exact Nat.le_of_ble_eq_true rfl) dX6_ofPossession_104 ?_
                    refine ⟨_, _, _, _, _, _, _, _, _, _, _, _, rfl, hR.pos hkn, ?_⟩
                    refine x_ireturn hG (pc := 107) dX6_ofPossession_107 rfl rfl (by rw [hG.mc]; exact Nat.le_of_ble_eq_true rfl) (by rw [hG.ms]; exact Nat.le_of_ble_eq_true rfl) ?_
                    exact fin_i rfl hk
                  · by_cases q9 : v = 9
                    · subst q9
                      refine x_tableIn hG (pc := 7) (off := 101) 108 dX6_ofPossession_7 (by decide) (by decide) (by decide) (by decide) ?_
                      refine x_aload_n hG (pc := 108) 3 dX6_ofPossession_108 rfl rfl ?_
                      refine x_getf hG (pc := 109) fl_X6_259 (hR.pos hkn) rfl dX6_ofPossession_109 ?_
                      refine x_ireturn hG (pc := 112) dX6_ofPossession_112 rfl rfl (by rw [hG.mc]; exact Nat.le_of_ble_eq_true rfl) (by rw [hG.ms]; exact Nat.le_of_ble_eq_true rfl) ?_
                      exact fin_i rfl hk
                    · exact absurd hv (by omega)
