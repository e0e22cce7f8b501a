/-! TrackNights: the calls, two -/
theorem mk01 (x : Int32) : (mk1 x = 0 ∨ mk1 x = 1) ∧ (mk2 x = 0 ∨ mk2 x = 1) := by
  unfold mk1 mk2
  constructor
  · split
    · exact Or.inr rfl
    · exact Or.inl rfl
  · split
    · exact Or.inr rfl
    · exact Or.inl rfl
theorem mk_up {m e : Int32} (hm : m = 0 ∨ m = 1 ∨ m = 2 ∨ m = 3) (he : (if e = 0 then mk1 m else mk2 m) = 0) : (if e = 0 then 1 else mk1 m) = mk1 (m + (if e = 0 then 1 else 2)) ∧ (if e = 0 then mk2 m else 1) = mk2 (m + (if e = 0 then 1 else 2)) := by
  by_cases q : e = 0
  · rw [if_pos q] at he
    rw [if_pos q, if_pos q, if_pos q]
    rcases hm with rfl | rfl | rfl | rfl
    · decide
    · exact absurd he (by decide)
    · decide
    · exact absurd he (by decide)
  · rw [if_neg q] at he
    rw [if_neg q, if_neg q, if_neg q]
    rcases hm with rfl | rfl | rfl | rfl
    · decide
    · decide
    · exact absurd he (by decide)
    · exact absurd he (by decide)
set_option maxHeartbeats 400000 in
set_option maxRecDepth 100000 in
theorem c_X6_cancel : CtrA yX6_cancel cX6_cancel 4 (some .int) (rmk 7 4 24 119) (fun Γ av w post xpost => ∃ (L : LayC) (S : St), ∃ p, av = [.ref (thC L), .int p] ∧ RepC Γ L S w ∧ Inv S ∧ Out Γ L w post xpost [xI, xS] (oCan S p)) := by
  refine ctr_of (by decide) ?_
  rintro g av w hG hO ⟨L, S, p, rfl, hR, hI, hk⟩
  refine ⟨Nat.le_of_ble_eq_true rfl, ?_⟩
  show X g w 0 0 0 [some (.ref (thC L)), some (.int p), none, none] []
  have hnM := hI.2.1.1
  have hnN := hI.2.1.2.1
  have hnE := hI.2.1.2.2
  refine x_aload_n hG (pc := 0) 0 dX6_cancel_0 rfl rfl ?_
  refine x_iload_n hG (pc := 1) 1 dX6_cancel_1 rfl rfl ?_
  refine x_callV hG hO (pc := 2) [_] c_X6_possessionAt lk_X6_181 (by first | assumption | exact hR.main) rfl rfl ⟨by decide, by decide⟩ (Nat.le_of_ble_eq_true rfl) (by rw [hG.mc]; exact Nat.le_of_ble_eq_true rfl) (by rw [hG.ms]; exact Nat.le_of_ble_eq_true rfl) dX6_cancel_2 ?_
  refine ⟨L, S, p, rfl, hR, fun k hkn hiq => ?_, fun hb => hk.bad (k := 0) (v := 0) (S1 := S) (by simp only [oCan, ixO_n (n := nN S) hb (by omega)]) rfl⟩
  subst hiq
  refine x_astore_n hG (pc := 5) 2 dX6_cancel_5 rfl (Nat.le_of_ble_eq_true rfl) rfl (by dsimp only [List.set]) ?_
  refine x_aload_n hG (pc := 6) 2 dX6_cancel_6 rfl rfl ?_
  refine x_getf hG (pc := 7) fl_X6_191 (hR.pos hkn) rfl dX6_cancel_7 ?_
  refine x_if_eq hG (pc := 10) 23 dX6_cancel_10 (by decide) (fun h10 => ?_) (fun h10 => ?_)
  · refine x_aload_n hG (pc := 23) 2 dX6_cancel_23 rfl rfl ?_
    refine x_getf hG (pc := 24) fl_X6_227 (hR.pos hkn) rfl dX6_cancel_24 ?_
    refine x_aload_n hG (pc := 27) 0 dX6_cancel_27 rfl rfl ?_
    refine x_getf hG (pc := 28) fl_X6_42 hR.main rfl dX6_cancel_28 ?_
    refine x_iconst hG (pc := 31) 5 dX6_cancel_31 (by decide) ?_
    refine x_iadd hG (pc := 32) dX6_cancel_32 ?_
    refine x_icmp_ge hG (pc := 33) 46 dX6_cancel_33 (by decide) (fun h33 => ?_) (fun h33 => ?_)
    · refine x_iconst hG (pc := 46) 0 dX6_cancel_46 (by decide) ?_
      have hfe : cFee S k = 0 := if_pos h33
      rw [← hfe]
      refine x_istore_n hG (pc := 47) 3 dX6_cancel_47 rfl (Nat.le_of_ble_eq_true rfl) rfl (by dsimp only [List.set]) ?_
      refine x_aload_n hG (pc := 48) 2 dX6_cancel_48 rfl rfl ?_
      refine x_iconst hG (pc := 49) 4 dX6_cancel_49 (by decide) ?_
      refine x_putf hG (pc := 50) fl_X6_191 fw_4 ft_4_6 (hR.pos hkn) (Nat.le_of_ble_eq_true rfl) rfl rfl (by dsimp only [List.set]) dX6_cancel_50 ?_
      refine x_gen (fun w1 e1 => ?_)
      obtain ⟨hR1, hF1⟩ := hR.uN hkn (f := rset (gS S k) 0 4) e1 rfl (fun x hx => rset_n (by omega))
      refine x_aload_n hG (pc := 53) 0 dX6_cancel_53 rfl rfl ?_
      refine x_dup hG (pc := 54) dX6_cancel_54 rfl ?_
      refine x_getf hG (pc := 55) fl_X6_49 hR1.main rfl dX6_cancel_55 ?_
      refine x_iload_n hG (pc := 58) 3 dX6_cancel_58 rfl rfl ?_
      refine x_iadd hG (pc := 59) dX6_cancel_59 ?_
      refine x_putf hG (pc := 60) fl_X6_49 fw_8 ft_8_8 hR1.main (Nat.le_of_ble_eq_true rfl) rfl rfl (by dsimp only [List.set]) dX6_cancel_60 ?_
      refine x_gen (fun w2 e2 => ?_)
      obtain ⟨hR2, hF2⟩ := hR1.uG (f := rset (gl S) 2 (gl S 2 + cFee S k)) e2
      refine x_iload_n hG (pc := 63) 3 dX6_cancel_63 rfl rfl ?_
      refine x_ireturn hG (pc := 64) dX6_cancel_64 rfl rfl (by rw [hG.mc]; exact Nat.le_of_ble_eq_true rfl) (by rw [hG.ms]; exact Nat.le_of_ble_eq_true rfl) ?_
      exact hk.ok (by simp only [oCan, ixO_s (n := nN S) hkn (by omega), h10, ↓reduceIte]) rfl hR2 (hF1.tr hF2)
    · refine x_bipush hG (pc := 36) 10 dX6_cancel_36 (by decide) ?_
      refine x_aload_n hG (pc := 38) 2 dX6_cancel_38 rfl rfl ?_
      refine x_getf hG (pc := 39) fl_X6_211 (hR.pos hkn) rfl dX6_cancel_39 ?_
      refine x_imul hG (pc := 42) dX6_cancel_42 ?_
      refine x_goto hG (pc := 43) 47 dX6_cancel_43 (by decide) ?_
      have hfe : cFee S k = 10 * gS S k 5 := if_neg h33
      show X g w _ _ 47 _ [.int (10 * gS S k 5)]
      rw [← hfe]
      refine x_istore_n hG (pc := 47) 3 dX6_cancel_47 rfl (Nat.le_of_ble_eq_true rfl) rfl (by dsimp only [List.set]) ?_
      refine x_aload_n hG (pc := 48) 2 dX6_cancel_48 rfl rfl ?_
      refine x_iconst hG (pc := 49) 4 dX6_cancel_49 (by decide) ?_
      refine x_putf hG (pc := 50) fl_X6_191 fw_4 ft_4_6 (hR.pos hkn) (Nat.le_of_ble_eq_true rfl) rfl rfl (by dsimp only [List.set]) dX6_cancel_50 ?_
      refine x_gen (fun w1 e1 => ?_)
      obtain ⟨hR1, hF1⟩ := hR.uN hkn (f := rset (gS S k) 0 4) e1 rfl (fun x hx => rset_n (by omega))
      refine x_aload_n hG (pc := 53) 0 dX6_cancel_53 rfl rfl ?_
      refine x_dup hG (pc := 54) dX6_cancel_54 rfl ?_
      refine x_getf hG (pc := 55) fl_X6_49 hR1.main rfl dX6_cancel_55 ?_
      refine x_iload_n hG (pc := 58) 3 dX6_cancel_58 rfl rfl ?_
      refine x_iadd hG (pc := 59) dX6_cancel_59 ?_
      refine x_putf hG (pc := 60) fl_X6_49 fw_8 ft_8_8 hR1.main (Nat.le_of_ble_eq_true rfl) rfl rfl (by dsimp only [List.set]) dX6_cancel_60 ?_
      refine x_gen (fun w2 e2 => ?_)
      obtain ⟨hR2, hF2⟩ := hR1.uG (f := rset (gl S) 2 (gl S 2 + cFee S k)) e2
      refine x_iload_n hG (pc := 63) 3 dX6_cancel_63 rfl rfl ?_
      refine x_ireturn hG (pc := 64) dX6_cancel_64 rfl rfl (by rw [hG.mc]; exact Nat.le_of_ble_eq_true rfl) (by rw [hG.ms]; exact Nat.le_of_ble_eq_true rfl) ?_
      exact hk.ok (by simp only [oCan, ixO_s (n := nN S) hkn (by omega), h10, ↓reduceIte]) rfl hR2 (hF1.tr hF2)
  · refine x_throw hG hO (pc := 13) _ _ lt_194 dX6_cancel_13 dX6_cancel_16 dX6_cancel_17 dX6_cancel_19 dX6_cancel_22 (by decide) (Nat.le_of_ble_eq_true rfl) (by rw [hG.mc]; exact Nat.le_of_ble_eq_true rfl) (by rw [hG.ms]; exact Nat.le_of_ble_eq_true rfl) ?_
    exact hk.bad (k := 1) (v := 0) (S1 := S) (by simp only [oCan, ixO_s (n := nN S) hkn (by omega), h10, ↓reduceIte]) rfl
set_option maxHeartbeats 400000 in
set_option maxRecDepth 100000 in
theorem c_X6_mark : CtrA yX6_mark cX6_mark 4 (some .int) (rmk 7 4 24 119) (fun Γ av w post xpost => ∃ (L : LayC) (S : St), ∃ p e, av = [.ref (thC L), .int p, .int e] ∧ RepC Γ L S w ∧ Inv S ∧ Out Γ L w post xpost [xI, xS] (oMrk S p e)) := by
  refine ctr_of (by decide) ?_
  rintro g av w hG hO ⟨L, S, p, e, rfl, hR, hI, hk⟩
  refine ⟨Nat.le_of_ble_eq_true rfl, ?_⟩
  show X g w 0 0 0 [some (.ref (thC L)), some (.int p), some (.int e), none] []
  have hnM := hI.2.1.1
  have hnN := hI.2.1.2.1
  have hnE := hI.2.1.2.2
  refine x_aload_n hG (pc := 0) 0 dX6_mark_0 rfl rfl ?_
  refine x_iload_n hG (pc := 1) 1 dX6_mark_1 rfl rfl ?_
  refine x_callV hG hO (pc := 2) [_] c_X6_possessionAt lk_X6_181 (by first | assumption | exact hR.main) rfl rfl ⟨by decide, by decide⟩ (Nat.le_of_ble_eq_true rfl) (by rw [hG.mc]; exact Nat.le_of_ble_eq_true rfl) (by rw [hG.ms]; exact Nat.le_of_ble_eq_true rfl) dX6_mark_2 ?_
  refine ⟨L, S, p, rfl, hR, fun k hkn hiq => ?_, fun hb => hk.bad (k := 0) (v := 0) (S1 := S) (by simp only [oMrk, ixO_n (n := nN S) hb (by omega)]) rfl⟩
  subst hiq
  refine x_astore_n hG (pc := 5) 3 dX6_mark_5 rfl (Nat.le_of_ble_eq_true rfl) rfl (by dsimp only [List.set]) ?_
  refine x_iload_n hG (pc := 6) 2 dX6_mark_6 rfl rfl ?_
  refine x_if_lt hG (pc := 7) 15 dX6_mark_7 (by decide) (fun h7 => ?_) (fun h7 => ?_)
  · refine x_throw hG hO (pc := 15) _ _ lt_230 dX6_mark_15 dX6_mark_18 dX6_mark_19 dX6_mark_21 dX6_mark_24 (by decide) (Nat.le_of_ble_eq_true rfl) (by rw [hG.mc]; exact Nat.le_of_ble_eq_true rfl) (by rw [hG.ms]; exact Nat.le_of_ble_eq_true rfl) ?_
    exact hk.bad (k := 0) (v := 0) (S1 := S) (by simp only [oMrk, ixO_s (n := nN S) hkn (by omega), h7, ↓reduceIte]) rfl
  · refine x_iload_n hG (pc := 10) 2 dX6_mark_10 rfl rfl ?_
    refine x_iconst hG (pc := 11) 2 dX6_mark_11 (by decide) ?_
    refine x_icmp_lt hG (pc := 12) 25 dX6_mark_12 (by decide) (fun h12 => ?_) (fun h12 => ?_)
    · refine x_aload_n hG (pc := 25) 3 dX6_mark_25 rfl rfl ?_
      refine x_getf hG (pc := 26) fl_X6_191 (hR.pos hkn) rfl dX6_mark_26 ?_
      refine x_if_eq hG (pc := 29) 42 dX6_mark_29 (by decide) (fun h29 => ?_) (fun h29 => ?_)
      · refine x_aload_n hG (pc := 42) 3 dX6_mark_42 rfl rfl ?_
        refine x_getf hG (pc := 43) fl_X6_227 (hR.pos hkn) rfl dX6_mark_43 ?_
        refine x_aload_n hG (pc := 46) 0 dX6_mark_46 rfl rfl ?_
        refine x_getf hG (pc := 47) fl_X6_42 hR.main rfl dX6_mark_47 ?_
        refine x_icmp_eq hG (pc := 50) 63 dX6_mark_50 (by decide) (fun h50 => ?_) (fun h50 => ?_)
        · refine x_aload_n hG (pc := 63) 3 dX6_mark_63 rfl rfl ?_
          refine x_iload_n hG (pc := 64) 2 dX6_mark_64 rfl rfl ?_
          refine x_callV hG hO (pc := 65) [_] c_X2_isMarked lk_X6_234 (hR.pos hkn) rfl rfl ⟨by decide, by decide⟩ (Nat.le_of_ble_eq_true rfl) (by rw [hG.mc]; exact Nat.le_of_ble_eq_true rfl) (by rw [hG.ms]; exact Nat.le_of_ble_eq_true rfl) dX6_mark_65 ?_
          refine ⟨_, _, _, _, _, _, _, _, _, _, _, _, e, rfl, hR.pos hkn, (mk01 _).1, (mk01 _).2, ?_⟩
          refine x_if_eq hG (pc := 68) 81 dX6_mark_68 (by decide) (fun h68 => ?_) (fun h68 => ?_)
          · refine x_aload_n hG (pc := 81) 3 dX6_mark_81 rfl rfl ?_
            refine x_iload_n hG (pc := 82) 2 dX6_mark_82 rfl rfl ?_
            refine x_callV hG hO (pc := 83) [_] c_X2_putMark lk_X6_239 (hR.pos hkn) rfl rfl ⟨by decide, by decide⟩ (Nat.le_of_ble_eq_true rfl) (by rw [hG.mc]; exact Nat.le_of_ble_eq_true rfl) (by rw [hG.ms]; exact Nat.le_of_ble_eq_true rfl) dX6_mark_83 ?_
            refine ⟨_, _, _, _, _, _, _, _, _, _, _, _, e, rfl, hR.pos hkn, ?_⟩
            rw [(mk_up (hI.2.2.2.1 k hkn).2.2.1 h68).1, (mk_up (hI.2.2.2.1 k hkn).2.2.1 h68).2]
            refine x_gen (fun w1 e1 => ?_)
            obtain ⟨hR1, hF1⟩ := hR.uN hkn (f := rset (gS S k) 8 (gS S k 8 + (if e = 0 then 1 else 2))) e1 rfl (fun x hx => rset_n (by omega))
            have hp1 := hR1.pos (k := k) hkn
            rw [gS_setN] at hp1
            refine x_aload_n hG (pc := 86) 3 dX6_mark_86 rfl rfl ?_
            refine x_callV hG hO (pc := 87) [] c_X2_marks lk_X6_242 hp1 rfl rfl ⟨by decide, by decide⟩ (Nat.le_of_ble_eq_true rfl) (by rw [hG.mc]; exact Nat.le_of_ble_eq_true rfl) (by rw [hG.ms]; exact Nat.le_of_ble_eq_true rfl) dX6_mark_87 ?_
            refine ⟨_, _, _, _, _, _, _, _, _, _, _, _, rfl, hp1, ?_⟩
            refine x_ireturn hG (pc := 90) dX6_mark_90 rfl rfl (by rw [hG.mc]; exact Nat.le_of_ble_eq_true rfl) (by rw [hG.ms]; exact Nat.le_of_ble_eq_true rfl) ?_
            exact hk.ok (v := bits (gS S k 8 + (if e = 0 then 1 else 2))) (by rw [oMrk, ixO_s (n := nN S) hkn (by omega)]; simp only [h7, h12, h29, h50, ↓reduceIte]; rw [if_pos h68]) rfl hR1 hF1
          · refine x_throw hG hO (pc := 71) _ _ lt_237 dX6_mark_71 dX6_mark_74 dX6_mark_75 dX6_mark_77 dX6_mark_80 (by decide) (Nat.le_of_ble_eq_true rfl) (by rw [hG.mc]; exact Nat.le_of_ble_eq_true rfl) (by rw [hG.ms]; exact Nat.le_of_ble_eq_true rfl) ?_
            exact hk.bad (k := 1) (v := 0) (S1 := S) (by simp only [oMrk, ixO_s (n := nN S) hkn (by omega), h7, h12, h29, h50, h68, ↓reduceIte]) rfl
        · refine x_throw hG hO (pc := 53) _ _ lt_232 dX6_mark_53 dX6_mark_56 dX6_mark_57 dX6_mark_59 dX6_mark_62 (by decide) (Nat.le_of_ble_eq_true rfl) (by rw [hG.mc]; exact Nat.le_of_ble_eq_true rfl) (by rw [hG.ms]; exact Nat.le_of_ble_eq_true rfl) ?_
          exact hk.bad (k := 1) (v := 0) (S1 := S) (by simp only [oMrk, ixO_s (n := nN S) hkn (by omega), h7, h12, h29, h50, ↓reduceIte]) rfl
      · refine x_throw hG hO (pc := 32) _ _ lt_194 dX6_mark_32 dX6_mark_35 dX6_mark_36 dX6_mark_38 dX6_mark_41 (by decide) (Nat.le_of_ble_eq_true rfl) (by rw [hG.mc]; exact Nat.le_of_ble_eq_true rfl) (by rw [hG.ms]; exact Nat.le_of_ble_eq_true rfl) ?_
        exact hk.bad (k := 1) (v := 0) (S1 := S) (by simp only [oMrk, ixO_s (n := nN S) hkn (by omega), h7, h12, h29, ↓reduceIte]) rfl
    · refine x_throw hG hO (pc := 15) _ _ lt_230 dX6_mark_15 dX6_mark_18 dX6_mark_19 dX6_mark_21 dX6_mark_24 (by decide) (Nat.le_of_ble_eq_true rfl) (by rw [hG.mc]; exact Nat.le_of_ble_eq_true rfl) (by rw [hG.ms]; exact Nat.le_of_ble_eq_true rfl) ?_
      exact hk.bad (k := 0) (v := 0) (S1 := S) (by simp only [oMrk, ixO_s (n := nN S) hkn (by omega), h7, h12, ↓reduceIte]) rfl
set_option maxHeartbeats 400000 in
set_option maxRecDepth 100000 in
theorem c_X6_take : CtrA yX6_take cX6_take 3 (some .int) (rmk 7 4 24 119) (fun Γ av w post xpost => ∃ (L : LayC) (S : St), ∃ p, av = [.ref (thC L), .int p] ∧ RepC Γ L S w ∧ Inv S ∧ Out Γ L w post xpost [xI, xS] (oTak S p)) := by
  refine ctr_of (by decide) ?_
  rintro g av w hG hO ⟨L, S, p, rfl, hR, hI, hk⟩
  refine ⟨Nat.le_of_ble_eq_true rfl, ?_⟩
  show X g w 0 0 0 [some (.ref (thC L)), some (.int p), none] []
  have hnM := hI.2.1.1
  have hnN := hI.2.1.2.1
  have hnE := hI.2.1.2.2
  refine x_aload_n hG (pc := 0) 0 dX6_take_0 rfl rfl ?_
  refine x_iload_n hG (pc := 1) 1 dX6_take_1 rfl rfl ?_
  refine x_callV hG hO (pc := 2) [_] c_X6_possessionAt lk_X6_181 (by first | assumption | exact hR.main) rfl rfl ⟨by decide, by decide⟩ (Nat.le_of_ble_eq_true rfl) (by rw [hG.mc]; exact Nat.le_of_ble_eq_true rfl) (by rw [hG.ms]; exact Nat.le_of_ble_eq_true rfl) dX6_take_2 ?_
  refine ⟨L, S, p, rfl, hR, fun k hkn hiq => ?_, fun hb => hk.bad (k := 0) (v := 0) (S1 := S) (by simp only [oTak, ixO_n (n := nN S) hb (by omega)]) rfl⟩
  subst hiq
  refine x_astore_n hG (pc := 5) 2 dX6_take_5 rfl (Nat.le_of_ble_eq_true rfl) rfl (by dsimp only [List.set]) ?_
  refine x_aload_n hG (pc := 6) 2 dX6_take_6 rfl rfl ?_
  refine x_getf hG (pc := 7) fl_X6_191 (hR.pos hkn) rfl dX6_take_7 ?_
  refine x_if_eq hG (pc := 10) 23 dX6_take_10 (by decide) (fun h10 => ?_) (fun h10 => ?_)
  · refine x_aload_n hG (pc := 23) 2 dX6_take_23 rfl rfl ?_
    refine x_callV hG hO (pc := 24) [] c_X2_marks lk_X6_242 (hR.pos hkn) rfl rfl ⟨by decide, by decide⟩ (Nat.le_of_ble_eq_true rfl) (by rw [hG.mc]; exact Nat.le_of_ble_eq_true rfl) (by rw [hG.ms]; exact Nat.le_of_ble_eq_true rfl) dX6_take_24 ?_
    refine ⟨_, _, _, _, _, _, _, _, _, _, _, _, rfl, hR.pos hkn, ?_⟩
    show X g w _ _ 27 _ [.int (bits (gS S k 8))]
    refine x_iconst hG (pc := 27) 2 dX6_take_27 (by decide) ?_
    refine x_icmp_ge hG (pc := 28) 41 dX6_take_28 (by decide) (fun h28 => ?_) (fun h28 => ?_)
    · refine x_aload_n hG (pc := 41) 2 dX6_take_41 rfl rfl ?_
      refine x_iconst hG (pc := 42) 1 dX6_take_42 (by decide) ?_
      refine x_putf hG (pc := 43) fl_X6_191 fw_4 ft_4_6 (hR.pos hkn) (Nat.le_of_ble_eq_true rfl) rfl rfl (by dsimp only [List.set]) dX6_take_43 ?_
      refine x_gen (fun w1 e1 => ?_)
      obtain ⟨hR1, hF1⟩ := hR.uN hkn (f := rset (gS S k) 0 1) e1 rfl (fun x hx => rset_n (by omega))
      have hp1 := hR1.pos (k := k) hkn
      rw [gS_setN] at hp1
      refine x_aload_n hG (pc := 46) 2 dX6_take_46 rfl rfl ?_
      refine x_getf hG (pc := 47) fl_X6_247 hp1 rfl dX6_take_47 ?_
      refine x_aload_n hG (pc := 50) 2 dX6_take_50 rfl rfl ?_
      refine x_getf hG (pc := 51) fl_X6_250 hp1 rfl dX6_take_51 ?_
      refine x_isub hG (pc := 54) dX6_take_54 ?_
      refine x_iconst hG (pc := 55) 1 dX6_take_55 (by decide) ?_
      refine x_iadd hG (pc := 56) dX6_take_56 ?_
      refine x_ireturn hG (pc := 57) dX6_take_57 rfl rfl (by rw [hG.mc]; exact Nat.le_of_ble_eq_true rfl) (by rw [hG.ms]; exact Nat.le_of_ble_eq_true rfl) ?_
      exact hk.ok (by simp only [oTak, ixO_s (n := nN S) hkn (by omega), h10, h28, ↓reduceIte]; rfl) rfl hR1 hF1
    · refine x_throw hG hO (pc := 31) _ _ lt_245 dX6_take_31 dX6_take_34 dX6_take_35 dX6_take_37 dX6_take_40 (by decide) (Nat.le_of_ble_eq_true rfl) (by rw [hG.mc]; exact Nat.le_of_ble_eq_true rfl) (by rw [hG.ms]; exact Nat.le_of_ble_eq_true rfl) ?_
      exact hk.bad (k := 1) (v := 0) (S1 := S) (by simp only [oTak, ixO_s (n := nN S) hkn (by omega), h10, h28, ↓reduceIte]) rfl
  · refine x_throw hG hO (pc := 13) _ _ lt_194 dX6_take_13 dX6_take_16 dX6_take_17 dX6_take_19 dX6_take_22 (by decide) (Nat.le_of_ble_eq_true rfl) (by rw [hG.mc]; exact Nat.le_of_ble_eq_true rfl) (by rw [hG.ms]; exact Nat.le_of_ble_eq_true rfl) ?_
    exact hk.bad (k := 1) (v := 0) (S1 := S) (by simp only [oTak, ixO_s (n := nN S) hkn (by omega), h10, ↓reduceIte]) rfl
set_option maxHeartbeats 400000 in
set_option maxRecDepth 100000 in
theorem c_X6_giveBack : CtrA yX6_giveBack cX6_giveBack 3 (some .int) (rmk 7 4 24 137) (fun Γ av w post xpost => ∃ (L : LayC) (S : St), ∃ p, av = [.ref (thC L), .int p] ∧ RepC Γ L S w ∧ Inv S ∧ Out Γ L w post xpost [xI, xS] (oGiv S p)) := by
  refine ctr_of (by decide) ?_
  rintro g av w hG hO ⟨L, S, p, rfl, hR, hI, hk⟩
  refine ⟨Nat.le_of_ble_eq_true rfl, ?_⟩
  show X g w 0 0 0 [some (.ref (thC L)), some (.int p), none] []
  have hnM := hI.2.1.1
  have hnN := hI.2.1.2.1
  have hnE := hI.2.1.2.2
  refine x_aload_n hG (pc := 0) 0 dX6_giveBack_0 rfl rfl ?_
  refine x_iload_n hG (pc := 1) 1 dX6_giveBack_1 rfl rfl ?_
  refine x_callV hG hO (pc := 2) [_] c_X6_possessionAt lk_X6_181 (by first | assumption | exact hR.main) rfl rfl ⟨by decide, by decide⟩ (Nat.le_of_ble_eq_true rfl) (by rw [hG.mc]; exact Nat.le_of_ble_eq_true rfl) (by rw [hG.ms]; exact Nat.le_of_ble_eq_true rfl) dX6_giveBack_2 ?_
  refine ⟨L, S, p, rfl, hR, fun k hkn hiq => ?_, fun hb => hk.bad (k := 0) (v := 0) (S1 := S) (by simp only [oGiv, ixO_n (n := nN S) hb (by omega)]) rfl⟩
  subst hiq
  refine x_astore_n hG (pc := 5) 2 dX6_giveBack_5 rfl (Nat.le_of_ble_eq_true rfl) rfl (by dsimp only [List.set]) ?_
  refine x_aload_n hG (pc := 6) 2 dX6_giveBack_6 rfl rfl ?_
  refine x_getf hG (pc := 7) fl_X6_191 (hR.pos hkn) rfl dX6_giveBack_7 ?_
  refine x_iconst hG (pc := 10) 1 dX6_giveBack_10 (by decide) ?_
  refine x_icmp_eq hG (pc := 11) 24 dX6_giveBack_11 (by decide) (fun h11 => ?_) (fun h11 => ?_)
  · refine x_aload_n hG (pc := 24) 0 dX6_giveBack_24 rfl rfl ?_
    refine x_aload_n hG (pc := 25) 2 dX6_giveBack_25 rfl rfl ?_
    refine x_iconst hG (pc := 26) 0 dX6_giveBack_26 (by decide) ?_
    refine x_callV hG hO (pc := 27) [_, _] c_X6_endNight lk_X6_255 hR.main rfl rfl ⟨by decide, by decide⟩ (Nat.le_of_ble_eq_true rfl) (by rw [hG.mc]; exact Nat.le_of_ble_eq_true rfl) (by rw [hG.ms]; exact Nat.le_of_ble_eq_true rfl) dX6_giveBack_27 ?_
    refine ⟨L, S, k, 0, rfl, hR, hkn, hI.job k hkn, fun w1 hR1 hF1 => ?_⟩
    have hp1 := hR1.pos (k := k) (by rw [oEnd_f.1]; exact hkn)
    refine x_aload_n hG (pc := 30) 2 dX6_giveBack_30 rfl rfl ?_
    refine x_getf hG (pc := 31) fl_X6_259 hp1 rfl dX6_giveBack_31 ?_
    refine x_ireturn hG (pc := 34) dX6_giveBack_34 rfl rfl (by rw [hG.mc]; exact Nat.le_of_ble_eq_true rfl) (by rw [hG.ms]; exact Nat.le_of_ble_eq_true rfl) ?_
    exact hk.ok (by simp only [oGiv, ixO_s (n := nN S) hkn (by omega), h11, ↓reduceIte]) rfl hR1 hF1
  · refine x_throw hG hO (pc := 14) _ _ lt_253 dX6_giveBack_14 dX6_giveBack_17 dX6_giveBack_18 dX6_giveBack_20 dX6_giveBack_23 (by decide) (Nat.le_of_ble_eq_true rfl) (by rw [hG.mc]; exact Nat.le_of_ble_eq_true rfl) (by rw [hG.ms]; exact Nat.le_of_ble_eq_true rfl) ?_
    exact hk.bad (k := 1) (v := 0) (S1 := S) (by simp only [oGiv, ixO_s (n := nN S) hkn (by omega), h11, ↓reduceIte]) rfl
set_option maxHeartbeats 400000 in
set_option maxRecDepth 100000 in
theorem c_X6_wouldOverrun : CtrA yX6_wouldOverrun cX6_wouldOverrun 3 (some .int) (rmk 7 4 24 119) (fun Γ av w post xpost => ∃ (L : LayC) (S : St), ∃ p, av = [.ref (thC L), .int p] ∧ RepC Γ L S w ∧ Inv S ∧ Out Γ L w post xpost [xI, xS] (oOvr S p)) := by
  refine ctr_of (by decide) ?_
  rintro g av w hG hO ⟨L, S, p, rfl, hR, hI, hk⟩
  refine ⟨Nat.le_of_ble_eq_true rfl, ?_⟩
  show X g w 0 0 0 [some (.ref (thC L)), some (.int p), none] []
  have hnM := hI.2.1.1
  have hnN := hI.2.1.2.1
  have hnE := hI.2.1.2.2
  refine x_aload_n hG (pc := 0) 0 dX6_wouldOverrun_0 rfl rfl ?_
  refine x_iload_n hG (pc := 1) 1 dX6_wouldOverrun_1 rfl rfl ?_
  refine x_callV hG hO (pc := 2) [_] c_X6_possessionAt lk_X6_181 (by first | assumption | exact hR.main) rfl rfl ⟨by decide, by decide⟩ (Nat.le_of_ble_eq_true rfl) (by rw [hG.mc]; exact Nat.le_of_ble_eq_true rfl) (by rw [hG.ms]; exact Nat.le_of_ble_eq_true rfl) dX6_wouldOverrun_2 ?_
  refine ⟨L, S, p, rfl, hR, fun k hkn hiq => ?_, fun hb => hk.bad (k := 0) (v := 0) (S1 := S) (by simp only [oOvr, ixO_n (n := nN S) hb (by omega)]) rfl⟩
  subst hiq
  refine x_astore_n hG (pc := 5) 2 dX6_wouldOverrun_5 rfl (Nat.le_of_ble_eq_true rfl) rfl (by dsimp only [List.set]) ?_
  refine x_aload_n hG (pc := 6) 2 dX6_wouldOverrun_6 rfl rfl ?_
  refine x_callV hG hO (pc := 7) [] c_X2_isComingOrTaken lk_X6_362 (hR.pos hkn) rfl rfl ⟨by decide, by decide⟩ (Nat.le_of_ble_eq_true rfl) (by rw [hG.mc]; exact Nat.le_of_ble_eq_true rfl) (by rw [hG.ms]; exact Nat.le_of_ble_eq_true rfl) dX6_wouldOverrun_7 ?_
  refine ⟨_, _, _, _, _, _, _, _, _, _, _, _, rfl, hR.pos hkn, ?_⟩
  refine x_if_ne hG (pc := 10) 24 dX6_wouldOverrun_10 (by decide) (fun h10 => ?_) (fun h10 => ?_)
  · refine x_iconst hG (pc := 24) 0 dX6_wouldOverrun_24 (by decide) ?_
    refine x_aload_n hG (pc := 25) 0 dX6_wouldOverrun_25 rfl rfl ?_
    refine x_aload_n hG (pc := 26) 2 dX6_wouldOverrun_26 rfl rfl ?_
    refine x_callV hG hO (pc := 27) [_] c_X6_hoursTaken lk_X6_368 (by first | assumption | exact hR.main) rfl rfl ⟨by decide, by decide⟩ (Nat.le_of_ble_eq_true rfl) (by rw [hG.mc]; exact Nat.le_of_ble_eq_true rfl) (by rw [hG.ms]; exact Nat.le_of_ble_eq_true rfl) dX6_wouldOverrun_27 ?_
    refine ⟨L, S, k, rfl, hR, hkn, ?_⟩
    rw [hR.took (hI.job k hkn)]
    refine x_aload_n hG (pc := 30) 2 dX6_wouldOverrun_30 rfl rfl ?_
    refine x_getf hG (pc := 31) fl_X6_211 (hR.pos hkn) rfl dX6_wouldOverrun_31 ?_
    refine x_isub hG (pc := 34) dX6_wouldOverrun_34 ?_
    refine x_mmax hG (pc := 35) lk_X6_372 dX6_wouldOverrun_35 (by decide) (Nat.le_of_ble_eq_true rfl) (by rw [hG.mc]; exact Nat.le_of_ble_eq_true rfl) (by rw [hG.ms]; exact Nat.le_of_ble_eq_true rfl) ?_
    refine x_ireturn hG (pc := 38) dX6_wouldOverrun_38 rfl rfl (by rw [hG.mc]; exact Nat.le_of_ble_eq_true rfl) (by rw [hG.ms]; exact Nat.le_of_ble_eq_true rfl) ?_
    exact hk.ok (by simp only [oOvr, ixO_s (n := nN S) hkn (by omega), h10, ↓reduceIte]) rfl hR FrM.rf
  · refine x_throwW hG hO (pc := 13) _ _ lt_366 dX6_wouldOverrun_13 dX6_wouldOverrun_16 dX6_wouldOverrun_17 dX6_wouldOverrun_20 dX6_wouldOverrun_23 (by decide) (Nat.le_of_ble_eq_true rfl) (by rw [hG.mc]; exact Nat.le_of_ble_eq_true rfl) (by rw [hG.ms]; exact Nat.le_of_ble_eq_true rfl) ?_
    exact hk.bad (k := 1) (v := 0) (S1 := S) (by simp only [oOvr, ixO_s (n := nN S) hkn (by omega), h10, ↓reduceIte]) rfl
set_option maxHeartbeats 400000 in
set_option maxRecDepth 100000 in
theorem c_X6_walk : CtrA yX6_walk cX6_walk 5 (some .boolean) (rmk 8 4 24 140) (fun Γ av w post xpost => ∃ (L : LayC) (S : St), ∃ i s, av = [.ref (thC L), .int i, .int s] ∧ RepC Γ L S w ∧ Inv S ∧ Out Γ L w post xpost [xI, xA] (oWal S i s)) := by
  refine ctr_of (by decide) ?_
  rintro g av w hG hO ⟨L, S, i, s, rfl, hR, hI, hk⟩
  refine ⟨Nat.le_of_ble_eq_true rfl, ?_⟩
  show X g w 0 0 0 [some (.ref (thC L)), some (.int i), some (.int s), none, none] []
  have hnM := hI.2.1.1
  have hnN := hI.2.1.2.1
  have hnE := hI.2.1.2.2
  refine x_aload_n hG (pc := 0) 0 dX6_walk_0 rfl rfl ?_
  refine x_iload_n hG (pc := 1) 1 dX6_walk_1 rfl rfl ?_
  refine x_callV hG hO (pc := 2) [_] c_X6_sectionAt lk_X6_64 (by first | assumption | exact hR.main) rfl rfl ⟨by decide, by decide⟩ (Nat.le_of_ble_eq_true rfl) (by rw [hG.mc]; exact Nat.le_of_ble_eq_true rfl) (by rw [hG.ms]; exact Nat.le_of_ble_eq_true rfl) dX6_walk_2 ?_
  refine ⟨L, S, i, rfl, hR, fun k hkn hiq => ?_, fun hb => hk.bad (k := 0) (v := 0) (S1 := S) (by simp only [oWal, ixO_n (n := 20) hb (by decide)]) rfl⟩
  subst hiq
  refine x_astore_n hG (pc := 5) 3 dX6_walk_5 rfl (Nat.le_of_ble_eq_true rfl) rfl (by dsimp only [List.set]) ?_
  refine x_iload_n hG (pc := 6) 2 dX6_walk_6 rfl rfl ?_
  refine x_bipush hG (pc := 7) 50 dX6_walk_7 (by decide) ?_
  refine x_icmp_lt hG (pc := 9) 19 dX6_walk_9 (by decide) (fun h9 => ?_) (fun h9 => ?_)
  · refine x_throwW hG hO (pc := 19) _ _ lt_262 dX6_walk_19 dX6_walk_22 dX6_walk_23 dX6_walk_26 dX6_walk_29 (by decide) (Nat.le_of_ble_eq_true rfl) (by rw [hG.mc]; exact Nat.le_of_ble_eq_true rfl) (by rw [hG.ms]; exact Nat.le_of_ble_eq_true rfl) ?_
    exact hk.bad (k := 1) (v := 0) (S1 := S) (by simp only [oWal, ixO_s (n := 20) hkn (by decide), h9, ↓reduceIte]) rfl
  · refine x_iload_n hG (pc := 12) 2 dX6_walk_12 rfl rfl ?_
    refine x_sipush hG (pc := 13) 2000 dX6_walk_13 (by decide) ?_
    refine x_icmp_le hG (pc := 16) 30 dX6_walk_16 (by decide) (fun h16 => ?_) (fun h16 => ?_)
    · refine x_aload_n hG (pc := 30) 0 dX6_walk_30 rfl rfl ?_
      refine x_iload_n hG (pc := 31) 1 dX6_walk_31 rfl rfl ?_
      refine x_callV hG hO (pc := 32) [_] c_X6_isTaken lk_X6_264 (by first | assumption | exact hR.main) rfl rfl ⟨by decide, by decide⟩ (Nat.le_of_ble_eq_true rfl) (by rw [hG.mc]; exact Nat.le_of_ble_eq_true rfl) (by rw [hG.ms]; exact Nat.le_of_ble_eq_true rfl) dX6_walk_32 ?_
      refine ⟨L, S, _, rfl, hR, ?_⟩
      refine x_if_ne hG (pc := 35) 54 dX6_walk_35 (by decide) (fun h35 => ?_) (fun h35 => ?_)
      · refine x_iconst hG (pc := 54) 1 dX6_walk_54 (by decide) ?_
        refine x_goto hG (pc := 55) 59 dX6_walk_55 (by decide) ?_
        have hw : ¬ wSaf S k s = 0 := by
          rw [wSaf, if_neg h35]
          decide
        refine x_istore hG (pc := 59) dX6_walk_59 (Nat.le_of_ble_eq_true rfl) rfl (by dsimp only [List.set]) ?_
        refine x_iload hG (pc := 61) dX6_walk_61 rfl ?_
        refine x_if_ne hG (pc := 63) 76 dX6_walk_63 (by decide) (fun h63 => ?_) (fun h63 => ?_)
        · refine x_iload hG (pc := 76) dX6_walk_76 rfl ?_
          refine x_ireturn hG (pc := 78) dX6_walk_78 rfl rfl (by rw [hG.mc]; exact Nat.le_of_ble_eq_true rfl) (by rw [hG.ms]; exact Nat.le_of_ble_eq_true rfl) ?_
          exact hk.ok (by simp only [oWal, ixO_s (n := 20) hkn (by decide), h9, h16, hw, ↓reduceIte]) rfl hR FrM.rf
        · exact absurd h63 (by decide)
      · refine x_aload_n hG (pc := 38) 3 dX6_walk_38 rfl rfl ?_
        refine x_getf hG (pc := 39) fl_X6_79 (hR.sec hkn) rfl dX6_walk_39 ?_
        refine x_aload_n hG (pc := 42) 0 dX6_walk_42 rfl rfl ?_
        refine x_iload_n hG (pc := 43) 1 dX6_walk_43 rfl rfl ?_
        refine x_callV hG hO (pc := 44) [_] c_X6_signBeside lk_X6_267 (by first | assumption | exact hR.main) rfl rfl ⟨by decide, by decide⟩ (Nat.le_of_ble_eq_true rfl) (by rw [hG.mc]; exact Nat.le_of_ble_eq_true rfl) (by rw [hG.ms]; exact Nat.le_of_ble_eq_true rfl) dX6_walk_44 ?_
        refine ⟨L, S, k, rfl, hR, hkn, ?_⟩
        refine x_iload_n hG (pc := 47) 2 dX6_walk_47 rfl rfl ?_
        refine x_callS hG hO (pc := 48) [_, _, _] c_X6_isWarned lk_X6_270 rfl rfl ⟨by decide, by decide⟩ (Nat.le_of_ble_eq_true rfl) (by rw [hG.mc]; exact Nat.le_of_ble_eq_true rfl) (by rw [hG.ms]; exact Nat.le_of_ble_eq_true rfl) dX6_walk_48 ?_
        refine ⟨_, _, s, rfl, (hI.1 k hkn).2.2.2.2, ?_, ?_⟩
        · unfold sBes
          split
          · exact (hI.1 (oth k) (by unfold oth; split <;> omega)).2.2.2.2
          · decide
        refine x_if_eq hG (pc := 51) 58 dX6_walk_51 (by decide) (fun h51 => ?_) (fun h51 => ?_)
        · refine x_iconst hG (pc := 58) 0 dX6_walk_58 (by decide) ?_
          have hw : wSaf S k s = 0 := by
            rw [wSaf, if_pos h35]
            exact h51
          refine x_istore hG (pc := 59) dX6_walk_59 (Nat.le_of_ble_eq_true rfl) rfl (by dsimp only [List.set]) ?_
          refine x_iload hG (pc := 61) dX6_walk_61 rfl ?_
          refine x_if_ne hG (pc := 63) 76 dX6_walk_63 (by decide) (fun h63 => ?_) (fun h63 => ?_)
          · exact absurd rfl h63
          · refine x_aload_n hG (pc := 66) 0 dX6_walk_66 rfl rfl ?_
            refine x_dup hG (pc := 67) dX6_walk_67 rfl ?_
            refine x_getf hG (pc := 68) fl_X6_58 hR.main rfl dX6_walk_68 ?_
            refine x_iconst hG (pc := 71) 1 dX6_walk_71 (by decide) ?_
            refine x_iadd hG (pc := 72) dX6_walk_72 ?_
            refine x_putf hG (pc := 73) fl_X6_58 fw_8 ft_8_11 hR.main (Nat.le_of_ble_eq_true rfl) rfl rfl (by dsimp only [List.set]) dX6_walk_73 ?_
            refine x_gen (fun w1 e1 => ?_)
            obtain ⟨hR1, hF1⟩ := hR.uG (f := rset (gl S) 5 (gl S 5 + 1)) e1
            refine x_iload hG (pc := 76) dX6_walk_76 rfl ?_
            refine x_ireturn hG (pc := 78) dX6_walk_78 rfl rfl (by rw [hG.mc]; exact Nat.le_of_ble_eq_true rfl) (by rw [hG.ms]; exact Nat.le_of_ble_eq_true rfl) ?_
            exact hk.ok (by simp only [oWal, ixO_s (n := 20) hkn (by decide), h9, h16, hw, ↓reduceIte]) rfl hR1 hF1
        · refine x_iconst hG (pc := 54) 1 dX6_walk_54 (by decide) ?_
          refine x_goto hG (pc := 55) 59 dX6_walk_55 (by decide) ?_
          have hw : ¬ wSaf S k s = 0 := by
            rw [wSaf, if_pos h35]
            exact h51
          refine x_istore hG (pc := 59) dX6_walk_59 (Nat.le_of_ble_eq_true rfl) rfl (by dsimp only [List.set]) ?_
          refine x_iload hG (pc := 61) dX6_walk_61 rfl ?_
          refine x_if_ne hG (pc := 63) 76 dX6_walk_63 (by decide) (fun h63 => ?_) (fun h63 => ?_)
          · refine x_iload hG (pc := 76) dX6_walk_76 rfl ?_
            refine x_ireturn hG (pc := 78) dX6_walk_78 rfl rfl (by rw [hG.mc]; exact Nat.le_of_ble_eq_true rfl) (by rw [hG.ms]; exact Nat.le_of_ble_eq_true rfl) ?_
            exact hk.ok (by simp only [oWal, ixO_s (n := 20) hkn (by decide), h9, h16, hw, ↓reduceIte]) rfl hR FrM.rf
          · exact absurd h63 (by decide)
    · refine x_throwW hG hO (pc := 19) _ _ lt_262 dX6_walk_19 dX6_walk_22 dX6_walk_23 dX6_walk_26 dX6_walk_29 (by decide) (Nat.le_of_ble_eq_true rfl) (by rw [hG.mc]; exact Nat.le_of_ble_eq_true rfl) (by rw [hG.ms]; exact Nat.le_of_ble_eq_true rfl) ?_
      exact hk.bad (k := 1) (v := 0) (S1 := S) (by simp only [oWal, ixO_s (n := 20) hkn (by decide), h9, h16, ↓reduceIte]) rfl
