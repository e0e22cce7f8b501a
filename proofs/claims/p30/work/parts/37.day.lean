/-! TrackNights: the nights of a day, the day, the cost behind a work -/
def JOk (S : St) : Prop := ∀ n, n < nN S → JobOk S n
theorem nts_s {S : St} {d : Int32} {k : Nat} : nts S d (k + 1) = if gS (nts S d k) k 4 = d then (if gS (nts S d k) k 0 = 0 then setN (nts S d k) k (rset (gS (nts S d k) k) 0 3) else if gS (nts S d k) k 0 = 1 then oEnd (nts S d k) k 2 else nts S d k) else nts S d k := rfl
theorem gS_setS {S : St} {i : Nat} {f : Nat → Int32} : gS (setS S i f) = gS S := rfl
set_option maxHeartbeats 400000 in
set_option maxRecDepth 100000 in
theorem c_X6_endNightsOf : CtrA yX6_endNightsOf cX6_endNightsOf 4 none (rmk 6 0 0 137) (fun Γ av w post xpost => ∃ (L : LayC) (S : St), ∃ d, av = [.ref (thC L), .int d] ∧ RepC Γ L S w ∧ JOk S ∧ (∀ w1, RepC Γ L (nts S d (nN S)) w1 → FrM w w1 → post none w1)) := by
  refine ctr_of (by decide) ?_
  rintro g av w hG hO ⟨L, S, d, rfl, hR, hJ, hk⟩
  refine ⟨Nat.le_of_ble_eq_true rfl, ?_⟩
  show X g w 0 0 0 [some (.ref (thC L)), some (.int d), none, none] []
  have hn : nN S ≤ 30 := hR.n30 (id := 2) (by omega)
  refine x_iconst hG (pc := 0) 0 dX6_endNightsOf_0 (by decide) ?_
  refine x_istore_n hG (pc := 1) 2 dX6_endNightsOf_1 rfl (Nat.le_of_ble_eq_true rfl) rfl (by dsimp only [List.set]) ?_
  refine nat_down (P := fun k => ∀ w1, RepC (gΓ g) L (nts S d k) w1 → FrM w w1 → ∀ z : Option Value, X g w1 0 0 2 [some (.ref (thC L)), some (.int d), some (.int (nI k)), z] []) (nN S) (fun k hi ih w1 hR1 hF1 z => ?_) 0 (Nat.zero_le _) w hR FrM.rf none
  have hf := nts_f (S := S) (d := d) k
  have hN := hf.1
  refine x_iload_n hG (pc := 2) 2 dX6_endNightsOf_2 rfl rfl ?_
  refine x_aload_n hG (pc := 3) 0 dX6_endNightsOf_3 rfl rfl ?_
  refine x_getf hG (pc := 4) fl_X6_25 hR1.main rfl dX6_endNightsOf_4 ?_
  refine x_callV hG hO (pc := 7) [] c_Jx4a65c_size_8abf5 lk_X6_104 (hR1.lst (id := 2) (by omega)).1 rfl rfl ⟨by decide, by decide⟩ (Nat.le_of_ble_eq_true rfl) (by rw [hG.mc]; exact Nat.le_of_ble_eq_true rfl) (by rw [hG.ms]; exact Nat.le_of_ble_eq_true rfl) dX6_endNightsOf_7 ?_
  refine ⟨_, _, _, _, _, rfl, (hR1.lst (id := 2) (by omega)).1, ?_⟩
  show X g w1 0 0 10 _ [.int (nI (nN (nts S d k))), .int (nI k)]
  rw [hN]
  refine x_icmp_ge hG (pc := 10) 76 dX6_endNightsOf_10 (by decide) (fun h10 => ?_) (fun h10 => ?_)
  · have hke : k = nN S := by
      rcases Nat.lt_or_ge k (nN S) with q | q
      · exact absurd h10 (nI_ge (b := nN S) q (by omega))
      · omega
    refine x_return hG (pc := 76) dX6_endNightsOf_76 rfl (by rw [hG.mc]; exact Nat.le_of_ble_eq_true rfl) (by rw [hG.ms]; exact Nat.le_of_ble_eq_true rfl) ?_
    rw [← hke] at hk
    exact hk _ hR1 hF1
  · have hkn : k < nN S := by
      rcases Nat.lt_or_ge k (nN S) with q | q
      · exact q
      · exact absurd (nI_le (a := nN S) q (by omega)) h10
    have hkn1 : k < nN (nts S d k) := by omega
    refine x_aload_n hG (pc := 13) 0 dX6_endNightsOf_13 rfl rfl ?_
    refine x_getf hG (pc := 14) fl_X6_25 hR1.main rfl dX6_endNightsOf_14 ?_
    refine x_iload_n hG (pc := 17) 2 dX6_endNightsOf_17 rfl rfl ?_
    refine x_callV hG hO (pc := 18) [_] c_Jx4a65c_get_915e3 lk_X6_130 (hR1.lst (id := 2) (by omega)).1 rfl rfl ⟨by decide, by decide⟩ (Nat.le_of_ble_eq_true rfl) (by rw [hG.mc]; exact Nat.le_of_ble_eq_true rfl) (by rw [hG.ms]; exact Nat.le_of_ble_eq_true rfl) dX6_endNightsOf_18 ?_
    refine ⟨_, _, _, _, _, _, _, _, k, rfl, hR1.lst (id := 2) (by omega), hkn1, ?_⟩
    refine x_castC hG (pc := 21) ck_X6_176 (hR1.pos hkn1) dX6_endNightsOf_21 ?_
    refine x_astore_n hG (pc := 24) 3 dX6_endNightsOf_24 rfl (Nat.le_of_ble_eq_true rfl) rfl (by dsimp only [List.set]) ?_
    refine x_aload_n hG (pc := 25) 3 dX6_endNightsOf_25 rfl rfl ?_
    refine x_getf hG (pc := 26) fl_X6_227 (hR1.pos hkn1) rfl dX6_endNightsOf_26 ?_
    refine x_iload_n hG (pc := 29) 1 dX6_endNightsOf_29 rfl rfl ?_
    refine x_icmp_ne hG (pc := 30) 48 dX6_endNightsOf_30 (by decide) (fun h30 => ?_) (fun h30 => ?_)
    · refine x_aload_n hG (pc := 48) 3 dX6_endNightsOf_48 rfl rfl ?_
      refine x_getf hG (pc := 49) fl_X6_227 (hR1.pos hkn1) rfl dX6_endNightsOf_49 ?_
      refine x_iload_n hG (pc := 52) 1 dX6_endNightsOf_52 rfl rfl ?_
      refine x_icmp_ne hG (pc := 53) 70 dX6_endNightsOf_53 (by decide) (fun h53 => ?_) (fun h53 => ?_)
      · refine x_iinc hG (pc := 70) (nI (k + 1)) dX6_endNightsOf_70 rfl (Nat.le_of_ble_eq_true rfl) rfl (nI_1' k) (by dsimp only [List.set]) ?_
        refine x_goto hG (pc := 73) 2 dX6_endNightsOf_73 (by decide) ?_
        have hs := nts_s (S := S) (d := d) (k := k)
        first
          | (rw [if_pos h30, if_pos h37] at hs; rw [← hs] at hR2; exact ih (k + 1) (by omega) (by omega) _ hR2 (hF1.tr hF2) _)
          | (rw [if_pos h30, if_neg h37, if_pos h61] at hs; rw [← hs] at hR2; exact ih (k + 1) (by omega) (by omega) _ hR2 (hF1.tr hF2) _)
          | (rw [if_pos h30, if_neg h37, if_neg h61] at hs; rw [← hs] at hR1; exact ih (k + 1) (by omega) (by omega) _ hR1 hF1 _)
          | (rw [if_neg h30] at hs; rw [← hs] at hR1; exact ih (k + 1) (by omega) (by omega) _ hR1 hF1 _)
          | exact absurd h30 h53
          | exact absurd h53 h30
      · refine x_aload_n hG (pc := 56) 3 dX6_endNightsOf_56 rfl rfl ?_
        refine x_getf hG (pc := 57) fl_X6_191 (hR1.pos hkn1) rfl dX6_endNightsOf_57 ?_
        refine x_iconst hG (pc := 60) 1 dX6_endNightsOf_60 (by decide) ?_
        refine x_icmp_ne hG (pc := 61) 70 dX6_endNightsOf_61 (by decide) (fun h61 => ?_) (fun h61 => ?_)
        · refine x_iinc hG (pc := 70) (nI (k + 1)) dX6_endNightsOf_70 rfl (Nat.le_of_ble_eq_true rfl) rfl (nI_1' k) (by dsimp only [List.set]) ?_
          refine x_goto hG (pc := 73) 2 dX6_endNightsOf_73 (by decide) ?_
          have hs := nts_s (S := S) (d := d) (k := k)
          first
            | (rw [if_pos h30, if_pos h37] at hs; rw [← hs] at hR2; exact ih (k + 1) (by omega) (by omega) _ hR2 (hF1.tr hF2) _)
            | (rw [if_pos h30, if_neg h37, if_pos h61] at hs; rw [← hs] at hR2; exact ih (k + 1) (by omega) (by omega) _ hR2 (hF1.tr hF2) _)
            | (rw [if_pos h30, if_neg h37, if_neg h61] at hs; rw [← hs] at hR1; exact ih (k + 1) (by omega) (by omega) _ hR1 hF1 _)
            | (rw [if_neg h30] at hs; rw [← hs] at hR1; exact ih (k + 1) (by omega) (by omega) _ hR1 hF1 _)
            | exact absurd h30 h53
            | exact absurd h53 h30
        · refine x_aload_n hG (pc := 64) 0 dX6_endNightsOf_64 rfl rfl ?_
          refine x_aload_n hG (pc := 65) 3 dX6_endNightsOf_65 rfl rfl ?_
          refine x_iconst hG (pc := 66) 2 dX6_endNightsOf_66 (by decide) ?_
          refine x_callV hG hO (pc := 67) [_, _] c_X6_endNight lk_X6_255 hR1.main rfl rfl ⟨by decide, by decide⟩ (Nat.le_of_ble_eq_true rfl) (by rw [hG.mc]; exact Nat.le_of_ble_eq_true rfl) (by rw [hG.ms]; exact Nat.le_of_ble_eq_true rfl) dX6_endNightsOf_67 ?_
          refine ⟨L, nts S d k, k, 2, rfl, hR1, hkn1, (hJ k hkn).fm hf, fun w2 hR2 hF2 => ?_⟩
          refine x_iinc hG (pc := 70) (nI (k + 1)) dX6_endNightsOf_70 rfl (Nat.le_of_ble_eq_true rfl) rfl (nI_1' k) (by dsimp only [List.set]) ?_
          refine x_goto hG (pc := 73) 2 dX6_endNightsOf_73 (by decide) ?_
          have hs := nts_s (S := S) (d := d) (k := k)
          first
            | (rw [if_pos h30, if_pos h37] at hs; rw [← hs] at hR2; exact ih (k + 1) (by omega) (by omega) _ hR2 (hF1.tr hF2) _)
            | (rw [if_pos h30, if_neg h37, if_pos h61] at hs; rw [← hs] at hR2; exact ih (k + 1) (by omega) (by omega) _ hR2 (hF1.tr hF2) _)
            | (rw [if_pos h30, if_neg h37, if_neg h61] at hs; rw [← hs] at hR1; exact ih (k + 1) (by omega) (by omega) _ hR1 hF1 _)
            | (rw [if_neg h30] at hs; rw [← hs] at hR1; exact ih (k + 1) (by omega) (by omega) _ hR1 hF1 _)
            | exact absurd h30 h53
            | exact absurd h53 h30
    · refine x_aload_n hG (pc := 33) 3 dX6_endNightsOf_33 rfl rfl ?_
      refine x_getf hG (pc := 34) fl_X6_191 (hR1.pos hkn1) rfl dX6_endNightsOf_34 ?_
      refine x_if_ne hG (pc := 37) 48 dX6_endNightsOf_37 (by decide) (fun h37 => ?_) (fun h37 => ?_)
      · refine x_aload_n hG (pc := 48) 3 dX6_endNightsOf_48 rfl rfl ?_
        refine x_getf hG (pc := 49) fl_X6_227 (hR1.pos hkn1) rfl dX6_endNightsOf_49 ?_
        refine x_iload_n hG (pc := 52) 1 dX6_endNightsOf_52 rfl rfl ?_
        refine x_icmp_ne hG (pc := 53) 70 dX6_endNightsOf_53 (by decide) (fun h53 => ?_) (fun h53 => ?_)
        · refine x_iinc hG (pc := 70) (nI (k + 1)) dX6_endNightsOf_70 rfl (Nat.le_of_ble_eq_true rfl) rfl (nI_1' k) (by dsimp only [List.set]) ?_
          refine x_goto hG (pc := 73) 2 dX6_endNightsOf_73 (by decide) ?_
          have hs := nts_s (S := S) (d := d) (k := k)
          first
            | (rw [if_pos h30, if_pos h37] at hs; rw [← hs] at hR2; exact ih (k + 1) (by omega) (by omega) _ hR2 (hF1.tr hF2) _)
            | (rw [if_pos h30, if_neg h37, if_pos h61] at hs; rw [← hs] at hR2; exact ih (k + 1) (by omega) (by omega) _ hR2 (hF1.tr hF2) _)
            | (rw [if_pos h30, if_neg h37, if_neg h61] at hs; rw [← hs] at hR1; exact ih (k + 1) (by omega) (by omega) _ hR1 hF1 _)
            | (rw [if_neg h30] at hs; rw [← hs] at hR1; exact ih (k + 1) (by omega) (by omega) _ hR1 hF1 _)
            | exact absurd h30 h53
            | exact absurd h53 h30
        · refine x_aload_n hG (pc := 56) 3 dX6_endNightsOf_56 rfl rfl ?_
          refine x_getf hG (pc := 57) fl_X6_191 (hR1.pos hkn1) rfl dX6_endNightsOf_57 ?_
          refine x_iconst hG (pc := 60) 1 dX6_endNightsOf_60 (by decide) ?_
          refine x_icmp_ne hG (pc := 61) 70 dX6_endNightsOf_61 (by decide) (fun h61 => ?_) (fun h61 => ?_)
          · refine x_iinc hG (pc := 70) (nI (k + 1)) dX6_endNightsOf_70 rfl (Nat.le_of_ble_eq_true rfl) rfl (nI_1' k) (by dsimp only [List.set]) ?_
            refine x_goto hG (pc := 73) 2 dX6_endNightsOf_73 (by decide) ?_
            have hs := nts_s (S := S) (d := d) (k := k)
            first
              | (rw [if_pos h30, if_pos h37] at hs; rw [← hs] at hR2; exact ih (k + 1) (by omega) (by omega) _ hR2 (hF1.tr hF2) _)
              | (rw [if_pos h30, if_neg h37, if_pos h61] at hs; rw [← hs] at hR2; exact ih (k + 1) (by omega) (by omega) _ hR2 (hF1.tr hF2) _)
              | (rw [if_pos h30, if_neg h37, if_neg h61] at hs; rw [← hs] at hR1; exact ih (k + 1) (by omega) (by omega) _ hR1 hF1 _)
              | (rw [if_neg h30] at hs; rw [← hs] at hR1; exact ih (k + 1) (by omega) (by omega) _ hR1 hF1 _)
              | exact absurd h30 h53
              | exact absurd h53 h30
          · refine x_aload_n hG (pc := 64) 0 dX6_endNightsOf_64 rfl rfl ?_
            refine x_aload_n hG (pc := 65) 3 dX6_endNightsOf_65 rfl rfl ?_
            refine x_iconst hG (pc := 66) 2 dX6_endNightsOf_66 (by decide) ?_
            refine x_callV hG hO (pc := 67) [_, _] c_X6_endNight lk_X6_255 hR1.main rfl rfl ⟨by decide, by decide⟩ (Nat.le_of_ble_eq_true rfl) (by rw [hG.mc]; exact Nat.le_of_ble_eq_true rfl) (by rw [hG.ms]; exact Nat.le_of_ble_eq_true rfl) dX6_endNightsOf_67 ?_
            refine ⟨L, nts S d k, k, 2, rfl, hR1, hkn1, (hJ k hkn).fm hf, fun w2 hR2 hF2 => ?_⟩
            refine x_iinc hG (pc := 70) (nI (k + 1)) dX6_endNightsOf_70 rfl (Nat.le_of_ble_eq_true rfl) rfl (nI_1' k) (by dsimp only [List.set]) ?_
            refine x_goto hG (pc := 73) 2 dX6_endNightsOf_73 (by decide) ?_
            have hs := nts_s (S := S) (d := d) (k := k)
            first
              | (rw [if_pos h30, if_pos h37] at hs; rw [← hs] at hR2; exact ih (k + 1) (by omega) (by omega) _ hR2 (hF1.tr hF2) _)
              | (rw [if_pos h30, if_neg h37, if_pos h61] at hs; rw [← hs] at hR2; exact ih (k + 1) (by omega) (by omega) _ hR2 (hF1.tr hF2) _)
              | (rw [if_pos h30, if_neg h37, if_neg h61] at hs; rw [← hs] at hR1; exact ih (k + 1) (by omega) (by omega) _ hR1 hF1 _)
              | (rw [if_neg h30] at hs; rw [← hs] at hR1; exact ih (k + 1) (by omega) (by omega) _ hR1 hF1 _)
              | exact absurd h30 h53
              | exact absurd h53 h30
      · refine x_aload_n hG (pc := 40) 3 dX6_endNightsOf_40 rfl rfl ?_
        refine x_iconst hG (pc := 41) 3 dX6_endNightsOf_41 (by decide) ?_
        refine x_putf hG (pc := 42) fl_X6_191 fw_4 ft_4_6 (hR1.pos hkn1) (Nat.le_of_ble_eq_true rfl) rfl rfl (by dsimp only [List.set]) dX6_endNightsOf_42 ?_
        refine x_gen (fun w2 e2 => ?_)
        obtain ⟨hR2, hF2⟩ := hR1.uN hkn1 (f := rset (gS (nts S d k) k) 0 3) e2 rfl (fun x hx => rset_n (by omega))
        refine x_goto hG (pc := 45) 70 dX6_endNightsOf_45 (by decide) ?_
        refine x_iinc hG (pc := 70) (nI (k + 1)) dX6_endNightsOf_70 rfl (Nat.le_of_ble_eq_true rfl) rfl (nI_1' k) (by dsimp only [List.set]) ?_
        refine x_goto hG (pc := 73) 2 dX6_endNightsOf_73 (by decide) ?_
        have hs := nts_s (S := S) (d := d) (k := k)
        first
          | (rw [if_pos h30, if_pos h37] at hs; rw [← hs] at hR2; exact ih (k + 1) (by omega) (by omega) _ hR2 (hF1.tr hF2) _)
          | (rw [if_pos h30, if_neg h37, if_pos h61] at hs; rw [← hs] at hR2; exact ih (k + 1) (by omega) (by omega) _ hR2 (hF1.tr hF2) _)
          | (rw [if_pos h30, if_neg h37, if_neg h61] at hs; rw [← hs] at hR1; exact ih (k + 1) (by omega) (by omega) _ hR1 hF1 _)
          | (rw [if_neg h30] at hs; rw [← hs] at hR1; exact ih (k + 1) (by omega) (by omega) _ hR1 hF1 _)
          | exact absurd h30 h53
          | exact absurd h53 h30
set_option maxHeartbeats 400000 in
set_option maxRecDepth 100000 in
theorem c_X6_passDay : CtrA yX6_passDay cX6_passDay 4 none (rmk 7 0 0 160) (fun Γ av w post xpost => ∃ (L : LayC) (S : St), ∃ t h, av = [.ref (thC L), .int t, .int h] ∧ RepC Γ L S w ∧ JOk S ∧ (∀ w1, RepC Γ L (oDay S t h) w1 → FrM w w1 → post none w1)) := by
  refine ctr_of (by decide) ?_
  rintro g av w hG hO ⟨L, S, t, h, rfl, hR, hJ, hk⟩
  refine ⟨Nat.le_of_ble_eq_true rfl, ?_⟩
  show X g w 0 0 0 [some (.ref (thC L)), some (.int t), some (.int h), none] []
  refine x_aload_n hG (pc := 0) 0 dX6_passDay_0 rfl rfl ?_
  refine x_aload_n hG (pc := 1) 0 dX6_passDay_1 rfl rfl ?_
  refine x_getf hG (pc := 2) fl_X6_42 hR.main rfl dX6_passDay_2 ?_
  refine x_callV hG hO (pc := 5) [_] c_X6_endNightsOf lk_X6_430 (by first | assumption | exact hR.main) rfl rfl ⟨by decide, by decide⟩ (Nat.le_of_ble_eq_true rfl) (by rw [hG.mc]; exact Nat.le_of_ble_eq_true rfl) (by rw [hG.ms]; exact Nat.le_of_ble_eq_true rfl) dX6_passDay_5 ?_
  refine ⟨L, S, gl S 0, rfl, hR, hJ, fun w1 hR1 hF1 => ?_⟩
  refine x_aload_n hG (pc := 8) 0 dX6_passDay_8 rfl rfl ?_
  refine x_dup hG (pc := 9) dX6_passDay_9 rfl ?_
  refine x_getf hG (pc := 10) fl_X6_42 hR1.main rfl dX6_passDay_10 ?_
  refine x_iconst hG (pc := 13) 1 dX6_passDay_13 (by decide) ?_
  refine x_iadd hG (pc := 14) dX6_passDay_14 ?_
  refine x_putf hG (pc := 15) fl_X6_42 fw_8 ft_8_6 hR1.main (Nat.le_of_ble_eq_true rfl) rfl rfl (by dsimp only [List.set]) dX6_passDay_15 ?_
  refine x_gen (fun w2 e2 => ?_)
  obtain ⟨hR2, hF2⟩ := hR1.uG (f := rset (gl (nts S (gl S 0) (nN S))) 0 (gl (nts S (gl S 0) (nN S)) 0 + 1)) e2
  refine x_aload_n hG (pc := 18) 0 dX6_passDay_18 rfl rfl ?_
  refine x_iload_n hG (pc := 19) 2 dX6_passDay_19 rfl rfl ?_
  refine x_putf hG (pc := 20) fl_X6_46 fw_8 ft_8_7 hR2.main (Nat.le_of_ble_eq_true rfl) rfl rfl (by dsimp only [List.set]) dX6_passDay_20 ?_
  refine x_gen (fun w3 e3 => ?_)
  obtain ⟨hR3, hF3⟩ := hR2.uG (f := rset (rset (gl (nts S (gl S 0) (nN S))) 0 (gl (nts S (gl S 0) (nN S)) 0 + 1)) 1 h) e3
  refine x_iconst hG (pc := 23) 0 dX6_passDay_23 (by decide) ?_
  refine x_istore_n hG (pc := 24) 3 dX6_passDay_24 rfl (Nat.le_of_ble_eq_true rfl) rfl (by dsimp only [List.set]) ?_
  refine nat_down (P := fun k => ∀ w4, RepC (gΓ g) L (dys (setG (nts S (gl S 0) (nN S)) (rset (rset (gl (nts S (gl S 0) (nN S))) 0 (gl (nts S (gl S 0) (nN S)) 0 + 1)) 1 h)) t k) w4 → FrM w w4 → X g w4 0 0 25 [some (.ref (thC L)), some (.int t), some (.int h), some (.int (nI k))] []) 20 (fun k hi ih w4 hR4 hF4 => ?_) 0 (Nat.zero_le _) w3 hR3 ((hF1.tr hF2).tr hF3)
  refine x_iload_n hG (pc := 25) 3 dX6_passDay_25 rfl rfl ?_
  refine x_bipush hG (pc := 26) 20 dX6_passDay_26 (by decide) ?_
  refine x_icmp_ge hG (pc := 28) 105 dX6_passDay_28 (by decide) (fun h28 => ?_) (fun h28 => ?_)
  · have hke : k = 20 := by
      rcases Nat.lt_or_ge k (20) with q | q
      · exact absurd h28 (nI_ge (b := 20) q (by omega))
      · omega
    refine x_return hG (pc := 105) dX6_passDay_105 rfl (by rw [hG.mc]; exact Nat.le_of_ble_eq_true rfl) (by rw [hG.ms]; exact Nat.le_of_ble_eq_true rfl) ?_
    subst hke
    exact hk _ hR4 hF4
  · have hkn : k < 20 := by
      rcases Nat.lt_or_ge k (20) with q | q
      · exact q
      · exact absurd (nI_le (a := 20) q (by omega)) h28
    refine x_aload_n hG (pc := 31) 0 dX6_passDay_31 rfl rfl ?_
    refine x_getf hG (pc := 32) fl_X6_11 hR4.main rfl dX6_passDay_32 ?_
    refine x_iload_n hG (pc := 35) 3 dX6_passDay_35 rfl rfl ?_
    refine x_aaldS hG (pc := 36) hR4.secs (vp_in_nI hkn (by decide)) dX6_passDay_36 ?_
    rw [nI_clamp (by omega), lE_at hkn]
    refine x_iload_n hG (pc := 37) 1 dX6_passDay_37 rfl rfl ?_
    refine x_callV hG hO (pc := 38) [_] c_X3_bearDay lk_X6_353 (hR4.sec hkn) rfl rfl ⟨by decide, by decide⟩ (Nat.le_of_ble_eq_true rfl) (by rw [hG.mc]; exact Nat.le_of_ble_eq_true rfl) (by rw [hG.ms]; exact Nat.le_of_ble_eq_true rfl) dX6_passDay_38 ?_
    refine ⟨_, _, _, _, _, _, _, _, _, _, _, t, rfl, hR4.sec hkn, hR4.val hkn, ?_⟩
    refine x_gen (fun w5 e5 => ?_)
    obtain ⟨hR5, hF5⟩ := hR4.uV hkn (f := age (sS (dys (setG (nts S (gl S 0) (nN S)) (rset (rset (gl (nts S (gl S 0) (nN S))) 0 (gl (nts S (gl S 0) (nN S)) 0 + 1)) 1 h)) t k) k) t) e5 rfl rfl rfl rfl
    refine x_aload_n hG (pc := 41) 0 dX6_passDay_41 rfl rfl ?_
    refine x_dup hG (pc := 42) dX6_passDay_42 rfl ?_
    refine x_getf hG (pc := 43) fl_X6_49 hR5.main rfl dX6_passDay_43 ?_
    refine x_iload_n hG (pc := 46) 1 dX6_passDay_46 rfl rfl ?_
    refine x_aload_n hG (pc := 47) 0 dX6_passDay_47 rfl rfl ?_
    refine x_getf hG (pc := 48) fl_X6_11 hR5.main rfl dX6_passDay_48 ?_
    refine x_iload_n hG (pc := 51) 3 dX6_passDay_51 rfl rfl ?_
    refine x_aaldS hG (pc := 52) hR5.secs (vp_in_nI hkn (by decide)) dX6_passDay_52 ?_
    rw [nI_clamp (by omega), lE_at hkn]
    refine x_getf hG (pc := 53) fl_X6_79 (hR5.sec hkn) rfl dX6_passDay_53 ?_
    refine x_callS hG hO (pc := 56) [_, _] c_X6_delayCost lk_X6_433 rfl rfl ⟨by decide, by decide⟩ (Nat.le_of_ble_eq_true rfl) (by rw [hG.mc]; exact Nat.le_of_ble_eq_true rfl) (by rw [hG.ms]; exact Nat.le_of_ble_eq_true rfl) dX6_passDay_56 ?_
    refine ⟨t, _, rfl, ?_⟩
    refine x_iadd hG (pc := 59) dX6_passDay_59 ?_
    refine x_putf hG (pc := 60) fl_X6_49 fw_8 ft_8_8 hR5.main (Nat.le_of_ble_eq_true rfl) rfl rfl (by dsimp only [List.set]) dX6_passDay_60 ?_
    refine x_gen (fun w6 e6 => ?_)
    obtain ⟨hR6, hF6⟩ := hR5.uG (f := rset (gl (setS (dys (setG (nts S (gl S 0) (nN S)) (rset (rset (gl (nts S (gl S 0) (nN S))) 0 (gl (nts S (gl S 0) (nN S)) 0 + 1)) 1 h)) t k) k (age (sS (dys (setG (nts S (gl S 0) (nN S)) (rset (rset (gl (nts S (gl S 0) (nN S))) 0 (gl (nts S (gl S 0) (nN S)) 0 + 1)) 1 h)) t k) k) t))) 2 (gl (setS (dys (setG (nts S (gl S 0) (nN S)) (rset (rset (gl (nts S (gl S 0) (nN S))) 0 (gl (nts S (gl S 0) (nN S)) 0 + 1)) 1 h)) t k) k (age (sS (dys (setG (nts S (gl S 0) (nN S)) (rset (rset (gl (nts S (gl S 0) (nN S))) 0 (gl (nts S (gl S 0) (nN S)) 0 + 1)) 1 h)) t k) k) t)) 2 + s_delay t (sS (setS (dys (setG (nts S (gl S 0) (nN S)) (rset (rset (gl (nts S (gl S 0) (nN S))) 0 (gl (nts S (gl S 0) (nN S)) 0 + 1)) 1 h)) t k) k (age (sS (dys (setG (nts S (gl S 0) (nN S)) (rset (rset (gl (nts S (gl S 0) (nN S))) 0 (gl (nts S (gl S 0) (nN S)) 0 + 1)) 1 h)) t k) k) t)) k 6))) e6
    refine x_aload_n hG (pc := 63) 0 dX6_passDay_63 rfl rfl ?_
    refine x_aload_n hG (pc := 64) 0 dX6_passDay_64 rfl rfl ?_
    refine x_getf hG (pc := 65) fl_X6_11 hR6.main rfl dX6_passDay_65 ?_
    refine x_iload_n hG (pc := 68) 3 dX6_passDay_68 rfl rfl ?_
    refine x_aaldS hG (pc := 69) hR6.secs (vp_in_nI hkn (by decide)) dX6_passDay_69 ?_
    rw [nI_clamp (by omega), lE_at hkn]
    refine x_callV hG hO (pc := 70) [_] c_X6_breakIfCracked lk_X6_436 hR6.main rfl rfl ⟨by decide, by decide⟩ (Nat.le_of_ble_eq_true rfl) (by rw [hG.mc]; exact Nat.le_of_ble_eq_true rfl) (by rw [hG.ms]; exact Nat.le_of_ble_eq_true rfl) dX6_passDay_70 ?_
    refine ⟨L, (setG (setS (dys (setG (nts S (gl S 0) (nN S)) (rset (rset (gl (nts S (gl S 0) (nN S))) 0 (gl (nts S (gl S 0) (nN S)) 0 + 1)) 1 h)) t k) k (age (sS (dys (setG (nts S (gl S 0) (nN S)) (rset (rset (gl (nts S (gl S 0) (nN S))) 0 (gl (nts S (gl S 0) (nN S)) 0 + 1)) 1 h)) t k) k) t)) (rset (gl (setS (dys (setG (nts S (gl S 0) (nN S)) (rset (rset (gl (nts S (gl S 0) (nN S))) 0 (gl (nts S (gl S 0) (nN S)) 0 + 1)) 1 h)) t k) k (age (sS (dys (setG (nts S (gl S 0) (nN S)) (rset (rset (gl (nts S (gl S 0) (nN S))) 0 (gl (nts S (gl S 0) (nN S)) 0 + 1)) 1 h)) t k) k) t))) 2 (gl (setS (dys (setG (nts S (gl S 0) (nN S)) (rset (rset (gl (nts S (gl S 0) (nN S))) 0 (gl (nts S (gl S 0) (nN S)) 0 + 1)) 1 h)) t k) k (age (sS (dys (setG (nts S (gl S 0) (nN S)) (rset (rset (gl (nts S (gl S 0) (nN S))) 0 (gl (nts S (gl S 0) (nN S)) 0 + 1)) 1 h)) t k) k) t)) 2 + s_delay t (sS (setS (dys (setG (nts S (gl S 0) (nN S)) (rset (rset (gl (nts S (gl S 0) (nN S))) 0 (gl (nts S (gl S 0) (nN S)) 0 + 1)) 1 h)) t k) k (age (sS (dys (setG (nts S (gl S 0) (nN S)) (rset (rset (gl (nts S (gl S 0) (nN S))) 0 (gl (nts S (gl S 0) (nN S)) 0 + 1)) 1 h)) t k) k) t)) k 6)))), k, rfl, hR6, hkn, fun w7 hR7 hF7 => ?_⟩
    refine x_aload_n hG (pc := 73) 0 dX6_passDay_73 rfl rfl ?_
    refine x_getf hG (pc := 74) fl_X6_11 hR7.main rfl dX6_passDay_74 ?_
    refine x_iload_n hG (pc := 77) 3 dX6_passDay_77 rfl rfl ?_
    refine x_aaldS hG (pc := 78) hR7.secs (vp_in_nI hkn (by decide)) dX6_passDay_78 ?_
    rw [nI_clamp (by omega), lE_at hkn]
    refine x_aload_n hG (pc := 79) 0 dX6_passDay_79 rfl rfl ?_
    refine x_getf hG (pc := 80) fl_X6_46 hR7.main rfl dX6_passDay_80 ?_
    refine x_callV hG hO (pc := 83) [_] c_X3_isRisk lk_X6_350 (hR7.sec hkn) rfl rfl ⟨by decide, by decide⟩ (Nat.le_of_ble_eq_true rfl) (by rw [hG.mc]; exact Nat.le_of_ble_eq_true rfl) (by rw [hG.ms]; exact Nat.le_of_ble_eq_true rfl) dX6_passDay_83 ?_
    refine ⟨_, _, _, _, _, _, _, _, _, _, _, _, rfl, hR7.sec hkn, hR7.val hkn, ?_⟩
    show X g w7 0 0 86 _ [.int (if sS (oBrk (setG (setS (dys (setG (nts S (gl S 0) (nN S)) (rset (rset (gl (nts S (gl S 0) (nN S))) 0 (gl (nts S (gl S 0) (nN S)) 0 + 1)) 1 h)) t k) k (age (sS (dys (setG (nts S (gl S 0) (nN S)) (rset (rset (gl (nts S (gl S 0) (nN S))) 0 (gl (nts S (gl S 0) (nN S)) 0 + 1)) 1 h)) t k) k) t)) (rset (gl (setS (dys (setG (nts S (gl S 0) (nN S)) (rset (rset (gl (nts S (gl S 0) (nN S))) 0 (gl (nts S (gl S 0) (nN S)) 0 + 1)) 1 h)) t k) k (age (sS (dys (setG (nts S (gl S 0) (nN S)) (rset (rset (gl (nts S (gl S 0) (nN S))) 0 (gl (nts S (gl S 0) (nN S)) 0 + 1)) 1 h)) t k) k) t))) 2 (gl (setS (dys (setG (nts S (gl S 0) (nN S)) (rset (rset (gl (nts S (gl S 0) (nN S))) 0 (gl (nts S (gl S 0) (nN S)) 0 + 1)) 1 h)) t k) k (age (sS (dys (setG (nts S (gl S 0) (nN S)) (rset (rset (gl (nts S (gl S 0) (nN S))) 0 (gl (nts S (gl S 0) (nN S)) 0 + 1)) 1 h)) t k) k) t)) 2 + s_delay t (sS (setS (dys (setG (nts S (gl S 0) (nN S)) (rset (rset (gl (nts S (gl S 0) (nN S))) 0 (gl (nts S (gl S 0) (nN S)) 0 + 1)) 1 h)) t k) k (age (sS (dys (setG (nts S (gl S 0) (nN S)) (rset (rset (gl (nts S (gl S 0) (nN S))) 0 (gl (nts S (gl S 0) (nN S)) 0 + 1)) 1 h)) t k) k) t)) k 6)))) k) k 6 ≤ sp7 (sS (oBrk (setG (setS (dys (setG (nts S (gl S 0) (nN S)) (rset (rset (gl (nts S (gl S 0) (nN S))) 0 (gl (nts S (gl S 0) (nN S)) 0 + 1)) 1 h)) t k) k (age (sS (dys (setG (nts S (gl S 0) (nN S)) (rset (rset (gl (nts S (gl S 0) (nN S))) 0 (gl (nts S (gl S 0) (nN S)) 0 + 1)) 1 h)) t k) k) t)) (rset (gl (setS (dys (setG (nts S (gl S 0) (nN S)) (rset (rset (gl (nts S (gl S 0) (nN S))) 0 (gl (nts S (gl S 0) (nN S)) 0 + 1)) 1 h)) t k) k (age (sS (dys (setG (nts S (gl S 0) (nN S)) (rset (rset (gl (nts S (gl S 0) (nN S))) 0 (gl (nts S (gl S 0) (nN S)) 0 + 1)) 1 h)) t k) k) t))) 2 (gl (setS (dys (setG (nts S (gl S 0) (nN S)) (rset (rset (gl (nts S (gl S 0) (nN S))) 0 (gl (nts S (gl S 0) (nN S)) 0 + 1)) 1 h)) t k) k (age (sS (dys (setG (nts S (gl S 0) (nN S)) (rset (rset (gl (nts S (gl S 0) (nN S))) 0 (gl (nts S (gl S 0) (nN S)) 0 + 1)) 1 h)) t k) k) t)) 2 + s_delay t (sS (setS (dys (setG (nts S (gl S 0) (nN S)) (rset (rset (gl (nts S (gl S 0) (nN S))) 0 (gl (nts S (gl S 0) (nN S)) 0 + 1)) 1 h)) t k) k (age (sS (dys (setG (nts S (gl S 0) (nN S)) (rset (rset (gl (nts S (gl S 0) (nN S))) 0 (gl (nts S (gl S 0) (nN S)) 0 + 1)) 1 h)) t k) k) t)) k 6)))) k) k) (gl (oBrk (setG (setS (dys (setG (nts S (gl S 0) (nN S)) (rset (rset (gl (nts S (gl S 0) (nN S))) 0 (gl (nts S (gl S 0) (nN S)) 0 + 1)) 1 h)) t k) k (age (sS (dys (setG (nts S (gl S 0) (nN S)) (rset (rset (gl (nts S (gl S 0) (nN S))) 0 (gl (nts S (gl S 0) (nN S)) 0 + 1)) 1 h)) t k) k) t)) (rset (gl (setS (dys (setG (nts S (gl S 0) (nN S)) (rset (rset (gl (nts S (gl S 0) (nN S))) 0 (gl (nts S (gl S 0) (nN S)) 0 + 1)) 1 h)) t k) k (age (sS (dys (setG (nts S (gl S 0) (nN S)) (rset (rset (gl (nts S (gl S 0) (nN S))) 0 (gl (nts S (gl S 0) (nN S)) 0 + 1)) 1 h)) t k) k) t))) 2 (gl (setS (dys (setG (nts S (gl S 0) (nN S)) (rset (rset (gl (nts S (gl S 0) (nN S))) 0 (gl (nts S (gl S 0) (nN S)) 0 + 1)) 1 h)) t k) k (age (sS (dys (setG (nts S (gl S 0) (nN S)) (rset (rset (gl (nts S (gl S 0) (nN S))) 0 (gl (nts S (gl S 0) (nN S)) 0 + 1)) 1 h)) t k) k) t)) 2 + s_delay t (sS (setS (dys (setG (nts S (gl S 0) (nN S)) (rset (rset (gl (nts S (gl S 0) (nN S))) 0 (gl (nts S (gl S 0) (nN S)) 0 + 1)) 1 h)) t k) k (age (sS (dys (setG (nts S (gl S 0) (nN S)) (rset (rset (gl (nts S (gl S 0) (nN S))) 0 (gl (nts S (gl S 0) (nN S)) 0 + 1)) 1 h)) t k) k) t)) k 6)))) k) 1) then 0 else 1)]
    have hx : dys (setG (nts S (gl S 0) (nN S)) (rset (rset (gl (nts S (gl S 0) (nN S))) 0 (gl (nts S (gl S 0) (nN S)) 0 + 1)) 1 h)) t (k + 1) = if sS (oBrk (setG (setS (dys (setG (nts S (gl S 0) (nN S)) (rset (rset (gl (nts S (gl S 0) (nN S))) 0 (gl (nts S (gl S 0) (nN S)) 0 + 1)) 1 h)) t k) k (age (sS (dys (setG (nts S (gl S 0) (nN S)) (rset (rset (gl (nts S (gl S 0) (nN S))) 0 (gl (nts S (gl S 0) (nN S)) 0 + 1)) 1 h)) t k) k) t)) (rset (gl (setS (dys (setG (nts S (gl S 0) (nN S)) (rset (rset (gl (nts S (gl S 0) (nN S))) 0 (gl (nts S (gl S 0) (nN S)) 0 + 1)) 1 h)) t k) k (age (sS (dys (setG (nts S (gl S 0) (nN S)) (rset (rset (gl (nts S (gl S 0) (nN S))) 0 (gl (nts S (gl S 0) (nN S)) 0 + 1)) 1 h)) t k) k) t))) 2 (gl (setS (dys (setG (nts S (gl S 0) (nN S)) (rset (rset (gl (nts S (gl S 0) (nN S))) 0 (gl (nts S (gl S 0) (nN S)) 0 + 1)) 1 h)) t k) k (age (sS (dys (setG (nts S (gl S 0) (nN S)) (rset (rset (gl (nts S (gl S 0) (nN S))) 0 (gl (nts S (gl S 0) (nN S)) 0 + 1)) 1 h)) t k) k) t)) 2 + s_delay t (sS (setS (dys (setG (nts S (gl S 0) (nN S)) (rset (rset (gl (nts S (gl S 0) (nN S))) 0 (gl (nts S (gl S 0) (nN S)) 0 + 1)) 1 h)) t k) k (age (sS (dys (setG (nts S (gl S 0) (nN S)) (rset (rset (gl (nts S (gl S 0) (nN S))) 0 (gl (nts S (gl S 0) (nN S)) 0 + 1)) 1 h)) t k) k) t)) k 6)))) k) k 6 ≤ sp7 (sS (oBrk (setG (setS (dys (setG (nts S (gl S 0) (nN S)) (rset (rset (gl (nts S (gl S 0) (nN S))) 0 (gl (nts S (gl S 0) (nN S)) 0 + 1)) 1 h)) t k) k (age (sS (dys (setG (nts S (gl S 0) (nN S)) (rset (rset (gl (nts S (gl S 0) (nN S))) 0 (gl (nts S (gl S 0) (nN S)) 0 + 1)) 1 h)) t k) k) t)) (rset (gl (setS (dys (setG (nts S (gl S 0) (nN S)) (rset (rset (gl (nts S (gl S 0) (nN S))) 0 (gl (nts S (gl S 0) (nN S)) 0 + 1)) 1 h)) t k) k (age (sS (dys (setG (nts S (gl S 0) (nN S)) (rset (rset (gl (nts S (gl S 0) (nN S))) 0 (gl (nts S (gl S 0) (nN S)) 0 + 1)) 1 h)) t k) k) t))) 2 (gl (setS (dys (setG (nts S (gl S 0) (nN S)) (rset (rset (gl (nts S (gl S 0) (nN S))) 0 (gl (nts S (gl S 0) (nN S)) 0 + 1)) 1 h)) t k) k (age (sS (dys (setG (nts S (gl S 0) (nN S)) (rset (rset (gl (nts S (gl S 0) (nN S))) 0 (gl (nts S (gl S 0) (nN S)) 0 + 1)) 1 h)) t k) k) t)) 2 + s_delay t (sS (setS (dys (setG (nts S (gl S 0) (nN S)) (rset (rset (gl (nts S (gl S 0) (nN S))) 0 (gl (nts S (gl S 0) (nN S)) 0 + 1)) 1 h)) t k) k (age (sS (dys (setG (nts S (gl S 0) (nN S)) (rset (rset (gl (nts S (gl S 0) (nN S))) 0 (gl (nts S (gl S 0) (nN S)) 0 + 1)) 1 h)) t k) k) t)) k 6)))) k) k) (gl (oBrk (setG (setS (dys (setG (nts S (gl S 0) (nN S)) (rset (rset (gl (nts S (gl S 0) (nN S))) 0 (gl (nts S (gl S 0) (nN S)) 0 + 1)) 1 h)) t k) k (age (sS (dys (setG (nts S (gl S 0) (nN S)) (rset (rset (gl (nts S (gl S 0) (nN S))) 0 (gl (nts S (gl S 0) (nN S)) 0 + 1)) 1 h)) t k) k) t)) (rset (gl (setS (dys (setG (nts S (gl S 0) (nN S)) (rset (rset (gl (nts S (gl S 0) (nN S))) 0 (gl (nts S (gl S 0) (nN S)) 0 + 1)) 1 h)) t k) k (age (sS (dys (setG (nts S (gl S 0) (nN S)) (rset (rset (gl (nts S (gl S 0) (nN S))) 0 (gl (nts S (gl S 0) (nN S)) 0 + 1)) 1 h)) t k) k) t))) 2 (gl (setS (dys (setG (nts S (gl S 0) (nN S)) (rset (rset (gl (nts S (gl S 0) (nN S))) 0 (gl (nts S (gl S 0) (nN S)) 0 + 1)) 1 h)) t k) k (age (sS (dys (setG (nts S (gl S 0) (nN S)) (rset (rset (gl (nts S (gl S 0) (nN S))) 0 (gl (nts S (gl S 0) (nN S)) 0 + 1)) 1 h)) t k) k) t)) 2 + s_delay t (sS (setS (dys (setG (nts S (gl S 0) (nN S)) (rset (rset (gl (nts S (gl S 0) (nN S))) 0 (gl (nts S (gl S 0) (nN S)) 0 + 1)) 1 h)) t k) k (age (sS (dys (setG (nts S (gl S 0) (nN S)) (rset (rset (gl (nts S (gl S 0) (nN S))) 0 (gl (nts S (gl S 0) (nN S)) 0 + 1)) 1 h)) t k) k) t)) k 6)))) k) 1) then (oBrk (setG (setS (dys (setG (nts S (gl S 0) (nN S)) (rset (rset (gl (nts S (gl S 0) (nN S))) 0 (gl (nts S (gl S 0) (nN S)) 0 + 1)) 1 h)) t k) k (age (sS (dys (setG (nts S (gl S 0) (nN S)) (rset (rset (gl (nts S (gl S 0) (nN S))) 0 (gl (nts S (gl S 0) (nN S)) 0 + 1)) 1 h)) t k) k) t)) (rset (gl (setS (dys (setG (nts S (gl S 0) (nN S)) (rset (rset (gl (nts S (gl S 0) (nN S))) 0 (gl (nts S (gl S 0) (nN S)) 0 + 1)) 1 h)) t k) k (age (sS (dys (setG (nts S (gl S 0) (nN S)) (rset (rset (gl (nts S (gl S 0) (nN S))) 0 (gl (nts S (gl S 0) (nN S)) 0 + 1)) 1 h)) t k) k) t))) 2 (gl (setS (dys (setG (nts S (gl S 0) (nN S)) (rset (rset (gl (nts S (gl S 0) (nN S))) 0 (gl (nts S (gl S 0) (nN S)) 0 + 1)) 1 h)) t k) k (age (sS (dys (setG (nts S (gl S 0) (nN S)) (rset (rset (gl (nts S (gl S 0) (nN S))) 0 (gl (nts S (gl S 0) (nN S)) 0 + 1)) 1 h)) t k) k) t)) 2 + s_delay t (sS (setS (dys (setG (nts S (gl S 0) (nN S)) (rset (rset (gl (nts S (gl S 0) (nN S))) 0 (gl (nts S (gl S 0) (nN S)) 0 + 1)) 1 h)) t k) k (age (sS (dys (setG (nts S (gl S 0) (nN S)) (rset (rset (gl (nts S (gl S 0) (nN S))) 0 (gl (nts S (gl S 0) (nN S)) 0 + 1)) 1 h)) t k) k) t)) k 6)))) k) else setG (oBrk (setG (setS (dys (setG (nts S (gl S 0) (nN S)) (rset (rset (gl (nts S (gl S 0) (nN S))) 0 (gl (nts S (gl S 0) (nN S)) 0 + 1)) 1 h)) t k) k (age (sS (dys (setG (nts S (gl S 0) (nN S)) (rset (rset (gl (nts S (gl S 0) (nN S))) 0 (gl (nts S (gl S 0) (nN S)) 0 + 1)) 1 h)) t k) k) t)) (rset (gl (setS (dys (setG (nts S (gl S 0) (nN S)) (rset (rset (gl (nts S (gl S 0) (nN S))) 0 (gl (nts S (gl S 0) (nN S)) 0 + 1)) 1 h)) t k) k (age (sS (dys (setG (nts S (gl S 0) (nN S)) (rset (rset (gl (nts S (gl S 0) (nN S))) 0 (gl (nts S (gl S 0) (nN S)) 0 + 1)) 1 h)) t k) k) t))) 2 (gl (setS (dys (setG (nts S (gl S 0) (nN S)) (rset (rset (gl (nts S (gl S 0) (nN S))) 0 (gl (nts S (gl S 0) (nN S)) 0 + 1)) 1 h)) t k) k (age (sS (dys (setG (nts S (gl S 0) (nN S)) (rset (rset (gl (nts S (gl S 0) (nN S))) 0 (gl (nts S (gl S 0) (nN S)) 0 + 1)) 1 h)) t k) k) t)) 2 + s_delay t (sS (setS (dys (setG (nts S (gl S 0) (nN S)) (rset (rset (gl (nts S (gl S 0) (nN S))) 0 (gl (nts S (gl S 0) (nN S)) 0 + 1)) 1 h)) t k) k (age (sS (dys (setG (nts S (gl S 0) (nN S)) (rset (rset (gl (nts S (gl S 0) (nN S))) 0 (gl (nts S (gl S 0) (nN S)) 0 + 1)) 1 h)) t k) k) t)) k 6)))) k) (rset (gl (oBrk (setG (setS (dys (setG (nts S (gl S 0) (nN S)) (rset (rset (gl (nts S (gl S 0) (nN S))) 0 (gl (nts S (gl S 0) (nN S)) 0 + 1)) 1 h)) t k) k (age (sS (dys (setG (nts S (gl S 0) (nN S)) (rset (rset (gl (nts S (gl S 0) (nN S))) 0 (gl (nts S (gl S 0) (nN S)) 0 + 1)) 1 h)) t k) k) t)) (rset (gl (setS (dys (setG (nts S (gl S 0) (nN S)) (rset (rset (gl (nts S (gl S 0) (nN S))) 0 (gl (nts S (gl S 0) (nN S)) 0 + 1)) 1 h)) t k) k (age (sS (dys (setG (nts S (gl S 0) (nN S)) (rset (rset (gl (nts S (gl S 0) (nN S))) 0 (gl (nts S (gl S 0) (nN S)) 0 + 1)) 1 h)) t k) k) t))) 2 (gl (setS (dys (setG (nts S (gl S 0) (nN S)) (rset (rset (gl (nts S (gl S 0) (nN S))) 0 (gl (nts S (gl S 0) (nN S)) 0 + 1)) 1 h)) t k) k (age (sS (dys (setG (nts S (gl S 0) (nN S)) (rset (rset (gl (nts S (gl S 0) (nN S))) 0 (gl (nts S (gl S 0) (nN S)) 0 + 1)) 1 h)) t k) k) t)) 2 + s_delay t (sS (setS (dys (setG (nts S (gl S 0) (nN S)) (rset (rset (gl (nts S (gl S 0) (nN S))) 0 (gl (nts S (gl S 0) (nN S)) 0 + 1)) 1 h)) t k) k (age (sS (dys (setG (nts S (gl S 0) (nN S)) (rset (rset (gl (nts S (gl S 0) (nN S))) 0 (gl (nts S (gl S 0) (nN S)) 0 + 1)) 1 h)) t k) k) t)) k 6)))) k)) 3 (gl (oBrk (setG (setS (dys (setG (nts S (gl S 0) (nN S)) (rset (rset (gl (nts S (gl S 0) (nN S))) 0 (gl (nts S (gl S 0) (nN S)) 0 + 1)) 1 h)) t k) k (age (sS (dys (setG (nts S (gl S 0) (nN S)) (rset (rset (gl (nts S (gl S 0) (nN S))) 0 (gl (nts S (gl S 0) (nN S)) 0 + 1)) 1 h)) t k) k) t)) (rset (gl (setS (dys (setG (nts S (gl S 0) (nN S)) (rset (rset (gl (nts S (gl S 0) (nN S))) 0 (gl (nts S (gl S 0) (nN S)) 0 + 1)) 1 h)) t k) k (age (sS (dys (setG (nts S (gl S 0) (nN S)) (rset (rset (gl (nts S (gl S 0) (nN S))) 0 (gl (nts S (gl S 0) (nN S)) 0 + 1)) 1 h)) t k) k) t))) 2 (gl (setS (dys (setG (nts S (gl S 0) (nN S)) (rset (rset (gl (nts S (gl S 0) (nN S))) 0 (gl (nts S (gl S 0) (nN S)) 0 + 1)) 1 h)) t k) k (age (sS (dys (setG (nts S (gl S 0) (nN S)) (rset (rset (gl (nts S (gl S 0) (nN S))) 0 (gl (nts S (gl S 0) (nN S)) 0 + 1)) 1 h)) t k) k) t)) 2 + s_delay t (sS (setS (dys (setG (nts S (gl S 0) (nN S)) (rset (rset (gl (nts S (gl S 0) (nN S))) 0 (gl (nts S (gl S 0) (nN S)) 0 + 1)) 1 h)) t k) k (age (sS (dys (setG (nts S (gl S 0) (nN S)) (rset (rset (gl (nts S (gl S 0) (nN S))) 0 (gl (nts S (gl S 0) (nN S)) 0 + 1)) 1 h)) t k) k) t)) k 6)))) k) 3 + 1)) := rfl
    refine x_if_eq hG (pc := 86) 99 dX6_passDay_86 (by decide) (fun h86 => ?_) (fun h86 => ?_)
    · refine x_iinc hG (pc := 99) (nI (k + 1)) dX6_passDay_99 rfl (Nat.le_of_ble_eq_true rfl) rfl (nI_1' k) (by dsimp only [List.set]) ?_
      refine x_goto hG (pc := 102) 25 dX6_passDay_102 (by decide) ?_
      by_cases hq : sS (oBrk (setG (setS (dys (setG (nts S (gl S 0) (nN S)) (rset (rset (gl (nts S (gl S 0) (nN S))) 0 (gl (nts S (gl S 0) (nN S)) 0 + 1)) 1 h)) t k) k (age (sS (dys (setG (nts S (gl S 0) (nN S)) (rset (rset (gl (nts S (gl S 0) (nN S))) 0 (gl (nts S (gl S 0) (nN S)) 0 + 1)) 1 h)) t k) k) t)) (rset (gl (setS (dys (setG (nts S (gl S 0) (nN S)) (rset (rset (gl (nts S (gl S 0) (nN S))) 0 (gl (nts S (gl S 0) (nN S)) 0 + 1)) 1 h)) t k) k (age (sS (dys (setG (nts S (gl S 0) (nN S)) (rset (rset (gl (nts S (gl S 0) (nN S))) 0 (gl (nts S (gl S 0) (nN S)) 0 + 1)) 1 h)) t k) k) t))) 2 (gl (setS (dys (setG (nts S (gl S 0) (nN S)) (rset (rset (gl (nts S (gl S 0) (nN S))) 0 (gl (nts S (gl S 0) (nN S)) 0 + 1)) 1 h)) t k) k (age (sS (dys (setG (nts S (gl S 0) (nN S)) (rset (rset (gl (nts S (gl S 0) (nN S))) 0 (gl (nts S (gl S 0) (nN S)) 0 + 1)) 1 h)) t k) k) t)) 2 + s_delay t (sS (setS (dys (setG (nts S (gl S 0) (nN S)) (rset (rset (gl (nts S (gl S 0) (nN S))) 0 (gl (nts S (gl S 0) (nN S)) 0 + 1)) 1 h)) t k) k (age (sS (dys (setG (nts S (gl S 0) (nN S)) (rset (rset (gl (nts S (gl S 0) (nN S))) 0 (gl (nts S (gl S 0) (nN S)) 0 + 1)) 1 h)) t k) k) t)) k 6)))) k) k 6 ≤ sp7 (sS (oBrk (setG (setS (dys (setG (nts S (gl S 0) (nN S)) (rset (rset (gl (nts S (gl S 0) (nN S))) 0 (gl (nts S (gl S 0) (nN S)) 0 + 1)) 1 h)) t k) k (age (sS (dys (setG (nts S (gl S 0) (nN S)) (rset (rset (gl (nts S (gl S 0) (nN S))) 0 (gl (nts S (gl S 0) (nN S)) 0 + 1)) 1 h)) t k) k) t)) (rset (gl (setS (dys (setG (nts S (gl S 0) (nN S)) (rset (rset (gl (nts S (gl S 0) (nN S))) 0 (gl (nts S (gl S 0) (nN S)) 0 + 1)) 1 h)) t k) k (age (sS (dys (setG (nts S (gl S 0) (nN S)) (rset (rset (gl (nts S (gl S 0) (nN S))) 0 (gl (nts S (gl S 0) (nN S)) 0 + 1)) 1 h)) t k) k) t))) 2 (gl (setS (dys (setG (nts S (gl S 0) (nN S)) (rset (rset (gl (nts S (gl S 0) (nN S))) 0 (gl (nts S (gl S 0) (nN S)) 0 + 1)) 1 h)) t k) k (age (sS (dys (setG (nts S (gl S 0) (nN S)) (rset (rset (gl (nts S (gl S 0) (nN S))) 0 (gl (nts S (gl S 0) (nN S)) 0 + 1)) 1 h)) t k) k) t)) 2 + s_delay t (sS (setS (dys (setG (nts S (gl S 0) (nN S)) (rset (rset (gl (nts S (gl S 0) (nN S))) 0 (gl (nts S (gl S 0) (nN S)) 0 + 1)) 1 h)) t k) k (age (sS (dys (setG (nts S (gl S 0) (nN S)) (rset (rset (gl (nts S (gl S 0) (nN S))) 0 (gl (nts S (gl S 0) (nN S)) 0 + 1)) 1 h)) t k) k) t)) k 6)))) k) k) (gl (oBrk (setG (setS (dys (setG (nts S (gl S 0) (nN S)) (rset (rset (gl (nts S (gl S 0) (nN S))) 0 (gl (nts S (gl S 0) (nN S)) 0 + 1)) 1 h)) t k) k (age (sS (dys (setG (nts S (gl S 0) (nN S)) (rset (rset (gl (nts S (gl S 0) (nN S))) 0 (gl (nts S (gl S 0) (nN S)) 0 + 1)) 1 h)) t k) k) t)) (rset (gl (setS (dys (setG (nts S (gl S 0) (nN S)) (rset (rset (gl (nts S (gl S 0) (nN S))) 0 (gl (nts S (gl S 0) (nN S)) 0 + 1)) 1 h)) t k) k (age (sS (dys (setG (nts S (gl S 0) (nN S)) (rset (rset (gl (nts S (gl S 0) (nN S))) 0 (gl (nts S (gl S 0) (nN S)) 0 + 1)) 1 h)) t k) k) t))) 2 (gl (setS (dys (setG (nts S (gl S 0) (nN S)) (rset (rset (gl (nts S (gl S 0) (nN S))) 0 (gl (nts S (gl S 0) (nN S)) 0 + 1)) 1 h)) t k) k (age (sS (dys (setG (nts S (gl S 0) (nN S)) (rset (rset (gl (nts S (gl S 0) (nN S))) 0 (gl (nts S (gl S 0) (nN S)) 0 + 1)) 1 h)) t k) k) t)) 2 + s_delay t (sS (setS (dys (setG (nts S (gl S 0) (nN S)) (rset (rset (gl (nts S (gl S 0) (nN S))) 0 (gl (nts S (gl S 0) (nN S)) 0 + 1)) 1 h)) t k) k (age (sS (dys (setG (nts S (gl S 0) (nN S)) (rset (rset (gl (nts S (gl S 0) (nN S))) 0 (gl (nts S (gl S 0) (nN S)) 0 + 1)) 1 h)) t k) k) t)) k 6)))) k) 1)
      · rw [if_pos hq] at hx h86
        first
          | exact absurd rfl h86
          | (rw [← hx] at hR7; exact ih (k + 1) (by omega) (by omega) _ hR7 (((hF4.tr hF5).tr hF6).tr hF7))
      · rw [if_neg hq] at hx h86
        first
          | exact absurd h86 (by decide)
          | (rw [← hx] at hR8; exact ih (k + 1) (by omega) (by omega) _ hR8 ((((hF4.tr hF5).tr hF6).tr hF7).tr hF8))
    · refine x_aload_n hG (pc := 89) 0 dX6_passDay_89 rfl rfl ?_
      refine x_dup hG (pc := 90) dX6_passDay_90 rfl ?_
      refine x_getf hG (pc := 91) fl_X6_52 hR7.main rfl dX6_passDay_91 ?_
      refine x_iconst hG (pc := 94) 1 dX6_passDay_94 (by decide) ?_
      refine x_iadd hG (pc := 95) dX6_passDay_95 ?_
      refine x_putf hG (pc := 96) fl_X6_52 fw_8 ft_8_9 hR7.main (Nat.le_of_ble_eq_true rfl) rfl rfl (by dsimp only [List.set]) dX6_passDay_96 ?_
      refine x_gen (fun w8 e8 => ?_)
      obtain ⟨hR8, hF8⟩ := hR7.uG (f := rset (gl (oBrk (setG (setS (dys (setG (nts S (gl S 0) (nN S)) (rset (rset (gl (nts S (gl S 0) (nN S))) 0 (gl (nts S (gl S 0) (nN S)) 0 + 1)) 1 h)) t k) k (age (sS (dys (setG (nts S (gl S 0) (nN S)) (rset (rset (gl (nts S (gl S 0) (nN S))) 0 (gl (nts S (gl S 0) (nN S)) 0 + 1)) 1 h)) t k) k) t)) (rset (gl (setS (dys (setG (nts S (gl S 0) (nN S)) (rset (rset (gl (nts S (gl S 0) (nN S))) 0 (gl (nts S (gl S 0) (nN S)) 0 + 1)) 1 h)) t k) k (age (sS (dys (setG (nts S (gl S 0) (nN S)) (rset (rset (gl (nts S (gl S 0) (nN S))) 0 (gl (nts S (gl S 0) (nN S)) 0 + 1)) 1 h)) t k) k) t))) 2 (gl (setS (dys (setG (nts S (gl S 0) (nN S)) (rset (rset (gl (nts S (gl S 0) (nN S))) 0 (gl (nts S (gl S 0) (nN S)) 0 + 1)) 1 h)) t k) k (age (sS (dys (setG (nts S (gl S 0) (nN S)) (rset (rset (gl (nts S (gl S 0) (nN S))) 0 (gl (nts S (gl S 0) (nN S)) 0 + 1)) 1 h)) t k) k) t)) 2 + s_delay t (sS (setS (dys (setG (nts S (gl S 0) (nN S)) (rset (rset (gl (nts S (gl S 0) (nN S))) 0 (gl (nts S (gl S 0) (nN S)) 0 + 1)) 1 h)) t k) k (age (sS (dys (setG (nts S (gl S 0) (nN S)) (rset (rset (gl (nts S (gl S 0) (nN S))) 0 (gl (nts S (gl S 0) (nN S)) 0 + 1)) 1 h)) t k) k) t)) k 6)))) k)) 3 (gl (oBrk (setG (setS (dys (setG (nts S (gl S 0) (nN S)) (rset (rset (gl (nts S (gl S 0) (nN S))) 0 (gl (nts S (gl S 0) (nN S)) 0 + 1)) 1 h)) t k) k (age (sS (dys (setG (nts S (gl S 0) (nN S)) (rset (rset (gl (nts S (gl S 0) (nN S))) 0 (gl (nts S (gl S 0) (nN S)) 0 + 1)) 1 h)) t k) k) t)) (rset (gl (setS (dys (setG (nts S (gl S 0) (nN S)) (rset (rset (gl (nts S (gl S 0) (nN S))) 0 (gl (nts S (gl S 0) (nN S)) 0 + 1)) 1 h)) t k) k (age (sS (dys (setG (nts S (gl S 0) (nN S)) (rset (rset (gl (nts S (gl S 0) (nN S))) 0 (gl (nts S (gl S 0) (nN S)) 0 + 1)) 1 h)) t k) k) t))) 2 (gl (setS (dys (setG (nts S (gl S 0) (nN S)) (rset (rset (gl (nts S (gl S 0) (nN S))) 0 (gl (nts S (gl S 0) (nN S)) 0 + 1)) 1 h)) t k) k (age (sS (dys (setG (nts S (gl S 0) (nN S)) (rset (rset (gl (nts S (gl S 0) (nN S))) 0 (gl (nts S (gl S 0) (nN S)) 0 + 1)) 1 h)) t k) k) t)) 2 + s_delay t (sS (setS (dys (setG (nts S (gl S 0) (nN S)) (rset (rset (gl (nts S (gl S 0) (nN S))) 0 (gl (nts S (gl S 0) (nN S)) 0 + 1)) 1 h)) t k) k (age (sS (dys (setG (nts S (gl S 0) (nN S)) (rset (rset (gl (nts S (gl S 0) (nN S))) 0 (gl (nts S (gl S 0) (nN S)) 0 + 1)) 1 h)) t k) k) t)) k 6)))) k) 3 + 1)) e8
      refine x_iinc hG (pc := 99) (nI (k + 1)) dX6_passDay_99 rfl (Nat.le_of_ble_eq_true rfl) rfl (nI_1' k) (by dsimp only [List.set]) ?_
      refine x_goto hG (pc := 102) 25 dX6_passDay_102 (by decide) ?_
      by_cases hq : sS (oBrk (setG (setS (dys (setG (nts S (gl S 0) (nN S)) (rset (rset (gl (nts S (gl S 0) (nN S))) 0 (gl (nts S (gl S 0) (nN S)) 0 + 1)) 1 h)) t k) k (age (sS (dys (setG (nts S (gl S 0) (nN S)) (rset (rset (gl (nts S (gl S 0) (nN S))) 0 (gl (nts S (gl S 0) (nN S)) 0 + 1)) 1 h)) t k) k) t)) (rset (gl (setS (dys (setG (nts S (gl S 0) (nN S)) (rset (rset (gl (nts S (gl S 0) (nN S))) 0 (gl (nts S (gl S 0) (nN S)) 0 + 1)) 1 h)) t k) k (age (sS (dys (setG (nts S (gl S 0) (nN S)) (rset (rset (gl (nts S (gl S 0) (nN S))) 0 (gl (nts S (gl S 0) (nN S)) 0 + 1)) 1 h)) t k) k) t))) 2 (gl (setS (dys (setG (nts S (gl S 0) (nN S)) (rset (rset (gl (nts S (gl S 0) (nN S))) 0 (gl (nts S (gl S 0) (nN S)) 0 + 1)) 1 h)) t k) k (age (sS (dys (setG (nts S (gl S 0) (nN S)) (rset (rset (gl (nts S (gl S 0) (nN S))) 0 (gl (nts S (gl S 0) (nN S)) 0 + 1)) 1 h)) t k) k) t)) 2 + s_delay t (sS (setS (dys (setG (nts S (gl S 0) (nN S)) (rset (rset (gl (nts S (gl S 0) (nN S))) 0 (gl (nts S (gl S 0) (nN S)) 0 + 1)) 1 h)) t k) k (age (sS (dys (setG (nts S (gl S 0) (nN S)) (rset (rset (gl (nts S (gl S 0) (nN S))) 0 (gl (nts S (gl S 0) (nN S)) 0 + 1)) 1 h)) t k) k) t)) k 6)))) k) k 6 ≤ sp7 (sS (oBrk (setG (setS (dys (setG (nts S (gl S 0) (nN S)) (rset (rset (gl (nts S (gl S 0) (nN S))) 0 (gl (nts S (gl S 0) (nN S)) 0 + 1)) 1 h)) t k) k (age (sS (dys (setG (nts S (gl S 0) (nN S)) (rset (rset (gl (nts S (gl S 0) (nN S))) 0 (gl (nts S (gl S 0) (nN S)) 0 + 1)) 1 h)) t k) k) t)) (rset (gl (setS (dys (setG (nts S (gl S 0) (nN S)) (rset (rset (gl (nts S (gl S 0) (nN S))) 0 (gl (nts S (gl S 0) (nN S)) 0 + 1)) 1 h)) t k) k (age (sS (dys (setG (nts S (gl S 0) (nN S)) (rset (rset (gl (nts S (gl S 0) (nN S))) 0 (gl (nts S (gl S 0) (nN S)) 0 + 1)) 1 h)) t k) k) t))) 2 (gl (setS (dys (setG (nts S (gl S 0) (nN S)) (rset (rset (gl (nts S (gl S 0) (nN S))) 0 (gl (nts S (gl S 0) (nN S)) 0 + 1)) 1 h)) t k) k (age (sS (dys (setG (nts S (gl S 0) (nN S)) (rset (rset (gl (nts S (gl S 0) (nN S))) 0 (gl (nts S (gl S 0) (nN S)) 0 + 1)) 1 h)) t k) k) t)) 2 + s_delay t (sS (setS (dys (setG (nts S (gl S 0) (nN S)) (rset (rset (gl (nts S (gl S 0) (nN S))) 0 (gl (nts S (gl S 0) (nN S)) 0 + 1)) 1 h)) t k) k (age (sS (dys (setG (nts S (gl S 0) (nN S)) (rset (rset (gl (nts S (gl S 0) (nN S))) 0 (gl (nts S (gl S 0) (nN S)) 0 + 1)) 1 h)) t k) k) t)) k 6)))) k) k) (gl (oBrk (setG (setS (dys (setG (nts S (gl S 0) (nN S)) (rset (rset (gl (nts S (gl S 0) (nN S))) 0 (gl (nts S (gl S 0) (nN S)) 0 + 1)) 1 h)) t k) k (age (sS (dys (setG (nts S (gl S 0) (nN S)) (rset (rset (gl (nts S (gl S 0) (nN S))) 0 (gl (nts S (gl S 0) (nN S)) 0 + 1)) 1 h)) t k) k) t)) (rset (gl (setS (dys (setG (nts S (gl S 0) (nN S)) (rset (rset (gl (nts S (gl S 0) (nN S))) 0 (gl (nts S (gl S 0) (nN S)) 0 + 1)) 1 h)) t k) k (age (sS (dys (setG (nts S (gl S 0) (nN S)) (rset (rset (gl (nts S (gl S 0) (nN S))) 0 (gl (nts S (gl S 0) (nN S)) 0 + 1)) 1 h)) t k) k) t))) 2 (gl (setS (dys (setG (nts S (gl S 0) (nN S)) (rset (rset (gl (nts S (gl S 0) (nN S))) 0 (gl (nts S (gl S 0) (nN S)) 0 + 1)) 1 h)) t k) k (age (sS (dys (setG (nts S (gl S 0) (nN S)) (rset (rset (gl (nts S (gl S 0) (nN S))) 0 (gl (nts S (gl S 0) (nN S)) 0 + 1)) 1 h)) t k) k) t)) 2 + s_delay t (sS (setS (dys (setG (nts S (gl S 0) (nN S)) (rset (rset (gl (nts S (gl S 0) (nN S))) 0 (gl (nts S (gl S 0) (nN S)) 0 + 1)) 1 h)) t k) k (age (sS (dys (setG (nts S (gl S 0) (nN S)) (rset (rset (gl (nts S (gl S 0) (nN S))) 0 (gl (nts S (gl S 0) (nN S)) 0 + 1)) 1 h)) t k) k) t)) k 6)))) k) 1)
      · rw [if_pos hq] at hx h86
        first
          | exact absurd rfl h86
          | (rw [← hx] at hR7; exact ih (k + 1) (by omega) (by omega) _ hR7 (((hF4.tr hF5).tr hF6).tr hF7))
      · rw [if_neg hq] at hx h86
        first
          | exact absurd h86 (by decide)
          | (rw [← hx] at hR8; exact ih (k + 1) (by omega) (by omega) _ hR8 ((((hF4.tr hF5).tr hF6).tr hF7).tr hF8))
