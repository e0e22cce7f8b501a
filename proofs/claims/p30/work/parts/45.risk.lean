/-! TrackNights: firstRisk -/
theorem pR_t {f : Nat → Int32} {t h : Int32} {j : Nat} (e : (if agn f t j 6 ≤ sp7 (agn f t j) h then (0 : Int32) else 1) = 0) : ¬ pRis f t h j := by
  intro q
  rw [if_neg q] at e
  exact absurd e (by decide)
theorem pR_f {f : Nat → Int32} {t h : Int32} {j : Nat} (e : ¬ (if agn f t j 6 ≤ sp7 (agn f t j) h then (0 : Int32) else 1) = 0) : pRis f t h j := by
  intro q
  rw [if_pos q] at e
  exact e rfl
set_option maxHeartbeats 400000 in
set_option maxRecDepth 100000 in
theorem c_X6_firstRisk : CtrA yX6_firstRisk cX6_firstRisk 5 (some .int) (rmk 8 4 24 140) (fun Γ av w post xpost => ∃ (L : LayC) (S : St), ∃ i t, av = [.ref (thC L), .int i, .int t] ∧ RepC Γ L S w ∧ Inv S ∧ Out Γ L w post xpost [xI, xA] (oRis S i t)) := by
  refine ctr_of (by decide) ?_
  rintro g av w hG hO ⟨L, S, i, t, rfl, hR, hI, hk⟩
  refine ⟨Nat.le_of_ble_eq_true rfl, ?_⟩
  show X g w 0 0 0 [some (.ref (thC L)), some (.int i), some (.int t), none, none] []
  have hnM := hI.2.1.1
  have hnN := hI.2.1.2.1
  have hnE := hI.2.1.2.2
  refine x_aload_n hG (pc := 0) 0 dX6_firstRisk_0 rfl rfl ?_
  refine x_iload_n hG (pc := 1) 1 dX6_firstRisk_1 rfl rfl ?_
  refine x_callV hG hO (pc := 2) [_] c_X6_sectionAt lk_X6_64 (by first | assumption | exact hR.main) rfl rfl ⟨by decide, by decide⟩ (Nat.le_of_ble_eq_true rfl) (by rw [hG.mc]; exact Nat.le_of_ble_eq_true rfl) (by rw [hG.ms]; exact Nat.le_of_ble_eq_true rfl) dX6_firstRisk_2 ?_
  refine ⟨L, S, i, rfl, hR, fun k hkn hiq => ?_, fun hb => hk.bad (k := 0) (v := 0) (S1 := S) (by simp only [oRis, ixO_n (n := 20) hb (by decide)]) rfl⟩
  subst hiq
  refine x_astore_n hG (pc := 5) 3 dX6_firstRisk_5 rfl (Nat.le_of_ble_eq_true rfl) rfl (by dsimp only [List.set]) ?_
  refine x_aload_n hG (pc := 6) 0 dX6_firstRisk_6 rfl rfl ?_
  refine x_iload_n hG (pc := 7) 2 dX6_firstRisk_7 rfl rfl ?_
  refine x_callV hG hO (pc := 8) [_] c_X6_checkTrains lk_X6_82 (by first | assumption | exact hR.main) rfl rfl ⟨by decide, by decide⟩ (Nat.le_of_ble_eq_true rfl) (by rw [hG.mc]; exact Nat.le_of_ble_eq_true rfl) (by rw [hG.ms]; exact Nat.le_of_ble_eq_true rfl) dX6_firstRisk_8 ?_
  refine ⟨_, t, rfl, fun ht1 ht2 => ?_, fun hb => hk.bad (k := 1) (v := 0) (S1 := S) ?_ rfl⟩
  case refine_2 =>
    rcases hb with hb | hb
    · simp only [oRis, ixO_s (n := 20) hkn (by decide), hb, ↓reduceIte]
    · by_cases q : t < 0
      · simp only [oRis, ixO_s (n := 20) hkn (by decide), q, ↓reduceIte]
      · simp only [oRis, ixO_s (n := 20) hkn (by decide), q, hb, ↓reduceIte]
  refine x_aload_n hG (pc := 11) 0 dX6_firstRisk_11 rfl rfl ?_
  refine x_getf hG (pc := 12) fl_X6_38 hR.main rfl dX6_firstRisk_12 ?_
  refine x_aload_n hG (pc := 15) 3 dX6_firstRisk_15 rfl rfl ?_
  refine x_callV hG hO (pc := 16) [_] c_X3_become lk_X6_346 hR.tri rfl rfl ⟨by decide, by decide⟩ (Nat.le_of_ble_eq_true rfl) (by rw [hG.mc]; exact Nat.le_of_ble_eq_true rfl) (by rw [hG.ms]; exact Nat.le_of_ble_eq_true rfl) dX6_firstRisk_16 ?_
  refine ⟨_, _, _, _, _, _, _, _, _, _, _, _, _, _, _, _, _, _, _, _, _, _, rfl, hR.tri, hR.triv, hR.sec hkn, hR.val hkn, tg_ne (by omega), tg_ne (by omega), (hI.1 k hkn).2.2.1, ?_⟩
  refine x_gen (fun w0 e0 => ?_)
  obtain ⟨hR0, hF0⟩ := hR.uT (f := sS S k) e0
  refine x_iconst hG (pc := 19) 0 dX6_firstRisk_19 (by decide) ?_
  refine x_istore hG (pc := 20) dX6_firstRisk_20 (Nat.le_of_ble_eq_true rfl) rfl (by dsimp only [List.set]) ?_
  refine nat_down (P := fun d => (∀ j, j < d → ¬ pRis (sS S k) t (gl S 1) j) → ∀ w1, RepC (gΓ g) (L.1, L.2.1, L.2.2.1, agn (sS S k) t d) S w1 → FrM w w1 → X g w1 2 12 22 [some (.ref (thC L)), some (.int (nI k)), some (.int t), some (.ref (L.1 (3, k, 0))), some (.int (nI d))] []) 201 (fun d hi ih hN w1 hR1 hF1 => ?_) 0 (Nat.zero_le _) (fun j h => absurd h (Nat.not_lt_zero _)) w0 hR0 hF0
  refine x_iload hG (pc := 22) dX6_firstRisk_22 rfl ?_
  refine x_sipush hG (pc := 24) 200 dX6_firstRisk_24 (by decide) ?_
  refine x_icmp_gt hG (pc := 27) 61 dX6_firstRisk_27 (by decide) (fun h27 => ?_) (fun h27 => ?_)
  · have hd : d = 201 := by
      rcases Nat.lt_or_ge d 201 with q | q
      · exact absurd h27 (Int32.not_lt.mpr (nI_le (b := 200) (by omega) (by decide)))
      · omega
    refine x_iconst hG (pc := 61) (-1) dX6_firstRisk_61 (by decide) ?_
    refine x_ireturn hG (pc := 62) dX6_firstRisk_62 rfl rfl (by rw [hG.mc]; exact Nat.le_of_ble_eq_true rfl) (by rw [hG.ms]; exact Nat.le_of_ble_eq_true rfl) ?_
    exact fin_i (show (-1 : Int32) = _ by rw [fo_f (by rw [← hd]; exact hN)]; rfl) (hk.ok (v := oF (fo (pRis (sS S k) t (gl S 1)) 201)) (L1 := (L.1, L.2.1, L.2.2.1, agn (sS S k) t d)) (by simp only [oRis, ixO_s (n := 20) hkn (by decide), ht1, ht2, ↓reduceIte]) rfl hR1 hF1)
  · have hd : d < 201 := by
      rcases Nat.lt_or_ge d 201 with q | q
      · exact q
      · exact absurd (nI_lt2 (i := 200) (k := d) (by omega) (by omega)) h27
    refine x_aload_n hG (pc := 30) 0 dX6_firstRisk_30 rfl rfl ?_
    refine x_getf hG (pc := 31) fl_X6_38 hR1.main rfl dX6_firstRisk_31 ?_
    refine x_aload_n hG (pc := 34) 0 dX6_firstRisk_34 rfl rfl ?_
    refine x_getf hG (pc := 35) fl_X6_46 hR1.main rfl dX6_firstRisk_35 ?_
    refine x_callV hG hO (pc := 38) [_] c_X3_isRisk lk_X6_350 hR1.tri rfl rfl ⟨by decide, by decide⟩ (Nat.le_of_ble_eq_true rfl) (by rw [hG.mc]; exact Nat.le_of_ble_eq_true rfl) (by rw [hG.ms]; exact Nat.le_of_ble_eq_true rfl) dX6_firstRisk_38 ?_
    refine ⟨_, _, _, _, _, _, _, _, _, _, _, _, rfl, hR1.tri, hR1.triv, ?_⟩
    show X g w1 _ _ 41 _ [.int (if agn (sS S k) t d 6 ≤ sp7 (agn (sS S k) t d) (gl S 1) then 0 else 1)]
    refine x_if_eq hG (pc := 41) 47 dX6_firstRisk_41 (by decide) (fun h41 => ?_) (fun h41 => ?_)
    · have hp := pR_t h41
      refine x_aload_n hG (pc := 47) 0 dX6_firstRisk_47 rfl rfl ?_
      refine x_getf hG (pc := 48) fl_X6_38 hR1.main rfl dX6_firstRisk_48 ?_
      refine x_iload_n hG (pc := 51) 2 dX6_firstRisk_51 rfl rfl ?_
      refine x_callV hG hO (pc := 52) [_] c_X3_bearDay lk_X6_353 hR1.tri rfl rfl ⟨by decide, by decide⟩ (Nat.le_of_ble_eq_true rfl) (by rw [hG.mc]; exact Nat.le_of_ble_eq_true rfl) (by rw [hG.ms]; exact Nat.le_of_ble_eq_true rfl) dX6_firstRisk_52 ?_
      refine ⟨_, _, _, _, _, _, _, _, _, _, _, t, rfl, hR1.tri, hR1.triv, ?_⟩
      refine x_gen (fun w2 e2 => ?_)
      obtain ⟨hR2, hF2⟩ := hR1.uTv (f := agn (sS S k) t (d + 1)) e2 rfl rfl rfl rfl
      refine x_iinc hG (pc := 55) (nI (d + 1)) dX6_firstRisk_55 rfl (Nat.le_of_ble_eq_true rfl) rfl (nI_1' d) (by dsimp only [List.set]) ?_
      refine x_goto hG (pc := 58) 22 dX6_firstRisk_58 (by decide) ?_
      exact ih (d + 1) (by omega) (by omega) (all_s hN hp) _ hR2 (hF1.tr hF2)
    · have hp := pR_f h41
      refine x_iload hG (pc := 44) dX6_firstRisk_44 rfl ?_
      refine x_ireturn hG (pc := 46) dX6_firstRisk_46 rfl rfl (by rw [hG.mc]; exact Nat.le_of_ble_eq_true rfl) (by rw [hG.ms]; exact Nat.le_of_ble_eq_true rfl) ?_
      exact fin_i (show nI d = _ by rw [fo_t hd hN hp]; rfl) (hk.ok (v := oF (fo (pRis (sS S k) t (gl S 1)) 201)) (L1 := (L.1, L.2.1, L.2.2.1, agn (sS S k) t d)) (by simp only [oRis, ixO_s (n := 20) hkn (by decide), ht1, ht2, ↓reduceIte]) rfl hR1 hF1)
set_option maxHeartbeats 400000 in
set_option maxRecDepth 100000 in
theorem v_X6_firstRisk : CtrA yX6_firstRisk cX6_firstRisk 5 (some .int) (rmk 4 0 0 97) (fun Γ av w post xpost => ∃ (L : LayC) (S : St), ∃ k t, av = [.ref (thC L), .int (nI k), .int t] ∧ RepC Γ L S w ∧ Inv S ∧ k < 20 ∧ ¬ t < 0 ∧ t ≤ 40 ∧ (∀ f w1, RepC Γ (L.1, L.2.1, L.2.2.1, f) S w1 → FrM w w1 → post (some (.int (oF (fo (pRis (sS S k) t (gl S 1)) 201)))) w1)) := by
  refine ctr_of (by decide) ?_
  rintro g av w hG hO ⟨L, S, k, t, rfl, hR, hI, hkn, ht1, ht2, hk⟩
  refine ⟨Nat.le_of_ble_eq_true rfl, ?_⟩
  show X g w 0 0 0 [some (.ref (thC L)), some (.int (nI k)), some (.int t), none, none] []
  have hnM := hI.2.1.1
  have hnN := hI.2.1.2.1
  have hnE := hI.2.1.2.2
  refine x_aload_n hG (pc := 0) 0 dX6_firstRisk_0 rfl rfl ?_
  refine x_iload_n hG (pc := 1) 1 dX6_firstRisk_1 rfl rfl ?_
  refine x_callV hG hO (pc := 2) [_] v_X6_sectionAt lk_X6_64 (by first | assumption | exact hR.main) rfl rfl ⟨by decide, by decide⟩ (Nat.le_of_ble_eq_true rfl) (by rw [hG.mc]; exact Nat.le_of_ble_eq_true rfl) (by rw [hG.ms]; exact Nat.le_of_ble_eq_true rfl) dX6_firstRisk_2 ?_
  refine ⟨L, S, k, rfl, hR, hkn, ?_⟩
  refine x_astore_n hG (pc := 5) 3 dX6_firstRisk_5 rfl (Nat.le_of_ble_eq_true rfl) rfl (by dsimp only [List.set]) ?_
  refine x_aload_n hG (pc := 6) 0 dX6_firstRisk_6 rfl rfl ?_
  refine x_iload_n hG (pc := 7) 2 dX6_firstRisk_7 rfl rfl ?_
  refine x_callV hG hO (pc := 8) [_] v_X6_checkTrains lk_X6_82 (by first | assumption | exact hR.main) rfl rfl ⟨by decide, by decide⟩ (Nat.le_of_ble_eq_true rfl) (by rw [hG.mc]; exact Nat.le_of_ble_eq_true rfl) (by rw [hG.ms]; exact Nat.le_of_ble_eq_true rfl) dX6_firstRisk_8 ?_
  refine ⟨_, t, rfl, ht1, ht2, ?_⟩
  refine x_aload_n hG (pc := 11) 0 dX6_firstRisk_11 rfl rfl ?_
  refine x_getf hG (pc := 12) fl_X6_38 hR.main rfl dX6_firstRisk_12 ?_
  refine x_aload_n hG (pc := 15) 3 dX6_firstRisk_15 rfl rfl ?_
  refine x_callV hG hO (pc := 16) [_] c_X3_become lk_X6_346 hR.tri rfl rfl ⟨by decide, by decide⟩ (Nat.le_of_ble_eq_true rfl) (by rw [hG.mc]; exact Nat.le_of_ble_eq_true rfl) (by rw [hG.ms]; exact Nat.le_of_ble_eq_true rfl) dX6_firstRisk_16 ?_
  refine ⟨_, _, _, _, _, _, _, _, _, _, _, _, _, _, _, _, _, _, _, _, _, _, rfl, hR.tri, hR.triv, hR.sec hkn, hR.val hkn, tg_ne (by omega), tg_ne (by omega), (hI.1 k hkn).2.2.1, ?_⟩
  refine x_gen (fun w0 e0 => ?_)
  obtain ⟨hR0, hF0⟩ := hR.uT (f := sS S k) e0
  refine x_iconst hG (pc := 19) 0 dX6_firstRisk_19 (by decide) ?_
  refine x_istore hG (pc := 20) dX6_firstRisk_20 (Nat.le_of_ble_eq_true rfl) rfl (by dsimp only [List.set]) ?_
  refine nat_down (P := fun d => (∀ j, j < d → ¬ pRis (sS S k) t (gl S 1) j) → ∀ w1, RepC (gΓ g) (L.1, L.2.1, L.2.2.1, agn (sS S k) t d) S w1 → FrM w w1 → X g w1 0 0 22 [some (.ref (thC L)), some (.int (nI k)), some (.int t), some (.ref (L.1 (3, k, 0))), some (.int (nI d))] []) 201 (fun d hi ih hN w1 hR1 hF1 => ?_) 0 (Nat.zero_le _) (fun j h => absurd h (Nat.not_lt_zero _)) w0 hR0 hF0
  refine x_iload hG (pc := 22) dX6_firstRisk_22 rfl ?_
  refine x_sipush hG (pc := 24) 200 dX6_firstRisk_24 (by decide) ?_
  refine x_icmp_gt hG (pc := 27) 61 dX6_firstRisk_27 (by decide) (fun h27 => ?_) (fun h27 => ?_)
  · have hd : d = 201 := by
      rcases Nat.lt_or_ge d 201 with q | q
      · exact absurd h27 (Int32.not_lt.mpr (nI_le (b := 200) (by omega) (by decide)))
      · omega
    refine x_iconst hG (pc := 61) (-1) dX6_firstRisk_61 (by decide) ?_
    refine x_ireturn hG (pc := 62) dX6_firstRisk_62 rfl rfl (by rw [hG.mc]; exact Nat.le_of_ble_eq_true rfl) (by rw [hG.ms]; exact Nat.le_of_ble_eq_true rfl) ?_
    exact fin_i (show (-1 : Int32) = _ by rw [fo_f (by rw [← hd]; exact hN)]; rfl) (hk _ _ hR1 hF1)
  · have hd : d < 201 := by
      rcases Nat.lt_or_ge d 201 with q | q
      · exact q
      · exact absurd (nI_lt2 (i := 200) (k := d) (by omega) (by omega)) h27
    refine x_aload_n hG (pc := 30) 0 dX6_firstRisk_30 rfl rfl ?_
    refine x_getf hG (pc := 31) fl_X6_38 hR1.main rfl dX6_firstRisk_31 ?_
    refine x_aload_n hG (pc := 34) 0 dX6_firstRisk_34 rfl rfl ?_
    refine x_getf hG (pc := 35) fl_X6_46 hR1.main rfl dX6_firstRisk_35 ?_
    refine x_callV hG hO (pc := 38) [_] c_X3_isRisk lk_X6_350 hR1.tri rfl rfl ⟨by decide, by decide⟩ (Nat.le_of_ble_eq_true rfl) (by rw [hG.mc]; exact Nat.le_of_ble_eq_true rfl) (by rw [hG.ms]; exact Nat.le_of_ble_eq_true rfl) dX6_firstRisk_38 ?_
    refine ⟨_, _, _, _, _, _, _, _, _, _, _, _, rfl, hR1.tri, hR1.triv, ?_⟩
    show X g w1 _ _ 41 _ [.int (if agn (sS S k) t d 6 ≤ sp7 (agn (sS S k) t d) (gl S 1) then 0 else 1)]
    refine x_if_eq hG (pc := 41) 47 dX6_firstRisk_41 (by decide) (fun h41 => ?_) (fun h41 => ?_)
    · have hp := pR_t h41
      refine x_aload_n hG (pc := 47) 0 dX6_firstRisk_47 rfl rfl ?_
      refine x_getf hG (pc := 48) fl_X6_38 hR1.main rfl dX6_firstRisk_48 ?_
      refine x_iload_n hG (pc := 51) 2 dX6_firstRisk_51 rfl rfl ?_
      refine x_callV hG hO (pc := 52) [_] c_X3_bearDay lk_X6_353 hR1.tri rfl rfl ⟨by decide, by decide⟩ (Nat.le_of_ble_eq_true rfl) (by rw [hG.mc]; exact Nat.le_of_ble_eq_true rfl) (by rw [hG.ms]; exact Nat.le_of_ble_eq_true rfl) dX6_firstRisk_52 ?_
      refine ⟨_, _, _, _, _, _, _, _, _, _, _, t, rfl, hR1.tri, hR1.triv, ?_⟩
      refine x_gen (fun w2 e2 => ?_)
      obtain ⟨hR2, hF2⟩ := hR1.uTv (f := agn (sS S k) t (d + 1)) e2 rfl rfl rfl rfl
      refine x_iinc hG (pc := 55) (nI (d + 1)) dX6_firstRisk_55 rfl (Nat.le_of_ble_eq_true rfl) rfl (nI_1' d) (by dsimp only [List.set]) ?_
      refine x_goto hG (pc := 58) 22 dX6_firstRisk_58 (by decide) ?_
      exact ih (d + 1) (by omega) (by omega) (all_s hN hp) _ hR2 (hF1.tr hF2)
    · have hp := pR_f h41
      refine x_iload hG (pc := 44) dX6_firstRisk_44 rfl ?_
      refine x_ireturn hG (pc := 46) dX6_firstRisk_46 rfl rfl (by rw [hG.mc]; exact Nat.le_of_ble_eq_true rfl) (by rw [hG.ms]; exact Nat.le_of_ble_eq_true rfl) ?_
      exact fin_i (show nI d = _ by rw [fo_t hd hN hp]; rfl) (hk _ _ hR1 hF1)
