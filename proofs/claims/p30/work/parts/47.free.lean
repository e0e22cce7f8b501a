/-! TrackNights: freeDay -/
def frN (S : St) : Nat := 1996 - (gl S 0).toNatClampNeg
def pFre (S : St) (t f o : Int32) (d : Nat) : Prop := ex01 (pOcc S t f o (gl S 0 + 5 + nI d)) (nN S) = 0
noncomputable def fre (S : St) (t f o : Int32) : Int32 := match fo (pFre S t f o) (frN S) with
  | none => -1
  | some d => gl S 0 + 5 + nI d
noncomputable def oFre (S : St) (t f o : Int32) : Oc := match c_str t f o with
  | 0 => (0, fre S t f o, S)
  | 1 => (1, 0, S)
  | _ => (2, 0, S)
theorem ex_01 {p : Nat → Prop} {n : Nat} : ex01 p n = 0 ∨ ex01 p n = 1 := by
  by_cases h : ∃ k, k < n ∧ p k
  · obtain ⟨k, hk, q⟩ := h
    exact Or.inr (ex_t hk q)
  · exact Or.inl (ex_f fun k hk q => h ⟨k, hk, q⟩)
theorem fr_d {S : St} {g : Nat} (hg : gl S 0 = nI g) (d : Nat) : gl S 0 + 5 + nI d = nI (g + 5 + d) := by
  rw [hg]
  show nI g + nI 5 + nI d = _
  rw [nI_add, nI_add]
set_option maxHeartbeats 400000 in
set_option maxRecDepth 100000 in
theorem c_X6_freeDay : CtrA yX6_freeDay cX6_freeDay 5 (some .int) (rmk 7 4 24 121) (fun Γ av w post xpost => ∃ (L : LayC) (S : St), ∃ t f o, av = [.ref (thC L), .int t, .int f, .int o] ∧ RepC Γ L S w ∧ Inv S ∧ Out Γ L w post xpost [xI, xA] (oFre S t f o)) := by
  refine ctr_of (by decide) ?_
  rintro g av w hG hO ⟨L, S, t, f, o, rfl, hR, hI, hk⟩
  refine ⟨Nat.le_of_ble_eq_true rfl, ?_⟩
  show X g w 0 0 0 [some (.ref (thC L)), some (.int t), some (.int f), some (.int o), none] []
  have hnM := hI.2.1.1
  have hnN := hI.2.1.2.1
  have hnE := hI.2.1.2.2
  refine x_aload_n hG (pc := 0) 0 dX6_freeDay_0 rfl rfl ?_
  refine x_iload_n hG (pc := 1) 1 dX6_freeDay_1 rfl rfl ?_
  refine x_iload_n hG (pc := 2) 2 dX6_freeDay_2 rfl rfl ?_
  refine x_iload_n hG (pc := 3) 3 dX6_freeDay_3 rfl rfl ?_
  refine x_callV hG hO (pc := 4) [_, _, _] c_X6_checkStretch lk_X6_99 (by first | assumption | exact hR.main) rfl rfl ⟨by decide, by decide⟩ (Nat.le_of_ble_eq_true rfl) (by rw [hG.mc]; exact Nat.le_of_ble_eq_true rfl) (by rw [hG.ms]; exact Nat.le_of_ble_eq_true rfl) dX6_freeDay_4 ?_
  refine ⟨_, t, f, o, rfl, fun h0 => ?_, fun h1 => hk.bad (k := 0) (v := 0) (S1 := S) (by simp only [oFre, h1]) rfl, fun h1 => hk.bad (k := 1) (v := 0) (S1 := S) (by simp only [oFre, h1]) rfl⟩
  refine x_aload_n hG (pc := 7) 0 dX6_freeDay_7 rfl rfl ?_
  refine x_getf hG (pc := 8) fl_X6_42 hR.main rfl dX6_freeDay_8 ?_
  refine x_iconst hG (pc := 11) 5 dX6_freeDay_11 (by decide) ?_
  refine x_iadd hG (pc := 12) dX6_freeDay_12 ?_
  show X g w _ _ 13 _ [.int (gl S 0 + 5)]
  refine x_istore hG (pc := 13) dX6_freeDay_13 (Nat.le_of_ble_eq_true rfl) rfl (by dsimp only [List.set]) ?_
  obtain ⟨g0, hg0, hg⟩ : ∃ g0, g0 < 2001 ∧ gl S 0 = nI g0 := vp_in_of (vp_in_iff.mpr ⟨hI.2.2.2.2.2.1.1, by have := hI.2.2.2.2.2.1.2; omega⟩) (by decide)
  have hfn : frN S = 1996 - g0 := by rw [frN, hg, nI_clamp (by omega)]
  have hst : gl S 0 + 5 = nI (g0 + 5 + 0) := by rw [hg]; exact nI_add _ _
  rw [hst]
  refine nat_down (P := fun d => (∀ j, j < d → ¬ pFre S t f o j) → X g w 1 6 15 [some (.ref (thC L)), some (.int t), some (.int f), some (.int o), some (.int (nI (g0 + 5 + d)))] []) (frN S) (fun d hi ih hN => ?_) 0 (Nat.zero_le _) (fun j h => absurd h (Nat.not_lt_zero _))
  refine x_iload hG (pc := 15) dX6_freeDay_15 rfl ?_
  refine x_sipush hG (pc := 17) 2000 dX6_freeDay_17 (by decide) ?_
  refine x_icmp_gt hG (pc := 20) 44 dX6_freeDay_20 (by decide) (fun h20 => ?_) (fun h20 => ?_)
  · have hd : d = frN S := by
      rcases Nat.lt_or_ge d (frN S) with q | q
      · exact absurd h20 (Int32.not_lt.mpr (nI_le (b := 2000) (by omega) (by decide)))
      · omega
    refine x_iconst hG (pc := 44) (-1) dX6_freeDay_44 (by decide) ?_
    refine x_ireturn hG (pc := 45) dX6_freeDay_45 rfl rfl (by rw [hG.mc]; exact Nat.le_of_ble_eq_true rfl) (by rw [hG.ms]; exact Nat.le_of_ble_eq_true rfl) ?_
    exact fin_i (show (-1 : Int32) = _ by rw [fre, fo_f (by rw [← hd]; exact hN)]) (hk.ok (v := fre S t f o) (by simp only [oFre, h0]) rfl hR FrM.rf)
  · have hd : d < frN S := by
      rcases Nat.lt_or_ge d (frN S) with q | q
      · exact q
      · exact absurd (nI_lt2 (i := 2000) (k := g0 + 5 + d) (by omega) (by omega)) h20
    refine x_aload_n hG (pc := 23) 0 dX6_freeDay_23 rfl rfl ?_
    refine x_iload_n hG (pc := 24) 1 dX6_freeDay_24 rfl rfl ?_
    refine x_iload_n hG (pc := 25) 2 dX6_freeDay_25 rfl rfl ?_
    refine x_iload_n hG (pc := 26) 3 dX6_freeDay_26 rfl rfl ?_
    refine x_iload hG (pc := 27) dX6_freeDay_27 rfl ?_
    refine x_callV hG hO (pc := 29) [_, _, _, _] c_X6_isFree lk_X6_170 (by first | assumption | exact hR.main) rfl rfl ⟨by decide, by decide⟩ (Nat.le_of_ble_eq_true rfl) (by rw [hG.mc]; exact Nat.le_of_ble_eq_true rfl) (by rw [hG.ms]; exact Nat.le_of_ble_eq_true rfl) dX6_freeDay_29 ?_
    refine ⟨L, S, t, f, o, _, rfl, hR, ?_⟩
    refine x_if_eq hG (pc := 32) 38 dX6_freeDay_32 (by decide) (fun h32 => ?_) (fun h32 => ?_)
    · have hp : ¬ pFre S t f o d := by
        intro q
        unfold pFre at q
        rw [fr_d hg] at q
        rw [q] at h32
        exact absurd h32 (by decide)
      refine x_iinc hG (pc := 38) (nI (g0 + 5 + (d + 1))) dX6_freeDay_38 rfl (Nat.le_of_ble_eq_true rfl) rfl (nI_1' (g0 + 5 + d)) (by dsimp only [List.set]) ?_
      refine x_goto hG (pc := 41) 15 dX6_freeDay_41 (by decide) ?_
      exact ih (d + 1) (by omega) (by omega) (all_s hN hp)
    · have hp : pFre S t f o d := by
        unfold pFre
        rw [fr_d hg]
        rcases ex_01 (p := pOcc S t f o (nI (g0 + 5 + d))) (n := nN S) with q | q
        · exact q
        · rw [q] at h32
          exact absurd (by decide) h32
      refine x_iload hG (pc := 35) dX6_freeDay_35 rfl ?_
      refine x_ireturn hG (pc := 37) dX6_freeDay_37 rfl rfl (by rw [hG.mc]; exact Nat.le_of_ble_eq_true rfl) (by rw [hG.ms]; exact Nat.le_of_ble_eq_true rfl) ?_
      exact fin_i (show nI (g0 + 5 + d) = _ by rw [fre, fo_t hd hN hp]; exact (fr_d hg d).symm) (hk.ok (v := fre S t f o) (by simp only [oFre, h0]) rfl hR FrM.rf)
set_option maxHeartbeats 400000 in
set_option maxRecDepth 100000 in
theorem v_X6_freeDay : CtrA yX6_freeDay cX6_freeDay 5 (some .int) (rmk 4 0 0 90) (fun Γ av w post xpost => ∃ (L : LayC) (S : St), ∃ t f o, av = [.ref (thC L), .int t, .int f, .int o] ∧ RepC Γ L S w ∧ Inv S ∧ c_str t f o = 0 ∧ post (some (.int (fre S t f o))) w) := by
  refine ctr_of (by decide) ?_
  rintro g av w hG hO ⟨L, S, t, f, o, rfl, hR, hI, h0, hk⟩
  refine ⟨Nat.le_of_ble_eq_true rfl, ?_⟩
  show X g w 0 0 0 [some (.ref (thC L)), some (.int t), some (.int f), some (.int o), none] []
  have hnM := hI.2.1.1
  have hnN := hI.2.1.2.1
  have hnE := hI.2.1.2.2
  refine x_aload_n hG (pc := 0) 0 dX6_freeDay_0 rfl rfl ?_
  refine x_iload_n hG (pc := 1) 1 dX6_freeDay_1 rfl rfl ?_
  refine x_iload_n hG (pc := 2) 2 dX6_freeDay_2 rfl rfl ?_
  refine x_iload_n hG (pc := 3) 3 dX6_freeDay_3 rfl rfl ?_
  refine x_callV hG hO (pc := 4) [_, _, _] v_X6_checkStretch lk_X6_99 (by first | assumption | exact hR.main) rfl rfl ⟨by decide, by decide⟩ (Nat.le_of_ble_eq_true rfl) (by rw [hG.mc]; exact Nat.le_of_ble_eq_true rfl) (by rw [hG.ms]; exact Nat.le_of_ble_eq_true rfl) dX6_freeDay_4 ?_
  refine ⟨_, t, f, o, rfl, h0, ?_⟩
  refine x_aload_n hG (pc := 7) 0 dX6_freeDay_7 rfl rfl ?_
  refine x_getf hG (pc := 8) fl_X6_42 hR.main rfl dX6_freeDay_8 ?_
  refine x_iconst hG (pc := 11) 5 dX6_freeDay_11 (by decide) ?_
  refine x_iadd hG (pc := 12) dX6_freeDay_12 ?_
  show X g w _ _ 13 _ [.int (gl S 0 + 5)]
  refine x_istore hG (pc := 13) dX6_freeDay_13 (Nat.le_of_ble_eq_true rfl) rfl (by dsimp only [List.set]) ?_
  obtain ⟨g0, hg0, hg⟩ : ∃ g0, g0 < 2001 ∧ gl S 0 = nI g0 := vp_in_of (vp_in_iff.mpr ⟨hI.2.2.2.2.2.1.1, by have := hI.2.2.2.2.2.1.2; omega⟩) (by decide)
  have hfn : frN S = 1996 - g0 := by rw [frN, hg, nI_clamp (by omega)]
  have hst : gl S 0 + 5 = nI (g0 + 5 + 0) := by rw [hg]; exact nI_add _ _
  rw [hst]
  refine nat_down (P := fun d => (∀ j, j < d → ¬ pFre S t f o j) → X g w 0 0 15 [some (.ref (thC L)), some (.int t), some (.int f), some (.int o), some (.int (nI (g0 + 5 + d)))] []) (frN S) (fun d hi ih hN => ?_) 0 (Nat.zero_le _) (fun j h => absurd h (Nat.not_lt_zero _))
  refine x_iload hG (pc := 15) dX6_freeDay_15 rfl ?_
  refine x_sipush hG (pc := 17) 2000 dX6_freeDay_17 (by decide) ?_
  refine x_icmp_gt hG (pc := 20) 44 dX6_freeDay_20 (by decide) (fun h20 => ?_) (fun h20 => ?_)
  · have hd : d = frN S := by
      rcases Nat.lt_or_ge d (frN S) with q | q
      · exact absurd h20 (Int32.not_lt.mpr (nI_le (b := 2000) (by omega) (by decide)))
      · omega
    refine x_iconst hG (pc := 44) (-1) dX6_freeDay_44 (by decide) ?_
    refine x_ireturn hG (pc := 45) dX6_freeDay_45 rfl rfl (by rw [hG.mc]; exact Nat.le_of_ble_eq_true rfl) (by rw [hG.ms]; exact Nat.le_of_ble_eq_true rfl) ?_
    exact fin_i (show (-1 : Int32) = _ by rw [fre, fo_f (by rw [← hd]; exact hN)]) hk
  · have hd : d < frN S := by
      rcases Nat.lt_or_ge d (frN S) with q | q
      · exact q
      · exact absurd (nI_lt2 (i := 2000) (k := g0 + 5 + d) (by omega) (by omega)) h20
    refine x_aload_n hG (pc := 23) 0 dX6_freeDay_23 rfl rfl ?_
    refine x_iload_n hG (pc := 24) 1 dX6_freeDay_24 rfl rfl ?_
    refine x_iload_n hG (pc := 25) 2 dX6_freeDay_25 rfl rfl ?_
    refine x_iload_n hG (pc := 26) 3 dX6_freeDay_26 rfl rfl ?_
    refine x_iload hG (pc := 27) dX6_freeDay_27 rfl ?_
    refine x_callV hG hO (pc := 29) [_, _, _, _] c_X6_isFree lk_X6_170 (by first | assumption | exact hR.main) rfl rfl ⟨by decide, by decide⟩ (Nat.le_of_ble_eq_true rfl) (by rw [hG.mc]; exact Nat.le_of_ble_eq_true rfl) (by rw [hG.ms]; exact Nat.le_of_ble_eq_true rfl) dX6_freeDay_29 ?_
    refine ⟨L, S, t, f, o, _, rfl, hR, ?_⟩
    refine x_if_eq hG (pc := 32) 38 dX6_freeDay_32 (by decide) (fun h32 => ?_) (fun h32 => ?_)
    · have hp : ¬ pFre S t f o d := by
        intro q
        unfold pFre at q
        rw [fr_d hg] at q
        rw [q] at h32
        exact absurd h32 (by decide)
      refine x_iinc hG (pc := 38) (nI (g0 + 5 + (d + 1))) dX6_freeDay_38 rfl (Nat.le_of_ble_eq_true rfl) rfl (nI_1' (g0 + 5 + d)) (by dsimp only [List.set]) ?_
      refine x_goto hG (pc := 41) 15 dX6_freeDay_41 (by decide) ?_
      exact ih (d + 1) (by omega) (by omega) (all_s hN hp)
    · have hp : pFre S t f o d := by
        unfold pFre
        rw [fr_d hg]
        rcases ex_01 (p := pOcc S t f o (nI (g0 + 5 + d))) (n := nN S) with q | q
        · exact q
        · rw [q] at h32
          exact absurd (by decide) h32
      refine x_iload hG (pc := 35) dX6_freeDay_35 rfl ?_
      refine x_ireturn hG (pc := 37) dX6_freeDay_37 rfl rfl (by rw [hG.mc]; exact Nat.le_of_ble_eq_true rfl) (by rw [hG.ms]; exact Nat.le_of_ble_eq_true rfl) ?_
      exact fin_i (show nI (g0 + 5 + d) = _ by rw [fre, fo_t hd hN hp]; exact (fr_d hg d).symm) hk
