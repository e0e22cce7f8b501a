/-! TrackNights: bestWork -/
def bst (S : St) (i : Nat) (t : Int32) (d : Nat) : Nat → Int32 × Int32
  | 0 => (0, cBeh S i 0 t d)
  | m + 1 => if (bst S i t d m).2 ≤ cBeh S i (nI (m + 1)) t d then bst S i t d m else (nI (m + 1), cBeh S i (nI (m + 1)) t d)
theorem bst_t {S : St} {i : Nat} {t : Int32} {d m : Nat} (h : (bst S i t d m).2 ≤ cBeh S i (nI (m + 1)) t d) : bst S i t d (m + 1) = bst S i t d m := if_pos h
theorem bst_f {S : St} {i : Nat} {t : Int32} {d m : Nat} (h : ¬ (bst S i t d m).2 ≤ cBeh S i (nI (m + 1)) t d) : bst S i t d (m + 1) = (nI (m + 1), cBeh S i (nI (m + 1)) t d) := if_neg h
def oBst (S : St) (i t d : Int32) : Oc := match ixO i 20 with
  | none => (1, 0, S)
  | some k => if t < 0 then (2, 0, S) else if t ≤ 40 then (if d < 1 then (2, 0, S) else if d ≤ 200 then (0, (bst S k t d.toNatClampNeg 3).1, S) else (2, 0, S)) else (2, 0, S)
set_option maxHeartbeats 400000 in
set_option maxRecDepth 100000 in
theorem c_X6_bestWork : CtrA yX6_bestWork cX6_bestWork 9 (some .int) (rmk 8 4 24 140) (fun Γ av w post xpost => ∃ (L : LayC) (S : St), ∃ i t d, av = [.ref (thC L), .int i, .int t, .int d] ∧ RepC Γ L S w ∧ Inv S ∧ Out Γ L w post xpost [xI, xA] (oBst S i t d)) := by
  refine ctr_of (by decide) ?_
  rintro g av w hG hO ⟨L, S, i, t, d, rfl, hR, hI, hk⟩
  refine ⟨Nat.le_of_ble_eq_true rfl, ?_⟩
  show X g w 0 0 0 [some (.ref (thC L)), some (.int i), some (.int t), some (.int d), none, none, none, none, none] []
  have hnM := hI.2.1.1
  have hnN := hI.2.1.2.1
  have hnE := hI.2.1.2.2
  refine x_aload_n hG (pc := 0) 0 dX6_bestWork_0 rfl rfl ?_
  refine x_iload_n hG (pc := 1) 1 dX6_bestWork_1 rfl rfl ?_
  refine x_callV hG hO (pc := 2) [_] c_X6_sectionAt lk_X6_64 (by first | assumption | exact hR.main) rfl rfl ⟨by decide, by decide⟩ (Nat.le_of_ble_eq_true rfl) (by rw [hG.mc]; exact Nat.le_of_ble_eq_true rfl) (by rw [hG.ms]; exact Nat.le_of_ble_eq_true rfl) dX6_bestWork_2 ?_
  refine ⟨L, S, i, rfl, hR, fun k hkn hiq => ?_, fun hb => hk.bad (k := 0) (v := 0) (S1 := S) (by simp only [oBst, ixO_n (n := 20) hb (by decide)]) rfl⟩
  subst hiq
  refine x_astore hG (pc := 5) dX6_bestWork_5 (Nat.le_of_ble_eq_true rfl) rfl (by dsimp only [List.set]) ?_
  refine x_aload_n hG (pc := 7) 0 dX6_bestWork_7 rfl rfl ?_
  refine x_iload_n hG (pc := 8) 2 dX6_bestWork_8 rfl rfl ?_
  refine x_callV hG hO (pc := 9) [_] c_X6_checkTrains lk_X6_82 (by first | assumption | exact hR.main) rfl rfl ⟨by decide, by decide⟩ (Nat.le_of_ble_eq_true rfl) (by rw [hG.mc]; exact Nat.le_of_ble_eq_true rfl) (by rw [hG.ms]; exact Nat.le_of_ble_eq_true rfl) dX6_bestWork_9 ?_
  refine ⟨_, t, rfl, fun ht1 ht2 => ?_, fun hb => hk.bad (k := 1) (v := 0) (S1 := S) ?_ rfl⟩
  case refine_2 =>
    rcases hb with hb | hb
    · simp only [oBst, ixO_s (n := 20) hkn (by decide), hb, ↓reduceIte]
    · by_cases q : t < 0
      · simp only [oBst, ixO_s (n := 20) hkn (by decide), q, ↓reduceIte]
      · simp only [oBst, ixO_s (n := 20) hkn (by decide), q, hb, ↓reduceIte]
  refine x_iload_n hG (pc := 12) 3 dX6_bestWork_12 rfl rfl ?_
  refine x_iconst hG (pc := 13) 1 dX6_bestWork_13 (by decide) ?_
  refine x_icmp_lt hG (pc := 14) 24 dX6_bestWork_14 (by decide) (fun h14 => ?_) (fun h14 => ?_)
  · refine x_throwW hG hO (pc := 24) _ _ lt_356 dX6_bestWork_24 dX6_bestWork_27 dX6_bestWork_28 dX6_bestWork_31 dX6_bestWork_34 (by decide) (Nat.le_of_ble_eq_true rfl) (by rw [hG.mc]; exact Nat.le_of_ble_eq_true rfl) (by rw [hG.ms]; exact Nat.le_of_ble_eq_true rfl) ?_
    exact hk.bad (k := 1) (v := 0) (S1 := S) (by simp only [oBst, ixO_s (n := 20) hkn (by decide), ht1, ht2, h14, ↓reduceIte]) rfl
  · refine x_iload_n hG (pc := 17) 3 dX6_bestWork_17 rfl rfl ?_
    refine x_sipush hG (pc := 18) 200 dX6_bestWork_18 (by decide) ?_
    refine x_icmp_le hG (pc := 21) 35 dX6_bestWork_21 (by decide) (fun h21 => ?_) (fun h21 => ?_)
    · obtain ⟨dn, hdn, rfl⟩ := ix_le (n := 200) h14 h21 (by decide)
      refine x_iconst hG (pc := 35) 0 dX6_bestWork_35 (by decide) ?_
      refine x_istore hG (pc := 36) dX6_bestWork_36 (Nat.le_of_ble_eq_true rfl) rfl (by dsimp only [List.set]) ?_
      refine x_aload_n hG (pc := 38) 0 dX6_bestWork_38 rfl rfl ?_
      refine x_aload hG (pc := 39) dX6_bestWork_39 rfl ?_
      refine x_iconst hG (pc := 41) 0 dX6_bestWork_41 (by decide) ?_
      refine x_iload_n hG (pc := 42) 2 dX6_bestWork_42 rfl rfl ?_
      refine x_iload_n hG (pc := 43) 3 dX6_bestWork_43 rfl rfl ?_
      refine x_callV hG hO (pc := 44) [_, _, _, _] c_X6_costBehind lk_X6_358 (by first | assumption | exact hR.main) rfl rfl ⟨by decide, by decide⟩ (Nat.le_of_ble_eq_true rfl) (by rw [hG.mc]; exact Nat.le_of_ble_eq_true rfl) (by rw [hG.ms]; exact Nat.le_of_ble_eq_true rfl) dX6_bestWork_44 ?_
      refine ⟨L, S, k, 0, t, dn, rfl, hR, hkn, hdn, (hI.1 k hkn).2.2.1, fun f0 w0 hR0 hF0 => ?_⟩
      refine x_istore hG (pc := 47) dX6_bestWork_47 (Nat.le_of_ble_eq_true rfl) rfl (by dsimp only [List.set]) ?_
      refine x_iconst hG (pc := 49) 1 dX6_bestWork_49 (by decide) ?_
      refine x_istore hG (pc := 50) dX6_bestWork_50 (Nat.le_of_ble_eq_true rfl) rfl (by dsimp only [List.set]) ?_
      refine nat_down (P := fun m => ∀ f w1, RepC (gΓ g) (L.1, L.2.1, L.2.2.1, f) S w1 → FrM w w1 → ∀ z : Option Value, X g w1 2 12 52 [some (.ref (thC L)), some (.int (nI k)), some (.int t), some (.int (nI dn)), some (.ref (L.1 (3, k, 0))), some (.int (bst S k t dn m).1), some (.int (bst S k t dn m).2), some (.int (nI (m + 1))), z] []) 3 (fun m hi ih f w1 hR1 hF1 z => ?_) 0 (Nat.zero_le _) f0 w0 hR0 hF0 none
      refine x_iload hG (pc := 52) dX6_bestWork_52 rfl ?_
      refine x_iconst hG (pc := 54) 3 dX6_bestWork_54 (by decide) ?_
      refine x_icmp_gt hG (pc := 55) 91 dX6_bestWork_55 (by decide) (fun h55 => ?_) (fun h55 => ?_)
      · have hm : m = 3 := by
          rcases Nat.lt_or_ge m 3 with q | q
          · exact absurd h55 (Int32.not_lt.mpr (nI_le (b := 3) (by omega) (by decide)))
          · omega
        refine x_iload hG (pc := 91) dX6_bestWork_91 rfl ?_
        refine x_ireturn hG (pc := 93) dX6_bestWork_93 rfl rfl (by rw [hG.mc]; exact Nat.le_of_ble_eq_true rfl) (by rw [hG.ms]; exact Nat.le_of_ble_eq_true rfl) ?_
        subst hm
        exact hk.ok (L1 := (L.1, L.2.1, L.2.2.1, f)) (by simp only [oBst, ixO_s (n := 20) hkn (by decide), ht1, ht2, h14, h21, ↓reduceIte, nI_clamp (show dn < 2 ^ 31 by omega)]) rfl hR1 hF1
      · have hm : m < 3 := by
          rcases Nat.lt_or_ge m 3 with q | q
          · exact q
          · exact absurd (nI_lt2 (i := 3) (k := m + 1) (by omega) (by omega)) h55
        refine x_aload_n hG (pc := 58) 0 dX6_bestWork_58 rfl rfl ?_
        refine x_aload hG (pc := 59) dX6_bestWork_59 rfl ?_
        refine x_iload hG (pc := 61) dX6_bestWork_61 rfl ?_
        refine x_iload_n hG (pc := 63) 2 dX6_bestWork_63 rfl rfl ?_
        refine x_iload_n hG (pc := 64) 3 dX6_bestWork_64 rfl rfl ?_
        refine x_callV hG hO (pc := 65) [_, _, _, _] c_X6_costBehind lk_X6_358 hR1.main rfl rfl ⟨by decide, by decide⟩ (Nat.le_of_ble_eq_true rfl) (by rw [hG.mc]; exact Nat.le_of_ble_eq_true rfl) (by rw [hG.ms]; exact Nat.le_of_ble_eq_true rfl) dX6_bestWork_65 ?_
        refine ⟨(L.1, L.2.1, L.2.2.1, f), S, k, nI (m + 1), t, dn, rfl, hR1, hkn, hdn, (hI.1 k hkn).2.2.1, fun f2 w2 hR2 hF2 => ?_⟩
        refine x_istore hG (pc := 68) dX6_bestWork_68 (Nat.le_of_ble_eq_true rfl) rfl (by dsimp only [List.set]) ?_
        refine x_iload hG (pc := 70) dX6_bestWork_70 rfl ?_
        refine x_iload hG (pc := 72) dX6_bestWork_72 rfl ?_
        refine x_icmp_ge hG (pc := 74) 85 dX6_bestWork_74 (by decide) (fun h74 => ?_) (fun h74 => ?_)
        · have e := bst_t h74
          refine x_iinc hG (pc := 85) (nI (m + 1 + 1)) dX6_bestWork_85 rfl (Nat.le_of_ble_eq_true rfl) rfl (nI_1' (m + 1)) (by dsimp only [List.set]) ?_
          refine x_goto hG (pc := 88) 52 dX6_bestWork_88 (by decide) ?_
          have hh := ih (m + 1) (by omega) (by omega) f2 w2 hR2 (hF1.tr hF2)
          rw [e] at hh
          exact hh _
        · have e := bst_f h74
          refine x_iload hG (pc := 77) dX6_bestWork_77 rfl ?_
          refine x_istore hG (pc := 79) dX6_bestWork_79 (Nat.le_of_ble_eq_true rfl) rfl (by dsimp only [List.set]) ?_
          refine x_iload hG (pc := 81) dX6_bestWork_81 rfl ?_
          refine x_istore hG (pc := 83) dX6_bestWork_83 (Nat.le_of_ble_eq_true rfl) rfl (by dsimp only [List.set]) ?_
          refine x_iinc hG (pc := 85) (nI (m + 1 + 1)) dX6_bestWork_85 rfl (Nat.le_of_ble_eq_true rfl) rfl (nI_1' (m + 1)) (by dsimp only [List.set]) ?_
          refine x_goto hG (pc := 88) 52 dX6_bestWork_88 (by decide) ?_
          have hh := ih (m + 1) (by omega) (by omega) f2 w2 hR2 (hF1.tr hF2)
          rw [e] at hh
          exact hh _
    · refine x_throwW hG hO (pc := 24) _ _ lt_356 dX6_bestWork_24 dX6_bestWork_27 dX6_bestWork_28 dX6_bestWork_31 dX6_bestWork_34 (by decide) (Nat.le_of_ble_eq_true rfl) (by rw [hG.mc]; exact Nat.le_of_ble_eq_true rfl) (by rw [hG.ms]; exact Nat.le_of_ble_eq_true rfl) ?_
      exact hk.bad (k := 1) (v := 0) (S1 := S) (by simp only [oBst, ixO_s (n := 20) hkn (by decide), ht1, ht2, h14, h21, ↓reduceIte]) rfl
set_option maxHeartbeats 400000 in
set_option maxRecDepth 100000 in
theorem v_X6_bestWork : CtrA yX6_bestWork cX6_bestWork 9 (some .int) (rmk 4 0 0 102) (fun Γ av w post xpost => ∃ (L : LayC) (S : St), ∃ k t dn, av = [.ref (thC L), .int (nI k), .int t, .int (nI dn)] ∧ RepC Γ L S w ∧ Inv S ∧ k < 20 ∧ ¬ t < 0 ∧ t ≤ 40 ∧ 1 ≤ dn ∧ dn ≤ 200 ∧ (∀ f w1, RepC Γ (L.1, L.2.1, L.2.2.1, f) S w1 → FrM w w1 → post (some (.int ((bst S k t dn 3).1))) w1)) := by
  refine ctr_of (by decide) ?_
  rintro g av w hG hO ⟨L, S, k, t, dn, rfl, hR, hI, hkn, ht1, ht2, hd1, hdn, hk⟩
  refine ⟨Nat.le_of_ble_eq_true rfl, ?_⟩
  show X g w 0 0 0 [some (.ref (thC L)), some (.int (nI k)), some (.int t), some (.int (nI dn)), none, none, none, none, none] []
  have hnM := hI.2.1.1
  have hnN := hI.2.1.2.1
  have hnE := hI.2.1.2.2
  refine x_aload_n hG (pc := 0) 0 dX6_bestWork_0 rfl rfl ?_
  refine x_iload_n hG (pc := 1) 1 dX6_bestWork_1 rfl rfl ?_
  refine x_callV hG hO (pc := 2) [_] v_X6_sectionAt lk_X6_64 (by first | assumption | exact hR.main) rfl rfl ⟨by decide, by decide⟩ (Nat.le_of_ble_eq_true rfl) (by rw [hG.mc]; exact Nat.le_of_ble_eq_true rfl) (by rw [hG.ms]; exact Nat.le_of_ble_eq_true rfl) dX6_bestWork_2 ?_
  refine ⟨L, S, k, rfl, hR, hkn, ?_⟩
  refine x_astore hG (pc := 5) dX6_bestWork_5 (Nat.le_of_ble_eq_true rfl) rfl (by dsimp only [List.set]) ?_
  refine x_aload_n hG (pc := 7) 0 dX6_bestWork_7 rfl rfl ?_
  refine x_iload_n hG (pc := 8) 2 dX6_bestWork_8 rfl rfl ?_
  refine x_callV hG hO (pc := 9) [_] v_X6_checkTrains lk_X6_82 (by first | assumption | exact hR.main) rfl rfl ⟨by decide, by decide⟩ (Nat.le_of_ble_eq_true rfl) (by rw [hG.mc]; exact Nat.le_of_ble_eq_true rfl) (by rw [hG.ms]; exact Nat.le_of_ble_eq_true rfl) dX6_bestWork_9 ?_
  refine ⟨_, t, rfl, ht1, ht2, ?_⟩
  refine x_iload_n hG (pc := 12) 3 dX6_bestWork_12 rfl rfl ?_
  refine x_iconst hG (pc := 13) 1 dX6_bestWork_13 (by decide) ?_
  refine x_icmp_lt hG (pc := 14) 24 dX6_bestWork_14 (by decide) (fun h14 => ?_) (fun h14 => ?_)
  · exact absurd (show nI dn < nI 1 from h14) (fun q => absurd q (Int32.not_lt.mpr (nI_le (a := 1) hd1 (by omega))))
  · refine x_iload_n hG (pc := 17) 3 dX6_bestWork_17 rfl rfl ?_
    refine x_sipush hG (pc := 18) 200 dX6_bestWork_18 (by decide) ?_
    refine x_icmp_le hG (pc := 21) 35 dX6_bestWork_21 (by decide) (fun h21 => ?_) (fun h21 => ?_)
    · 
      refine x_iconst hG (pc := 35) 0 dX6_bestWork_35 (by decide) ?_
      refine x_istore hG (pc := 36) dX6_bestWork_36 (Nat.le_of_ble_eq_true rfl) rfl (by dsimp only [List.set]) ?_
      refine x_aload_n hG (pc := 38) 0 dX6_bestWork_38 rfl rfl ?_
      refine x_aload hG (pc := 39) dX6_bestWork_39 rfl ?_
      refine x_iconst hG (pc := 41) 0 dX6_bestWork_41 (by decide) ?_
      refine x_iload_n hG (pc := 42) 2 dX6_bestWork_42 rfl rfl ?_
      refine x_iload_n hG (pc := 43) 3 dX6_bestWork_43 rfl rfl ?_
      refine x_callV hG hO (pc := 44) [_, _, _, _] c_X6_costBehind lk_X6_358 (by first | assumption | exact hR.main) rfl rfl ⟨by decide, by decide⟩ (Nat.le_of_ble_eq_true rfl) (by rw [hG.mc]; exact Nat.le_of_ble_eq_true rfl) (by rw [hG.ms]; exact Nat.le_of_ble_eq_true rfl) dX6_bestWork_44 ?_
      refine ⟨L, S, k, 0, t, dn, rfl, hR, hkn, hdn, (hI.1 k hkn).2.2.1, fun f0 w0 hR0 hF0 => ?_⟩
      refine x_istore hG (pc := 47) dX6_bestWork_47 (Nat.le_of_ble_eq_true rfl) rfl (by dsimp only [List.set]) ?_
      refine x_iconst hG (pc := 49) 1 dX6_bestWork_49 (by decide) ?_
      refine x_istore hG (pc := 50) dX6_bestWork_50 (Nat.le_of_ble_eq_true rfl) rfl (by dsimp only [List.set]) ?_
      refine nat_down (P := fun m => ∀ f w1, RepC (gΓ g) (L.1, L.2.1, L.2.2.1, f) S w1 → FrM w w1 → ∀ z : Option Value, X g w1 0 0 52 [some (.ref (thC L)), some (.int (nI k)), some (.int t), some (.int (nI dn)), some (.ref (L.1 (3, k, 0))), some (.int (bst S k t dn m).1), some (.int (bst S k t dn m).2), some (.int (nI (m + 1))), z] []) 3 (fun m hi ih f w1 hR1 hF1 z => ?_) 0 (Nat.zero_le _) f0 w0 hR0 hF0 none
      refine x_iload hG (pc := 52) dX6_bestWork_52 rfl ?_
      refine x_iconst hG (pc := 54) 3 dX6_bestWork_54 (by decide) ?_
      refine x_icmp_gt hG (pc := 55) 91 dX6_bestWork_55 (by decide) (fun h55 => ?_) (fun h55 => ?_)
      · have hm : m = 3 := by
          rcases Nat.lt_or_ge m 3 with q | q
          · exact absurd h55 (Int32.not_lt.mpr (nI_le (b := 3) (by omega) (by decide)))
          · omega
        refine x_iload hG (pc := 91) dX6_bestWork_91 rfl ?_
        refine x_ireturn hG (pc := 93) dX6_bestWork_93 rfl rfl (by rw [hG.mc]; exact Nat.le_of_ble_eq_true rfl) (by rw [hG.ms]; exact Nat.le_of_ble_eq_true rfl) ?_
        subst hm
        exact hk _ _ hR1 hF1
      · have hm : m < 3 := by
          rcases Nat.lt_or_ge m 3 with q | q
          · exact q
          · exact absurd (nI_lt2 (i := 3) (k := m + 1) (by omega) (by omega)) h55
        refine x_aload_n hG (pc := 58) 0 dX6_bestWork_58 rfl rfl ?_
        refine x_aload hG (pc := 59) dX6_bestWork_59 rfl ?_
        refine x_iload hG (pc := 61) dX6_bestWork_61 rfl ?_
        refine x_iload_n hG (pc := 63) 2 dX6_bestWork_63 rfl rfl ?_
        refine x_iload_n hG (pc := 64) 3 dX6_bestWork_64 rfl rfl ?_
        refine x_callV hG hO (pc := 65) [_, _, _, _] c_X6_costBehind lk_X6_358 hR1.main rfl rfl ⟨by decide, by decide⟩ (Nat.le_of_ble_eq_true rfl) (by rw [hG.mc]; exact Nat.le_of_ble_eq_true rfl) (by rw [hG.ms]; exact Nat.le_of_ble_eq_true rfl) dX6_bestWork_65 ?_
        refine ⟨(L.1, L.2.1, L.2.2.1, f), S, k, nI (m + 1), t, dn, rfl, hR1, hkn, hdn, (hI.1 k hkn).2.2.1, fun f2 w2 hR2 hF2 => ?_⟩
        refine x_istore hG (pc := 68) dX6_bestWork_68 (Nat.le_of_ble_eq_true rfl) rfl (by dsimp only [List.set]) ?_
        refine x_iload hG (pc := 70) dX6_bestWork_70 rfl ?_
        refine x_iload hG (pc := 72) dX6_bestWork_72 rfl ?_
        refine x_icmp_ge hG (pc := 74) 85 dX6_bestWork_74 (by decide) (fun h74 => ?_) (fun h74 => ?_)
        · have e := bst_t h74
          refine x_iinc hG (pc := 85) (nI (m + 1 + 1)) dX6_bestWork_85 rfl (Nat.le_of_ble_eq_true rfl) rfl (nI_1' (m + 1)) (by dsimp only [List.set]) ?_
          refine x_goto hG (pc := 88) 52 dX6_bestWork_88 (by decide) ?_
          have hh := ih (m + 1) (by omega) (by omega) f2 w2 hR2 (hF1.tr hF2)
          rw [e] at hh
          exact hh _
        · have e := bst_f h74
          refine x_iload hG (pc := 77) dX6_bestWork_77 rfl ?_
          refine x_istore hG (pc := 79) dX6_bestWork_79 (Nat.le_of_ble_eq_true rfl) rfl (by dsimp only [List.set]) ?_
          refine x_iload hG (pc := 81) dX6_bestWork_81 rfl ?_
          refine x_istore hG (pc := 83) dX6_bestWork_83 (Nat.le_of_ble_eq_true rfl) rfl (by dsimp only [List.set]) ?_
          refine x_iinc hG (pc := 85) (nI (m + 1 + 1)) dX6_bestWork_85 rfl (Nat.le_of_ble_eq_true rfl) rfl (nI_1' (m + 1)) (by dsimp only [List.set]) ?_
          refine x_goto hG (pc := 88) 52 dX6_bestWork_88 (by decide) ?_
          have hh := ih (m + 1) (by omega) (by omega) f2 w2 hR2 (hF1.tr hF2)
          rw [e] at hh
          exact hh _
    · exact absurd (show nI dn ≤ nI 200 from nI_le hdn (by decide)) h21
