/-! TrackNights: what the calls look at first -/
abbrev xI : String := "java/lang/IndexOutOfBoundsException"
abbrev xA : String := "java/lang/IllegalArgumentException"
abbrev xS : String := "java/lang/IllegalStateException"
theorem ix_lt {x M : Int32} {n : Nat} (hM : M.toInt = n) (hn : n < 2 ^ 31) (h0 : ¬ x < 0) (h1 : x < M) : ∃ k, k < n ∧ x = nI k := vp_in_of (vp_in_lt hM h0 h1) hn
theorem nI_nn {k : Nat} (h : k < 2 ^ 31) : ¬ nI k < 0 := by
  intro q
  have h1 : (nI k).toInt < (0 : Int32).toInt := Int32.lt_iff_toInt_lt.mp q
  rw [nI_toInt h] at h1
  simp at h1
  omega
theorem nI_lt2 {i k : Nat} (h : i < k) (h2 : k < 2 ^ 31) : nI i < nI k := by
  refine Int32.lt_iff_toInt_lt.mpr ?_
  rw [nI_toInt (by omega), nI_toInt h2]
  omega
/-- what the model holds stays -/
def FrM (w w1 : Wd) : Prop := ∀ (b : Nat) (x : Tg × va_E), w b = some x → 50 ≤ x.1.1 → w1 b = some x
theorem FrM.rf {w : Wd} : FrM w w := fun _ _ h _ => h
theorem FrM.tr {w w1 w2 : Wd} (h : FrM w w1) (h2 : FrM w1 w2) : FrM w w2 := fun b x hb hx => h2 b x (h b x hb hx) hx
theorem Fr2.frM {t te : Tg} {w w1 : Wd} (h : Fr2 t te w w1) (h1 : t.1 < 50) (h2 : te.1 < 50) : FrM w w1 := fun b x hb hx => h b x hb (fun q => by rw [q] at hx; omega) (fun q => by rw [q] at hx; omega)
theorem RepC.n30 {Γ : Gw} {L : LayC} {S : St} {w : Wd} (h : RepC Γ L S w) {id : Nat} (hi : id < 3 + nN S) : lnC S id ≤ 30 := by
  rcases h.2 id hi with ⟨h1, h2, h3⟩ | ⟨h1, h2⟩ <;> omega
abbrev thC (L : LayC) : Nat := L.1 (1, 0, 0)
set_option maxHeartbeats 400000 in
set_option maxRecDepth 100000 in
theorem c_X6_checkSection : CtrA yX6_checkSection cX6_checkSection 2 none (rmk 6 1 6 98) (fun Γ av w post xpost => ∃ a i, av = [.ref a, .int i] ∧ (¬ i < 0 → i < 20 → post none w) ∧ ((i < 0 ∨ ¬ i < 20) → xpost xI w)) := by
  refine ctr_of (by decide) ?_
  rintro g av w hG hO ⟨a, i, rfl, hk, hx⟩
  refine ⟨Nat.le_of_ble_eq_true rfl, ?_⟩
  show X g w 0 0 0 [some (.ref a), some (.int i)] []
  refine x_iload_n hG (pc := 0) 1 dX6_checkSection_0 rfl rfl ?_
  refine x_if_lt hG (pc := 1) 10 dX6_checkSection_1 (by decide) (fun h1 => ?_) (fun h1 => ?_)
  · refine x_throwW hG hO (pc := 10) _ _ lt_418 dX6_checkSection_10 dX6_checkSection_13 dX6_checkSection_14 dX6_checkSection_17 dX6_checkSection_20 (by decide) (Nat.le_of_ble_eq_true rfl) (by rw [hG.mc]; exact Nat.le_of_ble_eq_true rfl) (by rw [hG.ms]; exact Nat.le_of_ble_eq_true rfl) ?_
    exact hx (Or.inl (by assumption))
  · refine x_iload_n hG (pc := 4) 1 dX6_checkSection_4 rfl rfl ?_
    refine x_bipush hG (pc := 5) 20 dX6_checkSection_5 (by decide) ?_
    refine x_icmp_lt hG (pc := 7) 21 dX6_checkSection_7 (by decide) (fun h7 => ?_) (fun h7 => ?_)
    · refine x_return hG (pc := 21) dX6_checkSection_21 rfl (by rw [hG.mc]; exact Nat.le_of_ble_eq_true rfl) (by rw [hG.ms]; exact Nat.le_of_ble_eq_true rfl) ?_
      exact hk h1 h7
    · refine x_throwW hG hO (pc := 10) _ _ lt_418 dX6_checkSection_10 dX6_checkSection_13 dX6_checkSection_14 dX6_checkSection_17 dX6_checkSection_20 (by decide) (Nat.le_of_ble_eq_true rfl) (by rw [hG.mc]; exact Nat.le_of_ble_eq_true rfl) (by rw [hG.ms]; exact Nat.le_of_ble_eq_true rfl) ?_
      exact hx (Or.inr (by assumption))
set_option maxHeartbeats 400000 in
set_option maxRecDepth 100000 in
theorem v_X6_checkSection : CtrA yX6_checkSection cX6_checkSection 2 none (rmk 0 0 0 0) (fun Γ av w post _ => ∃ a k, av = [.ref a, .int (nI k)] ∧ k < 20 ∧ post none w) := by
  refine ctr_of (by decide) ?_
  rintro g av w hG hO ⟨a, k, rfl, hk20, hk⟩
  refine ⟨Nat.le_of_ble_eq_true rfl, ?_⟩
  show X g w 0 0 0 [some (.ref a), some (.int (nI k))] []
  refine x_iload_n hG (pc := 0) 1 dX6_checkSection_0 rfl rfl ?_
  refine x_if_lt hG (pc := 1) 10 dX6_checkSection_1 (by decide) (fun h1 => ?_) (fun h1 => ?_)
  · exact absurd h1 (nI_nn (by omega))
  · refine x_iload_n hG (pc := 4) 1 dX6_checkSection_4 rfl rfl ?_
    refine x_bipush hG (pc := 5) 20 dX6_checkSection_5 (by decide) ?_
    refine x_icmp_lt hG (pc := 7) 21 dX6_checkSection_7 (by decide) (fun h7 => ?_) (fun h7 => ?_)
    · refine x_return hG (pc := 21) dX6_checkSection_21 rfl (by rw [hG.mc]; exact Nat.le_of_ble_eq_true rfl) (by rw [hG.ms]; exact Nat.le_of_ble_eq_true rfl) ?_
      exact hk
    · exact absurd (show nI k < nI 20 from nI_lt2 hk20 (by decide)) h7
set_option maxHeartbeats 400000 in
set_option maxRecDepth 100000 in
theorem c_X6_sectionAt : CtrA yX6_sectionAt cX6_sectionAt 2 (some (.object "TrackNights$Section")) (rmk 7 1 6 119) (fun Γ av w post xpost => ∃ (L : LayC) (S : St), ∃ i, av = [.ref (thC L), .int i] ∧ RepC Γ L S w ∧ (∀ k, k < 20 → i = nI k → post (some (.ref (L.1 (3, k, 0)))) w) ∧ ((i < 0 ∨ ¬ i < 20) → xpost xI w)) := by
  refine ctr_of (by decide) ?_
  rintro g av w hG hO ⟨L, S, i, rfl, hR, hk, hx⟩
  refine ⟨Nat.le_of_ble_eq_true rfl, ?_⟩
  show X g w 0 0 0 [some (.ref (thC L)), some (.int i)] []
  refine x_aload_n hG (pc := 0) 0 dX6_sectionAt_0 rfl rfl ?_
  refine x_iload_n hG (pc := 1) 1 dX6_sectionAt_1 rfl rfl ?_
  refine x_callV hG hO (pc := 2) [_] c_X6_checkSection lk_X6_340 (by first | assumption | exact hR.main) rfl rfl ⟨by decide, by decide⟩ (Nat.le_of_ble_eq_true rfl) (by rw [hG.mc]; exact Nat.le_of_ble_eq_true rfl) (by rw [hG.ms]; exact Nat.le_of_ble_eq_true rfl) dX6_sectionAt_2 ?_
  refine ⟨_, i, rfl, fun p1 p2 => ?_, hx⟩
  obtain ⟨k, hk20, rfl⟩ := ix_lt (n := 20) rfl (by decide) p1 p2
  refine x_aload_n hG (pc := 5) 0 dX6_sectionAt_5 rfl rfl ?_
  refine x_getf hG (pc := 6) fl_X6_11 hR.main rfl dX6_sectionAt_6 ?_
  refine x_iload_n hG (pc := 9) 1 dX6_sectionAt_9 rfl rfl ?_
  refine x_aaldS hG (pc := 10) hR.secs (vp_in_nI hk20 (by decide)) dX6_sectionAt_10 ?_
  rw [nI_clamp (by omega), lE_at hk20]
  show X g w _ _ _ _ [.ref (L.1 (3, k, 0))]
  refine x_areturn hG (pc := 11) dX6_sectionAt_11 rfl (Or.inl ⟨_, rfl⟩) (by rw [hG.mc]; exact Nat.le_of_ble_eq_true rfl) (by rw [hG.ms]; exact Nat.le_of_ble_eq_true rfl) ?_
  exact hk k hk20 rfl
set_option maxHeartbeats 400000 in
set_option maxRecDepth 100000 in
theorem v_X6_sectionAt : CtrA yX6_sectionAt cX6_sectionAt 2 (some (.object "TrackNights$Section")) (rmk 1 0 0 21) (fun Γ av w post xpost => ∃ (L : LayC) (S : St), ∃ k, av = [.ref (thC L), .int (nI k)] ∧ RepC Γ L S w ∧ k < 20 ∧ post (some (.ref (L.1 (3, k, 0)))) w) := by
  refine ctr_of (by decide) ?_
  rintro g av w hG hO ⟨L, S, k, rfl, hR, hk20, hk⟩
  refine ⟨Nat.le_of_ble_eq_true rfl, ?_⟩
  show X g w 0 0 0 [some (.ref (thC L)), some (.int (nI k))] []
  refine x_aload_n hG (pc := 0) 0 dX6_sectionAt_0 rfl rfl ?_
  refine x_iload_n hG (pc := 1) 1 dX6_sectionAt_1 rfl rfl ?_
  refine x_callV hG hO (pc := 2) [_] v_X6_checkSection lk_X6_340 (by first | assumption | exact hR.main) rfl rfl ⟨by decide, by decide⟩ (Nat.le_of_ble_eq_true rfl) (by rw [hG.mc]; exact Nat.le_of_ble_eq_true rfl) (by rw [hG.ms]; exact Nat.le_of_ble_eq_true rfl) dX6_sectionAt_2 ?_
  refine ⟨_, k, rfl, hk20, ?_⟩
  refine x_aload_n hG (pc := 5) 0 dX6_sectionAt_5 rfl rfl ?_
  refine x_getf hG (pc := 6) fl_X6_11 hR.main rfl dX6_sectionAt_6 ?_
  refine x_iload_n hG (pc := 9) 1 dX6_sectionAt_9 rfl rfl ?_
  refine x_aaldS hG (pc := 10) hR.secs (vp_in_nI hk20 (by decide)) dX6_sectionAt_10 ?_
  rw [nI_clamp (by omega), lE_at hk20]
  show X g w _ _ _ _ [.ref (L.1 (3, k, 0))]
  refine x_areturn hG (pc := 11) dX6_sectionAt_11 rfl (Or.inl ⟨_, rfl⟩) (by rw [hG.mc]; exact Nat.le_of_ble_eq_true rfl) (by rw [hG.ms]; exact Nat.le_of_ble_eq_true rfl) ?_
  exact hk
set_option maxHeartbeats 400000 in
set_option maxRecDepth 100000 in
theorem c_X6_machineAt : CtrA yX6_machineAt cX6_machineAt 2 (some (.object "TrackNights$Machine")) (rmk 6 1 6 98) (fun Γ av w post xpost => ∃ (L : LayC) (S : St), ∃ i, av = [.ref (thC L), .int i] ∧ RepC Γ L S w ∧ (∀ k, k < nM S → i = nI k → post (some (.ref (L.1 (10, k, 0)))) w) ∧ ((i < 0 ∨ ¬ i < nI (nM S)) → xpost xI w)) := by
  refine ctr_of (by decide) ?_
  rintro g av w hG hO ⟨L, S, i, rfl, hR, hk, hx⟩
  refine ⟨Nat.le_of_ble_eq_true rfl, ?_⟩
  show X g w 0 0 0 [some (.ref (thC L)), some (.int i)] []
  refine x_iload_n hG (pc := 0) 1 dX6_machineAt_0 rfl rfl ?_
  refine x_if_lt hG (pc := 1) 15 dX6_machineAt_1 (by decide) (fun h1 => ?_) (fun h1 => ?_)
  · refine x_throwW hG hO (pc := 15) _ _ lt_420 dX6_machineAt_15 dX6_machineAt_18 dX6_machineAt_19 dX6_machineAt_22 dX6_machineAt_25 (by decide) (Nat.le_of_ble_eq_true rfl) (by rw [hG.mc]; exact Nat.le_of_ble_eq_true rfl) (by rw [hG.ms]; exact Nat.le_of_ble_eq_true rfl) ?_
    exact hx (Or.inl (by assumption))
  · refine x_iload_n hG (pc := 4) 1 dX6_machineAt_4 rfl rfl ?_
    refine x_aload_n hG (pc := 5) 0 dX6_machineAt_5 rfl rfl ?_
    refine x_getf hG (pc := 6) fl_X6_22 hR.main rfl dX6_machineAt_6 ?_
    refine x_callV hG hO (pc := 9) [] c_Jx4a65c_size_8abf5 lk_X6_104 (hR.lst (id := 1) (by omega)).1 rfl rfl ⟨by decide, by decide⟩ (Nat.le_of_ble_eq_true rfl) (by rw [hG.mc]; exact Nat.le_of_ble_eq_true rfl) (by rw [hG.ms]; exact Nat.le_of_ble_eq_true rfl) dX6_machineAt_9 ?_
    refine ⟨_, _, _, _, _, rfl, (hR.lst (id := 1) (by omega)).1, ?_⟩
    refine x_icmp_lt hG (pc := 12) 26 dX6_machineAt_12 (by decide) (fun h12 => ?_) (fun h12 => ?_)
    · have hn := hR.n30 (id := 1) (by omega)
      obtain ⟨k, hkn, rfl⟩ := ix_lt (n := lnC S 1) (nI_toInt (by omega)) (by omega) h1 h12
      refine x_aload_n hG (pc := 26) 0 dX6_machineAt_26 rfl rfl ?_
      refine x_getf hG (pc := 27) fl_X6_22 hR.main rfl dX6_machineAt_27 ?_
      refine x_iload_n hG (pc := 30) 1 dX6_machineAt_30 rfl rfl ?_
      refine x_callV hG hO (pc := 31) [_] c_Jx4a65c_get_915e3 lk_X6_130 (hR.lst (id := 1) (by omega)).1 rfl rfl ⟨by decide, by decide⟩ (Nat.le_of_ble_eq_true rfl) (by rw [hG.mc]; exact Nat.le_of_ble_eq_true rfl) (by rw [hG.ms]; exact Nat.le_of_ble_eq_true rfl) dX6_machineAt_31 ?_
      refine ⟨_, _, _, _, _, _, _, _, k, rfl, hR.lst (id := 1) (by omega), hkn, ?_⟩
      refine x_castC hG (pc := 34) ck_X6_148 (hR.mac hkn) dX6_machineAt_34 ?_
      refine x_areturn hG (pc := 37) dX6_machineAt_37 rfl (Or.inl ⟨_, rfl⟩) (by rw [hG.mc]; exact Nat.le_of_ble_eq_true rfl) (by rw [hG.ms]; exact Nat.le_of_ble_eq_true rfl) ?_
      exact hk k hkn rfl
    · refine x_throwW hG hO (pc := 15) _ _ lt_420 dX6_machineAt_15 dX6_machineAt_18 dX6_machineAt_19 dX6_machineAt_22 dX6_machineAt_25 (by decide) (Nat.le_of_ble_eq_true rfl) (by rw [hG.mc]; exact Nat.le_of_ble_eq_true rfl) (by rw [hG.ms]; exact Nat.le_of_ble_eq_true rfl) ?_
      exact hx (Or.inr (by assumption))
set_option maxHeartbeats 400000 in
set_option maxRecDepth 100000 in
theorem v_X6_machineAt : CtrA yX6_machineAt cX6_machineAt 2 (some (.object "TrackNights$Machine")) (rmk 3 0 0 64) (fun Γ av w post xpost => ∃ (L : LayC) (S : St), ∃ k, av = [.ref (thC L), .int (nI k)] ∧ RepC Γ L S w ∧ k < nM S ∧ post (some (.ref (L.1 (10, k, 0)))) w) := by
  refine ctr_of (by decide) ?_
  rintro g av w hG hO ⟨L, S, k, rfl, hR, hkn, hk⟩
  refine ⟨Nat.le_of_ble_eq_true rfl, ?_⟩
  show X g w 0 0 0 [some (.ref (thC L)), some (.int (nI k))] []
  have hn : nM S ≤ 30 := hR.n30 (id := 1) (by omega)
  refine x_iload_n hG (pc := 0) 1 dX6_machineAt_0 rfl rfl ?_
  refine x_if_lt hG (pc := 1) 15 dX6_machineAt_1 (by decide) (fun h1 => ?_) (fun h1 => ?_)
  · exact absurd h1 (nI_nn (by omega))
  · refine x_iload_n hG (pc := 4) 1 dX6_machineAt_4 rfl rfl ?_
    refine x_aload_n hG (pc := 5) 0 dX6_machineAt_5 rfl rfl ?_
    refine x_getf hG (pc := 6) fl_X6_22 hR.main rfl dX6_machineAt_6 ?_
    refine x_callV hG hO (pc := 9) [] c_Jx4a65c_size_8abf5 lk_X6_104 (hR.lst (id := 1) (by omega)).1 rfl rfl ⟨by decide, by decide⟩ (Nat.le_of_ble_eq_true rfl) (by rw [hG.mc]; exact Nat.le_of_ble_eq_true rfl) (by rw [hG.ms]; exact Nat.le_of_ble_eq_true rfl) dX6_machineAt_9 ?_
    refine ⟨_, _, _, _, _, rfl, (hR.lst (id := 1) (by omega)).1, ?_⟩
    refine x_icmp_lt hG (pc := 12) 26 dX6_machineAt_12 (by decide) (fun h12 => ?_) (fun h12 => ?_)
    · refine x_aload_n hG (pc := 26) 0 dX6_machineAt_26 rfl rfl ?_
      refine x_getf hG (pc := 27) fl_X6_22 hR.main rfl dX6_machineAt_27 ?_
      refine x_iload_n hG (pc := 30) 1 dX6_machineAt_30 rfl rfl ?_
      refine x_callV hG hO (pc := 31) [_] c_Jx4a65c_get_915e3 lk_X6_130 (hR.lst (id := 1) (by omega)).1 rfl rfl ⟨by decide, by decide⟩ (Nat.le_of_ble_eq_true rfl) (by rw [hG.mc]; exact Nat.le_of_ble_eq_true rfl) (by rw [hG.ms]; exact Nat.le_of_ble_eq_true rfl) dX6_machineAt_31 ?_
      refine ⟨_, _, _, _, _, _, _, _, k, rfl, hR.lst (id := 1) (by omega), hkn, ?_⟩
      refine x_castC hG (pc := 34) ck_X6_148 (hR.mac hkn) dX6_machineAt_34 ?_
      refine x_areturn hG (pc := 37) dX6_machineAt_37 rfl (Or.inl ⟨_, rfl⟩) (by rw [hG.mc]; exact Nat.le_of_ble_eq_true rfl) (by rw [hG.ms]; exact Nat.le_of_ble_eq_true rfl) ?_
      exact hk
    · exact absurd (nI_lt2 hkn (by omega)) h12
set_option maxHeartbeats 400000 in
set_option maxRecDepth 100000 in
theorem c_X6_possessionAt : CtrA yX6_possessionAt cX6_possessionAt 2 (some (.object "TrackNights$Possession")) (rmk 6 1 6 98) (fun Γ av w post xpost => ∃ (L : LayC) (S : St), ∃ i, av = [.ref (thC L), .int i] ∧ RepC Γ L S w ∧ (∀ k, k < nN S → i = nI k → post (some (.ref (L.1 (11, k, 0)))) w) ∧ ((i < 0 ∨ ¬ i < nI (nN S)) → xpost xI w)) := by
  refine ctr_of (by decide) ?_
  rintro g av w hG hO ⟨L, S, i, rfl, hR, hk, hx⟩
  refine ⟨Nat.le_of_ble_eq_true rfl, ?_⟩
  show X g w 0 0 0 [some (.ref (thC L)), some (.int i)] []
  refine x_iload_n hG (pc := 0) 1 dX6_possessionAt_0 rfl rfl ?_
  refine x_if_lt hG (pc := 1) 15 dX6_possessionAt_1 (by decide) (fun h1 => ?_) (fun h1 => ?_)
  · refine x_throwW hG hO (pc := 15) _ _ lt_422 dX6_possessionAt_15 dX6_possessionAt_18 dX6_possessionAt_19 dX6_possessionAt_22 dX6_possessionAt_25 (by decide) (Nat.le_of_ble_eq_true rfl) (by rw [hG.mc]; exact Nat.le_of_ble_eq_true rfl) (by rw [hG.ms]; exact Nat.le_of_ble_eq_true rfl) ?_
    exact hx (Or.inl (by assumption))
  · refine x_iload_n hG (pc := 4) 1 dX6_possessionAt_4 rfl rfl ?_
    refine x_aload_n hG (pc := 5) 0 dX6_possessionAt_5 rfl rfl ?_
    refine x_getf hG (pc := 6) fl_X6_25 hR.main rfl dX6_possessionAt_6 ?_
    refine x_callV hG hO (pc := 9) [] c_Jx4a65c_size_8abf5 lk_X6_104 (hR.lst (id := 2) (by omega)).1 rfl rfl ⟨by decide, by decide⟩ (Nat.le_of_ble_eq_true rfl) (by rw [hG.mc]; exact Nat.le_of_ble_eq_true rfl) (by rw [hG.ms]; exact Nat.le_of_ble_eq_true rfl) dX6_possessionAt_9 ?_
    refine ⟨_, _, _, _, _, rfl, (hR.lst (id := 2) (by omega)).1, ?_⟩
    refine x_icmp_lt hG (pc := 12) 26 dX6_possessionAt_12 (by decide) (fun h12 => ?_) (fun h12 => ?_)
    · have hn := hR.n30 (id := 2) (by omega)
      obtain ⟨k, hkn, rfl⟩ := ix_lt (n := lnC S 2) (nI_toInt (by omega)) (by omega) h1 h12
      refine x_aload_n hG (pc := 26) 0 dX6_possessionAt_26 rfl rfl ?_
      refine x_getf hG (pc := 27) fl_X6_25 hR.main rfl dX6_possessionAt_27 ?_
      refine x_iload_n hG (pc := 30) 1 dX6_possessionAt_30 rfl rfl ?_
      refine x_callV hG hO (pc := 31) [_] c_Jx4a65c_get_915e3 lk_X6_130 (hR.lst (id := 2) (by omega)).1 rfl rfl ⟨by decide, by decide⟩ (Nat.le_of_ble_eq_true rfl) (by rw [hG.mc]; exact Nat.le_of_ble_eq_true rfl) (by rw [hG.ms]; exact Nat.le_of_ble_eq_true rfl) dX6_possessionAt_31 ?_
      refine ⟨_, _, _, _, _, _, _, _, k, rfl, hR.lst (id := 2) (by omega), hkn, ?_⟩
      refine x_castC hG (pc := 34) ck_X6_176 (hR.pos hkn) dX6_possessionAt_34 ?_
      refine x_areturn hG (pc := 37) dX6_possessionAt_37 rfl (Or.inl ⟨_, rfl⟩) (by rw [hG.mc]; exact Nat.le_of_ble_eq_true rfl) (by rw [hG.ms]; exact Nat.le_of_ble_eq_true rfl) ?_
      exact hk k hkn rfl
    · refine x_throwW hG hO (pc := 15) _ _ lt_422 dX6_possessionAt_15 dX6_possessionAt_18 dX6_possessionAt_19 dX6_possessionAt_22 dX6_possessionAt_25 (by decide) (Nat.le_of_ble_eq_true rfl) (by rw [hG.mc]; exact Nat.le_of_ble_eq_true rfl) (by rw [hG.ms]; exact Nat.le_of_ble_eq_true rfl) ?_
      exact hx (Or.inr (by assumption))
set_option maxHeartbeats 400000 in
set_option maxRecDepth 100000 in
theorem v_X6_possessionAt : CtrA yX6_possessionAt cX6_possessionAt 2 (some (.object "TrackNights$Possession")) (rmk 3 0 0 64) (fun Γ av w post xpost => ∃ (L : LayC) (S : St), ∃ k, av = [.ref (thC L), .int (nI k)] ∧ RepC Γ L S w ∧ k < nN S ∧ post (some (.ref (L.1 (11, k, 0)))) w) := by
  refine ctr_of (by decide) ?_
  rintro g av w hG hO ⟨L, S, k, rfl, hR, hkn, hk⟩
  refine ⟨Nat.le_of_ble_eq_true rfl, ?_⟩
  show X g w 0 0 0 [some (.ref (thC L)), some (.int (nI k))] []
  have hn : nN S ≤ 30 := hR.n30 (id := 2) (by omega)
  refine x_iload_n hG (pc := 0) 1 dX6_possessionAt_0 rfl rfl ?_
  refine x_if_lt hG (pc := 1) 15 dX6_possessionAt_1 (by decide) (fun h1 => ?_) (fun h1 => ?_)
  · exact absurd h1 (nI_nn (by omega))
  · refine x_iload_n hG (pc := 4) 1 dX6_possessionAt_4 rfl rfl ?_
    refine x_aload_n hG (pc := 5) 0 dX6_possessionAt_5 rfl rfl ?_
    refine x_getf hG (pc := 6) fl_X6_25 hR.main rfl dX6_possessionAt_6 ?_
    refine x_callV hG hO (pc := 9) [] c_Jx4a65c_size_8abf5 lk_X6_104 (hR.lst (id := 2) (by omega)).1 rfl rfl ⟨by decide, by decide⟩ (Nat.le_of_ble_eq_true rfl) (by rw [hG.mc]; exact Nat.le_of_ble_eq_true rfl) (by rw [hG.ms]; exact Nat.le_of_ble_eq_true rfl) dX6_possessionAt_9 ?_
    refine ⟨_, _, _, _, _, rfl, (hR.lst (id := 2) (by omega)).1, ?_⟩
    refine x_icmp_lt hG (pc := 12) 26 dX6_possessionAt_12 (by decide) (fun h12 => ?_) (fun h12 => ?_)
    · refine x_aload_n hG (pc := 26) 0 dX6_possessionAt_26 rfl rfl ?_
      refine x_getf hG (pc := 27) fl_X6_25 hR.main rfl dX6_possessionAt_27 ?_
      refine x_iload_n hG (pc := 30) 1 dX6_possessionAt_30 rfl rfl ?_
      refine x_callV hG hO (pc := 31) [_] c_Jx4a65c_get_915e3 lk_X6_130 (hR.lst (id := 2) (by omega)).1 rfl rfl ⟨by decide, by decide⟩ (Nat.le_of_ble_eq_true rfl) (by rw [hG.mc]; exact Nat.le_of_ble_eq_true rfl) (by rw [hG.ms]; exact Nat.le_of_ble_eq_true rfl) dX6_possessionAt_31 ?_
      refine ⟨_, _, _, _, _, _, _, _, k, rfl, hR.lst (id := 2) (by omega), hkn, ?_⟩
      refine x_castC hG (pc := 34) ck_X6_176 (hR.pos hkn) dX6_possessionAt_34 ?_
      refine x_areturn hG (pc := 37) dX6_possessionAt_37 rfl (Or.inl ⟨_, rfl⟩) (by rw [hG.mc]; exact Nat.le_of_ble_eq_true rfl) (by rw [hG.ms]; exact Nat.le_of_ble_eq_true rfl) ?_
      exact hk
    · exact absurd (nI_lt2 hkn (by omega)) h12
set_option maxHeartbeats 400000 in
set_option maxRecDepth 100000 in
theorem c_X6_checkTrains : CtrA yX6_checkTrains cX6_checkTrains 2 none (rmk 6 1 6 98) (fun Γ av w post xpost => ∃ a i, av = [.ref a, .int i] ∧ (¬ i < 0 → i ≤ 40 → post none w) ∧ ((i < 0 ∨ ¬ i ≤ 40) → xpost xA w)) := by
  refine ctr_of (by decide) ?_
  rintro g av w hG hO ⟨a, i, rfl, hk, hx⟩
  refine ⟨Nat.le_of_ble_eq_true rfl, ?_⟩
  show X g w 0 0 0 [some (.ref a), some (.int i)] []
  refine x_iload_n hG (pc := 0) 1 dX6_checkTrains_0 rfl rfl ?_
  refine x_if_lt hG (pc := 1) 10 dX6_checkTrains_1 (by decide) (fun h1 => ?_) (fun h1 => ?_)
  · refine x_throwW hG hO (pc := 10) _ _ lt_428 dX6_checkTrains_10 dX6_checkTrains_13 dX6_checkTrains_14 dX6_checkTrains_17 dX6_checkTrains_20 (by decide) (Nat.le_of_ble_eq_true rfl) (by rw [hG.mc]; exact Nat.le_of_ble_eq_true rfl) (by rw [hG.ms]; exact Nat.le_of_ble_eq_true rfl) ?_
    exact hx (Or.inl (by assumption))
  · refine x_iload_n hG (pc := 4) 1 dX6_checkTrains_4 rfl rfl ?_
    refine x_bipush hG (pc := 5) 40 dX6_checkTrains_5 (by decide) ?_
    refine x_icmp_le hG (pc := 7) 21 dX6_checkTrains_7 (by decide) (fun h7 => ?_) (fun h7 => ?_)
    · refine x_return hG (pc := 21) dX6_checkTrains_21 rfl (by rw [hG.mc]; exact Nat.le_of_ble_eq_true rfl) (by rw [hG.ms]; exact Nat.le_of_ble_eq_true rfl) ?_
      exact hk h1 h7
    · refine x_throwW hG hO (pc := 10) _ _ lt_428 dX6_checkTrains_10 dX6_checkTrains_13 dX6_checkTrains_14 dX6_checkTrains_17 dX6_checkTrains_20 (by decide) (Nat.le_of_ble_eq_true rfl) (by rw [hG.mc]; exact Nat.le_of_ble_eq_true rfl) (by rw [hG.ms]; exact Nat.le_of_ble_eq_true rfl) ?_
      exact hx (Or.inr (by assumption))
set_option maxHeartbeats 400000 in
set_option maxRecDepth 100000 in
theorem v_X6_checkTrains : CtrA yX6_checkTrains cX6_checkTrains 2 none (rmk 0 0 0 0) (fun Γ av w post _ => ∃ a i, av = [.ref a, .int i] ∧ ¬ i < 0 ∧ i ≤ 40 ∧ post none w) := by
  refine ctr_of (by decide) ?_
  rintro g av w hG hO ⟨a, i, rfl, p1, p2, hk⟩
  refine ⟨Nat.le_of_ble_eq_true rfl, ?_⟩
  show X g w 0 0 0 [some (.ref a), some (.int i)] []
  refine x_iload_n hG (pc := 0) 1 dX6_checkTrains_0 rfl rfl ?_
  refine x_if_lt hG (pc := 1) 10 dX6_checkTrains_1 (by decide) (fun h1 => ?_) (fun h1 => ?_)
  · exact absurd h1 p1
  · refine x_iload_n hG (pc := 4) 1 dX6_checkTrains_4 rfl rfl ?_
    refine x_bipush hG (pc := 5) 40 dX6_checkTrains_5 (by decide) ?_
    refine x_icmp_le hG (pc := 7) 21 dX6_checkTrains_7 (by decide) (fun h7 => ?_) (fun h7 => ?_)
    · refine x_return hG (pc := 21) dX6_checkTrains_21 rfl (by rw [hG.mc]; exact Nat.le_of_ble_eq_true rfl) (by rw [hG.ms]; exact Nat.le_of_ble_eq_true rfl) ?_
      exact hk
    · exact absurd p2 h7
/-- 0: the stretch is one; 1: a track or kilometre that is none; 2: its end is below its beginning -/
def c_str (t f o : Int32) : Nat := if t < 0 then 1 else if t < 2 then (if f < 0 then 1 else if 10 ≤ f then 1 else if o < 0 then 1 else if o < 10 then (if f ≤ o then 0 else 2) else 1) else 1
set_option maxHeartbeats 400000 in
set_option maxRecDepth 100000 in
theorem c_X6_checkStretch : CtrA yX6_checkStretch cX6_checkStretch 4 none (rmk 6 1 6 98) (fun Γ av w post xpost => ∃ a t f o, av = [.ref a, .int t, .int f, .int o] ∧ (c_str t f o = 0 → post none w) ∧ (c_str t f o = 1 → xpost xI w) ∧ (c_str t f o = 2 → xpost xA w)) := by
  refine ctr_of (by decide) ?_
  rintro g av w hG hO ⟨a, t, f, o, rfl, hk, hx, hy⟩
  refine ⟨Nat.le_of_ble_eq_true rfl, ?_⟩
  show X g w 0 0 0 [some (.ref a), some (.int t), some (.int f), some (.int o)] []
  refine x_iload_n hG (pc := 0) 1 dX6_checkStretch_0 rfl rfl ?_
  refine x_if_lt hG (pc := 1) 9 dX6_checkStretch_1 (by decide) (fun h1 => ?_) (fun h1 => ?_)
  · refine x_throwW hG hO (pc := 9) _ _ lt_336 dX6_checkStretch_9 dX6_checkStretch_12 dX6_checkStretch_13 dX6_checkStretch_16 dX6_checkStretch_19 (by decide) (Nat.le_of_ble_eq_true rfl) (by rw [hG.mc]; exact Nat.le_of_ble_eq_true rfl) (by rw [hG.ms]; exact Nat.le_of_ble_eq_true rfl) ?_
    have e : c_str t f o = 1 := by simp [c_str, h1]
    exact hx e
  · refine x_iload_n hG (pc := 4) 1 dX6_checkStretch_4 rfl rfl ?_
    refine x_iconst hG (pc := 5) 2 dX6_checkStretch_5 (by decide) ?_
    refine x_icmp_lt hG (pc := 6) 20 dX6_checkStretch_6 (by decide) (fun h6 => ?_) (fun h6 => ?_)
    · refine x_iload_n hG (pc := 20) 2 dX6_checkStretch_20 rfl rfl ?_
      refine x_if_lt hG (pc := 21) 40 dX6_checkStretch_21 (by decide) (fun h21 => ?_) (fun h21 => ?_)
      · refine x_throwW hG hO (pc := 40) _ _ lt_424 dX6_checkStretch_40 dX6_checkStretch_43 dX6_checkStretch_44 dX6_checkStretch_47 dX6_checkStretch_50 (by decide) (Nat.le_of_ble_eq_true rfl) (by rw [hG.mc]; exact Nat.le_of_ble_eq_true rfl) (by rw [hG.ms]; exact Nat.le_of_ble_eq_true rfl) ?_
        have e : c_str t f o = 1 := by simp [c_str, h1, h6, h21]
        exact hx e
      · refine x_iload_n hG (pc := 24) 2 dX6_checkStretch_24 rfl rfl ?_
        refine x_bipush hG (pc := 25) 10 dX6_checkStretch_25 (by decide) ?_
        refine x_icmp_ge hG (pc := 27) 40 dX6_checkStretch_27 (by decide) (fun h27 => ?_) (fun h27 => ?_)
        · refine x_throwW hG hO (pc := 40) _ _ lt_424 dX6_checkStretch_40 dX6_checkStretch_43 dX6_checkStretch_44 dX6_checkStretch_47 dX6_checkStretch_50 (by decide) (Nat.le_of_ble_eq_true rfl) (by rw [hG.mc]; exact Nat.le_of_ble_eq_true rfl) (by rw [hG.ms]; exact Nat.le_of_ble_eq_true rfl) ?_
          have e : c_str t f o = 1 := by simp [c_str, h1, h6, h21, h27]
          exact hx e
        · refine x_iload_n hG (pc := 30) 3 dX6_checkStretch_30 rfl rfl ?_
          refine x_if_lt hG (pc := 31) 40 dX6_checkStretch_31 (by decide) (fun h31 => ?_) (fun h31 => ?_)
          · refine x_throwW hG hO (pc := 40) _ _ lt_424 dX6_checkStretch_40 dX6_checkStretch_43 dX6_checkStretch_44 dX6_checkStretch_47 dX6_checkStretch_50 (by decide) (Nat.le_of_ble_eq_true rfl) (by rw [hG.mc]; exact Nat.le_of_ble_eq_true rfl) (by rw [hG.ms]; exact Nat.le_of_ble_eq_true rfl) ?_
            have e : c_str t f o = 1 := by simp [c_str, h1, h6, h21, h27, h31]
            exact hx e
          · refine x_iload_n hG (pc := 34) 3 dX6_checkStretch_34 rfl rfl ?_
            refine x_bipush hG (pc := 35) 10 dX6_checkStretch_35 (by decide) ?_
            refine x_icmp_lt hG (pc := 37) 51 dX6_checkStretch_37 (by decide) (fun h37 => ?_) (fun h37 => ?_)
            · refine x_iload_n hG (pc := 51) 3 dX6_checkStretch_51 rfl rfl ?_
              refine x_iload_n hG (pc := 52) 2 dX6_checkStretch_52 rfl rfl ?_
              refine x_icmp_ge hG (pc := 53) 67 dX6_checkStretch_53 (by decide) (fun h53 => ?_) (fun h53 => ?_)
              · refine x_return hG (pc := 67) dX6_checkStretch_67 rfl (by rw [hG.mc]; exact Nat.le_of_ble_eq_true rfl) (by rw [hG.ms]; exact Nat.le_of_ble_eq_true rfl) ?_
                have e : c_str t f o = 0 := by simp [c_str, h1, h6, h21, h27, h31, h37, h53]
                exact hk e
              · refine x_throwW hG hO (pc := 56) _ _ lt_426 dX6_checkStretch_56 dX6_checkStretch_59 dX6_checkStretch_60 dX6_checkStretch_63 dX6_checkStretch_66 (by decide) (Nat.le_of_ble_eq_true rfl) (by rw [hG.mc]; exact Nat.le_of_ble_eq_true rfl) (by rw [hG.ms]; exact Nat.le_of_ble_eq_true rfl) ?_
                have e : c_str t f o = 2 := by simp [c_str, h1, h6, h21, h27, h31, h37, h53]
                exact hy e
            · refine x_throwW hG hO (pc := 40) _ _ lt_424 dX6_checkStretch_40 dX6_checkStretch_43 dX6_checkStretch_44 dX6_checkStretch_47 dX6_checkStretch_50 (by decide) (Nat.le_of_ble_eq_true rfl) (by rw [hG.mc]; exact Nat.le_of_ble_eq_true rfl) (by rw [hG.ms]; exact Nat.le_of_ble_eq_true rfl) ?_
              have e : c_str t f o = 1 := by simp [c_str, h1, h6, h21, h27, h31, h37]
              exact hx e
    · refine x_throwW hG hO (pc := 9) _ _ lt_336 dX6_checkStretch_9 dX6_checkStretch_12 dX6_checkStretch_13 dX6_checkStretch_16 dX6_checkStretch_19 (by decide) (Nat.le_of_ble_eq_true rfl) (by rw [hG.mc]; exact Nat.le_of_ble_eq_true rfl) (by rw [hG.ms]; exact Nat.le_of_ble_eq_true rfl) ?_
      have e : c_str t f o = 1 := by simp [c_str, h1, h6]
      exact hx e
set_option maxHeartbeats 400000 in
set_option maxRecDepth 100000 in
theorem v_X6_checkStretch : CtrA yX6_checkStretch cX6_checkStretch 4 none (rmk 0 0 0 0) (fun Γ av w post _ => ∃ a t f o, av = [.ref a, .int t, .int f, .int o] ∧ c_str t f o = 0 ∧ post none w) := by
  refine ctr_of (by decide) ?_
  rintro g av w hG hO ⟨a, t, f, o, rfl, h0, hk⟩
  refine ⟨Nat.le_of_ble_eq_true rfl, ?_⟩
  show X g w 0 0 0 [some (.ref a), some (.int t), some (.int f), some (.int o)] []
  refine x_iload_n hG (pc := 0) 1 dX6_checkStretch_0 rfl rfl ?_
  refine x_if_lt hG (pc := 1) 9 dX6_checkStretch_1 (by decide) (fun h1 => ?_) (fun h1 => ?_)
  · have e : c_str t f o = 1 := by simp [c_str, h1]
    rw [e] at h0
    cases h0
  · refine x_iload_n hG (pc := 4) 1 dX6_checkStretch_4 rfl rfl ?_
    refine x_iconst hG (pc := 5) 2 dX6_checkStretch_5 (by decide) ?_
    refine x_icmp_lt hG (pc := 6) 20 dX6_checkStretch_6 (by decide) (fun h6 => ?_) (fun h6 => ?_)
    · refine x_iload_n hG (pc := 20) 2 dX6_checkStretch_20 rfl rfl ?_
      refine x_if_lt hG (pc := 21) 40 dX6_checkStretch_21 (by decide) (fun h21 => ?_) (fun h21 => ?_)
      · have e : c_str t f o = 1 := by simp [c_str, h1, h6, h21]
        rw [e] at h0
        cases h0
      · refine x_iload_n hG (pc := 24) 2 dX6_checkStretch_24 rfl rfl ?_
        refine x_bipush hG (pc := 25) 10 dX6_checkStretch_25 (by decide) ?_
        refine x_icmp_ge hG (pc := 27) 40 dX6_checkStretch_27 (by decide) (fun h27 => ?_) (fun h27 => ?_)
        · have e : c_str t f o = 1 := by simp [c_str, h1, h6, h21, h27]
          rw [e] at h0
          cases h0
        · refine x_iload_n hG (pc := 30) 3 dX6_checkStretch_30 rfl rfl ?_
          refine x_if_lt hG (pc := 31) 40 dX6_checkStretch_31 (by decide) (fun h31 => ?_) (fun h31 => ?_)
          · have e : c_str t f o = 1 := by simp [c_str, h1, h6, h21, h27, h31]
            rw [e] at h0
            cases h0
          · refine x_iload_n hG (pc := 34) 3 dX6_checkStretch_34 rfl rfl ?_
            refine x_bipush hG (pc := 35) 10 dX6_checkStretch_35 (by decide) ?_
            refine x_icmp_lt hG (pc := 37) 51 dX6_checkStretch_37 (by decide) (fun h37 => ?_) (fun h37 => ?_)
            · refine x_iload_n hG (pc := 51) 3 dX6_checkStretch_51 rfl rfl ?_
              refine x_iload_n hG (pc := 52) 2 dX6_checkStretch_52 rfl rfl ?_
              refine x_icmp_ge hG (pc := 53) 67 dX6_checkStretch_53 (by decide) (fun h53 => ?_) (fun h53 => ?_)
              · refine x_return hG (pc := 67) dX6_checkStretch_67 rfl (by rw [hG.mc]; exact Nat.le_of_ble_eq_true rfl) (by rw [hG.ms]; exact Nat.le_of_ble_eq_true rfl) ?_
                exact hk
              · have e : c_str t f o = 2 := by simp [c_str, h1, h6, h21, h27, h31, h37, h53]
                rw [e] at h0
                cases h0
            · have e : c_str t f o = 1 := by simp [c_str, h1, h6, h21, h27, h31, h37]
              rw [e] at h0
              cases h0
    · have e : c_str t f o = 1 := by simp [c_str, h1, h6]
      rw [e] at h0
      cases h0
