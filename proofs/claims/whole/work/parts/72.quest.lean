/-! The reference: questions; what would be -/
theorem agn_iv {f : Nat → Int32} {t : Int32} (h : IvS f) (h0 : ¬ t < 0) (h1 : t ≤ 40) : ∀ j, IvS (agn f t j)
  | 0 => h
  | j + 1 => age_iv (agn_iv h h0 h1 j) h0 h1
theorem agn_s {f : Nat → Int32} {t : Int32} {j : Nat} : agn f t (j + 1) = age (agn f t j) t := rfl
theorem cRow_iv {S : St} {i : Nat} {k : Int32} (h : IvS (sS S i)) : IvS (cRow S i k) := by
  unfold cRow
  by_cases q : k = 3
  · rw [if_pos q]
    exact h
  · rw [if_neg q]
    exact trt_iv h
theorem pig : ∀ (n d : Nat) (φ : Nat → Nat), (∀ j, j < d → φ j < n) → (∀ i j, i < d → j < d → φ i = φ j → i = j) → d ≤ n
  | 0, d, φ, h, _ => by
    rcases Nat.eq_zero_or_pos d with z | z
    · omega
    · exact absurd (h 0 z) (Nat.not_lt_zero _)
  | n + 1, d, φ, h, hi => by
    by_cases q : ∃ j, j < d ∧ φ j = n
    · obtain ⟨j0, hj0, e⟩ := q
      have h2 := pig n (d - 1) (fun j => φ (if j < j0 then j else j + 1)) (fun j hj => by
        have hlt : (if j < j0 then j else j + 1) < d := by split <;> omega
        have hne : (if j < j0 then j else j + 1) ≠ j0 := by split <;> omega
        have a := h _ hlt
        have b : φ (if j < j0 then j else j + 1) ≠ n := fun z => hne (hi _ _ hlt hj0 (z.trans e.symm))
        show φ (if j < j0 then j else j + 1) < n
        omega) (fun i j hi1 hj1 z => by
        have a := hi (if i < j0 then i else i + 1) (if j < j0 then j else j + 1) (by split <;> omega) (by split <;> omega) z
        split at a <;> split at a <;> omega)
      omega
    · have h2 := pig n d φ (fun j hj => by
        have a := h j hj
        have b : φ j ≠ n := fun z => q ⟨j, hj, z⟩
        omega) hi
      omega
theorem fre_pig {S : St} {t f o : Int32} (hI : Inv S) {d : Nat} (hd : d ≤ frN S) (h : ∀ j, j < d → ¬ pFre S t f o j) : d ≤ nN S := by
  classical
  obtain ⟨g0, hg0, hg⟩ : ∃ g0, g0 < 2001 ∧ gl S 0 = nI g0 := vp_in_of (vp_in_iff.mpr ⟨hI.2.2.2.2.2.1.1, by have := hI.2.2.2.2.2.1.2; omega⟩) (by decide)
  have hfn : frN S = 1996 - g0 := by rw [frN, hg, nI_clamp (by omega)]
  have hex : ∀ j, j < d → ∃ k, k < nN S ∧ gS S k 4 = nI (g0 + 5 + j) := by
    intro j hj
    have h1 := h j hj
    unfold pFre at h1
    rw [fr_d hg] at h1
    by_cases q : ∃ k, k < nN S ∧ pOcc S t f o (nI (g0 + 5 + j)) k
    · obtain ⟨k, hk, z⟩ := q
      exact ⟨k, hk, z.1⟩
    · exact absurd (ex_f fun k hk z => q ⟨k, hk, z⟩) h1
  refine pig (nN S) d (fun j => if hj : j < d then (hex j hj).choose else 0) (fun j hj => ?_) (fun i j hi hj e => ?_)
  · rw [dif_pos hj]
    exact (hex j hj).choose_spec.1
  · rw [dif_pos hi, dif_pos hj] at e
    have a := (hex i hi).choose_spec.2
    have b := (hex j hj).choose_spec.2
    rw [e, b] at a
    have := (nI_eq (by omega) (by omega)).mp a
    omega
set_option maxHeartbeats 400000 in
set_option maxRecDepth 100000 in
theorem c_X7_known : CtrA yX7_known cX7_known 3 (some .int) (rmk 6 1 7 138) (fun Γ av w post xpost => ∃ (L : LayM) (S : St), ∃ i u, av = [.ref (thM L), .int i, .int u] ∧ RepM Γ L S w ∧ Inv2 S ∧ MOut Γ L w post (oKno S i u)) := by
  refine ctr_of (by decide) ?_
  rintro g av w hG hO ⟨L, S, i, u, rfl, hR, hI2, hk⟩
  refine ⟨Nat.le_of_ble_eq_true rfl, ?_⟩
  show X g w 0 0 0 [some (.ref (thM L)), some (.int i), some (.int u)] []
  have hI := hI2.1
  have hnM := hI.2.1.1
  have hnN := hI.2.1.2.1
  have hnE := hI.2.1.2.2
  refine x_aload_n hG (pc := 0) 0 dX7_known_0 rfl rfl ?_
  refine x_iconst hG (pc := 1) 0 dX7_known_1 (by decide) ?_
  refine x_putf hG (pc := 2) fl_X7_31 fw_9 ft_9_0 hR.main (Nat.le_of_ble_eq_true rfl) rfl rfl (by dsimp only [List.set]) dX7_known_2 ?_
  refine x_gen (fun w0 e0 => ?_)
  obtain ⟨hR0, hF0⟩ := hR.uT e0
  refine x_iload_n hG (pc := 5) 1 dX7_known_5 rfl rfl ?_
  refine x_callS hG hO (pc := 6) [_] c_X7_isSection lk_X7_72 rfl rfl ⟨by decide, by decide⟩ (Nat.le_of_ble_eq_true rfl) (by rw [hG.mc]; exact Nat.le_of_ble_eq_true rfl) (by rw [hG.ms]; exact Nat.le_of_ble_eq_true rfl) dX7_known_6 ?_
  refine ⟨_, rfl, ?_⟩
  refine x_if_ne hG (pc := 9) 18 dX7_known_9 (by decide) (fun h9 => ?_) (fun h9 => ?_)
  · obtain ⟨k, hx⟩ := sIx_1 h9
    obtain ⟨hkn, rfl⟩ := ixO_some hx (by omega)
    refine x_iload_n hG (pc := 18) 2 dX7_known_18 rfl rfl ?_
    refine x_iconst hG (pc := 19) 0 dX7_known_19 (by decide) ?_
    refine x_iconst hG (pc := 20) 4 dX7_known_20 (by decide) ?_
    refine x_callS hG hO (pc := 21) [_, _, _] c_X7_is lk_X7_68 rfl rfl ⟨by decide, by decide⟩ (Nat.le_of_ble_eq_true rfl) (by rw [hG.mc]; exact Nat.le_of_ble_eq_true rfl) (by rw [hG.ms]; exact Nat.le_of_ble_eq_true rfl) dX7_known_21 ?_
    refine ⟨_, _, _, rfl, ?_⟩
    rw [show s_is u 0 4 = sIx (ixO u 5) from s_is_ix (n := 5) (by decide)]
    refine x_if_eq hG (pc := 24) 36 dX7_known_24 (by decide) (fun h24 => ?_) (fun h24 => ?_)
    · have hxv := sIx_0 h24
      refine x_aload_n hG (pc := 36) 0 dX7_known_36 rfl rfl ?_
      refine x_iconst hG (pc := 37) 2 dX7_known_37 (by decide) ?_
      refine x_callV hG hO (pc := 38) [_] c_X7_refuse lk_X7_76 hR0.main rfl rfl ⟨by decide, by decide⟩ (Nat.le_of_ble_eq_true rfl) (by rw [hG.mc]; exact Nat.le_of_ble_eq_true rfl) (by rw [hG.ms]; exact Nat.le_of_ble_eq_true rfl) dX7_known_38 ?_
      refine ⟨_, _, 2, rfl, hR0, fun wr hRr hFr => ?_⟩
      refine x_ireturn hG (pc := 41) dX7_known_41 rfl rfl (by rw [hG.mc]; exact Nat.le_of_ble_eq_true rfl) (by rw [hG.ms]; exact Nat.le_of_ble_eq_true rfl) ?_
      exact hk.ok (k := 2) (v := 0) (S1 := S) (by simp only [oKno, hx, hxv, ↓reduceIte]) hRr (hF0.tr hFr)
    · obtain ⟨v, hxv⟩ := sIx_1 h24
      obtain ⟨hvn, rfl⟩ := ixO_some hxv (by omega)
      refine x_aload_n hG (pc := 27) 0 dX7_known_27 rfl rfl ?_
      refine x_iload_n hG (pc := 28) 1 dX7_known_28 rfl rfl ?_
      refine x_iload_n hG (pc := 29) 2 dX7_known_29 rfl rfl ?_
      refine x_callV hG hO (pc := 30) [_, _] c_X7_knownNow lk_X7_178 hR0.main rfl rfl ⟨by decide, by decide⟩ (Nat.le_of_ble_eq_true rfl) (by rw [hG.mc]; exact Nat.le_of_ble_eq_true rfl) (by rw [hG.ms]; exact Nat.le_of_ble_eq_true rfl) dX7_known_30 ?_
      refine ⟨lthr L 0, S, k, v, rfl, hR0, hkn, hvn, hI, fun w1 hR1 hF1 => ?_⟩
      refine x_goto hG (pc := 33) 41 dX7_known_33 (by decide) ?_
      refine x_ireturn hG (pc := 41) dX7_known_41 rfl rfl (by rw [hG.mc]; exact Nat.le_of_ble_eq_true rfl) (by rw [hG.ms]; exact Nat.le_of_ble_eq_true rfl) ?_
      exact hk.ok (k := 0) (by simp only [oKno, hx, hxv, ↓reduceIte]) hR1 (hF0.tr hF1)
  · have hx := sIx_0 h9
    refine x_aload_n hG (pc := 12) 0 dX7_known_12 rfl rfl ?_
    refine x_iconst hG (pc := 13) 1 dX7_known_13 (by decide) ?_
    refine x_callV hG hO (pc := 14) [_] c_X7_refuse lk_X7_76 hR0.main rfl rfl ⟨by decide, by decide⟩ (Nat.le_of_ble_eq_true rfl) (by rw [hG.mc]; exact Nat.le_of_ble_eq_true rfl) (by rw [hG.ms]; exact Nat.le_of_ble_eq_true rfl) dX7_known_14 ?_
    refine ⟨_, _, 1, rfl, hR0, fun wr hRr hFr => ?_⟩
    refine x_ireturn hG (pc := 17) dX7_known_17 rfl rfl (by rw [hG.mc]; exact Nat.le_of_ble_eq_true rfl) (by rw [hG.ms]; exact Nat.le_of_ble_eq_true rfl) ?_
    exact hk.ok (k := 1) (v := 0) (S1 := S) (by simp only [oKno, hx, ↓reduceIte]) hRr (hF0.tr hFr)
set_option maxHeartbeats 400000 in
set_option maxRecDepth 100000 in
theorem c_X7_why : CtrA yX7_why cX7_why 3 (some .int) (rmk 6 1 7 137) (fun Γ av w post xpost => ∃ (L : LayM) (S : St), ∃ i b, av = [.ref (thM L), .int i, .int b] ∧ RepM Γ L S w ∧ Inv2 S ∧ MOut Γ L w post (oWhy S i b)) := by
  refine ctr_of (by decide) ?_
  rintro g av w hG hO ⟨L, S, i, b, rfl, hR, hI2, hk⟩
  refine ⟨Nat.le_of_ble_eq_true rfl, ?_⟩
  show X g w 0 0 0 [some (.ref (thM L)), some (.int i), some (.int b)] []
  have hI := hI2.1
  have hnM := hI.2.1.1
  have hnN := hI.2.1.2.1
  have hnE := hI.2.1.2.2
  refine x_aload_n hG (pc := 0) 0 dX7_why_0 rfl rfl ?_
  refine x_iconst hG (pc := 1) 0 dX7_why_1 (by decide) ?_
  refine x_putf hG (pc := 2) fl_X7_31 fw_9 ft_9_0 hR.main (Nat.le_of_ble_eq_true rfl) rfl rfl (by dsimp only [List.set]) dX7_why_2 ?_
  refine x_gen (fun w0 e0 => ?_)
  obtain ⟨hR0, hF0⟩ := hR.uT e0
  refine x_iload_n hG (pc := 5) 1 dX7_why_5 rfl rfl ?_
  refine x_callS hG hO (pc := 6) [_] c_X7_isSection lk_X7_72 rfl rfl ⟨by decide, by decide⟩ (Nat.le_of_ble_eq_true rfl) (by rw [hG.mc]; exact Nat.le_of_ble_eq_true rfl) (by rw [hG.ms]; exact Nat.le_of_ble_eq_true rfl) dX7_why_6 ?_
  refine ⟨_, rfl, ?_⟩
  refine x_if_eq hG (pc := 9) 21 dX7_why_9 (by decide) (fun h9 => ?_) (fun h9 => ?_)
  · have hx := sIx_0 h9
    refine x_aload_n hG (pc := 21) 0 dX7_why_21 rfl rfl ?_
    refine x_iconst hG (pc := 22) 1 dX7_why_22 (by decide) ?_
    refine x_callV hG hO (pc := 23) [_] c_X7_refuse lk_X7_76 hR0.main rfl rfl ⟨by decide, by decide⟩ (Nat.le_of_ble_eq_true rfl) (by rw [hG.mc]; exact Nat.le_of_ble_eq_true rfl) (by rw [hG.ms]; exact Nat.le_of_ble_eq_true rfl) dX7_why_23 ?_
    refine ⟨_, _, 1, rfl, hR0, fun wr hRr hFr => ?_⟩
    refine x_ireturn hG (pc := 26) dX7_why_26 rfl rfl (by rw [hG.mc]; exact Nat.le_of_ble_eq_true rfl) (by rw [hG.ms]; exact Nat.le_of_ble_eq_true rfl) ?_
    exact hk.ok (k := 1) (v := 0) (S1 := S) (by simp only [oWhy, hx, ↓reduceIte]) hRr (hF0.tr hFr)
  · obtain ⟨k, hx⟩ := sIx_1 h9
    obtain ⟨hkn, rfl⟩ := ixO_some hx (by omega)
    refine x_aload_n hG (pc := 12) 0 dX7_why_12 rfl rfl ?_
    refine x_iload_n hG (pc := 13) 1 dX7_why_13 rfl rfl ?_
    refine x_iload_n hG (pc := 14) 2 dX7_why_14 rfl rfl ?_
    refine x_callV hG hO (pc := 15) [_, _] c_X7_whyNow lk_X7_184 hR0.main rfl rfl ⟨by decide, by decide⟩ (Nat.le_of_ble_eq_true rfl) (by rw [hG.mc]; exact Nat.le_of_ble_eq_true rfl) (by rw [hG.ms]; exact Nat.le_of_ble_eq_true rfl) dX7_why_15 ?_
    refine ⟨lthr L 0, S, k, b, rfl, hR0, hkn, hI, fun w1 hR1 hF1 => ?_⟩
    refine x_goto hG (pc := 18) 26 dX7_why_18 (by decide) ?_
    refine x_ireturn hG (pc := 26) dX7_why_26 rfl rfl (by rw [hG.mc]; exact Nat.le_of_ble_eq_true rfl) (by rw [hG.ms]; exact Nat.le_of_ble_eq_true rfl) ?_
    exact hk.ok (k := 0) (by simp only [oWhy, hx, ↓reduceIte]) hR1 (hF0.tr hF1)
set_option maxHeartbeats 400000 in
set_option maxRecDepth 100000 in
theorem c_X7_ofSection : CtrA yX7_ofSection cX7_ofSection 3 (some .int) (rmk 3 0 0 78) (fun Γ av w post xpost => ∃ (L : LayM) (S : St), ∃ i u, av = [.ref (thM L), .int i, .int u] ∧ RepM Γ L S w ∧ Inv2 S ∧ MOut Γ L w post (oOfS S i u)) := by
  refine ctr_of (by decide) ?_
  rintro g av w hG hO ⟨L, S, i, u, rfl, hR, hI2, hk⟩
  refine ⟨Nat.le_of_ble_eq_true rfl, ?_⟩
  show X g w 0 0 0 [some (.ref (thM L)), some (.int i), some (.int u)] []
  have hI := hI2.1
  have hnM := hI.2.1.1
  have hnN := hI.2.1.2.1
  have hnE := hI.2.1.2.2
  refine x_aload_n hG (pc := 0) 0 dX7_ofSection_0 rfl rfl ?_
  refine x_iconst hG (pc := 1) 0 dX7_ofSection_1 (by decide) ?_
  refine x_putf hG (pc := 2) fl_X7_31 fw_9 ft_9_0 hR.main (Nat.le_of_ble_eq_true rfl) rfl rfl (by dsimp only [List.set]) dX7_ofSection_2 ?_
  refine x_gen (fun w0 e0 => ?_)
  obtain ⟨hR0, hF0⟩ := hR.uT e0
  refine x_iload_n hG (pc := 5) 1 dX7_ofSection_5 rfl rfl ?_
  refine x_callS hG hO (pc := 6) [_] c_X7_isSection lk_X7_72 rfl rfl ⟨by decide, by decide⟩ (Nat.le_of_ble_eq_true rfl) (by rw [hG.mc]; exact Nat.le_of_ble_eq_true rfl) (by rw [hG.ms]; exact Nat.le_of_ble_eq_true rfl) dX7_ofSection_6 ?_
  refine ⟨_, rfl, ?_⟩
  refine x_if_ne hG (pc := 9) 18 dX7_ofSection_9 (by decide) (fun h9 => ?_) (fun h9 => ?_)
  · obtain ⟨k, hx⟩ := sIx_1 h9
    obtain ⟨hkn, rfl⟩ := ixO_some hx (by omega)
    refine x_iload_n hG (pc := 18) 2 dX7_ofSection_18 rfl rfl ?_
    refine x_iconst hG (pc := 19) 0 dX7_ofSection_19 (by decide) ?_
    refine x_bipush hG (pc := 20) 7 dX7_ofSection_20 (by decide) ?_
    refine x_callS hG hO (pc := 22) [_, _, _] c_X7_is lk_X7_68 rfl rfl ⟨by decide, by decide⟩ (Nat.le_of_ble_eq_true rfl) (by rw [hG.mc]; exact Nat.le_of_ble_eq_true rfl) (by rw [hG.ms]; exact Nat.le_of_ble_eq_true rfl) dX7_ofSection_22 ?_
    refine ⟨_, _, _, rfl, ?_⟩
    rw [show s_is u 0 7 = sIx (ixO u 8) from s_is_ix (n := 8) (by decide)]
    refine x_if_eq hG (pc := 25) 37 dX7_ofSection_25 (by decide) (fun h25 => ?_) (fun h25 => ?_)
    · have hxv := sIx_0 h25
      refine x_aload_n hG (pc := 37) 0 dX7_ofSection_37 rfl rfl ?_
      refine x_iconst hG (pc := 38) 2 dX7_ofSection_38 (by decide) ?_
      refine x_callV hG hO (pc := 39) [_] c_X7_refuse lk_X7_76 hR0.main rfl rfl ⟨by decide, by decide⟩ (Nat.le_of_ble_eq_true rfl) (by rw [hG.mc]; exact Nat.le_of_ble_eq_true rfl) (by rw [hG.ms]; exact Nat.le_of_ble_eq_true rfl) dX7_ofSection_39 ?_
      refine ⟨_, _, 2, rfl, hR0, fun wr hRr hFr => ?_⟩
      refine x_ireturn hG (pc := 42) dX7_ofSection_42 rfl rfl (by rw [hG.mc]; exact Nat.le_of_ble_eq_true rfl) (by rw [hG.ms]; exact Nat.le_of_ble_eq_true rfl) ?_
      exact hk.ok (k := 2) (v := 0) (S1 := S) (by simp only [oOfS, hx, hxv, ↓reduceIte]) hRr (hF0.tr hFr)
    · obtain ⟨v, hxv⟩ := sIx_1 h25
      obtain ⟨hvn, rfl⟩ := ixO_some hxv (by omega)
      refine x_aload_n hG (pc := 28) 0 dX7_ofSection_28 rfl rfl ?_
      refine x_iload_n hG (pc := 29) 1 dX7_ofSection_29 rfl rfl ?_
      refine x_iload_n hG (pc := 30) 2 dX7_ofSection_30 rfl rfl ?_
      refine x_callV hG hO (pc := 31) [_, _] c_X7_ofSectionNow lk_X7_171 hR0.main rfl rfl ⟨by decide, by decide⟩ (Nat.le_of_ble_eq_true rfl) (by rw [hG.mc]; exact Nat.le_of_ble_eq_true rfl) (by rw [hG.ms]; exact Nat.le_of_ble_eq_true rfl) dX7_ofSection_31 ?_
      refine ⟨lthr L 0, S, k, v, rfl, hR0, hkn, hvn, ?_⟩
      refine x_goto hG (pc := 34) 42 dX7_ofSection_34 (by decide) ?_
      refine x_ireturn hG (pc := 42) dX7_ofSection_42 rfl rfl (by rw [hG.mc]; exact Nat.le_of_ble_eq_true rfl) (by rw [hG.ms]; exact Nat.le_of_ble_eq_true rfl) ?_
      exact hk.ok (k := 0) (by simp only [oOfS, hx, hxv, ↓reduceIte]) hR0 hF0
  · have hx := sIx_0 h9
    refine x_aload_n hG (pc := 12) 0 dX7_ofSection_12 rfl rfl ?_
    refine x_iconst hG (pc := 13) 1 dX7_ofSection_13 (by decide) ?_
    refine x_callV hG hO (pc := 14) [_] c_X7_refuse lk_X7_76 hR0.main rfl rfl ⟨by decide, by decide⟩ (Nat.le_of_ble_eq_true rfl) (by rw [hG.mc]; exact Nat.le_of_ble_eq_true rfl) (by rw [hG.ms]; exact Nat.le_of_ble_eq_true rfl) dX7_ofSection_14 ?_
    refine ⟨_, _, 1, rfl, hR0, fun wr hRr hFr => ?_⟩
    refine x_ireturn hG (pc := 17) dX7_ofSection_17 rfl rfl (by rw [hG.mc]; exact Nat.le_of_ble_eq_true rfl) (by rw [hG.ms]; exact Nat.le_of_ble_eq_true rfl) ?_
    exact hk.ok (k := 1) (v := 0) (S1 := S) (by simp only [oOfS, hx, ↓reduceIte]) hRr (hF0.tr hFr)
set_option maxHeartbeats 400000 in
set_option maxRecDepth 100000 in
theorem c_X7_ofMachine : CtrA yX7_ofMachine cX7_ofMachine 3 (some .int) (rmk 3 0 0 64) (fun Γ av w post xpost => ∃ (L : LayM) (S : St), ∃ i u, av = [.ref (thM L), .int i, .int u] ∧ RepM Γ L S w ∧ Inv2 S ∧ MOut Γ L w post (oOfM S i u)) := by
  refine ctr_of (by decide) ?_
  rintro g av w hG hO ⟨L, S, i, u, rfl, hR, hI2, hk⟩
  refine ⟨Nat.le_of_ble_eq_true rfl, ?_⟩
  show X g w 0 0 0 [some (.ref (thM L)), some (.int i), some (.int u)] []
  have hI := hI2.1
  have hnM := hI.2.1.1
  have hnN := hI.2.1.2.1
  have hnE := hI.2.1.2.2
  refine x_aload_n hG (pc := 0) 0 dX7_ofMachine_0 rfl rfl ?_
  refine x_iconst hG (pc := 1) 0 dX7_ofMachine_1 (by decide) ?_
  refine x_putf hG (pc := 2) fl_X7_31 fw_9 ft_9_0 hR.main (Nat.le_of_ble_eq_true rfl) rfl rfl (by dsimp only [List.set]) dX7_ofMachine_2 ?_
  refine x_gen (fun w0 e0 => ?_)
  obtain ⟨hR0, hF0⟩ := hR.uT e0
  refine x_aload_n hG (pc := 5) 0 dX7_ofMachine_5 rfl rfl ?_
  refine x_iload_n hG (pc := 6) 1 dX7_ofMachine_6 rfl rfl ?_
  refine x_callV hG hO (pc := 7) [_] c_X7_isMachine lk_X7_125 hR0.main rfl rfl ⟨by decide, by decide⟩ (Nat.le_of_ble_eq_true rfl) (by rw [hG.mc]; exact Nat.le_of_ble_eq_true rfl) (by rw [hG.ms]; exact Nat.le_of_ble_eq_true rfl) dX7_ofMachine_7 ?_
  refine ⟨_, S, _, rfl, hR0, by omega, ?_⟩
  refine x_if_ne hG (pc := 10) 19 dX7_ofMachine_10 (by decide) (fun h10 => ?_) (fun h10 => ?_)
  · obtain ⟨k, hx⟩ := sIx_1 h10
    obtain ⟨hkn, rfl⟩ := ixO_some hx (by omega)
    refine x_iload_n hG (pc := 19) 2 dX7_ofMachine_19 rfl rfl ?_
    refine x_iconst hG (pc := 20) 0 dX7_ofMachine_20 (by decide) ?_
    refine x_iconst hG (pc := 21) 3 dX7_ofMachine_21 (by decide) ?_
    refine x_callS hG hO (pc := 22) [_, _, _] c_X7_is lk_X7_68 rfl rfl ⟨by decide, by decide⟩ (Nat.le_of_ble_eq_true rfl) (by rw [hG.mc]; exact Nat.le_of_ble_eq_true rfl) (by rw [hG.ms]; exact Nat.le_of_ble_eq_true rfl) dX7_ofMachine_22 ?_
    refine ⟨_, _, _, rfl, ?_⟩
    rw [show s_is u 0 3 = sIx (ixO u 4) from s_is_ix (n := 4) (by decide)]
    refine x_if_eq hG (pc := 25) 44 dX7_ofMachine_25 (by decide) (fun h25 => ?_) (fun h25 => ?_)
    · have hxv := sIx_0 h25
      refine x_aload_n hG (pc := 44) 0 dX7_ofMachine_44 rfl rfl ?_
      refine x_iconst hG (pc := 45) 2 dX7_ofMachine_45 (by decide) ?_
      refine x_callV hG hO (pc := 46) [_] c_X7_refuse lk_X7_76 hR0.main rfl rfl ⟨by decide, by decide⟩ (Nat.le_of_ble_eq_true rfl) (by rw [hG.mc]; exact Nat.le_of_ble_eq_true rfl) (by rw [hG.ms]; exact Nat.le_of_ble_eq_true rfl) dX7_ofMachine_46 ?_
      refine ⟨_, _, 2, rfl, hR0, fun wr hRr hFr => ?_⟩
      refine x_ireturn hG (pc := 49) dX7_ofMachine_49 rfl rfl (by rw [hG.mc]; exact Nat.le_of_ble_eq_true rfl) (by rw [hG.ms]; exact Nat.le_of_ble_eq_true rfl) ?_
      exact hk.ok (k := 2) (v := 0) (S1 := S) (by simp only [oOfM, hx, hxv, ↓reduceIte]) hRr (hF0.tr hFr)
    · obtain ⟨v, hxv⟩ := sIx_1 h25
      obtain ⟨hvn, rfl⟩ := ixO_some hxv (by omega)
      refine x_aload_n hG (pc := 28) 0 dX7_ofMachine_28 rfl rfl ?_
      refine x_getf hG (pc := 29) fl_X7_17 hR0.main rfl dX7_ofMachine_29 ?_
      refine x_iload_n hG (pc := 32) 1 dX7_ofMachine_32 rfl rfl ?_
      refine x_callV hG hO (pc := 33) [_] c_Jx4a65c_get_915e3 lk_X7_52 (hR0.lst (id := 1) (by decide)).1 rfl rfl ⟨by decide, by decide⟩ (Nat.le_of_ble_eq_true rfl) (by rw [hG.mc]; exact Nat.le_of_ble_eq_true rfl) (by rw [hG.ms]; exact Nat.le_of_ble_eq_true rfl) dX7_ofMachine_33 ?_
      refine ⟨_, _, _, _, _, _, _, _, k, rfl, (hR0.lst (id := 1) (by decide)), hkn, ?_⟩
      show X g _ _ _ _ _ (.ref (L.1 (56, k, 0)) :: _)
      refine x_castI hG (pc := 36) ckl_X7_56 (hR0.mac hkn) dX7_ofMachine_36 ?_
      refine x_iload_n hG (pc := 39) 2 dX7_ofMachine_39 rfl rfl ?_
      refine x_ialdN hG (pc := 40) (c := v) (hR0.mac hkn) (by omega) dX7_ofMachine_40 ?_ (hv := rfl)
      refine x_goto hG (pc := 41) 49 dX7_ofMachine_41 (by decide) ?_
      refine x_ireturn hG (pc := 49) dX7_ofMachine_49 rfl rfl (by rw [hG.mc]; exact Nat.le_of_ble_eq_true rfl) (by rw [hG.ms]; exact Nat.le_of_ble_eq_true rfl) ?_
      exact hk.ok (k := 0) (by simp only [oOfM, hx, hxv, ↓reduceIte]) hR0 hF0
  · have hx := sIx_0 h10
    refine x_aload_n hG (pc := 13) 0 dX7_ofMachine_13 rfl rfl ?_
    refine x_iconst hG (pc := 14) 1 dX7_ofMachine_14 (by decide) ?_
    refine x_callV hG hO (pc := 15) [_] c_X7_refuse lk_X7_76 hR0.main rfl rfl ⟨by decide, by decide⟩ (Nat.le_of_ble_eq_true rfl) (by rw [hG.mc]; exact Nat.le_of_ble_eq_true rfl) (by rw [hG.ms]; exact Nat.le_of_ble_eq_true rfl) dX7_ofMachine_15 ?_
    refine ⟨_, _, 1, rfl, hR0, fun wr hRr hFr => ?_⟩
    refine x_ireturn hG (pc := 18) dX7_ofMachine_18 rfl rfl (by rw [hG.mc]; exact Nat.le_of_ble_eq_true rfl) (by rw [hG.ms]; exact Nat.le_of_ble_eq_true rfl) ?_
    exact hk.ok (k := 1) (v := 0) (S1 := S) (by simp only [oOfM, hx, ↓reduceIte]) hRr (hF0.tr hFr)
set_option maxHeartbeats 400000 in
set_option maxRecDepth 100000 in
theorem c_X7_ofPossession : CtrA yX7_ofPossession cX7_ofPossession 3 (some .int) (rmk 4 0 0 86) (fun Γ av w post xpost => ∃ (L : LayM) (S : St), ∃ i u, av = [.ref (thM L), .int i, .int u] ∧ RepM Γ L S w ∧ Inv2 S ∧ MOut Γ L w post (oOfN S i u)) := by
  refine ctr_of (by decide) ?_
  rintro g av w hG hO ⟨L, S, i, u, rfl, hR, hI2, hk⟩
  refine ⟨Nat.le_of_ble_eq_true rfl, ?_⟩
  show X g w 0 0 0 [some (.ref (thM L)), some (.int i), some (.int u)] []
  have hI := hI2.1
  have hnM := hI.2.1.1
  have hnN := hI.2.1.2.1
  have hnE := hI.2.1.2.2
  refine x_aload_n hG (pc := 0) 0 dX7_ofPossession_0 rfl rfl ?_
  refine x_iconst hG (pc := 1) 0 dX7_ofPossession_1 (by decide) ?_
  refine x_putf hG (pc := 2) fl_X7_31 fw_9 ft_9_0 hR.main (Nat.le_of_ble_eq_true rfl) rfl rfl (by dsimp only [List.set]) dX7_ofPossession_2 ?_
  refine x_gen (fun w0 e0 => ?_)
  obtain ⟨hR0, hF0⟩ := hR.uT e0
  refine x_aload_n hG (pc := 5) 0 dX7_ofPossession_5 rfl rfl ?_
  refine x_iload_n hG (pc := 6) 1 dX7_ofPossession_6 rfl rfl ?_
  refine x_callV hG hO (pc := 7) [_] c_X7_isNight lk_X7_136 hR0.main rfl rfl ⟨by decide, by decide⟩ (Nat.le_of_ble_eq_true rfl) (by rw [hG.mc]; exact Nat.le_of_ble_eq_true rfl) (by rw [hG.ms]; exact Nat.le_of_ble_eq_true rfl) dX7_ofPossession_7 ?_
  refine ⟨_, S, _, rfl, hR0, by omega, ?_⟩
  refine x_if_ne hG (pc := 10) 19 dX7_ofPossession_10 (by decide) (fun h10 => ?_) (fun h10 => ?_)
  · obtain ⟨k, hx⟩ := sIx_1 h10
    obtain ⟨hkn, rfl⟩ := ixO_some hx (by omega)
    refine x_iload_n hG (pc := 19) 2 dX7_ofPossession_19 rfl rfl ?_
    refine x_iconst hG (pc := 20) 0 dX7_ofPossession_20 (by decide) ?_
    refine x_bipush hG (pc := 21) 9 dX7_ofPossession_21 (by decide) ?_
    refine x_callS hG hO (pc := 23) [_, _, _] c_X7_is lk_X7_68 rfl rfl ⟨by decide, by decide⟩ (Nat.le_of_ble_eq_true rfl) (by rw [hG.mc]; exact Nat.le_of_ble_eq_true rfl) (by rw [hG.ms]; exact Nat.le_of_ble_eq_true rfl) dX7_ofPossession_23 ?_
    refine ⟨_, _, _, rfl, ?_⟩
    rw [show s_is u 0 9 = sIx (ixO u 10) from s_is_ix (n := 10) (by decide)]
    refine x_if_eq hG (pc := 26) 38 dX7_ofPossession_26 (by decide) (fun h26 => ?_) (fun h26 => ?_)
    · have hxv := sIx_0 h26
      refine x_aload_n hG (pc := 38) 0 dX7_ofPossession_38 rfl rfl ?_
      refine x_iconst hG (pc := 39) 2 dX7_ofPossession_39 (by decide) ?_
      refine x_callV hG hO (pc := 40) [_] c_X7_refuse lk_X7_76 hR0.main rfl rfl ⟨by decide, by decide⟩ (Nat.le_of_ble_eq_true rfl) (by rw [hG.mc]; exact Nat.le_of_ble_eq_true rfl) (by rw [hG.ms]; exact Nat.le_of_ble_eq_true rfl) dX7_ofPossession_40 ?_
      refine ⟨_, _, 2, rfl, hR0, fun wr hRr hFr => ?_⟩
      refine x_ireturn hG (pc := 43) dX7_ofPossession_43 rfl rfl (by rw [hG.mc]; exact Nat.le_of_ble_eq_true rfl) (by rw [hG.ms]; exact Nat.le_of_ble_eq_true rfl) ?_
      exact hk.ok (k := 2) (v := 0) (S1 := S) (by simp only [oOfN, hx, hxv, ↓reduceIte]) hRr (hF0.tr hFr)
    · obtain ⟨v, hxv⟩ := sIx_1 h26
      obtain ⟨hvn, rfl⟩ := ixO_some hxv (by omega)
      refine x_aload_n hG (pc := 29) 0 dX7_ofPossession_29 rfl rfl ?_
      refine x_iload_n hG (pc := 30) 1 dX7_ofPossession_30 rfl rfl ?_
      refine x_iload_n hG (pc := 31) 2 dX7_ofPossession_31 rfl rfl ?_
      refine x_callV hG hO (pc := 32) [_, _] c_X7_ofNightNow lk_X7_188 hR0.main rfl rfl ⟨by decide, by decide⟩ (Nat.le_of_ble_eq_true rfl) (by rw [hG.mc]; exact Nat.le_of_ble_eq_true rfl) (by rw [hG.ms]; exact Nat.le_of_ble_eq_true rfl) dX7_ofPossession_32 ?_
      refine ⟨lthr L 0, S, k, v, rfl, hR0, hkn, hvn, (hI.2.2.2.1 k hkn).2.2.1, ?_⟩
      refine x_goto hG (pc := 35) 43 dX7_ofPossession_35 (by decide) ?_
      refine x_ireturn hG (pc := 43) dX7_ofPossession_43 rfl rfl (by rw [hG.mc]; exact Nat.le_of_ble_eq_true rfl) (by rw [hG.ms]; exact Nat.le_of_ble_eq_true rfl) ?_
      exact hk.ok (k := 0) (by simp only [oOfN, hx, hxv, ↓reduceIte]) hR0 hF0
  · have hx := sIx_0 h10
    refine x_aload_n hG (pc := 13) 0 dX7_ofPossession_13 rfl rfl ?_
    refine x_iconst hG (pc := 14) 1 dX7_ofPossession_14 (by decide) ?_
    refine x_callV hG hO (pc := 15) [_] c_X7_refuse lk_X7_76 hR0.main rfl rfl ⟨by decide, by decide⟩ (Nat.le_of_ble_eq_true rfl) (by rw [hG.mc]; exact Nat.le_of_ble_eq_true rfl) (by rw [hG.ms]; exact Nat.le_of_ble_eq_true rfl) dX7_ofPossession_15 ?_
    refine ⟨_, _, 1, rfl, hR0, fun wr hRr hFr => ?_⟩
    refine x_ireturn hG (pc := 18) dX7_ofPossession_18 rfl rfl (by rw [hG.mc]; exact Nat.le_of_ble_eq_true rfl) (by rw [hG.ms]; exact Nat.le_of_ble_eq_true rfl) ?_
    exact hk.ok (k := 1) (v := 0) (S1 := S) (by simp only [oOfN, hx, ↓reduceIte]) hRr (hF0.tr hFr)
set_option maxHeartbeats 400000 in
set_option maxRecDepth 100000 in
theorem c_X7_couldSee : CtrA yX7_couldSee cX7_couldSee 2 (some .int) (rmk 4 0 0 88) (fun Γ av w post xpost => ∃ (L : LayM) (S : St), ∃ i, av = [.ref (thM L), .int i] ∧ RepM Γ L S w ∧ Inv2 S ∧ MOut Γ L w post (oSee S i)) := by
  refine ctr_of (by decide) ?_
  rintro g av w hG hO ⟨L, S, i, rfl, hR, hI2, hk⟩
  refine ⟨Nat.le_of_ble_eq_true rfl, ?_⟩
  show X g w 0 0 0 [some (.ref (thM L)), some (.int i)] []
  have hI := hI2.1
  have hnM := hI.2.1.1
  have hnN := hI.2.1.2.1
  have hnE := hI.2.1.2.2
  refine x_aload_n hG (pc := 0) 0 dX7_couldSee_0 rfl rfl ?_
  refine x_iconst hG (pc := 1) 0 dX7_couldSee_1 (by decide) ?_
  refine x_putf hG (pc := 2) fl_X7_31 fw_9 ft_9_0 hR.main (Nat.le_of_ble_eq_true rfl) rfl rfl (by dsimp only [List.set]) dX7_couldSee_2 ?_
  refine x_gen (fun w0 e0 => ?_)
  obtain ⟨hR0, hF0⟩ := hR.uT e0
  refine x_iload_n hG (pc := 5) 1 dX7_couldSee_5 rfl rfl ?_
  refine x_callS hG hO (pc := 6) [_] c_X7_isSection lk_X7_72 rfl rfl ⟨by decide, by decide⟩ (Nat.le_of_ble_eq_true rfl) (by rw [hG.mc]; exact Nat.le_of_ble_eq_true rfl) (by rw [hG.ms]; exact Nat.le_of_ble_eq_true rfl) dX7_couldSee_6 ?_
  refine ⟨_, rfl, ?_⟩
  refine x_if_eq hG (pc := 9) 20 dX7_couldSee_9 (by decide) (fun h9 => ?_) (fun h9 => ?_)
  · have hx := sIx_0 h9
    refine x_aload_n hG (pc := 20) 0 dX7_couldSee_20 rfl rfl ?_
    refine x_iconst hG (pc := 21) 1 dX7_couldSee_21 (by decide) ?_
    refine x_callV hG hO (pc := 22) [_] c_X7_refuse lk_X7_76 hR0.main rfl rfl ⟨by decide, by decide⟩ (Nat.le_of_ble_eq_true rfl) (by rw [hG.mc]; exact Nat.le_of_ble_eq_true rfl) (by rw [hG.ms]; exact Nat.le_of_ble_eq_true rfl) dX7_couldSee_22 ?_
    refine ⟨_, _, 1, rfl, hR0, fun wr hRr hFr => ?_⟩
    refine x_ireturn hG (pc := 25) dX7_couldSee_25 rfl rfl (by rw [hG.mc]; exact Nat.le_of_ble_eq_true rfl) (by rw [hG.ms]; exact Nat.le_of_ble_eq_true rfl) ?_
    exact hk.ok (k := 1) (v := 0) (S1 := S) (by simp only [oSee, hx, ↓reduceIte]) hRr (hF0.tr hFr)
  · obtain ⟨k, hx⟩ := sIx_1 h9
    obtain ⟨hkn, rfl⟩ := ixO_some hx (by omega)
    refine x_aload_n hG (pc := 12) 0 dX7_couldSee_12 rfl rfl ?_
    refine x_iload_n hG (pc := 13) 1 dX7_couldSee_13 rfl rfl ?_
    refine x_callV hG hO (pc := 14) [_] c_X7_seeNow lk_X7_196 hR0.main rfl rfl ⟨by decide, by decide⟩ (Nat.le_of_ble_eq_true rfl) (by rw [hG.mc]; exact Nat.le_of_ble_eq_true rfl) (by rw [hG.ms]; exact Nat.le_of_ble_eq_true rfl) dX7_couldSee_14 ?_
    refine ⟨lthr L 0, S, k, rfl, hR0, hkn, hI, ?_⟩
    refine x_goto hG (pc := 17) 25 dX7_couldSee_17 (by decide) ?_
    refine x_ireturn hG (pc := 25) dX7_couldSee_25 rfl rfl (by rw [hG.mc]; exact Nat.le_of_ble_eq_true rfl) (by rw [hG.ms]; exact Nat.le_of_ble_eq_true rfl) ?_
    exact hk.ok (k := 0) (by simp only [oSee, hx, seV]) hR0 hF0
set_option maxHeartbeats 400000 in
set_option maxRecDepth 100000 in
theorem c_X7_riskNow : CtrA yX7_riskNow cX7_riskNow 5 (some .int) (rmk 4 1 7 90) (fun Γ av w post xpost => ∃ (L : LayM) (S : St), ∃ k t, av = [.ref (thM L), .int (nI k), .int t] ∧ RepM Γ L S w ∧ k < 20 ∧ ¬ t < 0 ∧ t ≤ 40 ∧ Inv S ∧ (∀ w1, RepM Γ L S w1 → FrC w w1 → post (some (.int (riV S k t))) w1)) := by
  refine ctr_of (by decide) ?_
  rintro g av w hG hO ⟨L, S, k, t, rfl, hR, hk20, ht0, ht1, hI, hk⟩
  refine ⟨Nat.le_of_ble_eq_true rfl, ?_⟩
  show X g w 0 0 0 [some (.ref (thM L)), some (.int (nI k)), some (.int t), none, none] []
  refine x_aload_n hG (pc := 0) 0 dX7_riskNow_0 rfl rfl ?_
  refine x_getf hG (pc := 1) fl_X7_11 hR.main rfl dX7_riskNow_1 ?_
  refine x_iload_n hG (pc := 4) 1 dX7_riskNow_4 rfl rfl ?_
  refine x_aaldI hG (pc := 5) hR.secs (vp_in_nI hk20 (by decide)) dX7_riskNow_5 ?_
  rw [nI_clamp (by omega), lE_at hk20]
  show X g _ _ _ _ _ (.ref (L.1 (52, k, 0)) :: _)
  refine x_clone hG (pc := 6) (61, 0, 0) ml_X7_199 (hR.sec hk20) dX7_riskNow_6 (Nat.le_of_ble_eq_true rfl) (Nat.le_of_ble_eq_true rfl) (by rw [hG.mc]; exact Nat.le_of_ble_eq_true rfl) (by rw [hG.ms]; exact Nat.le_of_ble_eq_true rfl) (fun q hfq hnq => ?_)
  refine x_gen (fun w1 e1 => ?_)
  have hq1 := (congrFun e1 q).trans wup_s
  have hR1 := hR.nw hfq e1
  refine x_castI hG (pc := 9) ckl_X7_56 hq1 dX7_riskNow_9 ?_
  refine x_astore_n hG (pc := 12) 3 dX7_riskNow_12 rfl (Nat.le_of_ble_eq_true rfl) rfl (by dsimp only [List.set]) ?_
  refine x_iconst hG (pc := 13) 0 dX7_riskNow_13 (by decide) ?_
  refine x_istore hG (pc := 14) dX7_riskNow_14 (Nat.le_of_ble_eq_true rfl) rfl (by dsimp only [List.set]) ?_
  refine nat_down (P := fun d => (∀ j, j < d → ¬ pRis (sS S k) t (gl S 1) j) → ∀ w2, w2 = wup w q ((61, 0, 0), aI (gK g) 7 (agn (sS S k) t d)) → X g w2 1 7 16 [some (.ref (thM L)), some (.int (nI k)), some (.int t), some (.ref q), some (.int (nI d))] []) 201 (fun d hi ih hN w2 e2 => ?_) 0 (Nat.zero_le _) (fun j h => absurd h (Nat.not_lt_zero _)) w1 e1
  have hq2 := (congrFun e2 q).trans wup_s
  have hR2 := hR.nw hfq e2
  refine x_iload hG (pc := 16) dX7_riskNow_16 rfl ?_
  refine x_sipush hG (pc := 18) 200 dX7_riskNow_18 (by decide) ?_
  refine x_icmp_gt hG (pc := 21) 53 dX7_riskNow_21 (by decide) (fun h21 => ?_) (fun h21 => ?_)
  · have hd : d = 201 := by
      rcases Nat.lt_or_ge d 201 with q | q
      · exact absurd h21 (Int32.not_lt.mpr (nI_le (b := 200) (by omega) (by decide)))
      · omega
    refine x_iconst hG (pc := 53) (-1) dX7_riskNow_53 (by decide) ?_
    refine x_ireturn hG (pc := 54) dX7_riskNow_54 rfl rfl (by rw [hG.mc]; exact Nat.le_of_ble_eq_true rfl) (by rw [hG.ms]; exact Nat.le_of_ble_eq_true rfl) ?_
    exact fin_i (show (-1 : Int32) = _ by unfold riV; rw [fo_f (by rw [← hd]; exact hN)]; rfl) (hk w2 hR2 (FrC.rf.nw hfq e2))
  · have hd : d < 201 := by
      rcases Nat.lt_or_ge d 201 with q | q
      · exact q
      · exact absurd (nI_lt2 (i := 200) (k := d) (by omega) (by omega)) h21
    refine x_aload_n hG (pc := 24) 3 dX7_riskNow_24 rfl rfl ?_
    refine x_bipush hG (pc := 25) 6 dX7_riskNow_25 (by decide) ?_
    refine x_ialdN hG (pc := 27) (c := 6) hq2 (by decide) dX7_riskNow_27 ?_
    refine x_aload_n hG (pc := 28) 3 dX7_riskNow_28 rfl rfl ?_
    refine x_aload_n hG (pc := 29) 0 dX7_riskNow_29 rfl rfl ?_
    refine x_getf hG (pc := 30) fl_X7_27 hR2.main rfl dX7_riskNow_30 ?_
    refine x_callS hG hO (pc := 33) [_, _] c_X7_speedOf lk_X7_44 rfl rfl ⟨by decide, by decide⟩ (Nat.le_of_ble_eq_true rfl) (by rw [hG.mc]; exact Nat.le_of_ble_eq_true rfl) (by rw [hG.ms]; exact Nat.le_of_ble_eq_true rfl) dX7_riskNow_33 ?_
    refine ⟨_, _, _, _, rfl, hq2, ?_⟩
    refine x_icmp_le hG (pc := 36) 42 dX7_riskNow_36 (by decide) (fun h36 => ?_) (fun h36 => ?_)
    · refine x_aload_n hG (pc := 42) 3 dX7_riskNow_42 rfl rfl ?_
      refine x_iload_n hG (pc := 43) 2 dX7_riskNow_43 rfl rfl ?_
      refine x_callS hG hO (pc := 44) [_, _] c_X7_age lk_X7_99 rfl rfl ⟨by decide, by decide⟩ (Nat.le_of_ble_eq_true rfl) (by rw [hG.mc]; exact Nat.le_of_ble_eq_true rfl) (by rw [hG.ms]; exact Nat.le_of_ble_eq_true rfl) dX7_riskNow_44 ?_
      have hIa := agn_iv (hI.1 k hk20) ht0 ht1 d
      refine ⟨_, _, _, t, rfl, hq2, hIa.2.2.1, hIa.2.1.1, ?_⟩
      refine x_gen (fun w3 e3 => ?_)
      refine x_iinc hG (pc := 47) (nI (d + 1)) dX7_riskNow_47 rfl (Nat.le_of_ble_eq_true rfl) rfl (nI_1' d) (by dsimp only [List.set]) ?_
      refine x_goto hG (pc := 50) 16 dX7_riskNow_50 (by decide) ?_
      exact ih (d + 1) (by omega) (by omega) (all_s hN (fun z => z h36)) w3 (by rw [e3, e2, wup_w, agn_s])
    · refine x_iload hG (pc := 39) dX7_riskNow_39 rfl ?_
      refine x_ireturn hG (pc := 41) dX7_riskNow_41 rfl rfl (by rw [hG.mc]; exact Nat.le_of_ble_eq_true rfl) (by rw [hG.ms]; exact Nat.le_of_ble_eq_true rfl) ?_
      exact fin_i (show nI d = _ by unfold riV; rw [fo_t hd hN h36]; rfl) (hk w2 hR2 (FrC.rf.nw hfq e2))
set_option maxHeartbeats 400000 in
set_option maxRecDepth 100000 in
theorem c_X7_firstRisk : CtrA yX7_firstRisk cX7_firstRisk 3 (some .int) (rmk 5 1 7 114) (fun Γ av w post xpost => ∃ (L : LayM) (S : St), ∃ i t, av = [.ref (thM L), .int i, .int t] ∧ RepM Γ L S w ∧ Inv2 S ∧ MOut Γ L w post (oRis S i t)) := by
  refine ctr_of (by decide) ?_
  rintro g av w hG hO ⟨L, S, i, t, rfl, hR, hI2, hk⟩
  refine ⟨Nat.le_of_ble_eq_true rfl, ?_⟩
  show X g w 0 0 0 [some (.ref (thM L)), some (.int i), some (.int t)] []
  have hI := hI2.1
  have hnM := hI.2.1.1
  have hnN := hI.2.1.2.1
  have hnE := hI.2.1.2.2
  refine x_aload_n hG (pc := 0) 0 dX7_firstRisk_0 rfl rfl ?_
  refine x_iconst hG (pc := 1) 0 dX7_firstRisk_1 (by decide) ?_
  refine x_putf hG (pc := 2) fl_X7_31 fw_9 ft_9_0 hR.main (Nat.le_of_ble_eq_true rfl) rfl rfl (by dsimp only [List.set]) dX7_firstRisk_2 ?_
  refine x_gen (fun w0 e0 => ?_)
  obtain ⟨hR0, hF0⟩ := hR.uT e0
  refine x_iload_n hG (pc := 5) 1 dX7_firstRisk_5 rfl rfl ?_
  refine x_callS hG hO (pc := 6) [_] c_X7_isSection lk_X7_72 rfl rfl ⟨by decide, by decide⟩ (Nat.le_of_ble_eq_true rfl) (by rw [hG.mc]; exact Nat.le_of_ble_eq_true rfl) (by rw [hG.ms]; exact Nat.le_of_ble_eq_true rfl) dX7_firstRisk_6 ?_
  refine ⟨_, rfl, ?_⟩
  refine x_if_ne hG (pc := 9) 18 dX7_firstRisk_9 (by decide) (fun h9 => ?_) (fun h9 => ?_)
  · obtain ⟨k, hx⟩ := sIx_1 h9
    obtain ⟨hkn, rfl⟩ := ixO_some hx (by omega)
    refine x_iload_n hG (pc := 18) 2 dX7_firstRisk_18 rfl rfl ?_
    refine x_callS hG hO (pc := 19) [_] c_X7_isTrains lk_X7_112 rfl rfl ⟨by decide, by decide⟩ (Nat.le_of_ble_eq_true rfl) (by rw [hG.mc]; exact Nat.le_of_ble_eq_true rfl) (by rw [hG.ms]; exact Nat.le_of_ble_eq_true rfl) dX7_firstRisk_19 ?_
    refine ⟨_, rfl, ?_⟩
    refine x_if_eq hG (pc := 22) 34 dX7_firstRisk_22 (by decide) (fun h22 => ?_) (fun h22 => ?_)
    · refine x_aload_n hG (pc := 34) 0 dX7_firstRisk_34 rfl rfl ?_
      refine x_iconst hG (pc := 35) 2 dX7_firstRisk_35 (by decide) ?_
      refine x_callV hG hO (pc := 36) [_] c_X7_refuse lk_X7_76 hR0.main rfl rfl ⟨by decide, by decide⟩ (Nat.le_of_ble_eq_true rfl) (by rw [hG.mc]; exact Nat.le_of_ble_eq_true rfl) (by rw [hG.ms]; exact Nat.le_of_ble_eq_true rfl) dX7_firstRisk_36 ?_
      refine ⟨_, _, 2, rfl, hR0, fun wr hRr hFr => ?_⟩
      refine x_ireturn hG (pc := 39) dX7_firstRisk_39 rfl rfl (by rw [hG.mc]; exact Nat.le_of_ble_eq_true rfl) (by rw [hG.ms]; exact Nat.le_of_ble_eq_true rfl) ?_
      exact hk.ok (k := 2) (v := 0) (S1 := S) (by
        rcases is_f h22 with q | ⟨q, q2⟩
        · simp only [oRis, hx, q, ↓reduceIte]
        · simp only [oRis, hx, q, q2, ↓reduceIte]) hRr (hF0.tr hFr)
    · obtain ⟨ht0, ht1⟩ := is_t h22
      refine x_aload_n hG (pc := 25) 0 dX7_firstRisk_25 rfl rfl ?_
      refine x_iload_n hG (pc := 26) 1 dX7_firstRisk_26 rfl rfl ?_
      refine x_iload_n hG (pc := 27) 2 dX7_firstRisk_27 rfl rfl ?_
      refine x_callV hG hO (pc := 28) [_, _] c_X7_riskNow lk_X7_202 hR0.main rfl rfl ⟨by decide, by decide⟩ (Nat.le_of_ble_eq_true rfl) (by rw [hG.mc]; exact Nat.le_of_ble_eq_true rfl) (by rw [hG.ms]; exact Nat.le_of_ble_eq_true rfl) dX7_firstRisk_28 ?_
      refine ⟨lthr L 0, S, k, t, rfl, hR0, hkn, ht0, ht1, hI, fun w1 hR1 hF1 => ?_⟩
      refine x_goto hG (pc := 31) 39 dX7_firstRisk_31 (by decide) ?_
      refine x_ireturn hG (pc := 39) dX7_firstRisk_39 rfl rfl (by rw [hG.mc]; exact Nat.le_of_ble_eq_true rfl) (by rw [hG.ms]; exact Nat.le_of_ble_eq_true rfl) ?_
      exact hk.ok (k := 0) (by simp only [oRis, hx, ht0, ht1, ↓reduceIte, riV]) hR1 (hF0.tr hF1)
  · have hx := sIx_0 h9
    refine x_aload_n hG (pc := 12) 0 dX7_firstRisk_12 rfl rfl ?_
    refine x_iconst hG (pc := 13) 1 dX7_firstRisk_13 (by decide) ?_
    refine x_callV hG hO (pc := 14) [_] c_X7_refuse lk_X7_76 hR0.main rfl rfl ⟨by decide, by decide⟩ (Nat.le_of_ble_eq_true rfl) (by rw [hG.mc]; exact Nat.le_of_ble_eq_true rfl) (by rw [hG.ms]; exact Nat.le_of_ble_eq_true rfl) dX7_firstRisk_14 ?_
    refine ⟨_, _, 1, rfl, hR0, fun wr hRr hFr => ?_⟩
    refine x_ireturn hG (pc := 17) dX7_firstRisk_17 rfl rfl (by rw [hG.mc]; exact Nat.le_of_ble_eq_true rfl) (by rw [hG.ms]; exact Nat.le_of_ble_eq_true rfl) ?_
    exact hk.ok (k := 1) (v := 0) (S1 := S) (by simp only [oRis, hx, ↓reduceIte]) hRr (hF0.tr hFr)
set_option maxHeartbeats 400000 in
set_option maxRecDepth 100000 in
theorem c_X7_costOf : CtrA yX7_costOf cX7_costOf 8 (some .int) (rmk 4 1 7 90) (fun Γ av w post xpost => ∃ (L : LayM) (S : St), ∃ i kd t dn, av = [.ref (thM L), .int (nI i), .int kd, .int t, .int (nI dn)] ∧ RepM Γ L S w ∧ i < 20 ∧ (0 ≤ kd.toInt ∧ kd.toInt ≤ 3) ∧ ¬ t < 0 ∧ t ≤ 40 ∧ dn ≤ 200 ∧ Inv S ∧ (∀ w1, RepM Γ L S w1 → FrC w w1 → post (some (.int (cBeh S i kd t dn))) w1)) := by
  refine ctr_of (by decide) ?_
  rintro g av w hG hO ⟨L, S, i, kd, t, dn, rfl, hR, hi20, hkd, ht0, ht1, hdn, hI, hk⟩
  refine ⟨Nat.le_of_ble_eq_true rfl, ?_⟩
  show X g w 0 0 0 [some (.ref (thM L)), some (.int (nI i)), some (.int kd), some (.int t), some (.int (nI dn)), none, none, none] []
  refine x_aload_n hG (pc := 0) 0 dX7_costOf_0 rfl rfl ?_
  refine x_getf hG (pc := 1) fl_X7_11 hR.main rfl dX7_costOf_1 ?_
  refine x_iload_n hG (pc := 4) 1 dX7_costOf_4 rfl rfl ?_
  refine x_aaldI hG (pc := 5) hR.secs (vp_in_nI hi20 (by decide)) dX7_costOf_5 ?_
  rw [nI_clamp (by omega), lE_at hi20]
  show X g _ _ _ _ _ (.ref (L.1 (52, i, 0)) :: _)
  refine x_clone hG (pc := 6) (61, 0, 0) ml_X7_199 (hR.sec hi20) dX7_costOf_6 (Nat.le_of_ble_eq_true rfl) (Nat.le_of_ble_eq_true rfl) (by rw [hG.mc]; exact Nat.le_of_ble_eq_true rfl) (by rw [hG.ms]; exact Nat.le_of_ble_eq_true rfl) (fun q hfq hnq => ?_)
  refine x_gen (fun w1 e1 => ?_)
  have hq1 := (congrFun e1 q).trans wup_s
  have hR1 := hR.nw hfq e1
  refine x_castI hG (pc := 9) ckl_X7_56 hq1 dX7_costOf_9 ?_
  refine x_astore hG (pc := 12) dX7_costOf_12 (Nat.le_of_ble_eq_true rfl) rfl (by dsimp only [List.set]) ?_
  refine x_iload_n hG (pc := 14) 2 dX7_costOf_14 rfl rfl ?_
  refine x_iconst hG (pc := 15) 2 dX7_costOf_15 (by decide) ?_
  refine x_icmp_le hG (pc := 16) 23 dX7_costOf_16 (by decide) (fun h16 => ?_) (fun h16 => ?_)
  · have hk3 : ¬ kd = 3 := fun z => by rw [z] at h16; exact absurd h16 (by decide)
    have hk2 : kd.toInt ≤ 2 := le_ti h16
    refine x_bipush hG (pc := 23) 30 dX7_costOf_23 (by decide) ?_
    refine x_aload_n hG (pc := 25) 0 dX7_costOf_25 rfl rfl ?_
    refine x_iload_n hG (pc := 26) 2 dX7_costOf_26 rfl rfl ?_
    refine x_iload_n hG (pc := 27) 1 dX7_costOf_27 rfl rfl ?_
    refine x_callV hG hO (pc := 28) [_, _] c_X7_hours lk_X7_142 hR1.main rfl rfl ⟨by decide, by decide⟩ (Nat.le_of_ble_eq_true rfl) (by rw [hG.mc]; exact Nat.le_of_ble_eq_true rfl) (by rw [hG.ms]; exact Nat.le_of_ble_eq_true rfl) dX7_costOf_28 ?_
    refine ⟨L, S, kd, i, rfl, hR1, hi20, ⟨hkd.1, hk2⟩, (hI.1 i hi20).2.2.1, ?_⟩
    refine x_imul hG (pc := 31) dX7_costOf_31 ?_
    refine x_iload_n hG (pc := 32) 2 dX7_costOf_32 rfl rfl ?_
    refine x_iconst hG (pc := 33) 2 dX7_costOf_33 (by decide) ?_
    refine x_icmp_ne hG (pc := 34) 43 dX7_costOf_34 (by decide) (fun h34 => ?_) (fun h34 => ?_)
    · refine x_iconst hG (pc := 43) 0 dX7_costOf_43 (by decide) ?_
      refine x_iadd hG (pc := 44) dX7_costOf_44 ?_
      have hc : (if kd = 3 then 0 else if kd = 2 then 30 * s_hours kd (sS S i 5) + 300 else 30 * s_hours kd (sS S i 5)) = 30 * s_hours kd (sS S i 5) := by rw [if_neg hk3, if_neg h34]
      rw [Int32.add_zero, ← hc]
      refine x_istore hG (pc := 45) dX7_costOf_45 (Nat.le_of_ble_eq_true rfl) rfl (by dsimp only [List.set]) ?_
      refine x_iload_n hG (pc := 47) 2 dX7_costOf_47 rfl rfl ?_
      refine x_iconst hG (pc := 48) 2 dX7_costOf_48 (by decide) ?_
      refine x_icmp_gt hG (pc := 49) 62 dX7_costOf_49 (by decide) (fun h49 => ?_) (fun h49 => ?_)
      · exact absurd h16 (Int32.not_le.mpr h49)
      · refine x_aload hG (pc := 52) dX7_costOf_52 rfl ?_
        refine x_iload_n hG (pc := 54) 2 dX7_costOf_54 rfl rfl ?_
        refine x_aload_n hG (pc := 55) 0 dX7_costOf_55 rfl rfl ?_
        refine x_getf hG (pc := 56) fl_X7_27 hR1.main rfl dX7_costOf_56 ?_
        refine x_callS hG hO (pc := 59) [_, _, _] c_X7_treat lk_X7_161 rfl rfl ⟨by decide, by decide⟩ (Nat.le_of_ble_eq_true rfl) (by rw [hG.mc]; exact Nat.le_of_ble_eq_true rfl) (by rw [hG.ms]; exact Nat.le_of_ble_eq_true rfl) dX7_costOf_59 ?_
        refine ⟨_, _, _, _, _, rfl, hq1, ?_⟩
        refine x_gen (fun w4 e4 => ?_)
        have hz5 : w4 = wup w q ((61, 0, 0), aI (gK g) 7 (cRow S i kd)) := by rw [e4, e1, wup_w, cRow, if_neg hk3]
        obtain ⟨w5, e5⟩ : ∃ w5, w5 = w4 := ⟨_, rfl⟩
        rw [← e5] at hz5 ⊢
        refine x_iconst hG (pc := 62) 0 dX7_costOf_62 (by decide) ?_
        refine x_istore hG (pc := 63) dX7_costOf_63 (Nat.le_of_ble_eq_true rfl) rfl (by dsimp only [List.set]) ?_
        have hIc : IvS (cRow S i kd) := cRow_iv (hI.1 i hi20)
        refine nat_down (P := fun j => ∀ w6, w6 = wup w q ((61, 0, 0), aI (gK g) 7 (agn (cRow S i kd) t j)) → X g w6 1 7 65 [some (.ref (thM L)), some (.int (nI i)), some (.int kd), some (.int t), some (.int (nI dn)), some (.ref q), some (.int (csum (cRow S i kd) t (gl S 1) (if kd = 3 then 0 else if kd = 2 then 30 * s_hours kd (sS S i 5) + 300 else 30 * s_hours kd (sS S i 5)) j)), some (.int (nI j))] []) dn (fun j hj0 ih w6 e6 => ?_) 0 (Nat.zero_le _) w5 hz5
        have hq6 := (congrFun e6 q).trans wup_s
        refine x_iload hG (pc := 65) dX7_costOf_65 rfl ?_
        refine x_iload hG (pc := 67) dX7_costOf_67 rfl ?_
        refine x_icmp_ge hG (pc := 69) 107 dX7_costOf_69 (by decide) (fun h69 => ?_) (fun h69 => ?_)
        · have hje : j = dn := by
            rcases Nat.lt_or_ge j dn with q | q
            · exact absurd h69 (nI_ge q (by omega))
            · omega
          refine x_iload hG (pc := 107) dX7_costOf_107 rfl ?_
          refine x_ireturn hG (pc := 109) dX7_costOf_109 rfl rfl (by rw [hG.mc]; exact Nat.le_of_ble_eq_true rfl) (by rw [hG.ms]; exact Nat.le_of_ble_eq_true rfl) ?_
          subst hje
          exact hk w6 (hR.nw hfq e6) (FrC.rf.nw hfq e6)
        · have hj : j < dn := by
            rcases Nat.lt_or_ge j dn with q | q
            · exact q
            · exact absurd (nI_le q (by omega)) h69
          refine x_aload hG (pc := 72) dX7_costOf_72 rfl ?_
          refine x_iload_n hG (pc := 74) 3 dX7_costOf_74 rfl rfl ?_
          refine x_callS hG hO (pc := 75) [_, _] c_X7_age lk_X7_99 rfl rfl ⟨by decide, by decide⟩ (Nat.le_of_ble_eq_true rfl) (by rw [hG.mc]; exact Nat.le_of_ble_eq_true rfl) (by rw [hG.ms]; exact Nat.le_of_ble_eq_true rfl) dX7_costOf_75 ?_
          have hIa := agn_iv hIc ht0 ht1 j
          refine ⟨_, _, _, t, rfl, hq6, hIa.2.2.1, hIa.2.1.1, ?_⟩
          refine x_gen (fun w7 e7 => ?_)
          have z7 : w7 = wup w q ((61, 0, 0), aI (gK g) 7 (agn (cRow S i kd) t (j + 1))) := by rw [e7, e6, wup_w, agn_s]
          have hq7 := (congrFun z7 q).trans wup_s
          have hR7 := hR.nw hfq z7
          refine x_iload hG (pc := 78) dX7_costOf_78 rfl ?_
          refine x_iload_n hG (pc := 80) 3 dX7_costOf_80 rfl rfl ?_
          refine x_sipush hG (pc := 81) 160 dX7_costOf_81 (by decide) ?_
          refine x_aload hG (pc := 84) dX7_costOf_84 rfl ?_
          refine x_aload_n hG (pc := 86) 0 dX7_costOf_86 rfl rfl ?_
          refine x_getf hG (pc := 87) fl_X7_27 hR7.main rfl dX7_costOf_87 ?_
          refine x_callS hG hO (pc := 90) [_, _] c_X7_speedOf lk_X7_44 rfl rfl ⟨by decide, by decide⟩ (Nat.le_of_ble_eq_true rfl) (by rw [hG.mc]; exact Nat.le_of_ble_eq_true rfl) (by rw [hG.ms]; exact Nat.le_of_ble_eq_true rfl) dX7_costOf_90 ?_
          refine ⟨_, _, _, _, rfl, hq7, ?_⟩
          refine x_isub hG (pc := 93) dX7_costOf_93 ?_
          refine x_imul hG (pc := 94) dX7_costOf_94 ?_
          refine x_bipush hG (pc := 95) 80 dX7_costOf_95 (by decide) ?_
          refine x_idiv hG (pc := 97) dX7_costOf_97 (by decide) ?_
          refine x_iadd hG (pc := 98) dX7_costOf_98 ?_
          refine x_istore hG (pc := 99) dX7_costOf_99 (Nat.le_of_ble_eq_true rfl) rfl (by dsimp only [List.set]) ?_
          refine x_iinc hG (pc := 101) (nI (j + 1)) dX7_costOf_101 rfl (Nat.le_of_ble_eq_true rfl) rfl (nI_1' j) (by dsimp only [List.set]) ?_
          refine x_goto hG (pc := 104) 65 dX7_costOf_104 (by decide) ?_
          exact ih (j + 1) (by omega) (by omega) w7 z7
    · refine x_sipush hG (pc := 37) 300 dX7_costOf_37 (by decide) ?_
      refine x_goto hG (pc := 40) 44 dX7_costOf_40 (by decide) ?_
      refine x_iadd hG (pc := 44) dX7_costOf_44 ?_
      have hc : (if kd = 3 then 0 else if kd = 2 then 30 * s_hours kd (sS S i 5) + 300 else 30 * s_hours kd (sS S i 5)) = 30 * s_hours kd (sS S i 5) + 300 := by rw [if_neg hk3, if_pos h34]
      rw [← hc]
      refine x_istore hG (pc := 45) dX7_costOf_45 (Nat.le_of_ble_eq_true rfl) rfl (by dsimp only [List.set]) ?_
      refine x_iload_n hG (pc := 47) 2 dX7_costOf_47 rfl rfl ?_
      refine x_iconst hG (pc := 48) 2 dX7_costOf_48 (by decide) ?_
      refine x_icmp_gt hG (pc := 49) 62 dX7_costOf_49 (by decide) (fun h49 => ?_) (fun h49 => ?_)
      · exact absurd h16 (Int32.not_le.mpr h49)
      · refine x_aload hG (pc := 52) dX7_costOf_52 rfl ?_
        refine x_iload_n hG (pc := 54) 2 dX7_costOf_54 rfl rfl ?_
        refine x_aload_n hG (pc := 55) 0 dX7_costOf_55 rfl rfl ?_
        refine x_getf hG (pc := 56) fl_X7_27 hR1.main rfl dX7_costOf_56 ?_
        refine x_callS hG hO (pc := 59) [_, _, _] c_X7_treat lk_X7_161 rfl rfl ⟨by decide, by decide⟩ (Nat.le_of_ble_eq_true rfl) (by rw [hG.mc]; exact Nat.le_of_ble_eq_true rfl) (by rw [hG.ms]; exact Nat.le_of_ble_eq_true rfl) dX7_costOf_59 ?_
        refine ⟨_, _, _, _, _, rfl, hq1, ?_⟩
        refine x_gen (fun w4 e4 => ?_)
        have hz5 : w4 = wup w q ((61, 0, 0), aI (gK g) 7 (cRow S i kd)) := by rw [e4, e1, wup_w, cRow, if_neg hk3]
        obtain ⟨w5, e5⟩ : ∃ w5, w5 = w4 := ⟨_, rfl⟩
        rw [← e5] at hz5 ⊢
        refine x_iconst hG (pc := 62) 0 dX7_costOf_62 (by decide) ?_
        refine x_istore hG (pc := 63) dX7_costOf_63 (Nat.le_of_ble_eq_true rfl) rfl (by dsimp only [List.set]) ?_
        have hIc : IvS (cRow S i kd) := cRow_iv (hI.1 i hi20)
        refine nat_down (P := fun j => ∀ w6, w6 = wup w q ((61, 0, 0), aI (gK g) 7 (agn (cRow S i kd) t j)) → X g w6 1 7 65 [some (.ref (thM L)), some (.int (nI i)), some (.int kd), some (.int t), some (.int (nI dn)), some (.ref q), some (.int (csum (cRow S i kd) t (gl S 1) (if kd = 3 then 0 else if kd = 2 then 30 * s_hours kd (sS S i 5) + 300 else 30 * s_hours kd (sS S i 5)) j)), some (.int (nI j))] []) dn (fun j hj0 ih w6 e6 => ?_) 0 (Nat.zero_le _) w5 hz5
        have hq6 := (congrFun e6 q).trans wup_s
        refine x_iload hG (pc := 65) dX7_costOf_65 rfl ?_
        refine x_iload hG (pc := 67) dX7_costOf_67 rfl ?_
        refine x_icmp_ge hG (pc := 69) 107 dX7_costOf_69 (by decide) (fun h69 => ?_) (fun h69 => ?_)
        · have hje : j = dn := by
            rcases Nat.lt_or_ge j dn with q | q
            · exact absurd h69 (nI_ge q (by omega))
            · omega
          refine x_iload hG (pc := 107) dX7_costOf_107 rfl ?_
          refine x_ireturn hG (pc := 109) dX7_costOf_109 rfl rfl (by rw [hG.mc]; exact Nat.le_of_ble_eq_true rfl) (by rw [hG.ms]; exact Nat.le_of_ble_eq_true rfl) ?_
          subst hje
          exact hk w6 (hR.nw hfq e6) (FrC.rf.nw hfq e6)
        · have hj : j < dn := by
            rcases Nat.lt_or_ge j dn with q | q
            · exact q
            · exact absurd (nI_le q (by omega)) h69
          refine x_aload hG (pc := 72) dX7_costOf_72 rfl ?_
          refine x_iload_n hG (pc := 74) 3 dX7_costOf_74 rfl rfl ?_
          refine x_callS hG hO (pc := 75) [_, _] c_X7_age lk_X7_99 rfl rfl ⟨by decide, by decide⟩ (Nat.le_of_ble_eq_true rfl) (by rw [hG.mc]; exact Nat.le_of_ble_eq_true rfl) (by rw [hG.ms]; exact Nat.le_of_ble_eq_true rfl) dX7_costOf_75 ?_
          have hIa := agn_iv hIc ht0 ht1 j
          refine ⟨_, _, _, t, rfl, hq6, hIa.2.2.1, hIa.2.1.1, ?_⟩
          refine x_gen (fun w7 e7 => ?_)
          have z7 : w7 = wup w q ((61, 0, 0), aI (gK g) 7 (agn (cRow S i kd) t (j + 1))) := by rw [e7, e6, wup_w, agn_s]
          have hq7 := (congrFun z7 q).trans wup_s
          have hR7 := hR.nw hfq z7
          refine x_iload hG (pc := 78) dX7_costOf_78 rfl ?_
          refine x_iload_n hG (pc := 80) 3 dX7_costOf_80 rfl rfl ?_
          refine x_sipush hG (pc := 81) 160 dX7_costOf_81 (by decide) ?_
          refine x_aload hG (pc := 84) dX7_costOf_84 rfl ?_
          refine x_aload_n hG (pc := 86) 0 dX7_costOf_86 rfl rfl ?_
          refine x_getf hG (pc := 87) fl_X7_27 hR7.main rfl dX7_costOf_87 ?_
          refine x_callS hG hO (pc := 90) [_, _] c_X7_speedOf lk_X7_44 rfl rfl ⟨by decide, by decide⟩ (Nat.le_of_ble_eq_true rfl) (by rw [hG.mc]; exact Nat.le_of_ble_eq_true rfl) (by rw [hG.ms]; exact Nat.le_of_ble_eq_true rfl) dX7_costOf_90 ?_
          refine ⟨_, _, _, _, rfl, hq7, ?_⟩
          refine x_isub hG (pc := 93) dX7_costOf_93 ?_
          refine x_imul hG (pc := 94) dX7_costOf_94 ?_
          refine x_bipush hG (pc := 95) 80 dX7_costOf_95 (by decide) ?_
          refine x_idiv hG (pc := 97) dX7_costOf_97 (by decide) ?_
          refine x_iadd hG (pc := 98) dX7_costOf_98 ?_
          refine x_istore hG (pc := 99) dX7_costOf_99 (Nat.le_of_ble_eq_true rfl) rfl (by dsimp only [List.set]) ?_
          refine x_iinc hG (pc := 101) (nI (j + 1)) dX7_costOf_101 rfl (Nat.le_of_ble_eq_true rfl) rfl (nI_1' j) (by dsimp only [List.set]) ?_
          refine x_goto hG (pc := 104) 65 dX7_costOf_104 (by decide) ?_
          exact ih (j + 1) (by omega) (by omega) w7 z7
  · have hk3 : kd = 3 := Int32.toInt_inj.mp (by have := mt Int32.le_iff_toInt_le.mpr h16; have e2 : (2 : Int32).toInt = 2 := rfl; have e3 : (3 : Int32).toInt = 3 := rfl; omega)
    refine x_iconst hG (pc := 19) 0 dX7_costOf_19 (by decide) ?_
    refine x_goto hG (pc := 20) 45 dX7_costOf_20 (by decide) ?_
    have hc : (if kd = 3 then 0 else if kd = 2 then 30 * s_hours kd (sS S i 5) + 300 else 30 * s_hours kd (sS S i 5)) = 0 := if_pos hk3
    rw [← hc]
    refine x_istore hG (pc := 45) dX7_costOf_45 (Nat.le_of_ble_eq_true rfl) rfl (by dsimp only [List.set]) ?_
    refine x_iload_n hG (pc := 47) 2 dX7_costOf_47 rfl rfl ?_
    refine x_iconst hG (pc := 48) 2 dX7_costOf_48 (by decide) ?_
    refine x_icmp_gt hG (pc := 49) 62 dX7_costOf_49 (by decide) (fun h49 => ?_) (fun h49 => ?_)
    · have hz5 : w1 = wup w q ((61, 0, 0), aI (gK g) 7 (cRow S i kd)) := by rw [e1, cRow, if_pos hk3]
      obtain ⟨w5, e5⟩ : ∃ w5, w5 = w1 := ⟨_, rfl⟩
      rw [← e5] at hz5 ⊢
      refine x_iconst hG (pc := 62) 0 dX7_costOf_62 (by decide) ?_
      refine x_istore hG (pc := 63) dX7_costOf_63 (Nat.le_of_ble_eq_true rfl) rfl (by dsimp only [List.set]) ?_
      have hIc : IvS (cRow S i kd) := cRow_iv (hI.1 i hi20)
      refine nat_down (P := fun j => ∀ w6, w6 = wup w q ((61, 0, 0), aI (gK g) 7 (agn (cRow S i kd) t j)) → X g w6 1 7 65 [some (.ref (thM L)), some (.int (nI i)), some (.int kd), some (.int t), some (.int (nI dn)), some (.ref q), some (.int (csum (cRow S i kd) t (gl S 1) (if kd = 3 then 0 else if kd = 2 then 30 * s_hours kd (sS S i 5) + 300 else 30 * s_hours kd (sS S i 5)) j)), some (.int (nI j))] []) dn (fun j hj0 ih w6 e6 => ?_) 0 (Nat.zero_le _) w5 hz5
      have hq6 := (congrFun e6 q).trans wup_s
      refine x_iload hG (pc := 65) dX7_costOf_65 rfl ?_
      refine x_iload hG (pc := 67) dX7_costOf_67 rfl ?_
      refine x_icmp_ge hG (pc := 69) 107 dX7_costOf_69 (by decide) (fun h69 => ?_) (fun h69 => ?_)
      · have hje : j = dn := by
          rcases Nat.lt_or_ge j dn with q | q
          · exact absurd h69 (nI_ge q (by omega))
          · omega
        refine x_iload hG (pc := 107) dX7_costOf_107 rfl ?_
        refine x_ireturn hG (pc := 109) dX7_costOf_109 rfl rfl (by rw [hG.mc]; exact Nat.le_of_ble_eq_true rfl) (by rw [hG.ms]; exact Nat.le_of_ble_eq_true rfl) ?_
        subst hje
        exact hk w6 (hR.nw hfq e6) (FrC.rf.nw hfq e6)
      · have hj : j < dn := by
          rcases Nat.lt_or_ge j dn with q | q
          · exact q
          · exact absurd (nI_le q (by omega)) h69
        refine x_aload hG (pc := 72) dX7_costOf_72 rfl ?_
        refine x_iload_n hG (pc := 74) 3 dX7_costOf_74 rfl rfl ?_
        refine x_callS hG hO (pc := 75) [_, _] c_X7_age lk_X7_99 rfl rfl ⟨by decide, by decide⟩ (Nat.le_of_ble_eq_true rfl) (by rw [hG.mc]; exact Nat.le_of_ble_eq_true rfl) (by rw [hG.ms]; exact Nat.le_of_ble_eq_true rfl) dX7_costOf_75 ?_
        have hIa := agn_iv hIc ht0 ht1 j
        refine ⟨_, _, _, t, rfl, hq6, hIa.2.2.1, hIa.2.1.1, ?_⟩
        refine x_gen (fun w7 e7 => ?_)
        have z7 : w7 = wup w q ((61, 0, 0), aI (gK g) 7 (agn (cRow S i kd) t (j + 1))) := by rw [e7, e6, wup_w, agn_s]
        have hq7 := (congrFun z7 q).trans wup_s
        have hR7 := hR.nw hfq z7
        refine x_iload hG (pc := 78) dX7_costOf_78 rfl ?_
        refine x_iload_n hG (pc := 80) 3 dX7_costOf_80 rfl rfl ?_
        refine x_sipush hG (pc := 81) 160 dX7_costOf_81 (by decide) ?_
        refine x_aload hG (pc := 84) dX7_costOf_84 rfl ?_
        refine x_aload_n hG (pc := 86) 0 dX7_costOf_86 rfl rfl ?_
        refine x_getf hG (pc := 87) fl_X7_27 hR7.main rfl dX7_costOf_87 ?_
        refine x_callS hG hO (pc := 90) [_, _] c_X7_speedOf lk_X7_44 rfl rfl ⟨by decide, by decide⟩ (Nat.le_of_ble_eq_true rfl) (by rw [hG.mc]; exact Nat.le_of_ble_eq_true rfl) (by rw [hG.ms]; exact Nat.le_of_ble_eq_true rfl) dX7_costOf_90 ?_
        refine ⟨_, _, _, _, rfl, hq7, ?_⟩
        refine x_isub hG (pc := 93) dX7_costOf_93 ?_
        refine x_imul hG (pc := 94) dX7_costOf_94 ?_
        refine x_bipush hG (pc := 95) 80 dX7_costOf_95 (by decide) ?_
        refine x_idiv hG (pc := 97) dX7_costOf_97 (by decide) ?_
        refine x_iadd hG (pc := 98) dX7_costOf_98 ?_
        refine x_istore hG (pc := 99) dX7_costOf_99 (Nat.le_of_ble_eq_true rfl) rfl (by dsimp only [List.set]) ?_
        refine x_iinc hG (pc := 101) (nI (j + 1)) dX7_costOf_101 rfl (Nat.le_of_ble_eq_true rfl) rfl (nI_1' j) (by dsimp only [List.set]) ?_
        refine x_goto hG (pc := 104) 65 dX7_costOf_104 (by decide) ?_
        exact ih (j + 1) (by omega) (by omega) w7 z7
    · exact absurd (Int32.not_le.mp h16) h49
set_option maxHeartbeats 400000 in
set_option maxRecDepth 100000 in
theorem c_X7_bestNow : CtrA yX7_bestNow cX7_bestNow 8 (some .int) (rmk 5 4 28 117) (fun Γ av w post xpost => ∃ (L : LayM) (S : St), ∃ k t dn, av = [.ref (thM L), .int (nI k), .int t, .int (nI dn)] ∧ RepM Γ L S w ∧ k < 20 ∧ ¬ t < 0 ∧ t ≤ 40 ∧ dn ≤ 200 ∧ Inv S ∧ (∀ w1, RepM Γ L S w1 → FrC w w1 → post (some (.int ((bst S k t dn 3).1))) w1)) := by
  refine ctr_of (by decide) ?_
  rintro g av w hG hO ⟨L, S, k, t, dn, rfl, hR, hk20, ht0, ht1, hdn, hI, hk⟩
  refine ⟨Nat.le_of_ble_eq_true rfl, ?_⟩
  show X g w 0 0 0 [some (.ref (thM L)), some (.int (nI k)), some (.int t), some (.int (nI dn)), none, none, none, none] []
  refine x_iconst hG (pc := 0) 0 dX7_bestNow_0 (by decide) ?_
  refine x_istore hG (pc := 1) dX7_bestNow_1 (Nat.le_of_ble_eq_true rfl) rfl (by dsimp only [List.set]) ?_
  refine x_aload_n hG (pc := 3) 0 dX7_bestNow_3 rfl rfl ?_
  refine x_iload_n hG (pc := 4) 1 dX7_bestNow_4 rfl rfl ?_
  refine x_iconst hG (pc := 5) 0 dX7_bestNow_5 (by decide) ?_
  refine x_iload_n hG (pc := 6) 2 dX7_bestNow_6 rfl rfl ?_
  refine x_iload_n hG (pc := 7) 3 dX7_bestNow_7 rfl rfl ?_
  refine x_callV hG hO (pc := 8) [_, _, _, _] c_X7_costOf lk_X7_205 hR.main rfl rfl ⟨by decide, by decide⟩ (Nat.le_of_ble_eq_true rfl) (by rw [hG.mc]; dsimp only [rmk]; omega) (by rw [hG.ms]; dsimp only [rmk]; omega) dX7_bestNow_8 ?_
  refine ⟨L, S, k, 0, t, dn, rfl, hR, hk20, by decide, ht0, ht1, hdn, hI, fun w1 hR1 hF1 => ?_⟩
  refine x_istore hG (pc := 11) dX7_bestNow_11 (Nat.le_of_ble_eq_true rfl) rfl (by dsimp only [List.set]) ?_
  refine x_iconst hG (pc := 13) 1 dX7_bestNow_13 (by decide) ?_
  refine x_istore hG (pc := 14) dX7_bestNow_14 (Nat.le_of_ble_eq_true rfl) rfl (by dsimp only [List.set]) ?_
  refine nat_down (P := fun m => ∀ w2, RepM (gΓ g) L S w2 → FrC w w2 → ∀ z : Option Value, X g w2 (1 + m) (7 + 7 * m) 16 [some (.ref (thM L)), some (.int (nI k)), some (.int t), some (.int (nI dn)), some (.int (bst S k t dn m).1), some (.int (bst S k t dn m).2), some (.int (nI (m + 1))), z] []) 3 (fun m hi ih w2 hR2 hF2 z => ?_) 0 (Nat.zero_le _) w1 hR1 hF1 none
  refine x_iload hG (pc := 16) dX7_bestNow_16 rfl ?_
  refine x_iconst hG (pc := 18) 4 dX7_bestNow_18 (by decide) ?_
  refine x_icmp_ge hG (pc := 19) 57 dX7_bestNow_19 (by decide) (fun h19 => ?_) (fun h19 => ?_)
  · have hm : m = 3 := by
      rcases Nat.lt_or_ge m 3 with q | q
      · exact absurd h19 (nI_ge (a := m + 1) (b := 4) (by omega) (by decide))
      · omega
    refine x_iload hG (pc := 57) dX7_bestNow_57 rfl ?_
    refine x_ireturn hG (pc := 59) dX7_bestNow_59 rfl rfl (by rw [hG.mc]; dsimp only [rmk]; omega) (by rw [hG.ms]; dsimp only [rmk]; omega) ?_
    subst hm
    exact hk w2 hR2 hF2
  · have hm : m < 3 := by
      rcases Nat.lt_or_ge m 3 with q | q
      · exact q
      · exact absurd (nI_le (a := 4) (b := m + 1) (by omega) (by omega)) h19
    refine x_aload_n hG (pc := 22) 0 dX7_bestNow_22 rfl rfl ?_
    refine x_iload_n hG (pc := 23) 1 dX7_bestNow_23 rfl rfl ?_
    refine x_iload hG (pc := 24) dX7_bestNow_24 rfl ?_
    refine x_iload_n hG (pc := 26) 2 dX7_bestNow_26 rfl rfl ?_
    refine x_iload_n hG (pc := 27) 3 dX7_bestNow_27 rfl rfl ?_
    refine x_callV hG hO (pc := 28) [_, _, _, _] c_X7_costOf lk_X7_205 hR2.main rfl rfl ⟨by decide, by decide⟩ (Nat.le_of_ble_eq_true rfl) (by rw [hG.mc]; dsimp only [rmk]; omega) (by rw [hG.ms]; dsimp only [rmk]; omega) dX7_bestNow_28 ?_
    refine ⟨L, S, k, nI (m + 1), t, dn, rfl, hR2, hk20, by rw [nI_toInt (by omega)]; omega, ht0, ht1, hdn, hI, fun w3 hR3 hF3 => ?_⟩
    refine x_istore hG (pc := 31) dX7_bestNow_31 (Nat.le_of_ble_eq_true rfl) rfl (by dsimp only [List.set]) ?_
    refine x_iload hG (pc := 33) dX7_bestNow_33 rfl ?_
    refine x_iload hG (pc := 35) dX7_bestNow_35 rfl ?_
    refine x_icmp_lt hG (pc := 37) 43 dX7_bestNow_37 (by decide) (fun h37 => ?_) (fun h37 => ?_)
    · have e := bst_f (Int32.not_le.mpr h37)
      refine x_iload hG (pc := 43) dX7_bestNow_43 rfl ?_
      refine x_istore hG (pc := 45) dX7_bestNow_45 (Nat.le_of_ble_eq_true rfl) rfl (by dsimp only [List.set]) ?_
      refine x_iload hG (pc := 47) dX7_bestNow_47 rfl ?_
      refine x_istore hG (pc := 49) dX7_bestNow_49 (Nat.le_of_ble_eq_true rfl) rfl (by dsimp only [List.set]) ?_
      refine x_iinc hG (pc := 51) (nI (m + 1 + 1)) dX7_bestNow_51 rfl (Nat.le_of_ble_eq_true rfl) rfl (nI_1' (m + 1)) (by dsimp only [List.set]) ?_
      refine x_goto hG (pc := 54) 16 dX7_bestNow_54 (by decide) ?_
      have hh := ih (m + 1) (by omega) (by omega) w3 hR3 (hF2.tr hF3)
      rw [e] at hh
      exact hh _
    · have e := bst_t (Int32.not_lt.mp h37)
      refine x_goto hG (pc := 40) 51 dX7_bestNow_40 (by decide) ?_
      refine x_iinc hG (pc := 51) (nI (m + 1 + 1)) dX7_bestNow_51 rfl (Nat.le_of_ble_eq_true rfl) rfl (nI_1' (m + 1)) (by dsimp only [List.set]) ?_
      refine x_goto hG (pc := 54) 16 dX7_bestNow_54 (by decide) ?_
      have hh := ih (m + 1) (by omega) (by omega) w3 hR3 (hF2.tr hF3)
      rw [e] at hh
      exact hh _
set_option maxHeartbeats 400000 in
set_option maxRecDepth 100000 in
theorem c_X7_bestWork : CtrA yX7_bestWork cX7_bestWork 4 (some .int) (rmk 6 4 28 144) (fun Γ av w post xpost => ∃ (L : LayM) (S : St), ∃ i t d, av = [.ref (thM L), .int i, .int t, .int d] ∧ RepM Γ L S w ∧ Inv2 S ∧ MOut Γ L w post (oBst S i t d)) := by
  refine ctr_of (by decide) ?_
  rintro g av w hG hO ⟨L, S, i, t, d, rfl, hR, hI2, hk⟩
  refine ⟨Nat.le_of_ble_eq_true rfl, ?_⟩
  show X g w 0 0 0 [some (.ref (thM L)), some (.int i), some (.int t), some (.int d)] []
  have hI := hI2.1
  have hnM := hI.2.1.1
  have hnN := hI.2.1.2.1
  have hnE := hI.2.1.2.2
  refine x_aload_n hG (pc := 0) 0 dX7_bestWork_0 rfl rfl ?_
  refine x_iconst hG (pc := 1) 0 dX7_bestWork_1 (by decide) ?_
  refine x_putf hG (pc := 2) fl_X7_31 fw_9 ft_9_0 hR.main (Nat.le_of_ble_eq_true rfl) rfl rfl (by dsimp only [List.set]) dX7_bestWork_2 ?_
  refine x_gen (fun w0 e0 => ?_)
  obtain ⟨hR0, hF0⟩ := hR.uT e0
  refine x_iload_n hG (pc := 5) 1 dX7_bestWork_5 rfl rfl ?_
  refine x_callS hG hO (pc := 6) [_] c_X7_isSection lk_X7_72 rfl rfl ⟨by decide, by decide⟩ (Nat.le_of_ble_eq_true rfl) (by rw [hG.mc]; exact Nat.le_of_ble_eq_true rfl) (by rw [hG.ms]; exact Nat.le_of_ble_eq_true rfl) dX7_bestWork_6 ?_
  refine ⟨_, rfl, ?_⟩
  refine x_if_ne hG (pc := 9) 18 dX7_bestWork_9 (by decide) (fun h9 => ?_) (fun h9 => ?_)
  · obtain ⟨k, hx⟩ := sIx_1 h9
    obtain ⟨hkn, rfl⟩ := ixO_some hx (by omega)
    refine x_iload_n hG (pc := 18) 2 dX7_bestWork_18 rfl rfl ?_
    refine x_callS hG hO (pc := 19) [_] c_X7_isTrains lk_X7_112 rfl rfl ⟨by decide, by decide⟩ (Nat.le_of_ble_eq_true rfl) (by rw [hG.mc]; exact Nat.le_of_ble_eq_true rfl) (by rw [hG.ms]; exact Nat.le_of_ble_eq_true rfl) dX7_bestWork_19 ?_
    refine ⟨_, rfl, ?_⟩
    refine x_if_eq hG (pc := 22) 46 dX7_bestWork_22 (by decide) (fun h22 => ?_) (fun h22 => ?_)
    · refine x_aload_n hG (pc := 46) 0 dX7_bestWork_46 rfl rfl ?_
      refine x_iconst hG (pc := 47) 2 dX7_bestWork_47 (by decide) ?_
      refine x_callV hG hO (pc := 48) [_] c_X7_refuse lk_X7_76 hR0.main rfl rfl ⟨by decide, by decide⟩ (Nat.le_of_ble_eq_true rfl) (by rw [hG.mc]; exact Nat.le_of_ble_eq_true rfl) (by rw [hG.ms]; exact Nat.le_of_ble_eq_true rfl) dX7_bestWork_48 ?_
      refine ⟨_, _, 2, rfl, hR0, fun wr hRr hFr => ?_⟩
      refine x_ireturn hG (pc := 51) dX7_bestWork_51 rfl rfl (by rw [hG.mc]; exact Nat.le_of_ble_eq_true rfl) (by rw [hG.ms]; exact Nat.le_of_ble_eq_true rfl) ?_
      exact hk.ok (k := 2) (v := 0) (S1 := S) (by
        rcases is_f h22 with q | ⟨q, q2⟩
        · simp only [oBst, hx, q, ↓reduceIte]
        · simp only [oBst, hx, q, q2, ↓reduceIte]) hRr (hF0.tr hFr)
    · obtain ⟨ht0, ht1⟩ := is_t h22
      refine x_iload_n hG (pc := 25) 3 dX7_bestWork_25 rfl rfl ?_
      refine x_iconst hG (pc := 26) 1 dX7_bestWork_26 (by decide) ?_
      refine x_sipush hG (pc := 27) 200 dX7_bestWork_27 (by decide) ?_
      refine x_callS hG hO (pc := 30) [_, _, _] c_X7_is lk_X7_68 rfl rfl ⟨by decide, by decide⟩ (Nat.le_of_ble_eq_true rfl) (by rw [hG.mc]; exact Nat.le_of_ble_eq_true rfl) (by rw [hG.ms]; exact Nat.le_of_ble_eq_true rfl) dX7_bestWork_30 ?_
      refine ⟨_, _, _, rfl, ?_⟩
      refine x_if_eq hG (pc := 33) 46 dX7_bestWork_33 (by decide) (fun h33 => ?_) (fun h33 => ?_)
      · refine x_aload_n hG (pc := 46) 0 dX7_bestWork_46 rfl rfl ?_
        refine x_iconst hG (pc := 47) 2 dX7_bestWork_47 (by decide) ?_
        refine x_callV hG hO (pc := 48) [_] c_X7_refuse lk_X7_76 hR0.main rfl rfl ⟨by decide, by decide⟩ (Nat.le_of_ble_eq_true rfl) (by rw [hG.mc]; exact Nat.le_of_ble_eq_true rfl) (by rw [hG.ms]; exact Nat.le_of_ble_eq_true rfl) dX7_bestWork_48 ?_
        refine ⟨_, _, 2, rfl, hR0, fun wr hRr hFr => ?_⟩
        refine x_ireturn hG (pc := 51) dX7_bestWork_51 rfl rfl (by rw [hG.mc]; exact Nat.le_of_ble_eq_true rfl) (by rw [hG.ms]; exact Nat.le_of_ble_eq_true rfl) ?_
        exact hk.ok (k := 2) (v := 0) (S1 := S) (by
          rcases is_f h33 with q | ⟨q, q2⟩
          · simp only [oBst, hx, ht0, ht1, q, ↓reduceIte]
          · simp only [oBst, hx, ht0, ht1, q, q2, ↓reduceIte]) hRr (hF0.tr hFr)
      · obtain ⟨hd0, hd1⟩ := is_t h33
        obtain ⟨dn, hdn, rfl⟩ := ix_le (n := 200) hd0 hd1 (by decide)
        refine x_aload_n hG (pc := 36) 0 dX7_bestWork_36 rfl rfl ?_
        refine x_iload_n hG (pc := 37) 1 dX7_bestWork_37 rfl rfl ?_
        refine x_iload_n hG (pc := 38) 2 dX7_bestWork_38 rfl rfl ?_
        refine x_iload_n hG (pc := 39) 3 dX7_bestWork_39 rfl rfl ?_
        refine x_callV hG hO (pc := 40) [_, _, _] c_X7_bestNow lk_X7_209 hR0.main rfl rfl ⟨by decide, by decide⟩ (Nat.le_of_ble_eq_true rfl) (by rw [hG.mc]; exact Nat.le_of_ble_eq_true rfl) (by rw [hG.ms]; exact Nat.le_of_ble_eq_true rfl) dX7_bestWork_40 ?_
        refine ⟨lthr L 0, S, k, t, dn, rfl, hR0, hkn, ht0, ht1, hdn, hI, fun w1 hR1 hF1 => ?_⟩
        refine x_goto hG (pc := 43) 51 dX7_bestWork_43 (by decide) ?_
        refine x_ireturn hG (pc := 51) dX7_bestWork_51 rfl rfl (by rw [hG.mc]; exact Nat.le_of_ble_eq_true rfl) (by rw [hG.ms]; exact Nat.le_of_ble_eq_true rfl) ?_
        exact hk.ok (k := 0) (by simp only [oBst, hx, ht0, ht1, hd0, hd1, ↓reduceIte, nI_clamp (show dn < 2 ^ 31 by omega)]) hR1 (hF0.tr hF1)
  · have hx := sIx_0 h9
    refine x_aload_n hG (pc := 12) 0 dX7_bestWork_12 rfl rfl ?_
    refine x_iconst hG (pc := 13) 1 dX7_bestWork_13 (by decide) ?_
    refine x_callV hG hO (pc := 14) [_] c_X7_refuse lk_X7_76 hR0.main rfl rfl ⟨by decide, by decide⟩ (Nat.le_of_ble_eq_true rfl) (by rw [hG.mc]; exact Nat.le_of_ble_eq_true rfl) (by rw [hG.ms]; exact Nat.le_of_ble_eq_true rfl) dX7_bestWork_14 ?_
    refine ⟨_, _, 1, rfl, hR0, fun wr hRr hFr => ?_⟩
    refine x_ireturn hG (pc := 17) dX7_bestWork_17 rfl rfl (by rw [hG.mc]; exact Nat.le_of_ble_eq_true rfl) (by rw [hG.ms]; exact Nat.le_of_ble_eq_true rfl) ?_
    exact hk.ok (k := 1) (v := 0) (S1 := S) (by simp only [oBst, hx, ↓reduceIte]) hRr (hF0.tr hFr)
set_option maxHeartbeats 400000 in
set_option maxRecDepth 100000 in
theorem c_X7_freeNow : CtrA yX7_freeNow cX7_freeNow 5 (some .int) (rmk 4 17 68 106) (fun Γ av w post xpost => ∃ (L : LayM) (S : St), ∃ t f o, av = [.ref (thM L), .int t, .int f, .int o] ∧ RepM Γ L S w ∧ Inv S ∧ (∀ w1, RepM Γ L S w1 → FrC w w1 → post (some (.int (fre S t f o))) w1)) := by
  refine ctr_of (by decide) ?_
  rintro g av w hG hO ⟨L, S, t, f, o, rfl, hR, hI, hk⟩
  refine ⟨Nat.le_of_ble_eq_true rfl, ?_⟩
  show X g w 0 0 0 [some (.ref (thM L)), some (.int t), some (.int f), some (.int o), none] []
  have hnN := hI.2.1.2.1
  refine x_aload_n hG (pc := 0) 0 dX7_freeNow_0 rfl rfl ?_
  refine x_getf hG (pc := 1) fl_X7_93 hR.main rfl dX7_freeNow_1 ?_
  refine x_iconst hG (pc := 4) 5 dX7_freeNow_4 (by decide) ?_
  refine x_iadd hG (pc := 5) dX7_freeNow_5 ?_
  obtain ⟨g0, hg0, hg⟩ : ∃ g0, g0 < 2001 ∧ gl S 0 = nI g0 := vp_in_of (vp_in_iff.mpr ⟨hI.2.2.2.2.2.1.1, by have := hI.2.2.2.2.2.1.2; omega⟩) (by decide)
  have hfn : frN S = 1996 - g0 := by rw [frN, hg, nI_clamp (by omega)]
  show X g w _ _ _ _ [.int (gl S 0 + 5)]
  have hst : gl S 0 + 5 = nI (g0 + 5 + 0) := by rw [hg]; exact nI_add _ _
  rw [hst]
  refine x_istore hG (pc := 6) dX7_freeNow_6 (Nat.le_of_ble_eq_true rfl) rfl (by dsimp only [List.set]) ?_
  refine nat_down (P := fun d => (∀ j, j < d → ¬ pFre S t f o j) → ∀ w1, RepM (gΓ g) L S w1 → FrC w w1 → X g w1 d (4 * d) 8 [some (.ref (thM L)), some (.int t), some (.int f), some (.int o), some (.int (nI (g0 + 5 + d)))] []) (frN S) (fun d hi ih hN w1 hR1 hF1 => ?_) 0 (Nat.zero_le _) (fun j h => absurd h (Nat.not_lt_zero _)) w hR FrC.rf
  have hpg := fre_pig hI hi hN
  refine x_iload hG (pc := 8) dX7_freeNow_8 rfl ?_
  refine x_sipush hG (pc := 10) 2000 dX7_freeNow_10 (by decide) ?_
  refine x_icmp_gt hG (pc := 13) 37 dX7_freeNow_13 (by decide) (fun h13 => ?_) (fun h13 => ?_)
  · have hd : d = frN S := by
      rcases Nat.lt_or_ge d (frN S) with q | q
      · exact absurd h13 (Int32.not_lt.mpr (nI_le (b := 2000) (by omega) (by decide)))
      · omega
    refine x_iconst hG (pc := 37) (-1) dX7_freeNow_37 (by decide) ?_
    refine x_ireturn hG (pc := 38) dX7_freeNow_38 rfl rfl (by rw [hG.mc]; dsimp only [rmk]; omega) (by rw [hG.ms]; dsimp only [rmk]; omega) ?_
    exact fin_i (show (-1 : Int32) = _ by rw [fre, fo_f (by rw [← hd]; exact hN)]) (hk w1 hR1 hF1)
  · have hd : d < frN S := by
      rcases Nat.lt_or_ge d (frN S) with q | q
      · exact q
      · exact absurd (nI_lt2 (i := 2000) (k := g0 + 5 + d) (by omega) (by omega)) h13
    refine x_aload_n hG (pc := 16) 0 dX7_freeNow_16 rfl rfl ?_
    refine x_iload_n hG (pc := 17) 1 dX7_freeNow_17 rfl rfl ?_
    refine x_iload_n hG (pc := 18) 2 dX7_freeNow_18 rfl rfl ?_
    refine x_iload_n hG (pc := 19) 3 dX7_freeNow_19 rfl rfl ?_
    refine x_iload hG (pc := 20) dX7_freeNow_20 rfl ?_
    refine x_callV hG hO (pc := 22) [_, _, _, _] c_X7_isFree lk_X7_132 hR1.main rfl rfl ⟨by decide, by decide⟩ (Nat.le_of_ble_eq_true rfl) (by rw [hG.mc]; dsimp only [rmk]; omega) (by rw [hG.ms]; dsimp only [rmk]; omega) dX7_freeNow_22 ?_
    refine ⟨L, S, t, f, o, _, rfl, hR1, by omega, fun w2 hR2 hF2 => ?_⟩
    refine x_if_eq hG (pc := 25) 31 dX7_freeNow_25 (by decide) (fun h25 => ?_) (fun h25 => ?_)
    · have hp : ¬ pFre S t f o d := by
        intro q
        unfold pFre at q
        rw [fr_d hg] at q
        rw [q] at h25
        exact absurd h25 (by decide)
      refine x_iinc hG (pc := 31) (nI (g0 + 5 + (d + 1))) dX7_freeNow_31 rfl (Nat.le_of_ble_eq_true rfl) rfl (nI_1' (g0 + 5 + d)) (by dsimp only [List.set]) ?_
      refine x_goto hG (pc := 34) 8 dX7_freeNow_34 (by decide) ?_
      exact ih (d + 1) (by omega) (by omega) (all_s hN hp) w2 hR2 (hF1.tr hF2)
    · have hp : pFre S t f o d := by
        unfold pFre
        rw [fr_d hg]
        rcases ex_01 (p := pOcc S t f o (nI (g0 + 5 + d))) (n := nN S) with q | q
        · exact q
        · rw [q] at h25
          exact absurd (by decide) h25
      refine x_iload hG (pc := 28) dX7_freeNow_28 rfl ?_
      refine x_ireturn hG (pc := 30) dX7_freeNow_30 rfl rfl (by rw [hG.mc]; dsimp only [rmk]; omega) (by rw [hG.ms]; dsimp only [rmk]; omega) ?_
      exact fin_i (show nI (g0 + 5 + d) = _ by rw [fre, fo_t hd hN hp]; exact (fr_d hg d).symm) (hk w2 hR2 (hF1.tr hF2))
set_option maxHeartbeats 400000 in
set_option maxRecDepth 100000 in
theorem c_X7_freeDay : CtrA yX7_freeDay cX7_freeDay 4 (some .int) (rmk 5 17 68 130) (fun Γ av w post xpost => ∃ (L : LayM) (S : St), ∃ t f o, av = [.ref (thM L), .int t, .int f, .int o] ∧ RepM Γ L S w ∧ Inv2 S ∧ MOut Γ L w post (oFre S t f o)) := by
  refine ctr_of (by decide) ?_
  rintro g av w hG hO ⟨L, S, t, f, o, rfl, hR, hI2, hk⟩
  refine ⟨Nat.le_of_ble_eq_true rfl, ?_⟩
  show X g w 0 0 0 [some (.ref (thM L)), some (.int t), some (.int f), some (.int o)] []
  have hI := hI2.1
  have hnM := hI.2.1.1
  have hnN := hI.2.1.2.1
  have hnE := hI.2.1.2.2
  refine x_aload_n hG (pc := 0) 0 dX7_freeDay_0 rfl rfl ?_
  refine x_iconst hG (pc := 1) 0 dX7_freeDay_1 (by decide) ?_
  refine x_putf hG (pc := 2) fl_X7_31 fw_9 ft_9_0 hR.main (Nat.le_of_ble_eq_true rfl) rfl rfl (by dsimp only [List.set]) dX7_freeDay_2 ?_
  refine x_gen (fun w0 e0 => ?_)
  obtain ⟨hR0, hF0⟩ := hR.uT e0
  refine x_iload_n hG (pc := 5) 1 dX7_freeDay_5 rfl rfl ?_
  refine x_iload_n hG (pc := 6) 2 dX7_freeDay_6 rfl rfl ?_
  refine x_iload_n hG (pc := 7) 3 dX7_freeDay_7 rfl rfl ?_
  refine x_callS hG hO (pc := 8) [_, _, _] c_X7_isPart lk_X7_118 rfl rfl ⟨by decide, by decide⟩ (Nat.le_of_ble_eq_true rfl) (by rw [hG.mc]; exact Nat.le_of_ble_eq_true rfl) (by rw [hG.ms]; exact Nat.le_of_ble_eq_true rfl) dX7_freeDay_8 ?_
  refine ⟨_, _, _, rfl, ?_⟩
  refine x_if_ne hG (pc := 11) 20 dX7_freeDay_11 (by decide) (fun h11 => ?_) (fun h11 => ?_)
  · have hp : c_str t f o = if f ≤ o then 0 else 2 := part_c.trans (if_neg h11)
    refine x_iload_n hG (pc := 20) 3 dX7_freeDay_20 rfl rfl ?_
    refine x_iload_n hG (pc := 21) 2 dX7_freeDay_21 rfl rfl ?_
    refine x_icmp_lt hG (pc := 22) 35 dX7_freeDay_22 (by decide) (fun h22 => ?_) (fun h22 => ?_)
    · have hp2 : c_str t f o = 2 := hp.trans (if_neg (Int32.not_le.mpr h22))
      refine x_aload_n hG (pc := 35) 0 dX7_freeDay_35 rfl rfl ?_
      refine x_iconst hG (pc := 36) 2 dX7_freeDay_36 (by decide) ?_
      refine x_callV hG hO (pc := 37) [_] c_X7_refuse lk_X7_76 hR0.main rfl rfl ⟨by decide, by decide⟩ (Nat.le_of_ble_eq_true rfl) (by rw [hG.mc]; exact Nat.le_of_ble_eq_true rfl) (by rw [hG.ms]; exact Nat.le_of_ble_eq_true rfl) dX7_freeDay_37 ?_
      refine ⟨_, _, 2, rfl, hR0, fun wr hRr hFr => ?_⟩
      refine x_ireturn hG (pc := 40) dX7_freeDay_40 rfl rfl (by rw [hG.mc]; exact Nat.le_of_ble_eq_true rfl) (by rw [hG.ms]; exact Nat.le_of_ble_eq_true rfl) ?_
      exact hk.ok (k := 2) (v := 0) (S1 := S) (by simp only [oFre, hp2, ↓reduceIte]) hRr (hF0.tr hFr)
    · have hp2 : c_str t f o = 0 := hp.trans (if_pos (Int32.not_lt.mp h22))
      refine x_aload_n hG (pc := 25) 0 dX7_freeDay_25 rfl rfl ?_
      refine x_iload_n hG (pc := 26) 1 dX7_freeDay_26 rfl rfl ?_
      refine x_iload_n hG (pc := 27) 2 dX7_freeDay_27 rfl rfl ?_
      refine x_iload_n hG (pc := 28) 3 dX7_freeDay_28 rfl rfl ?_
      refine x_callV hG hO (pc := 29) [_, _, _] c_X7_freeNow lk_X7_213 hR0.main rfl rfl ⟨by decide, by decide⟩ (Nat.le_of_ble_eq_true rfl) (by rw [hG.mc]; exact Nat.le_of_ble_eq_true rfl) (by rw [hG.ms]; exact Nat.le_of_ble_eq_true rfl) dX7_freeDay_29 ?_
      refine ⟨lthr L 0, S, t, f, o, rfl, hR0, hI, fun w1 hR1 hF1 => ?_⟩
      refine x_goto hG (pc := 32) 40 dX7_freeDay_32 (by decide) ?_
      refine x_ireturn hG (pc := 40) dX7_freeDay_40 rfl rfl (by rw [hG.mc]; exact Nat.le_of_ble_eq_true rfl) (by rw [hG.ms]; exact Nat.le_of_ble_eq_true rfl) ?_
      exact hk.ok (k := 0) (by simp only [oFre, hp2, ↓reduceIte]) hR1 (hF0.tr hF1)
  · have hp : c_str t f o = 1 := part_c.trans (if_pos h11)
    refine x_aload_n hG (pc := 14) 0 dX7_freeDay_14 rfl rfl ?_
    refine x_iconst hG (pc := 15) 1 dX7_freeDay_15 (by decide) ?_
    refine x_callV hG hO (pc := 16) [_] c_X7_refuse lk_X7_76 hR0.main rfl rfl ⟨by decide, by decide⟩ (Nat.le_of_ble_eq_true rfl) (by rw [hG.mc]; exact Nat.le_of_ble_eq_true rfl) (by rw [hG.ms]; exact Nat.le_of_ble_eq_true rfl) dX7_freeDay_16 ?_
    refine ⟨_, _, 1, rfl, hR0, fun wr hRr hFr => ?_⟩
    refine x_ireturn hG (pc := 19) dX7_freeDay_19 rfl rfl (by rw [hG.mc]; exact Nat.le_of_ble_eq_true rfl) (by rw [hG.ms]; exact Nat.le_of_ble_eq_true rfl) ?_
    exact hk.ok (k := 1) (v := 0) (S1 := S) (by simp only [oFre, hp, ↓reduceIte]) hRr (hF0.tr hFr)
set_option maxHeartbeats 400000 in
set_option maxRecDepth 100000 in
theorem c_X7_meanWear : CtrA yX7_meanWear cX7_meanWear 4 (some .double) (rmk 1 0 0 22) (fun Γ av w post xpost => ∃ (L : LayM) (S : St), ∃ t, av = [.ref (thM L), .int t] ∧ RepM Γ L S w ∧ Inv2 S ∧ (∀ k, k < 2 → t = nI k → ∀ w1, RepM Γ (lthr L 0) S w1 → FrC w w1 → post (some (.double (FP.ddiv (FP.i2d (mwS S k)) 0x4024000000000000))) w1) ∧ ((t < 0 ∨ ¬ t < 2) → ∀ w1, RepM Γ (lthr L 1) S w1 → FrC w w1 → post (some (.double FP.dconst0)) w1)) := by
  refine ctr_of (by decide) ?_
  rintro g av w hG hO ⟨L, S, t, rfl, hR, hI2, hk, hx⟩
  refine ⟨Nat.le_of_ble_eq_true rfl, ?_⟩
  show X g w 0 0 0 [some (.ref (thM L)), some (.int t), none, none] []
  have hI := hI2.1
  have hnM := hI.2.1.1
  have hnN := hI.2.1.2.1
  have hnE := hI.2.1.2.2
  refine x_aload_n hG (pc := 0) 0 dX7_meanWear_0 rfl rfl ?_
  refine x_iload_n hG (pc := 1) 1 dX7_meanWear_1 rfl rfl ?_
  refine x_iconst hG (pc := 2) 0 dX7_meanWear_2 (by decide) ?_
  refine x_iconst hG (pc := 3) 1 dX7_meanWear_3 (by decide) ?_
  refine x_callS hG hO (pc := 4) [_, _, _] c_X7_is lk_X7_68 rfl rfl ⟨by decide, by decide⟩ (Nat.le_of_ble_eq_true rfl) (by rw [hG.mc]; exact Nat.le_of_ble_eq_true rfl) (by rw [hG.ms]; exact Nat.le_of_ble_eq_true rfl) dX7_meanWear_4 ?_
  refine ⟨_, _, _, rfl, ?_⟩
  refine x_if_eq hG (pc := 7) 14 dX7_meanWear_7 (by decide) (fun h7 => ?_) (fun h7 => ?_)
  · refine x_iconst hG (pc := 14) 1 dX7_meanWear_14 (by decide) ?_
    refine x_putf hG (pc := 15) fl_X7_31 fw_9 ft_9_0 hR.main (Nat.le_of_ble_eq_true rfl) rfl rfl (by dsimp only [List.set]) dX7_meanWear_15 ?_
    refine x_gen (fun w0 e0 => ?_)
    obtain ⟨hR0, hF0⟩ := hR.uT (t := 1) e0
    refine x_aload_n hG (pc := 18) 0 dX7_meanWear_18 rfl rfl ?_
    refine x_getf hG (pc := 19) fl_X7_31 hR0.main rfl dX7_meanWear_19 ?_
    refine x_if_le hG (pc := 22) 27 dX7_meanWear_22 (by decide) (fun h22 => ?_) (fun h22 => ?_)
    · exact absurd (show (1 : Int32) ≤ 0 from h22) (by decide)
    · refine x_dconst0 hG (pc := 25) dX7_meanWear_25 ?_
      refine x_dreturn hG (pc := 26) dX7_meanWear_26 rfl (by rw [hG.mc]; exact Nat.le_of_ble_eq_true rfl) (by rw [hG.ms]; exact Nat.le_of_ble_eq_true rfl) ?_
      exact hx ((is_f h7).elim Or.inl (fun q => Or.inr (lt_2.mp (Int32.not_le.mp q.2)))) w0 hR0 hF0
  · obtain ⟨i7a, i7b⟩ := is_t h7
    obtain ⟨t0, ht0, rfl⟩ := ix_lt (n := 2) rfl (by decide) i7a (Decidable.not_not.mp (fun z => absurd (lt_2.mpr z) (Int32.not_lt.mpr i7b)))
    refine x_iconst hG (pc := 10) 0 dX7_meanWear_10 (by decide) ?_
    refine x_goto hG (pc := 11) 15 dX7_meanWear_11 (by decide) ?_
    refine x_putf hG (pc := 15) fl_X7_31 fw_9 ft_9_0 hR.main (Nat.le_of_ble_eq_true rfl) rfl rfl (by dsimp only [List.set]) dX7_meanWear_15 ?_
    refine x_gen (fun w0 e0 => ?_)
    obtain ⟨hR0, hF0⟩ := hR.uT (t := 0) e0
    refine x_aload_n hG (pc := 18) 0 dX7_meanWear_18 rfl rfl ?_
    refine x_getf hG (pc := 19) fl_X7_31 hR0.main rfl dX7_meanWear_19 ?_
    refine x_if_le hG (pc := 22) 27 dX7_meanWear_22 (by decide) (fun h22 => ?_) (fun h22 => ?_)
    · refine x_iconst hG (pc := 27) 0 dX7_meanWear_27 (by decide) ?_
      refine x_istore_n hG (pc := 28) 2 dX7_meanWear_28 rfl (Nat.le_of_ble_eq_true rfl) rfl (by dsimp only [List.set]) ?_
      refine x_iconst hG (pc := 29) 0 dX7_meanWear_29 (by decide) ?_
      refine x_istore_n hG (pc := 30) 3 dX7_meanWear_30 rfl (Nat.le_of_ble_eq_true rfl) rfl (by dsimp only [List.set]) ?_
      refine nat_down (P := fun k => X g w0 0 0 31 [some (.ref (thM L)), some (.int (nI t0)), some (.int (cnt (fun j => sS S (t0 * 10 + j) 0) k)), some (.int (nI k))] []) 10 (fun k hi ih => ?_) 0 (Nat.zero_le _)
      refine x_iload_n hG (pc := 31) 3 dX7_meanWear_31 rfl rfl ?_
      refine x_bipush hG (pc := 32) 10 dX7_meanWear_32 (by decide) ?_
      refine x_icmp_ge hG (pc := 34) 59 dX7_meanWear_34 (by decide) (fun h34 => ?_) (fun h34 => ?_)
      · have hkn : k = 10 := by
          rcases Nat.lt_or_ge k 10 with q | q
          · exact absurd h34 (nI_ge (b := 10) q (by decide))
          · omega
        refine x_iload_n hG (pc := 59) 2 dX7_meanWear_59 rfl rfl ?_
        refine x_i2d hG (pc := 60) dX7_meanWear_60 ?_
        refine x_ldc2d hG (pc := 61) _ dX7_meanWear_61 kc_X7_194 ?_
        refine x_ddiv hG (pc := 64) dX7_meanWear_64 (by rw [hkn]; exact mw_dv hI ht0) ?_
        refine x_dreturn hG (pc := 65) dX7_meanWear_65 rfl (by rw [hG.mc]; exact Nat.le_of_ble_eq_true rfl) (by rw [hG.ms]; exact Nat.le_of_ble_eq_true rfl) ?_
        rw [hkn]
        exact hk t0 ht0 rfl w0 hR0 hF0
      · have hkn : k < 10 := by
          rcases Nat.lt_or_ge k 10 with q | q
          · exact q
          · exact absurd (nI_le (a := 10) q (by omega)) h34
        refine x_iload_n hG (pc := 37) 2 dX7_meanWear_37 rfl rfl ?_
        refine x_aload_n hG (pc := 38) 0 dX7_meanWear_38 rfl rfl ?_
        refine x_getf hG (pc := 39) fl_X7_11 hR0.main rfl dX7_meanWear_39 ?_
        refine x_bipush hG (pc := 42) 10 dX7_meanWear_42 (by decide) ?_
        refine x_iload_n hG (pc := 44) 1 dX7_meanWear_44 rfl rfl ?_
        refine x_imul hG (pc := 45) dX7_meanWear_45 ?_
        refine x_iload_n hG (pc := 46) 3 dX7_meanWear_46 rfl rfl ?_
        refine x_iadd hG (pc := 47) dX7_meanWear_47 ?_
        rw [Int32.mul_comm, ti_ix ht0]
        refine x_aaldI hG (pc := 48) hR0.secs (vp_in_nI (show t0 * 10 + k < 20 by omega) (by decide)) dX7_meanWear_48 ?_
        rw [nI_clamp (by omega), lE_at (show t0 * 10 + k < 20 by omega)]
        show X g _ _ _ _ _ (.ref (L.1 (52, (t0 * 10 + k), 0)) :: _)
        refine x_iconst hG (pc := 49) 0 dX7_meanWear_49 (by decide) ?_
        refine x_ialdN hG (pc := 50) (c := 0) (hR0.sec (i := t0 * 10 + k) (by omega)) (by decide) dX7_meanWear_50 ?_
        refine x_iadd hG (pc := 51) dX7_meanWear_51 ?_
        refine x_istore_n hG (pc := 52) 2 dX7_meanWear_52 rfl (Nat.le_of_ble_eq_true rfl) rfl (by dsimp only [List.set]) ?_
        refine x_iinc hG (pc := 53) (nI (k + 1)) dX7_meanWear_53 rfl (Nat.le_of_ble_eq_true rfl) rfl (nI_1' k) (by dsimp only [List.set]) ?_
        refine x_goto hG (pc := 56) 31 dX7_meanWear_56 (by decide) ?_
        exact ih (k + 1) (by omega) (by omega)
    · exact absurd (show (0 : Int32) ≤ 0 by decide) h22
