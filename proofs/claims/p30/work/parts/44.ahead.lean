/-! TrackNights: what is looked for ahead -/
noncomputable def fo (p : Nat → Prop) : Nat → Option Nat
  | 0 => none
  | n + 1 => match fo p n with
    | some k => some k
    | none => by classical exact if p n then some n else none
theorem fo_f {p : Nat → Prop} : ∀ {n : Nat}, (∀ j, j < n → ¬ p j) → fo p n = none
  | 0, _ => rfl
  | n + 1, h => by
    simp only [fo]
    rw [fo_f (n := n) (fun j hj => h j (by omega))]
    exact if_neg (h n (by omega))
theorem fo_t {p : Nat → Prop} {k : Nat} : ∀ {n : Nat}, k < n → (∀ j, j < k → ¬ p j) → p k → fo p n = some k
  | 0, h, _, _ => absurd h (Nat.not_lt_zero _)
  | n + 1, h, hj, hp => by
    simp only [fo]
    rcases Nat.lt_or_ge k n with q | q
    · rw [fo_t (n := n) q hj hp]
    · have e : k = n := by omega
      subst e
      rw [fo_f (n := k) hj]
      exact if_pos hp
def oF : Option Nat → Int32
  | none => -1
  | some k => nI k
def pSee (S : St) (s : Int32) (k : Nat) : Prop := ∃ j, kn S k s (eS S k 3) = some j ∧ ¬ eS S k (7 + 4 * j) ≤ 0
noncomputable def oSee (S : St) (i : Int32) : Oc := match ixO i 20 with
  | none => (1, 0, S)
  | some k => (0, oF (fo (pSee S (nI k)) (nE S)), S)
def pRis (f : Nat → Int32) (t h : Int32) (j : Nat) : Prop := ¬ agn f t j 6 ≤ sp7 (agn f t j) h
noncomputable def oRis (S : St) (i t : Int32) : Oc := match ixO i 20 with
  | none => (1, 0, S)
  | some k => if t < 0 then (2, 0, S) else if t ≤ 40 then (0, oF (fo (pRis (sS S k) t (gl S 1)) 201), S) else (2, 0, S)
set_option maxHeartbeats 400000 in
set_option maxRecDepth 100000 in
theorem c_X6_couldSee : CtrA yX6_couldSee cX6_couldSee 4 (some .int) (rmk 7 4 24 119) (fun Γ av w post xpost => ∃ (L : LayC) (S : St), ∃ i, av = [.ref (thC L), .int i] ∧ RepC Γ L S w ∧ Inv S ∧ Out Γ L w post xpost [xI] (oSee S i)) := by
  refine ctr_of (by decide) ?_
  rintro g av w hG hO ⟨L, S, i, rfl, hR, hI, hk⟩
  refine ⟨Nat.le_of_ble_eq_true rfl, ?_⟩
  show X g w 0 0 0 [some (.ref (thC L)), some (.int i), none, none] []
  have hnM := hI.2.1.1
  have hnN := hI.2.1.2.1
  have hnE := hI.2.1.2.2
  refine x_aload_n hG (pc := 0) 0 dX6_couldSee_0 rfl rfl ?_
  refine x_iload_n hG (pc := 1) 1 dX6_couldSee_1 rfl rfl ?_
  refine x_callV hG hO (pc := 2) [_] c_X6_checkSection lk_X6_340 (by first | assumption | exact hR.main) rfl rfl ⟨by decide, by decide⟩ (Nat.le_of_ble_eq_true rfl) (by rw [hG.mc]; exact Nat.le_of_ble_eq_true rfl) (by rw [hG.ms]; exact Nat.le_of_ble_eq_true rfl) dX6_couldSee_2 ?_
  refine ⟨_, i, rfl, fun p1 p2 => ?_, fun hb => hk.bad (k := 0) (v := 0) (S1 := S) (by simp only [oSee, ixO_n (n := 20) hb (by decide)]) rfl⟩
  obtain ⟨k, hkn0, rfl⟩ := ix_lt (n := 20) rfl (by decide) p1 p2
  refine x_iconst hG (pc := 5) 0 dX6_couldSee_5 (by decide) ?_
  refine x_istore_n hG (pc := 6) 2 dX6_couldSee_6 rfl (Nat.le_of_ble_eq_true rfl) rfl (by dsimp only [List.set]) ?_
  refine nat_down (P := fun m => (∀ j, j < m → ¬ pSee S (nI k) j) → ∀ z : Option Value, X g w 1 6 7 [some (.ref (thC L)), some (.int (nI k)), some (.int (nI m)), z] []) (nE S) (fun m hi ih hN z => ?_) 0 (Nat.zero_le _) (fun j h => absurd h (Nat.not_lt_zero _)) none
  refine x_iload_n hG (pc := 7) 2 dX6_couldSee_7 rfl rfl ?_
  refine x_aload_n hG (pc := 8) 0 dX6_couldSee_8 rfl rfl ?_
  refine x_getf hG (pc := 9) fl_X6_18 hR.main rfl dX6_couldSee_9 ?_
  refine x_callV hG hO (pc := 12) [] c_Jx4a65c_size_8abf5 lk_X6_104 (hR.lst (id := 0) (by omega)).1 rfl rfl ⟨by decide, by decide⟩ (Nat.le_of_ble_eq_true rfl) (by rw [hG.mc]; exact Nat.le_of_ble_eq_true rfl) (by rw [hG.ms]; exact Nat.le_of_ble_eq_true rfl) dX6_couldSee_12 ?_
  refine ⟨_, _, _, _, _, rfl, (hR.lst (id := 0) (by omega)).1, ?_⟩
  refine x_icmp_ge hG (pc := 15) 53 dX6_couldSee_15 (by decide) (fun h15 => ?_) (fun h15 => ?_)
  · have hkn : m = nE S := by
      rcases Nat.lt_or_ge m (nE S) with q | q
      · exact absurd h15 (nI_ge (b := nE S) q (by omega))
      · omega
    refine x_iconst hG (pc := 53) (-1) dX6_couldSee_53 (by decide) ?_
    refine x_ireturn hG (pc := 54) dX6_couldSee_54 rfl rfl (by rw [hG.mc]; exact Nat.le_of_ble_eq_true rfl) (by rw [hG.ms]; exact Nat.le_of_ble_eq_true rfl) ?_
    exact fin_i (show (-1 : Int32) = _ by rw [fo_f (by rw [← hkn]; exact hN)]; rfl) (hk.ok (v := oF (fo (pSee S (nI k)) (nE S))) (by simp only [oSee, ixO_s (n := 20) hkn0 (by decide)]) rfl hR FrM.rf)
  · have hkn : m < nE S := by
      rcases Nat.lt_or_ge m (nE S) with q | q
      · exact q
      · exact absurd (nI_le q (by omega)) h15
    refine x_aload_n hG (pc := 18) 0 dX6_couldSee_18 rfl rfl ?_
    refine x_getf hG (pc := 19) fl_X6_18 hR.main rfl dX6_couldSee_19 ?_
    refine x_iload_n hG (pc := 22) 2 dX6_couldSee_22 rfl rfl ?_
    refine x_callV hG hO (pc := 23) [_] c_Jx4a65c_get_915e3 lk_X6_130 (hR.lst (id := 0) (by omega)).1 rfl rfl ⟨by decide, by decide⟩ (Nat.le_of_ble_eq_true rfl) (by rw [hG.mc]; exact Nat.le_of_ble_eq_true rfl) (by rw [hG.ms]; exact Nat.le_of_ble_eq_true rfl) dX6_couldSee_23 ?_
    refine ⟨_, _, _, _, _, _, _, _, m, rfl, (hR.lst (id := 0) (by omega)), hkn, ?_⟩
    refine x_castC hG (pc := 26) ck_X6_110 (hR.mea hkn) dX6_couldSee_26 ?_
    refine x_iload_n hG (pc := 29) 1 dX6_couldSee_29 rfl rfl ?_
    refine x_callV hG hO (pc := 30) [_] c_X1_writtenOf lk_X6_343 (hR.mea hkn) rfl rfl ⟨by decide, by decide⟩ (Nat.le_of_ble_eq_true rfl) (by rw [hG.mc]; exact Nat.le_of_ble_eq_true rfl) (by rw [hG.ms]; exact Nat.le_of_ble_eq_true rfl) dX6_couldSee_30 ?_
    refine ⟨_, _, _, _, _, _, _, _, nI k, rfl, hR.mea hkn, hR.wri hkn, ?_⟩
    rw [kn_wf]
    by_cases hq : kn S m (nI k) (eS S m 3) = none
    · rw [hq]
      refine x_astore_nN hG (pc := 33) 3 dX6_couldSee_33 rfl (Nat.le_of_ble_eq_true rfl) rfl (by dsimp only [List.set]) ?_
      refine x_aload_nN hG (pc := 34) 3 dX6_couldSee_34 rfl rfl ?_
      refine x_ifnullN hG (pc := 35) 47 dX6_couldSee_35 (by decide) ?_
      refine x_iinc hG (pc := 47) (nI (m + 1)) dX6_couldSee_47 rfl (Nat.le_of_ble_eq_true rfl) rfl (nI_1' m) (by dsimp only [List.set]) ?_
      refine x_goto hG (pc := 50) 7 dX6_couldSee_50 (by decide) ?_
      refine ih (m + 1) (by omega) (by omega) (all_s hN ?_) _
      rintro ⟨j, h1, h2⟩
      rw [hq] at h1
      cases h1
    obtain ⟨j, hj⟩ := Option.ne_none_iff_exists'.mp hq
    obtain ⟨hj10, hjf⟩ := kn_j hj
    rw [hj]
    show X g w 1 6 33 _ [.ref (L.1 (9, m, j))]
    refine x_astore_n hG (pc := 33) 3 dX6_couldSee_33 rfl (Nat.le_of_ble_eq_true rfl) rfl (by dsimp only [List.set]) ?_
    refine x_aload_n hG (pc := 34) 3 dX6_couldSee_34 rfl rfl ?_
    refine x_ifnull hG (pc := 35) dX6_couldSee_35 ?_
    refine x_aload_n hG (pc := 38) 3 dX6_couldSee_38 rfl rfl ?_
    refine x_getf hG (pc := 39) fl_X6_277 (hR.wrv hkn hj10 hjf) rfl dX6_couldSee_39 ?_
    refine x_if_le hG (pc := 42) 47 dX6_couldSee_42 (by decide) (fun h42 => ?_) (fun h42 => ?_)
    · refine x_iinc hG (pc := 47) (nI (m + 1)) dX6_couldSee_47 rfl (Nat.le_of_ble_eq_true rfl) rfl (nI_1' m) (by dsimp only [List.set]) ?_
      refine x_goto hG (pc := 50) 7 dX6_couldSee_50 (by decide) ?_
      refine ih (m + 1) (by omega) (by omega) (all_s hN ?_) _
      rintro ⟨j2, h1, h2⟩
      rw [hj] at h1
      cases h1
      exact h2 h42
    · refine x_iload_n hG (pc := 45) 2 dX6_couldSee_45 rfl rfl ?_
      refine x_ireturn hG (pc := 46) dX6_couldSee_46 rfl rfl (by rw [hG.mc]; exact Nat.le_of_ble_eq_true rfl) (by rw [hG.ms]; exact Nat.le_of_ble_eq_true rfl) ?_
      exact fin_i (show nI m = _ by rw [fo_t hkn hN ⟨j, hj, h42⟩]; rfl) (hk.ok (v := oF (fo (pSee S (nI k)) (nE S))) (by simp only [oSee, ixO_s (n := 20) hkn0 (by decide)]) rfl hR FrM.rf)
set_option maxHeartbeats 400000 in
set_option maxRecDepth 100000 in
theorem v_X6_couldSee : CtrA yX6_couldSee cX6_couldSee 4 (some .int) (rmk 3 0 0 64) (fun Γ av w post xpost => ∃ (L : LayC) (S : St), ∃ k, av = [.ref (thC L), .int (nI k)] ∧ RepC Γ L S w ∧ Inv S ∧ k < 20 ∧ post (some (.int (oF (fo (pSee S (nI k)) (nE S))))) w) := by
  refine ctr_of (by decide) ?_
  rintro g av w hG hO ⟨L, S, k, rfl, hR, hI, hkn0, hk⟩
  refine ⟨Nat.le_of_ble_eq_true rfl, ?_⟩
  show X g w 0 0 0 [some (.ref (thC L)), some (.int (nI k)), none, none] []
  have hnM := hI.2.1.1
  have hnN := hI.2.1.2.1
  have hnE := hI.2.1.2.2
  refine x_aload_n hG (pc := 0) 0 dX6_couldSee_0 rfl rfl ?_
  refine x_iload_n hG (pc := 1) 1 dX6_couldSee_1 rfl rfl ?_
  refine x_callV hG hO (pc := 2) [_] v_X6_checkSection lk_X6_340 (by first | assumption | exact hR.main) rfl rfl ⟨by decide, by decide⟩ (Nat.le_of_ble_eq_true rfl) (by rw [hG.mc]; exact Nat.le_of_ble_eq_true rfl) (by rw [hG.ms]; exact Nat.le_of_ble_eq_true rfl) dX6_couldSee_2 ?_
  refine ⟨_, k, rfl, hkn0, ?_⟩
  refine x_iconst hG (pc := 5) 0 dX6_couldSee_5 (by decide) ?_
  refine x_istore_n hG (pc := 6) 2 dX6_couldSee_6 rfl (Nat.le_of_ble_eq_true rfl) rfl (by dsimp only [List.set]) ?_
  refine nat_down (P := fun m => (∀ j, j < m → ¬ pSee S (nI k) j) → ∀ z : Option Value, X g w 0 0 7 [some (.ref (thC L)), some (.int (nI k)), some (.int (nI m)), z] []) (nE S) (fun m hi ih hN z => ?_) 0 (Nat.zero_le _) (fun j h => absurd h (Nat.not_lt_zero _)) none
  refine x_iload_n hG (pc := 7) 2 dX6_couldSee_7 rfl rfl ?_
  refine x_aload_n hG (pc := 8) 0 dX6_couldSee_8 rfl rfl ?_
  refine x_getf hG (pc := 9) fl_X6_18 hR.main rfl dX6_couldSee_9 ?_
  refine x_callV hG hO (pc := 12) [] c_Jx4a65c_size_8abf5 lk_X6_104 (hR.lst (id := 0) (by omega)).1 rfl rfl ⟨by decide, by decide⟩ (Nat.le_of_ble_eq_true rfl) (by rw [hG.mc]; exact Nat.le_of_ble_eq_true rfl) (by rw [hG.ms]; exact Nat.le_of_ble_eq_true rfl) dX6_couldSee_12 ?_
  refine ⟨_, _, _, _, _, rfl, (hR.lst (id := 0) (by omega)).1, ?_⟩
  refine x_icmp_ge hG (pc := 15) 53 dX6_couldSee_15 (by decide) (fun h15 => ?_) (fun h15 => ?_)
  · have hkn : m = nE S := by
      rcases Nat.lt_or_ge m (nE S) with q | q
      · exact absurd h15 (nI_ge (b := nE S) q (by omega))
      · omega
    refine x_iconst hG (pc := 53) (-1) dX6_couldSee_53 (by decide) ?_
    refine x_ireturn hG (pc := 54) dX6_couldSee_54 rfl rfl (by rw [hG.mc]; exact Nat.le_of_ble_eq_true rfl) (by rw [hG.ms]; exact Nat.le_of_ble_eq_true rfl) ?_
    exact fin_i (show (-1 : Int32) = _ by rw [fo_f (by rw [← hkn]; exact hN)]; rfl) hk
  · have hkn : m < nE S := by
      rcases Nat.lt_or_ge m (nE S) with q | q
      · exact q
      · exact absurd (nI_le q (by omega)) h15
    refine x_aload_n hG (pc := 18) 0 dX6_couldSee_18 rfl rfl ?_
    refine x_getf hG (pc := 19) fl_X6_18 hR.main rfl dX6_couldSee_19 ?_
    refine x_iload_n hG (pc := 22) 2 dX6_couldSee_22 rfl rfl ?_
    refine x_callV hG hO (pc := 23) [_] c_Jx4a65c_get_915e3 lk_X6_130 (hR.lst (id := 0) (by omega)).1 rfl rfl ⟨by decide, by decide⟩ (Nat.le_of_ble_eq_true rfl) (by rw [hG.mc]; exact Nat.le_of_ble_eq_true rfl) (by rw [hG.ms]; exact Nat.le_of_ble_eq_true rfl) dX6_couldSee_23 ?_
    refine ⟨_, _, _, _, _, _, _, _, m, rfl, (hR.lst (id := 0) (by omega)), hkn, ?_⟩
    refine x_castC hG (pc := 26) ck_X6_110 (hR.mea hkn) dX6_couldSee_26 ?_
    refine x_iload_n hG (pc := 29) 1 dX6_couldSee_29 rfl rfl ?_
    refine x_callV hG hO (pc := 30) [_] c_X1_writtenOf lk_X6_343 (hR.mea hkn) rfl rfl ⟨by decide, by decide⟩ (Nat.le_of_ble_eq_true rfl) (by rw [hG.mc]; exact Nat.le_of_ble_eq_true rfl) (by rw [hG.ms]; exact Nat.le_of_ble_eq_true rfl) dX6_couldSee_30 ?_
    refine ⟨_, _, _, _, _, _, _, _, nI k, rfl, hR.mea hkn, hR.wri hkn, ?_⟩
    rw [kn_wf]
    by_cases hq : kn S m (nI k) (eS S m 3) = none
    · rw [hq]
      refine x_astore_nN hG (pc := 33) 3 dX6_couldSee_33 rfl (Nat.le_of_ble_eq_true rfl) rfl (by dsimp only [List.set]) ?_
      refine x_aload_nN hG (pc := 34) 3 dX6_couldSee_34 rfl rfl ?_
      refine x_ifnullN hG (pc := 35) 47 dX6_couldSee_35 (by decide) ?_
      refine x_iinc hG (pc := 47) (nI (m + 1)) dX6_couldSee_47 rfl (Nat.le_of_ble_eq_true rfl) rfl (nI_1' m) (by dsimp only [List.set]) ?_
      refine x_goto hG (pc := 50) 7 dX6_couldSee_50 (by decide) ?_
      refine ih (m + 1) (by omega) (by omega) (all_s hN ?_) _
      rintro ⟨j, h1, h2⟩
      rw [hq] at h1
      cases h1
    obtain ⟨j, hj⟩ := Option.ne_none_iff_exists'.mp hq
    obtain ⟨hj10, hjf⟩ := kn_j hj
    rw [hj]
    show X g w 0 0 33 _ [.ref (L.1 (9, m, j))]
    refine x_astore_n hG (pc := 33) 3 dX6_couldSee_33 rfl (Nat.le_of_ble_eq_true rfl) rfl (by dsimp only [List.set]) ?_
    refine x_aload_n hG (pc := 34) 3 dX6_couldSee_34 rfl rfl ?_
    refine x_ifnull hG (pc := 35) dX6_couldSee_35 ?_
    refine x_aload_n hG (pc := 38) 3 dX6_couldSee_38 rfl rfl ?_
    refine x_getf hG (pc := 39) fl_X6_277 (hR.wrv hkn hj10 hjf) rfl dX6_couldSee_39 ?_
    refine x_if_le hG (pc := 42) 47 dX6_couldSee_42 (by decide) (fun h42 => ?_) (fun h42 => ?_)
    · refine x_iinc hG (pc := 47) (nI (m + 1)) dX6_couldSee_47 rfl (Nat.le_of_ble_eq_true rfl) rfl (nI_1' m) (by dsimp only [List.set]) ?_
      refine x_goto hG (pc := 50) 7 dX6_couldSee_50 (by decide) ?_
      refine ih (m + 1) (by omega) (by omega) (all_s hN ?_) _
      rintro ⟨j2, h1, h2⟩
      rw [hj] at h1
      cases h1
      exact h2 h42
    · refine x_iload_n hG (pc := 45) 2 dX6_couldSee_45 rfl rfl ?_
      refine x_ireturn hG (pc := 46) dX6_couldSee_46 rfl rfl (by rw [hG.mc]; exact Nat.le_of_ble_eq_true rfl) (by rw [hG.ms]; exact Nat.le_of_ble_eq_true rfl) ?_
      exact fin_i (show nI m = _ by rw [fo_t hkn hN ⟨j, hj, h42⟩]; rfl) hk
