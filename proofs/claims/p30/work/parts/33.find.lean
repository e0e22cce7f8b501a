/-! TrackNights: what is looked up in the lists -/
def s_delay (t s : Int32) : Int32 := t * (160 - s) / 80
def s_warn (a b s : Int32) : Int32 := if mx a b ≤ 0 then 1 else if s * 36 / (10 * mx a b) < 25 then 0 else 1
theorem ten_ne {x : Int32} (h0 : ¬ x ≤ 0) (h1 : x.toInt ≤ 160) : ¬ 10 * x = 0 := by
  intro q
  have h2 : 0 < x.toInt := by
    have := Int32.lt_iff_toInt_lt.mp (Int32.not_le.mp h0)
    simpa using this
  have h3 := congrArg Int32.toInt q
  rw [Int32.toInt_mul, Int.bmod_eq_of_le (by simp; omega) (by simp; omega)] at h3
  simp at h3
  omega
theorem mx_le {a b : Int32} {n : Int} (ha : a.toInt ≤ n) (hb : b.toInt ≤ n) : (mx a b).toInt ≤ n := by
  unfold mx
  split <;> assumption
noncomputable def ex01 (p : Nat → Prop) (n : Nat) : Int32 := by
  classical exact if ∃ k, k < n ∧ p k then 1 else 0
theorem ex_t {p : Nat → Prop} {n k : Nat} (hk : k < n) (h : p k) : ex01 p n = 1 := if_pos ⟨k, hk, h⟩
theorem ex_f {p : Nat → Prop} {n : Nat} (h : ∀ k, k < n → ¬ p k) : ex01 p n = 0 := if_neg fun ⟨k, hk, q⟩ => h k hk q
theorem ex_c {p q : Nat → Prop} {n : Nat} (h : ∀ k, k < n → (p k ↔ q k)) : ex01 p n = ex01 q n := by
  by_cases a : ∃ k, k < n ∧ p k
  · obtain ⟨k, hk, hp⟩ := a
    exact (ex_t hk hp).trans (ex_t hk ((h k hk).1 hp)).symm
  · exact (ex_f fun k hk hp => a ⟨k, hk, hp⟩).trans (ex_f fun k hk hq => a ⟨k, hk, (h k hk).2 hq⟩).symm
theorem all_s {p : Nat → Prop} {n : Nat} (h : ∀ k, k < n → ¬ p k) (hn : ¬ p n) : ∀ k, k < n + 1 → ¬ p k := by
  intro k hk
  rcases Nat.lt_or_ge k n with q | q
  · exact h k q
  · rw [show k = n by omega]
    exact hn
def cnt (p : Nat → Int32) : Nat → Int32
  | 0 => 0
  | n + 1 => cnt p n + p n
def pTak (S : St) (s : Int32) (k : Nat) : Prop := gS S k 0 = 1 ∧ ¬ s_has (gS S k 1) (gS S k 2) (gS S k 3) s = 0
def pOcc (S : St) (t f o d : Int32) (k : Nat) : Prop := gS S k 4 = d ∧ ¬ gS S k 0 = 4 ∧ ¬ s_meets (gS S k 1) (gS S k 2) (gS S k 3) t f o = 0
/-- the machines that a night's works name, by their addresses -/
abbrev maC (L : LayC) (S : St) (k : Nat) : Nat → Nat := fun j => L.1 (10, (gS S k (11 + 3 * j)).toNatClampNeg, 0)
abbrev hrC (S : St) (k : Nat) : Nat → Int32 := fun j => gS S k (12 + 3 * j)
def pOut (L : LayC) (S : St) (tool k : Nat) : Prop := gS S k 0 = 1 ∧ ¬ uses (nJ (gS S k)) (maC L S k) tool = 0
def pEls (L : LayC) (S : St) (tool h k : Nat) : Prop := ¬ k = h ∧ gS S k 4 = gS S h 4 ∧ ¬ s_cot (gS S k 0) = 0 ∧ ¬ uses (nJ (gS S k)) (maC L S k) tool = 0
def sumT (L : LayC) (S : St) (k : Nat) : Nat → Int32 := cnt fun m => (htS (maC L S k) (hrC S k) (L.1 (10, m, 0)) (mS S m 1) (nJ (gS S k))).2
set_option maxHeartbeats 400000 in
set_option maxRecDepth 100000 in
theorem c_X6_delayCost : CtrA yX6_delayCost cX6_delayCost 2 (some .int) (rmk 0 0 0 0) (fun Γ av w post _ => ∃ t s, av = [.int t, .int s] ∧ post (some (.int (s_delay t s))) w) := by
  refine ctr_of (by decide) ?_
  rintro g av w hG hO ⟨t, s, rfl, hk⟩
  refine ⟨Nat.le_of_ble_eq_true rfl, ?_⟩
  show X g w 0 0 0 [some (.int t), some (.int s)] []
  refine x_iload_n hG (pc := 0) 0 dX6_delayCost_0 rfl rfl ?_
  refine x_sipush hG (pc := 1) 160 dX6_delayCost_1 (by decide) ?_
  refine x_iload_n hG (pc := 4) 1 dX6_delayCost_4 rfl rfl ?_
  refine x_isub hG (pc := 5) dX6_delayCost_5 ?_
  refine x_imul hG (pc := 6) dX6_delayCost_6 ?_
  refine x_bipush hG (pc := 7) 80 dX6_delayCost_7 (by decide) ?_
  refine x_idiv hG (pc := 9) dX6_delayCost_9 (by decide) ?_
  refine x_ireturn hG (pc := 10) dX6_delayCost_10 rfl rfl (by rw [hG.mc]; exact Nat.le_of_ble_eq_true rfl) (by rw [hG.ms]; exact Nat.le_of_ble_eq_true rfl) ?_
  exact hk
set_option maxHeartbeats 400000 in
set_option maxRecDepth 100000 in
theorem c_X6_isWarned : CtrA yX6_isWarned cX6_isWarned 4 (some .boolean) (rmk 1 0 0 33) (fun Γ av w post _ => ∃ a b s, av = [.int a, .int b, .int s] ∧ a.toInt ≤ 160 ∧ b.toInt ≤ 160 ∧ post (some (.int (s_warn a b s))) w) := by
  refine ctr_of (by decide) ?_
  rintro g av w hG hO ⟨a, b, s, rfl, ha, hb, hk⟩
  refine ⟨Nat.le_of_ble_eq_true rfl, ?_⟩
  show X g w 0 0 0 [some (.int a), some (.int b), some (.int s), none] []
  refine x_iload_n hG (pc := 0) 0 dX6_isWarned_0 rfl rfl ?_
  refine x_iload_n hG (pc := 1) 1 dX6_isWarned_1 rfl rfl ?_
  refine x_mmax hG (pc := 2) lk_X6_372 dX6_isWarned_2 (by decide) (Nat.le_of_ble_eq_true rfl) (by rw [hG.mc]; exact Nat.le_of_ble_eq_true rfl) (by rw [hG.ms]; exact Nat.le_of_ble_eq_true rfl) ?_
  refine x_istore_n hG (pc := 5) 3 dX6_isWarned_5 rfl (Nat.le_of_ble_eq_true rfl) rfl (by dsimp only [List.set]) ?_
  refine x_iload_n hG (pc := 6) 3 dX6_isWarned_6 rfl rfl ?_
  refine x_if_le hG (pc := 7) 24 dX6_isWarned_7 (by decide) (fun h7 => ?_) (fun h7 => ?_)
  · refine x_iconst hG (pc := 24) 1 dX6_isWarned_24 (by decide) ?_
    refine x_goto hG (pc := 25) 29 dX6_isWarned_25 (by decide) ?_
    refine x_ireturn hG (pc := 29) dX6_isWarned_29 rfl rfl (by rw [hG.mc]; exact Nat.le_of_ble_eq_true rfl) (by rw [hG.ms]; exact Nat.le_of_ble_eq_true rfl) ?_
    exact fin_i (by simp [s_warn, h7]) hk
  · refine x_iload_n hG (pc := 10) 2 dX6_isWarned_10 rfl rfl ?_
    refine x_bipush hG (pc := 11) 36 dX6_isWarned_11 (by decide) ?_
    refine x_imul hG (pc := 13) dX6_isWarned_13 ?_
    refine x_bipush hG (pc := 14) 10 dX6_isWarned_14 (by decide) ?_
    refine x_iload_n hG (pc := 16) 3 dX6_isWarned_16 rfl rfl ?_
    refine x_imul hG (pc := 17) dX6_isWarned_17 ?_
    refine x_idiv hG (pc := 18) dX6_isWarned_18 (ten_ne h7 (mx_le ha hb)) ?_
    refine x_bipush hG (pc := 19) 25 dX6_isWarned_19 (by decide) ?_
    refine x_icmp_lt hG (pc := 21) 28 dX6_isWarned_21 (by decide) (fun h21 => ?_) (fun h21 => ?_)
    · refine x_iconst hG (pc := 28) 0 dX6_isWarned_28 (by decide) ?_
      refine x_ireturn hG (pc := 29) dX6_isWarned_29 rfl rfl (by rw [hG.mc]; exact Nat.le_of_ble_eq_true rfl) (by rw [hG.ms]; exact Nat.le_of_ble_eq_true rfl) ?_
      exact fin_i (by simp [s_warn, h7, h21]) hk
    · refine x_iconst hG (pc := 24) 1 dX6_isWarned_24 (by decide) ?_
      refine x_goto hG (pc := 25) 29 dX6_isWarned_25 (by decide) ?_
      refine x_ireturn hG (pc := 29) dX6_isWarned_29 rfl rfl (by rw [hG.mc]; exact Nat.le_of_ble_eq_true rfl) (by rw [hG.ms]; exact Nat.le_of_ble_eq_true rfl) ?_
      exact fin_i (by simp [s_warn, h7, h21]) hk
set_option maxHeartbeats 400000 in
set_option maxRecDepth 100000 in
theorem c_X6_isTaken : CtrA yX6_isTaken cX6_isTaken 4 (some .boolean) (rmk 3 0 0 64) (fun Γ av w post xpost => ∃ (L : LayC) (S : St), ∃ s, av = [.ref (thC L), .int s] ∧ RepC Γ L S w ∧ post (some (.int (ex01 (pTak S s) (nN S)))) w) := by
  refine ctr_of (by decide) ?_
  rintro g av w hG hO ⟨L, S, s, rfl, hR, hk⟩
  refine ⟨Nat.le_of_ble_eq_true rfl, ?_⟩
  show X g w 0 0 0 [some (.ref (thC L)), some (.int s), none, none] []
  have hn : nN S ≤ 30 := hR.n30 (id := 2) (by omega)
  refine x_iconst hG (pc := 0) 0 dX6_isTaken_0 (by decide) ?_
  refine x_istore_n hG (pc := 1) 2 dX6_isTaken_1 rfl (Nat.le_of_ble_eq_true rfl) rfl (by dsimp only [List.set]) ?_
  refine nat_down (P := fun k => (∀ j, j < k → ¬ pTak S s j) → ∀ z : Option Value, X g w 0 0 2 [some (.ref (thC L)), some (.int s), some (.int (nI k)), z] []) (nN S) (fun k hi ih hI z => ?_) 0 (Nat.zero_le _) (fun j h => absurd h (Nat.not_lt_zero _)) none
  refine x_iload_n hG (pc := 2) 2 dX6_isTaken_2 rfl rfl ?_
  refine x_aload_n hG (pc := 3) 0 dX6_isTaken_3 rfl rfl ?_
  refine x_getf hG (pc := 4) fl_X6_25 (by first | assumption | exact hR.main) rfl dX6_isTaken_4 ?_
  refine x_callV hG hO (pc := 7) [] c_Jx4a65c_size_8abf5 lk_X6_104 (hR.lst (id := 2) (by omega)).1 rfl rfl ⟨by decide, by decide⟩ (Nat.le_of_ble_eq_true rfl) (by rw [hG.mc]; exact Nat.le_of_ble_eq_true rfl) (by rw [hG.ms]; exact Nat.le_of_ble_eq_true rfl) dX6_isTaken_7 ?_
  refine ⟨_, _, _, _, _, rfl, (hR.lst (id := 2) (by omega)).1, ?_⟩
  refine x_icmp_ge hG (pc := 10) 49 dX6_isTaken_10 (by decide) (fun h10 => ?_) (fun h10 => ?_)
  · have hkn : k = nN S := by
      rcases Nat.lt_or_ge k (nN S) with q | q
      · exact absurd h10 (nI_ge (b := nN S) q (by omega))
      · omega
    refine x_iconst hG (pc := 49) 0 dX6_isTaken_49 (by decide) ?_
    refine x_ireturn hG (pc := 50) dX6_isTaken_50 rfl rfl (by rw [hG.mc]; exact Nat.le_of_ble_eq_true rfl) (by rw [hG.ms]; exact Nat.le_of_ble_eq_true rfl) ?_
    exact fin_i (ex_f (by rw [← hkn]; exact hI)).symm hk
  · have hkn : k < nN S := by
      rcases Nat.lt_or_ge k (nN S) with q | q
      · exact q
      · exact absurd (nI_le q (by omega)) h10
    refine x_aload_n hG (pc := 13) 0 dX6_isTaken_13 rfl rfl ?_
    refine x_getf hG (pc := 14) fl_X6_25 (by first | assumption | exact hR.main) rfl dX6_isTaken_14 ?_
    refine x_iload_n hG (pc := 17) 2 dX6_isTaken_17 rfl rfl ?_
    refine x_callV hG hO (pc := 18) [_] c_Jx4a65c_get_915e3 lk_X6_130 (hR.lst (id := 2) (by omega)).1 rfl rfl ⟨by decide, by decide⟩ (Nat.le_of_ble_eq_true rfl) (by rw [hG.mc]; exact Nat.le_of_ble_eq_true rfl) (by rw [hG.ms]; exact Nat.le_of_ble_eq_true rfl) dX6_isTaken_18 ?_
    refine ⟨_, _, _, _, _, _, _, _, k, rfl, (hR.lst (id := 2) (by omega)), hkn, ?_⟩
    refine x_castC hG (pc := 21) ck_X6_176 (hR.pos hkn) dX6_isTaken_21 ?_
    refine x_astore_n hG (pc := 24) 3 dX6_isTaken_24 rfl (Nat.le_of_ble_eq_true rfl) rfl (by dsimp only [List.set]) ?_
    refine x_aload_n hG (pc := 25) 3 dX6_isTaken_25 rfl rfl ?_
    refine x_getf hG (pc := 26) fl_X6_191 (hR.pos hkn) rfl dX6_isTaken_26 ?_
    refine x_iconst hG (pc := 29) 1 dX6_isTaken_29 (by decide) ?_
    refine x_icmp_ne hG (pc := 30) 43 dX6_isTaken_30 (by decide) (fun h30 => ?_) (fun h30 => ?_)
    · refine x_iinc hG (pc := 43) (nI (k + 1)) dX6_isTaken_43 rfl (Nat.le_of_ble_eq_true rfl) rfl (nI_1' k) (by dsimp only [List.set]) ?_
      refine x_goto hG (pc := 46) 2 dX6_isTaken_46 (by decide) ?_
      exact ih (k + 1) (by omega) (by omega) (all_s hI (fun q => by first | exact h30 q.1 | exact q.2 h38)) _
    · refine x_aload_n hG (pc := 33) 3 dX6_isTaken_33 rfl rfl ?_
      refine x_iload_n hG (pc := 34) 1 dX6_isTaken_34 rfl rfl ?_
      refine x_callV hG hO (pc := 35) [_] c_X2_has lk_X6_185 (hR.pos hkn) rfl rfl ⟨by decide, by decide⟩ (Nat.le_of_ble_eq_true rfl) (by rw [hG.mc]; exact Nat.le_of_ble_eq_true rfl) (by rw [hG.ms]; exact Nat.le_of_ble_eq_true rfl) dX6_isTaken_35 ?_
      refine ⟨_, _, _, _, _, _, _, _, _, _, _, _, s, rfl, hR.pos hkn, ?_⟩
      refine x_if_eq hG (pc := 38) 43 dX6_isTaken_38 (by decide) (fun h38 => ?_) (fun h38 => ?_)
      · refine x_iinc hG (pc := 43) (nI (k + 1)) dX6_isTaken_43 rfl (Nat.le_of_ble_eq_true rfl) rfl (nI_1' k) (by dsimp only [List.set]) ?_
        refine x_goto hG (pc := 46) 2 dX6_isTaken_46 (by decide) ?_
        exact ih (k + 1) (by omega) (by omega) (all_s hI (fun q => by first | exact h30 q.1 | exact q.2 h38)) _
      · refine x_iconst hG (pc := 41) 1 dX6_isTaken_41 (by decide) ?_
        refine x_ireturn hG (pc := 42) dX6_isTaken_42 rfl rfl (by rw [hG.mc]; exact Nat.le_of_ble_eq_true rfl) (by rw [hG.ms]; exact Nat.le_of_ble_eq_true rfl) ?_
        exact fin_i (ex_t hkn ⟨h30, h38⟩).symm hk
set_option maxHeartbeats 400000 in
set_option maxRecDepth 100000 in
theorem c_X6_isFree : CtrA yX6_isFree cX6_isFree 7 (some .boolean) (rmk 3 0 0 64) (fun Γ av w post xpost => ∃ (L : LayC) (S : St), ∃ t f o d, av = [.ref (thC L), .int t, .int f, .int o, .int d] ∧ RepC Γ L S w ∧ post (some (.int (1 - ex01 (pOcc S t f o d) (nN S)))) w) := by
  refine ctr_of (by decide) ?_
  rintro g av w hG hO ⟨L, S, t, f, o, d, rfl, hR, hk⟩
  refine ⟨Nat.le_of_ble_eq_true rfl, ?_⟩
  show X g w 0 0 0 [some (.ref (thC L)), some (.int t), some (.int f), some (.int o), some (.int d), none, none] []
  have hn : nN S ≤ 30 := hR.n30 (id := 2) (by omega)
  refine x_iconst hG (pc := 0) 0 dX6_isFree_0 (by decide) ?_
  refine x_istore hG (pc := 1) dX6_isFree_1 (Nat.le_of_ble_eq_true rfl) rfl (by dsimp only [List.set]) ?_
  refine nat_down (P := fun k => (∀ j, j < k → ¬ pOcc S t f o d j) → ∀ z : Option Value, X g w 0 0 3 [some (.ref (thC L)), some (.int t), some (.int f), some (.int o), some (.int d), some (.int (nI k)), z] []) (nN S) (fun k hi ih hI z => ?_) 0 (Nat.zero_le _) (fun j h => absurd h (Nat.not_lt_zero _)) none
  refine x_iload hG (pc := 3) dX6_isFree_3 rfl ?_
  refine x_aload_n hG (pc := 5) 0 dX6_isFree_5 rfl rfl ?_
  refine x_getf hG (pc := 6) fl_X6_25 (by first | assumption | exact hR.main) rfl dX6_isFree_6 ?_
  refine x_callV hG hO (pc := 9) [] c_Jx4a65c_size_8abf5 lk_X6_104 (hR.lst (id := 2) (by omega)).1 rfl rfl ⟨by decide, by decide⟩ (Nat.le_of_ble_eq_true rfl) (by rw [hG.mc]; exact Nat.le_of_ble_eq_true rfl) (by rw [hG.ms]; exact Nat.le_of_ble_eq_true rfl) dX6_isFree_9 ?_
  refine ⟨_, _, _, _, _, rfl, (hR.lst (id := 2) (by omega)).1, ?_⟩
  refine x_icmp_ge hG (pc := 12) 67 dX6_isFree_12 (by decide) (fun h12 => ?_) (fun h12 => ?_)
  · have hkn : k = nN S := by
      rcases Nat.lt_or_ge k (nN S) with q | q
      · exact absurd h12 (nI_ge (b := nN S) q (by omega))
      · omega
    refine x_iconst hG (pc := 67) 1 dX6_isFree_67 (by decide) ?_
    refine x_ireturn hG (pc := 68) dX6_isFree_68 rfl rfl (by rw [hG.mc]; exact Nat.le_of_ble_eq_true rfl) (by rw [hG.ms]; exact Nat.le_of_ble_eq_true rfl) ?_
    exact fin_i (by rw [ex_f (p := pOcc S t f o d) (by rw [← hkn]; exact hI)]; rfl) hk
  · have hkn : k < nN S := by
      rcases Nat.lt_or_ge k (nN S) with q | q
      · exact q
      · exact absurd (nI_le q (by omega)) h12
    refine x_aload_n hG (pc := 15) 0 dX6_isFree_15 rfl rfl ?_
    refine x_getf hG (pc := 16) fl_X6_25 (by first | assumption | exact hR.main) rfl dX6_isFree_16 ?_
    refine x_iload hG (pc := 19) dX6_isFree_19 rfl ?_
    refine x_callV hG hO (pc := 21) [_] c_Jx4a65c_get_915e3 lk_X6_130 (hR.lst (id := 2) (by omega)).1 rfl rfl ⟨by decide, by decide⟩ (Nat.le_of_ble_eq_true rfl) (by rw [hG.mc]; exact Nat.le_of_ble_eq_true rfl) (by rw [hG.ms]; exact Nat.le_of_ble_eq_true rfl) dX6_isFree_21 ?_
    refine ⟨_, _, _, _, _, _, _, _, k, rfl, (hR.lst (id := 2) (by omega)), hkn, ?_⟩
    refine x_castC hG (pc := 24) ck_X6_176 (hR.pos hkn) dX6_isFree_24 ?_
    refine x_astore hG (pc := 27) dX6_isFree_27 (Nat.le_of_ble_eq_true rfl) rfl (by dsimp only [List.set]) ?_
    refine x_aload hG (pc := 29) dX6_isFree_29 rfl ?_
    refine x_getf hG (pc := 31) fl_X6_227 (hR.pos hkn) rfl dX6_isFree_31 ?_
    refine x_iload hG (pc := 34) dX6_isFree_34 rfl ?_
    refine x_icmp_ne hG (pc := 36) 61 dX6_isFree_36 (by decide) (fun h36 => ?_) (fun h36 => ?_)
    · refine x_iinc hG (pc := 61) (nI (k + 1)) dX6_isFree_61 rfl (Nat.le_of_ble_eq_true rfl) rfl (nI_1' k) (by dsimp only [List.set]) ?_
      refine x_goto hG (pc := 64) 3 dX6_isFree_64 (by decide) ?_
      exact ih (k + 1) (by omega) (by omega) (all_s hI (fun q => by first | exact h36 q.1 | exact q.2.1 h45 | exact q.2.2 h56)) _
    · refine x_aload hG (pc := 39) dX6_isFree_39 rfl ?_
      refine x_getf hG (pc := 41) fl_X6_191 (hR.pos hkn) rfl dX6_isFree_41 ?_
      refine x_iconst hG (pc := 44) 4 dX6_isFree_44 (by decide) ?_
      refine x_icmp_eq hG (pc := 45) 61 dX6_isFree_45 (by decide) (fun h45 => ?_) (fun h45 => ?_)
      · refine x_iinc hG (pc := 61) (nI (k + 1)) dX6_isFree_61 rfl (Nat.le_of_ble_eq_true rfl) rfl (nI_1' k) (by dsimp only [List.set]) ?_
        refine x_goto hG (pc := 64) 3 dX6_isFree_64 (by decide) ?_
        exact ih (k + 1) (by omega) (by omega) (all_s hI (fun q => by first | exact h36 q.1 | exact q.2.1 h45 | exact q.2.2 h56)) _
      · refine x_aload hG (pc := 48) dX6_isFree_48 rfl ?_
        refine x_iload_n hG (pc := 50) 1 dX6_isFree_50 rfl rfl ?_
        refine x_iload_n hG (pc := 51) 2 dX6_isFree_51 rfl rfl ?_
        refine x_iload_n hG (pc := 52) 3 dX6_isFree_52 rfl rfl ?_
        refine x_callV hG hO (pc := 53) [_, _, _] c_X2_meets lk_X6_445 (hR.pos hkn) rfl rfl ⟨by decide, by decide⟩ (Nat.le_of_ble_eq_true rfl) (by rw [hG.mc]; exact Nat.le_of_ble_eq_true rfl) (by rw [hG.ms]; exact Nat.le_of_ble_eq_true rfl) dX6_isFree_53 ?_
        refine ⟨_, _, _, _, _, _, _, _, _, _, _, _, t, f, o, rfl, hR.pos hkn, ?_⟩
        refine x_if_eq hG (pc := 56) 61 dX6_isFree_56 (by decide) (fun h56 => ?_) (fun h56 => ?_)
        · refine x_iinc hG (pc := 61) (nI (k + 1)) dX6_isFree_61 rfl (Nat.le_of_ble_eq_true rfl) rfl (nI_1' k) (by dsimp only [List.set]) ?_
          refine x_goto hG (pc := 64) 3 dX6_isFree_64 (by decide) ?_
          exact ih (k + 1) (by omega) (by omega) (all_s hI (fun q => by first | exact h36 q.1 | exact q.2.1 h45 | exact q.2.2 h56)) _
        · refine x_iconst hG (pc := 59) 0 dX6_isFree_59 (by decide) ?_
          refine x_ireturn hG (pc := 60) dX6_isFree_60 rfl rfl (by rw [hG.mc]; exact Nat.le_of_ble_eq_true rfl) (by rw [hG.ms]; exact Nat.le_of_ble_eq_true rfl) ?_
          exact fin_i (by rw [ex_t hkn (p := pOcc S t f o d) ⟨h36, h45, h56⟩]; rfl) hk
set_option maxHeartbeats 400000 in
set_option maxRecDepth 100000 in
theorem c_X6_isElsewhere : CtrA yX6_isElsewhere cX6_isElsewhere 5 (some .boolean) (rmk 4 0 0 86) (fun Γ av w post xpost => ∃ (L : LayC) (S : St), ∃ tool h, av = [.ref (thC L), .ref tool, .ref (L.1 (11, h, 0))] ∧ RepC Γ L S w ∧ h < nN S ∧ post (some (.int (ex01 (pEls L S tool h) (nN S)))) w) := by
  refine ctr_of (by decide) ?_
  rintro g av w hG hO ⟨L, S, tool, h, rfl, hR, hh, hk⟩
  refine ⟨Nat.le_of_ble_eq_true rfl, ?_⟩
  show X g w 0 0 0 [some (.ref (thC L)), some (.ref tool), some (.ref (L.1 (11, h, 0))), none, none] []
  have hn : nN S ≤ 30 := hR.n30 (id := 2) (by omega)
  refine x_iconst hG (pc := 0) 0 dX6_isElsewhere_0 (by decide) ?_
  refine x_istore_n hG (pc := 1) 3 dX6_isElsewhere_1 rfl (Nat.le_of_ble_eq_true rfl) rfl (by dsimp only [List.set]) ?_
  refine nat_down (P := fun k => (∀ j, j < k → ¬ pEls L S tool h j) → ∀ z : Option Value, X g w 0 0 2 [some (.ref (thC L)), some (.ref tool), some (.ref (L.1 (11, h, 0))), some (.int (nI k)), z] []) (nN S) (fun k hi ih hI z => ?_) 0 (Nat.zero_le _) (fun j h => absurd h (Nat.not_lt_zero _)) none
  refine x_iload_n hG (pc := 2) 3 dX6_isElsewhere_2 rfl rfl ?_
  refine x_aload_n hG (pc := 3) 0 dX6_isElsewhere_3 rfl rfl ?_
  refine x_getf hG (pc := 4) fl_X6_25 (by first | assumption | exact hR.main) rfl dX6_isElsewhere_4 ?_
  refine x_callV hG hO (pc := 7) [] c_Jx4a65c_size_8abf5 lk_X6_104 (hR.lst (id := 2) (by omega)).1 rfl rfl ⟨by decide, by decide⟩ (Nat.le_of_ble_eq_true rfl) (by rw [hG.mc]; exact Nat.le_of_ble_eq_true rfl) (by rw [hG.ms]; exact Nat.le_of_ble_eq_true rfl) dX6_isElsewhere_7 ?_
  refine ⟨_, _, _, _, _, rfl, (hR.lst (id := 2) (by omega)).1, ?_⟩
  refine x_icmp_ge hG (pc := 10) 69 dX6_isElsewhere_10 (by decide) (fun h10 => ?_) (fun h10 => ?_)
  · have hkn : k = nN S := by
      rcases Nat.lt_or_ge k (nN S) with q | q
      · exact absurd h10 (nI_ge (b := nN S) q (by omega))
      · omega
    refine x_iconst hG (pc := 69) 0 dX6_isElsewhere_69 (by decide) ?_
    refine x_ireturn hG (pc := 70) dX6_isElsewhere_70 rfl rfl (by rw [hG.mc]; exact Nat.le_of_ble_eq_true rfl) (by rw [hG.ms]; exact Nat.le_of_ble_eq_true rfl) ?_
    exact fin_i (ex_f (by rw [← hkn]; exact hI)).symm hk
  · have hkn : k < nN S := by
      rcases Nat.lt_or_ge k (nN S) with q | q
      · exact q
      · exact absurd (nI_le q (by omega)) h10
    refine x_aload_n hG (pc := 13) 0 dX6_isElsewhere_13 rfl rfl ?_
    refine x_getf hG (pc := 14) fl_X6_25 (by first | assumption | exact hR.main) rfl dX6_isElsewhere_14 ?_
    refine x_iload_n hG (pc := 17) 3 dX6_isElsewhere_17 rfl rfl ?_
    refine x_callV hG hO (pc := 18) [_] c_Jx4a65c_get_915e3 lk_X6_130 (hR.lst (id := 2) (by omega)).1 rfl rfl ⟨by decide, by decide⟩ (Nat.le_of_ble_eq_true rfl) (by rw [hG.mc]; exact Nat.le_of_ble_eq_true rfl) (by rw [hG.ms]; exact Nat.le_of_ble_eq_true rfl) dX6_isElsewhere_18 ?_
    refine ⟨_, _, _, _, _, _, _, _, k, rfl, (hR.lst (id := 2) (by omega)), hkn, ?_⟩
    refine x_castC hG (pc := 21) ck_X6_176 (hR.pos hkn) dX6_isElsewhere_21 ?_
    refine x_astore hG (pc := 24) dX6_isElsewhere_24 (Nat.le_of_ble_eq_true rfl) rfl (by dsimp only [List.set]) ?_
    refine x_aload hG (pc := 26) dX6_isElsewhere_26 rfl ?_
    refine x_aload_n hG (pc := 28) 2 dX6_isElsewhere_28 rfl rfl ?_
    refine x_acmp_eq hG (pc := 29) (rx := some _) (ry := some _) 63 dX6_isElsewhere_29 (by decide) (fun h29 => ?_) (fun h29 => ?_)
    · refine x_iinc hG (pc := 63) (nI (k + 1)) dX6_isElsewhere_63 rfl (Nat.le_of_ble_eq_true rfl) rfl (nI_1' k) (by dsimp only [List.set]) ?_
      refine x_goto hG (pc := 66) 2 dX6_isElsewhere_66 (by decide) ?_
      exact ih (k + 1) (by omega) (by omega) (all_s hI (fun q => by first | exact h41 q.2.1 | exact q.2.2.1 h49 | exact q.2.2.2 h58 | exact q.1 (hR.pos_inj hkn hh (Option.some.inj h29)))) _
    · refine x_aload hG (pc := 32) dX6_isElsewhere_32 rfl ?_
      refine x_getf hG (pc := 34) fl_X6_227 (hR.pos hkn) rfl dX6_isElsewhere_34 ?_
      refine x_aload_n hG (pc := 37) 2 dX6_isElsewhere_37 rfl rfl ?_
      refine x_getf hG (pc := 38) fl_X6_227 (hR.pos hh) rfl dX6_isElsewhere_38 ?_
      refine x_icmp_ne hG (pc := 41) 63 dX6_isElsewhere_41 (by decide) (fun h41 => ?_) (fun h41 => ?_)
      · refine x_iinc hG (pc := 63) (nI (k + 1)) dX6_isElsewhere_63 rfl (Nat.le_of_ble_eq_true rfl) rfl (nI_1' k) (by dsimp only [List.set]) ?_
        refine x_goto hG (pc := 66) 2 dX6_isElsewhere_66 (by decide) ?_
        exact ih (k + 1) (by omega) (by omega) (all_s hI (fun q => by first | exact h41 q.2.1 | exact q.2.2.1 h49 | exact q.2.2.2 h58 | exact q.1 (hR.pos_inj hkn hh (Option.some.inj h29)))) _
      · refine x_aload hG (pc := 44) dX6_isElsewhere_44 rfl ?_
        refine x_callV hG hO (pc := 46) [] c_X2_isComingOrTaken lk_X6_362 (hR.pos hkn) rfl rfl ⟨by decide, by decide⟩ (Nat.le_of_ble_eq_true rfl) (by rw [hG.mc]; exact Nat.le_of_ble_eq_true rfl) (by rw [hG.ms]; exact Nat.le_of_ble_eq_true rfl) dX6_isElsewhere_46 ?_
        refine ⟨_, _, _, _, _, _, _, _, _, _, _, _, rfl, hR.pos hkn, ?_⟩
        refine x_if_eq hG (pc := 49) 63 dX6_isElsewhere_49 (by decide) (fun h49 => ?_) (fun h49 => ?_)
        · refine x_iinc hG (pc := 63) (nI (k + 1)) dX6_isElsewhere_63 rfl (Nat.le_of_ble_eq_true rfl) rfl (nI_1' k) (by dsimp only [List.set]) ?_
          refine x_goto hG (pc := 66) 2 dX6_isElsewhere_66 (by decide) ?_
          exact ih (k + 1) (by omega) (by omega) (all_s hI (fun q => by first | exact h41 q.2.1 | exact q.2.2.1 h49 | exact q.2.2.2 h58 | exact q.1 (hR.pos_inj hkn hh (Option.some.inj h29)))) _
        · refine x_aload hG (pc := 52) dX6_isElsewhere_52 rfl ?_
          refine x_aload_n hG (pc := 54) 1 dX6_isElsewhere_54 rfl rfl ?_
          refine x_callV hG hO (pc := 55) [_] c_X2_uses lk_X6_442 (hR.pos hkn) rfl rfl ⟨by decide, by decide⟩ (Nat.le_of_ble_eq_true rfl) (by rw [hG.mc]; exact Nat.le_of_ble_eq_true rfl) (by rw [hG.ms]; exact Nat.le_of_ble_eq_true rfl) dX6_isElsewhere_55 ?_
          refine ⟨_, _, _, _, _, _, _, _, _, _, _, _, _, _, _, _, _, _, _, _, _, _, _, rfl, hR.pos hkn, hR.lst (id := k + 3) (by omega), hR.wrk hkn, ?_⟩
          refine x_if_eq hG (pc := 58) 63 dX6_isElsewhere_58 (by decide) (fun h58 => ?_) (fun h58 => ?_)
          · refine x_iinc hG (pc := 63) (nI (k + 1)) dX6_isElsewhere_63 rfl (Nat.le_of_ble_eq_true rfl) rfl (nI_1' k) (by dsimp only [List.set]) ?_
            refine x_goto hG (pc := 66) 2 dX6_isElsewhere_66 (by decide) ?_
            exact ih (k + 1) (by omega) (by omega) (all_s hI (fun q => by first | exact h41 q.2.1 | exact q.2.2.1 h49 | exact q.2.2.2 h58 | exact q.1 (hR.pos_inj hkn hh (Option.some.inj h29)))) _
          · refine x_iconst hG (pc := 61) 1 dX6_isElsewhere_61 (by decide) ?_
            refine x_ireturn hG (pc := 62) dX6_isElsewhere_62 rfl rfl (by rw [hG.mc]; exact Nat.le_of_ble_eq_true rfl) (by rw [hG.ms]; exact Nat.le_of_ble_eq_true rfl) ?_
            exact fin_i (ex_t hkn ⟨fun q => h29 (by rw [q]; rfl), h41, h49, h58⟩).symm hk
