/-! TrackNights: counts, what is known -/
def i1 : Nat → Int32
  | 0 => -1
  | k + 1 => nI k
theorem i1_dn : ∀ k, nI k + Int32.ofInt (-1) = i1 k
  | 0 => rfl
  | k + 1 => by
    have h := nI_add k 1
    show nI (k + 1) + _ = nI k
    rw [← h, Int32.add_assoc]
    exact Int32.add_zero _
theorem i1_st (n : Nat) : nI n - 1 = i1 n := (by rw [Int32.sub_eq_add_neg]; exact i1_dn n)
theorem cl_lt {x M : Int32} {n : Nat} (hM : M.toInt = n) (h0 : ¬ x < 0) (h1 : x < M) : x.toNatClampNeg < n := by
  have h2 := vp_in_iff.mp (vp_in_lt hM h0 h1)
  have h3 : x.toNatClampNeg = x.toInt.toNat := rfl
  rw [h3]
  omega
/-- the kilometre at which a measure wrote of a section, or none -/
def kn (S : St) (k : Nat) (s less : Int32) : Option Nat := if s / 10 = eS S k 0 then (if rm10 s - less < 0 then none else if rm10 s - less < 10 then (if eS S k (5 + 4 * (rm10 s - less).toNatClampNeg) = 1 then some (rm10 s - less).toNatClampNeg else none) else none) else none
theorem kn_j {S : St} {k j : Nat} {s less : Int32} (h : kn S k s less = some j) : j < 10 ∧ eS S k (5 + 4 * j) = 1 := by
  unfold kn at h
  split at h
  · split at h
    · cases h
    · split at h
      · split at h
        · rename_i h1 h2 h3 h4
          cases h
          exact ⟨cl_lt (n := 10) rfl h2 h3, h4⟩
        · cases h
      · cases h
  · cases h
theorem kn_wf (a : Tg → Nat) (S : St) (k : Nat) (s less : Int32) : s_wf (eS S k 0) (wrC a k (eS S k)) s less = (kn S k s less).map (fun j => a (9, k, j)) := by
  unfold s_wf kn wrC
  by_cases h1 : s / 10 = eS S k 0
  · rw [if_pos h1, if_pos h1]
    by_cases h2 : rm10 s - less < 0
    · rw [if_pos h2, if_pos h2]; rfl
    · rw [if_neg h2, if_neg h2]
      by_cases h3 : rm10 s - less < 10
      · rw [if_pos h3, if_pos h3, if_pos (cl_lt (n := 10) rfl h2 h3)]
        split <;> rfl
      · rw [if_neg h3, if_neg h3]; rfl
  · rw [if_neg h1, if_neg h1]; rfl
def lss (S : St) (k : Nat) : Int32 := if eS S k 4 = 0 then 0 else eS S k 3
def kby (S : St) (s : Int32) : Nat → Option (Nat × Nat)
  | 0 => none
  | m + 1 => match kn S m s (lss S m) with
    | some j => some (m, j)
    | none => kby S s m
theorem kby_sp {S : St} {s : Int32} : ∀ {n k j : Nat}, kby S s n = some (k, j) → k < n ∧ kn S k s (lss S k) = some j
  | 0, _, _, h => by cases h
  | m + 1, k, j, h => by
    simp only [kby] at h
    split at h
    · rename_i j2 hj
      cases h
      exact ⟨Nat.lt_succ_self _, hj⟩
    · exact ⟨Nat.lt_succ_of_lt (kby_sp h).1, (kby_sp h).2⟩
def o1 : Option (Nat × Nat) → Int32
  | none => -1
  | some (k, _) => nI k
def knA (a : Tg → Nat) : Option (Nat × Nat) → Nat
  | none => a (4, 21, 0)
  | some (k, j) => a (9, k, j)
/-- what is known: 0 wear, 1 crack, 2 settle -/
def knV (S : St) (i : Nat) : Option (Nat × Nat) → Int32
  | none => 0
  | some (k, j) => eS S k (6 + i + 4 * j)
theorem RepC.knw {Γ : Gw} {L : LayC} {S : St} {w : Wd} (h : RepC Γ L S w) (s : Int32) : ∃ t, w (knA L.1 (kby S s (nE S))) = some (t, oV (knV S 0 (kby S s (nE S))) (knV S 1 (kby S s (nE S))) (knV S 2 (kby S s (nE S)))) := by
  rcases hb : kby S s (nE S) with _ | ⟨k, j⟩
  · exact ⟨_, h.unk⟩
  · obtain ⟨h1, h2⟩ := kby_sp hb
    obtain ⟨h3, h4⟩ := kn_j h2
    exact ⟨(9, k, j), h.wrv h1 h3 h4⟩
def sp7 (f : Nat → Int32) (heat : Int32) : Int32 := s_speed (f 0) (f 1) (f 2) (heat - f 4)
def kSp (S : St) (s : Int32) (fr : Int32) : Int32 := s_speed (knV S 0 (kby S s (nE S))) (knV S 1 (kby S s (nE S))) (knV S 2 (kby S s (nE S))) (gl S 1 - fr)
def nTru (S : St) : Int32 := cnt (fun i => if sS S i 6 ≤ sp7 (sS S i) (gl S 1) then 0 else 1) 20
def nKno (S : St) : Int32 := cnt (fun i => if sS S i 6 ≤ kSp S (nI i) (sS S i 4) then 0 else 1) 20
def nPos (S : St) (st : Int32) : Int32 := cnt (fun k => if gS S k 0 = st then 1 else 0) (nN S)
def nAli (S : St) : Int32 := cnt (fun k => if eS S k 4 = 0 then 0 else 1) (nE S)
def oth (k : Nat) : Nat := if k < 10 then k + 10 else k - 10
noncomputable def sBes (S : St) (k : Nat) : Int32 := if ex01 (pTak S (nI (oth k))) (nN S) = 0 then sS S (oth k) 6 else 0
theorem nI_sub {a b : Nat} (h : b ≤ a) : nI a - nI b = nI (a - b) := by
  have e := nI_add (a - b) b
  rw [Nat.sub_add_cancel h] at e
  rw [← e, Int32.sub_eq_add_neg, Int32.add_assoc]
  have : nI b + -nI b = 0 := Int32.add_right_neg _
  rw [this, Int32.add_zero]
set_option maxHeartbeats 400000 in
set_option maxRecDepth 100000 in
theorem c_X6_countPossessions : CtrA yX6_countPossessions cX6_countPossessions 4 (some .int) (rmk 3 0 0 64) (fun Γ av w post xpost => ∃ (L : LayC) (S : St), ∃ st, av = [.ref (thC L), .int st] ∧ RepC Γ L S w ∧ post (some (.int (nPos S st))) w) := by
  refine ctr_of (by decide) ?_
  rintro g av w hG hO ⟨L, S, st, rfl, hR, hk⟩
  refine ⟨Nat.le_of_ble_eq_true rfl, ?_⟩
  show X g w 0 0 0 [some (.ref (thC L)), some (.int st), none, none] []
  have hn : nN S ≤ 30 := hR.n30 (id := 2) (by omega)
  refine x_iconst hG (pc := 0) 0 dX6_countPossessions_0 (by decide) ?_
  refine x_istore_n hG (pc := 1) 2 dX6_countPossessions_1 rfl (Nat.le_of_ble_eq_true rfl) rfl (by dsimp only [List.set]) ?_
  refine x_iconst hG (pc := 2) 0 dX6_countPossessions_2 (by decide) ?_
  refine x_istore_n hG (pc := 3) 3 dX6_countPossessions_3 rfl (Nat.le_of_ble_eq_true rfl) rfl (by dsimp only [List.set]) ?_
  refine nat_down (P := fun k => X g w 0 0 4 [some (.ref (thC L)), some (.int st), some (.int (cnt (fun k => if gS S k 0 = st then 1 else 0) k)), some (.int (nI k))] []) (nN S) (fun k hi ih => ?_) 0 (Nat.zero_le _)
  refine x_iload_n hG (pc := 4) 3 dX6_countPossessions_4 rfl rfl ?_
  refine x_aload_n hG (pc := 5) 0 dX6_countPossessions_5 rfl rfl ?_
  refine x_getf hG (pc := 6) fl_X6_25 (by first | assumption | exact hR.main) rfl dX6_countPossessions_6 ?_
  refine x_callV hG hO (pc := 9) [] c_Jx4a65c_size_8abf5 lk_X6_104 (hR.lst (id := 2) (by omega)).1 rfl rfl ⟨by decide, by decide⟩ (Nat.le_of_ble_eq_true rfl) (by rw [hG.mc]; exact Nat.le_of_ble_eq_true rfl) (by rw [hG.ms]; exact Nat.le_of_ble_eq_true rfl) dX6_countPossessions_9 ?_
  refine ⟨_, _, _, _, _, rfl, (hR.lst (id := 2) (by omega)).1, ?_⟩
  refine x_icmp_ge hG (pc := 12) 42 dX6_countPossessions_12 (by decide) (fun h12 => ?_) (fun h12 => ?_)
  · have hkn : k = nN S := by
      rcases Nat.lt_or_ge k (nN S) with q | q
      · exact absurd h12 (nI_ge (b := nN S) q (by omega))
      · omega
    refine x_iload_n hG (pc := 42) 2 dX6_countPossessions_42 rfl rfl ?_
    refine x_ireturn hG (pc := 43) dX6_countPossessions_43 rfl rfl (by rw [hG.mc]; exact Nat.le_of_ble_eq_true rfl) (by rw [hG.ms]; exact Nat.le_of_ble_eq_true rfl) ?_
    rw [hkn]
    exact hk
  · have hkn : k < nN S := by
      rcases Nat.lt_or_ge k (nN S) with q | q
      · exact q
      · exact absurd (nI_le q (by omega)) h12
    refine x_aload_n hG (pc := 15) 0 dX6_countPossessions_15 rfl rfl ?_
    refine x_getf hG (pc := 16) fl_X6_25 (by first | assumption | exact hR.main) rfl dX6_countPossessions_16 ?_
    refine x_iload_n hG (pc := 19) 3 dX6_countPossessions_19 rfl rfl ?_
    refine x_callV hG hO (pc := 20) [_] c_Jx4a65c_get_915e3 lk_X6_130 (hR.lst (id := 2) (by omega)).1 rfl rfl ⟨by decide, by decide⟩ (Nat.le_of_ble_eq_true rfl) (by rw [hG.mc]; exact Nat.le_of_ble_eq_true rfl) (by rw [hG.ms]; exact Nat.le_of_ble_eq_true rfl) dX6_countPossessions_20 ?_
    refine ⟨_, _, _, _, _, _, _, _, k, rfl, (hR.lst (id := 2) (by omega)), hkn, ?_⟩
    refine x_castC hG (pc := 23) ck_X6_176 (hR.pos hkn) dX6_countPossessions_23 ?_
    refine x_getf hG (pc := 26) fl_X6_191 (hR.pos hkn) rfl dX6_countPossessions_26 ?_
    refine x_iload_n hG (pc := 29) 1 dX6_countPossessions_29 rfl rfl ?_
    refine x_icmp_ne hG (pc := 30) 36 dX6_countPossessions_30 (by decide) (fun h30 => ?_) (fun h30 => ?_)
    · refine x_iinc hG (pc := 36) (nI (k + 1)) dX6_countPossessions_36 rfl (Nat.le_of_ble_eq_true rfl) rfl (nI_1' k) (by dsimp only [List.set]) ?_
      refine x_goto hG (pc := 39) 4 dX6_countPossessions_39 (by decide) ?_
      have hh := ih (k + 1) (by omega) (by omega)
      simp only [cnt, h12, h30, ↓reduceIte, Int32.add_zero] at hh
      exact hh
    · refine x_iinc hG (pc := 33) _ dX6_countPossessions_33 rfl (Nat.le_of_ble_eq_true rfl) rfl rfl (by dsimp only [List.set]) ?_
      refine x_iinc hG (pc := 36) (nI (k + 1)) dX6_countPossessions_36 rfl (Nat.le_of_ble_eq_true rfl) rfl (nI_1' k) (by dsimp only [List.set]) ?_
      refine x_goto hG (pc := 39) 4 dX6_countPossessions_39 (by decide) ?_
      have hh := ih (k + 1) (by omega) (by omega)
      simp only [cnt, h12, h30, ↓reduceIte, Int32.add_zero] at hh
      exact hh
set_option maxHeartbeats 400000 in
set_option maxRecDepth 100000 in
theorem c_X6_countAligned : CtrA yX6_countAligned cX6_countAligned 3 (some .int) (rmk 3 0 0 64) (fun Γ av w post xpost => ∃ (L : LayC) (S : St), av = [.ref (thC L)] ∧ RepC Γ L S w ∧ post (some (.int (nAli S))) w) := by
  refine ctr_of (by decide) ?_
  rintro g av w hG hO ⟨L, S, rfl, hR, hk⟩
  refine ⟨Nat.le_of_ble_eq_true rfl, ?_⟩
  show X g w 0 0 0 [some (.ref (thC L)), none, none] []
  have hn : nE S ≤ 30 := hR.n30 (id := 0) (by omega)
  refine x_iconst hG (pc := 0) 0 dX6_countAligned_0 (by decide) ?_
  refine x_istore_n hG (pc := 1) 1 dX6_countAligned_1 rfl (Nat.le_of_ble_eq_true rfl) rfl (by dsimp only [List.set]) ?_
  refine x_iconst hG (pc := 2) 0 dX6_countAligned_2 (by decide) ?_
  refine x_istore_n hG (pc := 3) 2 dX6_countAligned_3 rfl (Nat.le_of_ble_eq_true rfl) rfl (by dsimp only [List.set]) ?_
  refine nat_down (P := fun k => X g w 0 0 4 [some (.ref (thC L)), some (.int (cnt (fun k => if eS S k 4 = 0 then 0 else 1) k)), some (.int (nI k))] []) (nE S) (fun k hi ih => ?_) 0 (Nat.zero_le _)
  refine x_iload_n hG (pc := 4) 2 dX6_countAligned_4 rfl rfl ?_
  refine x_aload_n hG (pc := 5) 0 dX6_countAligned_5 rfl rfl ?_
  refine x_getf hG (pc := 6) fl_X6_18 (by first | assumption | exact hR.main) rfl dX6_countAligned_6 ?_
  refine x_callV hG hO (pc := 9) [] c_Jx4a65c_size_8abf5 lk_X6_104 (hR.lst (id := 0) (by omega)).1 rfl rfl ⟨by decide, by decide⟩ (Nat.le_of_ble_eq_true rfl) (by rw [hG.mc]; exact Nat.le_of_ble_eq_true rfl) (by rw [hG.ms]; exact Nat.le_of_ble_eq_true rfl) dX6_countAligned_9 ?_
  refine ⟨_, _, _, _, _, rfl, (hR.lst (id := 0) (by omega)).1, ?_⟩
  refine x_icmp_ge hG (pc := 12) 41 dX6_countAligned_12 (by decide) (fun h12 => ?_) (fun h12 => ?_)
  · have hkn : k = nE S := by
      rcases Nat.lt_or_ge k (nE S) with q | q
      · exact absurd h12 (nI_ge (b := nE S) q (by omega))
      · omega
    refine x_iload_n hG (pc := 41) 1 dX6_countAligned_41 rfl rfl ?_
    refine x_ireturn hG (pc := 42) dX6_countAligned_42 rfl rfl (by rw [hG.mc]; exact Nat.le_of_ble_eq_true rfl) (by rw [hG.ms]; exact Nat.le_of_ble_eq_true rfl) ?_
    rw [hkn]
    exact hk
  · have hkn : k < nE S := by
      rcases Nat.lt_or_ge k (nE S) with q | q
      · exact q
      · exact absurd (nI_le q (by omega)) h12
    refine x_aload_n hG (pc := 15) 0 dX6_countAligned_15 rfl rfl ?_
    refine x_getf hG (pc := 16) fl_X6_18 (by first | assumption | exact hR.main) rfl dX6_countAligned_16 ?_
    refine x_iload_n hG (pc := 19) 2 dX6_countAligned_19 rfl rfl ?_
    refine x_callV hG hO (pc := 20) [_] c_Jx4a65c_get_915e3 lk_X6_130 (hR.lst (id := 0) (by omega)).1 rfl rfl ⟨by decide, by decide⟩ (Nat.le_of_ble_eq_true rfl) (by rw [hG.mc]; exact Nat.le_of_ble_eq_true rfl) (by rw [hG.ms]; exact Nat.le_of_ble_eq_true rfl) dX6_countAligned_20 ?_
    refine ⟨_, _, _, _, _, _, _, _, k, rfl, (hR.lst (id := 0) (by omega)), hkn, ?_⟩
    refine x_castC hG (pc := 23) ck_X6_110 (hR.mea hkn) dX6_countAligned_23 ?_
    refine x_getf hG (pc := 26) fl_X6_134 (hR.mea hkn) rfl dX6_countAligned_26 ?_
    refine x_if_eq hG (pc := 29) 35 dX6_countAligned_29 (by decide) (fun h29 => ?_) (fun h29 => ?_)
    · refine x_iinc hG (pc := 35) (nI (k + 1)) dX6_countAligned_35 rfl (Nat.le_of_ble_eq_true rfl) rfl (nI_1' k) (by dsimp only [List.set]) ?_
      refine x_goto hG (pc := 38) 4 dX6_countAligned_38 (by decide) ?_
      have hh := ih (k + 1) (by omega) (by omega)
      simp only [cnt, h12, h29, ↓reduceIte, Int32.add_zero] at hh
      exact hh
    · refine x_iinc hG (pc := 32) _ dX6_countAligned_32 rfl (Nat.le_of_ble_eq_true rfl) rfl rfl (by dsimp only [List.set]) ?_
      refine x_iinc hG (pc := 35) (nI (k + 1)) dX6_countAligned_35 rfl (Nat.le_of_ble_eq_true rfl) rfl (nI_1' k) (by dsimp only [List.set]) ?_
      refine x_goto hG (pc := 38) 4 dX6_countAligned_38 (by decide) ?_
      have hh := ih (k + 1) (by omega) (by omega)
      simp only [cnt, h12, h29, ↓reduceIte, Int32.add_zero] at hh
      exact hh
set_option maxHeartbeats 400000 in
set_option maxRecDepth 100000 in
theorem c_X6_hoursTaken : CtrA yX6_hoursTaken cX6_hoursTaken 4 (some .int) (rmk 4 0 0 90) (fun Γ av w post xpost => ∃ (L : LayC) (S : St), ∃ n, av = [.ref (thC L), .ref (L.1 (11, n, 0))] ∧ RepC Γ L S w ∧ n < nN S ∧ post (some (.int (sumT L S n (nM S)))) w) := by
  refine ctr_of (by decide) ?_
  rintro g av w hG hO ⟨L, S, n, rfl, hR, hn2, hk⟩
  refine ⟨Nat.le_of_ble_eq_true rfl, ?_⟩
  show X g w 0 0 0 [some (.ref (thC L)), some (.ref (L.1 (11, n, 0))), none, none] []
  have hn : nM S ≤ 30 := hR.n30 (id := 1) (by omega)
  refine x_iconst hG (pc := 0) 0 dX6_hoursTaken_0 (by decide) ?_
  refine x_istore_n hG (pc := 1) 2 dX6_hoursTaken_1 rfl (Nat.le_of_ble_eq_true rfl) rfl (by dsimp only [List.set]) ?_
  refine x_iconst hG (pc := 2) 0 dX6_hoursTaken_2 (by decide) ?_
  refine x_istore_n hG (pc := 3) 3 dX6_hoursTaken_3 rfl (Nat.le_of_ble_eq_true rfl) rfl (by dsimp only [List.set]) ?_
  refine nat_down (P := fun k => X g w 0 0 4 [some (.ref (thC L)), some (.ref (L.1 (11, n, 0))), some (.int (cnt (fun m => (htS (maC L S n) (hrC S n) (L.1 (10, m, 0)) (mS S m 1) (nJ (gS S n))).2) k)), some (.int (nI k))] []) (nM S) (fun k hi ih => ?_) 0 (Nat.zero_le _)
  refine x_iload_n hG (pc := 4) 3 dX6_hoursTaken_4 rfl rfl ?_
  refine x_aload_n hG (pc := 5) 0 dX6_hoursTaken_5 rfl rfl ?_
  refine x_getf hG (pc := 6) fl_X6_22 (by first | assumption | exact hR.main) rfl dX6_hoursTaken_6 ?_
  refine x_callV hG hO (pc := 9) [] c_Jx4a65c_size_8abf5 lk_X6_104 (hR.lst (id := 1) (by omega)).1 rfl rfl ⟨by decide, by decide⟩ (Nat.le_of_ble_eq_true rfl) (by rw [hG.mc]; exact Nat.le_of_ble_eq_true rfl) (by rw [hG.ms]; exact Nat.le_of_ble_eq_true rfl) dX6_hoursTaken_9 ?_
  refine ⟨_, _, _, _, _, rfl, (hR.lst (id := 1) (by omega)).1, ?_⟩
  refine x_icmp_ge hG (pc := 12) 39 dX6_hoursTaken_12 (by decide) (fun h12 => ?_) (fun h12 => ?_)
  · have hkn : k = nM S := by
      rcases Nat.lt_or_ge k (nM S) with q | q
      · exact absurd h12 (nI_ge (b := nM S) q (by omega))
      · omega
    refine x_iload_n hG (pc := 39) 2 dX6_hoursTaken_39 rfl rfl ?_
    refine x_ireturn hG (pc := 40) dX6_hoursTaken_40 rfl rfl (by rw [hG.mc]; exact Nat.le_of_ble_eq_true rfl) (by rw [hG.ms]; exact Nat.le_of_ble_eq_true rfl) ?_
    rw [hkn]
    exact hk
  · have hkn : k < nM S := by
      rcases Nat.lt_or_ge k (nM S) with q | q
      · exact q
      · exact absurd (nI_le q (by omega)) h12
    refine x_iload_n hG (pc := 15) 2 dX6_hoursTaken_15 rfl rfl ?_
    refine x_aload_n hG (pc := 16) 1 dX6_hoursTaken_16 rfl rfl ?_
    refine x_aload_n hG (pc := 17) 0 dX6_hoursTaken_17 rfl rfl ?_
    refine x_getf hG (pc := 18) fl_X6_22 (by first | assumption | exact hR.main) rfl dX6_hoursTaken_18 ?_
    refine x_iload_n hG (pc := 21) 3 dX6_hoursTaken_21 rfl rfl ?_
    refine x_callV hG hO (pc := 22) [_] c_Jx4a65c_get_915e3 lk_X6_130 (hR.lst (id := 1) (by omega)).1 rfl rfl ⟨by decide, by decide⟩ (Nat.le_of_ble_eq_true rfl) (by rw [hG.mc]; exact Nat.le_of_ble_eq_true rfl) (by rw [hG.ms]; exact Nat.le_of_ble_eq_true rfl) dX6_hoursTaken_22 ?_
    refine ⟨_, _, _, _, _, _, _, _, k, rfl, (hR.lst (id := 1) (by omega)), hkn, ?_⟩
    refine x_castC hG (pc := 25) ck_X6_148 (hR.mac hkn) dX6_hoursTaken_25 ?_
    refine x_callV hG hO (pc := 28) [_] c_X2_hoursTakenBy lk_X6_463 (hR.pos hn2) rfl rfl ⟨by decide, by decide⟩ (Nat.le_of_ble_eq_true rfl) (by rw [hG.mc]; exact Nat.le_of_ble_eq_true rfl) (by rw [hG.ms]; exact Nat.le_of_ble_eq_true rfl) dX6_hoursTaken_28 ?_
    refine ⟨_, _, _, _, _, _, _, _, _, _, _, _, _, _, _, _, _, _, _, _, _, _, _, _, _, _, _, _, rfl, hR.pos hn2, hR.mac hkn, hR.lst (id := n + 3) (by omega), hR.wrk hn2, ?_⟩
    refine x_iadd hG (pc := 31) dX6_hoursTaken_31 ?_
    refine x_istore_n hG (pc := 32) 2 dX6_hoursTaken_32 rfl (Nat.le_of_ble_eq_true rfl) rfl (by dsimp only [List.set]) ?_
    refine x_iinc hG (pc := 33) (nI (k + 1)) dX6_hoursTaken_33 rfl (Nat.le_of_ble_eq_true rfl) rfl (nI_1' k) (by dsimp only [List.set]) ?_
    refine x_goto hG (pc := 36) 4 dX6_hoursTaken_36 (by decide) ?_
    have hh := ih (k + 1) (by omega) (by omega)
    simp only [cnt, h12, ↓reduceIte, Int32.add_zero] at hh
    exact hh
set_option maxHeartbeats 400000 in
set_option maxRecDepth 100000 in
theorem c_X6_countTrueRisks : CtrA yX6_countTrueRisks cX6_countTrueRisks 3 (some .int) (rmk 4 0 0 97) (fun Γ av w post xpost => ∃ (L : LayC) (S : St), av = [.ref (thC L)] ∧ RepC Γ L S w ∧ post (some (.int (nTru S))) w) := by
  refine ctr_of (by decide) ?_
  rintro g av w hG hO ⟨L, S, rfl, hR, hk⟩
  refine ⟨Nat.le_of_ble_eq_true rfl, ?_⟩
  show X g w 0 0 0 [some (.ref (thC L)), none, none] []
  refine x_iconst hG (pc := 0) 0 dX6_countTrueRisks_0 (by decide) ?_
  refine x_istore_n hG (pc := 1) 1 dX6_countTrueRisks_1 rfl (Nat.le_of_ble_eq_true rfl) rfl (by dsimp only [List.set]) ?_
  refine x_iconst hG (pc := 2) 0 dX6_countTrueRisks_2 (by decide) ?_
  refine x_istore_n hG (pc := 3) 2 dX6_countTrueRisks_3 rfl (Nat.le_of_ble_eq_true rfl) rfl (by dsimp only [List.set]) ?_
  refine nat_down (P := fun k => X g w 0 0 4 [some (.ref (thC L)), some (.int (cnt (fun i => if sS S i 6 ≤ sp7 (sS S i) (gl S 1) then 0 else 1) k)), some (.int (nI k))] []) 20 (fun k hi ih => ?_) 0 (Nat.zero_le _)
  refine x_iload_n hG (pc := 4) 2 dX6_countTrueRisks_4 rfl rfl ?_
  refine x_bipush hG (pc := 5) 20 dX6_countTrueRisks_5 (by decide) ?_
  refine x_icmp_ge hG (pc := 7) 35 dX6_countTrueRisks_7 (by decide) (fun h7 => ?_) (fun h7 => ?_)
  · have hkn : k = 20 := by
      rcases Nat.lt_or_ge k 20 with q | q
      · exact absurd h7 (nI_ge (b := 20) q (by decide))
      · omega
    refine x_iload_n hG (pc := 35) 1 dX6_countTrueRisks_35 rfl rfl ?_
    refine x_ireturn hG (pc := 36) dX6_countTrueRisks_36 rfl rfl (by rw [hG.mc]; exact Nat.le_of_ble_eq_true rfl) (by rw [hG.ms]; exact Nat.le_of_ble_eq_true rfl) ?_
    rw [hkn]
    exact hk
  · have hkn : k < 20 := by
      rcases Nat.lt_or_ge k 20 with q | q
      · exact q
      · exact absurd (nI_le (a := 20) q (by omega)) h7
    refine x_aload_n hG (pc := 10) 0 dX6_countTrueRisks_10 rfl rfl ?_
    refine x_getf hG (pc := 11) fl_X6_11 (by first | assumption | exact hR.main) rfl dX6_countTrueRisks_11 ?_
    refine x_iload_n hG (pc := 14) 2 dX6_countTrueRisks_14 rfl rfl ?_
    refine x_aaldS hG (pc := 15) hR.secs (vp_in_nI hkn (by decide)) dX6_countTrueRisks_15 ?_
    rw [nI_clamp (by omega), lE_at hkn]
    refine x_aload_n hG (pc := 16) 0 dX6_countTrueRisks_16 rfl rfl ?_
    refine x_getf hG (pc := 17) fl_X6_46 (by first | assumption | exact hR.main) rfl dX6_countTrueRisks_17 ?_
    refine x_callV hG hO (pc := 20) [_] c_X3_isRisk lk_X6_350 (hR.sec hkn) rfl rfl ⟨by decide, by decide⟩ (Nat.le_of_ble_eq_true rfl) (by rw [hG.mc]; exact Nat.le_of_ble_eq_true rfl) (by rw [hG.ms]; exact Nat.le_of_ble_eq_true rfl) dX6_countTrueRisks_20 ?_
    refine ⟨_, _, _, _, _, _, _, _, _, _, _, _, rfl, hR.sec hkn, hR.val hkn, ?_⟩
    show X g w 0 0 23 _ [.int (if sS S k 6 ≤ sp7 (sS S k) (gl S 1) then 0 else 1)]
    refine x_if_eq hG (pc := 23) 29 dX6_countTrueRisks_23 (by decide) (fun h23 => ?_) (fun h23 => ?_)
    · refine x_iinc hG (pc := 29) (nI (k + 1)) dX6_countTrueRisks_29 rfl (Nat.le_of_ble_eq_true rfl) rfl (nI_1' k) (by dsimp only [List.set]) ?_
      refine x_goto hG (pc := 32) 4 dX6_countTrueRisks_32 (by decide) ?_
      have hh := ih (k + 1) (by omega) (by omega)
      by_cases hq : sS S k 6 ≤ sp7 (sS S k) (gl S 1)
      · first
          | (rw [if_pos hq] at h23; exact absurd rfl h23)
          | (simp only [cnt, hq, ↓reduceIte, Int32.add_zero] at hh; exact hh)
      · first
          | (rw [if_neg hq] at h23; exact absurd h23 (by decide))
          | (simp only [cnt, hq, ↓reduceIte, Int32.add_zero] at hh; exact hh)
    · refine x_iinc hG (pc := 26) _ dX6_countTrueRisks_26 rfl (Nat.le_of_ble_eq_true rfl) rfl rfl (by dsimp only [List.set]) ?_
      refine x_iinc hG (pc := 29) (nI (k + 1)) dX6_countTrueRisks_29 rfl (Nat.le_of_ble_eq_true rfl) rfl (nI_1' k) (by dsimp only [List.set]) ?_
      refine x_goto hG (pc := 32) 4 dX6_countTrueRisks_32 (by decide) ?_
      have hh := ih (k + 1) (by omega) (by omega)
      by_cases hq : sS S k 6 ≤ sp7 (sS S k) (gl S 1)
      · first
          | (rw [if_pos hq] at h23; exact absurd rfl h23)
          | (simp only [cnt, hq, ↓reduceIte, Int32.add_zero] at hh; exact hh)
      · first
          | (rw [if_neg hq] at h23; exact absurd h23 (by decide))
          | (simp only [cnt, hq, ↓reduceIte, Int32.add_zero] at hh; exact hh)
theorem nat_dn {P : Nat → Prop} (n : Nat) (h : ∀ i, i ≤ n → (∀ j, j < i → P j) → P i) : ∀ i, i ≤ n → P i := by
  intro i
  induction i using Nat.strongRecOn with
  | ind i ih => exact fun hi => h i hi (fun j hj => ih j hj (by omega))
theorem cvn {S : St} {k : Nat} {s : Int32} : kn S k s (if eS S k 4 = 0 then 0 else eS S k 3) = kn S k s (lss S k) := rfl
set_option maxHeartbeats 400000 in
set_option maxRecDepth 100000 in
theorem c_X6_knowingMeasure : CtrA yX6_knowingMeasure cX6_knowingMeasure 3 (some .int) (rmk 3 0 0 65) (fun Γ av w post xpost => ∃ (L : LayC) (S : St), ∃ s, av = [.ref (thC L), .int s] ∧ RepC Γ L S w ∧ post (some (.int (o1 (kby S s (nE S))))) w) := by
  refine ctr_of (by decide) ?_
  rintro g av w hG hO ⟨L, S, s, rfl, hR, hk⟩
  refine ⟨Nat.le_of_ble_eq_true rfl, ?_⟩
  show X g w 0 0 0 [some (.ref (thC L)), some (.int s), none] []
  have hn : nE S ≤ 30 := hR.n30 (id := 0) (by omega)
  refine x_aload_n hG (pc := 0) 0 dX6_knowingMeasure_0 rfl rfl ?_
  refine x_getf hG (pc := 1) fl_X6_18 (by first | assumption | exact hR.main) rfl dX6_knowingMeasure_1 ?_
  refine x_callV hG hO (pc := 4) [] c_Jx4a65c_size_8abf5 lk_X6_104 (hR.lst (id := 0) (by omega)).1 rfl rfl ⟨by decide, by decide⟩ (Nat.le_of_ble_eq_true rfl) (by rw [hG.mc]; exact Nat.le_of_ble_eq_true rfl) (by rw [hG.ms]; exact Nat.le_of_ble_eq_true rfl) dX6_knowingMeasure_4 ?_
  refine ⟨_, _, _, _, _, rfl, (hR.lst (id := 0) (by omega)).1, ?_⟩
  refine x_iconst hG (pc := 7) 1 dX6_knowingMeasure_7 (by decide) ?_
  refine x_isub hG (pc := 8) dX6_knowingMeasure_8 ?_
  show X g w 0 0 9 _ [.int (nI (nE S) - 1)]
  rw [i1_st]
  refine x_istore_n hG (pc := 9) 2 dX6_knowingMeasure_9 rfl (Nat.le_of_ble_eq_true rfl) rfl (by dsimp only [List.set]) ?_
  refine nat_dn (P := fun m => kby S s m = kby S s (nE S) → X g w 0 0 10 [some (.ref (thC L)), some (.int s), some (.int (i1 m))] []) (nE S) (fun m hi ih hI => ?_) (nE S) (Nat.le_refl _) rfl
  by_cases m0 : m = 0
  · subst m0
    refine x_iload_n hG (pc := 10) 2 dX6_knowingMeasure_10 rfl rfl ?_
    refine x_if_lt hG (pc := 11) 40 dX6_knowingMeasure_11 (by decide) (fun h11 => ?_) (fun h11 => ?_)
    · refine x_iconst hG (pc := 40) (-1) dX6_knowingMeasure_40 (by decide) ?_
      refine x_ireturn hG (pc := 41) dX6_knowingMeasure_41 rfl rfl (by rw [hG.mc]; exact Nat.le_of_ble_eq_true rfl) (by rw [hG.ms]; exact Nat.le_of_ble_eq_true rfl) ?_
      exact fin_i (by rw [← hI]; rfl) hk
    · exact absurd (by decide) h11
  · obtain ⟨k, rfl⟩ := Nat.exists_eq_succ_of_ne_zero m0
    have hkn : k < nE S := hi
    refine x_iload_n hG (pc := 10) 2 dX6_knowingMeasure_10 rfl rfl ?_
    refine x_if_lt hG (pc := 11) 40 dX6_knowingMeasure_11 (by decide) (fun h11 => ?_) (fun h11 => ?_)
    · exact absurd h11 (nI_nn (by omega))
    · refine x_aload_n hG (pc := 14) 0 dX6_knowingMeasure_14 rfl rfl ?_
      refine x_getf hG (pc := 15) fl_X6_18 (by first | assumption | exact hR.main) rfl dX6_knowingMeasure_15 ?_
      refine x_iload_n hG (pc := 18) 2 dX6_knowingMeasure_18 rfl rfl ?_
      refine x_callV hG hO (pc := 19) [_] c_Jx4a65c_get_915e3 lk_X6_130 (hR.lst (id := 0) (by omega)).1 rfl rfl ⟨by decide, by decide⟩ (Nat.le_of_ble_eq_true rfl) (by rw [hG.mc]; exact Nat.le_of_ble_eq_true rfl) (by rw [hG.ms]; exact Nat.le_of_ble_eq_true rfl) dX6_knowingMeasure_19 ?_
      refine ⟨_, _, _, _, _, _, _, _, k, rfl, (hR.lst (id := 0) (by omega)), hkn, ?_⟩
      refine x_castC hG (pc := 22) ck_X6_110 (hR.mea hkn) dX6_knowingMeasure_22 ?_
      refine x_iload_n hG (pc := 25) 1 dX6_knowingMeasure_25 rfl rfl ?_
      refine x_callV hG hO (pc := 26) [_] c_X1_says lk_X6_439 (hR.mea hkn) rfl rfl ⟨by decide, by decide⟩ (Nat.le_of_ble_eq_true rfl) (by rw [hG.mc]; exact Nat.le_of_ble_eq_true rfl) (by rw [hG.ms]; exact Nat.le_of_ble_eq_true rfl) dX6_knowingMeasure_26 ?_
      refine ⟨_, _, _, _, _, _, _, _, s, rfl, hR.mea hkn, hR.wri hkn, ?_⟩
      rw [kn_wf, cvn]
      by_cases hq : kn S k s (lss S k) = none
      · rw [hq]
        refine x_ifnullN hG (pc := 29) 34 dX6_knowingMeasure_29 (by decide) ?_
        refine x_iinc hG (pc := 34) (i1 k) dX6_knowingMeasure_34 rfl (Nat.le_of_ble_eq_true rfl) rfl (i1_dn k) (by dsimp only [List.set]) ?_
        refine x_goto hG (pc := 37) 10 dX6_knowingMeasure_37 (by decide) ?_
        exact ih k (Nat.lt_succ_self k) (Eq.trans (by simp only [kby, hq]) hI)
      · obtain ⟨j, hj⟩ := Option.ne_none_iff_exists'.mp hq
        rw [hj]
        refine x_ifnull hG (pc := 29) dX6_knowingMeasure_29 ?_
        refine x_iload_n hG (pc := 32) 2 dX6_knowingMeasure_32 rfl rfl ?_
        refine x_ireturn hG (pc := 33) dX6_knowingMeasure_33 rfl rfl (by rw [hG.mc]; exact Nat.le_of_ble_eq_true rfl) (by rw [hG.ms]; exact Nat.le_of_ble_eq_true rfl) ?_
        exact fin_i (by rw [← hI]; simp only [kby, hj, o1]; rfl) hk
set_option maxHeartbeats 400000 in
set_option maxRecDepth 100000 in
theorem c_X6_knownValues : CtrA yX6_knownValues cX6_knownValues 4 (some (.object "TrackNights$Values")) (rmk 4 0 0 87) (fun Γ av w post xpost => ∃ (L : LayC) (S : St), ∃ s, av = [.ref (thC L), .int s] ∧ RepC Γ L S w ∧ post (some (.ref (knA L.1 (kby S s (nE S))))) w) := by
  refine ctr_of (by decide) ?_
  rintro g av w hG hO ⟨L, S, s, rfl, hR, hk⟩
  refine ⟨Nat.le_of_ble_eq_true rfl, ?_⟩
  show X g w 0 0 0 [some (.ref (thC L)), some (.int s), none, none] []
  have hn : nE S ≤ 30 := hR.n30 (id := 0) (by omega)
  refine x_aload_n hG (pc := 0) 0 dX6_knownValues_0 rfl rfl ?_
  refine x_iload_n hG (pc := 1) 1 dX6_knownValues_1 rfl rfl ?_
  refine x_callV hG hO (pc := 2) [_] c_X6_knowingMeasure lk_X6_301 (by first | assumption | exact hR.main) rfl rfl ⟨by decide, by decide⟩ (Nat.le_of_ble_eq_true rfl) (by rw [hG.mc]; exact Nat.le_of_ble_eq_true rfl) (by rw [hG.ms]; exact Nat.le_of_ble_eq_true rfl) dX6_knownValues_2 ?_
  refine ⟨L, S, s, rfl, hR, ?_⟩
  refine x_istore_n hG (pc := 5) 2 dX6_knownValues_5 rfl (Nat.le_of_ble_eq_true rfl) rfl (by dsimp only [List.set]) ?_
  by_cases hb : kby S s (nE S) = none
  · rw [hb] at hk ⊢
    refine x_iload_n hG (pc := 6) 2 dX6_knownValues_6 rfl rfl ?_
    refine x_if_lt hG (pc := 7) 21 dX6_knownValues_7 (by decide) (fun h7 => ?_) (fun h7 => ?_)
    · refine x_aload_n hG (pc := 21) 0 dX6_knownValues_21 rfl rfl ?_
      refine x_getf hG (pc := 22) fl_X6_33 (by first | assumption | exact hR.main) rfl dX6_knownValues_22 ?_
      refine x_areturn hG (pc := 25) dX6_knownValues_25 rfl (Or.inl ⟨_, rfl⟩) (by rw [hG.mc]; exact Nat.le_of_ble_eq_true rfl) (by rw [hG.ms]; exact Nat.le_of_ble_eq_true rfl) ?_
      exact hk
    · exact absurd (by decide) h7
  · obtain ⟨⟨k, j⟩, hb2⟩ := Option.ne_none_iff_exists'.mp hb
    rw [hb2] at hk ⊢
    obtain ⟨hkn, hj⟩ := kby_sp hb2
    show X g w 0 0 6 [some (.ref (thC L)), some (.int s), some (.int (nI k)), none] []
    refine x_iload_n hG (pc := 6) 2 dX6_knownValues_6 rfl rfl ?_
    refine x_if_lt hG (pc := 7) 21 dX6_knownValues_7 (by decide) (fun h7 => ?_) (fun h7 => ?_)
    · exact absurd h7 (nI_nn (by omega))
    · refine x_iload_n hG (pc := 10) 2 dX6_knownValues_10 rfl rfl ?_
      refine x_aload_n hG (pc := 11) 0 dX6_knownValues_11 rfl rfl ?_
      refine x_getf hG (pc := 12) fl_X6_18 (by first | assumption | exact hR.main) rfl dX6_knownValues_12 ?_
      refine x_callV hG hO (pc := 15) [] c_Jx4a65c_size_8abf5 lk_X6_104 (hR.lst (id := 0) (by omega)).1 rfl rfl ⟨by decide, by decide⟩ (Nat.le_of_ble_eq_true rfl) (by rw [hG.mc]; exact Nat.le_of_ble_eq_true rfl) (by rw [hG.ms]; exact Nat.le_of_ble_eq_true rfl) dX6_knownValues_15 ?_
      refine ⟨_, _, _, _, _, rfl, (hR.lst (id := 0) (by omega)).1, ?_⟩
      refine x_icmp_lt hG (pc := 18) 26 dX6_knownValues_18 (by decide) (fun h18 => ?_) (fun h18 => ?_)
      · refine x_aload_n hG (pc := 26) 0 dX6_knownValues_26 rfl rfl ?_
        refine x_getf hG (pc := 27) fl_X6_18 (by first | assumption | exact hR.main) rfl dX6_knownValues_27 ?_
        refine x_iload_n hG (pc := 30) 2 dX6_knownValues_30 rfl rfl ?_
        refine x_callV hG hO (pc := 31) [_] c_Jx4a65c_get_915e3 lk_X6_130 (hR.lst (id := 0) (by omega)).1 rfl rfl ⟨by decide, by decide⟩ (Nat.le_of_ble_eq_true rfl) (by rw [hG.mc]; exact Nat.le_of_ble_eq_true rfl) (by rw [hG.ms]; exact Nat.le_of_ble_eq_true rfl) dX6_knownValues_31 ?_
        refine ⟨_, _, _, _, _, _, _, _, k, rfl, (hR.lst (id := 0) (by omega)), hkn, ?_⟩
        refine x_castC hG (pc := 34) ck_X6_110 (hR.mea hkn) dX6_knownValues_34 ?_
        refine x_iload_n hG (pc := 37) 1 dX6_knownValues_37 rfl rfl ?_
        refine x_callV hG hO (pc := 38) [_] c_X1_says lk_X6_439 (hR.mea hkn) rfl rfl ⟨by decide, by decide⟩ (Nat.le_of_ble_eq_true rfl) (by rw [hG.mc]; exact Nat.le_of_ble_eq_true rfl) (by rw [hG.ms]; exact Nat.le_of_ble_eq_true rfl) dX6_knownValues_38 ?_
        refine ⟨_, _, _, _, _, _, _, _, s, rfl, hR.mea hkn, hR.wri hkn, ?_⟩
        rw [kn_wf, cvn]
        rw [hj]
        show X g w 0 0 41 _ [.ref (L.1 (9, k, j))]
        refine x_astore_n hG (pc := 41) 3 dX6_knownValues_41 rfl (Nat.le_of_ble_eq_true rfl) rfl (by dsimp only [List.set]) ?_
        refine x_aload_n hG (pc := 42) 3 dX6_knownValues_42 rfl rfl ?_
        refine x_ifnonnull hG (pc := 43) 53 dX6_knownValues_43 (by decide) ?_
        refine x_aload_n hG (pc := 53) 3 dX6_knownValues_53 rfl rfl ?_
        refine x_areturn hG (pc := 54) dX6_knownValues_54 rfl (Or.inl ⟨_, rfl⟩) (by rw [hG.mc]; exact Nat.le_of_ble_eq_true rfl) (by rw [hG.ms]; exact Nat.le_of_ble_eq_true rfl) ?_
        exact hk
      · exact absurd (nI_lt2 hkn (by omega)) h18
set_option maxHeartbeats 400000 in
set_option maxRecDepth 100000 in
theorem c_X6_countKnownRisks : CtrA yX6_countKnownRisks cX6_countKnownRisks 4 (some .int) (rmk 5 0 0 110) (fun Γ av w post xpost => ∃ (L : LayC) (S : St), av = [.ref (thC L)] ∧ RepC Γ L S w ∧ post (some (.int (nKno S))) w) := by
  refine ctr_of (by decide) ?_
  rintro g av w hG hO ⟨L, S, rfl, hR, hk⟩
  refine ⟨Nat.le_of_ble_eq_true rfl, ?_⟩
  show X g w 0 0 0 [some (.ref (thC L)), none, none, none] []
  refine x_iconst hG (pc := 0) 0 dX6_countKnownRisks_0 (by decide) ?_
  refine x_istore_n hG (pc := 1) 1 dX6_countKnownRisks_1 rfl (Nat.le_of_ble_eq_true rfl) rfl (by dsimp only [List.set]) ?_
  refine x_iconst hG (pc := 2) 0 dX6_countKnownRisks_2 (by decide) ?_
  refine x_istore_n hG (pc := 3) 2 dX6_countKnownRisks_3 rfl (Nat.le_of_ble_eq_true rfl) rfl (by dsimp only [List.set]) ?_
  refine nat_down (P := fun k => ∀ z : Option Value, X g w 0 0 4 [some (.ref (thC L)), some (.int (cnt (fun i => if sS S i 6 ≤ kSp S (nI i) (sS S i 4) then 0 else 1) k)), some (.int (nI k)), z] []) 20 (fun k hi ih z => ?_) 0 (Nat.zero_le _) none
  refine x_iload_n hG (pc := 4) 2 dX6_countKnownRisks_4 rfl rfl ?_
  refine x_bipush hG (pc := 5) 20 dX6_countKnownRisks_5 (by decide) ?_
  refine x_icmp_ge hG (pc := 7) 50 dX6_countKnownRisks_7 (by decide) (fun h7 => ?_) (fun h7 => ?_)
  · have hkn : k = 20 := by
      rcases Nat.lt_or_ge k 20 with q | q
      · exact absurd h7 (nI_ge (b := 20) q (by decide))
      · omega
    refine x_iload_n hG (pc := 50) 1 dX6_countKnownRisks_50 rfl rfl ?_
    refine x_ireturn hG (pc := 51) dX6_countKnownRisks_51 rfl rfl (by rw [hG.mc]; exact Nat.le_of_ble_eq_true rfl) (by rw [hG.ms]; exact Nat.le_of_ble_eq_true rfl) ?_
    rw [hkn]
    exact hk
  · have hkn : k < 20 := by
      rcases Nat.lt_or_ge k 20 with q | q
      · exact q
      · exact absurd (nI_le (a := 20) q (by omega)) h7
    refine x_aload_n hG (pc := 10) 0 dX6_countKnownRisks_10 rfl rfl ?_
    refine x_getf hG (pc := 11) fl_X6_11 (by first | assumption | exact hR.main) rfl dX6_countKnownRisks_11 ?_
    refine x_iload_n hG (pc := 14) 2 dX6_countKnownRisks_14 rfl rfl ?_
    refine x_aaldS hG (pc := 15) hR.secs (vp_in_nI hkn (by decide)) dX6_countKnownRisks_15 ?_
    rw [nI_clamp (by omega), lE_at hkn]
    refine x_astore_n hG (pc := 16) 3 dX6_countKnownRisks_16 rfl (Nat.le_of_ble_eq_true rfl) rfl (by dsimp only [List.set]) ?_
    refine x_aload_n hG (pc := 17) 3 dX6_countKnownRisks_17 rfl rfl ?_
    refine x_getf hG (pc := 18) fl_X6_79 (hR.sec hkn) rfl dX6_countKnownRisks_18 ?_
    refine x_aload_n hG (pc := 21) 0 dX6_countKnownRisks_21 rfl rfl ?_
    refine x_iload_n hG (pc := 22) 2 dX6_countKnownRisks_22 rfl rfl ?_
    refine x_callV hG hO (pc := 23) [_] c_X6_knownValues lk_X6_294 (by first | assumption | exact hR.main) rfl rfl ⟨by decide, by decide⟩ (Nat.le_of_ble_eq_true rfl) (by rw [hG.mc]; exact Nat.le_of_ble_eq_true rfl) (by rw [hG.ms]; exact Nat.le_of_ble_eq_true rfl) dX6_countKnownRisks_23 ?_
    refine ⟨L, S, nI k, rfl, hR, ?_⟩
    obtain ⟨tk, hkv⟩ := hR.knw (nI k)
    refine x_aload_n hG (pc := 26) 0 dX6_countKnownRisks_26 rfl rfl ?_
    refine x_getf hG (pc := 27) fl_X6_46 (by first | assumption | exact hR.main) rfl dX6_countKnownRisks_27 ?_
    refine x_aload_n hG (pc := 30) 3 dX6_countKnownRisks_30 rfl rfl ?_
    refine x_getf hG (pc := 31) fl_X6_286 (hR.sec hkn) rfl dX6_countKnownRisks_31 ?_
    refine x_isub hG (pc := 34) dX6_countKnownRisks_34 ?_
    refine x_callV hG hO (pc := 35) [_] c_X4_speed lk_X6_298 hkv rfl rfl ⟨by decide, by decide⟩ (Nat.le_of_ble_eq_true rfl) (by rw [hG.mc]; exact Nat.le_of_ble_eq_true rfl) (by rw [hG.ms]; exact Nat.le_of_ble_eq_true rfl) dX6_countKnownRisks_35 ?_
    refine ⟨_, _, _, _, _, _, rfl, hkv, ?_⟩
    refine x_icmp_le hG (pc := 38) 44 dX6_countKnownRisks_38 (by decide) (fun h38 => ?_) (fun h38 => ?_)
    · refine x_iinc hG (pc := 44) (nI (k + 1)) dX6_countKnownRisks_44 rfl (Nat.le_of_ble_eq_true rfl) rfl (nI_1' k) (by dsimp only [List.set]) ?_
      refine x_goto hG (pc := 47) 4 dX6_countKnownRisks_47 (by decide) ?_
      have hh := ih (k + 1) (by omega) (by omega)
      simp only [cnt] at hh
      first
        | (rw [if_pos (show sS S k 6 ≤ kSp S (nI k) (sS S k 4) from h38), Int32.add_zero] at hh; exact hh _)
        | (rw [if_neg (show ¬ sS S k 6 ≤ kSp S (nI k) (sS S k 4) from h38)] at hh; exact hh _)
    · refine x_iinc hG (pc := 41) _ dX6_countKnownRisks_41 rfl (Nat.le_of_ble_eq_true rfl) rfl rfl (by dsimp only [List.set]) ?_
      refine x_iinc hG (pc := 44) (nI (k + 1)) dX6_countKnownRisks_44 rfl (Nat.le_of_ble_eq_true rfl) rfl (nI_1' k) (by dsimp only [List.set]) ?_
      refine x_goto hG (pc := 47) 4 dX6_countKnownRisks_47 (by decide) ?_
      have hh := ih (k + 1) (by omega) (by omega)
      simp only [cnt] at hh
      first
        | (rw [if_pos (show sS S k 6 ≤ kSp S (nI k) (sS S k 4) from h38), Int32.add_zero] at hh; exact hh _)
        | (rw [if_neg (show ¬ sS S k 6 ≤ kSp S (nI k) (sS S k 4) from h38)] at hh; exact hh _)
set_option maxHeartbeats 400000 in
set_option maxRecDepth 100000 in
theorem c_X6_signBeside : CtrA yX6_signBeside cX6_signBeside 3 (some .int) (rmk 4 0 0 87) (fun Γ av w post xpost => ∃ (L : LayC) (S : St), ∃ k, av = [.ref (thC L), .int (nI k)] ∧ RepC Γ L S w ∧ k < 20 ∧ post (some (.int (sBes S k))) w) := by
  refine ctr_of (by decide) ?_
  rintro g av w hG hO ⟨L, S, k, rfl, hR, hk20, hk⟩
  refine ⟨Nat.le_of_ble_eq_true rfl, ?_⟩
  show X g w 0 0 0 [some (.ref (thC L)), some (.int (nI k)), none] []
  refine x_iload_n hG (pc := 0) 1 dX6_signBeside_0 rfl rfl ?_
  refine x_bipush hG (pc := 1) 10 dX6_signBeside_1 (by decide) ?_
  refine x_icmp_ge hG (pc := 3) 13 dX6_signBeside_3 (by decide) (fun h3 => ?_) (fun h3 => ?_)
  · have hk10 : ¬ k < 10 := fun q => nI_ge (b := 10) q (by decide) h3
    have ho : oth k = k - 10 := if_neg hk10
    refine x_iload_n hG (pc := 13) 1 dX6_signBeside_13 rfl rfl ?_
    refine x_bipush hG (pc := 14) 10 dX6_signBeside_14 (by decide) ?_
    refine x_isub hG (pc := 16) dX6_signBeside_16 ?_
    show X g w 0 0 17 _ [.int (nI k - nI 10)]
    rw [nI_sub (by omega), ← ho]
    have hok : oth k < 20 := by omega
    refine x_istore_n hG (pc := 17) 2 dX6_signBeside_17 rfl (Nat.le_of_ble_eq_true rfl) rfl (by dsimp only [List.set]) ?_
    refine x_aload_n hG (pc := 18) 0 dX6_signBeside_18 rfl rfl ?_
    refine x_iload_n hG (pc := 19) 2 dX6_signBeside_19 rfl rfl ?_
    refine x_callV hG hO (pc := 20) [_] c_X6_isTaken lk_X6_264 (by first | assumption | exact hR.main) rfl rfl ⟨by decide, by decide⟩ (Nat.le_of_ble_eq_true rfl) (by rw [hG.mc]; exact Nat.le_of_ble_eq_true rfl) (by rw [hG.ms]; exact Nat.le_of_ble_eq_true rfl) dX6_signBeside_20 ?_
    refine ⟨L, S, nI (oth k), rfl, hR, ?_⟩
    refine x_if_eq hG (pc := 23) 30 dX6_signBeside_23 (by decide) (fun h23 => ?_) (fun h23 => ?_)
    · refine x_aload_n hG (pc := 30) 0 dX6_signBeside_30 rfl rfl ?_
      refine x_iload_n hG (pc := 31) 2 dX6_signBeside_31 rfl rfl ?_
      refine x_callV hG hO (pc := 32) [_] v_X6_sectionAt lk_X6_64 (by first | assumption | exact hR.main) rfl rfl ⟨by decide, by decide⟩ (Nat.le_of_ble_eq_true rfl) (by rw [hG.mc]; exact Nat.le_of_ble_eq_true rfl) (by rw [hG.ms]; exact Nat.le_of_ble_eq_true rfl) dX6_signBeside_32 ?_
      refine ⟨L, S, oth k, rfl, hR, hok, ?_⟩
      refine x_getf hG (pc := 35) fl_X6_79 (hR.sec hok) rfl dX6_signBeside_35 ?_
      refine x_ireturn hG (pc := 38) dX6_signBeside_38 rfl rfl (by rw [hG.mc]; exact Nat.le_of_ble_eq_true rfl) (by rw [hG.ms]; exact Nat.le_of_ble_eq_true rfl) ?_
      first
        | exact fin_i (by simp only [sBes, h23, ↓reduceIte]) hk
        | exact fin_i (by simp only [sBes, h23, ↓reduceIte]; rfl) hk
    · refine x_iconst hG (pc := 26) 0 dX6_signBeside_26 (by decide) ?_
      refine x_goto hG (pc := 27) 38 dX6_signBeside_27 (by decide) ?_
      refine x_ireturn hG (pc := 38) dX6_signBeside_38 rfl rfl (by rw [hG.mc]; exact Nat.le_of_ble_eq_true rfl) (by rw [hG.ms]; exact Nat.le_of_ble_eq_true rfl) ?_
      first
        | exact fin_i (by simp only [sBes, h23, ↓reduceIte]) hk
        | exact fin_i (by simp only [sBes, h23, ↓reduceIte]; rfl) hk
  · have hk10 : k < 10 := by
      rcases Nat.lt_or_ge k 10 with q | q
      · exact q
      · exact absurd (nI_le (a := 10) q (by omega)) h3
    have ho : oth k = k + 10 := if_pos hk10
    refine x_iload_n hG (pc := 6) 1 dX6_signBeside_6 rfl rfl ?_
    refine x_bipush hG (pc := 7) 10 dX6_signBeside_7 (by decide) ?_
    refine x_iadd hG (pc := 9) dX6_signBeside_9 ?_
    show X g w 0 0 10 _ [.int (nI k + nI 10)]
    rw [nI_add, ← ho]
    have hok : oth k < 20 := by omega
    refine x_goto hG (pc := 10) 17 dX6_signBeside_10 (by decide) ?_
    refine x_istore_n hG (pc := 17) 2 dX6_signBeside_17 rfl (Nat.le_of_ble_eq_true rfl) rfl (by dsimp only [List.set]) ?_
    refine x_aload_n hG (pc := 18) 0 dX6_signBeside_18 rfl rfl ?_
    refine x_iload_n hG (pc := 19) 2 dX6_signBeside_19 rfl rfl ?_
    refine x_callV hG hO (pc := 20) [_] c_X6_isTaken lk_X6_264 (by first | assumption | exact hR.main) rfl rfl ⟨by decide, by decide⟩ (Nat.le_of_ble_eq_true rfl) (by rw [hG.mc]; exact Nat.le_of_ble_eq_true rfl) (by rw [hG.ms]; exact Nat.le_of_ble_eq_true rfl) dX6_signBeside_20 ?_
    refine ⟨L, S, nI (oth k), rfl, hR, ?_⟩
    refine x_if_eq hG (pc := 23) 30 dX6_signBeside_23 (by decide) (fun h23 => ?_) (fun h23 => ?_)
    · refine x_aload_n hG (pc := 30) 0 dX6_signBeside_30 rfl rfl ?_
      refine x_iload_n hG (pc := 31) 2 dX6_signBeside_31 rfl rfl ?_
      refine x_callV hG hO (pc := 32) [_] v_X6_sectionAt lk_X6_64 (by first | assumption | exact hR.main) rfl rfl ⟨by decide, by decide⟩ (Nat.le_of_ble_eq_true rfl) (by rw [hG.mc]; exact Nat.le_of_ble_eq_true rfl) (by rw [hG.ms]; exact Nat.le_of_ble_eq_true rfl) dX6_signBeside_32 ?_
      refine ⟨L, S, oth k, rfl, hR, hok, ?_⟩
      refine x_getf hG (pc := 35) fl_X6_79 (hR.sec hok) rfl dX6_signBeside_35 ?_
      refine x_ireturn hG (pc := 38) dX6_signBeside_38 rfl rfl (by rw [hG.mc]; exact Nat.le_of_ble_eq_true rfl) (by rw [hG.ms]; exact Nat.le_of_ble_eq_true rfl) ?_
      first
        | exact fin_i (by simp only [sBes, h23, ↓reduceIte]) hk
        | exact fin_i (by simp only [sBes, h23, ↓reduceIte]; rfl) hk
    · refine x_iconst hG (pc := 26) 0 dX6_signBeside_26 (by decide) ?_
      refine x_goto hG (pc := 27) 38 dX6_signBeside_27 (by decide) ?_
      refine x_ireturn hG (pc := 38) dX6_signBeside_38 rfl rfl (by rw [hG.mc]; exact Nat.le_of_ble_eq_true rfl) (by rw [hG.ms]; exact Nat.le_of_ble_eq_true rfl) ?_
      first
        | exact fin_i (by simp only [sBes, h23, ↓reduceIte]) hk
        | exact fin_i (by simp only [sBes, h23, ↓reduceIte]; rfl) hk
