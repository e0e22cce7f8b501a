/-! what the law's checks ask, out of what holds -/
theorem nlt_of {x y : Int32} (h : y.toInt ≤ x.toInt) : ¬ x < y := fun z => by have := tLt.mp z; omega
def pF (S : St) (k : Nat) : Int32 := if ofS S k 6 ≤ ofS S k 7 then 0 else 1
def pG (S : St) (k : Nat) : Int32 := if ofS S k 6 ≤ knS S k 3 then 0 else 1
def pI (S : St) (st k : Nat) : Int32 := if gS S k 0 = nI st then 1 else 0
def pO (S : St) (k : Nat) : Int32 := gS S k 9
theorem mn_b {a b : Int32} (ha : 0 ≤ a.toInt ∧ a.toInt ≤ 160) (hb : 0 ≤ b.toInt ∧ b.toInt ≤ 160) : 0 ≤ (mn a b).toInt ∧ (mn a b).toInt ≤ 160 := by
  rw [mn_ti]
  omega
theorem speed_b {x y z t : Int32} : 0 ≤ (s_speed x y z t).toInt ∧ (s_speed x y z t).toInt ≤ 160 := by
  unfold s_speed
  refine mn_b (mn_b ?_ ?_) (mn_b ?_ ?_)
  · unfold s_wear
    repeat' split
    all_goals decide
  · unfold s_crack
    repeat' split
    all_goals decide
  · unfold s_settle
    repeat' split
    all_goals decide
  · unfold s_heat
    repeat' split
    all_goals decide
theorem dec_iff {x y z t : Int32} : (if s_dec x y z t = 0 then (1 : Int32) else 0) = if s_speed x y z t = 160 then 1 else 0 := by
  by_cases h : s_speed x y z t = 160
  · have e : s_dec x y z t = 0 := if_pos h
    rw [if_pos e, if_pos h]
  · have e : ¬ s_dec x y z t = 0 := by
      unfold s_dec
      rw [if_neg h]
      repeat' split
      all_goals decide
    rw [if_neg e, if_neg h]
theorem so_sec {S : St} {t k : Nat} (h : P3 S t) (hk : k < 20) : (¬ ofS S k 0 < 0 ∧ ¬ 100 < ofS S k 0) ∧ (¬ ofS S k 1 < 0 ∧ ¬ 60 < ofS S k 1) ∧ (¬ ofS S k 2 < 0 ∧ ¬ 60 < ofS S k 2) ∧ (¬ ofS S k 4 < 10 ∧ ¬ 40 < ofS S k 4) ∧ (¬ ofS S k 7 < 0 ∧ ofS S k 7 ≤ 160) := by
  have hI := h.1.1.1 k hk
  have hB := h.2.1.1 k hk
  have e0 : (0 : Int32).toInt = 0 := rfl
  have e10 : (10 : Int32).toInt = 10 := rfl
  have e40 : (40 : Int32).toInt = 40 := rfl
  have e60 : (60 : Int32).toInt = 60 := rfl
  have e100 : (100 : Int32).toInt = 100 := rfl
  have e160 : (160 : Int32).toInt = 160 := rfl
  have s7 : 0 ≤ (ofS S k 7).toInt ∧ (ofS S k 7).toInt ≤ 160 := by
    rw [ofS7]
    exact speed_b
  rw [ofS_lt (by decide), ofS_lt (by decide), ofS_lt (by decide), ofS_lt (by decide)]
  exact ⟨⟨nlt_of (by rw [e0]; exact hI.1.1), nlt_of (by rw [e100]; exact hI.1.2)⟩, ⟨nlt_of (by rw [e0]; exact hI.2.1.1), nlt_of (by rw [e60]; exact hI.2.1.2)⟩, ⟨nlt_of (by rw [e0]; exact hB.1.1), nlt_of (by rw [e60]; exact hB.1.2)⟩, ⟨nlt_of (by rw [e10]; exact hB.2.2.1), nlt_of (by rw [e40]; exact hB.2.2.2)⟩, nlt_of (by rw [e0]; exact s7.1), tLe.mpr (by rw [e160]; exact s7.2)⟩
theorem so_why {S : St} {k : Nat} : ((if wyV S k 0 = 0 then (1 : Int32) else 0) = if ofS S k 7 = 160 then 1 else 0) ∧ ((if wyV S k 1 = 0 then (1 : Int32) else 0) = if knS S k 3 = 160 then 1 else 0) := by
  refine ⟨?_, ?_⟩
  · have e : wyV S k 0 = s_dec (sS S k 0) (sS S k 1) (sS S k 2) (gl S 1 - sS S k 4) := if_pos rfl
    rw [e, ofS7]
    exact dec_iff
  · have e : wyV S k 1 = s_dec (knV S 0 (kby S (nI k) (nE S))) (knV S 1 (kby S (nI k) (nE S))) (knV S 2 (kby S (nI k) (nE S))) (gl S 1 - sS S k 4) := if_neg (by decide)
    rw [e]
    exact dec_iff
theorem so_kn {S : St} {t k : Nat} (h : P3 S t) : (¬ knS S k 1 ≤ 0 → ¬ knS S k 1 < 5) ∧ (¬ 0 ≤ knS S k 4 → ¬ 0 < knS S k 0 + knS S k 1 + knS S k 2) ∧ oF (fo (pSee S (nI k)) (nE S)) < manV S 2 := by
  have hE := h.1.1.2.1.2.2
  have e0 : (0 : Int32).toInt = 0 := rfl
  have e5 : (5 : Int32).toInt = 5 := rfl
  refine ⟨fun a b => ?_, fun a b => ?_, ?_⟩
  · have e : knS S k 1 = knV S 1 (kby S (nI k) (nE S)) := rfl
    rw [e] at a b
    rcases hb : kby S (nI k) (nE S) with _ | ⟨m, j⟩
    · rw [hb] at a
      exact a (by show (0 : Int32) ≤ 0; decide)
    · obtain ⟨h1, h2⟩ := kby_sp hb
      obtain ⟨h3, h4⟩ := kn_j h2
      rw [hb] at a b
      have e2 : knV S 1 (some (m, j)) = eS S m (7 + 4 * j) := rfl
      rw [e2] at a b
      have a1 := mt tLe.mpr a
      have b1 := tLt.mp b
      rw [e0] at a1
      rw [e5] at b1
      rcases (h.2.2.2.1 m h1).2 j h3 with z | z <;> omega
  · have e : knS S k 4 = o1 (kby S (nI k) (nE S)) := rfl
    rw [e] at a
    rcases hb : kby S (nI k) (nE S) with _ | ⟨m, j⟩
    · have e2 : knS S k 0 + knS S k 1 + knS S k 2 = 0 := by
        show knV S 0 (kby S (nI k) (nE S)) + knV S 1 (kby S (nI k) (nE S)) + knV S 2 (kby S (nI k) (nE S)) = 0
        rw [hb]
        rfl
      rw [e2] at b
      exact absurd b (by decide)
    · obtain ⟨h1, h2⟩ := kby_sp hb
      rw [hb] at a
      refine a (tLe.mpr ?_)
      show (0 : Int32).toInt ≤ (nI m).toInt
      rw [e0, nI_toInt (by omega)]
      omega
  · have e : manV S 2 = nI (nE S) := rfl
    rw [e]
    rcases hf : fo (pSee S (nI k)) (nE S) with _ | m
    · refine tLt.mpr ?_
      have e1 : (oF none).toInt = -1 := rfl
      rw [e1, nI_toInt (by omega)]
      omega
    · have hm : m < nE S := by
        have key : ∀ n, fo (pSee S (nI k)) n = some m → m < n := by
          intro n
          induction n with
          | zero => intro z; cases z
          | succ n ih =>
            intro z
            simp only [fo] at z
            split at z
            · rename_i q hq
              cases z
              exact Nat.lt_succ_of_lt (ih hq)
            · split at z
              · cases z
                exact Nat.lt_succ_self _
              · cases z
        exact key _ hf
      exact nI_lt2 hm (by omega)
theorem so_ngt {S : St} {t k : Nat} (h : P3 S t) (hk : k < nN S) : (∃ st, st < 5 ∧ ofN S k 0 = nI st) ∧ ¬ ofN S k 5 < ofN S k 7 ∧ ¬ 6 < ofN S k 6 ∧ ¬ ofN S k 7 < ofN S k 6 ∧ (¬ ofN S k 0 = 2 → ofN S k 9 = 0) := by
  have hr := h.1.row hk
  have hn := (h.2.2.1.1 k hk).1
  have e6 : (6 : Int32).toInt = 6 := rfl
  have f0 : ofN S k 0 = gS S k 0 := rfl
  have f5 : ofN S k 5 = gS S k 5 := rfl
  have f6 : ofN S k 6 = gS S k 6 := rfl
  have f7 : ofN S k 7 = gS S k 7 := rfl
  have f9 : ofN S k 9 = gS S k 9 := rfl
  rw [f0, f5, f6, f7, f9]
  refine ⟨?_, nlt_of hn.2.2.2.1.2, nlt_of (by rw [e6]; exact hr.2.2.2.1.2), nlt_of hn.2.2.2.1.1, hr.2.2.2.2.2.2⟩
  have h0 := hr.2.1
  refine ⟨(gS S k 0).toInt.toNat, by omega, Int32.toInt_inj.mp ?_⟩
  rw [nI_toInt (by omega)]
  omega
theorem so_mt {S : St} {t k j : Nat} (h : P3 S t) (hj : j < k) (hk : k < nN S) : ¬ (ofN S k 1 = ofN S j 1 ∧ ¬ ofN S j 3 < ofN S k 2 ∧ ¬ ofN S k 3 < ofN S j 2 ∧ ofN S k 4 = ofN S j 4 ∧ ¬ ofN S k 0 = 4 ∧ ¬ ofN S j 0 = 4) := by
  rintro ⟨a1, a2, a3, a4, a5, a6⟩
  have b2 := mt tLt.mpr a2
  have b3 := mt tLt.mpr a3
  have f : ∀ i, ofN S i 2 = gS S i 2 ∧ ofN S i 3 = gS S i 3 := fun _ => ⟨rfl, rfl⟩
  rw [(f k).1, (f j).2] at b2
  rw [(f k).2, (f j).1] at b3
  exact h.2.2.1.2 k j hj hk ⟨a1, by omega, by omega, a4, a5, a6⟩
theorem so_mac {S : St} {t m : Nat} (h : P3 S t) (hm : m < nM S) : ¬ mS S m 1 < 0 ∧ ¬ 99 < mS S m 1 ∧ ¬ mS S m 2 < 0 ∧ ¬ mS S m 3 < 0 := by
  have hb := h.2.1.2 m hm
  have e0 : (0 : Int32).toInt = 0 := rfl
  have e99 : (99 : Int32).toInt = 99 := rfl
  exact ⟨nlt_of (by rw [e0]; exact hb.1.1), nlt_of (by rw [e99]; exact hb.1.2), nlt_of (by rw [e0]; exact hb.2.1.1), nlt_of (by rw [e0]; exact hb.2.2.1)⟩
theorem man4 {S : St} {k : Nat} (hk : k < 5) : manV S (4 + k) = cnt (pI S k) (nN S) := by
  rcases (show k = 0 ∨ k = 1 ∨ k = 2 ∨ k = 3 ∨ k = 4 by omega) with rfl | rfl | rfl | rfl | rfl <;> rfl
theorem so_end {S : St} {t : Nat} (h : P3 S t) : manV S 13 = cnt (pF S) 20 ∧ manV S 14 = cnt (pG S) 20 ∧ manV S 16 = cnt (pO S) (nN S) ∧ manV S 3 = 0 := by
  refine ⟨cnt_c 20 fun k _ => ?_, cnt_c 20 fun k _ => ?_, h.1.1.2.2.2.2.2.2, cnt0 _ fun k hk => if_pos (h.2.2.2.1 k hk).1⟩
  · unfold pF
    rw [ofS_lt (by decide), ofS7]
  · unfold pG
    rw [ofS_lt (by decide)]
    rfl
theorem dw_lo : ∀ s : Fin 1001, ¬ Op.cmpValue (FP.dcmp (FP.ddiv (FP.i2d (nI s.1)) 0x4024000000000000) FP.dconst0) .l < 0 := by decide +kernel
theorem dw_hi : ∀ s : Fin 1001, ¬ 0 < Op.cmpValue (FP.dcmp (FP.ddiv (FP.i2d (nI s.1)) 0x4024000000000000) 4636737291354636288) .g := by decide +kernel
theorem so_mean {S : St} (hI : Inv S) : ¬ Op.cmpValue (FP.dcmp (FP.ddiv (FP.i2d (mwS S 0)) 0x4024000000000000) FP.dconst0) .l < 0 ∧ ¬ 0 < Op.cmpValue (FP.dcmp (FP.ddiv (FP.i2d (mwS S 0)) 0x4024000000000000) 4636737291354636288) .g := by
  obtain ⟨s, h1, h2⟩ := mw_le (p := fun j => sS S (0 * 10 + j) 0) (c := 100) (by decide) 10 (by decide) (fun j hj => (hI.1 (0 * 10 + j) (by omega)).1)
  unfold mwS
  rw [h2]
  exact ⟨dw_lo ⟨s, by omega⟩, dw_hi ⟨s, by omega⟩⟩
theorem so_step {S : St} {t k : Nat} {f : Nat → Int32} (h : P3 S t) (hk : k < nN S) (ht : TrC f S) : (ofN S k 0 = f k ∨ (f k = 0 ∧ (ofN S k 0 = 1 ∨ ofN S k 0 = 3 ∨ ofN S k 0 = 4)) ∨ (f k = 1 ∧ ofN S k 0 = 2)) ∧ (ofN S k 0 = 3 → ¬ manV S 0 ≤ ofN S k 4) ∧ (ofN S k 0 < 2 → ¬ ofN S k 4 < manV S 0) ∧ (ofN S k 0 = 1 → ofN S k 4 = manV S 0 ∧ ofN S k 8 = 2) := by
  have hd := (h.2.2.1.1 k hk).2
  have f0 : ofN S k 0 = gS S k 0 := rfl
  have f4 : ofN S k 4 = gS S k 4 := rfl
  have f8 : ofN S k 8 = bits (gS S k 8) := rfl
  have fm : manV S 0 = gl S 0 := rfl
  rw [f0, f4, f8, fm]
  refine ⟨ht k hk, fun z => ?_, fun z => ?_, hd.2.2⟩
  · have := hd.1 z
    exact fun q => by have := tLe.mp q; omega
  · have h0 := (h.1.row hk).2.1
    have e2 : (2 : Int32).toInt = 2 := rfl
    have z1 := tLt.mp z
    rw [e2] at z1
    refine nlt_of ?_
    by_cases c : gS S k 0 = 0
    · exact hd.2.1 c
    · have c1 : gS S k 0 = 1 := by
        refine Int32.toInt_inj.mp ?_
        have n0 : ¬ (gS S k 0).toInt = 0 := fun q => c (Int32.toInt_inj.mp q)
        have e1 : (1 : Int32).toInt = 1 := rfl
        omega
      rw [(hd.2.2 c1).1]
      exact Int.le_refl _
