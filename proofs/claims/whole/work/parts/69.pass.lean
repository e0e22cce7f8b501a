/-! The reference: days go by -/
def brR (f : Nat → Int32) : Nat → Int32 := if f 1 < 60 then f else if f 6 ≤ 0 then f else rset f 6 0
def brC (f : Nat → Int32) : Int32 := if f 1 < 60 then 0 else if f 6 ≤ 0 then 0 else 1
def aR (D : St) (t : Int32) (j : Nat) : Nat → Int32 := age (sS D j) t
def riC (D : St) (t : Int32) (j : Nat) : Int32 := if brR (aR D t j) 6 ≤ sp7 (brR (aR D t j)) (gl D 1) then 0 else 1
def dlC (D : St) (t : Int32) (j : Nat) : Int32 := s_delay t (aR D t j 6)
theorem brk_e {S : St} {i : Nat} : (∀ j, sS (oBrk S i) j = if j = i then brR (sS S i) else sS S j) ∧ mS (oBrk S i) = mS S ∧ gl (oBrk S i) 4 = gl S 4 + brC (sS S i) := by
  unfold oBrk brR brC
  by_cases a : sS S i 1 < 60
  · rw [if_pos a, if_pos a, if_pos a]
    refine ⟨fun j => ?_, rfl, (Int32.add_zero _).symm⟩
    by_cases q : j = i
    · rw [if_pos q, q]
    · rw [if_neg q]
  · rw [if_neg a, if_neg a, if_neg a]
    by_cases b : sS S i 6 ≤ 0
    · rw [if_pos b, if_pos b, if_pos b]
      refine ⟨fun j => ?_, rfl, (Int32.add_zero _).symm⟩
      by_cases q : j = i
      · rw [if_pos q, q]
      · rw [if_neg q]
    · rw [if_neg b, if_neg b, if_neg b]
      exact ⟨fun j => rfl, rfl, by rw [gl_setG, rset_s]⟩
theorem sec_e {S : St} {t : Int32} {i : Nat} : (∀ j, sS (oSec S t i) j = if j = i then brR (age (sS S i) t) else sS S j) ∧ mS (oSec S t i) = mS S ∧ gl (oSec S t i) 2 = gl S 2 + s_delay t (age (sS S i) t 6) ∧ gl (oSec S t i) 4 = gl S 4 + brC (age (sS S i) t) ∧ gl (oSec S t i) 3 = gl S 3 + (if brR (age (sS S i) t) 6 ≤ sp7 (brR (age (sS S i) t)) (gl S 1) then 0 else 1) ∧ (∀ x, x ≠ 2 → x ≠ 3 → x ≠ 4 → gl (oSec S t i) x = gl S x) := by
  unfold oSec
  dsimp only
  obtain ⟨T2, hT2, h1, h2, h3, h4⟩ : ∃ T2, T2 = setG (setS S i (age (sS S i) t)) (rset (gl (setS S i (age (sS S i) t))) 2 (gl (setS S i (age (sS S i) t)) 2 + s_delay t (sS (setS S i (age (sS S i) t)) i 6))) ∧ (∀ j, sS T2 j = if j = i then age (sS S i) t else sS S j) ∧ mS T2 = mS S ∧ gl T2 2 = gl S 2 + s_delay t (age (sS S i) t 6) ∧ ∀ x, x ≠ 2 → gl T2 x = gl S x :=
    ⟨_, rfl, fun j => rfl, rfl, by rw [gl_setG, rset_s, sS_setS]; rfl, fun x hx => rset_n hx⟩
  rw [← hT2]
  have hi : sS T2 i = age (sS S i) t := (h1 i).trans (if_pos rfl)
  obtain ⟨b1, b2, b3⟩ := brk_e (S := T2) (i := i)
  have b4 := (brk_q (S := T2) (i := i)).2.2
  obtain ⟨T3, hT3⟩ : ∃ T3, T3 = oBrk T2 i := ⟨_, rfl⟩
  rw [← hT3] at b1 b2 b3 b4 ⊢
  rw [hi] at b1 b3
  have c1 : sS T3 i = brR (age (sS S i) t) := (b1 i).trans (if_pos rfl)
  have c2 : gl T3 1 = gl S 1 := (b4 1 (by decide)).trans (h4 1 (by decide))
  have c3 : gl T3 3 = gl S 3 := (b4 3 (by decide)).trans (h4 3 (by decide))
  have c4 : ∀ j, sS T3 j = if j = i then brR (age (sS S i) t) else sS S j := by
    intro j
    rw [b1]
    by_cases q : j = i
    · rw [if_pos q, if_pos q]
    · rw [if_neg q, if_neg q, h1, if_neg q]
  rw [c1, c2]
  split
  · exact ⟨c4, b2.trans h2, (b4 2 (by decide)).trans h3, b3.trans (by rw [h4 4 (by decide)]), c3.trans (Int32.add_zero _).symm, fun x a b c => (b4 x c).trans (h4 x a)⟩
  · refine ⟨c4, b2.trans h2, ?_, ?_, ?_, fun x a b c => ?_⟩
    · rw [gl_setG, rset_n (by decide)]
      exact (b4 2 (by decide)).trans h3
    · rw [gl_setG, rset_n (by decide)]
      exact b3.trans (by rw [h4 4 (by decide)])
    · rw [gl_setG, rset_s, c3]
    · rw [gl_setG, rset_n b]
      exact (b4 x c).trans (h4 x a)
theorem dys_e {D : St} {t : Int32} : ∀ i, (∀ j, sS (dys D t i) j = if j < i then brR (aR D t j) else sS D j) ∧ mS (dys D t i) = mS D ∧ gl (dys D t i) 2 = gl D 2 + cnt (dlC D t) i ∧ gl (dys D t i) 4 = gl D 4 + cnt (fun j => brC (aR D t j)) i ∧ gl (dys D t i) 3 = gl D 3 + cnt (riC D t) i ∧ (∀ x, x ≠ 2 → x ≠ 3 → x ≠ 4 → gl (dys D t i) x = gl D x)
  | 0 => ⟨fun j => (if_neg (Nat.not_lt_zero _)).symm, rfl, (Int32.add_zero _).symm, (Int32.add_zero _).symm, (Int32.add_zero _).symm, fun _ _ _ _ => rfl⟩
  | i + 1 => by
    obtain ⟨h1, h2, h3, h4, h5, h6⟩ := dys_e (D := D) (t := t) i
    obtain ⟨g1, g2, g3, g4, g5, g6⟩ := sec_e (S := dys D t i) (t := t) (i := i)
    rw [dys_s]
    obtain ⟨E, hE⟩ : ∃ E, E = dys D t i := ⟨_, rfl⟩
    rw [← hE] at h1 h2 h3 h4 h5 h6 g1 g2 g3 g4 g5 g6 ⊢
    have hi : sS E i = sS D i := (h1 i).trans (if_neg (Nat.lt_irrefl _))
    rw [hi] at g1 g3 g4 g5
    refine ⟨fun j => ?_, g2.trans h2, ?_, ?_, ?_, fun x a b c => (g6 x a b c).trans (h6 x a b c)⟩
    · rw [g1]
      by_cases q : j = i
      · subst q
        rw [if_pos rfl, if_pos (by omega)]
        rfl
      · rw [if_neg q, h1]
        by_cases c : j < i
        · rw [if_pos c, if_pos (by omega)]
        · rw [if_neg c, if_neg (by omega)]
    · rw [g3, h3, Int32.add_assoc]
      rfl
    · rw [g4, h4, Int32.add_assoc]
      rfl
    · rw [g5, h5, h6 1 (by decide) (by decide) (by decide), Int32.add_assoc]
      rfl
/-- the reference's way through the day: first all age, then all break -/
def M1 (D : St) (t : Int32) (i : Nat) : St := ((fun j => if j < i then aR D t j else sS D j), D.2.1, D.2.2.1, D.2.2.2.1, rset (gl D) 2 (gl D 2 + cnt (dlC D t) i))
def M2 (D : St) (t : Int32) (i : Nat) : St := ((fun j => if j < i then brR (aR D t j) else if j < 20 then aR D t j else sS D j), D.2.1, D.2.2.1, D.2.2.2.1, rset (rset (gl D) 2 (gl D 2 + cnt (dlC D t) 20)) 4 (gl D 4 + cnt (fun j => brC (aR D t j)) i))
theorem M1_0 {D : St} {t : Int32} : M1 D t 0 = D := by
  unfold M1
  rw [show (fun j => if j < 0 then aR D t j else sS D j) = D.1 from funext fun j => if_neg (Nat.not_lt_zero _), show cnt (dlC D t) 0 = 0 from rfl, Int32.add_zero, rset_same rfl]
theorem M1_i {D : St} {t : Int32} {i : Nat} : sS (M1 D t i) i = sS D i := if_neg (Nat.lt_irrefl _)
theorem M1_s {D : St} {t : Int32} {i : Nat} : setG (setS (M1 D t i) i (aR D t i)) (rset (gl (M1 D t i)) 2 (gl (M1 D t i) 2 + dlC D t i)) = M1 D t (i + 1) := by
  have e1 : rset (fun j => if j < i then aR D t j else sS D j) i (aR D t i) = fun j => if j < i + 1 then aR D t j else sS D j := by
    funext j
    unfold rset
    by_cases q : j = i
    · subst q
      rw [if_pos rfl, if_pos (by omega)]
    · rw [if_neg q]
      show (if j < i then aR D t j else sS D j) = _
      by_cases c : j < i
      · rw [if_pos c, if_pos (show j < i + 1 by omega)]
      · rw [if_neg c, if_neg (show ¬ j < i + 1 by omega)]
  have e2 : gl (M1 D t i) 2 = gl D 2 + cnt (dlC D t) i := (show rset (gl D) 2 (gl D 2 + cnt (dlC D t) i) 2 = _ from rset_s)
  have e3 : gl (M1 D t i) = rset (gl D) 2 (gl D 2 + cnt (dlC D t) i) := rfl
  rw [e2, e3, rset2, Int32.add_assoc]
  unfold M1 setG setS
  dsimp only
  rw [e1]
  rfl
theorem M12 {D : St} {t : Int32} : M1 D t 20 = M2 D t 0 := by
  unfold M1 M2
  rw [show cnt (fun j => brC (aR D t j)) 0 = 0 from rfl, Int32.add_zero, rset_same (f := rset (gl D) 2 (gl D 2 + cnt (dlC D t) 20)) (i := 4) (show rset (gl D) 2 _ 4 = gl D 4 from rset_n (by decide))]
  rw [show (fun j => if j < 0 then brR (aR D t j) else if j < 20 then aR D t j else sS D j) = (fun j => if j < 20 then aR D t j else sS D j) from funext fun j => if_neg (Nat.not_lt_zero _)]
theorem M2_i {D : St} {t : Int32} {i : Nat} (h : i < 20) : sS (M2 D t i) i = aR D t i := (if_neg (Nat.lt_irrefl _)).trans (if_pos h)
theorem M2_r {D : St} {t : Int32} {i : Nat} {r : Nat → Int32} (hr : r = brR (aR D t i)) : rset (M2 D t i).1 i r = (M2 D t (i + 1)).1 := by
  subst hr
  unfold M2
  funext j
  unfold rset
  dsimp only
  by_cases q : j = i
  · subst q
    rw [if_pos rfl, if_pos (by omega)]
  · rw [if_neg q]
    by_cases c : j < i
    · rw [if_pos c, if_pos (show j < i + 1 by omega)]
    · rw [if_neg c, if_neg (show ¬ j < i + 1 by omega)]
theorem M2_n {D : St} {t : Int32} {i : Nat} (hi : i < 20) (h1 : brR (aR D t i) = aR D t i) (h2 : brC (aR D t i) = 0) : M2 D t i = M2 D t (i + 1) := by
  have e1 := M2_r (D := D) (t := t) (i := i) (r := aR D t i) h1.symm
  have e0 : rset (M2 D t i).1 i (aR D t i) = (M2 D t i).1 := by
    funext j
    unfold rset
    by_cases q : j = i
    · rw [if_pos q, q]
      exact (M2_i hi).symm
    · rw [if_neg q]
  rw [e0] at e1
  have e2 : cnt (fun j => brC (aR D t j)) (i + 1) = cnt (fun j => brC (aR D t j)) i := by
    simp only [cnt]
    rw [h2, Int32.add_zero]
  show ((M2 D t i).1, D.2.1, D.2.2.1, D.2.2.2.1, rset (rset (gl D) 2 (gl D 2 + cnt (dlC D t) 20)) 4 (gl D 4 + cnt (fun j => brC (aR D t j)) i)) = ((M2 D t (i + 1)).1, D.2.1, D.2.2.1, D.2.2.2.1, rset (rset (gl D) 2 (gl D 2 + cnt (dlC D t) 20)) 4 (gl D 4 + cnt (fun j => brC (aR D t j)) (i + 1)))
  rw [e1, e2]
theorem M2_b {D : St} {t : Int32} {i : Nat} (h1 : brR (aR D t i) = rset (aR D t i) 6 0) (h2 : brC (aR D t i) = 1) : setG (setS (M2 D t i) i (rset (aR D t i) 6 0)) (rset (gl (M2 D t i)) 4 (gl (M2 D t i) 4 + 1)) = M2 D t (i + 1) := by
  have e1 := M2_r (D := D) (t := t) (i := i) (r := rset (aR D t i) 6 0) h1.symm
  have e2 : gl (M2 D t i) 4 = gl D 4 + cnt (fun j => brC (aR D t j)) i := (show rset (rset (gl D) 2 (gl D 2 + cnt (dlC D t) 20)) 4 (gl D 4 + cnt (fun j => brC (aR D t j)) i) 4 = _ from rset_s)
  have e3 : gl (M2 D t i) = rset (rset (gl D) 2 (gl D 2 + cnt (dlC D t) 20)) 4 (gl D 4 + cnt (fun j => brC (aR D t j)) i) := rfl
  have e4 : cnt (fun j => brC (aR D t j)) (i + 1) = cnt (fun j => brC (aR D t j)) i + 1 := by
    simp only [cnt]
    rw [h2]
  rw [e2, e3, rset2, Int32.add_assoc, ← e4]
  show (rset (M2 D t i).1 i (rset (aR D t i) 6 0), D.2.1, D.2.2.1, D.2.2.2.1, rset (rset (gl D) 2 (gl D 2 + cnt (dlC D t) 20)) 4 (gl D 4 + cnt (fun j => brC (aR D t j)) (i + 1))) = _
  rw [e1]
  rfl
theorem dayS_3 {S : St} {h : Int32} : gl (dayS S h) 3 = gl S 3 := by
  unfold dayS
  rw [gl_setG, rset_n (by decide), rset_n (by decide)]
  exact (nts_q (nN S)).2 3 (by decide) (by decide)
theorem M2_g {D : St} {t : Int32} {i x : Nat} (h2 : x ≠ 2) (h4 : x ≠ 4) : gl (M2 D t i) x = gl D x := by
  show rset (rset (gl D) 2 (gl D 2 + cnt (dlC D t) 20)) 4 (gl D 4 + cnt (fun j => brC (aR D t j)) i) x = _
  rw [rset_n h4, rset_n h2]
theorem br_1 {f : Nat → Int32} (h : (f 1).toInt ≤ 60) (h2 : ¬ f 1 = 60) : brR f = f ∧ brC f = 0 := by
  have h3 : f 1 < 60 := Int32.lt_iff_toInt_lt.mpr (by
    have : (60 : Int32).toInt = 60 := rfl
    have h4 : ¬ (f 1).toInt = 60 := fun z => h2 (Int32.toInt_inj.mp z)
    omega)
  exact ⟨if_pos h3, if_pos h3⟩
theorem br_2 {f : Nat → Int32} (h : f 1 = 60) (h2 : f 6 ≤ 0) : brR f = f ∧ brC f = 0 := by
  have h3 : ¬ f 1 < 60 := by rw [h]; decide
  exact ⟨(if_neg h3).trans (if_pos h2), (if_neg h3).trans (if_pos h2)⟩
theorem br_3 {f : Nat → Int32} (h : f 1 = 60) (h2 : ¬ f 6 ≤ 0) : brR f = rset f 6 0 ∧ brC f = 1 := by
  have h3 : ¬ f 1 < 60 := by rw [h]; decide
  exact ⟨(if_neg h3).trans (if_neg h2), (if_neg h3).trans (if_neg h2)⟩
theorem add_sub' (a b : Int32) : a + b - a = b := by
  rw [Int32.sub_eq_add_neg, Int32.add_comm a b, Int32.add_assoc, Int32.add_right_neg, Int32.add_zero]
theorem sub_tr (a b c : Int32) : (a - b) + (c - a) = c - b := by
  rw [Int32.sub_eq_add_neg, Int32.sub_eq_add_neg, Int32.sub_eq_add_neg, Int32.add_comm c, ← Int32.add_assoc, Int32.add_assoc a, Int32.add_comm (-b), ← Int32.add_assoc, Int32.add_right_neg, Int32.zero_add, Int32.add_comm]
theorem pas_iv {S : St} {t h : Int32} (hI : Inv2 S) (h0 : ¬ t < 0) (h1 : t ≤ 40) : ∀ j : Nat, (gl S 0).toInt + (j : Int) ≤ 2000 → Inv2 (pas S t h j) ∧ (gl (pas S t h j) 0).toInt = (gl S 0).toInt + j
  | 0, _ => ⟨hI, by simp [pas]⟩
  | j + 1, hj => by
    obtain ⟨a, b⟩ := pas_iv (h := h) hI h0 h1 j (by omega)
    obtain ⟨c, d⟩ := day_iv (h := h) a h0 h1 (by omega)
    have e : pas S t h (j + 1) = oDay (pas S t h j) t h := rfl
    rw [e]
    refine ⟨c, ?_⟩
    have g := hI.1.2.2.2.2.2.1
    have e1 : (1 : Int32).toInt = 1 := rfl
    rw [d, Int32.toInt_add, Int.bmod_eq_of_le (by simp; omega) (by simp; omega), b]
    omega
set_option maxHeartbeats 4000000 in
set_option maxRecDepth 100000 in
theorem c_X7_pass : CtrA yX7_pass cX7_pass 8 (some .int) (rmk 6 17 68 150) (fun Γ av w post xpost => ∃ (L : LayM) (S : St), ∃ t h, av = [.ref (thM L), .int t, .int h] ∧ RepM Γ L S w ∧ Inv2 S ∧ ¬ t < 0 ∧ t ≤ 40 ∧ (∀ w1, RepM Γ L (oDay S t h) w1 → FrC w w1 → post (some (.int (gl (oDay S t h) 3 - gl S 3))) w1)) := by
  refine ctr_of (by decide) ?_
  rintro g av w hG hO ⟨L, S, t, h, rfl, hR, hI2, ht0, ht1, hk⟩
  refine ⟨Nat.le_of_ble_eq_true rfl, ?_⟩
  show X g w 0 0 0 [some (.ref (thM L)), some (.int t), some (.int h), none, none, none, none, none] []
  have hI := hI2.1
  have hnM := hI.2.1.1
  have hnN := hI.2.1.2.1
  have hnE := hI.2.1.2.2
  refine x_aload_n hG (pc := 0) 0 dX7_pass_0 rfl rfl ?_
  refine x_getf hG (pc := 1) fl_X7_21 hR.main rfl dX7_pass_1 ?_
  refine x_callV hG hO (pc := 4) [] c_Jx4a65c_iterator_32c93 lk_X7_79 (hR.lst (id := 2) (by decide)).1 rfl rfl ⟨by decide, by decide⟩ (Nat.le_of_ble_eq_true rfl) (by rw [hG.mc]; dsimp only [rmk]; omega) (by rw [hG.ms]; dsimp only [rmk]; omega) dX7_pass_4 ?_
  refine ⟨_, _, _, _, _, (60, 0, 0), rfl, (hR.lst (id := 2) (by decide)).1, fun it hfit hnit => ?_⟩
  refine x_gen (fun wi ei => ?_)
  have hit0 := (congrFun ei it).trans wup_s
  have hRi := hR.nw hfit ei
  have hFi := FrC.rf.nw hfit ei
  refine x_astore_n hG (pc := 7) 3 dX7_pass_7 rfl (Nat.le_of_ble_eq_true rfl) rfl (by dsimp only [List.set]) ?_
  refine nat_down (P := fun k => ∀ (w1 : Wd) (ls : Int32), RepM (gΓ g) L (nts S (gl S 0) k) w1 → w1 it = some ((60, 0, 0), oI (nI k) ls (L.2.2.2.1 2) (L.1 (53, 2, 0))) → FrC w w1 → ∀ z : Option Value, X g w1 (1 + k) (4 + 4 * k) 8 [some (.ref (thM L)), some (.int t), some (.int h), some (.ref it), z, none, none, none] []) (nN S) (fun k hik ih w1 ls hR1 hit hF1 z => ?_) 0 (Nat.zero_le _) wi _ hRi hit0 hFi none
  have hq := nts_q (S := S) (d := gl S 0) k
  have hN : nN (nts S (gl S 0) k) = nN S := hq.1.1
  refine x_aload_n hG (pc := 8) 3 dX7_pass_8 rfl rfl ?_
  refine x_callF hG hO (pc := 9) c_Jx35411_hasNext_aae02 lk_X7_83 hit ⟨by decide, by decide⟩ (Nat.le_of_ble_eq_true rfl) (by rw [hG.mc]; dsimp only [rmk]; omega) (by rw [hG.ms]; dsimp only [rmk]; omega) dX7_pass_9 ?_
  refine ⟨_, _, _, _, _, _, _, _, _, rfl, hit, (hR1.lst (id := 2) (by decide)).1, ?_⟩
  show X g _ _ _ _ _ (.int (if nI k = nI (nN (nts S (gl S 0) k)) then 0 else 1) :: _)
  rw [hN]
  refine x_if_eq hG (pc := 14) 73 dX7_pass_14 (by decide) (fun h14 => ?_) (fun h14 => ?_)
  · have hke : k = nN S := it_e hik (by omega) h14
    refine x_widen (kc2 := 17) (ks2 := 68) (by dsimp only [rmk]; omega) (by dsimp only [rmk]; omega) ?_
    subst hke
    have hg0 := hq.2 0 (by decide) (by decide)
    have hg3 := hq.2 3 (by decide) (by decide)
    clear ih
    refine x_aload_n hG (pc := 73) 0 dX7_pass_73 rfl rfl ?_
    refine x_dup hG (pc := 74) dX7_pass_74 rfl ?_
    refine x_getf hG (pc := 75) fl_X7_93 hR1.main rfl dX7_pass_75 ?_
    refine x_iconst hG (pc := 78) 1 dX7_pass_78 (by decide) ?_
    refine x_iadd hG (pc := 79) dX7_pass_79 ?_
    refine x_putf hG (pc := 80) fl_X7_93 fw_9 ft_9_5 hR1.main (Nat.le_of_ble_eq_true rfl) rfl rfl (by dsimp only [List.set]) dX7_pass_80 ?_
    refine x_gen (fun w2 e2 => ?_)
    obtain ⟨hR2, hF2⟩ := hR1.uG (f := rset (gl (nts S (gl S 0) (nN S))) 0 (gl (nts S (gl S 0) (nN S)) 0 + 1)) e2
    refine x_aload_n hG (pc := 83) 0 dX7_pass_83 rfl rfl ?_
    refine x_iload_n hG (pc := 84) 2 dX7_pass_84 rfl rfl ?_
    refine x_putf hG (pc := 85) fl_X7_27 fw_9 ft_9_6 hR2.main (Nat.le_of_ble_eq_true rfl) rfl rfl (by dsimp only [List.set]) dX7_pass_85 ?_
    refine x_gen (fun w3 e3 => ?_)
    obtain ⟨hR3, hF3⟩ := hR2.uG (f := rset (rset (gl (nts S (gl S 0) (nN S))) 0 (gl (nts S (gl S 0) (nN S)) 0 + 1)) 1 h) e3
    obtain ⟨hDq, hDp, -⟩ := dayS_q (h := h) hI2
    have hD3 : gl (dayS S h) 3 = gl S 3 := dayS_3
    have hRD : RepM (gΓ g) L (dayS S h) w3 := hR3
    have hFD : FrC w w3 := (hF1.tr hF2).tr hF3
    have hSD := hDq.2.2.2.2.2.1 hI.1
    clear hR3 hR2 hR1
    obtain ⟨D, hD⟩ : ∃ D, D = dayS S h := ⟨_, rfl⟩
    have hde : oDay S t h = dys D t 20 := by rw [day_e, hD]
    rw [← hD] at hD3 hRD hSD hDq
    refine x_aload_n hG (pc := 88) 0 dX7_pass_88 rfl rfl ?_
    refine x_getf hG (pc := 89) fl_X7_11 hRD.main rfl dX7_pass_89 ?_
    refine x_astore_n hG (pc := 92) 3 dX7_pass_92 rfl (Nat.le_of_ble_eq_true rfl) rfl (by dsimp only [List.set]) ?_
    refine x_aload_n hG (pc := 93) 3 dX7_pass_93 rfl rfl ?_
    refine x_alenII hG (pc := 94) hRD.secs dX7_pass_94 ?_
    refine x_istore hG (pc := 95) dX7_pass_95 (Nat.le_of_ble_eq_true rfl) rfl (by dsimp only [List.set]) ?_
    refine x_iconst hG (pc := 97) 0 dX7_pass_97 (by decide) ?_
    refine x_istore hG (pc := 98) dX7_pass_98 (Nat.le_of_ble_eq_true rfl) rfl (by dsimp only [List.set]) ?_
    refine nat_down (P := fun i => ∀ (w4 : Wd) (z : Option Value), RepM (gΓ g) L (M1 D t i) w4 → FrC w w4 → X g w4 17 68 100 [some (.ref (thM L)), some (.int t), some (.int h), some (.ref (L.1 (51, 0, 0))), some (.int (nI 20)), some (.int (nI i)), z, none] []) 20 (fun i hi20 ih w4 z hR4 hF4 => ?_) 0 (Nat.zero_le _) w3 none (by rw [M1_0]; exact hRD) hFD
    refine x_iload hG (pc := 100) dX7_pass_100 rfl ?_
    refine x_iload hG (pc := 102) dX7_pass_102 rfl ?_
    refine x_icmp_ge hG (pc := 104) 148 dX7_pass_104 (by decide) (fun h104 => ?_) (fun h104 => ?_)
    · have hie : i = 20 := by
        rcases Nat.lt_or_ge i 20 with q | q
        · exact absurd h104 (nI_ge (b := 20) q (by decide))
        · omega
      subst hie
      rw [M12] at hR4
      clear ih
      refine x_iconst hG (pc := 148) 0 dX7_pass_148 (by decide) ?_
      refine x_istore_n hG (pc := 149) 3 dX7_pass_149 rfl (Nat.le_of_ble_eq_true rfl) rfl (by dsimp only [List.set]) ?_
      refine x_aload_n hG (pc := 150) 0 dX7_pass_150 rfl rfl ?_
      refine x_getf hG (pc := 151) fl_X7_11 hR4.main rfl dX7_pass_151 ?_
      refine x_astore hG (pc := 154) dX7_pass_154 (Nat.le_of_ble_eq_true rfl) rfl (by dsimp only [List.set]) ?_
      refine x_aload hG (pc := 156) dX7_pass_156 rfl ?_
      refine x_alenII hG (pc := 158) hR4.secs dX7_pass_158 ?_
      refine x_istore hG (pc := 159) dX7_pass_159 (Nat.le_of_ble_eq_true rfl) rfl (by dsimp only [List.set]) ?_
      refine x_iconst hG (pc := 161) 0 dX7_pass_161 (by decide) ?_
      refine x_istore hG (pc := 162) dX7_pass_162 (Nat.le_of_ble_eq_true rfl) rfl (by dsimp only [List.set]) ?_
      refine nat_down (P := fun i => ∀ (w5 : Wd) (z : Option Value), RepM (gΓ g) L (M2 D t i) w5 → FrC w w5 → X g w5 17 68 164 [some (.ref (thM L)), some (.int t), some (.int h), some (.int (cnt (riC D t) i)), some (.ref (L.1 (51, 0, 0))), some (.int (nI 20)), some (.int (nI i)), z] []) 20 (fun i hi20 ih w5 z hR5 hF5 => ?_) 0 (Nat.zero_le _) w4 none hR4 hF4
      refine x_iload hG (pc := 164) dX7_pass_164 rfl ?_
      refine x_iload hG (pc := 166) dX7_pass_166 rfl ?_
      refine x_icmp_ge hG (pc := 168) 242 dX7_pass_168 (by decide) (fun h168 => ?_) (fun h168 => ?_)
      · have hie : i = 20 := by
          rcases Nat.lt_or_ge i 20 with q | q
          · exact absurd h168 (nI_ge (b := 20) q (by decide))
          · omega
        subst hie
        clear ih
        refine x_aload_n hG (pc := 242) 0 dX7_pass_242 rfl rfl ?_
        refine x_dup hG (pc := 243) dX7_pass_243 rfl ?_
        refine x_getf hG (pc := 244) fl_X7_109 hR5.main rfl dX7_pass_244 ?_
        refine x_iload_n hG (pc := 247) 3 dX7_pass_247 rfl rfl ?_
        refine x_iadd hG (pc := 248) dX7_pass_248 ?_
        refine x_putf hG (pc := 249) fl_X7_109 fw_9 ft_9_8 hR5.main (Nat.le_of_ble_eq_true rfl) rfl rfl (by dsimp only [List.set]) dX7_pass_249 ?_
        refine x_gen (fun w6 e6 => ?_)
        obtain ⟨hR6, hF6⟩ := hR5.uG (f := rset (gl (M2 D t 20)) 3 (gl (M2 D t 20) 3 + cnt (riC D t) 20)) e6
        refine x_iload_n hG (pc := 252) 3 dX7_pass_252 rfl rfl ?_
        refine x_ireturn hG (pc := 253) dX7_pass_253 rfl rfl (by rw [hG.mc]; dsimp only [rmk]; omega) (by rw [hG.ms]; dsimp only [rmk]; omega) ?_
        obtain ⟨g1, g2, g3, g4, g5, g6⟩ := dys_e (D := D) (t := t) 20
        have hdq := dys_q (S := D) ht0 ht1 20
        rw [hde] at hk
        obtain ⟨E, hE⟩ : ∃ E, E = dys D t 20 := ⟨_, rfl⟩
        rw [← hE] at g1 g2 g3 g4 g5 g6 hdq hk
        have hv : gl E 3 - gl S 3 = cnt (riC D t) 20 := by rw [g5, hD3, add_sub']
        rw [hv] at hk
        refine hk w6 (hR6.cg (fun i hi => ?_) hdq.1.2.1 hdq.1.1 hdq.1.2.2.1 (fun k _ => congrFun g2 k) (fun k _ => congrFun hdq.2.1 k) (fun k _ => congrFun hdq.1.2.2.2.1 k) (fun x hx => ?_)) (hF5.tr hF6)
        · rw [g1, if_pos hi]
          exact (if_pos hi).symm
        · have e3 : gl (M2 D t 20) 3 = gl D 3 := M2_g (by decide) (by decide)
          show gl E x = rset (gl (M2 D t 20)) 3 (gl (M2 D t 20) 3 + cnt (riC D t) 20) x
          rw [e3]
          rcases (show x = 0 ∨ x = 1 ∨ x = 2 ∨ x = 3 ∨ x = 4 ∨ x = 5 by omega) with rfl | rfl | rfl | rfl | rfl | rfl
          · rw [g6 0 (by decide) (by decide) (by decide)]
            rfl
          · rw [g6 1 (by decide) (by decide) (by decide)]
            rfl
          · rw [g3]
            rfl
          · rw [g5]
            rfl
          · rw [g4]
            rfl
          · rw [g6 5 (by decide) (by decide) (by decide)]
            rfl
      · have hin : i < 20 := by
          rcases Nat.lt_or_ge i 20 with q | q
          · exact q
          · exact absurd (nI_le (a := 20) q (by omega)) h168
        have hIa : IvS (aR D t i) := age_iv (hSD i hin) ht0 ht1
        have hrow := hR5.sec hin
        rw [M2_i hin] at hrow
        refine x_aload hG (pc := 171) dX7_pass_171 rfl ?_
        refine x_iload hG (pc := 173) dX7_pass_173 rfl ?_
        refine x_aaldI hG (pc := 175) hR5.secs (vp_in_nI hin (by decide)) dX7_pass_175 ?_
        rw [nI_clamp (by omega), lE_at hin]
        show X g _ _ _ _ _ (.ref (L.1 (52, i, 0)) :: _)
        refine x_astore hG (pc := 176) dX7_pass_176 (Nat.le_of_ble_eq_true rfl) rfl (by dsimp only [List.set]) ?_
        refine x_aload hG (pc := 178) dX7_pass_178 rfl ?_
        refine x_iconst hG (pc := 180) 1 dX7_pass_180 (by decide) ?_
        refine x_ialdN hG (pc := 181) (c := 1) hrow (by decide) dX7_pass_181 ?_
        refine x_bipush hG (pc := 182) 60 dX7_pass_182 (by decide) ?_
        refine x_icmp_ne hG (pc := 184) 211 dX7_pass_184 (by decide) (fun h184 => ?_) (fun h184 => ?_)
        · obtain ⟨hb1, hb2⟩ := br_1 hIa.2.1.2 h184
          rw [M2_n hin hb1 hb2] at hR5
          rw [← hb1] at hrow
          obtain ⟨w8, e8⟩ : ∃ w8, w8 = w5 := ⟨_, rfl⟩
          rw [← e8] at hR5 hF5 hrow ⊢
          have hR8 := hR5
          have hF8 := hF5
          have hc8 := hrow
          refine x_iload_n hG (pc := 211) 3 dX7_pass_211 rfl rfl ?_
          refine x_aload hG (pc := 212) dX7_pass_212 rfl ?_
          refine x_bipush hG (pc := 214) 6 dX7_pass_214 (by decide) ?_
          refine x_ialdN hG (pc := 216) (c := 6) hc8 (by decide) dX7_pass_216 ?_
          refine x_aload hG (pc := 217) dX7_pass_217 rfl ?_
          refine x_aload_n hG (pc := 219) 0 dX7_pass_219 rfl rfl ?_
          refine x_getf hG (pc := 220) fl_X7_27 hR8.main rfl dX7_pass_220 ?_
          refine x_callS hG hO (pc := 223) [_, _] c_X7_speedOf lk_X7_44 rfl rfl ⟨by decide, by decide⟩ (Nat.le_of_ble_eq_true rfl) (by rw [hG.mc]; dsimp only [rmk]; omega) (by rw [hG.ms]; dsimp only [rmk]; omega) dX7_pass_223 ?_
          refine ⟨_, _, _, _, rfl, hc8, ?_⟩
          rw [show gl (M2 D t (i + 1)) 1 = gl D 1 from M2_g (by decide) (by decide)]
          refine x_icmp_le hG (pc := 226) 233 dX7_pass_226 (by decide) (fun h226 => ?_) (fun h226 => ?_)
          · refine x_iconst hG (pc := 233) 0 dX7_pass_233 (by decide) ?_
            have hri : riC D t i = 0 := if_pos h226
            show X g w8 _ _ _ _ [.int 0, .int (cnt (riC D t) i)]
            rw [← hri]
            refine x_iadd hG (pc := 234) dX7_pass_234 ?_
            refine x_istore_n hG (pc := 235) 3 dX7_pass_235 rfl (Nat.le_of_ble_eq_true rfl) rfl (by dsimp only [List.set]) ?_
            refine x_iinc hG (pc := 236) (nI (i + 1)) dX7_pass_236 rfl (Nat.le_of_ble_eq_true rfl) rfl (nI_1' i) (by dsimp only [List.set]) ?_
            refine x_goto hG (pc := 239) 164 dX7_pass_239 (by decide) ?_
            exact ih (i + 1) (by omega) (by omega) w8 _ hR8 hF8
          · refine x_iconst hG (pc := 229) 1 dX7_pass_229 (by decide) ?_
            refine x_goto hG (pc := 230) 234 dX7_pass_230 (by decide) ?_
            have hri : riC D t i = 1 := if_neg h226
            show X g w8 _ _ _ _ [.int 1, .int (cnt (riC D t) i)]
            rw [← hri]
            refine x_iadd hG (pc := 234) dX7_pass_234 ?_
            refine x_istore_n hG (pc := 235) 3 dX7_pass_235 rfl (Nat.le_of_ble_eq_true rfl) rfl (by dsimp only [List.set]) ?_
            refine x_iinc hG (pc := 236) (nI (i + 1)) dX7_pass_236 rfl (Nat.le_of_ble_eq_true rfl) rfl (nI_1' i) (by dsimp only [List.set]) ?_
            refine x_goto hG (pc := 239) 164 dX7_pass_239 (by decide) ?_
            exact ih (i + 1) (by omega) (by omega) w8 _ hR8 hF8
        · refine x_aload hG (pc := 187) dX7_pass_187 rfl ?_
          refine x_bipush hG (pc := 189) 6 dX7_pass_189 (by decide) ?_
          refine x_ialdN hG (pc := 191) (c := 6) hrow (by decide) dX7_pass_191 ?_
          refine x_if_le hG (pc := 192) 211 dX7_pass_192 (by decide) (fun h192 => ?_) (fun h192 => ?_)
          · obtain ⟨hb1, hb2⟩ := br_2 h184 h192
            rw [M2_n hin hb1 hb2] at hR5
            rw [← hb1] at hrow
            obtain ⟨w8, e8⟩ : ∃ w8, w8 = w5 := ⟨_, rfl⟩
            rw [← e8] at hR5 hF5 hrow ⊢
            have hR8 := hR5
            have hF8 := hF5
            have hc8 := hrow
            refine x_iload_n hG (pc := 211) 3 dX7_pass_211 rfl rfl ?_
            refine x_aload hG (pc := 212) dX7_pass_212 rfl ?_
            refine x_bipush hG (pc := 214) 6 dX7_pass_214 (by decide) ?_
            refine x_ialdN hG (pc := 216) (c := 6) hc8 (by decide) dX7_pass_216 ?_
            refine x_aload hG (pc := 217) dX7_pass_217 rfl ?_
            refine x_aload_n hG (pc := 219) 0 dX7_pass_219 rfl rfl ?_
            refine x_getf hG (pc := 220) fl_X7_27 hR8.main rfl dX7_pass_220 ?_
            refine x_callS hG hO (pc := 223) [_, _] c_X7_speedOf lk_X7_44 rfl rfl ⟨by decide, by decide⟩ (Nat.le_of_ble_eq_true rfl) (by rw [hG.mc]; dsimp only [rmk]; omega) (by rw [hG.ms]; dsimp only [rmk]; omega) dX7_pass_223 ?_
            refine ⟨_, _, _, _, rfl, hc8, ?_⟩
            rw [show gl (M2 D t (i + 1)) 1 = gl D 1 from M2_g (by decide) (by decide)]
            refine x_icmp_le hG (pc := 226) 233 dX7_pass_226 (by decide) (fun h226 => ?_) (fun h226 => ?_)
            · refine x_iconst hG (pc := 233) 0 dX7_pass_233 (by decide) ?_
              have hri : riC D t i = 0 := if_pos h226
              show X g w8 _ _ _ _ [.int 0, .int (cnt (riC D t) i)]
              rw [← hri]
              refine x_iadd hG (pc := 234) dX7_pass_234 ?_
              refine x_istore_n hG (pc := 235) 3 dX7_pass_235 rfl (Nat.le_of_ble_eq_true rfl) rfl (by dsimp only [List.set]) ?_
              refine x_iinc hG (pc := 236) (nI (i + 1)) dX7_pass_236 rfl (Nat.le_of_ble_eq_true rfl) rfl (nI_1' i) (by dsimp only [List.set]) ?_
              refine x_goto hG (pc := 239) 164 dX7_pass_239 (by decide) ?_
              exact ih (i + 1) (by omega) (by omega) w8 _ hR8 hF8
            · refine x_iconst hG (pc := 229) 1 dX7_pass_229 (by decide) ?_
              refine x_goto hG (pc := 230) 234 dX7_pass_230 (by decide) ?_
              have hri : riC D t i = 1 := if_neg h226
              show X g w8 _ _ _ _ [.int 1, .int (cnt (riC D t) i)]
              rw [← hri]
              refine x_iadd hG (pc := 234) dX7_pass_234 ?_
              refine x_istore_n hG (pc := 235) 3 dX7_pass_235 rfl (Nat.le_of_ble_eq_true rfl) rfl (by dsimp only [List.set]) ?_
              refine x_iinc hG (pc := 236) (nI (i + 1)) dX7_pass_236 rfl (Nat.le_of_ble_eq_true rfl) rfl (nI_1' i) (by dsimp only [List.set]) ?_
              refine x_goto hG (pc := 239) 164 dX7_pass_239 (by decide) ?_
              exact ih (i + 1) (by omega) (by omega) w8 _ hR8 hF8
          · obtain ⟨hb1, hb2⟩ := br_3 h184 h192
            refine x_aload hG (pc := 195) dX7_pass_195 rfl ?_
            refine x_bipush hG (pc := 197) 6 dX7_pass_197 (by decide) ?_
            refine x_iconst hG (pc := 199) 0 dX7_pass_199 (by decide) ?_
            refine x_iastN hG (pc := 200) (c := 6) hrow (by decide) dX7_pass_200 ?_
            refine x_gen (fun w6 e6 => ?_)
            have hc6 := (congrFun e6 _).trans wup_s
            obtain ⟨hR6, hF6⟩ := hR5.uS hin e6
            refine x_aload_n hG (pc := 201) 0 dX7_pass_201 rfl rfl ?_
            refine x_dup hG (pc := 202) dX7_pass_202 rfl ?_
            refine x_getf hG (pc := 203) fl_X7_106 hR6.main rfl dX7_pass_203 ?_
            refine x_iconst hG (pc := 206) 1 dX7_pass_206 (by decide) ?_
            refine x_iadd hG (pc := 207) dX7_pass_207 ?_
            refine x_putf hG (pc := 208) fl_X7_106 fw_9 ft_9_9 hR6.main (Nat.le_of_ble_eq_true rfl) rfl rfl (by dsimp only [List.set]) dX7_pass_208 ?_
            refine x_gen (fun w7 e7 => ?_)
            obtain ⟨hR7, hF7⟩ := hR6.uG (f := rset (gl (M2 D t i)) 4 (gl (M2 D t i) 4 + 1)) e7
            rw [show setG (setS (M2 D t i) i (rset (aR D t i) 6 0)) _ = M2 D t (i + 1) from M2_b hb1 hb2] at hR7
            have hc7 := (congrFun e7 _).trans (wup_t hR6.main hc6 (by intro z; cases z))
            rw [← hb1] at hc7
            obtain ⟨w8, e8⟩ : ∃ w8, w8 = w7 := ⟨_, rfl⟩
            rw [← e8] at hR7 hF7 hc7 ⊢
            have hR8 := hR7
            have hF8 := (hF5.tr hF6).tr hF7
            have hc8 := hc7
            refine x_iload_n hG (pc := 211) 3 dX7_pass_211 rfl rfl ?_
            refine x_aload hG (pc := 212) dX7_pass_212 rfl ?_
            refine x_bipush hG (pc := 214) 6 dX7_pass_214 (by decide) ?_
            refine x_ialdN hG (pc := 216) (c := 6) hc8 (by decide) dX7_pass_216 ?_
            refine x_aload hG (pc := 217) dX7_pass_217 rfl ?_
            refine x_aload_n hG (pc := 219) 0 dX7_pass_219 rfl rfl ?_
            refine x_getf hG (pc := 220) fl_X7_27 hR8.main rfl dX7_pass_220 ?_
            refine x_callS hG hO (pc := 223) [_, _] c_X7_speedOf lk_X7_44 rfl rfl ⟨by decide, by decide⟩ (Nat.le_of_ble_eq_true rfl) (by rw [hG.mc]; dsimp only [rmk]; omega) (by rw [hG.ms]; dsimp only [rmk]; omega) dX7_pass_223 ?_
            refine ⟨_, _, _, _, rfl, hc8, ?_⟩
            rw [show gl (M2 D t (i + 1)) 1 = gl D 1 from M2_g (by decide) (by decide)]
            refine x_icmp_le hG (pc := 226) 233 dX7_pass_226 (by decide) (fun h226 => ?_) (fun h226 => ?_)
            · refine x_iconst hG (pc := 233) 0 dX7_pass_233 (by decide) ?_
              have hri : riC D t i = 0 := if_pos h226
              show X g w8 _ _ _ _ [.int 0, .int (cnt (riC D t) i)]
              rw [← hri]
              refine x_iadd hG (pc := 234) dX7_pass_234 ?_
              refine x_istore_n hG (pc := 235) 3 dX7_pass_235 rfl (Nat.le_of_ble_eq_true rfl) rfl (by dsimp only [List.set]) ?_
              refine x_iinc hG (pc := 236) (nI (i + 1)) dX7_pass_236 rfl (Nat.le_of_ble_eq_true rfl) rfl (nI_1' i) (by dsimp only [List.set]) ?_
              refine x_goto hG (pc := 239) 164 dX7_pass_239 (by decide) ?_
              exact ih (i + 1) (by omega) (by omega) w8 _ hR8 hF8
            · refine x_iconst hG (pc := 229) 1 dX7_pass_229 (by decide) ?_
              refine x_goto hG (pc := 230) 234 dX7_pass_230 (by decide) ?_
              have hri : riC D t i = 1 := if_neg h226
              show X g w8 _ _ _ _ [.int 1, .int (cnt (riC D t) i)]
              rw [← hri]
              refine x_iadd hG (pc := 234) dX7_pass_234 ?_
              refine x_istore_n hG (pc := 235) 3 dX7_pass_235 rfl (Nat.le_of_ble_eq_true rfl) rfl (by dsimp only [List.set]) ?_
              refine x_iinc hG (pc := 236) (nI (i + 1)) dX7_pass_236 rfl (Nat.le_of_ble_eq_true rfl) rfl (nI_1' i) (by dsimp only [List.set]) ?_
              refine x_goto hG (pc := 239) 164 dX7_pass_239 (by decide) ?_
              exact ih (i + 1) (by omega) (by omega) w8 _ hR8 hF8
    · have hin : i < 20 := by
        rcases Nat.lt_or_ge i 20 with q | q
        · exact q
        · exact absurd (nI_le (a := 20) q (by omega)) h104
      refine x_aload_n hG (pc := 107) 3 dX7_pass_107 rfl rfl ?_
      refine x_iload hG (pc := 108) dX7_pass_108 rfl ?_
      refine x_aaldI hG (pc := 110) hR4.secs (vp_in_nI hin (by decide)) dX7_pass_110 ?_
      rw [nI_clamp (by omega), lE_at hin]
      show X g _ _ _ _ _ (.ref (L.1 (52, i, 0)) :: _)
      refine x_astore hG (pc := 111) dX7_pass_111 (Nat.le_of_ble_eq_true rfl) rfl (by dsimp only [List.set]) ?_
      refine x_aload hG (pc := 113) dX7_pass_113 rfl ?_
      refine x_iload_n hG (pc := 115) 1 dX7_pass_115 rfl rfl ?_
      refine x_callS hG hO (pc := 116) [_, _] c_X7_age lk_X7_99 rfl rfl ⟨by decide, by decide⟩ (Nat.le_of_ble_eq_true rfl) (by rw [hG.mc]; dsimp only [rmk]; omega) (by rw [hG.ms]; dsimp only [rmk]; omega) dX7_pass_116 ?_
      have hrow := hR4.sec hin
      rw [M1_i] at hrow
      refine ⟨_, _, _, t, rfl, hrow, (hSD i hin).2.2.1, (hSD i hin).2.1.1, ?_⟩
      refine x_gen (fun w5 e5 => ?_)
      have hc5 := (congrFun e5 _).trans wup_s
      obtain ⟨hR5, hF5⟩ := hR4.uS hin e5
      refine x_aload_n hG (pc := 119) 0 dX7_pass_119 rfl rfl ?_
      refine x_dup hG (pc := 120) dX7_pass_120 rfl ?_
      refine x_getf hG (pc := 121) fl_X7_103 hR5.main rfl dX7_pass_121 ?_
      refine x_iload_n hG (pc := 124) 1 dX7_pass_124 rfl rfl ?_
      refine x_sipush hG (pc := 125) 160 dX7_pass_125 (by decide) ?_
      refine x_aload hG (pc := 128) dX7_pass_128 rfl ?_
      refine x_bipush hG (pc := 130) 6 dX7_pass_130 (by decide) ?_
      refine x_ialdN hG (pc := 132) (c := 6) hc5 (by decide) dX7_pass_132 ?_
      refine x_isub hG (pc := 133) dX7_pass_133 ?_
      refine x_imul hG (pc := 134) dX7_pass_134 ?_
      refine x_bipush hG (pc := 135) 80 dX7_pass_135 (by decide) ?_
      refine x_idiv hG (pc := 137) dX7_pass_137 (by decide) ?_
      refine x_iadd hG (pc := 138) dX7_pass_138 ?_
      refine x_putf hG (pc := 139) fl_X7_103 fw_9 ft_9_7 hR5.main (Nat.le_of_ble_eq_true rfl) rfl rfl (by dsimp only [List.set]) dX7_pass_139 ?_
      refine x_gen (fun w6 e6 => ?_)
      obtain ⟨hR6, hF6⟩ := hR5.uG (f := rset (gl (M1 D t i)) 2 (gl (M1 D t i) 2 + dlC D t i)) e6
      rw [show setG (setS (M1 D t i) i (age (sS D i) t)) _ = M1 D t (i + 1) from M1_s] at hR6
      refine x_iinc hG (pc := 142) (nI (i + 1)) dX7_pass_142 rfl (Nat.le_of_ble_eq_true rfl) rfl (nI_1' i) (by dsimp only [List.set]) ?_
      refine x_goto hG (pc := 145) 100 dX7_pass_145 (by decide) ?_
      exact ih (i + 1) (by omega) (by omega) w6 _ hR6 ((hF4.tr hF5).tr hF6)
  · have hkn : k < nN S := it_n hik h14
    have hkn2 : k < nN (nts S (gl S 0) k) := by rw [hN]; exact hkn
    refine x_aload_n hG (pc := 17) 3 dX7_pass_17 rfl rfl ?_
    refine x_callF hG hO (pc := 18) c_Jx35411_next_0502b lk_X7_89 hit ⟨by decide, by decide⟩ (Nat.le_of_ble_eq_true rfl) (by rw [hG.mc]; dsimp only [rmk]; omega) (by rw [hG.ms]; dsimp only [rmk]; omega) dX7_pass_18 ?_
    refine ⟨_, _, k, _, _, _, _, _, _, _, _, _, rfl, hit, hR1.lst (id := 2) (by decide), hkn2, (by intro z; cases z), ?_⟩
    refine x_gen (fun w2 e2 => ?_)
    have hit2 := (congrFun e2 it).trans wup_s
    have hR2 := hR1.tmp hit (by show 60 ≤ 60; decide) e2
    have hF2 := hF1.up hit (by show 50 ≤ 60 ∧ 60 < 80; decide) e2
    show X g _ _ _ _ _ (.ref (L.1 (57, k, 0)) :: _)
    refine x_castI hG (pc := 23) ckl_X7_56 (hR2.ngt hkn2) dX7_pass_23 ?_
    refine x_astore hG (pc := 26) dX7_pass_26 (Nat.le_of_ble_eq_true rfl) rfl (by dsimp only [List.set]) ?_
    refine x_aload hG (pc := 28) dX7_pass_28 rfl ?_
    refine x_iconst hG (pc := 30) 4 dX7_pass_30 (by decide) ?_
    refine x_ialdN hG (pc := 31) (c := 4) (hR2.ngt hkn2) (by decide) dX7_pass_31 ?_
    refine x_aload_n hG (pc := 32) 0 dX7_pass_32 rfl rfl ?_
    refine x_getf hG (pc := 33) fl_X7_93 hR2.main rfl dX7_pass_33 ?_
    refine x_icmp_eq hG (pc := 36) 42 dX7_pass_36 (by decide) (fun h36 => ?_) (fun h36 => ?_)
    · replace h36 : gS (nts S (gl S 0) k) k 4 = gl S 0 := h36.trans (hq.2 0 (by decide) (by decide))
      refine x_aload hG (pc := 42) dX7_pass_42 rfl ?_
      refine x_iconst hG (pc := 44) 0 dX7_pass_44 (by decide) ?_
      refine x_ialdN hG (pc := 45) (c := 0) (hR2.ngt hkn2) (by decide) dX7_pass_45 ?_
      refine x_if_ne hG (pc := 46) 54 dX7_pass_46 (by decide) (fun h46 => ?_) (fun h46 => ?_)
      · refine x_aload hG (pc := 54) dX7_pass_54 rfl ?_
        refine x_iconst hG (pc := 56) 0 dX7_pass_56 (by decide) ?_
        refine x_ialdN hG (pc := 57) (c := 0) (hR2.ngt hkn2) (by decide) dX7_pass_57 ?_
        refine x_iconst hG (pc := 58) 1 dX7_pass_58 (by decide) ?_
        refine x_icmp_ne hG (pc := 59) 70 dX7_pass_59 (by decide) (fun h59 => ?_) (fun h59 => ?_)
        · refine x_goto hG (pc := 70) 8 dX7_pass_70 (by decide) ?_
          have hs := nts_s (S := S) (d := gl S 0) (k := k)
          rw [if_pos h36, if_neg h46, if_neg h59] at hs
          rw [← hs] at hR2
          exact x_widen (kc2 := 1 + (k + 1)) (ks2 := 4 + 4 * (k + 1)) (by dsimp only [rmk]; omega) (by dsimp only [rmk]; omega) (ih (k + 1) (by omega) (by omega) w2 _ hR2 hit2 hF2 _)
        · refine x_aload_n hG (pc := 62) 0 dX7_pass_62 rfl rfl ?_
          refine x_aload hG (pc := 63) dX7_pass_63 rfl ?_
          refine x_iconst hG (pc := 65) 2 dX7_pass_65 (by decide) ?_
          refine x_callV hG hO (pc := 66) [_, _] c_X7_give lk_X7_96 hR2.main rfl rfl ⟨by decide, by decide⟩ (Nat.le_of_ble_eq_true rfl) (by rw [hG.mc]; dsimp only [rmk]; omega) (by rw [hG.ms]; dsimp only [rmk]; omega) dX7_pass_66 ?_
          refine ⟨L, (nts S (gl S 0) k), k, 2, rfl, hR2, hkn2, (hI2.gok hkn).fq hq.1, fun w3 hR3 hF3 hS3 => ?_⟩
          have hit3 := hS3 _ _ hit2 rfl
          refine x_pop hG (pc := 69) dX7_pass_69 rfl ?_
          refine x_goto hG (pc := 70) 8 dX7_pass_70 (by decide) ?_
          have hs := nts_s (S := S) (d := gl S 0) (k := k)
          rw [if_pos h36, if_neg h46, if_pos h59] at hs
          rw [← hs] at hR3
          exact ih (k + 1) (by omega) (by omega) w3 _ hR3 hit3 (hF2.tr hF3) _
      · refine x_aload hG (pc := 49) dX7_pass_49 rfl ?_
        refine x_iconst hG (pc := 51) 0 dX7_pass_51 (by decide) ?_
        refine x_iconst hG (pc := 52) 3 dX7_pass_52 (by decide) ?_
        refine x_iastN hG (pc := 53) (c := 0) (hR2.ngt hkn2) (by decide) dX7_pass_53 ?_
        refine x_gen (fun w3 e3 => ?_)
        have hc3 := (congrFun e3 _).trans wup_s
        obtain ⟨hR3, hF3⟩ := hR2.uN hkn2 e3
        have hit3 := (congrFun e3 it).trans (wup_t (hR2.ngt hkn2) hit2 (by intro z; cases z))
        refine x_aload hG (pc := 54) dX7_pass_54 rfl ?_
        refine x_iconst hG (pc := 56) 0 dX7_pass_56 (by decide) ?_
        refine x_ialdN hG (pc := 57) (c := 0) hc3 (by decide) dX7_pass_57 ?_
        refine x_iconst hG (pc := 58) 1 dX7_pass_58 (by decide) ?_
        refine x_icmp_ne hG (pc := 59) 70 dX7_pass_59 (by decide) (fun h59 => ?_) (fun h59 => ?_)
        · refine x_goto hG (pc := 70) 8 dX7_pass_70 (by decide) ?_
          have hs := nts_s (S := S) (d := gl S 0) (k := k)
          rw [if_pos h36, if_pos h46] at hs
          rw [← hs] at hR3
          exact x_widen (kc2 := 1 + (k + 1)) (ks2 := 4 + 4 * (k + 1)) (by dsimp only [rmk]; omega) (by dsimp only [rmk]; omega) (ih (k + 1) (by omega) (by omega) w3 _ hR3 hit3 (hF2.tr hF3) _)
        · exact absurd (show (3 : Int32) = 1 from h59) (by decide)
    · replace h36 : ¬ gS (nts S (gl S 0) k) k 4 = gl S 0 := fun z => h36 (z.trans (hq.2 0 (by decide) (by decide)).symm)
      refine x_goto hG (pc := 39) 8 dX7_pass_39 (by decide) ?_
      have hs := nts_s (S := S) (d := gl S 0) (k := k)
      rw [if_neg h36] at hs
      rw [← hs] at hR2
      exact x_widen (kc2 := 1 + (k + 1)) (ks2 := 4 + 4 * (k + 1)) (by dsimp only [rmk]; omega) (by dsimp only [rmk]; omega) (ih (k + 1) (by omega) (by omega) w2 _ hR2 hit2 hF2 _)
