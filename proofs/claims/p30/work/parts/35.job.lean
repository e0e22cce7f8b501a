/-! TrackNights: one change of the state in the world; a break; a work carried out -/
section U
variable {Γ : Gw} {L : LayC} {S : St} {w w1 : Wd}
theorem RepC.uS (h : RepC Γ L S w) {i : Nat} (hi : i < 20) {f : Nat → Int32} (e : w1 = wup w (L.1 (3, i, 0)) ((3, i, 0), oS (L.1 (4, i, 0)) (f 3) (f 4) (f 5) (f 6))) (h0 : f 0 = sS S i 0) (h1 : f 1 = sS S i 1) (h2 : f 2 = sS S i 2) : RepC Γ L (setS S i f) w1 ∧ FrM w w1 := by
  subst e
  have hF : Fr2 (3, i, 0) (4, i, 0) w (wup w (L.1 (3, i, 0)) ((3, i, 0), oS (L.1 (4, i, 0)) (f 3) (f 4) (f 5) (f 6))) := Fr2.rf.up (h.sec hi) (Or.inl rfl)
  refine ⟨rc_setS h hi wup_s ?_ hF, hF.frM (by show 3 < 50; decide) (by show 4 < 50; decide)⟩
  rw [h0, h1, h2]
  exact wup_e (h.sec hi) (h.val hi) (by intro q; cases q)
theorem RepC.uV (h : RepC Γ L S w) {i : Nat} (hi : i < 20) {f : Nat → Int32} (e : w1 = wup w (L.1 (4, i, 0)) ((4, i, 0), oV (f 0) (f 1) (f 2))) (h3 : f 3 = sS S i 3) (h4 : f 4 = sS S i 4) (h5 : f 5 = sS S i 5) (h6 : f 6 = sS S i 6) : RepC Γ L (setS S i f) w1 ∧ FrM w w1 := by
  subst e
  have hF : Fr2 (3, i, 0) (4, i, 0) w (wup w (L.1 (4, i, 0)) ((4, i, 0), oV (f 0) (f 1) (f 2))) := Fr2.rf.up (h.val hi) (Or.inr rfl)
  refine ⟨rc_setS h hi ?_ wup_s hF, hF.frM (by show 3 < 50; decide) (by show 4 < 50; decide)⟩
  rw [h3, h4, h5, h6]
  exact wup_e (h.val hi) (h.sec hi) (by intro q; cases q)
theorem RepC.uB (h : RepC Γ L S w) {i : Nat} (hi : i < 20) {f : Nat → Int32} (e : w1 = wup (wup w (L.1 (4, i, 0)) ((4, i, 0), oV (f 0) (f 1) (f 2))) (L.1 (3, i, 0)) ((3, i, 0), oS (L.1 (4, i, 0)) (f 3) (f 4) (f 5) (f 6))) : RepC Γ L (setS S i f) w1 ∧ FrM w w1 := by
  subst e
  have hb : (wup w (L.1 (4, i, 0)) ((4, i, 0), oV (f 0) (f 1) (f 2))) (L.1 (3, i, 0)) = _ := wup_e (h.val hi) (h.sec hi) (by intro q; cases q)
  have hF : Fr2 (3, i, 0) (4, i, 0) w (wup (wup w (L.1 (4, i, 0)) ((4, i, 0), oV (f 0) (f 1) (f 2))) (L.1 (3, i, 0)) ((3, i, 0), oS (L.1 (4, i, 0)) (f 3) (f 4) (f 5) (f 6))) := (Fr2.rf.up (h.val hi) (Or.inr rfl)).up hb (Or.inl rfl)
  exact ⟨rc_setS h hi wup_s (wup_e hb wup_s (by intro q; cases q)) hF, hF.frM (by show 3 < 50; decide) (by show 4 < 50; decide)⟩
theorem RepC.uM (h : RepC Γ L S w) {i : Nat} (hi : i < nM S) {f : Nat → Int32} (e : w1 = wup w (L.1 (10, i, 0)) ((10, i, 0), oM (f 0) (f 1) (f 2) (f 3))) : RepC Γ L (setM S i f) w1 ∧ FrM w w1 := by
  subst e
  have hF : Fr2 (10, i, 0) (10, i, 0) w (wup w (L.1 (10, i, 0)) ((10, i, 0), oM (f 0) (f 1) (f 2) (f 3))) := Fr2.rf.up (h.mac hi) (Or.inl rfl)
  exact ⟨rc_setM h wup_s hF, hF.frM (by show 10 < 50; decide) (by show 10 < 50; decide)⟩
theorem RepC.uN (h : RepC Γ L S w) {i : Nat} (hi : i < nN S) {f : Nat → Int32} (e : w1 = wup w (L.1 (11, i, 0)) ((11, i, 0), oP (f 1) (f 2) (f 3) (f 4) (f 5) (L.1 (5, i + 3, 0)) (f 0) (mk1 (f 8)) (mk2 (f 8)) (f 9))) (h6 : f 6 = gS S i 6) (hj : ∀ j, 10 ≤ j → f j = gS S i j) : RepC Γ L (setN S i f) w1 ∧ FrM w w1 := by
  subst e
  have hF : Fr2 (11, i, 0) (11, i, 0) w (wup w (L.1 (11, i, 0)) ((11, i, 0), oP (f 1) (f 2) (f 3) (f 4) (f 5) (L.1 (5, i + 3, 0)) (f 0) (mk1 (f 8)) (mk2 (f 8)) (f 9))) := Fr2.rf.up (h.pos hi) (Or.inl rfl)
  exact ⟨rc_setN h h6 hj wup_s hF, hF.frM (by show 11 < 50; decide) (by show 11 < 50; decide)⟩
theorem RepC.uG (h : RepC Γ L S w) {f : Nat → Int32} (e : w1 = wup w (L.1 (1, 0, 0)) ((1, 0, 0), oT (L.1 (2, 0, 0)) (L.1 (5, 0, 0)) (L.1 (5, 1, 0)) (L.1 (5, 2, 0)) (L.1 (4, 21, 0)) (L.1 (3, 20, 0)) f)) : RepC Γ L (setG S f) w1 ∧ FrM w w1 := by
  subst e
  have hF : Fr2 (1, 0, 0) (1, 0, 0) w (wup w (L.1 (1, 0, 0)) ((1, 0, 0), oT (L.1 (2, 0, 0)) (L.1 (5, 0, 0)) (L.1 (5, 1, 0)) (L.1 (5, 2, 0)) (L.1 (4, 21, 0)) (L.1 (3, 20, 0)) f)) := Fr2.rf.up h.main (Or.inl rfl)
  exact ⟨rc_setG h wup_s hF, hF.frM (by show 1 < 50; decide) (by show 1 < 50; decide)⟩
theorem RepC.uE (h : RepC Γ L S w) {i : Nat} (hi : i < nE S) {f : Nat → Int32} (e : w1 = wup w (L.1 (7, i, 0)) ((7, i, 0), oE (f 0) (f 3) (f 4) (L.1 (8, i, 0)))) (hj : ∀ j, 5 ≤ j → f j = eS S i j) : RepC Γ L (setE S i f) w1 ∧ FrM w w1 := by
  subst e
  have hF : Fr2 (7, i, 0) (7, i, 0) w (wup w (L.1 (7, i, 0)) ((7, i, 0), oE (f 0) (f 3) (f 4) (L.1 (8, i, 0)))) := Fr2.rf.up (h.mea hi) (Or.inl rfl)
  exact ⟨rc_setE h hj wup_s hF, hF.frM (by show 7 < 50; decide) (by show 7 < 50; decide)⟩
end U
theorem rset2 {α : Type} {f : Nat → α} {i : Nat} {x y : α} : rset (rset f i x) i y = rset f i y := by
  funext j
  unfold rset
  split <;> rfl
theorem setM2 {S : St} {i : Nat} {f f2 : Nat → Int32} : setM (setM S i f) i f2 = setM S i f2 := by simp only [setM, rset2]
theorem setN2 {S : St} {i : Nat} {f f2 : Nat → Int32} : setN (setN S i f) i f2 = setN S i f2 := by simp only [setN, rset2]
theorem setS2 {S : St} {i : Nat} {f f2 : Nat → Int32} : setS (setS S i f) i f2 = setS S i f2 := by simp only [setS, rset2]
theorem setG2 {S : St} {f f2 : Nat → Int32} : setG (setG S f) f2 = setG S f2 := rfl
theorem mS_setM {S : St} {i : Nat} {f : Nat → Int32} : mS (setM S i f) i = f := rset_s
theorem gS_setN {S : St} {i : Nat} {f : Nat → Int32} : gS (setN S i f) i = f := rset_s
theorem sS_setS {S : St} {i : Nat} {f : Nat → Int32} : sS (setS S i f) i = f := rset_s
def oBrk (S : St) (k : Nat) : St := if sS S k 1 < 60 then S else if sS S k 6 ≤ 0 then S else setG (setS S k (rset (sS S k) 6 0)) (rset (gl S) 4 (gl S 4 + 1))
/-- a section is treated; a day is borne -/
def trt (f : Nat → Int32) (k h : Int32) : Nat → Int32 := rset (rset (rset (rset (rset f 0 (tW k (f 0))) 1 (tC k (f 1))) 2 (tS k (f 2))) 3 (tT k (f 3))) 4 (tF k (f 4) h)
def age (f : Nat → Int32) (t : Int32) : Nat → Int32 := rset (rset (rset f 0 (bW (f 0) (f 5) t)) 1 (bC (bW (f 0) (f 5) t) (f 1))) 2 (bS (f 2) t (f 3))
abbrev jM (S : St) (n j : Nat) : Nat := (gS S n (11 + 3 * j)).toNatClampNeg
abbrev jQ (S : St) (n j : Nat) : Nat := (gS S n (10 + 3 * j)).toNatClampNeg
abbrev jH (S : St) (n j : Nat) : Int32 := gS S n (12 + 3 * j)
def oJo (S : St) (m q : Nat) (h : Int32) : St :=
  if h ≤ mS S m 1 then
    if mS S m 0 = 2 then setG (setS (setM S m (rset (rset (mS S m) 1 (mS S m 1 - h)) 2 (mS S m 2 + 1))) q (trt (sS S q) (mS S m 0) (gl S 1))) (rset (gl S) 2 (gl S 2 + 300))
    else setS (setM S m (rset (rset (mS S m) 1 (mS S m 1 - h)) 2 (mS S m 2 + 1))) q (trt (sS S q) (mS S m 0) (gl S 1))
  else setM S m (rset (rset (mS S m) 1 0) 3 (mS S m 3 + 1))
def oJob (S : St) (n j : Nat) : St := oJo S (jM S n j) (jQ S n j) (jH S n j)
set_option maxHeartbeats 400000 in
set_option maxRecDepth 100000 in
theorem c_X6_breakIfCracked : CtrA yX6_breakIfCracked cX6_breakIfCracked 2 none (rmk 0 0 0 0) (fun Γ av w post xpost => ∃ (L : LayC) (S : St), ∃ k, av = [.ref (thC L), .ref (L.1 (3, k, 0))] ∧ RepC Γ L S w ∧ k < 20 ∧ (∀ w1, RepC Γ L (oBrk S k) w1 → FrM w w1 → post none w1)) := by
  refine ctr_of (by decide) ?_
  rintro g av w hG hO ⟨L, S, k, rfl, hR, hk20, hk⟩
  refine ⟨Nat.le_of_ble_eq_true rfl, ?_⟩
  show X g w 0 0 0 [some (.ref (thC L)), some (.ref (L.1 (3, k, 0)))] []
  refine x_aload_n hG (pc := 0) 1 dX6_breakIfCracked_0 rfl rfl ?_
  refine x_getf hG (pc := 1) fl_X6_114 (hR.sec hk20) rfl dX6_breakIfCracked_1 ?_
  refine x_getf hG (pc := 4) fl_X6_277 (hR.val hk20) rfl dX6_breakIfCracked_4 ?_
  refine x_bipush hG (pc := 7) 60 dX6_breakIfCracked_7 (by decide) ?_
  refine x_icmp_lt hG (pc := 9) 34 dX6_breakIfCracked_9 (by decide) (fun h9 => ?_) (fun h9 => ?_)
  · refine x_return hG (pc := 34) dX6_breakIfCracked_34 rfl (by rw [hG.mc]; exact Nat.le_of_ble_eq_true rfl) (by rw [hG.ms]; exact Nat.le_of_ble_eq_true rfl) ?_
    simp only [oBrk, h9, ↓reduceIte] at hk
    first
      | exact hk _ hR2 (hF1.tr hF2)
      | exact hk _ hR FrM.rf
  · refine x_aload_n hG (pc := 12) 1 dX6_breakIfCracked_12 rfl rfl ?_
    refine x_getf hG (pc := 13) fl_X6_79 (hR.sec hk20) rfl dX6_breakIfCracked_13 ?_
    refine x_if_le hG (pc := 16) 34 dX6_breakIfCracked_16 (by decide) (fun h16 => ?_) (fun h16 => ?_)
    · refine x_return hG (pc := 34) dX6_breakIfCracked_34 rfl (by rw [hG.mc]; exact Nat.le_of_ble_eq_true rfl) (by rw [hG.ms]; exact Nat.le_of_ble_eq_true rfl) ?_
      simp only [oBrk, h9, h16, ↓reduceIte] at hk
      first
        | exact hk _ hR2 (hF1.tr hF2)
        | exact hk _ hR FrM.rf
    · refine x_aload_n hG (pc := 19) 1 dX6_breakIfCracked_19 rfl rfl ?_
      refine x_iconst hG (pc := 20) 0 dX6_breakIfCracked_20 (by decide) ?_
      refine x_putf hG (pc := 21) fl_X6_79 fw_5 ft_5_4 (hR.sec hk20) (Nat.le_of_ble_eq_true rfl) rfl rfl (by dsimp only [List.set]) dX6_breakIfCracked_21 ?_
      refine x_gen (fun w1 e1 => ?_)
      obtain ⟨hR1, hF1⟩ := hR.uS hk20 (f := rset (sS S k) 6 0) e1 rfl rfl rfl
      refine x_aload_n hG (pc := 24) 0 dX6_breakIfCracked_24 rfl rfl ?_
      refine x_dup hG (pc := 25) dX6_breakIfCracked_25 rfl ?_
      refine x_getf hG (pc := 26) fl_X6_55 hR1.main rfl dX6_breakIfCracked_26 ?_
      refine x_iconst hG (pc := 29) 1 dX6_breakIfCracked_29 (by decide) ?_
      refine x_iadd hG (pc := 30) dX6_breakIfCracked_30 ?_
      refine x_putf hG (pc := 31) fl_X6_55 fw_8 ft_8_10 hR1.main (Nat.le_of_ble_eq_true rfl) rfl rfl (by dsimp only [List.set]) dX6_breakIfCracked_31 ?_
      refine x_gen (fun w2 e2 => ?_)
      obtain ⟨hR2, hF2⟩ := hR1.uG (f := rset (gl S) 4 (gl S 4 + 1)) e2
      refine x_return hG (pc := 34) dX6_breakIfCracked_34 rfl (by rw [hG.mc]; exact Nat.le_of_ble_eq_true rfl) (by rw [hG.ms]; exact Nat.le_of_ble_eq_true rfl) ?_
      simp only [oBrk, h9, h16, ↓reduceIte] at hk
      first
        | exact hk _ hR2 (hF1.tr hF2)
        | exact hk _ hR FrM.rf
set_option maxHeartbeats 400000 in
set_option maxRecDepth 100000 in
theorem c_X6_carryOut : CtrA yX6_carryOut cX6_carryOut 2 none (rmk 2 0 0 55) (fun Γ av w post xpost => ∃ (L : LayC) (S : St), ∃ n j, av = [.ref (thC L), .ref (L.1 (12, n, j))] ∧ RepC Γ L S w ∧ n < nN S ∧ j < nJ (gS S n) ∧ jM S n j < nM S ∧ jQ S n j < 20 ∧ (∀ w1, RepC Γ L (oJob S n j) w1 → FrM w w1 → post none w1)) := by
  refine ctr_of (by decide) ?_
  rintro g av w hG hO ⟨L, S, n, j, rfl, hR, hn2, hj, hm, hq, hk⟩
  refine ⟨Nat.le_of_ble_eq_true rfl, ?_⟩
  show X g w 0 0 0 [some (.ref (thC L)), some (.ref (L.1 (12, n, j)))] []
  obtain ⟨tw, hw⟩ := hR.wrk hn2 j hj
  have hmm := hR.mac hm
  have hw0 := hw
  revert hw0
  intro hw0
  refine x_aload_n hG (pc := 0) 1 dX6_carryOut_0 rfl rfl ?_
  refine x_getf hG (pc := 1) fl_X6_452 hw rfl dX6_carryOut_1 ?_
  refine x_getf hG (pc := 4) fl_X6_161 hmm rfl dX6_carryOut_4 ?_
  refine x_aload_n hG (pc := 7) 1 dX6_carryOut_7 rfl rfl ?_
  refine x_getf hG (pc := 8) fl_X6_456 hw rfl dX6_carryOut_8 ?_
  refine x_icmp_ge hG (pc := 11) 36 dX6_carryOut_11 (by decide) (fun h11 => ?_) (fun h11 => ?_)
  · refine x_aload_n hG (pc := 36) 1 dX6_carryOut_36 rfl rfl ?_
    refine x_getf hG (pc := 37) fl_X6_452 hw rfl dX6_carryOut_37 ?_
    refine x_dup hG (pc := 40) dX6_carryOut_40 rfl ?_
    refine x_getf hG (pc := 41) fl_X6_161 hmm rfl dX6_carryOut_41 ?_
    refine x_aload_n hG (pc := 44) 1 dX6_carryOut_44 rfl rfl ?_
    refine x_getf hG (pc := 45) fl_X6_456 hw rfl dX6_carryOut_45 ?_
    refine x_isub hG (pc := 48) dX6_carryOut_48 ?_
    refine x_putf hG (pc := 49) fl_X6_161 fw_2 ft_2_1 hmm (Nat.le_of_ble_eq_true rfl) rfl rfl (by dsimp only [List.set]) dX6_carryOut_49 ?_
    refine x_gen (fun w1 e1 => ?_)
    obtain ⟨hR1, hF1⟩ := hR.uM hm (f := rset (mS S (jM S n j)) 1 (mS S (jM S n j) 1 - jH S n j)) e1
    obtain ⟨tw1, hw1⟩ := hR1.wrk (k := n) hn2 j hj
    have hm1 := hR1.mac (k := jM S n j) hm
    rw [mS_setM] at hm1
    refine x_aload_n hG (pc := 52) 1 dX6_carryOut_52 rfl rfl ?_
    refine x_getf hG (pc := 53) fl_X6_452 hw1 rfl dX6_carryOut_53 ?_
    refine x_dup hG (pc := 56) dX6_carryOut_56 rfl ?_
    refine x_getf hG (pc := 57) fl_X6_309 hm1 rfl dX6_carryOut_57 ?_
    refine x_iconst hG (pc := 60) 1 dX6_carryOut_60 (by decide) ?_
    refine x_iadd hG (pc := 61) dX6_carryOut_61 ?_
    refine x_putf hG (pc := 62) fl_X6_309 fw_2 ft_2_2 hm1 (Nat.le_of_ble_eq_true rfl) rfl rfl (by dsimp only [List.set]) dX6_carryOut_62 ?_
    refine x_gen (fun w2 e2 => ?_)
    obtain ⟨hR2, hF2⟩ := hR1.uM (i := jM S n j) hm (f := rset (rset (mS S (jM S n j)) 1 (mS S (jM S n j) 1 - jH S n j)) 2 (mS S (jM S n j) 2 + 1)) e2
    rw [setM2] at hR2
    obtain ⟨tw2, hw2⟩ := hR2.wrk (k := n) hn2 j hj
    have hm2 := hR2.mac (k := jM S n j) hm
    rw [mS_setM] at hm2
    refine x_aload_n hG (pc := 65) 1 dX6_carryOut_65 rfl rfl ?_
    refine x_getf hG (pc := 66) fl_X6_457 hw2 rfl dX6_carryOut_66 ?_
    refine x_aload_n hG (pc := 69) 1 dX6_carryOut_69 rfl rfl ?_
    refine x_getf hG (pc := 70) fl_X6_452 hw2 rfl dX6_carryOut_70 ?_
    refine x_getf hG (pc := 73) fl_X6_201 hm2 rfl dX6_carryOut_73 ?_
    refine x_aload_n hG (pc := 76) 0 dX6_carryOut_76 rfl rfl ?_
    refine x_getf hG (pc := 77) fl_X6_46 hR2.main rfl dX6_carryOut_77 ?_
    refine x_callV hG hO (pc := 80) [_, _] c_X3_treat lk_X6_460 (hR2.sec (i := jQ S n j) hq) rfl rfl ⟨by decide, by decide⟩ (Nat.le_of_ble_eq_true rfl) (by rw [hG.mc]; exact Nat.le_of_ble_eq_true rfl) (by rw [hG.ms]; exact Nat.le_of_ble_eq_true rfl) dX6_carryOut_80 ?_
    refine ⟨_, _, _, _, _, _, _, _, _, _, _, _, _, rfl, hR2.sec (i := jQ S n j) hq, hR2.val (i := jQ S n j) hq, ?_⟩
    refine x_gen (fun w3 e3 => ?_)
    obtain ⟨hR3, hF3⟩ := hR2.uB hq (f := trt (sS S (jQ S n j)) (mS S (jM S n j) 0) (gl S 1)) e3
    obtain ⟨tw3, hw3⟩ := hR3.wrk (k := n) hn2 j hj
    have hm3 := hR3.mac (k := jM S n j) hm
    rw [show mS (setS (setM S _ _) _ _) (jM S n j) = _ from mS_setM] at hm3
    refine x_aload_n hG (pc := 83) 1 dX6_carryOut_83 rfl rfl ?_
    refine x_getf hG (pc := 84) fl_X6_452 hw3 rfl dX6_carryOut_84 ?_
    refine x_getf hG (pc := 87) fl_X6_201 hm3 rfl dX6_carryOut_87 ?_
    refine x_iconst hG (pc := 90) 2 dX6_carryOut_90 (by decide) ?_
    refine x_icmp_ne hG (pc := 91) 106 dX6_carryOut_91 (by decide) (fun h91 => ?_) (fun h91 => ?_)
    · refine x_return hG (pc := 106) dX6_carryOut_106 rfl (by rw [hG.mc]; exact Nat.le_of_ble_eq_true rfl) (by rw [hG.ms]; exact Nat.le_of_ble_eq_true rfl) ?_
      have h91b := h91
      simp only [rset, Nat.reduceEqDiff, ↓reduceIte] at h91b
      unfold oJob oJo at hk
      rw [if_pos h11] at hk
      first
        | (rw [if_pos h91b] at hk; exact hk _ hR4 (((hF1.tr hF2).tr hF3).tr hF4))
        | (rw [if_neg h91b] at hk; exact hk _ hR3 ((hF1.tr hF2).tr hF3))
    · refine x_aload_n hG (pc := 94) 0 dX6_carryOut_94 rfl rfl ?_
      refine x_dup hG (pc := 95) dX6_carryOut_95 rfl ?_
      refine x_getf hG (pc := 96) fl_X6_49 hR3.main rfl dX6_carryOut_96 ?_
      refine x_sipush hG (pc := 99) 300 dX6_carryOut_99 (by decide) ?_
      refine x_iadd hG (pc := 102) dX6_carryOut_102 ?_
      refine x_putf hG (pc := 103) fl_X6_49 fw_8 ft_8_8 hR3.main (Nat.le_of_ble_eq_true rfl) rfl rfl (by dsimp only [List.set]) dX6_carryOut_103 ?_
      refine x_gen (fun w4 e4 => ?_)
      obtain ⟨hR4, hF4⟩ := hR3.uG (f := rset (gl S) 2 (gl S 2 + 300)) e4
      refine x_return hG (pc := 106) dX6_carryOut_106 rfl (by rw [hG.mc]; exact Nat.le_of_ble_eq_true rfl) (by rw [hG.ms]; exact Nat.le_of_ble_eq_true rfl) ?_
      have h91b := h91
      simp only [rset, Nat.reduceEqDiff, ↓reduceIte] at h91b
      unfold oJob oJo at hk
      rw [if_pos h11] at hk
      first
        | (rw [if_pos h91b] at hk; exact hk _ hR4 (((hF1.tr hF2).tr hF3).tr hF4))
        | (rw [if_neg h91b] at hk; exact hk _ hR3 ((hF1.tr hF2).tr hF3))
  · refine x_aload_n hG (pc := 14) 1 dX6_carryOut_14 rfl rfl ?_
    refine x_getf hG (pc := 15) fl_X6_452 hw rfl dX6_carryOut_15 ?_
    refine x_iconst hG (pc := 18) 0 dX6_carryOut_18 (by decide) ?_
    refine x_putf hG (pc := 19) fl_X6_161 fw_2 ft_2_1 hmm (Nat.le_of_ble_eq_true rfl) rfl rfl (by dsimp only [List.set]) dX6_carryOut_19 ?_
    refine x_gen (fun w1 e1 => ?_)
    obtain ⟨hR1, hF1⟩ := hR.uM hm (f := rset (mS S (jM S n j)) 1 0) e1
    obtain ⟨tw1, hw1⟩ := hR1.wrk (k := n) hn2 j hj
    have hm1 := hR1.mac (k := jM S n j) hm
    rw [mS_setM] at hm1
    refine x_aload_n hG (pc := 22) 1 dX6_carryOut_22 rfl rfl ?_
    refine x_getf hG (pc := 23) fl_X6_452 hw1 rfl dX6_carryOut_23 ?_
    refine x_dup hG (pc := 26) dX6_carryOut_26 rfl ?_
    refine x_getf hG (pc := 27) fl_X6_312 hm1 rfl dX6_carryOut_27 ?_
    refine x_iconst hG (pc := 30) 1 dX6_carryOut_30 (by decide) ?_
    refine x_iadd hG (pc := 31) dX6_carryOut_31 ?_
    refine x_putf hG (pc := 32) fl_X6_312 fw_2 ft_2_3 hm1 (Nat.le_of_ble_eq_true rfl) rfl rfl (by dsimp only [List.set]) dX6_carryOut_32 ?_
    refine x_gen (fun w2 e2 => ?_)
    obtain ⟨hR2, hF2⟩ := hR1.uM (i := jM S n j) hm (f := rset (rset (mS S (jM S n j)) 1 0) 3 (mS S (jM S n j) 3 + 1)) e2
    rw [setM2] at hR2
    refine x_return hG (pc := 35) dX6_carryOut_35 rfl (by rw [hG.mc]; exact Nat.le_of_ble_eq_true rfl) (by rw [hG.ms]; exact Nat.le_of_ble_eq_true rfl) ?_
    unfold oJob oJo at hk
    rw [if_neg h11] at hk
    exact hk _ hR2 (hF1.tr hF2)
