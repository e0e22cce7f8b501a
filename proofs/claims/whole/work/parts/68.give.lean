/-! The reference: a night ends -/
/-- iterators stay -/
def Fr60 (w w1 : Wd) : Prop := ∀ (b : Nat) (x : Tg × va_E), w b = some x → x.1.1 = 60 → w1 b = some x
theorem Fr60.rf {w : Wd} : Fr60 w w := fun _ _ h _ => h
theorem Fr60.nw {w w1 w2 : Wd} (h : Fr60 w w1) {q : Nat} {x : Tg × va_E} (hq : w1 q = none) (e : w2 = wup w1 q x) : Fr60 w w2 := fun b z hb hx => (congrFun e b).trans (wup_f hq (h b z hb hx))
theorem Fr60.up {w w1 w2 : Wd} (h : Fr60 w w1) {q : Nat} {x y : Tg × va_E} (hq : w1 q = some x) (hx : x.1.1 ≠ 60) (e : w2 = wup w1 q y) : Fr60 w w2 := fun b z hb hz => (congrFun e b).trans (wup_t (ta := x.1) (ea := x.2) (tb := z.1) (eb := z.2) hq (h b z hb hz) (fun g => hx (by rw [← g]; exact hz)))
theorem cnt_0 {p : Nat → Int32} : ∀ {n : Nat}, (∀ k, k < n → p k = 0) → cnt p n = 0
  | 0, _ => rfl
  | n + 1, h => by
    simp only [cnt]
    rw [cnt_0 (fun k hk => h k (by omega)), h n (by omega), Int32.add_zero]
theorem tk_in {S : St} {n : Nat} (hJ : JobOk S n) : ∀ k, k ≤ nJ (gS S n) → (∀ m, m < nM S → (tkR (gS S n) (liv S (nM S)) k).1 m = (htS (fun j => jM S n j) (hrC S n) m (mS S m 1) k).1) ∧ (tkR (gS S n) (liv S (nM S)) k).2 = cnt (fun m => (htS (fun j => jM S n j) (hrC S n) m (mS S m 1) k).2) (nM S)
  | 0, _ => ⟨fun m hm => if_pos hm, (cnt_0 fun _ _ => rfl).symm⟩
  | k + 1, hk => by
    obtain ⟨h1, h2⟩ := tk_in hJ k (by omega)
    have hm := (hJ k (by omega)).1
    have hs := tkR_s (f := gS S n) (g := liv S (nM S)) (k := k) (m := jM S n k) rfl
    have hh : ∀ m, htS (fun j => jM S n j) (hrC S n) m (mS S m 1) (k + 1) = if jM S n k = m then (if hrC S n k ≤ (htS (fun j => jM S n j) (hrC S n) m (mS S m 1) k).1 then ((htS (fun j => jM S n j) (hrC S n) m (mS S m 1) k).1 - hrC S n k, (htS (fun j => jM S n j) (hrC S n) m (mS S m 1) k).2 + hrC S n k) else (0, (htS (fun j => jM S n j) (hrC S n) m (mS S m 1) k).2 + (hrC S n k + 2))) else htS (fun j => jM S n j) (hrC S n) m (mS S m 1) k := fun m => rfl
    have h1m := h1 _ hm
    by_cases c : gS S n (12 + 3 * k) ≤ (tkR (gS S n) (liv S (nM S)) k).1 (jM S n k)
    · rw [if_pos c] at hs
      rw [hs]
      have c2 : hrC S n k ≤ (htS (fun j => jM S n j) (hrC S n) (jM S n k) (mS S (jM S n k) 1) k).1 := by rw [← h1m]; exact c
      refine ⟨fun m hm2 => ?_, ?_⟩
      · by_cases q : m = jM S n k
        · subst q
          rw [hh, if_pos rfl, if_pos c2, ← h1m]
          exact rset_s
        · rw [hh, if_neg (fun z => q z.symm)]
          exact (rset_n q).trans (h1 m hm2)
      · show (tkR (gS S n) (liv S (nM S)) k).2 + gS S n (12 + 3 * k) = _
        rw [h2]
        refine (cnt_one hm (fun m _ q => ?_) ?_).symm
        · show (htS _ _ m _ (k + 1)).2 = _
          rw [hh, if_neg (fun z => q z.symm)]
        · show (htS _ _ (jM S n k) _ (k + 1)).2 = _
          rw [hh, if_pos rfl, if_pos c2]
    · rw [if_neg c] at hs
      rw [hs]
      have c2 : ¬ hrC S n k ≤ (htS (fun j => jM S n j) (hrC S n) (jM S n k) (mS S (jM S n k) 1) k).1 := by rw [← h1m]; exact c
      refine ⟨fun m hm2 => ?_, ?_⟩
      · by_cases q : m = jM S n k
        · subst q
          rw [hh, if_pos rfl, if_neg c2]
          exact rset_s
        · rw [hh, if_neg (fun z => q z.symm)]
          exact (rset_n q).trans (h1 m hm2)
      · show (tkR (gS S n) (liv S (nM S)) k).2 + (gS S n (12 + 3 * k) + 2) = _
        rw [h2]
        refine (cnt_one hm (fun m _ q => ?_) ?_).symm
        · show (htS _ _ m _ (k + 1)).2 = _
          rw [hh, if_neg (fun z => q z.symm)]
        · show (htS _ _ (jM S n k) _ (k + 1)).2 = _
          rw [hh, if_pos rfl, if_neg c2]
theorem jobs_s {S : St} {n j : Nat} : jobs S n (j + 1) = oJo (jobs S n j) (jM S n j) (jQ S n j) (jH S n j) := by
  show oJob (jobs S n j) n j = _
  unfold oJob jM jQ jH
  rw [(jobs_q (S := S) (n := n) j).2.1]
def GOk (S : St) (n : Nat) : Prop := JobOk S n ∧ nJ (gS S n) ≤ 6 ∧ 0 ≤ (gS S n 6).toInt ∧ (∀ j, j < nJ (gS S n) → 0 ≤ (gS S n (10 + 3 * j)).toInt ∧ 0 ≤ (gS S n (11 + 3 * j)).toInt) ∧ nM S ≤ 4
theorem Inv2.gok {S : St} (h : Inv2 S) {n : Nat} (hn : n < nN S) : GOk S n := ⟨(h.1.2.2.2.1 n hn).1, (h.1.f6 hn).2, (h.1.2.2.2.1 n hn).2.2.2.1.1, (h.2.1 n hn).2, h.1.2.1.1⟩
theorem GOk.fq {S T : St} {n : Nat} (h : GOk S n) (hF : Fq S T) : GOk T n := by
  obtain ⟨a, b, c, d, e⟩ := h
  have h6 : nJ (gS T n) = nJ (gS S n) := congrArg Int32.toNatClampNeg (hF.2.2.2.2.1 n 6 (by decide) (by decide))
  refine ⟨fun j hj => ?_, by rw [h6]; exact b, by rw [hF.2.2.2.2.1 n 6 (by decide) (by decide)]; exact c, fun j hj => ?_, by rw [hF.2.1]; exact e⟩
  · rw [h6] at hj
    have e1 : jM T n j = jM S n j := congrArg Int32.toNatClampNeg (hF.2.2.2.2.1 n _ (by omega) (by omega))
    have e2 : jQ T n j = jQ S n j := congrArg Int32.toNatClampNeg (hF.2.2.2.2.1 n _ (by omega) (by omega))
    rw [e1, e2, hF.2.1]
    exact a j hj
  · rw [h6] at hj
    rw [hF.2.2.2.2.1 n _ (by omega) (by omega), hF.2.2.2.2.1 n _ (by omega) (by omega)]
    exact d j hj
set_option maxHeartbeats 2000000 in
set_option maxRecDepth 100000 in
theorem c_X7_give : CtrA yX7_give cX7_give 7 (some .int) (rmk 4 1 4 86) (fun Γ av w post xpost => ∃ (L : LayM) (S : St), ∃ n late, av = [.ref (thM L), .ref (L.1 (57, n, 0)), .int late] ∧ RepM Γ L S w ∧ n < nN S ∧ GOk S n ∧ (∀ w1, RepM Γ L (oEnd S n late) w1 → FrC w w1 → Fr60 w w1 → post (some (.int (gS (oEnd S n late) n 9))) w1)) := by
  refine ctr_of (by decide) ?_
  rintro g av w hG hO ⟨L, S, n, late, rfl, hR, hn, hGO, hk⟩
  refine ⟨Nat.le_of_ble_eq_true rfl, ?_⟩
  show X g w 0 0 0 [some (.ref (thM L)), some (.ref (L.1 (57, n, 0))), some (.int late), none, none, none, none] []
  obtain ⟨hJ, hj6, h6, hpos, hM4⟩ := hGO
  refine x_aload_n hG (pc := 0) 1 dX7_give_0 rfl rfl ?_
  refine x_aload_n hG (pc := 1) 0 dX7_give_1 rfl rfl ?_
  refine x_callV hG hO (pc := 2) [] c_X7_lives lk_X7_153 hR.main rfl rfl ⟨by decide, by decide⟩ (Nat.le_of_ble_eq_true rfl) (by rw [hG.mc]; exact Nat.le_of_ble_eq_true rfl) (by rw [hG.ms]; exact Nat.le_of_ble_eq_true rfl) dX7_give_2 ?_
  refine ⟨L, S, rfl, hR, hM4, fun q w1 hfq e1 => ?_⟩
  have hq1 := (congrFun e1 q).trans wup_s
  have hR1 := hR.nw hfq e1
  have hF1 := FrC.rf.nw hfq e1
  have hS1 := Fr60.rf.nw hfq e1
  refine x_callS hG hO (pc := 5) [_, _] c_X7_took lk_X7_157 rfl rfl ⟨by decide, by decide⟩ (Nat.le_of_ble_eq_true rfl) (by rw [hG.mc]; exact Nat.le_of_ble_eq_true rfl) (by rw [hG.ms]; exact Nat.le_of_ble_eq_true rfl) dX7_give_5 ?_
  refine ⟨_, _, _, q, _, _, rfl, hR1.ngt hn, hq1, (by intro z; cases z), hj6, h6, fun j hj => ⟨(hpos j hj).2, by have := (hJ j hj).1; show jM S n j < 4; omega⟩, ?_⟩
  rw [(tk_in hJ _ (Nat.le_refl _)).2]
  show X g _ _ _ _ _ (.int (tkI S n) :: _)
  refine x_gen (fun w2 e2 => ?_)
  have hR2 := hR1.tmp hq1 (by show 60 ≤ 61; decide) e2
  have hF2 := hF1.up hq1 (by show 50 ≤ 61 ∧ 61 < 80; decide) e2
  have hS2 := hS1.up hq1 (by show 61 ≠ 60; decide) e2
  refine x_istore_n hG (pc := 8) 3 dX7_give_8 rfl (Nat.le_of_ble_eq_true rfl) rfl (by dsimp only [List.set]) ?_
  refine x_iconst hG (pc := 9) 0 dX7_give_9 (by decide) ?_
  refine x_istore hG (pc := 10) dX7_give_10 (Nat.le_of_ble_eq_true rfl) rfl (by dsimp only [List.set]) ?_
  refine nat_down (P := fun j => ∀ (w3 : Wd) (z5 z6 : Option Value), RepM (gΓ g) L (jobs S n j) w3 → FrC w w3 → Fr60 w w3 → X g w3 1 4 12 [some (.ref (thM L)), some (.ref (L.1 (57, n, 0))), some (.int late), some (.int (tkI S n)), some (.int (nI j)), z5, z6] []) (nJ (gS S n)) (fun j hj0 ih w3 z5 z6 hR3 hF3 hS3 => ?_) 0 (Nat.zero_le _) w2 none none hR2 hF2 hS2
  have hq := jobs_q (S := S) (n := n) j
  have hg := hq.2.1
  have hM3 : nM (jobs S n j) = nM S := hq.1.2.1
  have hn3 : n < nN (jobs S n j) := by rw [hq.1.1]; exact hn
  have hnt : w3 (L.1 (57, n, 0)) = some ((57, n, 0), aI (gK g) 28 (gS S n)) := by
    have h := hR3.ngt (k := n) hn3
    rw [hg] at h
    exact h
  refine x_iload hG (pc := 12) dX7_give_12 rfl ?_
  refine x_aload_n hG (pc := 14) 1 dX7_give_14 rfl rfl ?_
  refine x_bipush hG (pc := 15) 6 dX7_give_15 (by decide) ?_
  refine x_ialdN hG (pc := 17) (c := 6) hnt (by decide) dX7_give_17 ?_
  refine x_icmp_ge hG (pc := 18) 154 dX7_give_18 (by decide) (fun h18 => ?_) (fun h18 => ?_)
  · have hje := ge_f6 h6 h18 hj0
    subst hje
    refine x_aload_n hG (pc := 154) 1 dX7_give_154 rfl rfl ?_
    refine x_iconst hG (pc := 155) 0 dX7_give_155 (by decide) ?_
    refine x_iconst hG (pc := 156) 2 dX7_give_156 (by decide) ?_
    refine x_iastN hG (pc := 157) (c := 0) hnt (by decide) dX7_give_157 ?_
    refine x_gen (fun w8 e8 => ?_)
    have hc8 := (congrFun e8 _).trans wup_s
    refine x_aload_n hG (pc := 158) 1 dX7_give_158 rfl rfl ?_
    refine x_bipush hG (pc := 159) 9 dX7_give_159 (by decide) ?_
    refine x_iconst hG (pc := 161) 0 dX7_give_161 (by decide) ?_
    refine x_iload_n hG (pc := 162) 3 dX7_give_162 rfl rfl ?_
    refine x_aload_n hG (pc := 163) 1 dX7_give_163 rfl rfl ?_
    refine x_iconst hG (pc := 164) 5 dX7_give_164 (by decide) ?_
    refine x_ialdN hG (pc := 165) (c := 5) hc8 (by decide) dX7_give_165 ?_
    refine x_isub hG (pc := 166) dX7_give_166 ?_
    refine x_mmax hG (pc := 167) lk_X7_150 dX7_give_167 (by decide) (Nat.le_of_ble_eq_true rfl) (by rw [hG.mc]; exact Nat.le_of_ble_eq_true rfl) (by rw [hG.ms]; exact Nat.le_of_ble_eq_true rfl) ?_
    refine x_iload_n hG (pc := 170) 2 dX7_give_170 rfl rfl ?_
    refine x_iadd hG (pc := 171) dX7_give_171 ?_
    refine x_iastN hG (pc := 172) (c := 9) hc8 (by decide) dX7_give_172 ?_
    refine x_gen (fun w9 e9 => ?_)
    have z9 : w9 = wup w3 (L.1 (57, n, 0)) ((57, n, 0), aI (gK g) 28 (rset (rset (gS S n) 0 2) 9 (mx 0 (tkI S n - gS S n 5) + late))) := by
      rw [e9, e8, wup_w]
      rfl
    have hc9 := (congrFun z9 _).trans wup_s
    obtain ⟨hR9, hF9⟩ := hR3.uN (i := n) hn3 z9
    have hS9 := hS3.up hnt (by show 57 ≠ 60; decide) z9
    refine x_aload_n hG (pc := 173) 0 dX7_give_173 rfl rfl ?_
    refine x_dup hG (pc := 174) dX7_give_174 rfl ?_
    refine x_getf hG (pc := 175) fl_X7_103 hR9.main rfl dX7_give_175 ?_
    refine x_bipush hG (pc := 178) 20 dX7_give_178 (by decide) ?_
    refine x_aload_n hG (pc := 180) 1 dX7_give_180 rfl rfl ?_
    refine x_iconst hG (pc := 181) 5 dX7_give_181 (by decide) ?_
    refine x_ialdN hG (pc := 182) (c := 5) hc9 (by decide) dX7_give_182 ?_
    refine x_imul hG (pc := 183) dX7_give_183 ?_
    refine x_bipush hG (pc := 184) 30 dX7_give_184 (by decide) ?_
    refine x_iload_n hG (pc := 186) 3 dX7_give_186 rfl rfl ?_
    refine x_imul hG (pc := 187) dX7_give_187 ?_
    refine x_iadd hG (pc := 188) dX7_give_188 ?_
    refine x_bipush hG (pc := 189) 100 dX7_give_189 (by decide) ?_
    refine x_aload_n hG (pc := 191) 1 dX7_give_191 rfl rfl ?_
    refine x_bipush hG (pc := 192) 9 dX7_give_192 (by decide) ?_
    refine x_ialdN hG (pc := 194) (c := 9) hc9 (by decide) dX7_give_194 ?_
    rw [rset_s]
    refine x_imul hG (pc := 195) dX7_give_195 ?_
    refine x_iadd hG (pc := 196) dX7_give_196 ?_
    refine x_iadd hG (pc := 197) dX7_give_197 ?_
    rw [← Int32.add_assoc, ← Int32.add_assoc]
    refine x_putf hG (pc := 198) fl_X7_103 fw_9 ft_9_7 hR9.main (Nat.le_of_ble_eq_true rfl) rfl rfl (by dsimp only [List.set]) dX7_give_198 ?_
    refine x_gen (fun w10 e10 => ?_)
    obtain ⟨hR10, hF10⟩ := hR9.uG (f := rset (rset (gl (jobs S n (nJ (gS S n)))) 6 (gl (jobs S n (nJ (gS S n))) 6 + (mx 0 (tkI S n - gS S n 5) + late))) 2 (gl (jobs S n (nJ (gS S n))) 2 + 20 * gS S n 5 + 30 * tkI S n + 100 * (mx 0 (tkI S n - gS S n 5) + late))) e10
    have hS10 := hS9.up hR9.main (by show 50 ≠ 60; decide) e10
    have hc10 := (congrFun e10 _).trans (wup_t hR9.main hc9 (by intro z; cases z))
    have hs : oEnd S n late = setG (setN (jobs S n (nJ (gS S n))) n (rset (rset (gS S n) 0 2) 9 (mx 0 (tkI S n - gS S n 5) + late))) (rset (rset (gl (jobs S n (nJ (gS S n)))) 6 (gl (jobs S n (nJ (gS S n))) 6 + (mx 0 (tkI S n - gS S n 5) + late))) 2 (gl (jobs S n (nJ (gS S n))) 2 + 20 * gS S n 5 + 30 * tkI S n + 100 * (mx 0 (tkI S n - gS S n 5) + late))) := by
      unfold oEnd
      dsimp only
      rw [hg]
    rw [← hs] at hR10
    refine x_aload_n hG (pc := 201) 1 dX7_give_201 rfl rfl ?_
    refine x_bipush hG (pc := 202) 9 dX7_give_202 (by decide) ?_
    refine x_ialdN hG (pc := 204) (c := 9) hc10 (by decide) dX7_give_204 ?_
    refine x_ireturn hG (pc := 205) dX7_give_205 rfl rfl (by rw [hG.mc]; exact Nat.le_of_ble_eq_true rfl) (by rw [hG.ms]; exact Nat.le_of_ble_eq_true rfl) ?_
    refine fin_i ?_ (hk w10 hR10 ((hF3.tr hF9).tr hF10) hS10)
    rw [hs]
    exact (congrFun (rset_s (f := gS (jobs S n (nJ (gS S n)))) (i := n)) 9).symm
  · have hjn := lt_f6 h6 h18 (by omega)
    obtain ⟨hjm, hjq⟩ := hJ j hjn
    obtain ⟨hp0, hp1⟩ := hpos j hjn
    have hm1 : gS S n (11 + 3 * j) = nI (jM S n j) := (cl_eq hp1 (by omega)).mpr rfl
    have hs1 : gS S n (10 + 3 * j) = nI (jQ S n j) := (cl_eq hp0 (by omega)).mpr rfl
    have hmac := hR3.mac (k := jM S n j) (by show jM S n j < nM (jobs S n j); rw [hM3]; exact hjm)
    refine x_aload_n hG (pc := 21) 0 dX7_give_21 rfl rfl ?_
    refine x_getf hG (pc := 22) fl_X7_17 hR3.main rfl dX7_give_22 ?_
    refine x_aload_n hG (pc := 25) 1 dX7_give_25 rfl rfl ?_
    refine x_bipush hG (pc := 26) 10 dX7_give_26 (by decide) ?_
    refine x_iconst hG (pc := 28) 3 dX7_give_28 (by decide) ?_
    refine x_iload hG (pc := 29) dX7_give_29 rfl ?_
    refine x_imul hG (pc := 31) dX7_give_31 ?_
    refine x_iadd hG (pc := 32) dX7_give_32 ?_
    refine x_iconst hG (pc := 33) 1 dX7_give_33 (by decide) ?_
    refine x_iadd hG (pc := 34) dX7_give_34 ?_
    refine x_ialdN hG (pc := 35) (c := 11 + 3 * j) hnt (by omega) dX7_give_35 ?_ (hv := ix3 j)
    rw [hm1]
    refine x_callV hG hO (pc := 36) [_] c_Jx4a65c_get_915e3 lk_X7_52 (hR3.lst (id := 1) (by decide)).1 rfl rfl ⟨by decide, by decide⟩ (Nat.le_of_ble_eq_true rfl) (by rw [hG.mc]; exact Nat.le_of_ble_eq_true rfl) (by rw [hG.ms]; exact Nat.le_of_ble_eq_true rfl) dX7_give_36 ?_
    refine ⟨_, _, _, _, _, _, _, _, (jM S n j), rfl, (hR3.lst (id := 1) (by decide)), (by show jM S n j < nM (jobs S n j); rw [hM3]; exact hjm), ?_⟩
    show X g _ _ _ _ _ (.ref (L.1 (56, (jM S n j), 0)) :: _)
    refine x_castI hG (pc := 39) ckl_X7_56 hmac dX7_give_39 ?_
    refine x_astore hG (pc := 42) dX7_give_42 (Nat.le_of_ble_eq_true rfl) rfl (by dsimp only [List.set]) ?_
    refine x_aload_n hG (pc := 44) 1 dX7_give_44 rfl rfl ?_
    refine x_bipush hG (pc := 45) 10 dX7_give_45 (by decide) ?_
    refine x_iconst hG (pc := 47) 3 dX7_give_47 (by decide) ?_
    refine x_iload hG (pc := 48) dX7_give_48 rfl ?_
    refine x_imul hG (pc := 50) dX7_give_50 ?_
    refine x_iadd hG (pc := 51) dX7_give_51 ?_
    refine x_iconst hG (pc := 52) 2 dX7_give_52 (by decide) ?_
    refine x_iadd hG (pc := 53) dX7_give_53 ?_
    refine x_ialdN hG (pc := 54) (c := 12 + 3 * j) hnt (by omega) dX7_give_54 ?_ (hv := ix4 j)
    refine x_istore hG (pc := 55) dX7_give_55 (Nat.le_of_ble_eq_true rfl) rfl (by dsimp only [List.set]) ?_
    refine x_aload hG (pc := 57) dX7_give_57 rfl ?_
    refine x_iconst hG (pc := 59) 1 dX7_give_59 (by decide) ?_
    refine x_ialdN hG (pc := 60) (c := 1) hmac (by decide) dX7_give_60 ?_
    refine x_iload hG (pc := 61) dX7_give_61 rfl ?_
    refine x_icmp_ge hG (pc := 63) 82 dX7_give_63 (by decide) (fun h63 => ?_) (fun h63 => ?_)
    · replace h63 : (gS S n (12 + 3 * j)) ≤ mS (jobs S n j) (jM S n j) 1 := h63
      refine x_aload hG (pc := 82) dX7_give_82 rfl ?_
      refine x_iconst hG (pc := 84) 1 dX7_give_84 (by decide) ?_
      refine x_dup2 hG (pc := 85) dX7_give_85 rfl rfl ?_
      refine x_ialdN hG (pc := 86) (c := 1) hmac (by decide) dX7_give_86 ?_
      refine x_iload hG (pc := 87) dX7_give_87 rfl ?_
      refine x_isub hG (pc := 89) dX7_give_89 ?_
      refine x_iastN hG (pc := 90) (c := 1) hmac (by decide) dX7_give_90 ?_
      refine x_gen (fun w4 e4 => ?_)
      have hc4 := (congrFun e4 _).trans wup_s
      refine x_aload hG (pc := 91) dX7_give_91 rfl ?_
      refine x_iconst hG (pc := 93) 2 dX7_give_93 (by decide) ?_
      refine x_dup2 hG (pc := 94) dX7_give_94 rfl rfl ?_
      refine x_ialdN hG (pc := 95) (c := 2) hc4 (by decide) dX7_give_95 ?_
      refine x_iconst hG (pc := 96) 1 dX7_give_96 (by decide) ?_
      refine x_iadd hG (pc := 97) dX7_give_97 ?_
      refine x_iastN hG (pc := 98) (c := 2) hc4 (by decide) dX7_give_98 ?_
      refine x_gen (fun w5 e5 => ?_)
      have z5 : w5 = wup w3 (L.1 (56, jM S n j, 0)) ((56, jM S n j, 0), aI (gK g) 4 (rset (rset (mS (jobs S n j) (jM S n j)) 1 (mS (jobs S n j) (jM S n j) 1 - (gS S n (12 + 3 * j)))) 2 (mS (jobs S n j) (jM S n j) 2 + 1))) := by
        rw [e5, e4, wup_w]
        rfl
      have hc5 := (congrFun z5 _).trans wup_s
      have hS5 := hS3.up hmac (by show 56 ≠ 60; decide) z5
      obtain ⟨hR5, hF5⟩ := hR3.uM (i := jM S n j) (by show jM S n j < nM (jobs S n j); rw [hM3]; exact hjm) z5
      have hnt5 : w5 (L.1 (57, n, 0)) = some ((57, n, 0), aI (gK g) 28 (gS S n)) := by
        have h := hR5.ngt (k := n) hn3
        rw [show gS (setM _ _ _) n = gS S n from congrFun hg n] at h
        exact h
      refine x_aload_n hG (pc := 99) 0 dX7_give_99 rfl rfl ?_
      refine x_getf hG (pc := 100) fl_X7_11 hR5.main rfl dX7_give_100 ?_
      refine x_aload_n hG (pc := 103) 1 dX7_give_103 rfl rfl ?_
      refine x_bipush hG (pc := 104) 10 dX7_give_104 (by decide) ?_
      refine x_iconst hG (pc := 106) 3 dX7_give_106 (by decide) ?_
      refine x_iload hG (pc := 107) dX7_give_107 rfl ?_
      refine x_imul hG (pc := 109) dX7_give_109 ?_
      refine x_iadd hG (pc := 110) dX7_give_110 ?_
      refine x_ialdN hG (pc := 111) (c := 10 + 3 * j) hnt5 (by omega) dX7_give_111 ?_ (hv := ix2 j)
      rw [hs1]
      refine x_aaldI hG (pc := 112) hR5.secs (vp_in_nI hjq (by decide)) dX7_give_112 ?_
      rw [nI_clamp (by omega), lE_at hjq]
      show X g _ _ _ _ _ (.ref (L.1 (52, (jQ S n j), 0)) :: _)
      refine x_aload hG (pc := 113) dX7_give_113 rfl ?_
      refine x_iconst hG (pc := 115) 0 dX7_give_115 (by decide) ?_
      refine x_ialdN hG (pc := 116) (c := 0) hc5 (by decide) dX7_give_116 ?_
      refine x_aload_n hG (pc := 117) 0 dX7_give_117 rfl rfl ?_
      refine x_getf hG (pc := 118) fl_X7_27 hR5.main rfl dX7_give_118 ?_
      refine x_callS hG hO (pc := 121) [_, _, _] c_X7_treat lk_X7_161 rfl rfl ⟨by decide, by decide⟩ (Nat.le_of_ble_eq_true rfl) (by rw [hG.mc]; exact Nat.le_of_ble_eq_true rfl) (by rw [hG.ms]; exact Nat.le_of_ble_eq_true rfl) dX7_give_121 ?_
      refine ⟨_, _, _, _, _, rfl, hR5.sec (i := jQ S n j) hjq, ?_⟩
      refine x_gen (fun w6 e6 => ?_)
      obtain ⟨hR6, hF6⟩ := hR5.uS (i := jQ S n j) hjq e6
      have hS6 := hS5.up (hR5.sec (i := jQ S n j) hjq) (by show 52 ≠ 60; decide) e6
      have hc6 := (congrFun e6 _).trans (wup_t (hR5.sec (i := jQ S n j) hjq) hc5 (by intro z; cases z))
      refine x_aload_n hG (pc := 124) 0 dX7_give_124 rfl rfl ?_
      refine x_dup hG (pc := 125) dX7_give_125 rfl ?_
      refine x_getf hG (pc := 126) fl_X7_103 hR6.main rfl dX7_give_126 ?_
      refine x_aload hG (pc := 129) dX7_give_129 rfl ?_
      refine x_iconst hG (pc := 131) 0 dX7_give_131 (by decide) ?_
      refine x_ialdN hG (pc := 132) (c := 0) hc6 (by decide) dX7_give_132 ?_
      refine x_iconst hG (pc := 133) 2 dX7_give_133 (by decide) ?_
      refine x_icmp_ne hG (pc := 134) 143 dX7_give_134 (by decide) (fun h134 => ?_) (fun h134 => ?_)
      · replace h134 : ¬ mS (jobs S n j) (jM S n j) 0 = 2 := h134
        refine x_iconst hG (pc := 143) 0 dX7_give_143 (by decide) ?_
        refine x_iadd hG (pc := 144) dX7_give_144 ?_
        refine x_putf hG (pc := 145) fl_X7_103 fw_9 ft_9_7 hR6.main (Nat.le_of_ble_eq_true rfl) rfl rfl (by dsimp only [List.set]) dX7_give_145 ?_
        rw [Int32.add_zero]
        refine x_gen (fun w7 e7 => ?_)
        obtain ⟨hR7, hF7⟩ := hR6.uG (f := gl (jobs S n j)) e7
        have hS7 := hS6.up hR6.main (by show 50 ≠ 60; decide) e7
        refine x_iinc hG (pc := 148) (nI (j + 1)) dX7_give_148 rfl (Nat.le_of_ble_eq_true rfl) rfl (nI_1' j) (by dsimp only [List.set]) ?_
        refine x_goto hG (pc := 151) 12 dX7_give_151 (by decide) ?_
        have hs := jobs_s (S := S) (n := n) (j := j)
        unfold oJo at hs
        first
          | (rw [if_neg h63] at hs; rw [← hs] at hR5; exact ih (j + 1) (by omega) (by omega) w5 _ _ hR5 (hF3.tr hF5) hS5)
          | (rw [if_pos h63, if_neg h134] at hs; exact ih (j + 1) (by omega) (by omega) w7 _ _ (by rw [hs]; exact hR7) (((hF3.tr hF5).tr hF6).tr hF7) hS7)
          | (rw [if_pos h63, if_pos h134] at hs; exact ih (j + 1) (by omega) (by omega) w7 _ _ (by rw [hs]; exact hR7) (((hF3.tr hF5).tr hF6).tr hF7) hS7)
      · replace h134 : mS (jobs S n j) (jM S n j) 0 = 2 := h134
        refine x_sipush hG (pc := 137) 300 dX7_give_137 (by decide) ?_
        refine x_goto hG (pc := 140) 144 dX7_give_140 (by decide) ?_
        refine x_iadd hG (pc := 144) dX7_give_144 ?_
        refine x_putf hG (pc := 145) fl_X7_103 fw_9 ft_9_7 hR6.main (Nat.le_of_ble_eq_true rfl) rfl rfl (by dsimp only [List.set]) dX7_give_145 ?_
        refine x_gen (fun w7 e7 => ?_)
        obtain ⟨hR7, hF7⟩ := hR6.uG (f := rset (gl (jobs S n j)) 2 (gl (jobs S n j) 2 + 300)) e7
        have hS7 := hS6.up hR6.main (by show 50 ≠ 60; decide) e7
        refine x_iinc hG (pc := 148) (nI (j + 1)) dX7_give_148 rfl (Nat.le_of_ble_eq_true rfl) rfl (nI_1' j) (by dsimp only [List.set]) ?_
        refine x_goto hG (pc := 151) 12 dX7_give_151 (by decide) ?_
        have hs := jobs_s (S := S) (n := n) (j := j)
        unfold oJo at hs
        first
          | (rw [if_neg h63] at hs; rw [← hs] at hR5; exact ih (j + 1) (by omega) (by omega) w5 _ _ hR5 (hF3.tr hF5) hS5)
          | (rw [if_pos h63, if_neg h134] at hs; exact ih (j + 1) (by omega) (by omega) w7 _ _ (by rw [hs]; exact hR7) (((hF3.tr hF5).tr hF6).tr hF7) hS7)
          | (rw [if_pos h63, if_pos h134] at hs; exact ih (j + 1) (by omega) (by omega) w7 _ _ (by rw [hs]; exact hR7) (((hF3.tr hF5).tr hF6).tr hF7) hS7)
    · replace h63 : ¬ (gS S n (12 + 3 * j)) ≤ mS (jobs S n j) (jM S n j) 1 := h63
      refine x_aload hG (pc := 66) dX7_give_66 rfl ?_
      refine x_iconst hG (pc := 68) 1 dX7_give_68 (by decide) ?_
      refine x_iconst hG (pc := 69) 0 dX7_give_69 (by decide) ?_
      refine x_iastN hG (pc := 70) (c := 1) hmac (by decide) dX7_give_70 ?_
      refine x_gen (fun w4 e4 => ?_)
      have hc4 := (congrFun e4 _).trans wup_s
      refine x_aload hG (pc := 71) dX7_give_71 rfl ?_
      refine x_iconst hG (pc := 73) 3 dX7_give_73 (by decide) ?_
      refine x_dup2 hG (pc := 74) dX7_give_74 rfl rfl ?_
      refine x_ialdN hG (pc := 75) (c := 3) hc4 (by decide) dX7_give_75 ?_
      refine x_iconst hG (pc := 76) 1 dX7_give_76 (by decide) ?_
      refine x_iadd hG (pc := 77) dX7_give_77 ?_
      refine x_iastN hG (pc := 78) (c := 3) hc4 (by decide) dX7_give_78 ?_
      refine x_gen (fun w5 e5 => ?_)
      have z5 : w5 = wup w3 (L.1 (56, jM S n j, 0)) ((56, jM S n j, 0), aI (gK g) 4 (rset (rset (mS (jobs S n j) (jM S n j)) 1 0) 3 (mS (jobs S n j) (jM S n j) 3 + 1))) := by
        rw [e5, e4, wup_w]
        rfl
      have hS5 := hS3.up hmac (by show 56 ≠ 60; decide) z5
      obtain ⟨hR5, hF5⟩ := hR3.uM (i := jM S n j) (by show jM S n j < nM (jobs S n j); rw [hM3]; exact hjm) z5
      refine x_goto hG (pc := 79) 148 dX7_give_79 (by decide) ?_
      refine x_iinc hG (pc := 148) (nI (j + 1)) dX7_give_148 rfl (Nat.le_of_ble_eq_true rfl) rfl (nI_1' j) (by dsimp only [List.set]) ?_
      refine x_goto hG (pc := 151) 12 dX7_give_151 (by decide) ?_
      have hs := jobs_s (S := S) (n := n) (j := j)
      unfold oJo at hs
      first
        | (rw [if_neg h63] at hs; rw [← hs] at hR5; exact ih (j + 1) (by omega) (by omega) w5 _ _ hR5 (hF3.tr hF5) hS5)
        | (rw [if_pos h63, if_neg h134] at hs; exact ih (j + 1) (by omega) (by omega) w7 _ _ (by rw [hs]; exact hR7) (((hF3.tr hF5).tr hF6).tr hF7) hS7)
        | (rw [if_pos h63, if_pos h134] at hs; exact ih (j + 1) (by omega) (by omega) w7 _ _ (by rw [hs]; exact hR7) (((hF3.tr hF5).tr hF6).tr hF7) hS7)
set_option maxHeartbeats 400000 in
set_option maxRecDepth 100000 in
theorem c_X7_giveBack : CtrA yX7_giveBack cX7_giveBack 2 (some .int) (rmk 5 1 4 112) (fun Γ av w post xpost => ∃ (L : LayM) (S : St), ∃ p, av = [.ref (thM L), .int p] ∧ RepM Γ L S w ∧ Inv2 S ∧ MOut Γ L w post (oGiv S p)) := by
  refine ctr_of (by decide) ?_
  rintro g av w hG hO ⟨L, S, p, rfl, hR, hI2, hk⟩
  refine ⟨Nat.le_of_ble_eq_true rfl, ?_⟩
  show X g w 0 0 0 [some (.ref (thM L)), some (.int p)] []
  have hI := hI2.1
  have hnM := hI.2.1.1
  have hnN := hI.2.1.2.1
  have hnE := hI.2.1.2.2
  refine x_aload_n hG (pc := 0) 0 dX7_giveBack_0 rfl rfl ?_
  refine x_iconst hG (pc := 1) 0 dX7_giveBack_1 (by decide) ?_
  refine x_putf hG (pc := 2) fl_X7_31 fw_9 ft_9_0 hR.main (Nat.le_of_ble_eq_true rfl) rfl rfl (by dsimp only [List.set]) dX7_giveBack_2 ?_
  refine x_gen (fun w0 e0 => ?_)
  obtain ⟨hR0, hF0⟩ := hR.uT e0
  refine x_aload_n hG (pc := 5) 0 dX7_giveBack_5 rfl rfl ?_
  refine x_iload_n hG (pc := 6) 1 dX7_giveBack_6 rfl rfl ?_
  refine x_callV hG hO (pc := 7) [_] c_X7_isNight lk_X7_136 hR0.main rfl rfl ⟨by decide, by decide⟩ (Nat.le_of_ble_eq_true rfl) (by rw [hG.mc]; exact Nat.le_of_ble_eq_true rfl) (by rw [hG.ms]; exact Nat.le_of_ble_eq_true rfl) dX7_giveBack_7 ?_
  refine ⟨_, S, _, rfl, hR0, by omega, ?_⟩
  refine x_if_ne hG (pc := 10) 19 dX7_giveBack_10 (by decide) (fun h10 => ?_) (fun h10 => ?_)
  · obtain ⟨k, hx⟩ := sIx_1 h10
    obtain ⟨hkn, rfl⟩ := ixO_some hx (by omega)
    refine x_aload_n hG (pc := 19) 0 dX7_giveBack_19 rfl rfl ?_
    refine x_getf hG (pc := 20) fl_X7_21 hR0.main rfl dX7_giveBack_20 ?_
    refine x_iload_n hG (pc := 23) 1 dX7_giveBack_23 rfl rfl ?_
    refine x_callV hG hO (pc := 24) [_] c_Jx4a65c_get_915e3 lk_X7_52 (hR0.lst (id := 2) (by decide)).1 rfl rfl ⟨by decide, by decide⟩ (Nat.le_of_ble_eq_true rfl) (by rw [hG.mc]; exact Nat.le_of_ble_eq_true rfl) (by rw [hG.ms]; exact Nat.le_of_ble_eq_true rfl) dX7_giveBack_24 ?_
    refine ⟨_, _, _, _, _, _, _, _, k, rfl, (hR0.lst (id := 2) (by decide)), hkn, ?_⟩
    show X g _ _ _ _ _ (.ref (L.1 (57, k, 0)) :: _)
    refine x_castI hG (pc := 27) ckl_X7_56 (hR0.ngt hkn) dX7_giveBack_27 ?_
    refine x_iconst hG (pc := 30) 0 dX7_giveBack_30 (by decide) ?_
    refine x_ialdN hG (pc := 31) (c := 0) (hR0.ngt hkn) (by decide) dX7_giveBack_31 ?_
    refine x_iconst hG (pc := 32) 1 dX7_giveBack_32 (by decide) ?_
    refine x_icmp_ne hG (pc := 33) 55 dX7_giveBack_33 (by decide) (fun h33 => ?_) (fun h33 => ?_)
    · refine x_aload_n hG (pc := 55) 0 dX7_giveBack_55 rfl rfl ?_
      refine x_iconst hG (pc := 56) 2 dX7_giveBack_56 (by decide) ?_
      refine x_callV hG hO (pc := 57) [_] c_X7_refuse lk_X7_76 hR0.main rfl rfl ⟨by decide, by decide⟩ (Nat.le_of_ble_eq_true rfl) (by rw [hG.mc]; exact Nat.le_of_ble_eq_true rfl) (by rw [hG.ms]; exact Nat.le_of_ble_eq_true rfl) dX7_giveBack_57 ?_
      refine ⟨_, _, 2, rfl, hR0, fun wr hRr hFr => ?_⟩
      refine x_ireturn hG (pc := 60) dX7_giveBack_60 rfl rfl (by rw [hG.mc]; exact Nat.le_of_ble_eq_true rfl) (by rw [hG.ms]; exact Nat.le_of_ble_eq_true rfl) ?_
      exact hk.ok (k := 2) (v := 0) (S1 := S) (by simp only [oGiv, hx, h33, ↓reduceIte]) hRr (hF0.tr hFr)
    · refine x_aload_n hG (pc := 36) 0 dX7_giveBack_36 rfl rfl ?_
      refine x_aload_n hG (pc := 37) 0 dX7_giveBack_37 rfl rfl ?_
      refine x_getf hG (pc := 38) fl_X7_21 hR0.main rfl dX7_giveBack_38 ?_
      refine x_iload_n hG (pc := 41) 1 dX7_giveBack_41 rfl rfl ?_
      refine x_callV hG hO (pc := 42) [_] c_Jx4a65c_get_915e3 lk_X7_52 (hR0.lst (id := 2) (by decide)).1 rfl rfl ⟨by decide, by decide⟩ (Nat.le_of_ble_eq_true rfl) (by rw [hG.mc]; exact Nat.le_of_ble_eq_true rfl) (by rw [hG.ms]; exact Nat.le_of_ble_eq_true rfl) dX7_giveBack_42 ?_
      refine ⟨_, _, _, _, _, _, _, _, k, rfl, (hR0.lst (id := 2) (by decide)), hkn, ?_⟩
      show X g _ _ _ _ _ (.ref (L.1 (57, k, 0)) :: _)
      refine x_castI hG (pc := 45) ckl_X7_56 (hR0.ngt hkn) dX7_giveBack_45 ?_
      refine x_iconst hG (pc := 48) 0 dX7_giveBack_48 (by decide) ?_
      refine x_callV hG hO (pc := 49) [_, _] c_X7_give lk_X7_96 hR0.main rfl rfl ⟨by decide, by decide⟩ (Nat.le_of_ble_eq_true rfl) (by rw [hG.mc]; exact Nat.le_of_ble_eq_true rfl) (by rw [hG.ms]; exact Nat.le_of_ble_eq_true rfl) dX7_giveBack_49 ?_
      refine ⟨lthr L 0, S, k, 0, rfl, hR0, hkn, hI2.gok hkn, fun w1 hR1 hF1 _ => ?_⟩
      refine x_goto hG (pc := 52) 60 dX7_giveBack_52 (by decide) ?_
      refine x_ireturn hG (pc := 60) dX7_giveBack_60 rfl rfl (by rw [hG.mc]; exact Nat.le_of_ble_eq_true rfl) (by rw [hG.ms]; exact Nat.le_of_ble_eq_true rfl) ?_
      exact hk.ok (k := 0) (by simp only [oGiv, hx, h33, ↓reduceIte]) hR1 (hF0.tr hF1)
  · have hx := sIx_0 h10
    refine x_aload_n hG (pc := 13) 0 dX7_giveBack_13 rfl rfl ?_
    refine x_iconst hG (pc := 14) 1 dX7_giveBack_14 (by decide) ?_
    refine x_callV hG hO (pc := 15) [_] c_X7_refuse lk_X7_76 hR0.main rfl rfl ⟨by decide, by decide⟩ (Nat.le_of_ble_eq_true rfl) (by rw [hG.mc]; exact Nat.le_of_ble_eq_true rfl) (by rw [hG.ms]; exact Nat.le_of_ble_eq_true rfl) dX7_giveBack_15 ?_
    refine ⟨_, _, 1, rfl, hR0, fun wr hRr hFr => ?_⟩
    refine x_ireturn hG (pc := 18) dX7_giveBack_18 rfl rfl (by rw [hG.mc]; exact Nat.le_of_ble_eq_true rfl) (by rw [hG.ms]; exact Nat.le_of_ble_eq_true rfl) ?_
    exact hk.ok (k := 1) (v := 0) (S1 := S) (by simp only [oGiv, hx, ↓reduceIte]) hRr (hF0.tr hFr)
set_option maxHeartbeats 400000 in
set_option maxRecDepth 100000 in
theorem c_X7_wouldOverrun : CtrA yX7_wouldOverrun cX7_wouldOverrun 3 (some .int) (rmk 4 1 4 86) (fun Γ av w post xpost => ∃ (L : LayM) (S : St), ∃ p, av = [.ref (thM L), .int p] ∧ RepM Γ L S w ∧ Inv2 S ∧ MOut Γ L w post (oOvr S p)) := by
  refine ctr_of (by decide) ?_
  rintro g av w hG hO ⟨L, S, p, rfl, hR, hI2, hk⟩
  refine ⟨Nat.le_of_ble_eq_true rfl, ?_⟩
  show X g w 0 0 0 [some (.ref (thM L)), some (.int p), none] []
  have hI := hI2.1
  have hnM := hI.2.1.1
  have hnN := hI.2.1.2.1
  have hnE := hI.2.1.2.2
  refine x_aload_n hG (pc := 0) 0 dX7_wouldOverrun_0 rfl rfl ?_
  refine x_iconst hG (pc := 1) 0 dX7_wouldOverrun_1 (by decide) ?_
  refine x_putf hG (pc := 2) fl_X7_31 fw_9 ft_9_0 hR.main (Nat.le_of_ble_eq_true rfl) rfl rfl (by dsimp only [List.set]) dX7_wouldOverrun_2 ?_
  refine x_gen (fun w0 e0 => ?_)
  obtain ⟨hR0, hF0⟩ := hR.uT e0
  refine x_aload_n hG (pc := 5) 0 dX7_wouldOverrun_5 rfl rfl ?_
  refine x_iload_n hG (pc := 6) 1 dX7_wouldOverrun_6 rfl rfl ?_
  refine x_callV hG hO (pc := 7) [_] c_X7_isNight lk_X7_136 hR0.main rfl rfl ⟨by decide, by decide⟩ (Nat.le_of_ble_eq_true rfl) (by rw [hG.mc]; exact Nat.le_of_ble_eq_true rfl) (by rw [hG.ms]; exact Nat.le_of_ble_eq_true rfl) dX7_wouldOverrun_7 ?_
  refine ⟨_, S, _, rfl, hR0, by omega, ?_⟩
  refine x_if_ne hG (pc := 10) 19 dX7_wouldOverrun_10 (by decide) (fun h10 => ?_) (fun h10 => ?_)
  · obtain ⟨k, hx⟩ := sIx_1 h10
    obtain ⟨hkn, rfl⟩ := ixO_some hx (by omega)
    refine x_aload_n hG (pc := 19) 0 dX7_wouldOverrun_19 rfl rfl ?_
    refine x_getf hG (pc := 20) fl_X7_21 hR0.main rfl dX7_wouldOverrun_20 ?_
    refine x_iload_n hG (pc := 23) 1 dX7_wouldOverrun_23 rfl rfl ?_
    refine x_callV hG hO (pc := 24) [_] c_Jx4a65c_get_915e3 lk_X7_52 (hR0.lst (id := 2) (by decide)).1 rfl rfl ⟨by decide, by decide⟩ (Nat.le_of_ble_eq_true rfl) (by rw [hG.mc]; exact Nat.le_of_ble_eq_true rfl) (by rw [hG.ms]; exact Nat.le_of_ble_eq_true rfl) dX7_wouldOverrun_24 ?_
    refine ⟨_, _, _, _, _, _, _, _, k, rfl, (hR0.lst (id := 2) (by decide)), hkn, ?_⟩
    show X g _ _ _ _ _ (.ref (L.1 (57, k, 0)) :: _)
    refine x_castI hG (pc := 27) ckl_X7_56 (hR0.ngt hkn) dX7_wouldOverrun_27 ?_
    refine x_astore_n hG (pc := 30) 2 dX7_wouldOverrun_30 rfl (Nat.le_of_ble_eq_true rfl) rfl (by dsimp only [List.set]) ?_
    refine x_aload_n hG (pc := 31) 2 dX7_wouldOverrun_31 rfl rfl ?_
    refine x_iconst hG (pc := 32) 0 dX7_wouldOverrun_32 (by decide) ?_
    refine x_ialdN hG (pc := 33) (c := 0) (hR0.ngt hkn) (by decide) dX7_wouldOverrun_33 ?_
    refine x_iconst hG (pc := 34) 1 dX7_wouldOverrun_34 (by decide) ?_
    refine x_icmp_gt hG (pc := 35) 57 dX7_wouldOverrun_35 (by decide) (fun h35 => ?_) (fun h35 => ?_)
    · have hco : s_cot (gS S k 0) = 0 := by
        rcases Decidable.em (s_cot (gS S k 0) = 0) with z | z
        · exact z
        · exact absurd ((cot_le (hI.2.2.2.1 k hkn).2.1.1).mpr z) (Int32.not_le.mpr h35)
      refine x_aload_n hG (pc := 57) 0 dX7_wouldOverrun_57 rfl rfl ?_
      refine x_iconst hG (pc := 58) 2 dX7_wouldOverrun_58 (by decide) ?_
      refine x_callV hG hO (pc := 59) [_] c_X7_refuse lk_X7_76 hR0.main rfl rfl ⟨by decide, by decide⟩ (Nat.le_of_ble_eq_true rfl) (by rw [hG.mc]; exact Nat.le_of_ble_eq_true rfl) (by rw [hG.ms]; exact Nat.le_of_ble_eq_true rfl) dX7_wouldOverrun_59 ?_
      refine ⟨_, _, 2, rfl, hR0, fun wr hRr hFr => ?_⟩
      refine x_ireturn hG (pc := 62) dX7_wouldOverrun_62 rfl rfl (by rw [hG.mc]; exact Nat.le_of_ble_eq_true rfl) (by rw [hG.ms]; exact Nat.le_of_ble_eq_true rfl) ?_
      exact hk.ok (k := 2) (v := 0) (S1 := S) (by simp only [oOvr, hx, hco, ↓reduceIte]) hRr (hF0.tr hFr)
    · have hco : ¬ s_cot (gS S k 0) = 0 := (cot_le (hI.2.2.2.1 k hkn).2.1.1).mp (Int32.not_lt.mp h35)
      obtain ⟨hJ, hj6, h6, hpos, hM4⟩ := hI2.gok hkn
      refine x_iconst hG (pc := 38) 0 dX7_wouldOverrun_38 (by decide) ?_
      refine x_aload_n hG (pc := 39) 2 dX7_wouldOverrun_39 rfl rfl ?_
      refine x_aload_n hG (pc := 40) 0 dX7_wouldOverrun_40 rfl rfl ?_
      refine x_callV hG hO (pc := 41) [] c_X7_lives lk_X7_153 hR0.main rfl rfl ⟨by decide, by decide⟩ (Nat.le_of_ble_eq_true rfl) (by rw [hG.mc]; exact Nat.le_of_ble_eq_true rfl) (by rw [hG.ms]; exact Nat.le_of_ble_eq_true rfl) dX7_wouldOverrun_41 ?_
      refine ⟨lthr L 0, S, rfl, hR0, hM4, fun q w1 hfq e1 => ?_⟩
      have hq1 := (congrFun e1 q).trans wup_s
      have hR1 := hR0.nw hfq e1
      have hF1 := hF0.nw hfq e1
      refine x_callS hG hO (pc := 44) [_, _] c_X7_took lk_X7_157 rfl rfl ⟨by decide, by decide⟩ (Nat.le_of_ble_eq_true rfl) (by rw [hG.mc]; exact Nat.le_of_ble_eq_true rfl) (by rw [hG.ms]; exact Nat.le_of_ble_eq_true rfl) dX7_wouldOverrun_44 ?_
      refine ⟨_, _, _, q, _, _, rfl, hR1.ngt hkn, hq1, (by intro z; cases z), hj6, h6, fun j hj => ⟨(hpos j hj).2, by have := (hJ j hj).1; show jM S k j < 4; omega⟩, ?_⟩
      rw [(tk_in hJ _ (Nat.le_refl _)).2]
      show X g _ _ _ _ _ (.int (tkI S k) :: _)
      refine x_gen (fun w2 e2 => ?_)
      have hR2 := hR1.tmp hq1 (by show 60 ≤ 61; decide) e2
      have hF2 := hF1.up hq1 (by show 50 ≤ 61 ∧ 61 < 80; decide) e2
      refine x_aload_n hG (pc := 47) 2 dX7_wouldOverrun_47 rfl rfl ?_
      refine x_iconst hG (pc := 48) 5 dX7_wouldOverrun_48 (by decide) ?_
      refine x_ialdN hG (pc := 49) (c := 5) (hR2.ngt hkn) (by decide) dX7_wouldOverrun_49 ?_
      refine x_isub hG (pc := 50) dX7_wouldOverrun_50 ?_
      refine x_mmax hG (pc := 51) lk_X7_150 dX7_wouldOverrun_51 (by decide) (Nat.le_of_ble_eq_true rfl) (by rw [hG.mc]; exact Nat.le_of_ble_eq_true rfl) (by rw [hG.ms]; exact Nat.le_of_ble_eq_true rfl) ?_
      refine x_goto hG (pc := 54) 62 dX7_wouldOverrun_54 (by decide) ?_
      refine x_ireturn hG (pc := 62) dX7_wouldOverrun_62 rfl rfl (by rw [hG.mc]; exact Nat.le_of_ble_eq_true rfl) (by rw [hG.ms]; exact Nat.le_of_ble_eq_true rfl) ?_
      exact hk.ok (k := 0) (by simp only [oOvr, hx, hco, ↓reduceIte]) hR2 hF2
  · have hx := sIx_0 h10
    refine x_aload_n hG (pc := 13) 0 dX7_wouldOverrun_13 rfl rfl ?_
    refine x_iconst hG (pc := 14) 1 dX7_wouldOverrun_14 (by decide) ?_
    refine x_callV hG hO (pc := 15) [_] c_X7_refuse lk_X7_76 hR0.main rfl rfl ⟨by decide, by decide⟩ (Nat.le_of_ble_eq_true rfl) (by rw [hG.mc]; exact Nat.le_of_ble_eq_true rfl) (by rw [hG.ms]; exact Nat.le_of_ble_eq_true rfl) dX7_wouldOverrun_15 ?_
    refine ⟨_, _, 1, rfl, hR0, fun wr hRr hFr => ?_⟩
    refine x_ireturn hG (pc := 18) dX7_wouldOverrun_18 rfl rfl (by rw [hG.mc]; exact Nat.le_of_ble_eq_true rfl) (by rw [hG.ms]; exact Nat.le_of_ble_eq_true rfl) ?_
    exact hk.ok (k := 1) (v := 0) (S1 := S) (by simp only [oOvr, hx, ↓reduceIte]) hRr (hF0.tr hFr)
