/-! The reference: machine, book, work, walk -/
theorem le_9 {x : Int32} : (9 : Int32) < x ↔ 10 ≤ x := by
  rw [Int32.lt_iff_toInt_lt, Int32.le_iff_toInt_le]
  simp
  omega
theorem lt_10 {x : Int32} : (9 : Int32) < x ↔ ¬ x < 10 := le_9.trans Int32.not_lt.symm
theorem lt_2 {x : Int32} : (1 : Int32) < x ↔ ¬ x < 2 := by
  rw [Int32.lt_iff_toInt_lt, Int32.lt_iff_toInt_lt]
  simp
  omega
theorem part_c {t f o : Int32} : c_str t f o = if (if s_is t 0 1 = 0 then (0 : Int32) else if s_is f 0 9 = 0 then 0 else if s_is o 0 9 = 0 then 0 else 1) = 0 then 1 else if f ≤ o then 0 else 2 := by
  unfold c_str s_is
  by_cases a1 : t < 0
  · simp [a1]
  · by_cases a2 : t < 2
    · have b2 : ¬ (1 : Int32) < t := fun z => lt_2.mp z a2
      by_cases a3 : f < 0
      · simp [a1, a2, a3, b2]
      · by_cases a4 : 10 ≤ f
        · have b4 := le_9.mpr a4
          simp [a1, a2, a3, a4, b2, b4]
        · have b4 : ¬ (9 : Int32) < f := fun z => a4 (le_9.mp z)
          by_cases a5 : o < 0
          · simp [a1, a2, a3, a4, a5, b2, b4]
          · by_cases a6 : o < 10
            · have b6 : ¬ (9 : Int32) < o := fun z => lt_10.mp z a6
              simp [a1, a2, a3, a4, a5, a6, b2, b4, b6]
            · have b6 := lt_10.mpr a6
              simp [a1, a2, a3, a4, a5, a6, b2, b4, b6]
    · have b2 := lt_2.mpr a2
      simp [a1, a2, b2]
theorem ix5 (n : Nat) : nI (10 + 3 * n) + 1 = nI (11 + 3 * n) := by
  show nI (10 + 3 * n) + nI 1 = _
  rw [nI_add]
  congr 1
  omega
theorem ix6 (n : Nat) : nI (10 + 3 * n) + 2 = nI (12 + 3 * n) := by
  show nI (10 + 3 * n) + nI 2 = _
  rw [nI_add]
  congr 1
  omega
theorem row4 {kd lf : Int32} : rset (rset (rset (rset (fun _ => 0) 0 kd) 1 lf) 2 0) 3 0 = rowM kd lf := by
  funext j
  rcases j with _ | _ | _ | _ | j <;> simp [rset, rowM]
theorem row5 {t f o d h : Int32} : rset (rset (rset (rset (rset (fun _ => 0) 1 t) 2 f) 3 o) 4 d) 5 h = rowN t f o d h := by
  funext j
  rcases j with _ | _ | _ | _ | _ | _ | j <;> simp [rset, rowN]
theorem lt_of_ne {n m : Nat} (h : n ≤ m) (hm : m < 2 ^ 31) (q : ¬ nI n = nI m) : nI n < nI m := by
  rcases Nat.lt_or_ge n m with z | z
  · exact nI_lt z hm
  · exact absurd (by rw [show n = m by omega]) q
theorem nlt_of_eq {n m : Nat} (q : nI n = nI m) : ¬ nI n < nI m := by
  rw [q]
  exact Int32.lt_irrefl
theorem RepM.ngt_inj {Γ : Gw} {L : LayM} {S : St} {w : Wd} (h : RepM Γ L S w) {i j : Nat} (hi : i < nN S) (hj : j < nN S) (q : L.1 (57, i, 0) = L.1 (57, j, 0)) : i = j := by
  have h1 := h.ngt hi
  have h2 := h.ngt hj
  rw [q, h2] at h1
  exact (congrArg (fun z : Tg × va_E => z.1.2.1) (Option.some.inj h1)).symm
theorem cot_le {x : Int32} (h : 0 ≤ x.toInt) : x ≤ 1 ↔ ¬ s_cot x = 0 := by
  have e : x ≤ 1 ↔ x = 0 ∨ x = 1 := by
    rw [Int32.le_iff_toInt_le]
    constructor
    · intro z
      simp at z
      rcases (show x.toInt = 0 ∨ x.toInt = 1 by omega) with y | y
      · exact Or.inl (Int32.toInt_inj.mp y)
      · exact Or.inr (Int32.toInt_inj.mp y)
    · rintro (rfl | rfl) <;> decide
  rw [e]
  unfold s_cot
  constructor
  · rintro (rfl | rfl) <;> decide
  · intro z
    by_cases a : x = 0
    · exact Or.inl a
    · rw [if_neg a] at z
      by_cases b : x = 1
      · exact Or.inr b
      · rw [if_neg b] at z
        exact absurd rfl z
theorem Inv.f6 {S : St} (h : Inv S) {k : Nat} (hk : k < nN S) : gS S k 6 = nI (nJ (gS S k)) ∧ nJ (gS S k) ≤ 6 := by
  obtain ⟨-, -, -, ⟨a, b⟩, -⟩ := h.2.2.2.1 k hk
  have h0 : nJ (gS S k) = (gS S k 6).toInt.toNat := rfl
  exact ⟨(i_nn a).symm, by omega⟩
theorem oth_e : ∀ k : Fin 20, (nI k.1 + 10) - (nI k.1 + 10) / 20 * 20 = nI (oth k.1) := by decide
theorem oth_lt {k : Nat} (h : k < 20) : oth k < 20 := by
  unfold oth
  split <;> omega
set_option maxHeartbeats 400000 in
set_option maxRecDepth 100000 in
theorem c_X7_machine : CtrA yX7_machine cX7_machine 4 (some .int) (rmk 8 2 40 324) (fun Γ av w post xpost => ∃ (L : LayM) (S : St), ∃ kd lf, av = [.ref (thM L), .int kd, .int lf] ∧ RepM Γ L S w ∧ Inv2 S ∧ MOut Γ L w post (oMac S kd lf)) := by
  refine ctr_of (by decide) ?_
  rintro g av w hG hO ⟨L, S, kd, lf, rfl, hR, hI2, hk⟩
  refine ⟨Nat.le_of_ble_eq_true rfl, ?_⟩
  show X g w 0 0 0 [some (.ref (thM L)), some (.int kd), some (.int lf), none] []
  have hI := hI2.1
  have hnM := hI.2.1.1
  have hnN := hI.2.1.2.1
  have hnE := hI.2.1.2.2
  refine x_aload_n hG (pc := 0) 0 dX7_machine_0 rfl rfl ?_
  refine x_iconst hG (pc := 1) 0 dX7_machine_1 (by decide) ?_
  refine x_putf hG (pc := 2) fl_X7_31 fw_9 ft_9_0 hR.main (Nat.le_of_ble_eq_true rfl) rfl rfl (by dsimp only [List.set]) dX7_machine_2 ?_
  refine x_gen (fun w0 e0 => ?_)
  obtain ⟨hR0, hF0⟩ := hR.uT e0
  refine x_iload_n hG (pc := 5) 1 dX7_machine_5 rfl rfl ?_
  refine x_iconst hG (pc := 6) 0 dX7_machine_6 (by decide) ?_
  refine x_iconst hG (pc := 7) 2 dX7_machine_7 (by decide) ?_
  refine x_callS hG hO (pc := 8) [_, _, _] c_X7_is lk_X7_68 rfl rfl ⟨by decide, by decide⟩ (Nat.le_of_ble_eq_true rfl) (by rw [hG.mc]; exact Nat.le_of_ble_eq_true rfl) (by rw [hG.ms]; exact Nat.le_of_ble_eq_true rfl) dX7_machine_8 ?_
  refine ⟨_, _, _, rfl, ?_⟩
  refine x_if_eq hG (pc := 11) 24 dX7_machine_11 (by decide) (fun h11 => ?_) (fun h11 => ?_)
  · refine x_aload_n hG (pc := 24) 0 dX7_machine_24 rfl rfl ?_
    refine x_iconst hG (pc := 25) 1 dX7_machine_25 (by decide) ?_
    refine x_callV hG hO (pc := 26) [_] c_X7_refuse lk_X7_76 hR0.main rfl rfl ⟨by decide, by decide⟩ (Nat.le_of_ble_eq_true rfl) (by rw [hG.mc]; exact Nat.le_of_ble_eq_true rfl) (by rw [hG.ms]; exact Nat.le_of_ble_eq_true rfl) dX7_machine_26 ?_
    refine ⟨_, _, 1, rfl, hR0, fun wr hRr hFr => ?_⟩
    refine x_ireturn hG (pc := 29) dX7_machine_29 rfl rfl (by rw [hG.mc]; exact Nat.le_of_ble_eq_true rfl) (by rw [hG.ms]; exact Nat.le_of_ble_eq_true rfl) ?_
    exact hk.ok (k := 1) (v := 0) (S1 := S) (by
      rcases is_f h11 with q | ⟨q, q2⟩
      · simp only [oMac, q, ↓reduceIte]
      · simp only [oMac, q, q2, ↓reduceIte]) hRr (hF0.tr hFr)
  · obtain ⟨i11a, i11b⟩ := is_t h11
    refine x_iload_n hG (pc := 14) 2 dX7_machine_14 rfl rfl ?_
    refine x_iconst hG (pc := 15) 0 dX7_machine_15 (by decide) ?_
    refine x_bipush hG (pc := 16) 99 dX7_machine_16 (by decide) ?_
    refine x_callS hG hO (pc := 18) [_, _, _] c_X7_is lk_X7_68 rfl rfl ⟨by decide, by decide⟩ (Nat.le_of_ble_eq_true rfl) (by rw [hG.mc]; exact Nat.le_of_ble_eq_true rfl) (by rw [hG.ms]; exact Nat.le_of_ble_eq_true rfl) dX7_machine_18 ?_
    refine ⟨_, _, _, rfl, ?_⟩
    refine x_if_ne hG (pc := 21) 30 dX7_machine_21 (by decide) (fun h21 => ?_) (fun h21 => ?_)
    · obtain ⟨i21a, i21b⟩ := is_t h21
      refine x_aload_n hG (pc := 30) 0 dX7_machine_30 rfl rfl ?_
      refine x_getf hG (pc := 31) fl_X7_17 hR0.main rfl dX7_machine_31 ?_
      refine x_callV hG hO (pc := 34) [] c_Jx4a65c_size_8abf5 lk_X7_64 (hR0.lst (id := 1) (by decide)).1 rfl rfl ⟨by decide, by decide⟩ (Nat.le_of_ble_eq_true rfl) (by rw [hG.mc]; exact Nat.le_of_ble_eq_true rfl) (by rw [hG.ms]; exact Nat.le_of_ble_eq_true rfl) dX7_machine_34 ?_
      refine ⟨_, _, _, _, _, rfl, (hR0.lst (id := 1) (by decide)).1, ?_⟩
      show X g _ _ _ _ _ (.int (nI (nM S)) :: _)
      refine x_iconst hG (pc := 37) 4 dX7_machine_37 (by decide) ?_
      refine x_icmp_ne hG (pc := 38) 47 dX7_machine_38 (by decide) (fun h38 => ?_) (fun h38 => ?_)
      · have hlt : nI (nM S) < 4 := lt_of_ne (m := 4) hnM (by decide) h38
        refine x_iconst hG (pc := 47) 4 dX7_machine_47 (by decide) ?_
        refine x_newI hG (pc := 48) (56, nM S, 0) (by decide) (n := 4) (by decide) (by decide) dX7_machine_48 (by rw [hG.mc]; exact Nat.le_of_ble_eq_true rfl) (by rw [hG.ms]; exact Nat.le_of_ble_eq_true rfl) (fun q hfq hnq => ?_)
        refine x_gen (fun v1 z1 => ?_)
        have y1 := (congrFun z1 q).trans wup_s
        refine x_dup hG (pc := 50) dX7_machine_50 rfl ?_
        refine x_iconst hG (pc := 51) 0 dX7_machine_51 (by decide) ?_
        refine x_iload_n hG (pc := 52) 1 dX7_machine_52 rfl rfl ?_
        refine x_iastN hG (pc := 53) (c := 0) y1 (by decide) dX7_machine_53 ?_
        refine x_gen (fun v2 e102 => ?_)
        have z2 : v2 = wup w0 q ((56, nM S, 0), aI (gK g) 4 (rset (fun _ => 0) (0) (kd))) := by rw [e102, z1, wup_w]
        have y2 := (congrFun z2 q).trans wup_s
        refine x_dup hG (pc := 54) dX7_machine_54 rfl ?_
        refine x_iconst hG (pc := 55) 1 dX7_machine_55 (by decide) ?_
        refine x_iload_n hG (pc := 56) 2 dX7_machine_56 rfl rfl ?_
        refine x_iastN hG (pc := 57) (c := 1) y2 (by decide) dX7_machine_57 ?_
        refine x_gen (fun v3 e103 => ?_)
        have z3 : v3 = wup w0 q ((56, nM S, 0), aI (gK g) 4 (rset (rset (fun _ => 0) (0) (kd)) (1) (lf))) := by rw [e103, z2, wup_w]
        have y3 := (congrFun z3 q).trans wup_s
        refine x_dup hG (pc := 58) dX7_machine_58 rfl ?_
        refine x_iconst hG (pc := 59) 2 dX7_machine_59 (by decide) ?_
        refine x_iconst hG (pc := 60) 0 dX7_machine_60 (by decide) ?_
        refine x_iastN hG (pc := 61) (c := 2) y3 (by decide) dX7_machine_61 ?_
        refine x_gen (fun v4 e104 => ?_)
        have z4 : v4 = wup w0 q ((56, nM S, 0), aI (gK g) 4 (rset (rset (rset (fun _ => 0) (0) (kd)) (1) (lf)) (2) (0))) := by rw [e104, z3, wup_w]
        have y4 := (congrFun z4 q).trans wup_s
        refine x_dup hG (pc := 62) dX7_machine_62 rfl ?_
        refine x_iconst hG (pc := 63) 3 dX7_machine_63 (by decide) ?_
        refine x_iconst hG (pc := 64) 0 dX7_machine_64 (by decide) ?_
        refine x_iastN hG (pc := 65) (c := 3) y4 (by decide) dX7_machine_65 ?_
        refine x_gen (fun v5 e105 => ?_)
        have z5 : v5 = wup w0 q ((56, nM S, 0), aI (gK g) 4 (rset (rset (rset (rset (fun _ => 0) (0) (kd)) (1) (lf)) (2) (0)) (3) (0))) := by rw [e105, z4, wup_w]
        have y5 := (congrFun z5 q).trans wup_s
        rw [row4] at z5 y5
        have hRq := hR0.nw hfq z5
        have hFq := hF0.nw hfq z5
        refine x_astore_n hG (pc := 66) 3 dX7_machine_66 rfl (Nat.le_of_ble_eq_true rfl) rfl (by dsimp only [List.set]) ?_
        refine x_aload_n hG (pc := 67) 0 dX7_machine_67 rfl rfl ?_
        refine x_getf hG (pc := 68) fl_X7_17 hRq.main rfl dX7_machine_68 ?_
        refine x_aload_n hG (pc := 71) 3 dX7_machine_71 rfl rfl ?_
        refine x_callV hG hO (pc := 72) [_] c_Jx4a65c_add_9ea2d lk_X7_121 (hRq.lst (id := 1) (by decide)).1 rfl rfl ⟨by decide, by decide⟩ (Nat.le_of_ble_eq_true rfl) (by rw [hG.mc]; exact Nat.le_of_ble_eq_true rfl) (by rw [hG.ms]; exact Nat.le_of_ble_eq_true rfl) dX7_machine_72 ?_
        refine ⟨_, (53, 1, 0), (54, 1, 0), _, _, _, nM S, (fun j => L.1 (55 + 1, j, 0)), q, _, _, rfl, (hRq.lst (id := 1) (by decide)), by omega, y5, oke_I, (by intro z; cases z), (by intro z; cases z), (by intro z; cases z), fun i hi => ⟨_, _, hRq.mac hi, oke_I, (by intro z; cases z)⟩, fun w5 e5 cap5 hAL hF5 => ?_⟩
        obtain ⟨L1, hth, htr, hsm, hR5⟩ := hRq.aM (f := rowM kd lf) hAL (hF5 _ _ y5 (by intro z; cases z) (by intro z; cases z)) (fun b x hb z1 z2 => hF5 b x hb z1 z2)
        have hF6 : FrC w w5 := hFq.tr (fun b x hb hx => hF5 b x hb (fun z => by rw [z] at hx; exact hx (by show 50 ≤ 53 ∧ 53 < 80; decide)) (fun z => by rw [z] at hx; exact hx (by show 50 ≤ 54 ∧ 54 < 80; decide)))
        have hm5 := hR5.main
        rw [show L1.1 (50, 0, 0) = L.1 (50, 0, 0) from hth] at hm5
        refine x_pop hG (pc := 75) dX7_machine_75 rfl ?_
        refine x_aload_n hG (pc := 76) 0 dX7_machine_76 rfl rfl ?_
        refine x_getf hG (pc := 77) fl_X7_17 hm5 rfl dX7_machine_77 ?_
        refine x_callV hG hO (pc := 80) [] c_Jx4a65c_size_8abf5 lk_X7_64 (hR5.lst (id := 1) (by decide)).1 rfl rfl ⟨by decide, by decide⟩ (Nat.le_of_ble_eq_true rfl) (by rw [hG.mc]; exact Nat.le_of_ble_eq_true rfl) (by rw [hG.ms]; exact Nat.le_of_ble_eq_true rfl) dX7_machine_80 ?_
        refine ⟨_, _, _, _, _, rfl, (hR5.lst (id := 1) (by decide)).1, ?_⟩
        show X g w5 _ _ _ _ [.int (nI (nM S + 1))]
        refine x_iconst hG (pc := 83) 1 dX7_machine_83 (by decide) ?_
        refine x_isub hG (pc := 84) dX7_machine_84 ?_
        rw [nI_pred]
        refine x_ireturn hG (pc := 85) dX7_machine_85 rfl rfl (by rw [hG.mc]; exact Nat.le_of_ble_eq_true rfl) (by rw [hG.ms]; exact Nat.le_of_ble_eq_true rfl) ?_
        exact hk.ok (k := 0) (v := nI (nM S)) (by simp only [oMac, i11a, i11b, i21a, i21b, hlt, ↓reduceIte]) hR5 hF6 hth htr
      · have hlt : ¬ nI (nM S) < 4 := nlt_of_eq (m := 4) h38
        refine x_aload_n hG (pc := 41) 0 dX7_machine_41 rfl rfl ?_
        refine x_iconst hG (pc := 42) 2 dX7_machine_42 (by decide) ?_
        refine x_callV hG hO (pc := 43) [_] c_X7_refuse lk_X7_76 hR0.main rfl rfl ⟨by decide, by decide⟩ (Nat.le_of_ble_eq_true rfl) (by rw [hG.mc]; exact Nat.le_of_ble_eq_true rfl) (by rw [hG.ms]; exact Nat.le_of_ble_eq_true rfl) dX7_machine_43 ?_
        refine ⟨_, _, 2, rfl, hR0, fun wr hRr hFr => ?_⟩
        refine x_ireturn hG (pc := 46) dX7_machine_46 rfl rfl (by rw [hG.mc]; exact Nat.le_of_ble_eq_true rfl) (by rw [hG.ms]; exact Nat.le_of_ble_eq_true rfl) ?_
        exact hk.ok (k := 2) (v := 0) (S1 := S) (by simp only [oMac, i11a, i11b, i21a, i21b, hlt, ↓reduceIte]) hRr (hF0.tr hFr)
    · refine x_aload_n hG (pc := 24) 0 dX7_machine_24 rfl rfl ?_
      refine x_iconst hG (pc := 25) 1 dX7_machine_25 (by decide) ?_
      refine x_callV hG hO (pc := 26) [_] c_X7_refuse lk_X7_76 hR0.main rfl rfl ⟨by decide, by decide⟩ (Nat.le_of_ble_eq_true rfl) (by rw [hG.mc]; exact Nat.le_of_ble_eq_true rfl) (by rw [hG.ms]; exact Nat.le_of_ble_eq_true rfl) dX7_machine_26 ?_
      refine ⟨_, _, 1, rfl, hR0, fun wr hRr hFr => ?_⟩
      refine x_ireturn hG (pc := 29) dX7_machine_29 rfl rfl (by rw [hG.mc]; exact Nat.le_of_ble_eq_true rfl) (by rw [hG.ms]; exact Nat.le_of_ble_eq_true rfl) ?_
      exact hk.ok (k := 1) (v := 0) (S1 := S) (by
        rcases is_f h21 with q | ⟨q, q2⟩
        · simp only [oMac, i11a, i11b, q, ↓reduceIte]
        · simp only [oMac, i11a, i11b, q, q2, ↓reduceIte]) hRr (hF0.tr hFr)
set_option maxHeartbeats 400000 in
set_option maxRecDepth 100000 in
theorem c_X7_book : CtrA yX7_book cX7_book 7 (some .int) (rmk 8 4 70 324) (fun Γ av w post xpost => ∃ (L : LayM) (S : St), ∃ t f o d h, av = [.ref (thM L), .int t, .int f, .int o, .int d, .int h] ∧ RepM Γ L S w ∧ Inv2 S ∧ MOut Γ L w post (oBoo S t f o d h)) := by
  refine ctr_of (by decide) ?_
  rintro g av w hG hO ⟨L, S, t, f, o, d, h, rfl, hR, hI2, hk⟩
  refine ⟨Nat.le_of_ble_eq_true rfl, ?_⟩
  show X g w 0 0 0 [some (.ref (thM L)), some (.int t), some (.int f), some (.int o), some (.int d), some (.int h), none] []
  have hI := hI2.1
  have hnM := hI.2.1.1
  have hnN := hI.2.1.2.1
  have hnE := hI.2.1.2.2
  refine x_aload_n hG (pc := 0) 0 dX7_book_0 rfl rfl ?_
  refine x_iconst hG (pc := 1) 0 dX7_book_1 (by decide) ?_
  refine x_putf hG (pc := 2) fl_X7_31 fw_9 ft_9_0 hR.main (Nat.le_of_ble_eq_true rfl) rfl rfl (by dsimp only [List.set]) dX7_book_2 ?_
  refine x_gen (fun w0 e0 => ?_)
  obtain ⟨hR0, hF0⟩ := hR.uT e0
  refine x_iload_n hG (pc := 5) 1 dX7_book_5 rfl rfl ?_
  refine x_iload_n hG (pc := 6) 2 dX7_book_6 rfl rfl ?_
  refine x_iload_n hG (pc := 7) 3 dX7_book_7 rfl rfl ?_
  refine x_callS hG hO (pc := 8) [_, _, _] c_X7_isPart lk_X7_118 rfl rfl ⟨by decide, by decide⟩ (Nat.le_of_ble_eq_true rfl) (by rw [hG.mc]; exact Nat.le_of_ble_eq_true rfl) (by rw [hG.ms]; exact Nat.le_of_ble_eq_true rfl) dX7_book_8 ?_
  refine ⟨_, _, _, rfl, ?_⟩
  refine x_if_ne hG (pc := 11) 20 dX7_book_11 (by decide) (fun h11 => ?_) (fun h11 => ?_)
  · have hp : c_str t f o = if f ≤ o then 0 else 2 := part_c.trans (if_neg h11)
    refine x_iload_n hG (pc := 20) 3 dX7_book_20 rfl rfl ?_
    refine x_iload_n hG (pc := 21) 2 dX7_book_21 rfl rfl ?_
    refine x_icmp_lt hG (pc := 22) 55 dX7_book_22 (by decide) (fun h22 => ?_) (fun h22 => ?_)
    · have hp2 : c_str t f o = 2 := hp.trans (if_neg (Int32.not_le.mpr h22))
      refine x_aload_n hG (pc := 55) 0 dX7_book_55 rfl rfl ?_
      refine x_iconst hG (pc := 56) 2 dX7_book_56 (by decide) ?_
      refine x_callV hG hO (pc := 57) [_] c_X7_refuse lk_X7_76 hR0.main rfl rfl ⟨by decide, by decide⟩ (Nat.le_of_ble_eq_true rfl) (by rw [hG.mc]; exact Nat.le_of_ble_eq_true rfl) (by rw [hG.ms]; exact Nat.le_of_ble_eq_true rfl) dX7_book_57 ?_
      refine ⟨_, _, 2, rfl, hR0, fun wr hRr hFr => ?_⟩
      refine x_ireturn hG (pc := 60) dX7_book_60 rfl rfl (by rw [hG.mc]; exact Nat.le_of_ble_eq_true rfl) (by rw [hG.ms]; exact Nat.le_of_ble_eq_true rfl) ?_
      exact hk.ok (k := 2) (v := 0) (S1 := S) (by simp only [oBoo, hp2, ↓reduceIte]) hRr (hF0.tr hFr)
    · have hp2 : c_str t f o = 0 := hp.trans (if_pos (Int32.not_lt.mp h22))
      refine x_iload hG (pc := 25) dX7_book_25 rfl ?_
      refine x_aload_n hG (pc := 27) 0 dX7_book_27 rfl rfl ?_
      refine x_getf hG (pc := 28) fl_X7_93 hR0.main rfl dX7_book_28 ?_
      refine x_iconst hG (pc := 31) 5 dX7_book_31 (by decide) ?_
      refine x_iadd hG (pc := 32) dX7_book_32 ?_
      refine x_icmp_lt hG (pc := 33) 55 dX7_book_33 (by decide) (fun h33 => ?_) (fun h33 => ?_)
      · replace h33 : d < gl S 0 + 5 := h33
        refine x_aload_n hG (pc := 55) 0 dX7_book_55 rfl rfl ?_
        refine x_iconst hG (pc := 56) 2 dX7_book_56 (by decide) ?_
        refine x_callV hG hO (pc := 57) [_] c_X7_refuse lk_X7_76 hR0.main rfl rfl ⟨by decide, by decide⟩ (Nat.le_of_ble_eq_true rfl) (by rw [hG.mc]; exact Nat.le_of_ble_eq_true rfl) (by rw [hG.ms]; exact Nat.le_of_ble_eq_true rfl) dX7_book_57 ?_
        refine ⟨_, _, 2, rfl, hR0, fun wr hRr hFr => ?_⟩
        refine x_ireturn hG (pc := 60) dX7_book_60 rfl rfl (by rw [hG.mc]; exact Nat.le_of_ble_eq_true rfl) (by rw [hG.ms]; exact Nat.le_of_ble_eq_true rfl) ?_
        exact hk.ok (k := 2) (v := 0) (S1 := S) (by simp only [oBoo, hp2, h33, ↓reduceIte]) hRr (hF0.tr hFr)
      · replace h33 : ¬ (d < gl S 0 + 5) := h33
        refine x_iload hG (pc := 36) dX7_book_36 rfl ?_
        refine x_sipush hG (pc := 38) 2000 dX7_book_38 (by decide) ?_
        refine x_icmp_gt hG (pc := 41) 55 dX7_book_41 (by decide) (fun h41 => ?_) (fun h41 => ?_)
        · refine x_aload_n hG (pc := 55) 0 dX7_book_55 rfl rfl ?_
          refine x_iconst hG (pc := 56) 2 dX7_book_56 (by decide) ?_
          refine x_callV hG hO (pc := 57) [_] c_X7_refuse lk_X7_76 hR0.main rfl rfl ⟨by decide, by decide⟩ (Nat.le_of_ble_eq_true rfl) (by rw [hG.mc]; exact Nat.le_of_ble_eq_true rfl) (by rw [hG.ms]; exact Nat.le_of_ble_eq_true rfl) dX7_book_57 ?_
          refine ⟨_, _, 2, rfl, hR0, fun wr hRr hFr => ?_⟩
          refine x_ireturn hG (pc := 60) dX7_book_60 rfl rfl (by rw [hG.mc]; exact Nat.le_of_ble_eq_true rfl) (by rw [hG.ms]; exact Nat.le_of_ble_eq_true rfl) ?_
          exact hk.ok (k := 2) (v := 0) (S1 := S) (by simp only [oBoo, hp2, h33, Int32.not_le.mpr h41, ↓reduceIte]) hRr (hF0.tr hFr)
        · refine x_iload hG (pc := 44) dX7_book_44 rfl ?_
          refine x_iconst hG (pc := 46) 2 dX7_book_46 (by decide) ?_
          refine x_bipush hG (pc := 47) 8 dX7_book_47 (by decide) ?_
          refine x_callS hG hO (pc := 49) [_, _, _] c_X7_is lk_X7_68 rfl rfl ⟨by decide, by decide⟩ (Nat.le_of_ble_eq_true rfl) (by rw [hG.mc]; exact Nat.le_of_ble_eq_true rfl) (by rw [hG.ms]; exact Nat.le_of_ble_eq_true rfl) dX7_book_49 ?_
          refine ⟨_, _, _, rfl, ?_⟩
          refine x_if_ne hG (pc := 52) 61 dX7_book_52 (by decide) (fun h52 => ?_) (fun h52 => ?_)
          · obtain ⟨i52a, i52b⟩ := is_t h52
            refine x_aload_n hG (pc := 61) 0 dX7_book_61 rfl rfl ?_
            refine x_getf hG (pc := 62) fl_X7_21 hR0.main rfl dX7_book_62 ?_
            refine x_callV hG hO (pc := 65) [] c_Jx4a65c_size_8abf5 lk_X7_64 (hR0.lst (id := 2) (by decide)).1 rfl rfl ⟨by decide, by decide⟩ (Nat.le_of_ble_eq_true rfl) (by rw [hG.mc]; exact Nat.le_of_ble_eq_true rfl) (by rw [hG.ms]; exact Nat.le_of_ble_eq_true rfl) dX7_book_65 ?_
            refine ⟨_, _, _, _, _, rfl, (hR0.lst (id := 2) (by decide)).1, ?_⟩
            show X g _ _ _ _ _ (.int (nI (nN S)) :: _)
            refine x_bipush hG (pc := 68) 16 dX7_book_68 (by decide) ?_
            refine x_icmp_eq hG (pc := 70) 85 dX7_book_70 (by decide) (fun h70 => ?_) (fun h70 => ?_)
            · have hlt : ¬ nI (nN S) < 16 := nlt_of_eq (m := 16) h70
              refine x_aload_n hG (pc := 85) 0 dX7_book_85 rfl rfl ?_
              refine x_iconst hG (pc := 86) 3 dX7_book_86 (by decide) ?_
              refine x_callV hG hO (pc := 87) [_] c_X7_refuse lk_X7_76 hR0.main rfl rfl ⟨by decide, by decide⟩ (Nat.le_of_ble_eq_true rfl) (by rw [hG.mc]; exact Nat.le_of_ble_eq_true rfl) (by rw [hG.ms]; exact Nat.le_of_ble_eq_true rfl) dX7_book_87 ?_
              refine ⟨_, _, 3, rfl, hR0, fun wr hRr hFr => ?_⟩
              refine x_ireturn hG (pc := 90) dX7_book_90 rfl rfl (by rw [hG.mc]; exact Nat.le_of_ble_eq_true rfl) (by rw [hG.ms]; exact Nat.le_of_ble_eq_true rfl) ?_
              exact hk.ok (k := 3) (v := 0) (S1 := S) (by simp only [oBoo, hp2, h33, Int32.not_lt.mp h41, i52a, i52b, hlt, ↓reduceIte]) hRr (hF0.tr hFr)
            · have hlt : nI (nN S) < 16 := lt_of_ne (m := 16) hnN (by decide) h70
              have hno : ¬ nN S = 16 := fun z => h70 (by rw [z]; rfl)
              refine x_aload_n hG (pc := 73) 0 dX7_book_73 rfl rfl ?_
              refine x_iload_n hG (pc := 74) 1 dX7_book_74 rfl rfl ?_
              refine x_iload_n hG (pc := 75) 2 dX7_book_75 rfl rfl ?_
              refine x_iload_n hG (pc := 76) 3 dX7_book_76 rfl rfl ?_
              refine x_iload hG (pc := 77) dX7_book_77 rfl ?_
              refine x_callV hG hO (pc := 79) [_, _, _, _] c_X7_isFree lk_X7_132 hR0.main rfl rfl ⟨by decide, by decide⟩ (Nat.le_of_ble_eq_true rfl) (by rw [hG.mc]; exact Nat.le_of_ble_eq_true rfl) (by rw [hG.ms]; exact Nat.le_of_ble_eq_true rfl) dX7_book_79 ?_
              refine ⟨lthr L 0, S, t, f, o, d, rfl, hR0, by omega, fun w1 hR1 hF1a => ?_⟩
              have hF1 := hF0.tr hF1a
              refine x_if_ne hG (pc := 82) 91 dX7_book_82 (by decide) (fun h82 => ?_) (fun h82 => ?_)
              · refine x_bipush hG (pc := 91) 28 dX7_book_91 (by decide) ?_
                refine x_newI hG (pc := 93) (57, nN S, 0) (by decide) (n := 28) (by decide) (by decide) dX7_book_93 (by rw [hG.mc]; exact Nat.le_of_ble_eq_true rfl) (by rw [hG.ms]; exact Nat.le_of_ble_eq_true rfl) (fun q hfq hnq => ?_)
                refine x_gen (fun v1 z1 => ?_)
                have y1 := (congrFun z1 q).trans wup_s
                refine x_astore hG (pc := 95) dX7_book_95 (Nat.le_of_ble_eq_true rfl) rfl (by dsimp only [List.set]) ?_
                refine x_aload hG (pc := 97) dX7_book_97 rfl ?_
                refine x_iconst hG (pc := 99) 1 dX7_book_99 (by decide) ?_
                refine x_iload_n hG (pc := 100) 1 dX7_book_100 rfl rfl ?_
                refine x_iastN hG (pc := 101) (c := 1) y1 (by decide) dX7_book_101 ?_
                refine x_gen (fun v2 e102 => ?_)
                have z2 : v2 = wup w1 q ((57, nN S, 0), aI (gK g) 28 (rset (fun _ => 0) (1) (t))) := by rw [e102, z1, wup_w]
                have y2 := (congrFun z2 q).trans wup_s
                refine x_aload hG (pc := 102) dX7_book_102 rfl ?_
                refine x_iconst hG (pc := 104) 2 dX7_book_104 (by decide) ?_
                refine x_iload_n hG (pc := 105) 2 dX7_book_105 rfl rfl ?_
                refine x_iastN hG (pc := 106) (c := 2) y2 (by decide) dX7_book_106 ?_
                refine x_gen (fun v3 e103 => ?_)
                have z3 : v3 = wup w1 q ((57, nN S, 0), aI (gK g) 28 (rset (rset (fun _ => 0) (1) (t)) (2) (f))) := by rw [e103, z2, wup_w]
                have y3 := (congrFun z3 q).trans wup_s
                refine x_aload hG (pc := 107) dX7_book_107 rfl ?_
                refine x_iconst hG (pc := 109) 3 dX7_book_109 (by decide) ?_
                refine x_iload_n hG (pc := 110) 3 dX7_book_110 rfl rfl ?_
                refine x_iastN hG (pc := 111) (c := 3) y3 (by decide) dX7_book_111 ?_
                refine x_gen (fun v4 e104 => ?_)
                have z4 : v4 = wup w1 q ((57, nN S, 0), aI (gK g) 28 (rset (rset (rset (fun _ => 0) (1) (t)) (2) (f)) (3) (o))) := by rw [e104, z3, wup_w]
                have y4 := (congrFun z4 q).trans wup_s
                refine x_aload hG (pc := 112) dX7_book_112 rfl ?_
                refine x_iconst hG (pc := 114) 4 dX7_book_114 (by decide) ?_
                refine x_iload hG (pc := 115) dX7_book_115 rfl ?_
                refine x_iastN hG (pc := 117) (c := 4) y4 (by decide) dX7_book_117 ?_
                refine x_gen (fun v5 e105 => ?_)
                have z5 : v5 = wup w1 q ((57, nN S, 0), aI (gK g) 28 (rset (rset (rset (rset (fun _ => 0) (1) (t)) (2) (f)) (3) (o)) (4) (d))) := by rw [e105, z4, wup_w]
                have y5 := (congrFun z5 q).trans wup_s
                refine x_aload hG (pc := 118) dX7_book_118 rfl ?_
                refine x_iconst hG (pc := 120) 5 dX7_book_120 (by decide) ?_
                refine x_iload hG (pc := 121) dX7_book_121 rfl ?_
                refine x_iastN hG (pc := 123) (c := 5) y5 (by decide) dX7_book_123 ?_
                refine x_gen (fun v6 e106 => ?_)
                have z6 : v6 = wup w1 q ((57, nN S, 0), aI (gK g) 28 (rset (rset (rset (rset (rset (fun _ => 0) (1) (t)) (2) (f)) (3) (o)) (4) (d)) (5) (h))) := by rw [e106, z5, wup_w]
                have y6 := (congrFun z6 q).trans wup_s
                rw [row5] at z6 y6
                have hRq := hR1.nw hfq z6
                have hFq := hF1.nw hfq z6
                refine x_aload_n hG (pc := 124) 0 dX7_book_124 rfl rfl ?_
                refine x_getf hG (pc := 125) fl_X7_21 hRq.main rfl dX7_book_125 ?_
                refine x_aload hG (pc := 128) dX7_book_128 rfl ?_
                refine x_callV hG hO (pc := 130) [_] c_Jx4a65c_add_9ea2d lk_X7_121 (hRq.lst (id := 2) (by decide)).1 rfl rfl ⟨by decide, by decide⟩ (Nat.le_of_ble_eq_true rfl) (by rw [hG.mc]; exact Nat.le_of_ble_eq_true rfl) (by rw [hG.ms]; exact Nat.le_of_ble_eq_true rfl) dX7_book_130 ?_
                refine ⟨_, (53, 2, 0), (54, 2, 0), _, _, _, nN S, (fun j => L.1 (55 + 2, j, 0)), q, _, _, rfl, (hRq.lst (id := 2) (by decide)), by omega, y6, oke_I, (by intro z; cases z), (by intro z; cases z), (by intro z; cases z), fun i hi => ⟨_, _, hRq.ngt hi, oke_I, (by intro z; cases z)⟩, fun w5 e5 cap5 hAL hF5 => ?_⟩
                obtain ⟨L1, hth, htr, hsm, hR5⟩ := hRq.aN (f := rowN t f o d h) hAL (hF5 _ _ y6 (by intro z; cases z) (by intro z; cases z)) (fun b x hb z1 z2 => hF5 b x hb z1 z2)
                have hF6 : FrC w w5 := hFq.tr (fun b x hb hx => hF5 b x hb (fun z => by rw [z] at hx; exact hx (by show 50 ≤ 53 ∧ 53 < 80; decide)) (fun z => by rw [z] at hx; exact hx (by show 50 ≤ 54 ∧ 54 < 80; decide)))
                have hm5 := hR5.main
                rw [show L1.1 (50, 0, 0) = L.1 (50, 0, 0) from hth] at hm5
                refine x_pop hG (pc := 133) dX7_book_133 rfl ?_
                refine x_aload_n hG (pc := 134) 0 dX7_book_134 rfl rfl ?_
                refine x_getf hG (pc := 135) fl_X7_21 hm5 rfl dX7_book_135 ?_
                refine x_callV hG hO (pc := 138) [] c_Jx4a65c_size_8abf5 lk_X7_64 (hR5.lst (id := 2) (by decide)).1 rfl rfl ⟨by decide, by decide⟩ (Nat.le_of_ble_eq_true rfl) (by rw [hG.mc]; exact Nat.le_of_ble_eq_true rfl) (by rw [hG.ms]; exact Nat.le_of_ble_eq_true rfl) dX7_book_138 ?_
                refine ⟨_, _, _, _, _, rfl, (hR5.lst (id := 2) (by decide)).1, ?_⟩
                show X g w5 _ _ _ _ [.int (nI (nN S + 1))]
                refine x_iconst hG (pc := 141) 1 dX7_book_141 (by decide) ?_
                refine x_isub hG (pc := 142) dX7_book_142 ?_
                rw [nI_pred]
                refine x_ireturn hG (pc := 143) dX7_book_143 rfl rfl (by rw [hG.mc]; exact Nat.le_of_ble_eq_true rfl) (by rw [hG.ms]; exact Nat.le_of_ble_eq_true rfl) ?_
                exact hk.ok (k := 0) (v := nI (nN S)) (by simp only [oBoo, hp2, h33, Int32.not_lt.mp h41, i52a, i52b, hlt, h82, ↓reduceIte]) hR5 hF6 hth htr
              · refine x_aload_n hG (pc := 85) 0 dX7_book_85 rfl rfl ?_
                refine x_iconst hG (pc := 86) 3 dX7_book_86 (by decide) ?_
                refine x_callV hG hO (pc := 87) [_] c_X7_refuse lk_X7_76 hR1.main rfl rfl ⟨by decide, by decide⟩ (Nat.le_of_ble_eq_true rfl) (by rw [hG.mc]; exact Nat.le_of_ble_eq_true rfl) (by rw [hG.ms]; exact Nat.le_of_ble_eq_true rfl) dX7_book_87 ?_
                refine ⟨_, _, 3, rfl, hR1, fun wr hRr hFr => ?_⟩
                refine x_ireturn hG (pc := 90) dX7_book_90 rfl rfl (by rw [hG.mc]; exact Nat.le_of_ble_eq_true rfl) (by rw [hG.ms]; exact Nat.le_of_ble_eq_true rfl) ?_
                exact hk.ok (k := 3) (v := 0) (S1 := S) (by simp only [oBoo, hp2, h33, Int32.not_lt.mp h41, i52a, i52b, hlt, h82, ↓reduceIte]) hRr (hF1.tr hFr)
          · refine x_aload_n hG (pc := 55) 0 dX7_book_55 rfl rfl ?_
            refine x_iconst hG (pc := 56) 2 dX7_book_56 (by decide) ?_
            refine x_callV hG hO (pc := 57) [_] c_X7_refuse lk_X7_76 hR0.main rfl rfl ⟨by decide, by decide⟩ (Nat.le_of_ble_eq_true rfl) (by rw [hG.mc]; exact Nat.le_of_ble_eq_true rfl) (by rw [hG.ms]; exact Nat.le_of_ble_eq_true rfl) dX7_book_57 ?_
            refine ⟨_, _, 2, rfl, hR0, fun wr hRr hFr => ?_⟩
            refine x_ireturn hG (pc := 60) dX7_book_60 rfl rfl (by rw [hG.mc]; exact Nat.le_of_ble_eq_true rfl) (by rw [hG.ms]; exact Nat.le_of_ble_eq_true rfl) ?_
            exact hk.ok (k := 2) (v := 0) (S1 := S) (by
              rcases is_f h52 with q | ⟨q, q2⟩
              · simp only [oBoo, hp2, h33, Int32.not_lt.mp h41, q, ↓reduceIte]
              · simp only [oBoo, hp2, h33, Int32.not_lt.mp h41, q, q2, ↓reduceIte]) hRr (hF0.tr hFr)
  · have hp : c_str t f o = 1 := part_c.trans (if_pos h11)
    refine x_aload_n hG (pc := 14) 0 dX7_book_14 rfl rfl ?_
    refine x_iconst hG (pc := 15) 1 dX7_book_15 (by decide) ?_
    refine x_callV hG hO (pc := 16) [_] c_X7_refuse lk_X7_76 hR0.main rfl rfl ⟨by decide, by decide⟩ (Nat.le_of_ble_eq_true rfl) (by rw [hG.mc]; exact Nat.le_of_ble_eq_true rfl) (by rw [hG.ms]; exact Nat.le_of_ble_eq_true rfl) dX7_book_16 ?_
    refine ⟨_, _, 1, rfl, hR0, fun wr hRr hFr => ?_⟩
    refine x_ireturn hG (pc := 19) dX7_book_19 rfl rfl (by rw [hG.mc]; exact Nat.le_of_ble_eq_true rfl) (by rw [hG.ms]; exact Nat.le_of_ble_eq_true rfl) ?_
    exact hk.ok (k := 1) (v := 0) (S1 := S) (by simp only [oBoo, hp, ↓reduceIte]) hRr (hF0.tr hFr)
