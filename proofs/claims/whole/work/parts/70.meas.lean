/-! The reference: days, measure, what is asked -/
theorem ix7 (k : Nat) : (5 : Int32) + 4 * nI k = nI (5 + 4 * k) := by
  show nI 5 + nI 4 * nI k = _
  rw [nI_mul, nI_add]
theorem ix8 (c k : Nat) : (5 : Int32) + 4 * nI k + nI c = nI (5 + c + 4 * k) := by
  rw [ix7, nI_add]
  congr 1
  omega
theorem ixs {t0 k j : Nat} {d : Int32} (ht : t0 < 2) (h : nI k + d = nI j) : 10 * nI t0 + nI k + d = nI (t0 * 10 + j) := by
  rw [Int32.add_assoc, h, Int32.mul_comm, ti_ix ht]
theorem row45 {t f o d : Int32} : rset (rset (rset (rset (fun _ => 0) 0 t) 1 f) 2 o) 3 d = eBas t f o d := by
  funext j
  rcases j with _ | _ | _ | _ | j <;> simp [rset, eBas]
theorem is_9 {x : Int32} (h : ¬ s_is x 0 9 = 0) : ∃ j, j < 10 ∧ x = nI j ∧ ¬ x < 0 ∧ x < 10 := by
  obtain ⟨a, b⟩ := is_t h
  have c : x < 10 := Decidable.not_not.mp (fun z => absurd (lt_10.mpr z) (Int32.not_lt.mpr b))
  obtain ⟨j, h1, h2⟩ := ix_lt (n := 10) rfl (by decide) a c
  exact ⟨j, h1, h2, a, c⟩
theorem is_9f {x : Int32} (h : s_is x 0 9 = 0) : x < 0 ∨ (¬ x < 0 ∧ ¬ x < 10) := by
  rcases is_f h with q | ⟨q, q2⟩
  · exact Or.inl q
  · exact Or.inr ⟨q, lt_10.mp (Int32.not_le.mp q2)⟩
set_option maxHeartbeats 400000 in
set_option maxRecDepth 100000 in
theorem c_X7_pass_ (D : Nat) : CtrA yX7_pass_ cX7_pass_ 6 (some .int) (rmk 7 (17 * D + 2) (68 * D + 8) 177) (fun Γ av w post xpost => ∃ (L : LayM) (S : St), ∃ t h d, av = [.ref (thM L), .int t, .int h, .int d] ∧ RepM Γ L S w ∧ Inv2 S ∧ (∀ n : Nat, d = nI n → n ≤ 60 → ¬ t < 0 → t ≤ 40 → ¬ h < -20 → h ≤ 60 → ¬ d < 1 → gl S 0 + d ≤ 2000 → n ≤ D) ∧ MOut Γ L w post (oPas S t h d)) := by
  refine ctr_of (by decide) ?_
  rintro g av w hG hO ⟨L, S, t, h, d, rfl, hR, hI2, hDd, hk⟩
  refine ⟨Nat.le_of_ble_eq_true rfl, ?_⟩
  show X g w 0 0 0 [some (.ref (thM L)), some (.int t), some (.int h), some (.int d), none, none] []
  have hI := hI2.1
  have hnM := hI.2.1.1
  have hnN := hI.2.1.2.1
  have hnE := hI.2.1.2.2
  refine x_aload_n hG (pc := 0) 0 dX7_pass__0 rfl rfl ?_
  refine x_iconst hG (pc := 1) 0 dX7_pass__1 (by decide) ?_
  refine x_putf hG (pc := 2) fl_X7_31 fw_9 ft_9_0 hR.main (Nat.le_of_ble_eq_true rfl) rfl rfl (by dsimp only [List.set]) dX7_pass__2 ?_
  refine x_gen (fun w0 e0 => ?_)
  obtain ⟨hR0, hF0⟩ := hR.uT e0
  refine x_iload_n hG (pc := 5) 1 dX7_pass__5 rfl rfl ?_
  refine x_callS hG hO (pc := 6) [_] c_X7_isTrains lk_X7_112 rfl rfl ⟨Nat.le_of_ble_eq_true rfl, Nat.le_of_ble_eq_true rfl⟩ (Nat.le_of_ble_eq_true rfl) (by rw [hG.mc]; dsimp only [rmk]; omega) (by rw [hG.ms]; dsimp only [rmk]; omega) dX7_pass__6 ?_
  refine ⟨_, rfl, ?_⟩
  refine x_if_eq hG (pc := 9) 33 dX7_pass__9 (by decide) (fun h9 => ?_) (fun h9 => ?_)
  · refine x_aload_n hG (pc := 33) 0 dX7_pass__33 rfl rfl ?_
    refine x_iconst hG (pc := 34) 1 dX7_pass__34 (by decide) ?_
    refine x_callV hG hO (pc := 35) [_] c_X7_refuse lk_X7_76 hR0.main rfl rfl ⟨Nat.le_of_ble_eq_true rfl, Nat.le_of_ble_eq_true rfl⟩ (Nat.le_of_ble_eq_true rfl) (by rw [hG.mc]; dsimp only [rmk]; omega) (by rw [hG.ms]; dsimp only [rmk]; omega) dX7_pass__35 ?_
    refine ⟨_, _, 1, rfl, hR0, fun wr hRr hFr => ?_⟩
    refine x_ireturn hG (pc := 38) dX7_pass__38 rfl rfl (by rw [hG.mc]; dsimp only [rmk]; omega) (by rw [hG.ms]; dsimp only [rmk]; omega) ?_
    exact hk.ok (k := 1) (v := 0) (S1 := S) (by
      rcases is_f h9 with q | ⟨q, q2⟩
      · simp only [oPas, q, ↓reduceIte]
      · simp only [oPas, q, q2, ↓reduceIte]) hRr (hF0.tr hFr)
  · obtain ⟨ht0, ht1⟩ := is_t h9
    refine x_iload_n hG (pc := 12) 2 dX7_pass__12 rfl rfl ?_
    refine x_bipush hG (pc := 13) (-20) dX7_pass__13 (by decide) ?_
    refine x_bipush hG (pc := 15) 60 dX7_pass__15 (by decide) ?_
    refine x_callS hG hO (pc := 17) [_, _, _] c_X7_is lk_X7_68 rfl rfl ⟨Nat.le_of_ble_eq_true rfl, Nat.le_of_ble_eq_true rfl⟩ (Nat.le_of_ble_eq_true rfl) (by rw [hG.mc]; dsimp only [rmk]; omega) (by rw [hG.ms]; dsimp only [rmk]; omega) dX7_pass__17 ?_
    refine ⟨_, _, _, rfl, ?_⟩
    refine x_if_eq hG (pc := 20) 33 dX7_pass__20 (by decide) (fun h20 => ?_) (fun h20 => ?_)
    · refine x_aload_n hG (pc := 33) 0 dX7_pass__33 rfl rfl ?_
      refine x_iconst hG (pc := 34) 1 dX7_pass__34 (by decide) ?_
      refine x_callV hG hO (pc := 35) [_] c_X7_refuse lk_X7_76 hR0.main rfl rfl ⟨Nat.le_of_ble_eq_true rfl, Nat.le_of_ble_eq_true rfl⟩ (Nat.le_of_ble_eq_true rfl) (by rw [hG.mc]; dsimp only [rmk]; omega) (by rw [hG.ms]; dsimp only [rmk]; omega) dX7_pass__35 ?_
      refine ⟨_, _, 1, rfl, hR0, fun wr hRr hFr => ?_⟩
      refine x_ireturn hG (pc := 38) dX7_pass__38 rfl rfl (by rw [hG.mc]; dsimp only [rmk]; omega) (by rw [hG.ms]; dsimp only [rmk]; omega) ?_
      exact hk.ok (k := 1) (v := 0) (S1 := S) (by
        rcases is_f h20 with q | ⟨q, q2⟩
        · simp only [oPas, ht0, ht1, q, ↓reduceIte]
        · simp only [oPas, ht0, ht1, q, q2, ↓reduceIte]) hRr (hF0.tr hFr)
    · obtain ⟨hh0, hh1⟩ := is_t h20
      refine x_iload_n hG (pc := 23) 3 dX7_pass__23 rfl rfl ?_
      refine x_iconst hG (pc := 24) 1 dX7_pass__24 (by decide) ?_
      refine x_bipush hG (pc := 25) 60 dX7_pass__25 (by decide) ?_
      refine x_callS hG hO (pc := 27) [_, _, _] c_X7_is lk_X7_68 rfl rfl ⟨Nat.le_of_ble_eq_true rfl, Nat.le_of_ble_eq_true rfl⟩ (Nat.le_of_ble_eq_true rfl) (by rw [hG.mc]; dsimp only [rmk]; omega) (by rw [hG.ms]; dsimp only [rmk]; omega) dX7_pass__27 ?_
      refine ⟨_, _, _, rfl, ?_⟩
      refine x_if_ne hG (pc := 30) 39 dX7_pass__30 (by decide) (fun h30 => ?_) (fun h30 => ?_)
      · obtain ⟨hd0, hd1⟩ := is_t h30
        refine x_aload_n hG (pc := 39) 0 dX7_pass__39 rfl rfl ?_
        refine x_getf hG (pc := 40) fl_X7_93 hR0.main rfl dX7_pass__40 ?_
        refine x_iload_n hG (pc := 43) 3 dX7_pass__43 rfl rfl ?_
        refine x_iadd hG (pc := 44) dX7_pass__44 ?_
        refine x_sipush hG (pc := 45) 2000 dX7_pass__45 (by decide) ?_
        refine x_icmp_le hG (pc := 48) 57 dX7_pass__48 (by decide) (fun h48 => ?_) (fun h48 => ?_)
        · obtain ⟨dn, hdn, rfl⟩ := ix_le (n := 60) hd0 hd1 (by decide)
          replace h48 : gl S 0 + nI dn ≤ 2000 := h48
          have hDn : dn ≤ D := hDd dn rfl hdn ht0 ht1 hh0 hh1 hd0 h48
          have hg := hI.2.2.2.2.2.1
          have hsum : (gl S 0).toInt + (dn : Int) ≤ 2000 := by
            have a := le_ti h48
            have b : (2000 : Int32).toInt = 2000 := rfl
            rw [Int32.toInt_add, nI_toInt (by omega), Int.bmod_eq_of_le (by simp; omega) (by simp; omega)] at a
            omega
          refine x_iconst hG (pc := 57) 0 dX7_pass__57 (by decide) ?_
          have z0 : gl (pas S t h 0) 3 - gl S 3 = 0 := Int32.sub_self _
          rw [← z0]
          refine x_istore hG (pc := 58) dX7_pass__58 (Nat.le_of_ble_eq_true rfl) rfl (by dsimp only [List.set]) ?_
          refine x_iconst hG (pc := 60) 0 dX7_pass__60 (by decide) ?_
          refine x_istore hG (pc := 61) dX7_pass__61 (Nat.le_of_ble_eq_true rfl) rfl (by dsimp only [List.set]) ?_
          refine nat_down (P := fun j => ∀ w1, RepM (gΓ g) (lthr L 0) (pas S t h j) w1 → FrC w w1 → X g w1 (17 * j) (68 * j) 63 [some (.ref (thM L)), some (.int t), some (.int h), some (.int (nI dn)), some (.int (gl (pas S t h j) 3 - gl S 3)), some (.int (nI j))] []) dn (fun j hj0 ih w1 hR1 hF1 => ?_) 0 (Nat.zero_le _) w0 hR0 hF0
          refine x_iload hG (pc := 63) dX7_pass__63 rfl ?_
          refine x_iload_n hG (pc := 65) 3 dX7_pass__65 rfl rfl ?_
          refine x_icmp_ge hG (pc := 66) 86 dX7_pass__66 (by decide) (fun h66 => ?_) (fun h66 => ?_)
          · have hje : j = dn := by
              rcases Nat.lt_or_ge j dn with q | q
              · exact absurd h66 (nI_ge q (by omega))
              · omega
            refine x_iload hG (pc := 86) dX7_pass__86 rfl ?_
            refine x_ireturn hG (pc := 88) dX7_pass__88 rfl rfl (by rw [hG.mc]; dsimp only [rmk]; omega) (by rw [hG.ms]; dsimp only [rmk]; omega) ?_
            subst hje
            exact hk.ok (k := 0) (by simp only [oPas, ht0, ht1, hh0, hh1, hd0, hd1, h48, ↓reduceIte, nI_clamp (show j < 2 ^ 31 by omega)]) hR1 hF1
          · have hj : j < dn := by
              rcases Nat.lt_or_ge j dn with q | q
              · exact q
              · exact absurd (nI_le q (by omega)) h66
            obtain ⟨hIj, -⟩ := pas_iv (h := h) hI2 ht0 ht1 j (by omega)
            refine x_iload hG (pc := 69) dX7_pass__69 rfl ?_
            refine x_aload_n hG (pc := 71) 0 dX7_pass__71 rfl rfl ?_
            refine x_iload_n hG (pc := 72) 1 dX7_pass__72 rfl rfl ?_
            refine x_iload_n hG (pc := 73) 2 dX7_pass__73 rfl rfl ?_
            refine x_callV hG hO (pc := 74) [_, _] c_X7_pass lk_X7_115 hR1.main rfl rfl ⟨Nat.le_of_ble_eq_true rfl, Nat.le_of_ble_eq_true rfl⟩ (Nat.le_of_ble_eq_true rfl) (by rw [hG.mc]; dsimp only [rmk]; omega) (by rw [hG.ms]; dsimp only [rmk]; omega) dX7_pass__74 ?_
            refine ⟨lthr L 0, pas S t h j, t, h, rfl, hR1, hIj, ht0, ht1, fun w2 hR2 hF2 => ?_⟩
            refine x_iadd hG (pc := 77) dX7_pass__77 ?_
            rw [sub_tr]
            refine x_istore hG (pc := 78) dX7_pass__78 (Nat.le_of_ble_eq_true rfl) rfl (by dsimp only [List.set]) ?_
            refine x_iinc hG (pc := 80) (nI (j + 1)) dX7_pass__80 rfl (Nat.le_of_ble_eq_true rfl) rfl (nI_1' j) (by dsimp only [List.set]) ?_
            refine x_goto hG (pc := 83) 63 dX7_pass__83 (by decide) ?_
            have hps : pas S t h (j + 1) = oDay (pas S t h j) t h := rfl
            rw [← hps] at hR2
            rw [← hps]
            exact ih (j + 1) (by omega) (by omega) w2 hR2 (hF1.tr hF2)
        · replace h48 : ¬ gl S 0 + d ≤ 2000 := h48
          refine x_aload_n hG (pc := 51) 0 dX7_pass__51 rfl rfl ?_
          refine x_iconst hG (pc := 52) 2 dX7_pass__52 (by decide) ?_
          refine x_callV hG hO (pc := 53) [_] c_X7_refuse lk_X7_76 hR0.main rfl rfl ⟨Nat.le_of_ble_eq_true rfl, Nat.le_of_ble_eq_true rfl⟩ (Nat.le_of_ble_eq_true rfl) (by rw [hG.mc]; dsimp only [rmk]; omega) (by rw [hG.ms]; dsimp only [rmk]; omega) dX7_pass__53 ?_
          refine ⟨_, _, 2, rfl, hR0, fun wr hRr hFr => ?_⟩
          refine x_ireturn hG (pc := 56) dX7_pass__56 rfl rfl (by rw [hG.mc]; dsimp only [rmk]; omega) (by rw [hG.ms]; dsimp only [rmk]; omega) ?_
          exact hk.ok (k := 2) (v := 0) (S1 := S) (by simp only [oPas, ht0, ht1, hh0, hh1, hd0, hd1, h48, ↓reduceIte]) hRr (hF0.tr hFr)
      · refine x_aload_n hG (pc := 33) 0 dX7_pass__33 rfl rfl ?_
        refine x_iconst hG (pc := 34) 1 dX7_pass__34 (by decide) ?_
        refine x_callV hG hO (pc := 35) [_] c_X7_refuse lk_X7_76 hR0.main rfl rfl ⟨Nat.le_of_ble_eq_true rfl, Nat.le_of_ble_eq_true rfl⟩ (Nat.le_of_ble_eq_true rfl) (by rw [hG.mc]; dsimp only [rmk]; omega) (by rw [hG.ms]; dsimp only [rmk]; omega) dX7_pass__35 ?_
        refine ⟨_, _, 1, rfl, hR0, fun wr hRr hFr => ?_⟩
        refine x_ireturn hG (pc := 38) dX7_pass__38 rfl rfl (by rw [hG.mc]; dsimp only [rmk]; omega) (by rw [hG.ms]; dsimp only [rmk]; omega) ?_
        exact hk.ok (k := 1) (v := 0) (S1 := S) (by
          rcases is_f h30 with q | ⟨q, q2⟩
          · simp only [oPas, ht0, ht1, hh0, hh1, q, ↓reduceIte]
          · simp only [oPas, ht0, ht1, hh0, hh1, q, q2, ↓reduceIte]) hRr (hF0.tr hFr)
set_option maxHeartbeats 400000 in
set_option maxRecDepth 100000 in
theorem c_X7_measure : CtrA yX7_measure cX7_measure 8 (some .int) (rmk 8 4 90 324) (fun Γ av w post xpost => ∃ (L : LayM) (S : St), ∃ t f o d, av = [.ref (thM L), .int t, .int f, .int o, .int d] ∧ RepM Γ L S w ∧ Inv2 S ∧ MOut Γ L w post (oMea S t f o d)) := by
  refine ctr_of (by decide) ?_
  rintro g av w hG hO ⟨L, S, t, f, o, d, rfl, hR, hI2, hk⟩
  refine ⟨Nat.le_of_ble_eq_true rfl, ?_⟩
  show X g w 0 0 0 [some (.ref (thM L)), some (.int t), some (.int f), some (.int o), some (.int d), none, none, none] []
  have hI := hI2.1
  have hnM := hI.2.1.1
  have hnN := hI.2.1.2.1
  have hnE := hI.2.1.2.2
  refine x_aload_n hG (pc := 0) 0 dX7_measure_0 rfl rfl ?_
  refine x_iconst hG (pc := 1) 0 dX7_measure_1 (by decide) ?_
  refine x_putf hG (pc := 2) fl_X7_31 fw_9 ft_9_0 hR.main (Nat.le_of_ble_eq_true rfl) rfl rfl (by dsimp only [List.set]) dX7_measure_2 ?_
  refine x_gen (fun w0 e0 => ?_)
  obtain ⟨hR0, hF0⟩ := hR.uT e0
  refine x_iload_n hG (pc := 5) 1 dX7_measure_5 rfl rfl ?_
  refine x_iload_n hG (pc := 6) 2 dX7_measure_6 rfl rfl ?_
  refine x_iload_n hG (pc := 7) 3 dX7_measure_7 rfl rfl ?_
  refine x_callS hG hO (pc := 8) [_, _, _] c_X7_isPart lk_X7_118 rfl rfl ⟨by decide, by decide⟩ (Nat.le_of_ble_eq_true rfl) (by rw [hG.mc]; dsimp only [rmk]; omega) (by rw [hG.ms]; dsimp only [rmk]; omega) dX7_measure_8 ?_
  refine ⟨_, _, _, rfl, ?_⟩
  refine x_if_ne hG (pc := 11) 20 dX7_measure_11 (by decide) (fun h11 => ?_) (fun h11 => ?_)
  · have hp : c_str t f o = if f ≤ o then 0 else 2 := part_c.trans (if_neg h11)
    refine x_iload_n hG (pc := 20) 3 dX7_measure_20 rfl rfl ?_
    refine x_iload_n hG (pc := 21) 2 dX7_measure_21 rfl rfl ?_
    refine x_icmp_lt hG (pc := 22) 36 dX7_measure_22 (by decide) (fun h22 => ?_) (fun h22 => ?_)
    · have hp2 : c_str t f o = 2 := hp.trans (if_neg (Int32.not_le.mpr h22))
      refine x_aload_n hG (pc := 36) 0 dX7_measure_36 rfl rfl ?_
      refine x_iconst hG (pc := 37) 2 dX7_measure_37 (by decide) ?_
      refine x_callV hG hO (pc := 38) [_] c_X7_refuse lk_X7_76 hR0.main rfl rfl ⟨by decide, by decide⟩ (Nat.le_of_ble_eq_true rfl) (by rw [hG.mc]; dsimp only [rmk]; omega) (by rw [hG.ms]; dsimp only [rmk]; omega) dX7_measure_38 ?_
      refine ⟨_, _, 2, rfl, hR0, fun wr hRr hFr => ?_⟩
      refine x_ireturn hG (pc := 41) dX7_measure_41 rfl rfl (by rw [hG.mc]; dsimp only [rmk]; omega) (by rw [hG.ms]; dsimp only [rmk]; omega) ?_
      exact hk.ok (k := 2) (v := 0) (S1 := S) (by simp only [oMea, hp2, ↓reduceIte]) hRr (hF0.tr hFr)
    · have hp2 : c_str t f o = 0 := hp.trans (if_pos (Int32.not_lt.mp h22))
      obtain ⟨t0, f0, o0, rfl, rfl, rfl, ht0, hfo, ho⟩ := str_0 hp2
      refine x_iload hG (pc := 25) dX7_measure_25 rfl ?_
      refine x_bipush hG (pc := 27) (-2) dX7_measure_27 (by decide) ?_
      refine x_iconst hG (pc := 29) 2 dX7_measure_29 (by decide) ?_
      refine x_callS hG hO (pc := 30) [_, _, _] c_X7_is lk_X7_68 rfl rfl ⟨by decide, by decide⟩ (Nat.le_of_ble_eq_true rfl) (by rw [hG.mc]; dsimp only [rmk]; omega) (by rw [hG.ms]; dsimp only [rmk]; omega) dX7_measure_30 ?_
      refine ⟨_, _, _, rfl, ?_⟩
      refine x_if_ne hG (pc := 33) 42 dX7_measure_33 (by decide) (fun h33 => ?_) (fun h33 => ?_)
      · obtain ⟨i33a, i33b⟩ := is_t h33
        refine x_aload_n hG (pc := 42) 0 dX7_measure_42 rfl rfl ?_
        refine x_getf hG (pc := 43) fl_X7_24 hR0.main rfl dX7_measure_43 ?_
        refine x_callV hG hO (pc := 46) [] c_Jx4a65c_size_8abf5 lk_X7_64 (hR0.lst (id := 0) (by decide)).1 rfl rfl ⟨by decide, by decide⟩ (Nat.le_of_ble_eq_true rfl) (by rw [hG.mc]; dsimp only [rmk]; omega) (by rw [hG.ms]; dsimp only [rmk]; omega) dX7_measure_46 ?_
        refine ⟨_, _, _, _, _, rfl, (hR0.lst (id := 0) (by decide)).1, ?_⟩
        show X g _ _ _ _ _ (.int (nI (nE S)) :: _)
        refine x_bipush hG (pc := 49) 12 dX7_measure_49 (by decide) ?_
        refine x_icmp_ne hG (pc := 51) 60 dX7_measure_51 (by decide) (fun h51 => ?_) (fun h51 => ?_)
        · have hlt : nI (nE S) < 12 := lt_of_ne (m := 12) hnE (by decide) h51
          refine x_bipush hG (pc := 60) 45 dX7_measure_60 (by decide) ?_
          refine x_newI hG (pc := 62) (55, nE S, 0) (by decide) (n := 45) (by decide) (by decide) dX7_measure_62 (by rw [hG.mc]; dsimp only [rmk]; omega) (by rw [hG.ms]; dsimp only [rmk]; omega) (fun q hfq hnq => ?_)
          refine x_gen (fun v1 z1 => ?_)
          have y1 := (congrFun z1 q).trans wup_s
          refine x_astore hG (pc := 64) dX7_measure_64 (Nat.le_of_ble_eq_true rfl) rfl (by dsimp only [List.set]) ?_
          refine x_aload hG (pc := 66) dX7_measure_66 rfl ?_
          refine x_iconst hG (pc := 68) 0 dX7_measure_68 (by decide) ?_
          refine x_iload_n hG (pc := 69) 1 dX7_measure_69 rfl rfl ?_
          refine x_iastN hG (pc := 70) (c := 0) y1 (by decide) dX7_measure_70 ?_
          refine x_gen (fun v2 e102 => ?_)
          have z2 : v2 = wup w0 q ((55, nE S, 0), aI (gK g) 45 (rset (fun _ => 0) (0) (nI t0))) := by rw [e102, z1, wup_w]
          have y2 := (congrFun z2 q).trans wup_s
          refine x_aload hG (pc := 71) dX7_measure_71 rfl ?_
          refine x_iconst hG (pc := 73) 1 dX7_measure_73 (by decide) ?_
          refine x_iload_n hG (pc := 74) 2 dX7_measure_74 rfl rfl ?_
          refine x_iastN hG (pc := 75) (c := 1) y2 (by decide) dX7_measure_75 ?_
          refine x_gen (fun v3 e103 => ?_)
          have z3 : v3 = wup w0 q ((55, nE S, 0), aI (gK g) 45 (rset (rset (fun _ => 0) (0) (nI t0)) (1) (nI f0))) := by rw [e103, z2, wup_w]
          have y3 := (congrFun z3 q).trans wup_s
          refine x_aload hG (pc := 76) dX7_measure_76 rfl ?_
          refine x_iconst hG (pc := 78) 2 dX7_measure_78 (by decide) ?_
          refine x_iload_n hG (pc := 79) 3 dX7_measure_79 rfl rfl ?_
          refine x_iastN hG (pc := 80) (c := 2) y3 (by decide) dX7_measure_80 ?_
          refine x_gen (fun v4 e104 => ?_)
          have z4 : v4 = wup w0 q ((55, nE S, 0), aI (gK g) 45 (rset (rset (rset (fun _ => 0) (0) (nI t0)) (1) (nI f0)) (2) (nI o0))) := by rw [e104, z3, wup_w]
          have y4 := (congrFun z4 q).trans wup_s
          refine x_aload hG (pc := 81) dX7_measure_81 rfl ?_
          refine x_iconst hG (pc := 83) 3 dX7_measure_83 (by decide) ?_
          refine x_iload hG (pc := 84) dX7_measure_84 rfl ?_
          refine x_iastN hG (pc := 86) (c := 3) y4 (by decide) dX7_measure_86 ?_
          refine x_gen (fun v5 e105 => ?_)
          have z5 : v5 = wup w0 q ((55, nE S, 0), aI (gK g) 45 (rset (rset (rset (rset (fun _ => 0) (0) (nI t0)) (1) (nI f0)) (2) (nI o0)) (3) (d))) := by rw [e105, z4, wup_w]
          have y5 := (congrFun z5 q).trans wup_s
          rw [row45] at z5 y5
          refine x_iload_n hG (pc := 87) 2 dX7_measure_87 rfl rfl ?_
          refine x_istore hG (pc := 88) dX7_measure_88 (Nat.le_of_ble_eq_true rfl) rfl (by dsimp only [List.set]) ?_
          refine nat_down (P := fun n => ∀ (w3 : Wd) (z : Option Value), w3 = wup w0 q ((55, nE S, 0), aI (gK g) 45 (eRw S t0 d (eBas (nI t0) (nI f0) (nI o0) d) f0 n)) → X g w3 1 45 90 [some (.ref (thM L)), some (.int (nI t0)), some (.int (nI f0)), some (.int (nI o0)), some (.int d), some (.ref q), some (.int (nI (f0 + n))), z] []) (o0 + 1 - f0) (fun n hn ih w3 z z3 => ?_) 0 (Nat.zero_le _) v5 none z5
          have hR3 := hR0.nw hfq z3
          have y3b := (congrFun z3 q).trans wup_s
          refine x_iload hG (pc := 90) dX7_measure_90 rfl ?_
          refine x_iload_n hG (pc := 92) 3 dX7_measure_92 rfl rfl ?_
          refine x_icmp_gt hG (pc := 93) 203 dX7_measure_93 (by decide) (fun h93 => ?_) (fun h93 => ?_)
          · have hne : n = o0 + 1 - f0 := by
              rcases Nat.lt_or_ge n (o0 + 1 - f0) with q | q
              · exact absurd h93 (Int32.not_lt.mpr (nI_le (by omega) (by omega)))
              · omega
            subst hne
            have hFq := hF0.nw hfq z3
            refine x_aload_n hG (pc := 203) 0 dX7_measure_203 rfl rfl ?_
            refine x_getf hG (pc := 204) fl_X7_24 hR3.main rfl dX7_measure_204 ?_
            refine x_aload hG (pc := 207) dX7_measure_207 rfl ?_
            refine x_callV hG hO (pc := 209) [_] c_Jx4a65c_add_9ea2d lk_X7_121 (hR3.lst (id := 0) (by decide)).1 rfl rfl ⟨by decide, by decide⟩ (Nat.le_of_ble_eq_true rfl) (by rw [hG.mc]; dsimp only [rmk]; omega) (by rw [hG.ms]; dsimp only [rmk]; omega) dX7_measure_209 ?_
            refine ⟨_, (53, 0, 0), (54, 0, 0), _, _, _, nE S, (fun j => L.1 (55 + 0, j, 0)), q, _, _, rfl, (hR3.lst (id := 0) (by decide)), by omega, y3b, oke_I, (by intro z; cases z), (by intro z; cases z), (by intro z; cases z), fun i hi => ⟨_, _, hR3.mea hi, oke_I, (by intro z; cases z)⟩, fun w5 e5 cap5 hAL hF5 => ?_⟩
            obtain ⟨L1, hth, htr, hsm, hR5⟩ := hR3.aE (f := (eRw S t0 d (eBas (nI t0) (nI f0) (nI o0) d) f0 (o0 + 1 - f0))) hAL (hF5 _ _ y3b (by intro z; cases z) (by intro z; cases z)) (fun b x hb z1 z2 => hF5 b x hb z1 z2)
            have hF6 : FrC w w5 := hFq.tr (fun b x hb hx => hF5 b x hb (fun z => by rw [z] at hx; exact hx (by show 50 ≤ 53 ∧ 53 < 80; decide)) (fun z => by rw [z] at hx; exact hx (by show 50 ≤ 54 ∧ 54 < 80; decide)))
            have hm5 := hR5.main
            rw [show L1.1 (50, 0, 0) = L.1 (50, 0, 0) from hth] at hm5
            refine x_pop hG (pc := 212) dX7_measure_212 rfl ?_
            refine x_aload_n hG (pc := 213) 0 dX7_measure_213 rfl rfl ?_
            refine x_getf hG (pc := 214) fl_X7_24 hm5 rfl dX7_measure_214 ?_
            refine x_callV hG hO (pc := 217) [] c_Jx4a65c_size_8abf5 lk_X7_64 (hR5.lst (id := 0) (by decide)).1 rfl rfl ⟨by decide, by decide⟩ (Nat.le_of_ble_eq_true rfl) (by rw [hG.mc]; dsimp only [rmk]; omega) (by rw [hG.ms]; dsimp only [rmk]; omega) dX7_measure_217 ?_
            refine ⟨_, _, _, _, _, rfl, (hR5.lst (id := 0) (by decide)).1, ?_⟩
            show X g w5 _ _ _ _ [.int (nI (nE S + 1))]
            refine x_iconst hG (pc := 220) 1 dX7_measure_220 (by decide) ?_
            refine x_isub hG (pc := 221) dX7_measure_221 ?_
            rw [nI_pred]
            refine x_ireturn hG (pc := 222) dX7_measure_222 rfl rfl (by rw [hG.mc]; dsimp only [rmk]; omega) (by rw [hG.ms]; dsimp only [rmk]; omega) ?_
            exact hk.ok (k := 0) (v := nI (nE S)) (by simp only [oMea, hp2, i33a, i33b, hlt, eRow, nI_clamp (show t0 < 2 ^ 31 by omega), nI_clamp (show f0 < 2 ^ 31 by omega), nI_clamp (show o0 < 2 ^ 31 by omega), ↓reduceIte]) hR5 hF6 hth htr
          · have hnl : n < o0 + 1 - f0 := by
              rcases Nat.lt_or_ge n (o0 + 1 - f0) with q | q
              · exact q
              · exact absurd (nI_lt2 (i := o0) (k := f0 + n) (by omega) (by omega)) h93
            refine x_iload hG (pc := 96) dX7_measure_96 rfl ?_
            refine x_iload hG (pc := 98) dX7_measure_98 rfl ?_
            refine x_iadd hG (pc := 100) dX7_measure_100 ?_
            refine x_iconst hG (pc := 101) 0 dX7_measure_101 (by decide) ?_
            refine x_bipush hG (pc := 102) 9 dX7_measure_102 (by decide) ?_
            refine x_callS hG hO (pc := 104) [_, _, _] c_X7_is lk_X7_68 rfl rfl ⟨by decide, by decide⟩ (Nat.le_of_ble_eq_true rfl) (by rw [hG.mc]; dsimp only [rmk]; omega) (by rw [hG.ms]; dsimp only [rmk]; omega) dX7_measure_104 ?_
            refine ⟨_, _, _, rfl, ?_⟩
            refine x_if_ne hG (pc := 107) 113 dX7_measure_107 (by decide) (fun h107 => ?_) (fun h107 => ?_)
            · obtain ⟨j, hj, hje, hj0, hj1⟩ := is_9 h107
              have hrow : eSt S t0 d (eRw S t0 d (eBas (nI t0) (nI f0) (nI o0) d) f0 n) (f0 + n) = _ := (if_neg hj0).trans (if_pos hj1)
              rw [hje, nI_clamp (by omega)] at hrow
              refine x_aload_n hG (pc := 113) 0 dX7_measure_113 rfl rfl ?_
              refine x_getf hG (pc := 114) fl_X7_11 hR3.main rfl dX7_measure_114 ?_
              refine x_bipush hG (pc := 117) 10 dX7_measure_117 (by decide) ?_
              refine x_iload_n hG (pc := 119) 1 dX7_measure_119 rfl rfl ?_
              refine x_imul hG (pc := 120) dX7_measure_120 ?_
              refine x_iload hG (pc := 121) dX7_measure_121 rfl ?_
              refine x_iadd hG (pc := 123) dX7_measure_123 ?_
              refine x_iload hG (pc := 124) dX7_measure_124 rfl ?_
              refine x_iadd hG (pc := 126) dX7_measure_126 ?_
              rw [ixs ht0 hje]
              refine x_aaldI hG (pc := 127) hR3.secs (vp_in_nI (show t0 * 10 + j < 20 by omega) (by decide)) dX7_measure_127 ?_
              rw [nI_clamp (by omega), lE_at (show t0 * 10 + j < 20 by omega)]
              show X g _ _ _ _ _ (.ref (L.1 (52, (t0 * 10 + j), 0)) :: _)
              refine x_astore hG (pc := 128) dX7_measure_128 (Nat.le_of_ble_eq_true rfl) rfl (by dsimp only [List.set]) ?_
              refine x_aload hG (pc := 130) dX7_measure_130 rfl ?_
              refine x_iconst hG (pc := 132) 5 dX7_measure_132 (by decide) ?_
              refine x_iconst hG (pc := 133) 4 dX7_measure_133 (by decide) ?_
              refine x_iload hG (pc := 134) dX7_measure_134 rfl ?_
              refine x_imul hG (pc := 136) dX7_measure_136 ?_
              refine x_iadd hG (pc := 137) dX7_measure_137 ?_
              refine x_iconst hG (pc := 138) 1 dX7_measure_138 (by decide) ?_
              refine x_iastN hG (pc := 139) (c := 5 + 4 * (f0 + n)) y3b (by omega) dX7_measure_139 ?_ (hv := ix7 _)
              refine x_gen (fun u1 e201 => ?_)
              have s1 : u1 = wup w0 q ((55, nE S, 0), aI (gK g) 45 (rset (eRw S t0 d (eBas (nI t0) (nI f0) (nI o0) d) f0 n) (5 + 4 * (f0 + n)) 1)) := by rw [e201, z3, wup_w]
              have y201 := (congrFun s1 q).trans wup_s
              refine x_aload hG (pc := 140) dX7_measure_140 rfl ?_
              refine x_iconst hG (pc := 142) 5 dX7_measure_142 (by decide) ?_
              refine x_iconst hG (pc := 143) 4 dX7_measure_143 (by decide) ?_
              refine x_iload hG (pc := 144) dX7_measure_144 rfl ?_
              refine x_imul hG (pc := 146) dX7_measure_146 ?_
              refine x_iadd hG (pc := 147) dX7_measure_147 ?_
              refine x_iconst hG (pc := 148) 1 dX7_measure_148 (by decide) ?_
              refine x_iadd hG (pc := 149) dX7_measure_149 ?_
              refine x_aload hG (pc := 150) dX7_measure_150 rfl ?_
              refine x_iconst hG (pc := 152) 0 dX7_measure_152 (by decide) ?_
              refine x_ialdN hG (pc := 153) (c := 0) (show u1 (L.1 (52, (t0 * 10 + j), 0)) = _ from ((hR0.nw hfq s1).sec (i := (t0 * 10 + j)) (by omega))) (by decide) dX7_measure_153 ?_
              refine x_iastN hG (pc := 154) (c := 6 + 4 * (f0 + n)) y201 (by omega) dX7_measure_154 ?_ (hv := ix8 1 _)
              refine x_gen (fun u2 e202 => ?_)
              have s2 : u2 = wup w0 q ((55, nE S, 0), aI (gK g) 45 (rset (rset (eRw S t0 d (eBas (nI t0) (nI f0) (nI o0) d) f0 n) (5 + 4 * (f0 + n)) 1) (6 + 4 * (f0 + n)) (sS S (t0 * 10 + j) 0))) := by rw [e202, s1, wup_w]
              have y202 := (congrFun s2 q).trans wup_s
              refine x_aload hG (pc := 155) dX7_measure_155 rfl ?_
              refine x_iconst hG (pc := 157) 5 dX7_measure_157 (by decide) ?_
              refine x_iconst hG (pc := 158) 4 dX7_measure_158 (by decide) ?_
              refine x_iload hG (pc := 159) dX7_measure_159 rfl ?_
              refine x_imul hG (pc := 161) dX7_measure_161 ?_
              refine x_iadd hG (pc := 162) dX7_measure_162 ?_
              refine x_iconst hG (pc := 163) 2 dX7_measure_163 (by decide) ?_
              refine x_iadd hG (pc := 164) dX7_measure_164 ?_
              refine x_aload hG (pc := 165) dX7_measure_165 rfl ?_
              refine x_iconst hG (pc := 167) 1 dX7_measure_167 (by decide) ?_
              refine x_ialdN hG (pc := 168) (c := 1) (show u2 (L.1 (52, (t0 * 10 + j), 0)) = _ from ((hR0.nw hfq s2).sec (i := (t0 * 10 + j)) (by omega))) (by decide) dX7_measure_168 ?_
              refine x_iconst hG (pc := 169) 5 dX7_measure_169 (by decide) ?_
              refine x_icmp_ge hG (pc := 170) 177 dX7_measure_170 (by decide) (fun h170 => ?_) (fun h170 => ?_)
              · replace h170 : 5 ≤ sS S (t0 * 10 + j) 1 := h170
                rw [if_pos h170] at hrow
                refine x_aload hG (pc := 177) dX7_measure_177 rfl ?_
                refine x_iconst hG (pc := 179) 1 dX7_measure_179 (by decide) ?_
                refine x_ialdN hG (pc := 180) (c := 1) (show u2 (L.1 (52, (t0 * 10 + j), 0)) = _ from ((hR0.nw hfq s2).sec (i := (t0 * 10 + j)) (by omega))) (by decide) dX7_measure_180 ?_
                refine x_iastN hG (pc := 181) (c := 7 + 4 * (f0 + n)) y202 (by omega) dX7_measure_181 ?_ (hv := ix8 2 _)
                refine x_gen (fun u3 e203 => ?_)
                have s3 : u3 = wup w0 q ((55, nE S, 0), aI (gK g) 45 (rset (rset (rset (eRw S t0 d (eBas (nI t0) (nI f0) (nI o0) d) f0 n) (5 + 4 * (f0 + n)) 1) (6 + 4 * (f0 + n)) (sS S (t0 * 10 + j) 0)) (7 + 4 * (f0 + n)) (sS S (t0 * 10 + j) 1))) := by rw [e203, s2, wup_w]
                have y203 := (congrFun s3 q).trans wup_s
                refine x_aload hG (pc := 182) dX7_measure_182 rfl ?_
                refine x_iconst hG (pc := 184) 5 dX7_measure_184 (by decide) ?_
                refine x_iconst hG (pc := 185) 4 dX7_measure_185 (by decide) ?_
                refine x_iload hG (pc := 186) dX7_measure_186 rfl ?_
                refine x_imul hG (pc := 188) dX7_measure_188 ?_
                refine x_iadd hG (pc := 189) dX7_measure_189 ?_
                refine x_iconst hG (pc := 190) 3 dX7_measure_190 (by decide) ?_
                refine x_iadd hG (pc := 191) dX7_measure_191 ?_
                refine x_aload hG (pc := 192) dX7_measure_192 rfl ?_
                refine x_iconst hG (pc := 194) 2 dX7_measure_194 (by decide) ?_
                refine x_ialdN hG (pc := 195) (c := 2) (show u3 (L.1 (52, (t0 * 10 + j), 0)) = _ from ((hR0.nw hfq s3).sec (i := (t0 * 10 + j)) (by omega))) (by decide) dX7_measure_195 ?_
                refine x_iastN hG (pc := 196) (c := 8 + 4 * (f0 + n)) y203 (by omega) dX7_measure_196 ?_ (hv := ix8 3 _)
                refine x_gen (fun u4 e204 => ?_)
                have s4 : u4 = wup w0 q ((55, nE S, 0), aI (gK g) 45 (rset (rset (rset (rset (eRw S t0 d (eBas (nI t0) (nI f0) (nI o0) d) f0 n) (5 + 4 * (f0 + n)) 1) (6 + 4 * (f0 + n)) (sS S (t0 * 10 + j) 0)) (7 + 4 * (f0 + n)) (sS S (t0 * 10 + j) 1)) (8 + 4 * (f0 + n)) (sS S (t0 * 10 + j) 2))) := by rw [e204, s3, wup_w]
                have y204 := (congrFun s4 q).trans wup_s
                refine x_iinc hG (pc := 197) (nI (f0 + (n + 1))) dX7_measure_197 rfl (Nat.le_of_ble_eq_true rfl) rfl (nI_1' (f0 + n)) (by dsimp only [List.set]) ?_
                refine x_goto hG (pc := 200) 90 dX7_measure_200 (by decide) ?_
                have hrow2 : eRw S t0 d (eBas (nI t0) (nI f0) (nI o0) d) f0 (n + 1) = _ := hrow
                exact ih (n + 1) (by omega) (by omega) u4 _ (by rw [hrow2]; exact s4)
              · replace h170 : ¬ 5 ≤ sS S (t0 * 10 + j) 1 := h170
                rw [if_neg h170] at hrow
                refine x_iconst hG (pc := 173) 0 dX7_measure_173 (by decide) ?_
                refine x_goto hG (pc := 174) 181 dX7_measure_174 (by decide) ?_
                refine x_iastN hG (pc := 181) (c := 7 + 4 * (f0 + n)) y202 (by omega) dX7_measure_181 ?_ (hv := ix8 2 _)
                refine x_gen (fun u3 e203 => ?_)
                have s3 : u3 = wup w0 q ((55, nE S, 0), aI (gK g) 45 (rset (rset (rset (eRw S t0 d (eBas (nI t0) (nI f0) (nI o0) d) f0 n) (5 + 4 * (f0 + n)) 1) (6 + 4 * (f0 + n)) (sS S (t0 * 10 + j) 0)) (7 + 4 * (f0 + n)) 0)) := by rw [e203, s2, wup_w]
                have y203 := (congrFun s3 q).trans wup_s
                refine x_aload hG (pc := 182) dX7_measure_182 rfl ?_
                refine x_iconst hG (pc := 184) 5 dX7_measure_184 (by decide) ?_
                refine x_iconst hG (pc := 185) 4 dX7_measure_185 (by decide) ?_
                refine x_iload hG (pc := 186) dX7_measure_186 rfl ?_
                refine x_imul hG (pc := 188) dX7_measure_188 ?_
                refine x_iadd hG (pc := 189) dX7_measure_189 ?_
                refine x_iconst hG (pc := 190) 3 dX7_measure_190 (by decide) ?_
                refine x_iadd hG (pc := 191) dX7_measure_191 ?_
                refine x_aload hG (pc := 192) dX7_measure_192 rfl ?_
                refine x_iconst hG (pc := 194) 2 dX7_measure_194 (by decide) ?_
                refine x_ialdN hG (pc := 195) (c := 2) (show u3 (L.1 (52, (t0 * 10 + j), 0)) = _ from ((hR0.nw hfq s3).sec (i := (t0 * 10 + j)) (by omega))) (by decide) dX7_measure_195 ?_
                refine x_iastN hG (pc := 196) (c := 8 + 4 * (f0 + n)) y203 (by omega) dX7_measure_196 ?_ (hv := ix8 3 _)
                refine x_gen (fun u4 e204 => ?_)
                have s4 : u4 = wup w0 q ((55, nE S, 0), aI (gK g) 45 (rset (rset (rset (rset (eRw S t0 d (eBas (nI t0) (nI f0) (nI o0) d) f0 n) (5 + 4 * (f0 + n)) 1) (6 + 4 * (f0 + n)) (sS S (t0 * 10 + j) 0)) (7 + 4 * (f0 + n)) 0) (8 + 4 * (f0 + n)) (sS S (t0 * 10 + j) 2))) := by rw [e204, s3, wup_w]
                have y204 := (congrFun s4 q).trans wup_s
                refine x_iinc hG (pc := 197) (nI (f0 + (n + 1))) dX7_measure_197 rfl (Nat.le_of_ble_eq_true rfl) rfl (nI_1' (f0 + n)) (by dsimp only [List.set]) ?_
                refine x_goto hG (pc := 200) 90 dX7_measure_200 (by decide) ?_
                have hrow2 : eRw S t0 d (eBas (nI t0) (nI f0) (nI o0) d) f0 (n + 1) = _ := hrow
                exact ih (n + 1) (by omega) (by omega) u4 _ (by rw [hrow2]; exact s4)
            · have hrow : eSt S t0 d (eRw S t0 d (eBas (nI t0) (nI f0) (nI o0) d) f0 n) (f0 + n) = (eRw S t0 d (eBas (nI t0) (nI f0) (nI o0) d) f0 n) := by
                rcases is_9f h107 with z | ⟨z, z2⟩
                · exact if_pos z
                · exact (if_neg z).trans (if_neg z2)
              refine x_goto hG (pc := 110) 197 dX7_measure_110 (by decide) ?_
              refine x_iinc hG (pc := 197) (nI (f0 + (n + 1))) dX7_measure_197 rfl (Nat.le_of_ble_eq_true rfl) rfl (nI_1' (f0 + n)) (by dsimp only [List.set]) ?_
              refine x_goto hG (pc := 200) 90 dX7_measure_200 (by decide) ?_
              have hrow2 : eRw S t0 d (eBas (nI t0) (nI f0) (nI o0) d) f0 (n + 1) = _ := hrow
              exact ih (n + 1) (by omega) (by omega) w3 _ (by rw [hrow2]; exact z3)
        · have hlt : ¬ nI (nE S) < 12 := nlt_of_eq (m := 12) h51
          refine x_aload_n hG (pc := 54) 0 dX7_measure_54 rfl rfl ?_
          refine x_iconst hG (pc := 55) 3 dX7_measure_55 (by decide) ?_
          refine x_callV hG hO (pc := 56) [_] c_X7_refuse lk_X7_76 hR0.main rfl rfl ⟨by decide, by decide⟩ (Nat.le_of_ble_eq_true rfl) (by rw [hG.mc]; dsimp only [rmk]; omega) (by rw [hG.ms]; dsimp only [rmk]; omega) dX7_measure_56 ?_
          refine ⟨_, _, 3, rfl, hR0, fun wr hRr hFr => ?_⟩
          refine x_ireturn hG (pc := 59) dX7_measure_59 rfl rfl (by rw [hG.mc]; dsimp only [rmk]; omega) (by rw [hG.ms]; dsimp only [rmk]; omega) ?_
          exact hk.ok (k := 3) (v := 0) (S1 := S) (by simp only [oMea, hp2, i33a, i33b, hlt, ↓reduceIte]) hRr (hF0.tr hFr)
      · refine x_aload_n hG (pc := 36) 0 dX7_measure_36 rfl rfl ?_
        refine x_iconst hG (pc := 37) 2 dX7_measure_37 (by decide) ?_
        refine x_callV hG hO (pc := 38) [_] c_X7_refuse lk_X7_76 hR0.main rfl rfl ⟨by decide, by decide⟩ (Nat.le_of_ble_eq_true rfl) (by rw [hG.mc]; dsimp only [rmk]; omega) (by rw [hG.ms]; dsimp only [rmk]; omega) dX7_measure_38 ?_
        refine ⟨_, _, 2, rfl, hR0, fun wr hRr hFr => ?_⟩
        refine x_ireturn hG (pc := 41) dX7_measure_41 rfl rfl (by rw [hG.mc]; dsimp only [rmk]; omega) (by rw [hG.ms]; dsimp only [rmk]; omega) ?_
        exact hk.ok (k := 2) (v := 0) (S1 := S) (by
          rcases is_f h33 with q | ⟨q, q2⟩
          · simp only [oMea, hp2, q, ↓reduceIte]
          · simp only [oMea, hp2, q, q2, ↓reduceIte]) hRr (hF0.tr hFr)
  · have hp : c_str t f o = 1 := part_c.trans (if_pos h11)
    refine x_aload_n hG (pc := 14) 0 dX7_measure_14 rfl rfl ?_
    refine x_iconst hG (pc := 15) 1 dX7_measure_15 (by decide) ?_
    refine x_callV hG hO (pc := 16) [_] c_X7_refuse lk_X7_76 hR0.main rfl rfl ⟨by decide, by decide⟩ (Nat.le_of_ble_eq_true rfl) (by rw [hG.mc]; dsimp only [rmk]; omega) (by rw [hG.ms]; dsimp only [rmk]; omega) dX7_measure_16 ?_
    refine ⟨_, _, 1, rfl, hR0, fun wr hRr hFr => ?_⟩
    refine x_ireturn hG (pc := 19) dX7_measure_19 rfl rfl (by rw [hG.mc]; dsimp only [rmk]; omega) (by rw [hG.ms]; dsimp only [rmk]; omega) ?_
    exact hk.ok (k := 1) (v := 0) (S1 := S) (by simp only [oMea, hp, ↓reduceIte]) hRr (hF0.tr hFr)
