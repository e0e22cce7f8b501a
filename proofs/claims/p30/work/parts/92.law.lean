/-! p30's law: its steps -/
set_option maxHeartbeats 1000000 in
set_option maxRecDepth 100000 in
theorem law_tail {nm : String} {g : Cxt} {b q qs τ k tc : Nat} {r : Nat → Nat} {L : LayC} {S T : St} {w : Wd} {kc ks : Nat} {m4 m5 m6 m7 dy wk sign sg : Int32} {z9 z11 z17 z18 z19 z20 : Option Value} (hG : Cx g cL_law RL nm (some .boolean) (rmk 13 631088 7208434 490)) (hO : No g) (hτ : τ < 70) (nx : Hd g b tc q r qs (τ + 1)) (hth : thC L = tc) (hR : RepC (gΓ g) L T w) (hSt : Ste S T τ dy wk sg) (hs : (0 ≤ sign ∧ sg = nI k) ∨ (¬ 0 ≤ sign ∧ sg = -1)) (hB : BEF (gΓ g) w q r (ofS S)) (hq : w qs = some ((82, 0, 0), aI (gK g) 16 (stF S))) (e4 : m4 = nI (nM T)) (e5 : m5 = nI (nN T)) (e6 : m6 = nI (nE T)) (e7 : m7 = gl T 5) (hkc : kc ≤ 590 + 400 * τ) (hks : ks ≤ 4900 + 3000 * τ) : X g w kc ks 1022 [some (.ref b), some (.ref (tc)), some (.ref q), some (.ref qs), some (.int m4), some (.int m5), some (.int m6), some (.int m7), some (.int (nI τ)), z9, some (.int (nI k)), z11, some (.int (gl S 2)), some (.int (gl S 4)), some (.int dy), some (.int wk), some (.int sign), z17, z18, z19, z20] [] := by
  subst hth
  subst e4
  subst e5
  subst e6
  subst e7
  have hP := hSt.1
  have hI := hP.1.1
  refine x_aload_n hG (pc := 1022) 1 dL_law_1022 rfl rfl ?_
  refine x_bipush hG (pc := 1023) 9 dL_law_1023 (by decide) ?_
  refine x_callVN hG hO (pc := 1025) [_] v_X6_many lk_L_28 hR.main rfl rfl ⟨Nat.le_of_ble_eq_true rfl, Nat.le_of_ble_eq_true rfl⟩ (Nat.le_of_ble_eq_true rfl) (by rw [hG.mc]; dsimp only [rmk]; omega) (by rw [hG.ms]; dsimp only [rmk]; omega) dL_law_1025 ?_
  refine ⟨L, T, 9, rfl, hR, hI, by decide, ?_⟩
  refine x_iload hG (pc := 1028) dL_law_1028 rfl ?_
  refine x_icmp_lt hG (pc := 1030) 1075 dL_law_1030 (by decide) (fun h1030 => ?_) (fun h1030 => ?_)
  · exact absurd h1030 (nlt_of hSt.2.1)
  · have K1050 : ∀ y : Int32, y = sg → X g w kc ks 1050 [some (.ref b), some (.ref (thC L)), some (.ref q), some (.ref qs), some (.int (nI (nM T))), some (.int (nI (nN T))), some (.int (nI (nE T))), some (.int (gl T 5)), some (.int (nI τ)), z9, some (.int (nI k)), z11, some (.int (gl S 2)), some (.int (gl S 4)), some (.int dy), some (.int wk), some (.int sign), z17, z18, z19, z20] [.int y, .int wk, .int dy, .ref q, .ref (thC L)] := by
      rintro y rfl
      refine x_aload_n hG (pc := 1050) 1 dL_law_1050 rfl rfl ?_
      refine x_bipush hG (pc := 1051) 11 dL_law_1051 (by decide) ?_
      refine x_callVN hG hO (pc := 1053) [_] v_X6_many lk_L_28 hR.main rfl rfl ⟨Nat.le_of_ble_eq_true rfl, Nat.le_of_ble_eq_true rfl⟩ (Nat.le_of_ble_eq_true rfl) (by rw [hG.mc]; dsimp only [rmk]; omega) (by rw [hG.ms]; dsimp only [rmk]; omega) dL_law_1053 ?_
      refine ⟨L, T, 11, rfl, hR, hI, by decide, ?_⟩
      refine x_iload hG (pc := 1056) dL_law_1056 rfl ?_
      refine x_isub hG (pc := 1058) dL_law_1058 ?_
      refine x_callSN hG hO (pc := 1059) [_, _, _, _, _, _] c_L_isStep lk_L_91 rfl rfl ⟨Nat.le_of_ble_eq_true rfl, Nat.le_of_ble_eq_true rfl⟩ (Nat.le_of_ble_eq_true rfl) (by rw [hG.mc]; dsimp only [rmk]; omega) (by rw [hG.ms]; dsimp only [rmk]; omega) dL_law_1059 ?_
      refine ⟨L, T, q, r, ofS S, dy, wk, _, _, rfl, hR, hI, hB, hSt.2.2.1, ?_⟩
      refine x_if_eq hG (pc := 1062) 1075 dL_law_1062 (by decide) (fun h1062 => ?_) (fun h1062 => ?_)
      · exact absurd h1062 (by decide)
      · refine x_aload_n hG (pc := 1065) 1 dL_law_1065 rfl rfl ?_
        refine x_aload_n hG (pc := 1066) 3 dL_law_1066 rfl rfl ?_
        refine x_iload hG (pc := 1067) dL_law_1067 rfl ?_
        refine x_callSN hG hO (pc := 1069) [_, _, _] c_L_areSteps lk_L_95 rfl rfl ⟨Nat.le_of_ble_eq_true rfl, Nat.le_of_ble_eq_true rfl⟩ (Nat.le_of_ble_eq_true rfl) (by rw [hG.mc]; dsimp only [rmk]; omega) (by rw [hG.ms]; dsimp only [rmk]; omega) dL_law_1069 ?_
        refine ⟨L, T, _, qs, stF S, rfl, hR, hP, hq, hSt.2.2.2.1, fun w1 hq1 hF1 => ?_⟩
        rw [stG_F hSt.2.2.2.2] at hq1
        have hR1 := hR.frk hF1 (by decide)
        have hB1 := hB.frk hF1 (by decide)
        refine x_if_ne hG (pc := 1072) 1077 dL_law_1072 (by decide) (fun h1072 => ?_) (fun h1072 => ?_)
        · refine x_aload_n hG (pc := 1077) 1 dL_law_1077 rfl rfl ?_
          refine x_aload_n hG (pc := 1078) 2 dL_law_1078 rfl rfl ?_
          refine x_callSN hG hO (pc := 1079) [_, _] c_L_keep lk_L_14 rfl rfl ⟨Nat.le_of_ble_eq_true rfl, Nat.le_of_ble_eq_true rfl⟩ (Nat.le_of_ble_eq_true rfl) (by rw [hG.mc]; dsimp only [rmk]; omega) (by rw [hG.ms]; dsimp only [rmk]; omega) dL_law_1079 ?_
          refine ⟨L, T, q, r, ofS S, rfl, hR1, hI, hB1, fun w2 hB2 hF2 => ?_⟩
          have hR2 := hR1.frk hF2 (by decide)
          have hq2 := hF2 _ _ hq1 (by show (82 : Nat) ≠ 81; decide)
          refine x_aload_n hG (pc := 1082) 1 dL_law_1082 rfl rfl ?_
          refine x_bipush hG (pc := 1083) 12 dL_law_1083 (by decide) ?_
          refine x_callVN hG hO (pc := 1085) [_] v_X6_many lk_L_28 hR2.main rfl rfl ⟨Nat.le_of_ble_eq_true rfl, Nat.le_of_ble_eq_true rfl⟩ (Nat.le_of_ble_eq_true rfl) (by rw [hG.mc]; dsimp only [rmk]; omega) (by rw [hG.ms]; dsimp only [rmk]; omega) dL_law_1085 ?_
          refine ⟨L, T, 12, rfl, hR2, hI, by decide, ?_⟩
          refine x_iload hG (pc := 1088) dL_law_1088 rfl ?_
          refine x_icmp_ne hG (pc := 1090) 1124 dL_law_1090 (by decide) (fun h1090 => ?_) (fun h1090 => ?_)
          · exact absurd rfl h1090
          · refine x_aload_n hG (pc := 1093) 1 dL_law_1093 rfl rfl ?_
            refine x_iconst hG (pc := 1094) 1 dL_law_1094 (by decide) ?_
            refine x_callVN hG hO (pc := 1095) [_] v_X6_many lk_L_28 hR2.main rfl rfl ⟨Nat.le_of_ble_eq_true rfl, Nat.le_of_ble_eq_true rfl⟩ (Nat.le_of_ble_eq_true rfl) (by rw [hG.mc]; dsimp only [rmk]; omega) (by rw [hG.ms]; dsimp only [rmk]; omega) dL_law_1095 ?_
            refine ⟨L, T, 1, rfl, hR2, hI, by decide, ?_⟩
            refine x_iload hG (pc := 1098) dL_law_1098 rfl ?_
            refine x_icmp_ne hG (pc := 1100) 1124 dL_law_1100 (by decide) (fun h1100 => ?_) (fun h1100 => ?_)
            · exact absurd rfl h1100
            · refine x_aload_n hG (pc := 1103) 1 dL_law_1103 rfl rfl ?_
              refine x_iconst hG (pc := 1104) 2 dL_law_1104 (by decide) ?_
              refine x_callVN hG hO (pc := 1105) [_] v_X6_many lk_L_28 hR2.main rfl rfl ⟨Nat.le_of_ble_eq_true rfl, Nat.le_of_ble_eq_true rfl⟩ (Nat.le_of_ble_eq_true rfl) (by rw [hG.mc]; dsimp only [rmk]; omega) (by rw [hG.ms]; dsimp only [rmk]; omega) dL_law_1105 ?_
              refine ⟨L, T, 2, rfl, hR2, hI, by decide, ?_⟩
              refine x_iload hG (pc := 1108) dL_law_1108 rfl ?_
              refine x_icmp_ne hG (pc := 1110) 1124 dL_law_1110 (by decide) (fun h1110 => ?_) (fun h1110 => ?_)
              · exact absurd rfl h1110
              · refine x_aload_n hG (pc := 1113) 1 dL_law_1113 rfl rfl ?_
                refine x_iload hG (pc := 1114) dL_law_1114 rfl ?_
                refine x_iload hG (pc := 1116) dL_law_1116 rfl ?_
                refine x_callSN hG hO (pc := 1118) [_, _, _] c_L_isSo lk_L_99 rfl rfl ⟨Nat.le_of_ble_eq_true rfl, Nat.le_of_ble_eq_true rfl⟩ (Nat.le_of_ble_eq_true rfl) (by rw [hG.mc]; dsimp only [rmk]; omega) (by rw [hG.ms]; dsimp only [rmk]; omega) dL_law_1118 ?_
                refine ⟨L, T, _, rfl, hR2, hP, fun w3 hF3 => ?_⟩
                refine x_if_ne hG (pc := 1121) 1126 dL_law_1121 (by decide) (fun h1121 => ?_) (fun h1121 => ?_)
                · refine x_iinc hG (pc := 1126) (nI (τ + 1)) dL_law_1126 rfl (Nat.le_of_ble_eq_true rfl) rfl (nI_1' τ) (by dsimp only [List.set]) ?_
                  refine x_goto hG (pc := 1129) 42 dL_law_1129 (by decide) ?_
                  exact nx L T w3 _ _ _ _ _ _ _ _ _ _ _ _ _ _ rfl ⟨hR2.mono hF3, hP, hB2.mono hF3, hF3 _ _ hq2⟩ (by first | omega | (dsimp only [rmk]; omega)) (by first | omega | (dsimp only [rmk]; omega))
                · exact absurd h1121 (by decide)
        · exact absurd h1072 (by decide)
    refine x_aload_n hG (pc := 1033) 1 dL_law_1033 rfl rfl ?_
    refine x_aload_n hG (pc := 1034) 2 dL_law_1034 rfl rfl ?_
    refine x_iload hG (pc := 1035) dL_law_1035 rfl ?_
    refine x_iload hG (pc := 1037) dL_law_1037 rfl ?_
    refine x_iload hG (pc := 1039) dL_law_1039 rfl ?_
    refine x_if_ge hG (pc := 1041) 1048 dL_law_1041 (by decide) (fun h1041 => ?_) (fun h1041 => ?_)
    · have hsg : sg = nI k := hs.elim (fun z => z.2) (fun z => absurd h1041 z.1)
      refine x_iload hG (pc := 1048) dL_law_1048 rfl ?_
      exact K1050 _ hsg.symm
    · have hsg : sg = -1 := hs.elim (fun z => absurd z.1 h1041) (fun z => z.2)
      refine x_iconst hG (pc := 1044) (-1) dL_law_1044 (by decide) ?_
      refine x_goto hG (pc := 1045) 1050 dL_law_1045 (by decide) ?_
      exact K1050 _ hsg.symm
set_option maxHeartbeats 1000000 in
set_option maxRecDepth 100000 in
theorem law_c0 : Cas 208 := by
  intro nm g b q qs r τ k L S w kc ks x nt z17 z18 z19 z20 hG hO hτ hk hnt nx hLw hkc hks
  obtain ⟨hR, hP, hB, hq⟩ := hLw
  have hI := hP.1.1
  have hM4 := hI.2.1.1
  have hN16 := hI.2.1.2.1
  have hE12 := hI.2.1.2.2
  refine x_iload hG (pc := 208) dL_law_208 rfl ?_
  refine x_iconst hG (pc := 210) 3 dL_law_210 (by decide) ?_
  refine x_ishr hG (pc := 211) dL_law_211 ?_
  refine x_iconst hG (pc := 212) 2 dL_law_212 (by decide) ?_
  refine x_callSN hG hO (pc := 213) [_, _] c_L_below lk_L_24 rfl rfl ⟨Nat.le_of_ble_eq_true rfl, Nat.le_of_ble_eq_true rfl⟩ (Nat.le_of_ble_eq_true rfl) (by rw [hG.mc]; dsimp only [rmk]; omega) (by rw [hG.ms]; dsimp only [rmk]; omega) dL_law_213 ?_
  refine ⟨_, 2, rfl, by decide, by decide, fun r1 hr1 => ?_⟩
  refine dia_ne hG (pc := 216) 223 224 dL_law_216 (by decide) dL_law_219 dL_law_220 (by decide) dL_law_223 (by decide) ?_
  obtain ⟨bb, hbb, ebb⟩ : ∃ bb : Int32, (bb = 0 ∨ bb = 1) ∧ bb = (if nI r1 = 0 then (1 : Int32) else 0) := ⟨_, by split <;> simp, rfl⟩
  rw [← ebb]
  refine x_istore hG (pc := 224) dL_law_224 (Nat.le_of_ble_eq_true rfl) rfl (by dsimp only [List.set]) ?_
  refine x_aload_n hG (pc := 226) 1 dL_law_226 rfl rfl ?_
  refine x_iload hG (pc := 227) dL_law_227 rfl ?_
  refine x_iload hG (pc := 229) dL_law_229 rfl ?_
  refine x_callVN hG hO (pc := 231) [_, _] c_X6_curve lk_L_32 (by first | assumption | exact hR.main) rfl rfl ⟨Nat.le_of_ble_eq_true rfl, Nat.le_of_ble_eq_true rfl⟩ (Nat.le_of_ble_eq_true rfl) (by rw [hG.mc]; dsimp only [rmk]; omega) (by rw [hG.ms]; dsimp only [rmk]; omega) dL_law_231 ?_
  obtain ⟨T, oe, hSt, s5, eM, eN, eE, eG⟩ := cur_x hP hk hbb
  refine ⟨L, S, nI k, bb, rfl, hR, hI, hbb, Out.of0 oe (fun L1 w1 hth hR1 hF1 => ?_)⟩
  have hm1 := hR1.main
  rw [show L1.1 (1, 0, 0) = L.1 (1, 0, 0) from hth] at hm1
  have hB1 := hB.frm hF1
  have hq1 := hF1 _ _ hq (by show 50 ≤ 82; decide)
  have hIT := hSt.1.1.1
  show X g w1 _ _ 234 _ [.int (sS S k 5)]
  refine x_aload_n hG (pc := 234) 2 dL_law_234 rfl rfl ?_
  refine x_iload hG (pc := 235) dL_law_235 rfl ?_
  refine x_aaldI hG (pc := 237) hB1.1 (vp_in_nI hk (by decide)) dL_law_237 ?_
  rw [nI_clamp (by omega), if_pos hk]
  obtain ⟨f, hf1, hf2⟩ := hB1.2 k hk
  show X g w1 _ _ _ _ [.ref (r k), .int (sS S k 5)]
  refine x_iconst hG (pc := 238) 5 dL_law_238 (by decide) ?_
  refine x_iald hG (pc := 239) hf1 (vp_in_nI (n := 5) (by decide) (by decide)) dL_law_239 ?_
  rw [show f (5 : Int32).toNatClampNeg = sS S k 5 from (hf2 5 (by decide)).trans (ofS_lt (by decide))]
  refine x_iconst hG (pc := 240) 1 dL_law_240 (by decide) ?_
  refine dia_icne hG (pc := 241) 248 249 dL_law_241 (by decide) dL_law_244 dL_law_245 (by decide) dL_law_248 (by decide) ?_
  refine x_icmp_ne hG (pc := 249) 272 dL_law_249 (by decide) (fun h249 => ?_) (fun h249 => ?_)
  · exact absurd (b01 (hI.1 k hk).2.2.1) h249
  · refine x_aload_n hG (pc := 252) 1 dL_law_252 rfl rfl ?_
    refine x_iload hG (pc := 253) dL_law_253 rfl ?_
    refine x_iconst hG (pc := 255) 5 dL_law_255 (by decide) ?_
    refine x_callVN hG hO (pc := 256) [_, _] v_X6_ofSection lk_L_36 hm1 rfl rfl ⟨Nat.le_of_ble_eq_true rfl, Nat.le_of_ble_eq_true rfl⟩ (Nat.le_of_ble_eq_true rfl) (by rw [hG.mc]; dsimp only [rmk]; omega) (by rw [hG.ms]; dsimp only [rmk]; omega) dL_law_256 ?_
    refine ⟨L1, T, k, 5, (congrArg (fun z => [Value.ref z, .int (nI k), .int 5]) hth.symm), hR1, hIT, hk, by decide, ?_⟩
    rw [show ofS T k 5 = bb from s5]
    refine x_iload hG (pc := 259) dL_law_259 rfl ?_
    refine dia_eq hG (pc := 261) 268 269 dL_law_261 (by decide) dL_law_264 dL_law_265 (by decide) dL_law_268 (by decide) ?_
    refine x_icmp_eq hG (pc := 269) 1022 dL_law_269 (by decide) (fun h269 => ?_) (fun h269 => ?_)
    · exact law_tail hG hO hτ nx hth hR1 hSt (Or.inr ⟨by decide, rfl⟩) hB1 hq1 (by rw [eM]) (by rw [eN]) (by rw [eE]) eG.symm (by first | omega | (dsimp only [rmk]; omega)) (by first | omega | (dsimp only [rmk]; omega))
    · exact absurd (b10 hbb) h269
set_option maxHeartbeats 1000000 in
set_option maxRecDepth 100000 in
theorem law_c1 : Cas 274 := by
  intro nm g b q qs r τ k L S w kc ks x nt z17 z18 z19 z20 hG hO hτ hk hnt nx hLw hkc hks
  obtain ⟨hR, hP, hB, hq⟩ := hLw
  have hI := hP.1.1
  have hM4 := hI.2.1.1
  have hN16 := hI.2.1.2.1
  have hE12 := hI.2.1.2.2
  refine x_iload hG (pc := 274) dL_law_274 rfl ?_
  refine x_iconst hG (pc := 276) 3 dL_law_276 (by decide) ?_
  refine x_ishr hG (pc := 277) dL_law_277 ?_
  refine x_sipush hG (pc := 278) 161 dL_law_278 (by decide) ?_
  refine x_callSN hG hO (pc := 281) [_, _] c_L_below lk_L_24 rfl rfl ⟨Nat.le_of_ble_eq_true rfl, Nat.le_of_ble_eq_true rfl⟩ (Nat.le_of_ble_eq_true rfl) (by rw [hG.mc]; dsimp only [rmk]; omega) (by rw [hG.ms]; dsimp only [rmk]; omega) dL_law_281 ?_
  refine ⟨_, 161, rfl, by decide, by decide, fun r1 hr1 => ?_⟩
  refine x_istore hG (pc := 284) dL_law_284 (Nat.le_of_ble_eq_true rfl) rfl (by dsimp only [List.set]) ?_
  refine x_aload_n hG (pc := 286) 1 dL_law_286 rfl rfl ?_
  refine x_iload hG (pc := 287) dL_law_287 rfl ?_
  refine x_iload hG (pc := 289) dL_law_289 rfl ?_
  refine x_callVN hG hO (pc := 291) [_, _] c_X6_sign lk_L_39 (by first | assumption | exact hR.main) rfl rfl ⟨Nat.le_of_ble_eq_true rfl, Nat.le_of_ble_eq_true rfl⟩ (Nat.le_of_ble_eq_true rfl) (by rw [hG.mc]; dsimp only [rmk]; omega) (by rw [hG.ms]; dsimp only [rmk]; omega) dL_law_291 ?_
  obtain ⟨T, oe, hSt, s5, eM, eN, eE, eG⟩ := sig_x hP hk (show r1 ≤ 160 by omega)
  refine ⟨L, S, nI k, nI r1, rfl, hR, hI, Out.of0 oe (fun L1 w1 hth hR1 hF1 => ?_)⟩
  have hm1 := hR1.main
  rw [show L1.1 (1, 0, 0) = L.1 (1, 0, 0) from hth] at hm1
  have hB1 := hB.frm hF1
  have hq1 := hF1 _ _ hq (by show 50 ≤ 82; decide)
  have hIT := hSt.1.1.1
  show X g w1 _ _ 294 _ [.int (sS S k 6)]
  refine x_aload_n hG (pc := 294) 2 dL_law_294 rfl rfl ?_
  refine x_iload hG (pc := 295) dL_law_295 rfl ?_
  refine x_aaldI hG (pc := 297) hB1.1 (vp_in_nI hk (by decide)) dL_law_297 ?_
  rw [nI_clamp (by omega), if_pos hk]
  obtain ⟨f, hf1, hf2⟩ := hB1.2 k hk
  show X g w1 _ _ _ _ [.ref (r k), .int (sS S k 6)]
  refine x_bipush hG (pc := 298) 6 dL_law_298 (by decide) ?_
  refine x_iald hG (pc := 300) hf1 (vp_in_nI (n := 6) (by decide) (by decide)) dL_law_300 ?_
  rw [show f (6 : Int32).toNatClampNeg = sS S k 6 from (hf2 6 (by decide)).trans (ofS_lt (by decide))]
  refine x_icmp_ne hG (pc := 301) 317 dL_law_301 (by decide) (fun h301 => ?_) (fun h301 => ?_)
  · exact absurd rfl h301
  · refine x_aload_n hG (pc := 304) 1 dL_law_304 rfl rfl ?_
    refine x_iload hG (pc := 305) dL_law_305 rfl ?_
    refine x_bipush hG (pc := 307) 6 dL_law_307 (by decide) ?_
    refine x_callVN hG hO (pc := 309) [_, _] v_X6_ofSection lk_L_36 hm1 rfl rfl ⟨Nat.le_of_ble_eq_true rfl, Nat.le_of_ble_eq_true rfl⟩ (Nat.le_of_ble_eq_true rfl) (by rw [hG.mc]; dsimp only [rmk]; omega) (by rw [hG.ms]; dsimp only [rmk]; omega) dL_law_309 ?_
    refine ⟨L1, T, k, 6, (congrArg (fun z => [Value.ref z, .int (nI k), .int 6]) hth.symm), hR1, hIT, hk, by decide, ?_⟩
    rw [show ofS T k 6 = nI r1 from s5]
    refine x_iload hG (pc := 312) dL_law_312 rfl ?_
    refine x_icmp_eq hG (pc := 314) 1022 dL_law_314 (by decide) (fun h314 => ?_) (fun h314 => ?_)
    · exact law_tail hG hO hτ nx hth hR1 hSt (Or.inl ⟨Int32.not_lt.mp (nI_nn (by omega)), rfl⟩) hB1 hq1 (by rw [eM]) (by rw [eN]) (by rw [eE]) eG.symm (by first | omega | (dsimp only [rmk]; omega)) (by first | omega | (dsimp only [rmk]; omega))
    · exact absurd rfl h314
set_option maxHeartbeats 1000000 in
set_option maxRecDepth 100000 in
theorem law_c2 : Cas 319 := by
  intro nm g b q qs r τ k L S w kc ks x nt z17 z18 z19 z20 hG hO hτ hk hnt nx hLw hkc hks
  obtain ⟨hR, hP, hB, hq⟩ := hLw
  have hI := hP.1.1
  have hM4 := hI.2.1.1
  have hN16 := hI.2.1.2.1
  have hE12 := hI.2.1.2.2
  refine x_iload hG (pc := 319) dL_law_319 rfl ?_
  refine x_iconst hG (pc := 321) 4 dL_law_321 (by decide) ?_
  refine x_icmp_ne hG (pc := 322) 328 dL_law_322 (by decide) (fun h322 => ?_) (fun h322 => ?_)
  · have hM : nM S < 4 := by
      rcases Nat.lt_or_ge (nM S) 4 with z | z
      · exact z
      · exact absurd (show nI (nM S) = 4 from congrArg nI (show nM S = 4 by omega)) h322
    refine x_aload_n hG (pc := 328) 1 dL_law_328 rfl rfl ?_
    refine x_iload hG (pc := 329) dL_law_329 rfl ?_
    refine x_iconst hG (pc := 331) 3 dL_law_331 (by decide) ?_
    refine x_ishr hG (pc := 332) dL_law_332 ?_
    refine x_iconst hG (pc := 333) 3 dL_law_333 (by decide) ?_
    refine x_callSN hG hO (pc := 334) [_, _] c_L_below lk_L_24 rfl rfl ⟨Nat.le_of_ble_eq_true rfl, Nat.le_of_ble_eq_true rfl⟩ (Nat.le_of_ble_eq_true rfl) (by rw [hG.mc]; dsimp only [rmk]; omega) (by rw [hG.ms]; dsimp only [rmk]; omega) dL_law_334 ?_
    refine ⟨_, 3, rfl, by decide, by decide, fun r1 hr1 => ?_⟩
    refine x_iload hG (pc := 337) dL_law_337 rfl ?_
    refine x_iconst hG (pc := 339) 5 dL_law_339 (by decide) ?_
    refine x_ishr hG (pc := 340) dL_law_340 ?_
    refine x_bipush hG (pc := 341) 60 dL_law_341 (by decide) ?_
    refine x_callSN hG hO (pc := 343) [_, _] c_L_below lk_L_24 rfl rfl ⟨Nat.le_of_ble_eq_true rfl, Nat.le_of_ble_eq_true rfl⟩ (Nat.le_of_ble_eq_true rfl) (by rw [hG.mc]; dsimp only [rmk]; omega) (by rw [hG.ms]; dsimp only [rmk]; omega) dL_law_343 ?_
    refine ⟨_, 60, rfl, by decide, by decide, fun r2 hr2 => ?_⟩
    refine x_callVN hG hO (pc := 346) [_, _] c_X6_machine lk_L_42 (by first | assumption | exact hR.main) rfl rfl ⟨Nat.le_of_ble_eq_true rfl, Nat.le_of_ble_eq_true rfl⟩ (Nat.le_of_ble_eq_true rfl) (by rw [hG.mc]; dsimp only [rmk]; omega) (by rw [hG.ms]; dsimp only [rmk]; omega) dL_law_346 ?_
    obtain ⟨T, oe, hSt, eM, eN, eE, eG⟩ := mac_x hP (show r1 ≤ 2 by omega) (show r2 ≤ 99 by omega) hM
    refine ⟨L, S, nI r1, nI r2, rfl, hR, hI, Out.of0 oe (fun L1 w1 hth hR1 hF1 => ?_)⟩
    have hm1 := hR1.main
    rw [show L1.1 (1, 0, 0) = L.1 (1, 0, 0) from hth] at hm1
    have hB1 := hB.frm hF1
    have hq1 := hF1 _ _ hq (by show 50 ≤ 82; decide)
    have hIT := hSt.1.1.1
    show X g w1 _ _ 349 _ [.int (nI (nM S))]
    refine x_iload hG (pc := 349) dL_law_349 rfl ?_
    refine x_icmp_eq hG (pc := 351) 356 dL_law_351 (by decide) (fun h351 => ?_) (fun h351 => ?_)
    · refine x_iinc hG (pc := 356) (nI (nM S + 1)) dL_law_356 rfl (Nat.le_of_ble_eq_true rfl) rfl (nI_1' _) (by dsimp only [List.set]) ?_
      refine x_goto hG (pc := 359) 1022 dL_law_359 (by decide) ?_
      exact law_tail hG hO hτ nx hth hR1 hSt (Or.inr ⟨by decide, rfl⟩) hB1 hq1 (by rw [eM]) (by rw [eN]) (by rw [eE]) eG.symm (by first | omega | (dsimp only [rmk]; omega)) (by first | omega | (dsimp only [rmk]; omega))
    · exact absurd rfl h351
  · refine x_goto hG (pc := 325) 1022 dL_law_325 (by decide) ?_
    exact law_tail hG hO hτ nx rfl hR (Ste.none hP) (Or.inr ⟨by decide, rfl⟩) hB hq rfl rfl rfl rfl (by first | omega | (dsimp only [rmk]; omega)) (by first | omega | (dsimp only [rmk]; omega))
set_option maxHeartbeats 1000000 in
set_option maxRecDepth 100000 in
theorem law_c3 : Cas 362 := by
  intro nm g b q qs r τ k L S w kc ks x nt z17 z18 z19 z20 hG hO hτ hk hnt nx hLw hkc hks
  obtain ⟨hR, hP, hB, hq⟩ := hLw
  have hI := hP.1.1
  have hM4 := hI.2.1.1
  have hN16 := hI.2.1.2.1
  have hE12 := hI.2.1.2.2
  refine x_iload hG (pc := 362) dL_law_362 rfl ?_
  refine x_bipush hG (pc := 364) 7 dL_law_364 (by decide) ?_
  refine x_ishr hG (pc := 366) dL_law_366 ?_
  refine x_iconst hG (pc := 367) 2 dL_law_367 (by decide) ?_
  refine x_callSN hG hO (pc := 368) [_, _] c_L_below lk_L_24 rfl rfl ⟨Nat.le_of_ble_eq_true rfl, Nat.le_of_ble_eq_true rfl⟩ (Nat.le_of_ble_eq_true rfl) (by rw [hG.mc]; dsimp only [rmk]; omega) (by rw [hG.ms]; dsimp only [rmk]; omega) dL_law_368 ?_
  refine ⟨_, 2, rfl, by decide, by decide, fun r1 hr1 => ?_⟩
  refine x_istore hG (pc := 371) dL_law_371 (Nat.le_of_ble_eq_true rfl) rfl (by dsimp only [List.set]) ?_
  refine x_iload hG (pc := 373) dL_law_373 rfl ?_
  refine x_iconst hG (pc := 375) 4 dL_law_375 (by decide) ?_
  refine x_ishr hG (pc := 376) dL_law_376 ?_
  refine x_bipush hG (pc := 377) 10 dL_law_377 (by decide) ?_
  refine x_callSN hG hO (pc := 379) [_, _] c_L_below lk_L_24 rfl rfl ⟨Nat.le_of_ble_eq_true rfl, Nat.le_of_ble_eq_true rfl⟩ (Nat.le_of_ble_eq_true rfl) (by rw [hG.mc]; dsimp only [rmk]; omega) (by rw [hG.ms]; dsimp only [rmk]; omega) dL_law_379 ?_
  refine ⟨_, 10, rfl, by decide, by decide, fun r2 hr2 => ?_⟩
  refine x_istore hG (pc := 382) dL_law_382 (Nat.le_of_ble_eq_true rfl) rfl (by dsimp only [List.set]) ?_
  refine x_bipush hG (pc := 384) 9 dL_law_384 (by decide) ?_
  refine x_iload hG (pc := 386) dL_law_386 rfl ?_
  refine x_iload hG (pc := 388) dL_law_388 rfl ?_
  refine x_iconst hG (pc := 390) 2 dL_law_390 (by decide) ?_
  refine x_ishr hG (pc := 391) dL_law_391 ?_
  refine x_iconst hG (pc := 392) 4 dL_law_392 (by decide) ?_
  refine x_callSN hG hO (pc := 393) [_, _] c_L_below lk_L_24 rfl rfl ⟨Nat.le_of_ble_eq_true rfl, Nat.le_of_ble_eq_true rfl⟩ (Nat.le_of_ble_eq_true rfl) (by rw [hG.mc]; dsimp only [rmk]; omega) (by rw [hG.ms]; dsimp only [rmk]; omega) dL_law_393 ?_
  refine ⟨_, 4, rfl, by decide, by decide, fun r3 hr3 => ?_⟩
  refine x_iadd hG (pc := 396) dL_law_396 ?_
  refine x_mmin hG (pc := 397) lk_L_45 dL_law_397 (by decide) (Nat.le_of_ble_eq_true rfl) (by rw [hG.mc]; dsimp only [rmk]; omega) (by rw [hG.ms]; dsimp only [rmk]; omega) ?_
  rw [show mn 9 (nI r2 + nI r3) = nI (min 9 (r2 + r3)) from by rw [nI_add]; exact mn_nI (a := 9) (by decide) (by omega)]
  obtain ⟨r4, hr4, er4⟩ : ∃ r4, (r2 ≤ r4 ∧ r4 < 10) ∧ r4 = min 9 (r2 + r3) := ⟨_, by omega, rfl⟩
  rw [← er4]
  refine x_istore hG (pc := 400) dL_law_400 (Nat.le_of_ble_eq_true rfl) rfl (by dsimp only [List.set]) ?_
  refine x_iload hG (pc := 402) dL_law_402 rfl ?_
  refine x_bipush hG (pc := 404) 16 dL_law_404 (by decide) ?_
  refine x_icmp_ne hG (pc := 406) 412 dL_law_406 (by decide) (fun h406 => ?_) (fun h406 => ?_)
  · have hN : nN S < 16 := by
      rcases Nat.lt_or_ge (nN S) 16 with z | z
      · exact z
      · exact absurd (show nI (nN S) = 16 from congrArg nI (show nN S = 16 by omega)) h406
    refine x_aload_n hG (pc := 412) 1 dL_law_412 rfl rfl ?_
    refine x_iload hG (pc := 413) dL_law_413 rfl ?_
    refine x_iload hG (pc := 415) dL_law_415 rfl ?_
    refine x_iload hG (pc := 417) dL_law_417 rfl ?_
    refine x_callVN hG hO (pc := 419) [_, _, _] v_X6_freeDay lk_L_50 hR.main rfl rfl ⟨Nat.le_of_ble_eq_true rfl, Nat.le_of_ble_eq_true rfl⟩ (Nat.le_of_ble_eq_true rfl) (by rw [hG.mc]; dsimp only [rmk]; omega) (by rw [hG.ms]; dsimp only [rmk]; omega) dL_law_419 ?_
    refine ⟨L, S, nI r1, nI r2, nI r4, rfl, hR, hI, c_str0 hr1 hr4.1 hr4.2, ?_⟩
    refine x_istore hG (pc := 422) dL_law_422 (Nat.le_of_ble_eq_true rfl) rfl (by dsimp only [List.set]) ?_
    refine x_aload_n hG (pc := 424) 1 dL_law_424 rfl rfl ?_
    refine x_iload hG (pc := 425) dL_law_425 rfl ?_
    refine x_iload hG (pc := 427) dL_law_427 rfl ?_
    refine x_iload hG (pc := 429) dL_law_429 rfl ?_
    refine x_iload hG (pc := 431) dL_law_431 rfl ?_
    refine x_iconst hG (pc := 433) 2 dL_law_433 (by decide) ?_
    refine x_iload hG (pc := 434) dL_law_434 rfl ?_
    refine x_iconst hG (pc := 436) 3 dL_law_436 (by decide) ?_
    refine x_ishr hG (pc := 437) dL_law_437 ?_
    refine x_bipush hG (pc := 438) 7 dL_law_438 (by decide) ?_
    refine x_callSN hG hO (pc := 440) [_, _] c_L_below lk_L_24 rfl rfl ⟨Nat.le_of_ble_eq_true rfl, Nat.le_of_ble_eq_true rfl⟩ (Nat.le_of_ble_eq_true rfl) (by rw [hG.mc]; dsimp only [rmk]; omega) (by rw [hG.ms]; dsimp only [rmk]; omega) dL_law_440 ?_
    refine ⟨_, 7, rfl, by decide, by decide, fun r5 hr5 => ?_⟩
    refine x_iadd hG (pc := 443) dL_law_443 ?_
    rw [show (2 : Int32) + nI r5 = nI (2 + r5) from nI_add 2 r5]
    refine x_callVN hG hO (pc := 444) [_, _, _, _, _] c_X6_book lk_L_54 (by first | assumption | exact hR.main) rfl rfl ⟨Nat.le_of_ble_eq_true rfl, Nat.le_of_ble_eq_true rfl⟩ (Nat.le_of_ble_eq_true rfl) (by rw [hG.mc]; dsimp only [rmk]; omega) (by rw [hG.ms]; dsimp only [rmk]; omega) dL_law_444 ?_
    obtain ⟨T, oe, hSt, n4, n6, eM, eN, eE, eG⟩ := boo_x (hr := 2 + r5) hP (by omega) hr1 hr4.1 hr4.2 (by omega) (by omega) hN
    refine ⟨L, S, nI r1, nI r2, nI r4, fre S (nI r1) (nI r2) (nI r4), nI (2 + r5), rfl, hR, hI, Out.of0 oe (fun L1 w1 hth hR1 hF1 => ?_)⟩
    have hm1 := hR1.main
    rw [show L1.1 (1, 0, 0) = L.1 (1, 0, 0) from hth] at hm1
    have hB1 := hB.frm hF1
    have hq1 := hF1 _ _ hq (by show 50 ≤ 82; decide)
    have hIT := hSt.1.1.1
    show X g w1 _ _ 447 _ [.int (nI (nN S))]
    refine x_iload hG (pc := 447) dL_law_447 rfl ?_
    refine x_icmp_ne hG (pc := 449) 475 dL_law_449 (by decide) (fun h449 => ?_) (fun h449 => ?_)
    · exact absurd rfl h449
    · refine x_aload_n hG (pc := 452) 1 dL_law_452 rfl rfl ?_
      refine x_iload hG (pc := 453) dL_law_453 rfl ?_
      refine x_iconst hG (pc := 455) 4 dL_law_455 (by decide) ?_
      refine x_callVN hG hO (pc := 456) [_, _] v_X6_ofPossession lk_L_58 hm1 rfl rfl ⟨Nat.le_of_ble_eq_true rfl, Nat.le_of_ble_eq_true rfl⟩ (Nat.le_of_ble_eq_true rfl) (by rw [hG.mc]; dsimp only [rmk]; omega) (by rw [hG.ms]; dsimp only [rmk]; omega) dL_law_456 ?_
      refine ⟨L1, T, nN S, 4, (congrArg (fun z => [Value.ref z, .int (nI (nN S)), .int 4]) hth.symm), hR1, hIT, (by omega), by decide, ?_⟩
      rw [n4]
      refine x_iload hG (pc := 459) dL_law_459 rfl ?_
      refine x_icmp_ne hG (pc := 461) 475 dL_law_461 (by decide) (fun h461 => ?_) (fun h461 => ?_)
      · exact absurd rfl h461
      · refine x_aload_n hG (pc := 464) 1 dL_law_464 rfl rfl ?_
        refine x_iload hG (pc := 465) dL_law_465 rfl ?_
        refine x_bipush hG (pc := 467) 6 dL_law_467 (by decide) ?_
        refine x_callVN hG hO (pc := 469) [_, _] v_X6_ofPossession lk_L_58 hm1 rfl rfl ⟨Nat.le_of_ble_eq_true rfl, Nat.le_of_ble_eq_true rfl⟩ (Nat.le_of_ble_eq_true rfl) (by rw [hG.mc]; dsimp only [rmk]; omega) (by rw [hG.ms]; dsimp only [rmk]; omega) dL_law_469 ?_
        refine ⟨L1, T, nN S, 6, (congrArg (fun z => [Value.ref z, .int (nI (nN S)), .int 6]) hth.symm), hR1, hIT, (by omega), by decide, ?_⟩
        rw [n6]
        refine x_if_eq hG (pc := 472) 477 dL_law_472 (by decide) (fun h472 => ?_) (fun h472 => ?_)
        · refine x_iinc hG (pc := 477) (nI (nN S + 1)) dL_law_477 rfl (Nat.le_of_ble_eq_true rfl) rfl (nI_1' _) (by dsimp only [List.set]) ?_
          refine x_goto hG (pc := 480) 1022 dL_law_480 (by decide) ?_
          exact law_tail hG hO hτ nx hth hR1 hSt (Or.inr ⟨by decide, rfl⟩) hB1 hq1 (by rw [eM]) (by rw [eN]) (by rw [eE]) eG.symm (by first | omega | (dsimp only [rmk]; omega)) (by first | omega | (dsimp only [rmk]; omega))
        · exact absurd rfl h472
  · refine x_goto hG (pc := 409) 1022 dL_law_409 (by decide) ?_
    exact law_tail hG hO hτ nx rfl hR (Ste.none hP) (Or.inr ⟨by decide, rfl⟩) hB hq rfl rfl rfl rfl (by first | omega | (dsimp only [rmk]; omega)) (by first | omega | (dsimp only [rmk]; omega))
set_option maxHeartbeats 1000000 in
set_option maxRecDepth 100000 in
theorem law_c4 : Cas 483 := by
  intro nm g b q qs r τ k L S w kc ks x nt z17 z18 z19 z20 hG hO hτ hk hnt nx hLw hkc hks
  obtain ⟨hR, hP, hB, hq⟩ := hLw
  have hI := hP.1.1
  have hM4 := hI.2.1.1
  have hN16 := hI.2.1.2.1
  have hE12 := hI.2.1.2.2
  refine x_iload hG (pc := 483) dL_law_483 rfl ?_
  refine x_if_lt hG (pc := 485) 1022 dL_law_485 (by decide) (fun h485 => ?_) (fun h485 => ?_)
  · exact law_tail hG hO hτ nx rfl hR (Ste.none hP) (Or.inr ⟨by decide, rfl⟩) hB hq rfl rfl rfl rfl (by first | omega | (dsimp only [rmk]; omega)) (by first | omega | (dsimp only [rmk]; omega))
  · obtain ⟨n, hn, rfl⟩ : ∃ n, n < nN S ∧ nt = nI n := hnt.elim (fun z => absurd (show nt < 0 by rw [z.2]; decide) h485) id
    refine x_iload hG (pc := 488) dL_law_488 rfl ?_
    refine x_if_eq hG (pc := 490) 1022 dL_law_490 (by decide) (fun h490 => ?_) (fun h490 => ?_)
    · exact law_tail hG hO hτ nx rfl hR (Ste.none hP) (Or.inr ⟨by decide, rfl⟩) hB hq rfl rfl rfl rfl (by first | omega | (dsimp only [rmk]; omega)) (by first | omega | (dsimp only [rmk]; omega))
    · have hM0 : 0 < nM S := by
        rcases Nat.eq_zero_or_pos (nM S) with z | z
        · exact absurd (show nI (nM S) = 0 from congrArg nI z) h490
        · exact z
      refine x_aload_n hG (pc := 493) 3 dL_law_493 rfl rfl ?_
      refine x_iload hG (pc := 494) dL_law_494 rfl ?_
      refine x_iald hG (pc := 496) hq (vp_in_nI (show n < 16 by omega) (by decide)) dL_law_496 ?_
      rw [nI_clamp (by omega), show stF S n = gS S n 0 from if_pos hn]
      refine x_if_eq hG (pc := 497) 503 dL_law_497 (by decide) (fun h497 => ?_) (fun h497 => ?_)
      · obtain ⟨a, p, q9, ha, hpq, hq9, ea, ep, eq⟩ := ng_nI hP hn
        refine x_bipush hG (pc := 503) 10 dL_law_503 (by decide) ?_
        refine x_aload_n hG (pc := 505) 1 dL_law_505 rfl rfl ?_
        refine x_iload hG (pc := 506) dL_law_506 rfl ?_
        refine x_iconst hG (pc := 508) 1 dL_law_508 (by decide) ?_
        refine x_callVN hG hO (pc := 509) [_, _] v_X6_ofPossession lk_L_58 hR.main rfl rfl ⟨Nat.le_of_ble_eq_true rfl, Nat.le_of_ble_eq_true rfl⟩ (Nat.le_of_ble_eq_true rfl) (by rw [hG.mc]; dsimp only [rmk]; omega) (by rw [hG.ms]; dsimp only [rmk]; omega) dL_law_509 ?_
        refine ⟨L, S, n, 1, rfl, hR, hI, hn, by decide, ?_⟩
        rw [ea]
        refine x_imul hG (pc := 512) dL_law_512 ?_
        refine x_aload_n hG (pc := 513) 1 dL_law_513 rfl rfl ?_
        refine x_iload hG (pc := 514) dL_law_514 rfl ?_
        refine x_iconst hG (pc := 516) 2 dL_law_516 (by decide) ?_
        refine x_callVN hG hO (pc := 517) [_, _] v_X6_ofPossession lk_L_58 hR.main rfl rfl ⟨Nat.le_of_ble_eq_true rfl, Nat.le_of_ble_eq_true rfl⟩ (Nat.le_of_ble_eq_true rfl) (by rw [hG.mc]; dsimp only [rmk]; omega) (by rw [hG.ms]; dsimp only [rmk]; omega) dL_law_517 ?_
        refine ⟨L, S, n, 2, rfl, hR, hI, hn, by decide, ?_⟩
        rw [ep]
        refine x_iadd hG (pc := 520) dL_law_520 ?_
        refine x_iload hG (pc := 521) dL_law_521 rfl ?_
        refine x_iconst hG (pc := 523) 3 dL_law_523 (by decide) ?_
        refine x_ishr hG (pc := 524) dL_law_524 ?_
        refine x_aload_n hG (pc := 525) 1 dL_law_525 rfl rfl ?_
        refine x_iload hG (pc := 526) dL_law_526 rfl ?_
        refine x_iconst hG (pc := 528) 3 dL_law_528 (by decide) ?_
        refine x_callVN hG hO (pc := 529) [_, _] v_X6_ofPossession lk_L_58 hR.main rfl rfl ⟨Nat.le_of_ble_eq_true rfl, Nat.le_of_ble_eq_true rfl⟩ (Nat.le_of_ble_eq_true rfl) (by rw [hG.mc]; dsimp only [rmk]; omega) (by rw [hG.ms]; dsimp only [rmk]; omega) dL_law_529 ?_
        refine ⟨L, S, n, 3, rfl, hR, hI, hn, by decide, ?_⟩
        rw [eq]
        refine x_aload_n hG (pc := 532) 1 dL_law_532 rfl rfl ?_
        refine x_iload hG (pc := 533) dL_law_533 rfl ?_
        refine x_iconst hG (pc := 535) 2 dL_law_535 (by decide) ?_
        refine x_callVN hG hO (pc := 536) [_, _] v_X6_ofPossession lk_L_58 hR.main rfl rfl ⟨Nat.le_of_ble_eq_true rfl, Nat.le_of_ble_eq_true rfl⟩ (Nat.le_of_ble_eq_true rfl) (by rw [hG.mc]; dsimp only [rmk]; omega) (by rw [hG.ms]; dsimp only [rmk]; omega) dL_law_536 ?_
        refine ⟨L, S, n, 2, rfl, hR, hI, hn, by decide, ?_⟩
        rw [ep]
        refine x_isub hG (pc := 539) dL_law_539 ?_
        refine x_iconst hG (pc := 540) 1 dL_law_540 (by decide) ?_
        refine x_iadd hG (pc := 541) dL_law_541 ?_
        rw [show nI q9 - nI p + 1 = nI (q9 - p + 1) from by rw [nI_sub hpq]; exact nI_add _ 1]
        refine x_callSN hG hO (pc := 542) [_, _] c_L_below lk_L_24 rfl rfl ⟨Nat.le_of_ble_eq_true rfl, Nat.le_of_ble_eq_true rfl⟩ (Nat.le_of_ble_eq_true rfl) (by rw [hG.mc]; dsimp only [rmk]; omega) (by rw [hG.ms]; dsimp only [rmk]; omega) dL_law_542 ?_
        refine ⟨_, q9 - p + 1, rfl, by omega, by omega, fun r1 hr1 => ?_⟩
        refine x_iadd hG (pc := 545) dL_law_545 ?_
        rw [show (10 : Int32) * nI a + nI p + nI r1 = nI (10 * a + p + r1) from by rw [show (10 : Int32) = nI 10 from rfl, nI_mul, nI_add, nI_add]]
        have hhas : ¬ s_has (gS S n 1) (gS S n 2) (gS S n 3) (nI (10 * a + p + r1)) = 0 := by
          rw [show gS S n 1 = nI a from ea, show gS S n 2 = nI p from ep, show gS S n 3 = nI q9 from eq]
          exact has_ok ha hq9 (by omega)
        refine x_istore hG (pc := 546) dL_law_546 (Nat.le_of_ble_eq_true rfl) rfl (by dsimp only [List.set]) ?_
        refine x_aload_n hG (pc := 548) 1 dL_law_548 rfl rfl ?_
        refine x_iload hG (pc := 549) dL_law_549 rfl ?_
        refine x_bipush hG (pc := 551) 7 dL_law_551 (by decide) ?_
        refine x_callVN hG hO (pc := 553) [_, _] v_X6_ofPossession lk_L_58 hR.main rfl rfl ⟨Nat.le_of_ble_eq_true rfl, Nat.le_of_ble_eq_true rfl⟩ (Nat.le_of_ble_eq_true rfl) (by rw [hG.mc]; dsimp only [rmk]; omega) (by rw [hG.ms]; dsimp only [rmk]; omega) dL_law_553 ?_
        refine ⟨L, S, n, 7, rfl, hR, hI, hn, by decide, ?_⟩
        refine x_istore hG (pc := 556) dL_law_556 (Nat.le_of_ble_eq_true rfl) rfl (by dsimp only [List.set]) ?_
        refine x_aload_n hG (pc := 558) 1 dL_law_558 rfl rfl ?_
        refine x_iload hG (pc := 559) dL_law_559 rfl ?_
        refine x_bipush hG (pc := 561) 6 dL_law_561 (by decide) ?_
        refine x_callVN hG hO (pc := 563) [_, _] v_X6_ofPossession lk_L_58 hR.main rfl rfl ⟨Nat.le_of_ble_eq_true rfl, Nat.le_of_ble_eq_true rfl⟩ (Nat.le_of_ble_eq_true rfl) (by rw [hG.mc]; dsimp only [rmk]; omega) (by rw [hG.ms]; dsimp only [rmk]; omega) dL_law_563 ?_
        refine ⟨L, S, n, 6, rfl, hR, hI, hn, by decide, ?_⟩
        refine x_istore hG (pc := 566) dL_law_566 (Nat.le_of_ble_eq_true rfl) rfl (by dsimp only [List.set]) ?_
        refine x_aload_n hG (pc := 568) 1 dL_law_568 rfl rfl ?_
        refine x_iload hG (pc := 569) dL_law_569 rfl ?_
        refine x_iload hG (pc := 571) dL_law_571 rfl ?_
        refine x_iload hG (pc := 573) dL_law_573 rfl ?_
        refine x_iconst hG (pc := 575) 5 dL_law_575 (by decide) ?_
        refine x_ishr hG (pc := 576) dL_law_576 ?_
        refine x_iload hG (pc := 577) dL_law_577 rfl ?_
        refine x_callSN hG hO (pc := 579) [_, _] c_L_below lk_L_24 rfl rfl ⟨Nat.le_of_ble_eq_true rfl, Nat.le_of_ble_eq_true rfl⟩ (Nat.le_of_ble_eq_true rfl) (by rw [hG.mc]; dsimp only [rmk]; omega) (by rw [hG.ms]; dsimp only [rmk]; omega) dL_law_579 ?_
        refine ⟨_, nM S, rfl, hM0, by omega, fun mm hmm => ?_⟩
        by_cases hx : (oWor S (nI n) (nI (10 * a + p + r1)) (nI mm)).1 = 0
        · rcases op_wor hP hn hmm (show 10 * a + p + r1 < 20 by omega) h497 hhas with oe | ⟨x1, T, oe, hSt, ⟨v1, v2⟩, v3, v4, eM, eN, eE, eGl⟩
          · rw [oe] at hx
            exact absurd hx (show ¬ (3 : Nat) = 0 by decide)
          have eG : gl T 5 = gl S 5 := by rw [eGl]
          refine x_callSHN hG hO (pc := 582) [_, _, _, _] c_L_work lk_L_61 rfl rfl ⟨Nat.le_of_ble_eq_true rfl, Nat.le_of_ble_eq_true rfl⟩ (Nat.le_of_ble_eq_true rfl) (by rw [hG.mc]; dsimp only [rmk]; omega) (by rw [hG.ms]; dsimp only [rmk]; omega) dL_law_582 ?_
          refine ⟨L, S, nI n, nI (10 * a + p + r1), nI mm, rfl, hR, hI, Or.inl hx, fun _ L1 w1 hth hR1 hF1 => ?_, fun z => absurd (hx.symm.trans z) (by decide)⟩
          rw [oe] at hR1
          have hm1 := hR1.main
          rw [show L1.1 (1, 0, 0) = L.1 (1, 0, 0) from hth] at hm1
          have hB1 := hB.frm hF1
          have hq1 := hF1 _ _ hq (by show 50 ≤ 82; decide)
          have hIT := hSt.1.1.1
          show X g w1 _ _ 585 _ [.int (oWor S (nI n) (nI (10 * a + p + r1)) (nI mm)).2.1]
          rw [oe]
          show X g w1 _ _ 585 _ [.int x1]
          refine x_istore hG (pc := 585) dL_law_585 (Nat.le_of_ble_eq_true rfl) rfl (by dsimp only [List.set]) ?_
          refine x_iload hG (pc := 587) dL_law_587 rfl ?_
          refine x_if_ge hG (pc := 589) 621 dL_law_589 (by decide) (fun h589 => ?_) (fun h589 => ?_)
          · refine x_iload hG (pc := 621) dL_law_621 rfl ?_
            refine x_iload hG (pc := 623) dL_law_623 rfl ?_
            refine x_icmp_le hG (pc := 625) 655 dL_law_625 (by decide) (fun h625 => ?_) (fun h625 => ?_)
            · exact absurd v1 (Int32.not_lt.mpr h625)
            · refine x_iload hG (pc := 628) dL_law_628 rfl ?_
              refine x_aload_n hG (pc := 630) 1 dL_law_630 rfl rfl ?_
              refine x_iload hG (pc := 631) dL_law_631 rfl ?_
              refine x_iconst hG (pc := 633) 5 dL_law_633 (by decide) ?_
              refine x_callVN hG hO (pc := 634) [_, _] v_X6_ofPossession lk_L_58 hm1 rfl rfl ⟨Nat.le_of_ble_eq_true rfl, Nat.le_of_ble_eq_true rfl⟩ (Nat.le_of_ble_eq_true rfl) (by rw [hG.mc]; dsimp only [rmk]; omega) (by rw [hG.ms]; dsimp only [rmk]; omega) dL_law_634 ?_
              refine ⟨L1, T, n, 5, (congrArg (fun z => [Value.ref z, .int (nI (n)), .int 5]) hth.symm), hR1, hIT, (by omega), by decide, ?_⟩
              refine x_icmp_gt hG (pc := 637) 655 dL_law_637 (by decide) (fun h637 => ?_) (fun h637 => ?_)
              · exact absurd v3 (Int32.not_le.mpr h637)
              · refine x_aload_n hG (pc := 640) 1 dL_law_640 rfl rfl ?_
                refine x_iload hG (pc := 641) dL_law_641 rfl ?_
                refine x_bipush hG (pc := 643) 6 dL_law_643 (by decide) ?_
                refine x_callVN hG hO (pc := 645) [_, _] v_X6_ofPossession lk_L_58 hm1 rfl rfl ⟨Nat.le_of_ble_eq_true rfl, Nat.le_of_ble_eq_true rfl⟩ (Nat.le_of_ble_eq_true rfl) (by rw [hG.mc]; dsimp only [rmk]; omega) (by rw [hG.ms]; dsimp only [rmk]; omega) dL_law_645 ?_
                refine ⟨L1, T, n, 6, (congrArg (fun z => [Value.ref z, .int (nI (n)), .int 6]) hth.symm), hR1, hIT, (by omega), by decide, ?_⟩
                refine x_iload hG (pc := 648) dL_law_648 rfl ?_
                refine x_iconst hG (pc := 650) 1 dL_law_650 (by decide) ?_
                refine x_iadd hG (pc := 651) dL_law_651 ?_
                refine x_icmp_eq hG (pc := 652) 1022 dL_law_652 (by decide) (fun h652 => ?_) (fun h652 => ?_)
                · exact law_tail hG hO hτ nx hth hR1 hSt (Or.inr ⟨by decide, rfl⟩) hB1 hq1 (by rw [eM]) (by rw [eN]) (by rw [eE]) eG.symm (by first | omega | (dsimp only [rmk]; omega)) (by first | omega | (dsimp only [rmk]; omega))
                · exact absurd v4 h652
          · exact absurd (show (0 : Int32) ≤ x1 from tLe.mpr v2) h589
        · have h3 : (oWor S (nI n) (nI (10 * a + p + r1)) (nI mm)).1 = 3 := by
            rcases op_wor hP hn hmm (show 10 * a + p + r1 < 20 by omega) h497 hhas with oe | ⟨x1, T, oe, -⟩
            · rw [oe]
            · exact absurd (by rw [oe]) hx
          refine x_callSHN hG hO (pc := 582) [_, _, _, _] c_L_work lk_L_61 rfl rfl ⟨Nat.le_of_ble_eq_true rfl, Nat.le_of_ble_eq_true rfl⟩ (Nat.le_of_ble_eq_true rfl) (by rw [hG.mc]; dsimp only [rmk]; omega) (by rw [hG.ms]; dsimp only [rmk]; omega) dL_law_582 ?_
          refine ⟨L, S, nI n, nI (10 * a + p + r1), nI mm, rfl, hR, hI, Or.inr h3, fun z => absurd z hx, fun _ => ?_⟩
          show X g w _ _ 585 _ [.int (-1)]
          refine x_istore hG (pc := 585) dL_law_585 (Nat.le_of_ble_eq_true rfl) rfl (by dsimp only [List.set]) ?_
          refine x_iload hG (pc := 587) dL_law_587 rfl ?_
          refine x_if_ge hG (pc := 589) 621 dL_law_589 (by decide) (fun h589 => ?_) (fun h589 => ?_)
          · exact absurd h589 (by decide)
          · refine x_aload_n hG (pc := 592) 1 dL_law_592 rfl rfl ?_
            refine x_iload hG (pc := 593) dL_law_593 rfl ?_
            refine x_bipush hG (pc := 595) 6 dL_law_595 (by decide) ?_
            refine x_callVN hG hO (pc := 597) [_, _] v_X6_ofPossession lk_L_58 hR.main rfl rfl ⟨Nat.le_of_ble_eq_true rfl, Nat.le_of_ble_eq_true rfl⟩ (Nat.le_of_ble_eq_true rfl) (by rw [hG.mc]; dsimp only [rmk]; omega) (by rw [hG.ms]; dsimp only [rmk]; omega) dL_law_597 ?_
            refine ⟨L, S, n, 6, rfl, hR, hI, hn, by decide, ?_⟩
            refine x_iload hG (pc := 600) dL_law_600 rfl ?_
            refine x_icmp_ne hG (pc := 602) 655 dL_law_602 (by decide) (fun h602 => ?_) (fun h602 => ?_)
            · exact absurd rfl h602
            · refine x_aload_n hG (pc := 605) 1 dL_law_605 rfl rfl ?_
              refine x_iload hG (pc := 606) dL_law_606 rfl ?_
              refine x_bipush hG (pc := 608) 7 dL_law_608 (by decide) ?_
              refine x_callVN hG hO (pc := 610) [_, _] v_X6_ofPossession lk_L_58 hR.main rfl rfl ⟨Nat.le_of_ble_eq_true rfl, Nat.le_of_ble_eq_true rfl⟩ (Nat.le_of_ble_eq_true rfl) (by rw [hG.mc]; dsimp only [rmk]; omega) (by rw [hG.ms]; dsimp only [rmk]; omega) dL_law_610 ?_
              refine ⟨L, S, n, 7, rfl, hR, hI, hn, by decide, ?_⟩
              refine x_iload hG (pc := 613) dL_law_613 rfl ?_
              refine x_icmp_eq hG (pc := 615) 1022 dL_law_615 (by decide) (fun h615 => ?_) (fun h615 => ?_)
              · exact law_tail hG hO hτ nx rfl hR (Ste.none hP) (Or.inr ⟨by decide, rfl⟩) hB hq rfl rfl rfl rfl (by first | omega | (dsimp only [rmk]; omega)) (by first | omega | (dsimp only [rmk]; omega))
              · exact absurd rfl h615
      · refine x_goto hG (pc := 500) 1022 dL_law_500 (by decide) ?_
        exact law_tail hG hO hτ nx rfl hR (Ste.none hP) (Or.inr ⟨by decide, rfl⟩) hB hq rfl rfl rfl rfl (by first | omega | (dsimp only [rmk]; omega)) (by first | omega | (dsimp only [rmk]; omega))
set_option maxHeartbeats 1000000 in
set_option maxRecDepth 100000 in
theorem law_c5 : Cas 657 := by
  intro nm g b q qs r τ k L S w kc ks x nt z17 z18 z19 z20 hG hO hτ hk hnt nx hLw hkc hks
  obtain ⟨hR, hP, hB, hq⟩ := hLw
  have hI := hP.1.1
  have hM4 := hI.2.1.1
  have hN16 := hI.2.1.2.1
  have hE12 := hI.2.1.2.2
  refine x_iload hG (pc := 657) dL_law_657 rfl ?_
  refine x_if_lt hG (pc := 659) 1022 dL_law_659 (by decide) (fun h659 => ?_) (fun h659 => ?_)
  · exact law_tail hG hO hτ nx rfl hR (Ste.none hP) (Or.inr ⟨by decide, rfl⟩) hB hq rfl rfl rfl rfl (by first | omega | (dsimp only [rmk]; omega)) (by first | omega | (dsimp only [rmk]; omega))
  · obtain ⟨n, hn, rfl⟩ : ∃ n, n < nN S ∧ nt = nI n := hnt.elim (fun z => absurd (show nt < 0 by rw [z.2]; decide) h659) id
    refine x_aload_n hG (pc := 662) 3 dL_law_662 rfl rfl ?_
    refine x_iload hG (pc := 663) dL_law_663 rfl ?_
    refine x_iald hG (pc := 665) hq (vp_in_nI (show n < 16 by omega) (by decide)) dL_law_665 ?_
    rw [nI_clamp (by omega), show stF S n = gS S n 0 from if_pos hn]
    refine x_if_ne hG (pc := 666) 1022 dL_law_666 (by decide) (fun h666 => ?_) (fun h666 => ?_)
    · exact law_tail hG hO hτ nx rfl hR (Ste.none hP) (Or.inr ⟨by decide, rfl⟩) hB hq rfl rfl rfl rfl (by first | omega | (dsimp only [rmk]; omega)) (by first | omega | (dsimp only [rmk]; omega))
    · refine x_iload hG (pc := 669) dL_law_669 rfl ?_
      refine x_iconst hG (pc := 671) 3 dL_law_671 (by decide) ?_
      refine x_ishr hG (pc := 672) dL_law_672 ?_
      refine x_iconst hG (pc := 673) 4 dL_law_673 (by decide) ?_
      refine x_callSN hG hO (pc := 674) [_, _] c_L_below lk_L_24 rfl rfl ⟨Nat.le_of_ble_eq_true rfl, Nat.le_of_ble_eq_true rfl⟩ (Nat.le_of_ble_eq_true rfl) (by rw [hG.mc]; dsimp only [rmk]; omega) (by rw [hG.ms]; dsimp only [rmk]; omega) dL_law_674 ?_
      refine ⟨_, 4, rfl, by decide, by decide, fun r1 hr1 => ?_⟩
      refine x_if_ne hG (pc := 677) 1022 dL_law_677 (by decide) (fun h677 => ?_) (fun h677 => ?_)
      · exact law_tail hG hO hτ nx rfl hR (Ste.none hP) (Or.inr ⟨by decide, rfl⟩) hB hq rfl rfl rfl rfl (by first | omega | (dsimp only [rmk]; omega)) (by first | omega | (dsimp only [rmk]; omega))
      · refine x_aload_n hG (pc := 680) 1 dL_law_680 rfl rfl ?_
        refine x_iload hG (pc := 681) dL_law_681 rfl ?_
        refine x_callVN hG hO (pc := 683) [_] c_X6_cancel lk_L_65 (by first | assumption | exact hR.main) rfl rfl ⟨Nat.le_of_ble_eq_true rfl, Nat.le_of_ble_eq_true rfl⟩ (Nat.le_of_ble_eq_true rfl) (by rw [hG.mc]; dsimp only [rmk]; omega) (by rw [hG.ms]; dsimp only [rmk]; omega) dL_law_683 ?_
        obtain ⟨T, oe, hSt, n0, eM, eN, eE, eG⟩ := can_x hP (by omega) hn h666
        refine ⟨L, S, nI n, rfl, hR, hI, Out.of0 oe (fun L1 w1 hth hR1 hF1 => ?_)⟩
        have hm1 := hR1.main
        rw [show L1.1 (1, 0, 0) = L.1 (1, 0, 0) from hth] at hm1
        have hB1 := hB.frm hF1
        have hq1 := hF1 _ _ hq (by show 50 ≤ 82; decide)
        have hIT := hSt.1.1.1
        show X g w1 _ _ 686 _ [.int (gl T 2 - gl S 2)]
        refine x_aload_n hG (pc := 686) 1 dL_law_686 rfl rfl ?_
        refine x_bipush hG (pc := 687) 9 dL_law_687 (by decide) ?_
        refine x_callVN hG hO (pc := 689) [_] v_X6_many lk_L_28 hm1 rfl rfl ⟨Nat.le_of_ble_eq_true rfl, Nat.le_of_ble_eq_true rfl⟩ (Nat.le_of_ble_eq_true rfl) (by rw [hG.mc]; dsimp only [rmk]; omega) (by rw [hG.ms]; dsimp only [rmk]; omega) dL_law_689 ?_
        refine ⟨L1, T, 9, (congrArg (fun z => [Value.ref z, .int 9]) hth.symm), hR1, hIT, by decide, ?_⟩
        refine x_iload hG (pc := 692) dL_law_692 rfl ?_
        refine x_isub hG (pc := 694) dL_law_694 ?_
        refine x_icmp_ne hG (pc := 695) 709 dL_law_695 (by decide) (fun h695 => ?_) (fun h695 => ?_)
        · exact absurd rfl h695
        · refine x_aload_n hG (pc := 698) 1 dL_law_698 rfl rfl ?_
          refine x_iload hG (pc := 699) dL_law_699 rfl ?_
          refine x_iconst hG (pc := 701) 0 dL_law_701 (by decide) ?_
          refine x_callVN hG hO (pc := 702) [_, _] v_X6_ofPossession lk_L_58 hm1 rfl rfl ⟨Nat.le_of_ble_eq_true rfl, Nat.le_of_ble_eq_true rfl⟩ (Nat.le_of_ble_eq_true rfl) (by rw [hG.mc]; dsimp only [rmk]; omega) (by rw [hG.ms]; dsimp only [rmk]; omega) dL_law_702 ?_
          refine ⟨L1, T, n, 0, (congrArg (fun z => [Value.ref z, .int (nI (n)), .int 0]) hth.symm), hR1, hIT, (by omega), by decide, ?_⟩
          rw [n0]
          refine x_iconst hG (pc := 705) 4 dL_law_705 (by decide) ?_
          refine x_icmp_eq hG (pc := 706) 1022 dL_law_706 (by decide) (fun h706 => ?_) (fun h706 => ?_)
          · exact law_tail hG hO hτ nx hth hR1 hSt (Or.inr ⟨by decide, rfl⟩) hB1 hq1 (by rw [eM]) (by rw [eN]) (by rw [eE]) eG.symm (by first | omega | (dsimp only [rmk]; omega)) (by first | omega | (dsimp only [rmk]; omega))
          · exact absurd rfl h706
set_option maxHeartbeats 1000000 in
set_option maxRecDepth 100000 in
theorem law_c6 : Cas 711 := by
  intro nm g b q qs r τ k L S w kc ks x nt z17 z18 z19 z20 hG hO hτ hk hnt nx hLw hkc hks
  obtain ⟨hR, hP, hB, hq⟩ := hLw
  have hI := hP.1.1
  have hM4 := hI.2.1.1
  have hN16 := hI.2.1.2.1
  have hE12 := hI.2.1.2.2
  refine x_iconst hG (pc := 711) 0 dL_law_711 (by decide) ?_
  refine x_istore hG (pc := 712) dL_law_712 (Nat.le_of_ble_eq_true rfl) rfl (by dsimp only [List.set]) ?_
  have hbas : kc + 12 * 0 ≤ kc := Nat.le_refl _
  refine nat_down (P := fun j => ∀ (L1 : LayC) (T : St) (w1 : Wd) (kc1 ks1 : Nat), Mtk S T τ j → thC L1 = thC L → RepC (gΓ g) L1 T w1 → BEF (gΓ g) w1 q r (ofS S) → w1 qs = some ((82, 0, 0), aI (gK g) 16 (stF S)) → kc1 ≤ kc + 12 * j → ks1 ≤ ks + 72 * j → X g w1 kc1 ks1 714 [some (.ref b), some (.ref (thC L)), some (.ref q), some (.ref qs), some (.int (nI (nM S))), some (.int (nI (nN S))), some (.int (nI (nE S))), some (.int (gl S 5)), some (.int (nI τ)), some (.int x), some (.int (nI k)), some (.int nt), some (.int (gl S 2)), some (.int (gl S 4)), some (.int 0), some (.int 0), some (.int (-1)), some (.int (nI j)), z18, z19, z20] []) (nN S) (fun j hj ih L1 T w1 kc1 ks1 hMt hth hR1 hB1 hq1 hk1 hs1 => ?_) 0 (Nat.zero_le _) L S w kc ks (Mtk.rf hP) rfl hR hB hq (by omega) (by omega)
  obtain ⟨hPT, g1, g2, eM, eN, eE, g6, g7⟩ := id hMt
  have hm1 := hR1.main
  rw [show L1.1 (1, 0, 0) = L.1 (1, 0, 0) from hth] at hm1
  have hIT := hPT.1.1
  refine x_iload hG (pc := 714) dL_law_714 rfl ?_
  refine x_iload hG (pc := 716) dL_law_716 rfl ?_
  refine x_icmp_ge hG (pc := 718) 813 dL_law_718 (by decide) (fun h718 => ?_) (fun h718 => ?_)
  · have hSt := hMt.done hP (ge_d h718 (by omega) (by omega))
    have eG : gl T 5 = gl S 5 := by rw [g2]
    refine x_goto hG (pc := 813) 1022 dL_law_813 (by decide) ?_
    exact law_tail hG hO hτ nx hth hR1 hSt (Or.inr ⟨by decide, rfl⟩) hB1 hq1 (by rw [eM]) (by rw [eN]) (by rw [eE]) eG.symm (by first | omega | (dsimp only [rmk]; omega)) (by first | omega | (dsimp only [rmk]; omega))
  · have hjn : j < nN S := lt_d h718 (by omega) (by omega)
    have hjT : j < nN T := by rw [eN]; exact hjn
    have gj := g6 j (Nat.le_refl _)
    refine x_aload_n hG (pc := 721) 3 dL_law_721 rfl rfl ?_
    refine x_iload hG (pc := 722) dL_law_722 rfl ?_
    refine x_iald hG (pc := 724) hq1 (vp_in_nI (show j < 16 by omega) (by decide)) dL_law_724 ?_
    rw [nI_clamp (by omega), show stF S j = gS T j 0 from (if_pos hjn).trans (by rw [gj])]
    refine x_if_ne hG (pc := 725) 807 dL_law_725 (by decide) (fun h725 => ?_) (fun h725 => ?_)
    · refine x_iinc hG (pc := 807) (nI (j + 1)) dL_law_807 rfl (Nat.le_of_ble_eq_true rfl) rfl (nI_1' j) (by dsimp only [List.set]) ?_
      refine x_goto hG (pc := 810) 714 dL_law_810 (by decide) ?_
      exact ih (j + 1) (by omega) (by omega) L1 T w1 _ _ hMt.skip hth hR1 hB1 hq1 (by first | omega | (dsimp only [rmk]; omega)) (by first | omega | (dsimp only [rmk]; omega))
    · refine x_aload_n hG (pc := 728) 1 dL_law_728 rfl rfl ?_
      refine x_iload hG (pc := 729) dL_law_729 rfl ?_
      refine x_iconst hG (pc := 731) 4 dL_law_731 (by decide) ?_
      refine x_callVN hG hO (pc := 732) [_, _] v_X6_ofPossession lk_L_58 hm1 rfl rfl ⟨Nat.le_of_ble_eq_true rfl, Nat.le_of_ble_eq_true rfl⟩ (Nat.le_of_ble_eq_true rfl) (by rw [hG.mc]; dsimp only [rmk]; omega) (by rw [hG.ms]; dsimp only [rmk]; omega) dL_law_732 ?_
      refine ⟨L1, T, j, 4, (congrArg (fun z => [Value.ref z, .int (nI j), .int 4]) hth.symm), hR1, hIT, hjT, by decide, ?_⟩
      refine x_aload_n hG (pc := 735) 1 dL_law_735 rfl rfl ?_
      refine x_iconst hG (pc := 736) 0 dL_law_736 (by decide) ?_
      refine x_callVN hG hO (pc := 737) [_] v_X6_many lk_L_28 hm1 rfl rfl ⟨Nat.le_of_ble_eq_true rfl, Nat.le_of_ble_eq_true rfl⟩ (Nat.le_of_ble_eq_true rfl) (by rw [hG.mc]; dsimp only [rmk]; omega) (by rw [hG.ms]; dsimp only [rmk]; omega) dL_law_737 ?_
      refine ⟨L1, T, 0, (congrArg (fun z => [Value.ref z, .int 0]) hth.symm), hR1, hIT, by decide, ?_⟩
      refine x_icmp_ne hG (pc := 740) 807 dL_law_740 (by decide) (fun h740 => ?_) (fun h740 => ?_)
      · refine x_iinc hG (pc := 807) (nI (j + 1)) dL_law_807 rfl (Nat.le_of_ble_eq_true rfl) rfl (nI_1' j) (by dsimp only [List.set]) ?_
        refine x_goto hG (pc := 810) 714 dL_law_810 (by decide) ?_
        exact ih (j + 1) (by omega) (by omega) L1 T w1 _ _ hMt.skip hth hR1 hB1 hq1 (by first | omega | (dsimp only [rmk]; omega)) (by first | omega | (dsimp only [rmk]; omega))
      · refine x_aload_n hG (pc := 743) 1 dL_law_743 rfl rfl ?_
        refine x_iload hG (pc := 744) dL_law_744 rfl ?_
        refine x_bipush hG (pc := 746) 8 dL_law_746 (by decide) ?_
        refine x_callVN hG hO (pc := 748) [_, _] v_X6_ofPossession lk_L_58 hm1 rfl rfl ⟨Nat.le_of_ble_eq_true rfl, Nat.le_of_ble_eq_true rfl⟩ (Nat.le_of_ble_eq_true rfl) (by rw [hG.mc]; dsimp only [rmk]; omega) (by rw [hG.ms]; dsimp only [rmk]; omega) dL_law_748 ?_
        refine ⟨L1, T, j, 8, (congrArg (fun z => [Value.ref z, .int (nI j), .int 8]) hth.symm), hR1, hIT, hjT, by decide, ?_⟩
        refine x_if_le hG (pc := 751) 757 dL_law_751 (by decide) (fun h751 => ?_) (fun h751 => ?_)
        · have h8 : gS T j 8 = 0 := bits0 (hPT.1.row hjT).2.2.1 h751
          have h00 : gS T j 0 = 0 := h725
          have h44 : gS T j 4 = gl T 0 := h740
          obtain ⟨o1, o2, o3⟩ := op_mrk hPT.1 hjT h00 h44 h8
          have hJ1 := hPT.1
          have hJ2 := iv_Mrk (p := nI j) (e := 1) hJ1
          rw [o1] at hJ2
          have hJ3 := iv_Mrk (p := nI j) (e := 0) hJ2
          rw [o2] at hJ3
          have hJ4 := iv_Tak (p := nI j) hJ3
          rw [o3] at hJ4
          have hMt4 := hMt.take hjn h00 h44 h8
          have hht1 := hth
          obtain ⟨T2, hT2⟩ : ∃ T2, T2 = setN T j (rset (gS T j) 8 2) := ⟨_, rfl⟩
          rw [← hT2] at o1 o2 hJ2
          obtain ⟨T3, hT3⟩ : ∃ T3, T3 = setN T j (rset (gS T j) 8 3) := ⟨_, rfl⟩
          rw [← hT3] at o2 o3 hJ3
          obtain ⟨T4, hT4⟩ : ∃ T4, T4 = setN T j (rset (rset (gS T j) 8 3) 0 1) := ⟨_, rfl⟩
          rw [← hT4] at o3 hJ4 hMt4
          have f3 : ofN T4 j 3 = gS T j 3 := by
            show gS T4 j 3 = _
            rw [hT4, gS_setN, rset_n (by decide), rset_n (by decide)]
          have f2 : ofN T4 j 2 = gS T j 2 := by
            show gS T4 j 2 = _
            rw [hT4, gS_setN, rset_n (by decide), rset_n (by decide)]
          have hj4 : j < nN T4 := by rw [hT4]; exact hjT
          refine x_aload_n hG (pc := 757) 1 dL_law_757 rfl rfl ?_
          refine x_iload hG (pc := 758) dL_law_758 rfl ?_
          refine x_iconst hG (pc := 760) 1 dL_law_760 (by decide) ?_
          refine x_callVN hG hO (pc := 761) [_, _] c_X6_mark lk_L_68 hm1 rfl rfl ⟨Nat.le_of_ble_eq_true rfl, Nat.le_of_ble_eq_true rfl⟩ (Nat.le_of_ble_eq_true rfl) (by rw [hG.mc]; dsimp only [rmk]; omega) (by rw [hG.ms]; dsimp only [rmk]; omega) dL_law_761 ?_
          refine ⟨L1, T, nI j, 1, (congrArg (fun z => [Value.ref z, .int (nI j), .int (1)]) hht1.symm), hR1, hJ1.1, Out.of0 o1 (fun L2 w2 hth2 hR2 hF2 => ?_)⟩
          have hht2 := hth2.trans hht1
          have hm2 := hR2.main
          rw [show L2.1 (1, 0, 0) = L.1 (1, 0, 0) from hht2] at hm2
          show X g w2 _ _ 764 _ [.int 1]
          refine x_iconst hG (pc := 764) 1 dL_law_764 (by decide) ?_
          refine x_icmp_ne hG (pc := 765) 805 dL_law_765 (by decide) (fun h765 => ?_) (fun h765 => ?_)
          · exact absurd rfl h765
          · refine x_aload_n hG (pc := 768) 1 dL_law_768 rfl rfl ?_
            refine x_iload hG (pc := 769) dL_law_769 rfl ?_
            refine x_iconst hG (pc := 771) 0 dL_law_771 (by decide) ?_
            refine x_callVN hG hO (pc := 772) [_, _] c_X6_mark lk_L_68 hm2 rfl rfl ⟨Nat.le_of_ble_eq_true rfl, Nat.le_of_ble_eq_true rfl⟩ (Nat.le_of_ble_eq_true rfl) (by rw [hG.mc]; dsimp only [rmk]; omega) (by rw [hG.ms]; dsimp only [rmk]; omega) dL_law_772 ?_
            refine ⟨L2, T2, nI j, 0, (congrArg (fun z => [Value.ref z, .int (nI j), .int (0)]) hht2.symm), hR2, hJ2.1, Out.of0 o2 (fun L3 w3 hth3 hR3 hF3 => ?_)⟩
            have hht3 := hth3.trans hht2
            have hm3 := hR3.main
            rw [show L3.1 (1, 0, 0) = L.1 (1, 0, 0) from hht3] at hm3
            show X g w3 _ _ 775 _ [.int 2]
            refine x_iconst hG (pc := 775) 2 dL_law_775 (by decide) ?_
            refine x_icmp_ne hG (pc := 776) 805 dL_law_776 (by decide) (fun h776 => ?_) (fun h776 => ?_)
            · exact absurd rfl h776
            · refine x_aload_n hG (pc := 779) 1 dL_law_779 rfl rfl ?_
              refine x_iload hG (pc := 780) dL_law_780 rfl ?_
              refine x_callVN hG hO (pc := 782) [_] c_X6_take lk_L_71 hm3 rfl rfl ⟨Nat.le_of_ble_eq_true rfl, Nat.le_of_ble_eq_true rfl⟩ (Nat.le_of_ble_eq_true rfl) (by rw [hG.mc]; dsimp only [rmk]; omega) (by rw [hG.ms]; dsimp only [rmk]; omega) dL_law_782 ?_
              refine ⟨L3, T3, nI j, (congrArg (fun z => [Value.ref z, .int (nI j)]) hht3.symm), hR3, hJ3.1, Out.of0 o3 (fun L4 w4 hth4 hR4 hF4 => ?_)⟩
              have hht4 := hth4.trans hht3
              have hm4 := hR4.main
              rw [show L4.1 (1, 0, 0) = L.1 (1, 0, 0) from hht4] at hm4
              show X g w4 _ _ 785 _ [.int (gS T j 3 - gS T j 2 + 1)]
              refine x_aload_n hG (pc := 785) 1 dL_law_785 rfl rfl ?_
              refine x_iload hG (pc := 786) dL_law_786 rfl ?_
              refine x_iconst hG (pc := 788) 3 dL_law_788 (by decide) ?_
              refine x_callVN hG hO (pc := 789) [_, _] v_X6_ofPossession lk_L_58 hm4 rfl rfl ⟨Nat.le_of_ble_eq_true rfl, Nat.le_of_ble_eq_true rfl⟩ (Nat.le_of_ble_eq_true rfl) (by rw [hG.mc]; dsimp only [rmk]; omega) (by rw [hG.ms]; dsimp only [rmk]; omega) dL_law_789 ?_
              refine ⟨L4, T4, j, 3, (congrArg (fun z => [Value.ref z, .int (nI j), .int 3]) hht4.symm), hR4, hJ4.1, hj4, by decide, ?_⟩
              rw [f3]
              refine x_aload_n hG (pc := 792) 1 dL_law_792 rfl rfl ?_
              refine x_iload hG (pc := 793) dL_law_793 rfl ?_
              refine x_iconst hG (pc := 795) 2 dL_law_795 (by decide) ?_
              refine x_callVN hG hO (pc := 796) [_, _] v_X6_ofPossession lk_L_58 hm4 rfl rfl ⟨Nat.le_of_ble_eq_true rfl, Nat.le_of_ble_eq_true rfl⟩ (Nat.le_of_ble_eq_true rfl) (by rw [hG.mc]; dsimp only [rmk]; omega) (by rw [hG.ms]; dsimp only [rmk]; omega) dL_law_796 ?_
              refine ⟨L4, T4, j, 2, (congrArg (fun z => [Value.ref z, .int (nI j), .int 2]) hht4.symm), hR4, hJ4.1, hj4, by decide, ?_⟩
              rw [f2]
              refine x_isub hG (pc := 799) dL_law_799 ?_
              refine x_iconst hG (pc := 800) 1 dL_law_800 (by decide) ?_
              refine x_iadd hG (pc := 801) dL_law_801 ?_
              refine x_icmp_eq hG (pc := 802) 807 dL_law_802 (by decide) (fun h802 => ?_) (fun h802 => ?_)
              · refine x_iinc hG (pc := 807) (nI (j + 1)) dL_law_807 rfl (Nat.le_of_ble_eq_true rfl) rfl (nI_1' j) (by dsimp only [List.set]) ?_
                refine x_goto hG (pc := 810) 714 dL_law_810 (by decide) ?_
                exact ih (j + 1) (by omega) (by omega) L4 T4 w4 _ _ hMt4 hht4 hR4 (((hB1.frm hF2).frm hF3).frm hF4) (hF4 _ _ (hF3 _ _ (hF2 _ _ hq1 (by show 50 ≤ 82; decide)) (by show 50 ≤ 82; decide)) (by show 50 ≤ 82; decide)) (by first | omega | (dsimp only [rmk]; omega)) (by first | omega | (dsimp only [rmk]; omega))
              · exact absurd rfl h802
        · refine x_goto hG (pc := 754) 807 dL_law_754 (by decide) ?_
          refine x_iinc hG (pc := 807) (nI (j + 1)) dL_law_807 rfl (Nat.le_of_ble_eq_true rfl) rfl (nI_1' j) (by dsimp only [List.set]) ?_
          refine x_goto hG (pc := 810) 714 dL_law_810 (by decide) ?_
          exact ih (j + 1) (by omega) (by omega) L1 T w1 _ _ hMt.skip hth hR1 hB1 hq1 (by first | omega | (dsimp only [rmk]; omega)) (by first | omega | (dsimp only [rmk]; omega))
set_option maxHeartbeats 1000000 in
set_option maxRecDepth 100000 in
theorem law_c7 : Cas 816 := by
  intro nm g b q qs r τ k L S w kc ks x nt z17 z18 z19 z20 hG hO hτ hk hnt nx hLw hkc hks
  obtain ⟨hR, hP, hB, hq⟩ := hLw
  have hI := hP.1.1
  have hM4 := hI.2.1.1
  have hN16 := hI.2.1.2.1
  have hE12 := hI.2.1.2.2
  refine x_iload hG (pc := 816) dL_law_816 rfl ?_
  refine x_if_lt hG (pc := 818) 1022 dL_law_818 (by decide) (fun h818 => ?_) (fun h818 => ?_)
  · exact law_tail hG hO hτ nx rfl hR (Ste.none hP) (Or.inr ⟨by decide, rfl⟩) hB hq rfl rfl rfl rfl (by first | omega | (dsimp only [rmk]; omega)) (by first | omega | (dsimp only [rmk]; omega))
  · obtain ⟨n, hn, rfl⟩ : ∃ n, n < nN S ∧ nt = nI n := hnt.elim (fun z => absurd (show nt < 0 by rw [z.2]; decide) h818) id
    refine x_aload_n hG (pc := 821) 3 dL_law_821 rfl rfl ?_
    refine x_iload hG (pc := 822) dL_law_822 rfl ?_
    refine x_iald hG (pc := 824) hq (vp_in_nI (show n < 16 by omega) (by decide)) dL_law_824 ?_
    rw [nI_clamp (by omega), show stF S n = gS S n 0 from if_pos hn]
    refine x_iconst hG (pc := 825) 1 dL_law_825 (by decide) ?_
    refine x_icmp_eq hG (pc := 826) 832 dL_law_826 (by decide) (fun h826 => ?_) (fun h826 => ?_)
    · obtain ⟨v, T, oo, oe, n9, hSt, eM, eN, eE, eG⟩ := giv_x hP (by omega) hn h826
      refine x_iconst hG (pc := 832) 1 dL_law_832 (by decide) ?_
      refine x_istore hG (pc := 833) dL_law_833 (Nat.le_of_ble_eq_true rfl) rfl (by dsimp only [List.set]) ?_
      refine x_aload_n hG (pc := 835) 1 dL_law_835 rfl rfl ?_
      refine x_iload hG (pc := 836) dL_law_836 rfl ?_
      refine x_callVN hG hO (pc := 838) [_] c_X6_wouldOverrun lk_L_74 (by first | assumption | exact hR.main) rfl rfl ⟨Nat.le_of_ble_eq_true rfl, Nat.le_of_ble_eq_true rfl⟩ (Nat.le_of_ble_eq_true rfl) (by rw [hG.mc]; dsimp only [rmk]; omega) (by rw [hG.ms]; dsimp only [rmk]; omega) dL_law_838 ?_
      refine ⟨L, S, nI n, rfl, hR, hI, Out.of0 oo (fun L0 w0 hth0 hR0 hF0 => ?_)⟩
      have hm0 := hR0.main
      rw [show L0.1 (1, 0, 0) = L.1 (1, 0, 0) from hth0] at hm0
      show X g w0 _ _ 841 _ [.int v]
      refine x_istore hG (pc := 841) dL_law_841 (Nat.le_of_ble_eq_true rfl) rfl (by dsimp only [List.set]) ?_
      refine x_aload_n hG (pc := 843) 1 dL_law_843 rfl rfl ?_
      refine x_iload hG (pc := 844) dL_law_844 rfl ?_
      refine x_callVN hG hO (pc := 846) [_] c_X6_giveBack lk_L_77 hm0 rfl rfl ⟨Nat.le_of_ble_eq_true rfl, Nat.le_of_ble_eq_true rfl⟩ (Nat.le_of_ble_eq_true rfl) (by rw [hG.mc]; dsimp only [rmk]; omega) (by rw [hG.ms]; dsimp only [rmk]; omega) dL_law_846 ?_
      refine ⟨L0, S, nI n, (congrArg (fun z => [Value.ref z, .int (nI n)]) hth0.symm), hR0, hI, Out.of0 oe (fun L1 w1 hth1 hR1 hF1 => ?_)⟩
      have hth := hth1.trans hth0
      have hm1 := hR1.main
      rw [show L1.1 (1, 0, 0) = L.1 (1, 0, 0) from hth] at hm1
      have hB1 := (hB.frm hF0).frm hF1
      have hq1 := hF1 _ _ (hF0 _ _ hq (by show 50 ≤ 82; decide)) (by show 50 ≤ 82; decide)
      have hIT := hSt.1.1.1
      show X g w1 _ _ 849 _ [.int v]
      refine x_iload hG (pc := 849) dL_law_849 rfl ?_
      refine x_icmp_ne hG (pc := 851) 867 dL_law_851 (by decide) (fun h851 => ?_) (fun h851 => ?_)
      · exact absurd rfl h851
      · refine x_aload_n hG (pc := 854) 1 dL_law_854 rfl rfl ?_
        refine x_iload hG (pc := 855) dL_law_855 rfl ?_
        refine x_bipush hG (pc := 857) 9 dL_law_857 (by decide) ?_
        refine x_callVN hG hO (pc := 859) [_, _] v_X6_ofPossession lk_L_58 hm1 rfl rfl ⟨Nat.le_of_ble_eq_true rfl, Nat.le_of_ble_eq_true rfl⟩ (Nat.le_of_ble_eq_true rfl) (by rw [hG.mc]; dsimp only [rmk]; omega) (by rw [hG.ms]; dsimp only [rmk]; omega) dL_law_859 ?_
        refine ⟨L1, T, n, 9, (congrArg (fun z => [Value.ref z, .int (nI (n)), .int 9]) hth.symm), hR1, hIT, (by omega), by decide, ?_⟩
        rw [n9]
        refine x_iload hG (pc := 862) dL_law_862 rfl ?_
        refine x_icmp_eq hG (pc := 864) 1022 dL_law_864 (by decide) (fun h864 => ?_) (fun h864 => ?_)
        · exact law_tail hG hO hτ nx hth hR1 hSt (Or.inr ⟨by decide, rfl⟩) hB1 hq1 (by rw [eM]) (by rw [eN]) (by rw [eE]) eG.symm (by first | omega | (dsimp only [rmk]; omega)) (by first | omega | (dsimp only [rmk]; omega))
        · exact absurd rfl h864
    · refine x_goto hG (pc := 829) 1022 dL_law_829 (by decide) ?_
      exact law_tail hG hO hτ nx rfl hR (Ste.none hP) (Or.inr ⟨by decide, rfl⟩) hB hq rfl rfl rfl rfl (by first | omega | (dsimp only [rmk]; omega)) (by first | omega | (dsimp only [rmk]; omega))
set_option maxHeartbeats 1000000 in
set_option maxRecDepth 100000 in
theorem law_c8 : Cas 869 := by
  intro nm g b q qs r τ k L S w kc ks x nt z17 z18 z19 z20 hG hO hτ hk hnt nx hLw hkc hks
  obtain ⟨hR, hP, hB, hq⟩ := hLw
  have hI := hP.1.1
  have hM4 := hI.2.1.1
  have hN16 := hI.2.1.2.1
  have hE12 := hI.2.1.2.2
  refine x_aload_n hG (pc := 869) 1 dL_law_869 rfl rfl ?_
  refine x_iload hG (pc := 870) dL_law_870 rfl ?_
  refine x_bipush hG (pc := 872) 50 dL_law_872 (by decide) ?_
  refine x_iload hG (pc := 874) dL_law_874 rfl ?_
  refine x_iconst hG (pc := 876) 3 dL_law_876 (by decide) ?_
  refine x_ishr hG (pc := 877) dL_law_877 ?_
  refine x_sipush hG (pc := 878) 1951 dL_law_878 (by decide) ?_
  refine x_callSN hG hO (pc := 881) [_, _] c_L_below lk_L_24 rfl rfl ⟨Nat.le_of_ble_eq_true rfl, Nat.le_of_ble_eq_true rfl⟩ (Nat.le_of_ble_eq_true rfl) (by rw [hG.mc]; dsimp only [rmk]; omega) (by rw [hG.ms]; dsimp only [rmk]; omega) dL_law_881 ?_
  refine ⟨_, 1951, rfl, by decide, by decide, fun r1 hr1 => ?_⟩
  refine x_iadd hG (pc := 884) dL_law_884 ?_
  rw [show (50 : Int32) + nI r1 = nI (50 + r1) from nI_add 50 r1]
  obtain ⟨y, T, oe, hy, hSt, eM, eN, eE, eG⟩ := op_wal hP hk (show 50 ≤ 50 + r1 by omega) (show 50 + r1 ≤ 2000 by omega)
  refine x_callVN hG hO (pc := 885) [_, _] c_X6_walk lk_L_80 (by first | assumption | exact hR.main) rfl rfl ⟨Nat.le_of_ble_eq_true rfl, Nat.le_of_ble_eq_true rfl⟩ (Nat.le_of_ble_eq_true rfl) (by rw [hG.mc]; dsimp only [rmk]; omega) (by rw [hG.ms]; dsimp only [rmk]; omega) dL_law_885 ?_
  refine ⟨L, S, nI k, nI (50 + r1), rfl, hR, hI, Out.of0 oe (fun L1 w1 hth hR1 hF1 => ?_)⟩
  have hm1 := hR1.main
  rw [show L1.1 (1, 0, 0) = L.1 (1, 0, 0) from hth] at hm1
  have hB1 := hB.frm hF1
  have hq1 := hF1 _ _ hq (by show 50 ≤ 82; decide)
  have hIT := hSt.1.1.1
  show X g w1 _ _ 888 _ [.int y]
  refine x_istore hG (pc := 888) dL_law_888 (Nat.le_of_ble_eq_true rfl) rfl (by dsimp only [List.set]) ?_
  refine x_iload hG (pc := 890) dL_law_890 rfl ?_
  refine x_iload hG (pc := 892) dL_law_892 rfl ?_
  refine dia_eq01 hG (pc := 894) 901 902 dL_law_894 (by decide) dL_law_897 dL_law_898 (by decide) dL_law_901 (by decide) ?_
  refine x_iadd hG (pc := 902) dL_law_902 ?_
  refine x_istore hG (pc := 903) dL_law_903 (Nat.le_of_ble_eq_true rfl) rfl (by dsimp only [List.set]) ?_
  refine x_goto hG (pc := 905) 1022 dL_law_905 (by decide) ?_
  exact law_tail hG hO hτ nx hth hR1 hSt (Or.inr ⟨by decide, rfl⟩) hB1 hq1 (by rw [eM]) (by rw [eN]) (by rw [eE]) eG.symm (by first | omega | (dsimp only [rmk]; omega)) (by first | omega | (dsimp only [rmk]; omega))
set_option maxHeartbeats 1000000 in
set_option maxRecDepth 100000 in
theorem law_c9 : Cas 908 := by
  intro nm g b q qs r τ k L S w kc ks x nt z17 z18 z19 z20 hG hO hτ hk hnt nx hLw hkc hks
  obtain ⟨hR, hP, hB, hq⟩ := hLw
  have hI := hP.1.1
  have hM4 := hI.2.1.1
  have hN16 := hI.2.1.2.1
  have hE12 := hI.2.1.2.2
  refine x_iload hG (pc := 908) dL_law_908 rfl ?_
  refine x_bipush hG (pc := 910) 12 dL_law_910 (by decide) ?_
  refine x_icmp_ne hG (pc := 912) 918 dL_law_912 (by decide) (fun h912 => ?_) (fun h912 => ?_)
  · have hE : nE S < 12 := by
      rcases Nat.lt_or_ge (nE S) 12 with z | z
      · exact z
      · exact absurd (show nI (nE S) = 12 from congrArg nI (show nE S = 12 by omega)) h912
    refine x_aload_n hG (pc := 918) 1 dL_law_918 rfl rfl ?_
    refine x_iload hG (pc := 919) dL_law_919 rfl ?_
    refine x_iconst hG (pc := 921) 3 dL_law_921 (by decide) ?_
    refine x_ishr hG (pc := 922) dL_law_922 ?_
    refine x_iconst hG (pc := 923) 2 dL_law_923 (by decide) ?_
    refine x_callSN hG hO (pc := 924) [_, _] c_L_below lk_L_24 rfl rfl ⟨Nat.le_of_ble_eq_true rfl, Nat.le_of_ble_eq_true rfl⟩ (Nat.le_of_ble_eq_true rfl) (by rw [hG.mc]; dsimp only [rmk]; omega) (by rw [hG.ms]; dsimp only [rmk]; omega) dL_law_924 ?_
    refine ⟨_, 2, rfl, by decide, by decide, fun r1 hr1 => ?_⟩
    refine x_iconst hG (pc := 927) 0 dL_law_927 (by decide) ?_
    refine x_bipush hG (pc := 928) 9 dL_law_928 (by decide) ?_
    refine x_iload hG (pc := 930) dL_law_930 rfl ?_
    refine x_iconst hG (pc := 932) 5 dL_law_932 (by decide) ?_
    refine x_ishr hG (pc := 933) dL_law_933 ?_
    refine x_iconst hG (pc := 934) 5 dL_law_934 (by decide) ?_
    refine x_callSN hG hO (pc := 935) [_, _] c_L_below lk_L_24 rfl rfl ⟨Nat.le_of_ble_eq_true rfl, Nat.le_of_ble_eq_true rfl⟩ (Nat.le_of_ble_eq_true rfl) (by rw [hG.mc]; dsimp only [rmk]; omega) (by rw [hG.ms]; dsimp only [rmk]; omega) dL_law_935 ?_
    refine ⟨_, 5, rfl, by decide, by decide, fun r2 hr2 => ?_⟩
    refine x_iconst hG (pc := 938) 2 dL_law_938 (by decide) ?_
    refine x_isub hG (pc := 939) dL_law_939 ?_
    have hd : -2 ≤ (nI r2 - 2).toInt ∧ (nI r2 - 2).toInt ≤ 2 := by
      have e2 : (2 : Int32).toInt = 2 := rfl
      rw [tSub (by rw [e2, nI_toInt (by omega)]; omega) (by rw [e2, nI_toInt (by omega)]; omega), e2, nI_toInt (by omega)]
      omega
    refine x_callVN hG hO (pc := 940) [_, _, _, _] c_X6_measure lk_L_84 (by first | assumption | exact hR.main) rfl rfl ⟨Nat.le_of_ble_eq_true rfl, Nat.le_of_ble_eq_true rfl⟩ (Nat.le_of_ble_eq_true rfl) (by rw [hG.mc]; dsimp only [rmk]; omega) (by rw [hG.ms]; dsimp only [rmk]; omega) dL_law_940 ?_
    obtain ⟨T, oe, hSt, eM, eN, eE, eG⟩ := mea_x hP hr1 hd hE
    refine ⟨L, S, nI r1, 0, 9, nI r2 - 2, rfl, hR, hI, Out.of0 oe (fun L1 w1 hth hR1 hF1 => ?_)⟩
    have hm1 := hR1.main
    rw [show L1.1 (1, 0, 0) = L.1 (1, 0, 0) from hth] at hm1
    have hB1 := hB.frm hF1
    have hq1 := hF1 _ _ hq (by show 50 ≤ 82; decide)
    have hIT := hSt.1.1.1
    show X g w1 _ _ 943 _ [.int (nI (nE S))]
    refine x_iload hG (pc := 943) dL_law_943 rfl ?_
    refine x_icmp_eq hG (pc := 945) 950 dL_law_945 (by decide) (fun h945 => ?_) (fun h945 => ?_)
    · refine x_iinc hG (pc := 950) (nI (nE S + 1)) dL_law_950 rfl (Nat.le_of_ble_eq_true rfl) rfl (nI_1' _) (by dsimp only [List.set]) ?_
      refine x_goto hG (pc := 953) 1022 dL_law_953 (by decide) ?_
      exact law_tail hG hO hτ nx hth hR1 hSt (Or.inr ⟨by decide, rfl⟩) hB1 hq1 (by rw [eM]) (by rw [eN]) (by rw [eE]) eG.symm (by first | omega | (dsimp only [rmk]; omega)) (by first | omega | (dsimp only [rmk]; omega))
    · exact absurd rfl h945
  · refine x_goto hG (pc := 915) 1022 dL_law_915 (by decide) ?_
    exact law_tail hG hO hτ nx rfl hR (Ste.none hP) (Or.inr ⟨by decide, rfl⟩) hB hq rfl rfl rfl rfl (by first | omega | (dsimp only [rmk]; omega)) (by first | omega | (dsimp only [rmk]; omega))
set_option maxHeartbeats 1000000 in
set_option maxRecDepth 100000 in
theorem law_c10 : Cas 956 := by
  intro nm g b q qs r τ k L S w kc ks x nt z17 z18 z19 z20 hG hO hτ hk hnt nx hLw hkc hks
  obtain ⟨hR, hP, hB, hq⟩ := hLw
  have hI := hP.1.1
  have hM4 := hI.2.1.1
  have hN16 := hI.2.1.2.1
  have hE12 := hI.2.1.2.2
  refine x_iconst hG (pc := 956) 1 dL_law_956 (by decide) ?_
  refine x_istore hG (pc := 957) dL_law_957 (Nat.le_of_ble_eq_true rfl) rfl (by dsimp only [List.set]) ?_
  refine x_aload_n hG (pc := 959) 1 dL_law_959 rfl rfl ?_
  refine x_bipush hG (pc := 960) 10 dL_law_960 (by decide) ?_
  refine x_callVN hG hO (pc := 962) [_] v_X6_many lk_L_28 hR.main rfl rfl ⟨Nat.le_of_ble_eq_true rfl, Nat.le_of_ble_eq_true rfl⟩ (Nat.le_of_ble_eq_true rfl) (by rw [hG.mc]; dsimp only [rmk]; omega) (by rw [hG.ms]; dsimp only [rmk]; omega) dL_law_962 ?_
  refine ⟨L, S, 10, rfl, hR, hI, by decide, ?_⟩
  refine x_istore hG (pc := 965) dL_law_965 (Nat.le_of_ble_eq_true rfl) rfl (by dsimp only [List.set]) ?_
  refine x_aload_n hG (pc := 967) 1 dL_law_967 rfl rfl ?_
  refine x_iload hG (pc := 968) dL_law_968 rfl ?_
  refine x_iconst hG (pc := 970) 3 dL_law_970 (by decide) ?_
  refine x_ishr hG (pc := 971) dL_law_971 ?_
  refine x_bipush hG (pc := 972) 41 dL_law_972 (by decide) ?_
  refine x_callSN hG hO (pc := 974) [_, _] c_L_below lk_L_24 rfl rfl ⟨Nat.le_of_ble_eq_true rfl, Nat.le_of_ble_eq_true rfl⟩ (Nat.le_of_ble_eq_true rfl) (by rw [hG.mc]; dsimp only [rmk]; omega) (by rw [hG.ms]; dsimp only [rmk]; omega) dL_law_974 ?_
  refine ⟨_, 41, rfl, by decide, by decide, fun r1 hr1 => ?_⟩
  refine x_iload hG (pc := 977) dL_law_977 rfl ?_
  refine x_iconst hG (pc := 979) 5 dL_law_979 (by decide) ?_
  refine x_ishr hG (pc := 980) dL_law_980 ?_
  refine x_bipush hG (pc := 981) 81 dL_law_981 (by decide) ?_
  refine x_callSN hG hO (pc := 983) [_, _] c_L_below lk_L_24 rfl rfl ⟨Nat.le_of_ble_eq_true rfl, Nat.le_of_ble_eq_true rfl⟩ (Nat.le_of_ble_eq_true rfl) (by rw [hG.mc]; dsimp only [rmk]; omega) (by rw [hG.ms]; dsimp only [rmk]; omega) dL_law_983 ?_
  refine ⟨_, 81, rfl, by decide, by decide, fun r2 hr2 => ?_⟩
  refine x_bipush hG (pc := 986) 20 dL_law_986 (by decide) ?_
  refine x_isub hG (pc := 988) dL_law_988 ?_
  refine x_iconst hG (pc := 989) 1 dL_law_989 (by decide) ?_
  refine x_callVN hG hO (pc := 990) [_, _, _] c_X6_pass lk_L_88 (by first | assumption | exact hR.main) rfl rfl ⟨Nat.le_of_ble_eq_true rfl, Nat.le_of_ble_eq_true rfl⟩ (Nat.le_of_ble_eq_true rfl) (by rw [hG.mc]; dsimp only [rmk]; omega) (by rw [hG.ms]; dsimp only [rmk]; omega) dL_law_990 ?_
  obtain ⟨T, oe, hSt, nt3, eM, eN, eE, eG⟩ := day_x hP hτ (show r1 ≤ 40 by omega) (show r2 ≤ 80 by omega)
  refine ⟨L, S, nI r1, nI r2 - 20, 1, rfl, hR, hI, Out.of0 oe (fun L1 w1 hth hR1 hF1 => ?_)⟩
  have hm1 := hR1.main
  rw [show L1.1 (1, 0, 0) = L.1 (1, 0, 0) from hth] at hm1
  have hB1 := hB.frm hF1
  have hq1 := hF1 _ _ hq (by show 50 ≤ 82; decide)
  have hIT := hSt.1.1.1
  show X g w1 _ _ 993 _ [.int (gl T 3 - gl S 3)]
  refine x_istore hG (pc := 993) dL_law_993 (Nat.le_of_ble_eq_true rfl) rfl (by dsimp only [List.set]) ?_
  refine x_aload_n hG (pc := 995) 1 dL_law_995 rfl rfl ?_
  refine x_bipush hG (pc := 996) 10 dL_law_996 (by decide) ?_
  refine x_callVN hG hO (pc := 998) [_] v_X6_many lk_L_28 hm1 rfl rfl ⟨Nat.le_of_ble_eq_true rfl, Nat.le_of_ble_eq_true rfl⟩ (Nat.le_of_ble_eq_true rfl) (by rw [hG.mc]; dsimp only [rmk]; omega) (by rw [hG.ms]; dsimp only [rmk]; omega) dL_law_998 ?_
  refine ⟨L1, T, 10, (congrArg (fun z => [Value.ref z, .int 10]) hth.symm), hR1, hIT, by decide, ?_⟩
  refine x_iload hG (pc := 1001) dL_law_1001 rfl ?_
  refine x_iload hG (pc := 1003) dL_law_1003 rfl ?_
  refine x_iadd hG (pc := 1005) dL_law_1005 ?_
  refine x_icmp_ne hG (pc := 1006) 1020 dL_law_1006 (by decide) (fun h1006 => ?_) (fun h1006 => ?_)
  · exact absurd (ad_sb (gl S 3) (gl T 3)).symm h1006
  · refine x_iload hG (pc := 1009) dL_law_1009 rfl ?_
    refine x_aload_n hG (pc := 1011) 1 dL_law_1011 rfl rfl ?_
    refine x_bipush hG (pc := 1012) 13 dL_law_1012 (by decide) ?_
    refine x_callVN hG hO (pc := 1014) [_] v_X6_many lk_L_28 hm1 rfl rfl ⟨Nat.le_of_ble_eq_true rfl, Nat.le_of_ble_eq_true rfl⟩ (Nat.le_of_ble_eq_true rfl) (by rw [hG.mc]; dsimp only [rmk]; omega) (by rw [hG.ms]; dsimp only [rmk]; omega) dL_law_1014 ?_
    refine ⟨L1, T, 13, (congrArg (fun z => [Value.ref z, .int 13]) hth.symm), hR1, hIT, by decide, ?_⟩
    refine x_icmp_eq hG (pc := 1017) 1022 dL_law_1017 (by decide) (fun h1017 => ?_) (fun h1017 => ?_)
    · exact law_tail hG hO hτ nx hth hR1 hSt (Or.inr ⟨by decide, rfl⟩) hB1 hq1 (by rw [eM]) (by rw [eN]) (by rw [eE]) eG.symm (by first | omega | (dsimp only [rmk]; omega)) (by first | omega | (dsimp only [rmk]; omega))
    · exact absurd nt3 h1017
