/-! The reference: work, walk -/
theorem sBes_b {S : St} (hI : Inv S) {k : Nat} (hk : k < 20) : 0 ≤ (sBes S k).toInt ∧ (sBes S k).toInt ≤ 160 := by
  by_cases q : ex01 (pTak S (nI (oth k))) (nN S) = 0
  · rw [sBes, if_pos q]
    exact (hI.1 (oth k) (oth_lt hk)).2.2.2
  · rw [sBes, if_neg q]
    decide
set_option maxHeartbeats 400000 in
set_option maxRecDepth 100000 in
theorem c_X7_work : CtrA yX7_work cX7_work 8 (some .int) (rmk 3 2 10 90) (fun Γ av w post xpost => ∃ (L : LayM) (S : St), ∃ p i m, av = [.ref (thM L), .int p, .int i, .int m] ∧ RepM Γ L S w ∧ Inv2 S ∧ MOut Γ L w post (oWor S p i m)) := by
  refine ctr_of (by decide) ?_
  rintro g av w hG hO ⟨L, S, p, i, m, rfl, hR, hI2, hk⟩
  refine ⟨Nat.le_of_ble_eq_true rfl, ?_⟩
  show X g w 0 0 0 [some (.ref (thM L)), some (.int p), some (.int i), some (.int m), none, none, none, none] []
  have hI := hI2.1
  have hnM := hI.2.1.1
  have hnN := hI.2.1.2.1
  have hnE := hI.2.1.2.2
  refine x_aload_n hG (pc := 0) 0 dX7_work_0 rfl rfl ?_
  refine x_iconst hG (pc := 1) 0 dX7_work_1 (by decide) ?_
  refine x_putf hG (pc := 2) fl_X7_31 fw_9 ft_9_0 hR.main (Nat.le_of_ble_eq_true rfl) rfl rfl (by dsimp only [List.set]) dX7_work_2 ?_
  refine x_gen (fun w0 e0 => ?_)
  obtain ⟨hR0, hF0⟩ := hR.uT e0
  refine x_aload_n hG (pc := 5) 0 dX7_work_5 rfl rfl ?_
  refine x_iload_n hG (pc := 6) 1 dX7_work_6 rfl rfl ?_
  refine x_callV hG hO (pc := 7) [_] c_X7_isNight lk_X7_136 hR0.main rfl rfl ⟨by decide, by decide⟩ (Nat.le_of_ble_eq_true rfl) (by rw [hG.mc]; exact Nat.le_of_ble_eq_true rfl) (by rw [hG.ms]; exact Nat.le_of_ble_eq_true rfl) dX7_work_7 ?_
  refine ⟨_, S, _, rfl, hR0, by omega, ?_⟩
  refine x_if_eq hG (pc := 10) 28 dX7_work_10 (by decide) (fun h10 => ?_) (fun h10 => ?_)
  · have hx := sIx_0 h10
    refine x_aload_n hG (pc := 28) 0 dX7_work_28 rfl rfl ?_
    refine x_iconst hG (pc := 29) 1 dX7_work_29 (by decide) ?_
    refine x_callV hG hO (pc := 30) [_] c_X7_refuse lk_X7_76 hR0.main rfl rfl ⟨by decide, by decide⟩ (Nat.le_of_ble_eq_true rfl) (by rw [hG.mc]; exact Nat.le_of_ble_eq_true rfl) (by rw [hG.ms]; exact Nat.le_of_ble_eq_true rfl) dX7_work_30 ?_
    refine ⟨_, _, 1, rfl, hR0, fun wr hRr hFr => ?_⟩
    refine x_ireturn hG (pc := 33) dX7_work_33 rfl rfl (by rw [hG.mc]; exact Nat.le_of_ble_eq_true rfl) (by rw [hG.ms]; exact Nat.le_of_ble_eq_true rfl) ?_
    exact hk.ok (k := 1) (v := 0) (S1 := S) (by simp only [oWor, hx, ↓reduceIte]) hRr (hF0.tr hFr)
  · obtain ⟨k, hx⟩ := sIx_1 h10
    obtain ⟨hkn, rfl⟩ := ixO_some hx (by omega)
    refine x_aload_n hG (pc := 13) 0 dX7_work_13 rfl rfl ?_
    refine x_iload_n hG (pc := 14) 3 dX7_work_14 rfl rfl ?_
    refine x_callV hG hO (pc := 15) [_] c_X7_isMachine lk_X7_125 hR0.main rfl rfl ⟨by decide, by decide⟩ (Nat.le_of_ble_eq_true rfl) (by rw [hG.mc]; exact Nat.le_of_ble_eq_true rfl) (by rw [hG.ms]; exact Nat.le_of_ble_eq_true rfl) dX7_work_15 ?_
    refine ⟨_, S, _, rfl, hR0, by omega, ?_⟩
    refine x_if_eq hG (pc := 18) 28 dX7_work_18 (by decide) (fun h18 => ?_) (fun h18 => ?_)
    · have hxm := sIx_0 h18
      refine x_aload_n hG (pc := 28) 0 dX7_work_28 rfl rfl ?_
      refine x_iconst hG (pc := 29) 1 dX7_work_29 (by decide) ?_
      refine x_callV hG hO (pc := 30) [_] c_X7_refuse lk_X7_76 hR0.main rfl rfl ⟨by decide, by decide⟩ (Nat.le_of_ble_eq_true rfl) (by rw [hG.mc]; exact Nat.le_of_ble_eq_true rfl) (by rw [hG.ms]; exact Nat.le_of_ble_eq_true rfl) dX7_work_30 ?_
      refine ⟨_, _, 1, rfl, hR0, fun wr hRr hFr => ?_⟩
      refine x_ireturn hG (pc := 33) dX7_work_33 rfl rfl (by rw [hG.mc]; exact Nat.le_of_ble_eq_true rfl) (by rw [hG.ms]; exact Nat.le_of_ble_eq_true rfl) ?_
      exact hk.ok (k := 1) (v := 0) (S1 := S) (by simp only [oWor, hx, hxm, ↓reduceIte]) hRr (hF0.tr hFr)
    · obtain ⟨mm, hxm⟩ := sIx_1 h18
      obtain ⟨hmn, rfl⟩ := ixO_some hxm (by omega)
      refine x_iload_n hG (pc := 21) 2 dX7_work_21 rfl rfl ?_
      refine x_callS hG hO (pc := 22) [_] c_X7_isSection lk_X7_72 rfl rfl ⟨by decide, by decide⟩ (Nat.le_of_ble_eq_true rfl) (by rw [hG.mc]; exact Nat.le_of_ble_eq_true rfl) (by rw [hG.ms]; exact Nat.le_of_ble_eq_true rfl) dX7_work_22 ?_
      refine ⟨_, rfl, ?_⟩
      refine x_if_ne hG (pc := 25) 34 dX7_work_25 (by decide) (fun h25 => ?_) (fun h25 => ?_)
      · obtain ⟨s, hxs⟩ := sIx_1 h25
        obtain ⟨hsn, rfl⟩ := ixO_some hxs (by omega)
        refine x_aload_n hG (pc := 34) 0 dX7_work_34 rfl rfl ?_
        refine x_getf hG (pc := 35) fl_X7_21 hR0.main rfl dX7_work_35 ?_
        refine x_iload_n hG (pc := 38) 1 dX7_work_38 rfl rfl ?_
        refine x_callV hG hO (pc := 39) [_] c_Jx4a65c_get_915e3 lk_X7_52 (hR0.lst (id := 2) (by decide)).1 rfl rfl ⟨by decide, by decide⟩ (Nat.le_of_ble_eq_true rfl) (by rw [hG.mc]; exact Nat.le_of_ble_eq_true rfl) (by rw [hG.ms]; exact Nat.le_of_ble_eq_true rfl) dX7_work_39 ?_
        refine ⟨_, _, _, _, _, _, _, _, k, rfl, (hR0.lst (id := 2) (by decide)), hkn, ?_⟩
        show X g _ _ _ _ _ (.ref (L.1 (57, k, 0)) :: _)
        refine x_castI hG (pc := 42) ckl_X7_56 (hR0.ngt hkn) dX7_work_42 ?_
        refine x_astore hG (pc := 45) dX7_work_45 (Nat.le_of_ble_eq_true rfl) rfl (by dsimp only [List.set]) ?_
        refine x_aload_n hG (pc := 47) 0 dX7_work_47 rfl rfl ?_
        refine x_aload hG (pc := 48) dX7_work_48 rfl ?_
        refine x_iload_n hG (pc := 50) 2 dX7_work_50 rfl rfl ?_
        refine x_callV hG hO (pc := 51) [_, _] c_X7_has lk_X7_139 hR0.main rfl rfl ⟨by decide, by decide⟩ (Nat.le_of_ble_eq_true rfl) (by rw [hG.mc]; exact Nat.le_of_ble_eq_true rfl) (by rw [hG.ms]; exact Nat.le_of_ble_eq_true rfl) dX7_work_51 ?_
        refine ⟨_, _, _, _, nI s, rfl, hR0.ngt hkn, ?_⟩
        refine x_if_ne hG (pc := 54) 63 dX7_work_54 (by decide) (fun h54 => ?_) (fun h54 => ?_)
        · refine x_aload_n hG (pc := 63) 0 dX7_work_63 rfl rfl ?_
          refine x_aload_n hG (pc := 64) 0 dX7_work_64 rfl rfl ?_
          refine x_getf hG (pc := 65) fl_X7_17 hR0.main rfl dX7_work_65 ?_
          refine x_iload_n hG (pc := 68) 3 dX7_work_68 rfl rfl ?_
          refine x_callV hG hO (pc := 69) [_] c_Jx4a65c_get_915e3 lk_X7_52 (hR0.lst (id := 1) (by decide)).1 rfl rfl ⟨by decide, by decide⟩ (Nat.le_of_ble_eq_true rfl) (by rw [hG.mc]; exact Nat.le_of_ble_eq_true rfl) (by rw [hG.ms]; exact Nat.le_of_ble_eq_true rfl) dX7_work_69 ?_
          refine ⟨_, _, _, _, _, _, _, _, mm, rfl, (hR0.lst (id := 1) (by decide)), hmn, ?_⟩
          show X g _ _ _ _ _ (.ref (L.1 (56, mm, 0)) :: _)
          refine x_castI hG (pc := 72) ckl_X7_56 (hR0.mac hmn) dX7_work_72 ?_
          refine x_iconst hG (pc := 75) 0 dX7_work_75 (by decide) ?_
          refine x_ialdN hG (pc := 76) (c := 0) (hR0.mac hmn) (by decide) dX7_work_76 ?_
          refine x_iload_n hG (pc := 77) 2 dX7_work_77 rfl rfl ?_
          refine x_callV hG hO (pc := 78) [_, _] c_X7_hours lk_X7_142 hR0.main rfl rfl ⟨by decide, by decide⟩ (Nat.le_of_ble_eq_true rfl) (by rw [hG.mc]; exact Nat.le_of_ble_eq_true rfl) (by rw [hG.ms]; exact Nat.le_of_ble_eq_true rfl) dX7_work_78 ?_
          refine ⟨_, S, _, s, rfl, hR0, hsn, hI.2.2.1 mm hmn, (hI.1 s hsn).2.2.1, ?_⟩
          refine x_istore hG (pc := 81) dX7_work_81 (Nat.le_of_ble_eq_true rfl) rfl (by dsimp only [List.set]) ?_
          refine x_aload hG (pc := 83) dX7_work_83 rfl ?_
          refine x_iconst hG (pc := 85) 0 dX7_work_85 (by decide) ?_
          refine x_ialdN hG (pc := 86) (c := 0) (hR0.ngt hkn) (by decide) dX7_work_86 ?_
          refine x_if_ne hG (pc := 87) 115 dX7_work_87 (by decide) (fun h87 => ?_) (fun h87 => ?_)
          · refine x_aload_n hG (pc := 115) 0 dX7_work_115 rfl rfl ?_
            refine x_iconst hG (pc := 116) 3 dX7_work_116 (by decide) ?_
            refine x_callV hG hO (pc := 117) [_] c_X7_refuse lk_X7_76 hR0.main rfl rfl ⟨by decide, by decide⟩ (Nat.le_of_ble_eq_true rfl) (by rw [hG.mc]; exact Nat.le_of_ble_eq_true rfl) (by rw [hG.ms]; exact Nat.le_of_ble_eq_true rfl) dX7_work_117 ?_
            refine ⟨_, _, 3, rfl, hR0, fun wr hRr hFr => ?_⟩
            refine x_ireturn hG (pc := 120) dX7_work_120 rfl rfl (by rw [hG.mc]; exact Nat.le_of_ble_eq_true rfl) (by rw [hG.ms]; exact Nat.le_of_ble_eq_true rfl) ?_
            exact hk.ok (k := 3) (v := 0) (S1 := S) (by simp only [oWor, hx, hxm, hxs, h54, h87, ↓reduceIte]) hRr (hF0.tr hFr)
          · refine x_aload hG (pc := 90) dX7_work_90 rfl ?_
            refine x_bipush hG (pc := 92) 6 dX7_work_92 (by decide) ?_
            refine x_ialdN hG (pc := 94) (c := 6) (hR0.ngt hkn) (by decide) dX7_work_94 ?_
            rw [(hI.f6 hkn).1]
            refine x_bipush hG (pc := 95) 6 dX7_work_95 (by decide) ?_
            refine x_icmp_eq hG (pc := 97) 115 dX7_work_97 (by decide) (fun h97 => ?_) (fun h97 => ?_)
            · have hlt : ¬ nI (nJ (gS S k)) < 6 := nlt_of_eq (m := 6) h97
              refine x_aload_n hG (pc := 115) 0 dX7_work_115 rfl rfl ?_
              refine x_iconst hG (pc := 116) 3 dX7_work_116 (by decide) ?_
              refine x_callV hG hO (pc := 117) [_] c_X7_refuse lk_X7_76 hR0.main rfl rfl ⟨by decide, by decide⟩ (Nat.le_of_ble_eq_true rfl) (by rw [hG.mc]; exact Nat.le_of_ble_eq_true rfl) (by rw [hG.ms]; exact Nat.le_of_ble_eq_true rfl) dX7_work_117 ?_
              refine ⟨_, _, 3, rfl, hR0, fun wr hRr hFr => ?_⟩
              refine x_ireturn hG (pc := 120) dX7_work_120 rfl rfl (by rw [hG.mc]; exact Nat.le_of_ble_eq_true rfl) (by rw [hG.ms]; exact Nat.le_of_ble_eq_true rfl) ?_
              exact hk.ok (k := 3) (v := 0) (S1 := S) (by simp only [oWor, hx, hxm, hxs, h54, h87, hlt, ↓reduceIte]) hRr (hF0.tr hFr)
            · have hlt : nI (nJ (gS S k)) < 6 := lt_of_ne (m := 6) (hI.f6 hkn).2 (by decide) h97
              have hj6 : nJ (gS S k) < 6 := by
                rcases Nat.lt_or_ge (nJ (gS S k)) 6 with z | z
                · exact z
                · exact absurd hlt (nI_nlt (b := 6) z (by have := (hI.f6 hkn).2; omega))
              refine x_aload hG (pc := 100) dX7_work_100 rfl ?_
              refine x_bipush hG (pc := 102) 7 dX7_work_102 (by decide) ?_
              refine x_ialdN hG (pc := 104) (c := 7) (hR0.ngt hkn) (by decide) dX7_work_104 ?_
              refine x_iload hG (pc := 105) dX7_work_105 rfl ?_
              refine x_iadd hG (pc := 107) dX7_work_107 ?_
              refine x_aload hG (pc := 108) dX7_work_108 rfl ?_
              refine x_iconst hG (pc := 110) 5 dX7_work_110 (by decide) ?_
              refine x_ialdN hG (pc := 111) (c := 5) (hR0.ngt hkn) (by decide) dX7_work_111 ?_
              refine x_icmp_le hG (pc := 112) 121 dX7_work_112 (by decide) (fun h112 => ?_) (fun h112 => ?_)
              · refine x_aload_n hG (pc := 121) 0 dX7_work_121 rfl rfl ?_
                refine x_getf hG (pc := 122) fl_X7_21 hR0.main rfl dX7_work_122 ?_
                refine x_callV hG hO (pc := 125) [] c_Jx4a65c_iterator_32c93 lk_X7_79 (hR0.lst (id := 2) (by decide)).1 rfl rfl ⟨by decide, by decide⟩ (Nat.le_of_ble_eq_true rfl) (by rw [hG.mc]; exact Nat.le_of_ble_eq_true rfl) (by rw [hG.ms]; exact Nat.le_of_ble_eq_true rfl) dX7_work_125 ?_
                refine ⟨_, _, _, _, _, (60, 0, 0), rfl, (hR0.lst (id := 2) (by decide)).1, fun it hfit hnit => ?_⟩
                refine x_gen (fun wi ei => ?_)
                have hit0 := (congrFun ei it).trans wup_s
                have hRi := hR0.nw hfit ei
                have hFi := hF0.nw hfit ei
                refine x_astore hG (pc := 128) dX7_work_128 (Nat.le_of_ble_eq_true rfl) rfl (by dsimp only [List.set]) ?_
                refine nat_down (P := fun n => ∀ (w1 : Wd) (ls : Int32), RepM (gΓ g) (lthr L 0) S w1 → w1 it = some ((60, 0, 0), oI (nI n) ls (L.2.2.2.1 2) (L.1 (53, 2, 0))) → FrC w w1 → (∀ j, j < n → ¬ pElI S mm k j) → ∀ z : Option Value, X g w1 1 4 130 [some (.ref (thM L)), some (.int (nI k)), some (.int (nI s)), some (.int (nI mm)), some (.ref (L.1 (57, k, 0))), some (.int (s_hours (mS S mm 0) (sS S s 5))), some (.ref it), z] []) (nN S) (fun n hi ih w1 ls hR1 hit hF1 hN z => ?_) 0 (Nat.zero_le _) wi _ hRi hit0 hFi (fun j h => absurd h (Nat.not_lt_zero _)) none
                refine x_aload hG (pc := 130) dX7_work_130 rfl ?_
                refine x_callF hG hO (pc := 132) c_Jx35411_hasNext_aae02 lk_X7_83 hit ⟨by decide, by decide⟩ (Nat.le_of_ble_eq_true rfl) (by rw [hG.mc]; exact Nat.le_of_ble_eq_true rfl) (by rw [hG.ms]; exact Nat.le_of_ble_eq_true rfl) dX7_work_132 ?_
                refine ⟨_, _, _, _, _, _, _, _, _, rfl, hit, (hR1.lst (id := 2) (by decide)).1, ?_⟩
                show X g _ _ _ _ _ (.int (if nI n = nI (nN S) then 0 else 1) :: _)
                refine x_if_eq hG (pc := 137) 196 dX7_work_137 (by decide) (fun h137 => ?_) (fun h137 => ?_)
                · have hne : n = nN S := it_e hi (by omega) h137
                  refine x_bipush hG (pc := 196) 10 dX7_work_196 (by decide) ?_
                  refine x_iconst hG (pc := 198) 3 dX7_work_198 (by decide) ?_
                  refine x_aload hG (pc := 199) dX7_work_199 rfl ?_
                  refine x_bipush hG (pc := 201) 6 dX7_work_201 (by decide) ?_
                  refine x_ialdN hG (pc := 203) (c := 6) (hR1.ngt hkn) (by decide) dX7_work_203 ?_
                  rw [(hI.f6 hkn).1]
                  refine x_imul hG (pc := 204) dX7_work_204 ?_
                  refine x_iadd hG (pc := 205) dX7_work_205 ?_
                  rw [ix2]
                  refine x_istore hG (pc := 206) dX7_work_206 (Nat.le_of_ble_eq_true rfl) rfl (by dsimp only [List.set]) ?_
                  refine x_aload hG (pc := 208) dX7_work_208 rfl ?_
                  refine x_iload hG (pc := 210) dX7_work_210 rfl ?_
                  refine x_iload_n hG (pc := 212) 2 dX7_work_212 rfl rfl ?_
                  refine x_iastN hG (pc := 213) (c := 10 + 3 * (nJ (gS S k))) (hR1.ngt hkn) (by omega) dX7_work_213 ?_ (hv := rfl)
                  refine x_gen (fun v1 u1 => ?_)
                  have q1 : v1 = wup w1 (L.1 (57, k, 0)) ((57, k, 0), aI (gK g) 28 (rset (gS S k) (10 + 3 * (nJ (gS S k))) (nI s))) := by rw [u1]
                  have y1 := (congrFun q1 _).trans wup_s
                  refine x_aload hG (pc := 214) dX7_work_214 rfl ?_
                  refine x_iload hG (pc := 216) dX7_work_216 rfl ?_
                  refine x_iconst hG (pc := 218) 1 dX7_work_218 (by decide) ?_
                  refine x_iadd hG (pc := 219) dX7_work_219 ?_
                  refine x_iload_n hG (pc := 220) 3 dX7_work_220 rfl rfl ?_
                  refine x_iastN hG (pc := 221) (c := 11 + 3 * (nJ (gS S k))) y1 (by omega) dX7_work_221 ?_ (hv := ix5 _)
                  refine x_gen (fun v2 u2 => ?_)
                  have q2 : v2 = wup w1 (L.1 (57, k, 0)) ((57, k, 0), aI (gK g) 28 (rset (rset (gS S k) (10 + 3 * (nJ (gS S k))) (nI s)) (11 + 3 * (nJ (gS S k))) (nI mm))) := by rw [u2, q1, wup_w]
                  have y2 := (congrFun q2 _).trans wup_s
                  refine x_aload hG (pc := 222) dX7_work_222 rfl ?_
                  refine x_iload hG (pc := 224) dX7_work_224 rfl ?_
                  refine x_iconst hG (pc := 226) 2 dX7_work_226 (by decide) ?_
                  refine x_iadd hG (pc := 227) dX7_work_227 ?_
                  refine x_iload hG (pc := 228) dX7_work_228 rfl ?_
                  refine x_iastN hG (pc := 230) (c := 12 + 3 * (nJ (gS S k))) y2 (by omega) dX7_work_230 ?_ (hv := ix6 _)
                  refine x_gen (fun v3 u3 => ?_)
                  have q3 : v3 = wup w1 (L.1 (57, k, 0)) ((57, k, 0), aI (gK g) 28 (rset (rset (rset (gS S k) (10 + 3 * (nJ (gS S k))) (nI s)) (11 + 3 * (nJ (gS S k))) (nI mm)) (12 + 3 * (nJ (gS S k))) (s_hours (mS S mm 0) (sS S s 5)))) := by rw [u3, q2, wup_w]
                  have y3 := (congrFun q3 _).trans wup_s
                  refine x_aload hG (pc := 231) dX7_work_231 rfl ?_
                  refine x_bipush hG (pc := 233) 6 dX7_work_233 (by decide) ?_
                  refine x_dup2 hG (pc := 235) dX7_work_235 rfl rfl ?_
                  refine x_ialdN hG (pc := 236) (c := 6) y3 (by decide) dX7_work_236 ?_
                  rw [show (rset (rset (rset (gS S k) (10 + 3 * (nJ (gS S k))) (nI s)) (11 + 3 * (nJ (gS S k))) (nI mm)) (12 + 3 * (nJ (gS S k))) (s_hours (mS S mm 0) (sS S s 5))) 6 = nI (nJ (gS S k)) from by rw [rset_n (by omega), rset_n (by omega), rset_n (by omega)]; exact (hI.f6 hkn).1]
                  refine x_iconst hG (pc := 237) 1 dX7_work_237 (by decide) ?_
                  refine x_iadd hG (pc := 238) dX7_work_238 ?_
                  rw [nI_1]
                  refine x_iastN hG (pc := 239) (c := 6) y3 (by decide) dX7_work_239 ?_
                  refine x_gen (fun v4 u4 => ?_)
                  have q4 : v4 = wup w1 (L.1 (57, k, 0)) ((57, k, 0), aI (gK g) 28 (rset (rset (rset (rset (gS S k) (10 + 3 * (nJ (gS S k))) (nI s)) (11 + 3 * (nJ (gS S k))) (nI mm)) (12 + 3 * (nJ (gS S k))) (s_hours (mS S mm 0) (sS S s 5))) 6 (nI ((nJ (gS S k)) + 1)))) := by rw [u4, q3, wup_w]
                  have y4 := (congrFun q4 _).trans wup_s
                  refine x_aload hG (pc := 240) dX7_work_240 rfl ?_
                  refine x_bipush hG (pc := 242) 7 dX7_work_242 (by decide) ?_
                  refine x_dup2 hG (pc := 244) dX7_work_244 rfl rfl ?_
                  refine x_ialdN hG (pc := 245) (c := 7) y4 (by decide) dX7_work_245 ?_
                  rw [show (rset (rset (rset (rset (gS S k) (10 + 3 * (nJ (gS S k))) (nI s)) (11 + 3 * (nJ (gS S k))) (nI mm)) (12 + 3 * (nJ (gS S k))) (s_hours (mS S mm 0) (sS S s 5))) 6 (nI ((nJ (gS S k)) + 1))) 7 = gS S k 7 from by rw [rset_n (by omega), rset_n (by omega), rset_n (by omega), rset_n (by omega)]]
                  refine x_iload hG (pc := 246) dX7_work_246 rfl ?_
                  refine x_iadd hG (pc := 248) dX7_work_248 ?_
                  refine x_iastN hG (pc := 249) (c := 7) y4 (by decide) dX7_work_249 ?_
                  refine x_gen (fun v5 u5 => ?_)
                  have q5 : v5 = wup w1 (L.1 (57, k, 0)) ((57, k, 0), aI (gK g) 28 (rowJ S k s mm (s_hours (mS S mm 0) (sS S s 5)))) := by
                    rw [u5, q4, wup_w]
                    rfl
                  have y5 := (congrFun q5 _).trans wup_s
                  obtain ⟨hR5, hF5⟩ := hR1.uN hkn q5
                  refine x_aload hG (pc := 250) dX7_work_250 rfl ?_
                  refine x_bipush hG (pc := 252) 7 dX7_work_252 (by decide) ?_
                  refine x_ialdN hG (pc := 254) (c := 7) y5 (by decide) dX7_work_254 ?_
                  refine x_ireturn hG (pc := 255) dX7_work_255 rfl rfl (by rw [hG.mc]; exact Nat.le_of_ble_eq_true rfl) (by rw [hG.ms]; exact Nat.le_of_ble_eq_true rfl) ?_
                  refine fin_i (y := rowJ S k s mm (s_hours (mS S mm 0) (sS S s 5)) 7) (x := gS S k 7 + s_hours (mS S mm 0) (sS S s 5)) rset_s ?_
                  exact hk.ok (k := 0) (by simp only [oWor, hx, hxm, hxs, h54, h87, hlt, h112, ↓reduceIte]; rw [if_pos (ex_f (p := pElI S mm k) (by rw [← hne]; exact hN))]) hR5 (hF1.tr hF5)
                · have hnn : n < nN S := it_n hi h137
                  refine x_aload hG (pc := 140) dX7_work_140 rfl ?_
                  refine x_callF hG hO (pc := 142) c_Jx35411_next_0502b lk_X7_89 hit ⟨by decide, by decide⟩ (Nat.le_of_ble_eq_true rfl) (by rw [hG.mc]; exact Nat.le_of_ble_eq_true rfl) (by rw [hG.ms]; exact Nat.le_of_ble_eq_true rfl) dX7_work_142 ?_
                  refine ⟨_, _, n, _, _, _, _, _, _, _, _, _, rfl, hit, hR1.lst (id := 2) (by decide), hnn, (by intro z; cases z), ?_⟩
                  refine x_gen (fun w2 e2 => ?_)
                  have hit2 := (congrFun e2 it).trans wup_s
                  have hR2 := hR1.tmp hit (by show 60 ≤ 60; decide) e2
                  have hF2 := hF1.up hit (by show 50 ≤ 60 ∧ 60 < 80; decide) e2
                  show X g _ _ _ _ _ (.ref (L.1 (57, n, 0)) :: _)
                  refine x_castI hG (pc := 147) ckl_X7_56 (hR2.ngt hnn) dX7_work_147 ?_
                  refine x_astore hG (pc := 150) dX7_work_150 (Nat.le_of_ble_eq_true rfl) rfl (by dsimp only [List.set]) ?_
                  refine x_aload hG (pc := 152) dX7_work_152 rfl ?_
                  refine x_aload hG (pc := 154) dX7_work_154 rfl ?_
                  refine x_acmp_eq hG (pc := 156) (rx := some _) (ry := some _) 193 dX7_work_156 (by decide) (fun h156 => ?_) (fun h156 => ?_)
                  · have hnk : n = k := hR2.ngt_inj hnn hkn (Option.some.inj h156)
                    refine x_goto hG (pc := 193) 130 dX7_work_193 (by decide) ?_
                    exact ih (n + 1) (by omega) (by omega) w2 _ hR2 hit2 hF2 (all_s hN (fun q => by first | exact q.1 hnk | exact h167 q.2.1 | exact hco q.2.2.1 | exact q.2.2.2 h184)) _
                  · have hnk : ¬ n = k := fun z => h156 (by rw [z])
                    refine x_aload hG (pc := 159) dX7_work_159 rfl ?_
                    refine x_iconst hG (pc := 161) 4 dX7_work_161 (by decide) ?_
                    refine x_ialdN hG (pc := 162) (c := 4) (hR2.ngt hnn) (by decide) dX7_work_162 ?_
                    refine x_aload hG (pc := 163) dX7_work_163 rfl ?_
                    refine x_iconst hG (pc := 165) 4 dX7_work_165 (by decide) ?_
                    refine x_ialdN hG (pc := 166) (c := 4) (hR2.ngt hkn) (by decide) dX7_work_166 ?_
                    refine x_icmp_ne hG (pc := 167) 193 dX7_work_167 (by decide) (fun h167 => ?_) (fun h167 => ?_)
                    · refine x_goto hG (pc := 193) 130 dX7_work_193 (by decide) ?_
                      exact ih (n + 1) (by omega) (by omega) w2 _ hR2 hit2 hF2 (all_s hN (fun q => by first | exact q.1 hnk | exact h167 q.2.1 | exact hco q.2.2.1 | exact q.2.2.2 h184)) _
                    · refine x_aload hG (pc := 170) dX7_work_170 rfl ?_
                      refine x_iconst hG (pc := 172) 0 dX7_work_172 (by decide) ?_
                      refine x_ialdN hG (pc := 173) (c := 0) (hR2.ngt hnn) (by decide) dX7_work_173 ?_
                      refine x_iconst hG (pc := 174) 1 dX7_work_174 (by decide) ?_
                      refine x_icmp_gt hG (pc := 175) 193 dX7_work_175 (by decide) (fun h175 => ?_) (fun h175 => ?_)
                      · have hco : ¬ ¬ s_cot (gS S n 0) = 0 := fun z => absurd ((cot_le (hI.2.2.2.1 n hnn).2.1.1).mpr z) (Int32.not_le.mpr h175)
                        refine x_goto hG (pc := 193) 130 dX7_work_193 (by decide) ?_
                        exact ih (n + 1) (by omega) (by omega) w2 _ hR2 hit2 hF2 (all_s hN (fun q => by first | exact q.1 hnk | exact h167 q.2.1 | exact hco q.2.2.1 | exact q.2.2.2 h184)) _
                      · have hco : ¬ s_cot (gS S n 0) = 0 := (cot_le (hI.2.2.2.1 n hnn).2.1.1).mp (Int32.not_lt.mp h175)
                        refine x_aload hG (pc := 178) dX7_work_178 rfl ?_
                        refine x_iload_n hG (pc := 180) 3 dX7_work_180 rfl rfl ?_
                        refine x_callS hG hO (pc := 181) [_, _] c_X7_uses lk_X7_128 rfl rfl ⟨by decide, by decide⟩ (Nat.le_of_ble_eq_true rfl) (by rw [hG.mc]; exact Nat.le_of_ble_eq_true rfl) (by rw [hG.ms]; exact Nat.le_of_ble_eq_true rfl) dX7_work_181 ?_
                        refine ⟨_, _, _, mm, rfl, hR2.ngt hnn, by omega, (hI.f6 hnn).2, (hI.2.2.2.1 n hnn).2.2.2.1.1, fun j hj => ((hI2.2.1 n hnn).2 j hj).2, ?_⟩
                        show X g _ _ _ _ _ (.int (uses (nJ (gS S n)) (fun j => jM S n j) mm) :: _)
                        refine x_if_eq hG (pc := 184) 193 dX7_work_184 (by decide) (fun h184 => ?_) (fun h184 => ?_)
                        · refine x_goto hG (pc := 193) 130 dX7_work_193 (by decide) ?_
                          exact ih (n + 1) (by omega) (by omega) w2 _ hR2 hit2 hF2 (all_s hN (fun q => by first | exact q.1 hnk | exact h167 q.2.1 | exact hco q.2.2.1 | exact q.2.2.2 h184)) _
                        · refine x_aload_n hG (pc := 187) 0 dX7_work_187 rfl rfl ?_
                          refine x_iconst hG (pc := 188) 3 dX7_work_188 (by decide) ?_
                          refine x_callV hG hO (pc := 189) [_] c_X7_refuse lk_X7_76 hR2.main rfl rfl ⟨by decide, by decide⟩ (Nat.le_of_ble_eq_true rfl) (by rw [hG.mc]; exact Nat.le_of_ble_eq_true rfl) (by rw [hG.ms]; exact Nat.le_of_ble_eq_true rfl) dX7_work_189 ?_
                          refine ⟨_, _, 3, rfl, hR2, fun wr hRr hFr => ?_⟩
                          refine x_ireturn hG (pc := 192) dX7_work_192 rfl rfl (by rw [hG.mc]; exact Nat.le_of_ble_eq_true rfl) (by rw [hG.ms]; exact Nat.le_of_ble_eq_true rfl) ?_
                          exact hk.ok (k := 3) (v := 0) (S1 := S) (by simp only [oWor, hx, hxm, hxs, h54, h87, hlt, h112, ↓reduceIte]; rw [if_neg (by rw [ex_t hnn (p := pElI S mm k) ⟨hnk, h167, hco, h184⟩]; decide)]) hRr (hF2.tr hFr)
              · refine x_aload_n hG (pc := 115) 0 dX7_work_115 rfl rfl ?_
                refine x_iconst hG (pc := 116) 3 dX7_work_116 (by decide) ?_
                refine x_callV hG hO (pc := 117) [_] c_X7_refuse lk_X7_76 hR0.main rfl rfl ⟨by decide, by decide⟩ (Nat.le_of_ble_eq_true rfl) (by rw [hG.mc]; exact Nat.le_of_ble_eq_true rfl) (by rw [hG.ms]; exact Nat.le_of_ble_eq_true rfl) dX7_work_117 ?_
                refine ⟨_, _, 3, rfl, hR0, fun wr hRr hFr => ?_⟩
                refine x_ireturn hG (pc := 120) dX7_work_120 rfl rfl (by rw [hG.mc]; exact Nat.le_of_ble_eq_true rfl) (by rw [hG.ms]; exact Nat.le_of_ble_eq_true rfl) ?_
                exact hk.ok (k := 3) (v := 0) (S1 := S) (by simp only [oWor, hx, hxm, hxs, h54, h87, hlt, h112, ↓reduceIte]) hRr (hF0.tr hFr)
        · refine x_aload_n hG (pc := 57) 0 dX7_work_57 rfl rfl ?_
          refine x_iconst hG (pc := 58) 2 dX7_work_58 (by decide) ?_
          refine x_callV hG hO (pc := 59) [_] c_X7_refuse lk_X7_76 hR0.main rfl rfl ⟨by decide, by decide⟩ (Nat.le_of_ble_eq_true rfl) (by rw [hG.mc]; exact Nat.le_of_ble_eq_true rfl) (by rw [hG.ms]; exact Nat.le_of_ble_eq_true rfl) dX7_work_59 ?_
          refine ⟨_, _, 2, rfl, hR0, fun wr hRr hFr => ?_⟩
          refine x_ireturn hG (pc := 62) dX7_work_62 rfl rfl (by rw [hG.mc]; exact Nat.le_of_ble_eq_true rfl) (by rw [hG.ms]; exact Nat.le_of_ble_eq_true rfl) ?_
          exact hk.ok (k := 2) (v := 0) (S1 := S) (by simp only [oWor, hx, hxm, hxs, h54, ↓reduceIte]) hRr (hF0.tr hFr)
      · have hxs := sIx_0 h25
        refine x_aload_n hG (pc := 28) 0 dX7_work_28 rfl rfl ?_
        refine x_iconst hG (pc := 29) 1 dX7_work_29 (by decide) ?_
        refine x_callV hG hO (pc := 30) [_] c_X7_refuse lk_X7_76 hR0.main rfl rfl ⟨by decide, by decide⟩ (Nat.le_of_ble_eq_true rfl) (by rw [hG.mc]; exact Nat.le_of_ble_eq_true rfl) (by rw [hG.ms]; exact Nat.le_of_ble_eq_true rfl) dX7_work_30 ?_
        refine ⟨_, _, 1, rfl, hR0, fun wr hRr hFr => ?_⟩
        refine x_ireturn hG (pc := 33) dX7_work_33 rfl rfl (by rw [hG.mc]; exact Nat.le_of_ble_eq_true rfl) (by rw [hG.ms]; exact Nat.le_of_ble_eq_true rfl) ?_
        exact hk.ok (k := 1) (v := 0) (S1 := S) (by simp only [oWor, hx, hxm, hxs, ↓reduceIte]) hRr (hF0.tr hFr)
set_option maxHeartbeats 400000 in
set_option maxRecDepth 100000 in
theorem c_X7_walk : CtrA yX7_walk cX7_walk 6 (some .boolean) (rmk 4 2 8 104) (fun Γ av w post xpost => ∃ (L : LayM) (S : St), ∃ i s, av = [.ref (thM L), .int i, .int s] ∧ RepM Γ L S w ∧ Inv2 S ∧ MOut Γ L w post (oWal S i s)) := by
  refine ctr_of (by decide) ?_
  rintro g av w hG hO ⟨L, S, i, s, rfl, hR, hI2, hk⟩
  refine ⟨Nat.le_of_ble_eq_true rfl, ?_⟩
  show X g w 0 0 0 [some (.ref (thM L)), some (.int i), some (.int s), none, none, none] []
  have hI := hI2.1
  have hnM := hI.2.1.1
  have hnN := hI.2.1.2.1
  have hnE := hI.2.1.2.2
  refine x_aload_n hG (pc := 0) 0 dX7_walk_0 rfl rfl ?_
  refine x_iload_n hG (pc := 1) 1 dX7_walk_1 rfl rfl ?_
  refine x_callS hG hO (pc := 2) [_] c_X7_isSection lk_X7_72 rfl rfl ⟨by decide, by decide⟩ (Nat.le_of_ble_eq_true rfl) (by rw [hG.mc]; exact Nat.le_of_ble_eq_true rfl) (by rw [hG.ms]; exact Nat.le_of_ble_eq_true rfl) dX7_walk_2 ?_
  refine ⟨_, rfl, ?_⟩
  refine x_if_ne hG (pc := 5) 12 dX7_walk_5 (by decide) (fun h5 => ?_) (fun h5 => ?_)
  · obtain ⟨k, hx⟩ := sIx_1 h5
    obtain ⟨hkn, rfl⟩ := ixO_some hx (by omega)
    refine x_iload_n hG (pc := 12) 2 dX7_walk_12 rfl rfl ?_
    refine x_bipush hG (pc := 13) 50 dX7_walk_13 (by decide) ?_
    refine x_sipush hG (pc := 15) 2000 dX7_walk_15 (by decide) ?_
    refine x_callS hG hO (pc := 18) [_, _, _] c_X7_is lk_X7_68 rfl rfl ⟨by decide, by decide⟩ (Nat.le_of_ble_eq_true rfl) (by rw [hG.mc]; exact Nat.le_of_ble_eq_true rfl) (by rw [hG.ms]; exact Nat.le_of_ble_eq_true rfl) dX7_walk_18 ?_
    refine ⟨_, _, _, rfl, ?_⟩
    refine x_if_eq hG (pc := 21) 28 dX7_walk_21 (by decide) (fun h21 => ?_) (fun h21 => ?_)
    · have hq21 := h21
      refine x_iconst hG (pc := 28) 2 dX7_walk_28 (by decide) ?_
      refine x_putf hG (pc := 29) fl_X7_31 fw_9 ft_9_0 hR.main (Nat.le_of_ble_eq_true rfl) rfl rfl (by dsimp only [List.set]) dX7_walk_29 ?_
      refine x_gen (fun w0 e0 => ?_)
      obtain ⟨hR0, hF0⟩ := hR.uT (t := 2) e0
      refine x_aload_n hG (pc := 32) 0 dX7_walk_32 rfl rfl ?_
      refine x_getf hG (pc := 33) fl_X7_31 hR0.main rfl dX7_walk_33 ?_
      refine x_if_le hG (pc := 36) 41 dX7_walk_36 (by decide) (fun h36 => ?_) (fun h36 => ?_)
      · exact absurd (show (2 : Int32) ≤ 0 from h36) (by decide)
      · refine x_iconst hG (pc := 39) 0 dX7_walk_39 (by decide) ?_
        refine x_ireturn hG (pc := 40) dX7_walk_40 rfl rfl (by rw [hG.mc]; exact Nat.le_of_ble_eq_true rfl) (by rw [hG.ms]; exact Nat.le_of_ble_eq_true rfl) ?_
        exact hk.ok (k := 2) (v := 0) (S1 := S) (by
          rcases is_f h21 with q | ⟨q, q2⟩
          · simp only [oWal, hx, q, ↓reduceIte]
          · simp only [oWal, hx, q, q2, ↓reduceIte]) hR0 hF0
    · obtain ⟨i21a, i21b⟩ := is_t h21
      refine x_iconst hG (pc := 24) 0 dX7_walk_24 (by decide) ?_
      refine x_goto hG (pc := 25) 29 dX7_walk_25 (by decide) ?_
      refine x_putf hG (pc := 29) fl_X7_31 fw_9 ft_9_0 hR.main (Nat.le_of_ble_eq_true rfl) rfl rfl (by dsimp only [List.set]) dX7_walk_29 ?_
      refine x_gen (fun w0 e0 => ?_)
      obtain ⟨hR0, hF0⟩ := hR.uT (t := 0) e0
      refine x_aload_n hG (pc := 32) 0 dX7_walk_32 rfl rfl ?_
      refine x_getf hG (pc := 33) fl_X7_31 hR0.main rfl dX7_walk_33 ?_
      refine x_if_le hG (pc := 36) 41 dX7_walk_36 (by decide) (fun h36 => ?_) (fun h36 => ?_)
      · refine x_aload_n hG (pc := 41) 0 dX7_walk_41 rfl rfl ?_
        refine x_iload_n hG (pc := 42) 1 dX7_walk_42 rfl rfl ?_
        refine x_callV hG hO (pc := 43) [_] c_X7_isTaken lk_X7_165 hR0.main rfl rfl ⟨by decide, by decide⟩ (Nat.le_of_ble_eq_true rfl) (by rw [hG.mc]; exact Nat.le_of_ble_eq_true rfl) (by rw [hG.ms]; exact Nat.le_of_ble_eq_true rfl) dX7_walk_43 ?_
        refine ⟨lthr L 0, S, nI k, rfl, hR0, by omega, fun w1 hR1 hF1a => ?_⟩
        have hF1 := hF0.tr hF1a
        refine x_if_eq hG (pc := 46) 51 dX7_walk_46 (by decide) (fun h46 => ?_) (fun h46 => ?_)
        · refine x_iload_n hG (pc := 51) 1 dX7_walk_51 rfl rfl ?_
          refine x_bipush hG (pc := 52) 10 dX7_walk_52 (by decide) ?_
          refine x_iadd hG (pc := 54) dX7_walk_54 ?_
          refine x_bipush hG (pc := 55) 20 dX7_walk_55 (by decide) ?_
          refine x_irem hG (pc := 57) dX7_walk_57 (by decide) ?_
          rw [oth_e ⟨k, hkn⟩]
          refine x_istore_n hG (pc := 58) 3 dX7_walk_58 rfl (Nat.le_of_ble_eq_true rfl) rfl (by dsimp only [List.set]) ?_
          refine x_aload_n hG (pc := 59) 0 dX7_walk_59 rfl rfl ?_
          refine x_getf hG (pc := 60) fl_X7_11 hR1.main rfl dX7_walk_60 ?_
          refine x_iload_n hG (pc := 63) 1 dX7_walk_63 rfl rfl ?_
          refine x_aaldI hG (pc := 64) hR1.secs (vp_in_nI hkn (by decide)) dX7_walk_64 ?_
          rw [nI_clamp (by omega), lE_at hkn]
          show X g _ _ _ _ _ (.ref (L.1 (52, k, 0)) :: _)
          refine x_bipush hG (pc := 65) 6 dX7_walk_65 (by decide) ?_
          refine x_ialdN hG (pc := 67) (c := 6) (hR1.sec hkn) (by decide) dX7_walk_67 ?_
          refine x_aload_n hG (pc := 68) 0 dX7_walk_68 rfl rfl ?_
          refine x_iload_n hG (pc := 69) 3 dX7_walk_69 rfl rfl ?_
          refine x_callV hG hO (pc := 70) [_] c_X7_isTaken lk_X7_165 hR1.main rfl rfl ⟨by decide, by decide⟩ (Nat.le_of_ble_eq_true rfl) (by rw [hG.mc]; exact Nat.le_of_ble_eq_true rfl) (by rw [hG.ms]; exact Nat.le_of_ble_eq_true rfl) dX7_walk_70 ?_
          refine ⟨lthr L 0, S, nI (oth k), rfl, hR1, by omega, fun w2 hR2 hF2a => ?_⟩
          have hF2 := hF1.tr hF2a
          refine x_if_eq hG (pc := 73) 80 dX7_walk_73 (by decide) (fun h73 => ?_) (fun h73 => ?_)
          · refine x_aload_n hG (pc := 80) 0 dX7_walk_80 rfl rfl ?_
            refine x_getf hG (pc := 81) fl_X7_11 hR2.main rfl dX7_walk_81 ?_
            refine x_iload_n hG (pc := 84) 3 dX7_walk_84 rfl rfl ?_
            refine x_aaldI hG (pc := 85) hR2.secs (vp_in_nI (oth_lt hkn) (by decide)) dX7_walk_85 ?_
            rw [nI_clamp (by have := oth_lt hkn; omega), lE_at (oth_lt hkn)]
            show X g _ _ _ _ _ (.ref (L.1 (52, oth k, 0)) :: _)
            refine x_bipush hG (pc := 86) 6 dX7_walk_86 (by decide) ?_
            refine x_ialdN hG (pc := 88) (c := 6) (hR2.sec (oth_lt hkn)) (by decide) dX7_walk_88 ?_
            have hb : sBes S k = sS S (oth k) 6 := if_pos h73
            rw [← hb]
            refine x_mmax hG (pc := 89) lk_X7_150 dX7_walk_89 (by decide) (Nat.le_of_ble_eq_true rfl) (by rw [hG.mc]; exact Nat.le_of_ble_eq_true rfl) (by rw [hG.ms]; exact Nat.le_of_ble_eq_true rfl) ?_
            refine x_istore hG (pc := 92) dX7_walk_92 (Nat.le_of_ble_eq_true rfl) rfl (by dsimp only [List.set]) ?_
            refine x_iload hG (pc := 94) dX7_walk_94 rfl ?_
            have hmx : 0 ≤ (mx (sS S k 6) (sBes S k)).toInt := by
              have a := (hI.1 k hkn).2.2.2.1
              unfold mx
              split
              · exact (sBes_b hI hkn).1
              · exact a
            refine x_if_eq hG (pc := 96) 114 dX7_walk_96 (by decide) (fun h96 => ?_) (fun h96 => ?_)
            · have hw : s_warn (sS S k 6) (sBes S k) s = 1 := if_pos (by rw [h96]; decide)
              refine x_iconst hG (pc := 114) 1 dX7_walk_114 (by decide) ?_
              refine x_goto hG (pc := 115) 119 dX7_walk_115 (by decide) ?_
              refine x_istore hG (pc := 119) dX7_walk_119 (Nat.le_of_ble_eq_true rfl) rfl (by dsimp only [List.set]) ?_
              refine x_aload_n hG (pc := 121) 0 dX7_walk_121 rfl rfl ?_
              refine x_dup hG (pc := 122) dX7_walk_122 rfl ?_
              refine x_getf hG (pc := 123) fl_X7_168 hR2.main rfl dX7_walk_123 ?_
              refine x_iload hG (pc := 126) dX7_walk_126 rfl ?_
              refine x_if_eq hG (pc := 128) 135 dX7_walk_128 (by decide) (fun h128 => ?_) (fun h128 => ?_)
              · exact absurd h128 (by decide)
              · refine x_iconst hG (pc := 131) 0 dX7_walk_131 (by decide) ?_
                refine x_goto hG (pc := 132) 136 dX7_walk_132 (by decide) ?_
                refine x_iadd hG (pc := 136) dX7_walk_136 ?_
                refine x_putf hG (pc := 137) fl_X7_168 fw_9 ft_9_10 hR2.main (Nat.le_of_ble_eq_true rfl) rfl rfl (by dsimp only [List.set]) dX7_walk_137 ?_
                rw [Int32.add_zero]
                refine x_gen (fun w3 e3 => ?_)
                obtain ⟨hR3, hF3⟩ := hR2.uG (f := gl S) e3
                refine x_iload hG (pc := 140) dX7_walk_140 rfl ?_
                refine x_ireturn hG (pc := 142) dX7_walk_142 rfl rfl (by rw [hG.mc]; exact Nat.le_of_ble_eq_true rfl) (by rw [hG.ms]; exact Nat.le_of_ble_eq_true rfl) ?_
                have hws : wSaf S k s = 1 := (if_pos h46).trans hw
                exact hk.ok (k := 0) (v := 1) (S1 := S) (by simp only [oWal, hx, i21a, i21b, hws, ↓reduceIte]; rfl) hR3 (hF2.tr hF3)
            · have hnz : ¬ mx (sS S k 6) (sBes S k) ≤ 0 := fun z => h96 (Int32.toInt_inj.mp (by have := Int32.le_iff_toInt_le.mp z; simp at this; show _ = (0 : Int); omega))
              have h160 : (mx (sS S k 6) (sBes S k)).toInt ≤ 160 := mx_le (hI.1 k hkn).2.2.2.2 (sBes_b hI hkn).2
              refine x_iload_n hG (pc := 99) 2 dX7_walk_99 rfl rfl ?_
              refine x_bipush hG (pc := 100) 36 dX7_walk_100 (by decide) ?_
              refine x_imul hG (pc := 102) dX7_walk_102 ?_
              refine x_bipush hG (pc := 103) 10 dX7_walk_103 (by decide) ?_
              refine x_iload hG (pc := 105) dX7_walk_105 rfl ?_
              refine x_imul hG (pc := 107) dX7_walk_107 ?_
              refine x_idiv hG (pc := 108) dX7_walk_108 (ten_ne hnz h160) ?_
              refine x_bipush hG (pc := 109) 25 dX7_walk_109 (by decide) ?_
              refine x_icmp_lt hG (pc := 111) 118 dX7_walk_111 (by decide) (fun h111 => ?_) (fun h111 => ?_)
              · have hw : s_warn (sS S k 6) (sBes S k) s = 0 := (if_neg hnz).trans (if_pos h111)
                refine x_iconst hG (pc := 118) 0 dX7_walk_118 (by decide) ?_
                refine x_istore hG (pc := 119) dX7_walk_119 (Nat.le_of_ble_eq_true rfl) rfl (by dsimp only [List.set]) ?_
                refine x_aload_n hG (pc := 121) 0 dX7_walk_121 rfl rfl ?_
                refine x_dup hG (pc := 122) dX7_walk_122 rfl ?_
                refine x_getf hG (pc := 123) fl_X7_168 hR2.main rfl dX7_walk_123 ?_
                refine x_iload hG (pc := 126) dX7_walk_126 rfl ?_
                refine x_if_eq hG (pc := 128) 135 dX7_walk_128 (by decide) (fun h128 => ?_) (fun h128 => ?_)
                · refine x_iconst hG (pc := 135) 1 dX7_walk_135 (by decide) ?_
                  refine x_iadd hG (pc := 136) dX7_walk_136 ?_
                  refine x_putf hG (pc := 137) fl_X7_168 fw_9 ft_9_10 hR2.main (Nat.le_of_ble_eq_true rfl) rfl rfl (by dsimp only [List.set]) dX7_walk_137 ?_
                  refine x_gen (fun w3 e3 => ?_)
                  obtain ⟨hR3, hF3⟩ := hR2.uG (f := rset (gl S) 5 (gl S 5 + 1)) e3
                  refine x_iload hG (pc := 140) dX7_walk_140 rfl ?_
                  refine x_ireturn hG (pc := 142) dX7_walk_142 rfl rfl (by rw [hG.mc]; exact Nat.le_of_ble_eq_true rfl) (by rw [hG.ms]; exact Nat.le_of_ble_eq_true rfl) ?_
                  have hws : wSaf S k s = 0 := (if_pos h46).trans hw
                  exact hk.ok (k := 0) (v := 0) (by simp only [oWal, hx, i21a, i21b, hws, ↓reduceIte]) hR3 (hF2.tr hF3)
                · exact absurd rfl h128
              · have hw : s_warn (sS S k 6) (sBes S k) s = 1 := (if_neg hnz).trans (if_neg h111)
                refine x_iconst hG (pc := 114) 1 dX7_walk_114 (by decide) ?_
                refine x_goto hG (pc := 115) 119 dX7_walk_115 (by decide) ?_
                refine x_istore hG (pc := 119) dX7_walk_119 (Nat.le_of_ble_eq_true rfl) rfl (by dsimp only [List.set]) ?_
                refine x_aload_n hG (pc := 121) 0 dX7_walk_121 rfl rfl ?_
                refine x_dup hG (pc := 122) dX7_walk_122 rfl ?_
                refine x_getf hG (pc := 123) fl_X7_168 hR2.main rfl dX7_walk_123 ?_
                refine x_iload hG (pc := 126) dX7_walk_126 rfl ?_
                refine x_if_eq hG (pc := 128) 135 dX7_walk_128 (by decide) (fun h128 => ?_) (fun h128 => ?_)
                · exact absurd h128 (by decide)
                · refine x_iconst hG (pc := 131) 0 dX7_walk_131 (by decide) ?_
                  refine x_goto hG (pc := 132) 136 dX7_walk_132 (by decide) ?_
                  refine x_iadd hG (pc := 136) dX7_walk_136 ?_
                  refine x_putf hG (pc := 137) fl_X7_168 fw_9 ft_9_10 hR2.main (Nat.le_of_ble_eq_true rfl) rfl rfl (by dsimp only [List.set]) dX7_walk_137 ?_
                  rw [Int32.add_zero]
                  refine x_gen (fun w3 e3 => ?_)
                  obtain ⟨hR3, hF3⟩ := hR2.uG (f := gl S) e3
                  refine x_iload hG (pc := 140) dX7_walk_140 rfl ?_
                  refine x_ireturn hG (pc := 142) dX7_walk_142 rfl rfl (by rw [hG.mc]; exact Nat.le_of_ble_eq_true rfl) (by rw [hG.ms]; exact Nat.le_of_ble_eq_true rfl) ?_
                  have hws : wSaf S k s = 1 := (if_pos h46).trans hw
                  exact hk.ok (k := 0) (v := 1) (S1 := S) (by simp only [oWal, hx, i21a, i21b, hws, ↓reduceIte]; rfl) hR3 (hF2.tr hF3)
          · refine x_iconst hG (pc := 76) 0 dX7_walk_76 (by decide) ?_
            refine x_goto hG (pc := 77) 89 dX7_walk_77 (by decide) ?_
            have hb : sBes S k = 0 := if_neg h73
            show X g _ _ _ _ _ [.int 0, .int (sS S k 6)]
            rw [← hb]
            refine x_mmax hG (pc := 89) lk_X7_150 dX7_walk_89 (by decide) (Nat.le_of_ble_eq_true rfl) (by rw [hG.mc]; exact Nat.le_of_ble_eq_true rfl) (by rw [hG.ms]; exact Nat.le_of_ble_eq_true rfl) ?_
            refine x_istore hG (pc := 92) dX7_walk_92 (Nat.le_of_ble_eq_true rfl) rfl (by dsimp only [List.set]) ?_
            refine x_iload hG (pc := 94) dX7_walk_94 rfl ?_
            have hmx : 0 ≤ (mx (sS S k 6) (sBes S k)).toInt := by
              have a := (hI.1 k hkn).2.2.2.1
              unfold mx
              split
              · exact (sBes_b hI hkn).1
              · exact a
            refine x_if_eq hG (pc := 96) 114 dX7_walk_96 (by decide) (fun h96 => ?_) (fun h96 => ?_)
            · have hw : s_warn (sS S k 6) (sBes S k) s = 1 := if_pos (by rw [h96]; decide)
              refine x_iconst hG (pc := 114) 1 dX7_walk_114 (by decide) ?_
              refine x_goto hG (pc := 115) 119 dX7_walk_115 (by decide) ?_
              refine x_istore hG (pc := 119) dX7_walk_119 (Nat.le_of_ble_eq_true rfl) rfl (by dsimp only [List.set]) ?_
              refine x_aload_n hG (pc := 121) 0 dX7_walk_121 rfl rfl ?_
              refine x_dup hG (pc := 122) dX7_walk_122 rfl ?_
              refine x_getf hG (pc := 123) fl_X7_168 hR2.main rfl dX7_walk_123 ?_
              refine x_iload hG (pc := 126) dX7_walk_126 rfl ?_
              refine x_if_eq hG (pc := 128) 135 dX7_walk_128 (by decide) (fun h128 => ?_) (fun h128 => ?_)
              · exact absurd h128 (by decide)
              · refine x_iconst hG (pc := 131) 0 dX7_walk_131 (by decide) ?_
                refine x_goto hG (pc := 132) 136 dX7_walk_132 (by decide) ?_
                refine x_iadd hG (pc := 136) dX7_walk_136 ?_
                refine x_putf hG (pc := 137) fl_X7_168 fw_9 ft_9_10 hR2.main (Nat.le_of_ble_eq_true rfl) rfl rfl (by dsimp only [List.set]) dX7_walk_137 ?_
                rw [Int32.add_zero]
                refine x_gen (fun w3 e3 => ?_)
                obtain ⟨hR3, hF3⟩ := hR2.uG (f := gl S) e3
                refine x_iload hG (pc := 140) dX7_walk_140 rfl ?_
                refine x_ireturn hG (pc := 142) dX7_walk_142 rfl rfl (by rw [hG.mc]; exact Nat.le_of_ble_eq_true rfl) (by rw [hG.ms]; exact Nat.le_of_ble_eq_true rfl) ?_
                have hws : wSaf S k s = 1 := (if_pos h46).trans hw
                exact hk.ok (k := 0) (v := 1) (S1 := S) (by simp only [oWal, hx, i21a, i21b, hws, ↓reduceIte]; rfl) hR3 (hF2.tr hF3)
            · have hnz : ¬ mx (sS S k 6) (sBes S k) ≤ 0 := fun z => h96 (Int32.toInt_inj.mp (by have := Int32.le_iff_toInt_le.mp z; simp at this; show _ = (0 : Int); omega))
              have h160 : (mx (sS S k 6) (sBes S k)).toInt ≤ 160 := mx_le (hI.1 k hkn).2.2.2.2 (sBes_b hI hkn).2
              refine x_iload_n hG (pc := 99) 2 dX7_walk_99 rfl rfl ?_
              refine x_bipush hG (pc := 100) 36 dX7_walk_100 (by decide) ?_
              refine x_imul hG (pc := 102) dX7_walk_102 ?_
              refine x_bipush hG (pc := 103) 10 dX7_walk_103 (by decide) ?_
              refine x_iload hG (pc := 105) dX7_walk_105 rfl ?_
              refine x_imul hG (pc := 107) dX7_walk_107 ?_
              refine x_idiv hG (pc := 108) dX7_walk_108 (ten_ne hnz h160) ?_
              refine x_bipush hG (pc := 109) 25 dX7_walk_109 (by decide) ?_
              refine x_icmp_lt hG (pc := 111) 118 dX7_walk_111 (by decide) (fun h111 => ?_) (fun h111 => ?_)
              · have hw : s_warn (sS S k 6) (sBes S k) s = 0 := (if_neg hnz).trans (if_pos h111)
                refine x_iconst hG (pc := 118) 0 dX7_walk_118 (by decide) ?_
                refine x_istore hG (pc := 119) dX7_walk_119 (Nat.le_of_ble_eq_true rfl) rfl (by dsimp only [List.set]) ?_
                refine x_aload_n hG (pc := 121) 0 dX7_walk_121 rfl rfl ?_
                refine x_dup hG (pc := 122) dX7_walk_122 rfl ?_
                refine x_getf hG (pc := 123) fl_X7_168 hR2.main rfl dX7_walk_123 ?_
                refine x_iload hG (pc := 126) dX7_walk_126 rfl ?_
                refine x_if_eq hG (pc := 128) 135 dX7_walk_128 (by decide) (fun h128 => ?_) (fun h128 => ?_)
                · refine x_iconst hG (pc := 135) 1 dX7_walk_135 (by decide) ?_
                  refine x_iadd hG (pc := 136) dX7_walk_136 ?_
                  refine x_putf hG (pc := 137) fl_X7_168 fw_9 ft_9_10 hR2.main (Nat.le_of_ble_eq_true rfl) rfl rfl (by dsimp only [List.set]) dX7_walk_137 ?_
                  refine x_gen (fun w3 e3 => ?_)
                  obtain ⟨hR3, hF3⟩ := hR2.uG (f := rset (gl S) 5 (gl S 5 + 1)) e3
                  refine x_iload hG (pc := 140) dX7_walk_140 rfl ?_
                  refine x_ireturn hG (pc := 142) dX7_walk_142 rfl rfl (by rw [hG.mc]; exact Nat.le_of_ble_eq_true rfl) (by rw [hG.ms]; exact Nat.le_of_ble_eq_true rfl) ?_
                  have hws : wSaf S k s = 0 := (if_pos h46).trans hw
                  exact hk.ok (k := 0) (v := 0) (by simp only [oWal, hx, i21a, i21b, hws, ↓reduceIte]) hR3 (hF2.tr hF3)
                · exact absurd rfl h128
              · have hw : s_warn (sS S k 6) (sBes S k) s = 1 := (if_neg hnz).trans (if_neg h111)
                refine x_iconst hG (pc := 114) 1 dX7_walk_114 (by decide) ?_
                refine x_goto hG (pc := 115) 119 dX7_walk_115 (by decide) ?_
                refine x_istore hG (pc := 119) dX7_walk_119 (Nat.le_of_ble_eq_true rfl) rfl (by dsimp only [List.set]) ?_
                refine x_aload_n hG (pc := 121) 0 dX7_walk_121 rfl rfl ?_
                refine x_dup hG (pc := 122) dX7_walk_122 rfl ?_
                refine x_getf hG (pc := 123) fl_X7_168 hR2.main rfl dX7_walk_123 ?_
                refine x_iload hG (pc := 126) dX7_walk_126 rfl ?_
                refine x_if_eq hG (pc := 128) 135 dX7_walk_128 (by decide) (fun h128 => ?_) (fun h128 => ?_)
                · exact absurd h128 (by decide)
                · refine x_iconst hG (pc := 131) 0 dX7_walk_131 (by decide) ?_
                  refine x_goto hG (pc := 132) 136 dX7_walk_132 (by decide) ?_
                  refine x_iadd hG (pc := 136) dX7_walk_136 ?_
                  refine x_putf hG (pc := 137) fl_X7_168 fw_9 ft_9_10 hR2.main (Nat.le_of_ble_eq_true rfl) rfl rfl (by dsimp only [List.set]) dX7_walk_137 ?_
                  rw [Int32.add_zero]
                  refine x_gen (fun w3 e3 => ?_)
                  obtain ⟨hR3, hF3⟩ := hR2.uG (f := gl S) e3
                  refine x_iload hG (pc := 140) dX7_walk_140 rfl ?_
                  refine x_ireturn hG (pc := 142) dX7_walk_142 rfl rfl (by rw [hG.mc]; exact Nat.le_of_ble_eq_true rfl) (by rw [hG.ms]; exact Nat.le_of_ble_eq_true rfl) ?_
                  have hws : wSaf S k s = 1 := (if_pos h46).trans hw
                  exact hk.ok (k := 0) (v := 1) (S1 := S) (by simp only [oWal, hx, i21a, i21b, hws, ↓reduceIte]; rfl) hR3 (hF2.tr hF3)
        · refine x_iconst hG (pc := 49) 1 dX7_walk_49 (by decide) ?_
          refine x_ireturn hG (pc := 50) dX7_walk_50 rfl rfl (by rw [hG.mc]; exact Nat.le_of_ble_eq_true rfl) (by rw [hG.ms]; exact Nat.le_of_ble_eq_true rfl) ?_
          have hw : wSaf S k s = 1 := if_neg h46
          exact hk.ok (k := 0) (v := 1) (S1 := S) (by simp only [oWal, hx, i21a, i21b, hw, ↓reduceIte]; rfl) hR1 hF1
      · exact absurd (show (0 : Int32) ≤ 0 by decide) h36
  · have hx := sIx_0 h5
    refine x_iconst hG (pc := 8) 1 dX7_walk_8 (by decide) ?_
    refine x_goto hG (pc := 9) 29 dX7_walk_9 (by decide) ?_
    refine x_putf hG (pc := 29) fl_X7_31 fw_9 ft_9_0 hR.main (Nat.le_of_ble_eq_true rfl) rfl rfl (by dsimp only [List.set]) dX7_walk_29 ?_
    refine x_gen (fun w0 e0 => ?_)
    obtain ⟨hR0, hF0⟩ := hR.uT (t := 1) e0
    refine x_aload_n hG (pc := 32) 0 dX7_walk_32 rfl rfl ?_
    refine x_getf hG (pc := 33) fl_X7_31 hR0.main rfl dX7_walk_33 ?_
    refine x_if_le hG (pc := 36) 41 dX7_walk_36 (by decide) (fun h36 => ?_) (fun h36 => ?_)
    · exact absurd (show (1 : Int32) ≤ 0 from h36) (by decide)
    · refine x_iconst hG (pc := 39) 0 dX7_walk_39 (by decide) ?_
      refine x_ireturn hG (pc := 40) dX7_walk_40 rfl rfl (by rw [hG.mc]; exact Nat.le_of_ble_eq_true rfl) (by rw [hG.ms]; exact Nat.le_of_ble_eq_true rfl) ?_
      exact hk.ok (k := 1) (v := 0) (S1 := S) (by simp only [oWal, hx, ↓reduceIte]) hR0 hF0
