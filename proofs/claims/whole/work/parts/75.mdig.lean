/-! The reference: digest -/
abbrev ld (L : LayM) (d : Int64) : LayM := lsum (lthr L 0) d
theorem dgl_s {d : Int64} {f : Nat → Int32} {n : Nat} : dg (dgl d f n) (f n) = dgl d f (n + 1) := rfl
theorem dgT_s {S : St} {d : Int64} {n : Nat} : dgS S (dgT S d n) n = dgT S d (n + 1) := rfl
theorem dgM_s {S : St} {d : Int64} {n : Nat} : dgl (dgM S d n) (mS S n) 4 = dgM S d (n + 1) := rfl
theorem dgN_s {S : St} {d : Int64} {n : Nat} : dgl (dgN S d n) (ofN S n) 10 = dgN S d (n + 1) := rfl
theorem dgS_e {S : St} {d : Int64} {k : Nat} : dg (dg (dg (dg (dg (dgl (dgl d (ofS S k) 8) (knS S k) 5) (wyV S k 0)) (wyV S k 1)) (seV S k)) (riV S k 20)) (bst S k 20 30 3).1 = dgS S d k := rfl
theorem dgA_e {S : St} : dg (dg (dgN S (dgM S (dgT S (dgl 4809 (manV S) 17) 20) (nM S)) (nN S)) (fre S 0 0 9)) (fre S 1 3 5) = dgA S := rfl
set_option maxHeartbeats 2000000 in
set_option maxRecDepth 100000 in
theorem c_X7_digest : CtrA yX7_digest cX7_digest 7 (some .long) (rmk 7 664 4600 200) (fun Γ av w post xpost => ∃ (L : LayM) (S : St), av = [.ref (thM L)] ∧ RepM Γ L S w ∧ Inv2 S ∧ (∀ (L1 : LayM) (w1 : Wd), thM L1 = thM L → RepM Γ L1 S w1 → FrC w w1 → post (some (.long (dgA S))) w1)) := by
  refine ctr_of (by decide) ?_
  rintro g av w hG hO ⟨L, S, rfl, hR, hI2, hk⟩
  refine ⟨Nat.le_of_ble_eq_true rfl, ?_⟩
  show X g w 0 0 0 [some (.ref (thM L)), none, none, none, none, none, none] []
  have hI := hI2.1
  have hnM := hI.2.1.1
  have hnN := hI.2.1.2.1
  have hnE := hI.2.1.2.2
  refine x_aload_n hG (pc := 0) 0 dX7_digest_0 rfl rfl ?_
  refine x_iconst hG (pc := 1) 0 dX7_digest_1 (by decide) ?_
  refine x_putf hG (pc := 2) fl_X7_31 fw_9 ft_9_0 hR.main (Nat.le_of_ble_eq_true rfl) rfl rfl (by dsimp only [List.set]) dX7_digest_2 ?_
  refine x_gen (fun wa ea => ?_)
  obtain ⟨hRa, hFa⟩ := hR.uT ea
  refine x_aload_n hG (pc := 5) 0 dX7_digest_5 rfl rfl ?_
  refine x_ldc2 hG (pc := 6) _ dX7_digest_6 kc_X7_222 ?_
  refine x_putf hG (pc := 9) fl_X7_216 fw_9 ft_9_11 hRa.main (Nat.le_of_ble_eq_true rfl) rfl rfl (by dsimp only [List.set]) dX7_digest_9 ?_
  refine x_gen (fun wb eb => ?_)
  obtain ⟨hRb, hFb0⟩ := hRa.uD (d := 4809) eb
  have hFb := hFa.tr hFb0
  refine x_iconst hG (pc := 12) 0 dX7_digest_12 (by decide) ?_
  refine x_istore_n hG (pc := 13) 1 dX7_digest_13 rfl (Nat.le_of_ble_eq_true rfl) rfl (by dsimp only [List.set]) ?_
  refine nat_down (P := fun v => ∀ w1, RepM (gΓ g) (ld L (dgl 4809 (manV S) v)) S w1 → FrC w w1 → X g w1 (24 * v) (170 * v) 14 [some (.ref (thM L)), some (.int (nI v)), none, none, none, none, none] []) 17 (fun v hv17 ih w1 hR1 hF1 => ?_) 0 (Nat.zero_le _) wb hRb hFb
  refine x_iload_n hG (pc := 14) 1 dX7_digest_14 rfl rfl ?_
  refine x_bipush hG (pc := 15) 17 dX7_digest_15 (by decide) ?_
  refine x_icmp_ge hG (pc := 17) 35 dX7_digest_17 (by decide) (fun h17 => ?_) (fun h17 => ?_)
  · have hve : v = 17 := by
      rcases Nat.lt_or_ge v 17 with q | q
      · exact absurd h17 (nI_ge (b := 17) q (by decide))
      · omega
    subst hve
    refine x_widen (kc2 := 408 + 11 * 0) (ks2 := 2890 + 77 * 0) (by omega) (by omega) ?_
    clear ih
    refine x_iconst hG (pc := 35) 0 dX7_digest_35 (by decide) ?_
    refine x_istore_n hG (pc := 36) 1 dX7_digest_36 rfl (Nat.le_of_ble_eq_true rfl) rfl (by dsimp only [List.set]) ?_
    refine nat_down (P := fun s => ∀ (w4 : Wd) (z : Option Value), RepM (gΓ g) (ld L (dgT S (dgl 4809 (manV S) 17) s)) S w4 → FrC w w4 → X g w4 (408 + 11 * s) (2890 + 77 * s) 37 [some (.ref (thM L)), some (.int (nI s)), z, none, none, none, none] []) 20 (fun s hs20 ih w4 z hR4 hF4 => ?_) 0 (Nat.zero_le _) w1 none hR1 hF1
    refine x_iload_n hG (pc := 37) 1 dX7_digest_37 rfl rfl ?_
    refine x_bipush hG (pc := 38) 20 dX7_digest_38 (by decide) ?_
    refine x_icmp_ge hG (pc := 40) 149 dX7_digest_40 (by decide) (fun h40 => ?_) (fun h40 => ?_)
    · have hse : s = 20 := by
        rcases Nat.lt_or_ge s 20 with q | q
        · exact absurd h40 (nI_ge (b := 20) q (by decide))
        · omega
      subst hse
      clear ih
      refine x_aload_n hG (pc := 149) 0 dX7_digest_149 rfl rfl ?_
      refine x_getf hG (pc := 150) fl_X7_17 hR4.main rfl dX7_digest_150 ?_
      refine x_callV hG hO (pc := 153) [] c_Jx4a65c_iterator_32c93 lk_X7_79 (hR4.lst (id := 1) (by decide)).1 rfl rfl ⟨by decide, by decide⟩ (Nat.le_of_ble_eq_true rfl) (by rw [hG.mc]; dsimp only [rmk]; omega) (by rw [hG.ms]; dsimp only [rmk]; omega) dX7_digest_153 ?_
      refine ⟨_, _, _, _, _, (60, 0, 0), rfl, (hR4.lst (id := 1) (by decide)).1, fun it hfit hnit => ?_⟩
      refine x_gen (fun wi ei => ?_)
      have hit0 := (congrFun ei it).trans wup_s
      have hRi := hR4.nw hfit ei
      have hFi := hF4.nw hfit ei
      refine x_astore_n hG (pc := 156) 1 dX7_digest_156 rfl (Nat.le_of_ble_eq_true rfl) rfl (by dsimp only [List.set]) ?_
      refine nat_down (P := fun m => ∀ (w1 : Wd) (ls : Int32), RepM (gΓ g) (ld L (dgM S (dgT S (dgl 4809 (manV S) 17) 20) m)) S w1 → w1 it = some ((60, 0, 0), oI (nI m) ls (L.2.2.2.1 1) (L.1 (53, 1, 0))) → FrC w w1 → ∀ (z2 z3 z4 z5 z6 : Option Value), X g w1 629 4434 157 [some (.ref (thM L)), some (.ref it), z2, z3, z4, z5, z6] []) (nM S) (fun m hi ih w1 ls hR1 hit hF1 z2 z3 z4 z5 z6 => ?_) 0 (Nat.zero_le _) wi _ hRi hit0 hFi _ _ _ _ _
      refine x_aload_n hG (pc := 157) 1 dX7_digest_157 rfl rfl ?_
      refine x_callF hG hO (pc := 158) c_Jx35411_hasNext_aae02 lk_X7_83 hit ⟨by decide, by decide⟩ (Nat.le_of_ble_eq_true rfl) (by rw [hG.mc]; dsimp only [rmk]; omega) (by rw [hG.ms]; dsimp only [rmk]; omega) dX7_digest_158 ?_
      refine ⟨_, _, _, _, _, _, _, _, _, rfl, hit, (hR1.lst (id := 1) (by decide)).1, ?_⟩
      show X g _ _ _ _ _ (.int (if nI m = nI (nM S) then 0 else 1) :: _)
      refine x_if_eq hG (pc := 163) 213 dX7_digest_163 (by decide) (fun h163 => ?_) (fun h163 => ?_)
      · have hme : m = nM S := it_e hi (by omega) h163
        subst hme
        clear ih
        refine x_iconst hG (pc := 213) 0 dX7_digest_213 (by decide) ?_
        refine x_istore_n hG (pc := 214) 1 dX7_digest_214 rfl (Nat.le_of_ble_eq_true rfl) rfl (by dsimp only [List.set]) ?_
        refine nat_down (P := fun m => ∀ (w7 : Wd) (y2 : Option Value), RepM (gΓ g) (ld L (dgN S (dgM S (dgT S (dgl 4809 (manV S) 17) 20) (nM S)) m)) S w7 → FrC w w7 → X g w7 629 4434 215 [some (.ref (thM L)), some (.int (nI m)), y2, z3, z4, z5, z6] []) (nN S) (fun m hi ih w7 y2 hR7 hF7 => ?_) 0 (Nat.zero_le _) w1 _ hR1 hF1
        refine x_iload_n hG (pc := 215) 1 dX7_digest_215 rfl rfl ?_
        refine x_aload_n hG (pc := 216) 0 dX7_digest_216 rfl rfl ?_
        refine x_getf hG (pc := 217) fl_X7_21 hR7.main rfl dX7_digest_217 ?_
        refine x_callV hG hO (pc := 220) [] c_Jx4a65c_size_8abf5 lk_X7_64 (hR7.lst (id := 2) (by decide)).1 rfl rfl ⟨by decide, by decide⟩ (Nat.le_of_ble_eq_true rfl) (by rw [hG.mc]; dsimp only [rmk]; omega) (by rw [hG.ms]; dsimp only [rmk]; omega) dX7_digest_220 ?_
        refine ⟨_, _, _, _, _, rfl, (hR7.lst (id := 2) (by decide)).1, ?_⟩
        show X g _ _ _ _ _ (.int (nI (nN S)) :: _)
        refine x_icmp_ge hG (pc := 223) 256 dX7_digest_223 (by decide) (fun h223 => ?_) (fun h223 => ?_)
        · have hme : m = nN S := by
            rcases Nat.lt_or_ge m (nN S) with q | q
            · exact absurd h223 (nI_ge (b := nN S) q (by omega))
            · omega
          subst hme
          clear ih
          refine x_aload_n hG (pc := 256) 0 dX7_digest_256 rfl rfl ?_
          refine x_aload_n hG (pc := 257) 0 dX7_digest_257 rfl rfl ?_
          refine x_iconst hG (pc := 258) 0 dX7_digest_258 (by decide) ?_
          refine x_iconst hG (pc := 259) 0 dX7_digest_259 (by decide) ?_
          refine x_bipush hG (pc := 260) 9 dX7_digest_260 (by decide) ?_
          refine x_callV hG hO (pc := 262) [_, _, _] c_X7_freeNow lk_X7_213 hR7.main rfl rfl ⟨by decide, by decide⟩ (Nat.le_of_ble_eq_true rfl) (by rw [hG.mc]; dsimp only [rmk]; omega) (by rw [hG.ms]; dsimp only [rmk]; omega) dX7_digest_262 ?_
          refine ⟨_, S, _, _, _, rfl, hR7, hI, fun w8 hR8 hF8a => ?_⟩
          have hF8 := hF7.tr hF8a
          refine x_callV hG hO (pc := 265) [_] c_X7_add lk_X7_224 hR8.main rfl rfl ⟨by decide, by decide⟩ (Nat.le_of_ble_eq_true rfl) (by rw [hG.mc]; dsimp only [rmk]; omega) (by rw [hG.ms]; dsimp only [rmk]; omega) dX7_digest_265 ?_
          refine ⟨_, S, _, rfl, hR8, fun w9 hR9 hF9a _ => ?_⟩
          have hF9 := hF8.tr hF9a
          refine x_aload_n hG (pc := 268) 0 dX7_digest_268 rfl rfl ?_
          refine x_aload_n hG (pc := 269) 0 dX7_digest_269 rfl rfl ?_
          refine x_iconst hG (pc := 270) 1 dX7_digest_270 (by decide) ?_
          refine x_iconst hG (pc := 271) 3 dX7_digest_271 (by decide) ?_
          refine x_iconst hG (pc := 272) 5 dX7_digest_272 (by decide) ?_
          refine x_callV hG hO (pc := 273) [_, _, _] c_X7_freeNow lk_X7_213 hR9.main rfl rfl ⟨by decide, by decide⟩ (Nat.le_of_ble_eq_true rfl) (by rw [hG.mc]; dsimp only [rmk]; omega) (by rw [hG.ms]; dsimp only [rmk]; omega) dX7_digest_273 ?_
          refine ⟨_, S, _, _, _, rfl, hR9, hI, fun w10 hR10 hF10a => ?_⟩
          have hF10 := hF9.tr hF10a
          refine x_callV hG hO (pc := 276) [_] c_X7_add lk_X7_224 hR10.main rfl rfl ⟨by decide, by decide⟩ (Nat.le_of_ble_eq_true rfl) (by rw [hG.mc]; dsimp only [rmk]; omega) (by rw [hG.ms]; dsimp only [rmk]; omega) dX7_digest_276 ?_
          refine ⟨_, S, _, rfl, hR10, fun w11 hR11 hF11a _ => ?_⟩
          have hF11 := hF10.tr hF11a
          refine x_aload_n hG (pc := 279) 0 dX7_digest_279 rfl rfl ?_
          refine x_getf hG (pc := 280) fl_X7_216 hR11.main rfl dX7_digest_280 ?_
          refine x_lreturn hG (pc := 283) dX7_digest_283 rfl (by rw [hG.mc]; dsimp only [rmk]; omega) (by rw [hG.ms]; dsimp only [rmk]; omega) ?_
          exact hk (ld L (dgA S)) w11 rfl hR11 hF11
        · have hmn : m < nN S := by
            rcases Nat.lt_or_ge m (nN S) with q | q
            · exact q
            · exact absurd (nI_le q (by omega)) h223
          refine x_iconst hG (pc := 226) 0 dX7_digest_226 (by decide) ?_
          refine x_istore_n hG (pc := 227) 2 dX7_digest_227 rfl (Nat.le_of_ble_eq_true rfl) rfl (by dsimp only [List.set]) ?_
          refine nat_down (P := fun v => ∀ (w8 : Wd), RepM (gΓ g) (ld L (dgl (dgN S (dgM S (dgT S (dgl 4809 (manV S) 17) 20) (nM S)) m) (ofN S m) v)) S w8 → FrC w w8 → X g w8 629 4434 228 [some (.ref (thM L)), some (.int (nI m)), some (.int (nI v)), z3, z4, z5, z6] []) 10 (fun v hv10 ih2 w8 hR8 hF8 => ?_) 0 (Nat.zero_le _) w7 hR7 hF7
          refine x_iload_n hG (pc := 228) 2 dX7_digest_228 rfl rfl ?_
          refine x_bipush hG (pc := 229) 10 dX7_digest_229 (by decide) ?_
          refine x_icmp_ge hG (pc := 231) 250 dX7_digest_231 (by decide) (fun h231 => ?_) (fun h231 => ?_)
          · have hve : v = 10 := by
              rcases Nat.lt_or_ge v 10 with q | q
              · exact absurd h231 (nI_ge (b := 10) q (by decide))
              · omega
            subst hve
            refine x_iinc hG (pc := 250) (nI (m + 1)) dX7_digest_250 rfl (Nat.le_of_ble_eq_true rfl) rfl (nI_1' m) (by dsimp only [List.set]) ?_
            refine x_goto hG (pc := 253) 215 dX7_digest_253 (by decide) ?_
            exact ih (m + 1) (by omega) (by omega) w8 _ hR8 hF8
          · have hvn : v < 10 := by
              rcases Nat.lt_or_ge v 10 with q | q
              · exact q
              · exact absurd (nI_le (a := 10) q (by omega)) h231
            refine x_aload_n hG (pc := 234) 0 dX7_digest_234 rfl rfl ?_
            refine x_aload_n hG (pc := 235) 0 dX7_digest_235 rfl rfl ?_
            refine x_iload_n hG (pc := 236) 1 dX7_digest_236 rfl rfl ?_
            refine x_iload_n hG (pc := 237) 2 dX7_digest_237 rfl rfl ?_
            refine x_callV hG hO (pc := 238) [_, _] c_X7_ofNightNow lk_X7_188 hR8.main rfl rfl ⟨by decide, by decide⟩ (Nat.le_of_ble_eq_true rfl) (by rw [hG.mc]; dsimp only [rmk]; omega) (by rw [hG.ms]; dsimp only [rmk]; omega) dX7_digest_238 ?_
            refine ⟨_, S, m, v, rfl, hR8, hmn, hvn, (hI.2.2.2.1 m hmn).2.2.1, ?_⟩
            refine x_callV hG hO (pc := 241) [_] c_X7_add lk_X7_224 hR8.main rfl rfl ⟨by decide, by decide⟩ (Nat.le_of_ble_eq_true rfl) (by rw [hG.mc]; dsimp only [rmk]; omega) (by rw [hG.ms]; dsimp only [rmk]; omega) dX7_digest_241 ?_
            refine ⟨_, S, _, rfl, hR8, fun w9 hR9 hF9a _ => ?_⟩
            have hF9 := hF8.tr hF9a
            refine x_iinc hG (pc := 244) (nI (v + 1)) dX7_digest_244 rfl (Nat.le_of_ble_eq_true rfl) rfl (nI_1' v) (by dsimp only [List.set]) ?_
            refine x_goto hG (pc := 247) 228 dX7_digest_247 (by decide) ?_
            exact ih2 (v + 1) (by omega) (by omega) w9 hR9 hF9
      · have hmn : m < nM S := it_n hi h163
        refine x_aload_n hG (pc := 166) 1 dX7_digest_166 rfl rfl ?_
        refine x_callF hG hO (pc := 167) c_Jx35411_next_0502b lk_X7_89 hit ⟨by decide, by decide⟩ (Nat.le_of_ble_eq_true rfl) (by rw [hG.mc]; dsimp only [rmk]; omega) (by rw [hG.ms]; dsimp only [rmk]; omega) dX7_digest_167 ?_
        refine ⟨_, _, m, _, _, _, _, _, _, _, _, _, rfl, hit, hR1.lst (id := 1) (by decide), hmn, (by intro z; cases z), ?_⟩
        refine x_gen (fun w2 e2 => ?_)
        have hit2 := (congrFun e2 it).trans wup_s
        have hR2 := hR1.tmp hit (by show 60 ≤ 60; decide) e2
        have hF2 := hF1.up hit (by show 50 ≤ 60 ∧ 60 < 80; decide) e2
        show X g _ _ _ _ _ (.ref (L.1 (56, m, 0)) :: _)
        refine x_castI hG (pc := 172) ckl_X7_56 (hR2.mac hmn) dX7_digest_172 ?_
        refine x_astore_n hG (pc := 175) 2 dX7_digest_175 rfl (Nat.le_of_ble_eq_true rfl) rfl (by dsimp only [List.set]) ?_
        refine x_aload_n hG (pc := 176) 2 dX7_digest_176 rfl rfl ?_
        refine x_astore_n hG (pc := 177) 3 dX7_digest_177 rfl (Nat.le_of_ble_eq_true rfl) rfl (by dsimp only [List.set]) ?_
        refine x_aload_n hG (pc := 178) 3 dX7_digest_178 rfl rfl ?_
        refine x_alenI hG (pc := 179) (hR2.mac hmn) dX7_digest_179 ?_
        refine x_istore hG (pc := 180) dX7_digest_180 (Nat.le_of_ble_eq_true rfl) rfl (by dsimp only [List.set]) ?_
        refine x_iconst hG (pc := 182) 0 dX7_digest_182 (by decide) ?_
        refine x_istore hG (pc := 183) dX7_digest_183 (Nat.le_of_ble_eq_true rfl) rfl (by dsimp only [List.set]) ?_
        refine nat_down (P := fun v => ∀ (w5 : Wd) (z6 : Option Value), RepM (gΓ g) (ld L (dgl (dgM S (dgT S (dgl 4809 (manV S) 17) 20) m) (mS S m) v)) S w5 → w5 it = some ((60, 0, 0), oI (nI (m + 1)) (nI m) (L.2.2.2.1 1) (L.1 (53, 1, 0))) → FrC w w5 → X g w5 629 4434 185 [some (.ref (thM L)), some (.ref it), some (.ref (L.1 (56, m, 0))), some (.ref (L.1 (56, m, 0))), some (.int (nI 4)), some (.int (nI v)), z6] []) 4 (fun v hv4 ih2 w5 z6 hR5 hit5 hF5 => ?_) 0 (Nat.zero_le _) w2 _ hR2 hit2 hF2
        refine x_iload hG (pc := 185) dX7_digest_185 rfl ?_
        refine x_iload hG (pc := 187) dX7_digest_187 rfl ?_
        refine x_icmp_ge hG (pc := 189) 210 dX7_digest_189 (by decide) (fun h189 => ?_) (fun h189 => ?_)
        · have hve : v = 4 := by
            rcases Nat.lt_or_ge v 4 with q | q
            · exact absurd h189 (nI_ge (b := 4) q (by decide))
            · omega
          refine x_goto hG (pc := 210) 157 dX7_digest_210 (by decide) ?_
          subst hve
          exact ih (m + 1) (by omega) (by omega) w5 _ hR5 hit5 hF5 _ _ _ _ _
        · have hvn : v < 4 := by
            rcases Nat.lt_or_ge v 4 with q | q
            · exact q
            · exact absurd (nI_le (a := 4) q (by omega)) h189
          refine x_aload_n hG (pc := 192) 3 dX7_digest_192 rfl rfl ?_
          refine x_iload hG (pc := 193) dX7_digest_193 rfl ?_
          refine x_ialdN hG (pc := 195) (c := v) (hR5.mac hmn) (by omega) dX7_digest_195 ?_ (hv := rfl)
          refine x_istore hG (pc := 196) dX7_digest_196 (Nat.le_of_ble_eq_true rfl) rfl (by dsimp only [List.set]) ?_
          refine x_aload_n hG (pc := 198) 0 dX7_digest_198 rfl rfl ?_
          refine x_iload hG (pc := 199) dX7_digest_199 rfl ?_
          refine x_callV hG hO (pc := 201) [_] c_X7_add lk_X7_224 hR5.main rfl rfl ⟨by decide, by decide⟩ (Nat.le_of_ble_eq_true rfl) (by rw [hG.mc]; dsimp only [rmk]; omega) (by rw [hG.ms]; dsimp only [rmk]; omega) dX7_digest_201 ?_
          refine ⟨_, S, _, rfl, hR5, fun w6 hR6 hF6a hS6 => ?_⟩
          have hF6 := hF5.tr hF6a
          have hit6 := hS6 _ _ hit5 rfl
          refine x_iinc hG (pc := 204) (nI (v + 1)) dX7_digest_204 rfl (Nat.le_of_ble_eq_true rfl) rfl (nI_1' v) (by dsimp only [List.set]) ?_
          refine x_goto hG (pc := 207) 185 dX7_digest_207 (by decide) ?_
          exact ih2 (v + 1) (by omega) (by omega) w6 _ hR6 hit6 hF6
    · have hsn : s < 20 := by
        rcases Nat.lt_or_ge s 20 with q | q
        · exact q
        · exact absurd (nI_le (a := 20) q (by omega)) h40
      refine x_iconst hG (pc := 43) 0 dX7_digest_43 (by decide) ?_
      refine x_istore_n hG (pc := 44) 2 dX7_digest_44 rfl (Nat.le_of_ble_eq_true rfl) rfl (by dsimp only [List.set]) ?_
      refine nat_down (P := fun v => ∀ (w5 : Wd), RepM (gΓ g) (ld L (dgl (dgT S (dgl 4809 (manV S) 17) s) (ofS S s) v)) S w5 → FrC w w5 → X g w5 (408 + 11 * s) (2890 + 77 * s) 45 [some (.ref (thM L)), some (.int (nI s)), some (.int (nI v)), none, none, none, none] []) 8 (fun v hv8 ih2 w5 hR5 hF5 => ?_) 0 (Nat.zero_le _) w4 hR4 hF4
      refine x_iload_n hG (pc := 45) 2 dX7_digest_45 rfl rfl ?_
      refine x_bipush hG (pc := 46) 8 dX7_digest_46 (by decide) ?_
      refine x_icmp_ge hG (pc := 48) 67 dX7_digest_48 (by decide) (fun h48 => ?_) (fun h48 => ?_)
      · have hve : v = 8 := by
          rcases Nat.lt_or_ge v 8 with q | q
          · exact absurd h48 (nI_ge (b := 8) q (by decide))
          · omega
        subst hve
        clear ih2
        refine x_iconst hG (pc := 67) 0 dX7_digest_67 (by decide) ?_
        refine x_istore_n hG (pc := 68) 2 dX7_digest_68 rfl (Nat.le_of_ble_eq_true rfl) rfl (by dsimp only [List.set]) ?_
        refine nat_down (P := fun v => ∀ (w6 : Wd), RepM (gΓ g) (ld L (dgl (dgl (dgT S (dgl 4809 (manV S) 17) s) (ofS S s) 8) (knS S s) v)) S w6 → FrC w w6 → X g w6 (408 + 11 * s + v) (2890 + 77 * s + 7 * v) 69 [some (.ref (thM L)), some (.int (nI s)), some (.int (nI v)), none, none, none, none] []) 5 (fun v hv5 ih2 w6 hR6 hF6 => ?_) 0 (Nat.zero_le _) w5 hR5 hF5
        refine x_iload_n hG (pc := 69) 2 dX7_digest_69 rfl rfl ?_
        refine x_iconst hG (pc := 70) 5 dX7_digest_70 (by decide) ?_
        refine x_icmp_ge hG (pc := 71) 90 dX7_digest_71 (by decide) (fun h71 => ?_) (fun h71 => ?_)
        · have hve : v = 5 := by
            rcases Nat.lt_or_ge v 5 with q | q
            · exact absurd h71 (nI_ge (b := 5) q (by decide))
            · omega
          subst hve
          clear ih2
          refine x_aload_n hG (pc := 90) 0 dX7_digest_90 rfl rfl ?_
          refine x_aload_n hG (pc := 91) 0 dX7_digest_91 rfl rfl ?_
          refine x_iload_n hG (pc := 92) 1 dX7_digest_92 rfl rfl ?_
          refine x_iconst hG (pc := 93) 0 dX7_digest_93 (by decide) ?_
          refine x_callV hG hO (pc := 94) [_, _] v_X7_whyNow lk_X7_184 hR6.main rfl rfl ⟨by decide, by decide⟩ (Nat.le_of_ble_eq_true rfl) (by rw [hG.mc]; dsimp only [rmk]; omega) (by rw [hG.ms]; dsimp only [rmk]; omega) dX7_digest_94 ?_
          refine ⟨_, S, s, rfl, hR6, hsn, ?_⟩
          refine x_callV hG hO (pc := 97) [_] c_X7_add lk_X7_224 hR6.main rfl rfl ⟨by decide, by decide⟩ (Nat.le_of_ble_eq_true rfl) (by rw [hG.mc]; dsimp only [rmk]; omega) (by rw [hG.ms]; dsimp only [rmk]; omega) dX7_digest_97 ?_
          refine ⟨_, S, _, rfl, hR6, fun w8 hR8 hF8a _ => ?_⟩
          have hF8 := hF6.tr hF8a
          refine x_aload_n hG (pc := 100) 0 dX7_digest_100 rfl rfl ?_
          refine x_aload_n hG (pc := 101) 0 dX7_digest_101 rfl rfl ?_
          refine x_iload_n hG (pc := 102) 1 dX7_digest_102 rfl rfl ?_
          refine x_iconst hG (pc := 103) 1 dX7_digest_103 (by decide) ?_
          refine x_callV hG hO (pc := 104) [_, _] c_X7_whyNow lk_X7_184 hR8.main rfl rfl ⟨by decide, by decide⟩ (Nat.le_of_ble_eq_true rfl) (by rw [hG.mc]; dsimp only [rmk]; omega) (by rw [hG.ms]; dsimp only [rmk]; omega) dX7_digest_104 ?_
          refine ⟨_, S, s, 1, rfl, hR8, hsn, hI, fun w9 hR9 hF9a => ?_⟩
          have hF9 := hF8.tr hF9a
          refine x_callV hG hO (pc := 107) [_] c_X7_add lk_X7_224 hR9.main rfl rfl ⟨by decide, by decide⟩ (Nat.le_of_ble_eq_true rfl) (by rw [hG.mc]; dsimp only [rmk]; omega) (by rw [hG.ms]; dsimp only [rmk]; omega) dX7_digest_107 ?_
          refine ⟨_, S, _, rfl, hR9, fun w10 hR10 hF10a _ => ?_⟩
          have hF10 := hF9.tr hF10a
          refine x_aload_n hG (pc := 110) 0 dX7_digest_110 rfl rfl ?_
          refine x_aload_n hG (pc := 111) 0 dX7_digest_111 rfl rfl ?_
          refine x_iload_n hG (pc := 112) 1 dX7_digest_112 rfl rfl ?_
          refine x_callV hG hO (pc := 113) [_] c_X7_seeNow lk_X7_196 hR10.main rfl rfl ⟨by decide, by decide⟩ (Nat.le_of_ble_eq_true rfl) (by rw [hG.mc]; dsimp only [rmk]; omega) (by rw [hG.ms]; dsimp only [rmk]; omega) dX7_digest_113 ?_
          refine ⟨_, S, s, rfl, hR10, hsn, hI, ?_⟩
          refine x_callV hG hO (pc := 116) [_] c_X7_add lk_X7_224 hR10.main rfl rfl ⟨by decide, by decide⟩ (Nat.le_of_ble_eq_true rfl) (by rw [hG.mc]; dsimp only [rmk]; omega) (by rw [hG.ms]; dsimp only [rmk]; omega) dX7_digest_116 ?_
          refine ⟨_, S, _, rfl, hR10, fun w11 hR11 hF11a _ => ?_⟩
          have hF11 := hF10.tr hF11a
          refine x_aload_n hG (pc := 119) 0 dX7_digest_119 rfl rfl ?_
          refine x_aload_n hG (pc := 120) 0 dX7_digest_120 rfl rfl ?_
          refine x_iload_n hG (pc := 121) 1 dX7_digest_121 rfl rfl ?_
          refine x_bipush hG (pc := 122) 20 dX7_digest_122 (by decide) ?_
          refine x_callV hG hO (pc := 124) [_, _] c_X7_riskNow lk_X7_202 hR11.main rfl rfl ⟨by decide, by decide⟩ (Nat.le_of_ble_eq_true rfl) (by rw [hG.mc]; dsimp only [rmk]; omega) (by rw [hG.ms]; dsimp only [rmk]; omega) dX7_digest_124 ?_
          refine ⟨_, S, s, 20, rfl, hR11, hsn, by decide, by decide, hI, fun w12 hR12 hF12a => ?_⟩
          have hF12 := hF11.tr hF12a
          refine x_callV hG hO (pc := 127) [_] c_X7_add lk_X7_224 hR12.main rfl rfl ⟨by decide, by decide⟩ (Nat.le_of_ble_eq_true rfl) (by rw [hG.mc]; dsimp only [rmk]; omega) (by rw [hG.ms]; dsimp only [rmk]; omega) dX7_digest_127 ?_
          refine ⟨_, S, _, rfl, hR12, fun w13 hR13 hF13a _ => ?_⟩
          have hF13 := hF12.tr hF13a
          refine x_aload_n hG (pc := 130) 0 dX7_digest_130 rfl rfl ?_
          refine x_aload_n hG (pc := 131) 0 dX7_digest_131 rfl rfl ?_
          refine x_iload_n hG (pc := 132) 1 dX7_digest_132 rfl rfl ?_
          refine x_bipush hG (pc := 133) 20 dX7_digest_133 (by decide) ?_
          refine x_bipush hG (pc := 135) 30 dX7_digest_135 (by decide) ?_
          refine x_callV hG hO (pc := 137) [_, _, _] c_X7_bestNow lk_X7_209 hR13.main rfl rfl ⟨by decide, by decide⟩ (Nat.le_of_ble_eq_true rfl) (by rw [hG.mc]; dsimp only [rmk]; omega) (by rw [hG.ms]; dsimp only [rmk]; omega) dX7_digest_137 ?_
          refine ⟨_, S, s, 20, 30, rfl, hR13, hsn, by decide, by decide, by decide, hI, fun w14 hR14 hF14a => ?_⟩
          have hF14 := hF13.tr hF14a
          refine x_callV hG hO (pc := 140) [_] c_X7_add lk_X7_224 hR14.main rfl rfl ⟨by decide, by decide⟩ (Nat.le_of_ble_eq_true rfl) (by rw [hG.mc]; dsimp only [rmk]; omega) (by rw [hG.ms]; dsimp only [rmk]; omega) dX7_digest_140 ?_
          refine ⟨_, S, _, rfl, hR14, fun w15 hR15 hF15a _ => ?_⟩
          have hF15 := hF14.tr hF15a
          refine x_iinc hG (pc := 143) (nI (s + 1)) dX7_digest_143 rfl (Nat.le_of_ble_eq_true rfl) rfl (nI_1' s) (by dsimp only [List.set]) ?_
          refine x_goto hG (pc := 146) 37 dX7_digest_146 (by decide) ?_
          exact ih (s + 1) (by omega) (by omega) w15 _ hR15 hF15
        · have hvn : v < 5 := by
            rcases Nat.lt_or_ge v 5 with q | q
            · exact q
            · exact absurd (nI_le (a := 5) q (by omega)) h71
          refine x_aload_n hG (pc := 74) 0 dX7_digest_74 rfl rfl ?_
          refine x_aload_n hG (pc := 75) 0 dX7_digest_75 rfl rfl ?_
          refine x_iload_n hG (pc := 76) 1 dX7_digest_76 rfl rfl ?_
          refine x_iload_n hG (pc := 77) 2 dX7_digest_77 rfl rfl ?_
          refine x_callV hG hO (pc := 78) [_, _] c_X7_knownNow lk_X7_178 hR6.main rfl rfl ⟨by decide, by decide⟩ (Nat.le_of_ble_eq_true rfl) (by rw [hG.mc]; dsimp only [rmk]; omega) (by rw [hG.ms]; dsimp only [rmk]; omega) dX7_digest_78 ?_
          refine ⟨_, S, s, v, rfl, hR6, hsn, hvn, hI, fun w7 hR7 hF7a => ?_⟩
          have hF7 := hF6.tr hF7a
          refine x_callV hG hO (pc := 81) [_] c_X7_add lk_X7_224 hR7.main rfl rfl ⟨by decide, by decide⟩ (Nat.le_of_ble_eq_true rfl) (by rw [hG.mc]; dsimp only [rmk]; omega) (by rw [hG.ms]; dsimp only [rmk]; omega) dX7_digest_81 ?_
          refine ⟨_, S, _, rfl, hR7, fun w8 hR8 hF8a _ => ?_⟩
          have hF8 := hF7.tr hF8a
          refine x_iinc hG (pc := 84) (nI (v + 1)) dX7_digest_84 rfl (Nat.le_of_ble_eq_true rfl) rfl (nI_1' v) (by dsimp only [List.set]) ?_
          refine x_goto hG (pc := 87) 69 dX7_digest_87 (by decide) ?_
          exact ih2 (v + 1) (by omega) (by omega) w8 hR8 hF8
      · have hvn : v < 8 := by
          rcases Nat.lt_or_ge v 8 with q | q
          · exact q
          · exact absurd (nI_le (a := 8) q (by omega)) h48
        refine x_aload_n hG (pc := 51) 0 dX7_digest_51 rfl rfl ?_
        refine x_aload_n hG (pc := 52) 0 dX7_digest_52 rfl rfl ?_
        refine x_iload_n hG (pc := 53) 1 dX7_digest_53 rfl rfl ?_
        refine x_iload_n hG (pc := 54) 2 dX7_digest_54 rfl rfl ?_
        refine x_callV hG hO (pc := 55) [_, _] c_X7_ofSectionNow lk_X7_171 hR5.main rfl rfl ⟨by decide, by decide⟩ (Nat.le_of_ble_eq_true rfl) (by rw [hG.mc]; dsimp only [rmk]; omega) (by rw [hG.ms]; dsimp only [rmk]; omega) dX7_digest_55 ?_
        refine ⟨_, S, s, v, rfl, hR5, hsn, hvn, ?_⟩
        refine x_callV hG hO (pc := 58) [_] c_X7_add lk_X7_224 hR5.main rfl rfl ⟨by decide, by decide⟩ (Nat.le_of_ble_eq_true rfl) (by rw [hG.mc]; dsimp only [rmk]; omega) (by rw [hG.ms]; dsimp only [rmk]; omega) dX7_digest_58 ?_
        refine ⟨_, S, _, rfl, hR5, fun w6 hR6 hF6a _ => ?_⟩
        have hF6 := hF5.tr hF6a
        refine x_iinc hG (pc := 61) (nI (v + 1)) dX7_digest_61 rfl (Nat.le_of_ble_eq_true rfl) rfl (nI_1' v) (by dsimp only [List.set]) ?_
        refine x_goto hG (pc := 64) 45 dX7_digest_64 (by decide) ?_
        exact ih2 (v + 1) (by omega) (by omega) w6 hR6 hF6
  · have hvn : v < 17 := by
      rcases Nat.lt_or_ge v 17 with q | q
      · exact q
      · exact absurd (nI_le (a := 17) q (by omega)) h17
    refine x_aload_n hG (pc := 20) 0 dX7_digest_20 rfl rfl ?_
    refine x_aload_n hG (pc := 21) 0 dX7_digest_21 rfl rfl ?_
    refine x_iload_n hG (pc := 22) 1 dX7_digest_22 rfl rfl ?_
    refine x_callV hG hO (pc := 23) [_] c_X7_manyNow lk_X7_191 hR1.main rfl rfl ⟨by decide, by decide⟩ (Nat.le_of_ble_eq_true rfl) (by rw [hG.mc]; dsimp only [rmk]; omega) (by rw [hG.ms]; dsimp only [rmk]; omega) dX7_digest_23 ?_
    refine ⟨_, S, v, rfl, hR1, hvn, hI2, fun w2 hR2 hF2a => ?_⟩
    have hF2 := hF1.tr hF2a
    refine x_callV hG hO (pc := 26) [_] c_X7_add lk_X7_224 hR2.main rfl rfl ⟨by decide, by decide⟩ (Nat.le_of_ble_eq_true rfl) (by rw [hG.mc]; dsimp only [rmk]; omega) (by rw [hG.ms]; dsimp only [rmk]; omega) dX7_digest_26 ?_
    refine ⟨_, S, _, rfl, hR2, fun w3 hR3 hF3a _ => ?_⟩
    have hF3 := hF2.tr hF3a
    refine x_iinc hG (pc := 29) (nI (v + 1)) dX7_digest_29 rfl (Nat.le_of_ble_eq_true rfl) rfl (nI_1' v) (by dsimp only [List.set]) ?_
    refine x_goto hG (pc := 32) 14 dX7_digest_32 (by decide) ?_
    exact ih (v + 1) (by omega) (by omega) w3 hR3 hF3
