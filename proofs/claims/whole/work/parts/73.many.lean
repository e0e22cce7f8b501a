/-! The reference: many, digest -/
theorem FrC.own {w w1 w2 : Wd} (h : FrC w w1) {q : Nat} {y : Tg × va_E} (hq : w q = none) (e : w2 = wup w1 q y) : FrC w w2 := by
  intro b x hb hx
  have hne : b ≠ q := fun z => by rw [z, hq] at hb; cases hb
  exact (congrFun e b).trans ((wup_n hne).trans (h b x hb hx))
def stR (S : St) (k : Nat) : Nat → Int32 := fun s => if s < 5 then cnt (fun j => if gS S j 0 = nI s then 1 else 0) k else 0
theorem stR_0 {S : St} : (fun _ => (0 : Int32)) = stR S 0 := by
  funext s
  unfold stR
  split <;> rfl
theorem stR_s {S : St} {k s : Nat} (hs : s < 5) (he : gS S k 0 = nI s) : rset (stR S k) s (stR S k s + 1) = stR S (k + 1) := by
  funext x
  unfold rset
  by_cases q : x = s
  · subst q
    rw [if_pos rfl]
    unfold stR
    rw [if_pos hs, if_pos hs]
    simp only [cnt]
    rw [if_pos he]
  · rw [if_neg q]
    unfold stR
    by_cases c : x < 5
    · rw [if_pos c, if_pos c]
      simp only [cnt]
      rw [if_neg (fun z => q ((nI_eq (by omega) (by omega)).mp (z.symm.trans he))), Int32.add_zero]
    · rw [if_neg c, if_neg c]
theorem stR_n {S : St} {s : Nat} (hs : s < 5) : stR S (nN S) s = nPos S (nI s) := if_pos hs
theorem ali_e {S : St} (hI : Inv S) : cnt (fun j => eS S j 4) (nE S) = nAli S := cnt_c _ fun j hj => by
  rcases (hI.2.2.2.2.1 j hj).1 with q | q <;> rw [q] <;> decide
theorem st5 {x : Int32} (h : 0 ≤ x.toInt ∧ x.toInt ≤ 4) : ∃ s, s < 5 ∧ x = nI s := ⟨x.toNatClampNeg, by have h1 : x.toNatClampNeg = x.toInt.toNat := rfl; omega, (i_nn h.1).symm⟩
def fsP (S : St) (i : Nat) : Int32 := if sS S i 6 ≤ sp7 (sS S i) (gl S 1) then 0 else 1
def seP (S : St) (i : Nat) : Int32 := if sS S i 6 ≤ kSp S (nI i) (sS S i 4) then 0 else 1
theorem cnt_s {p : Nat → Int32} {k : Nat} {v : Int32} (h : p k = v) : cnt p k + v = cnt p (k + 1) := by
  subst h
  rfl
set_option maxHeartbeats 2000000 in
set_option maxRecDepth 100000 in
theorem c_X7_manyNow : CtrA yX7_manyNow cX7_manyNow 8 (some .int) (rmk 6 24 170 138) (fun Γ av w post xpost => ∃ (L : LayM) (S : St), ∃ v, av = [.ref (thM L), .int (nI v)] ∧ RepM Γ L S w ∧ v < 17 ∧ Inv2 S ∧ (∀ w1, RepM Γ L S w1 → FrC w w1 → post (some (.int (manV S v))) w1)) := by
  refine ctr_of (by decide) ?_
  rintro g av w hG hO ⟨L, S, v, rfl, hR, hv, hI2, hk⟩
  refine ⟨Nat.le_of_ble_eq_true rfl, ?_⟩
  show X g w 0 0 0 [some (.ref (thM L)), some (.int (nI v)), none, none, none, none, none, none] []
  have hI := hI2.1
  have hnM := hI.2.1.1
  have hnN := hI.2.1.2.1
  have hnE := hI.2.1.2.2
  refine x_iconst hG (pc := 0) 5 dX7_manyNow_0 (by decide) ?_
  refine x_newI hG (pc := 1) (80, 0, 0) (by decide) (n := 5) (by decide) (by decide) dX7_manyNow_1 (by rw [hG.mc]; dsimp only [rmk]; omega) (by rw [hG.ms]; dsimp only [rmk]; omega) (fun q hfq hnq => ?_)
  rw [stR_0 (S := S)]
  refine x_gen (fun w0 e0 => ?_)
  have hq0 := (congrFun e0 q).trans wup_s
  have hR0 := hR.nw hfq e0
  have hF0 := FrC.rf.nw hfq e0
  refine x_astore_n hG (pc := 3) 2 dX7_manyNow_3 rfl (Nat.le_of_ble_eq_true rfl) rfl (by dsimp only [List.set]) ?_
  refine x_iconst hG (pc := 4) 0 dX7_manyNow_4 (by decide) ?_
  rw [show (0 : Int32) = cnt (fun j => gS S j 9) 0 from rfl]
  refine x_istore_n hG (pc := 5) 3 dX7_manyNow_5 rfl (Nat.le_of_ble_eq_true rfl) rfl (by dsimp only [List.set]) ?_
  refine x_aload_n hG (pc := 6) 0 dX7_manyNow_6 rfl rfl ?_
  refine x_getf hG (pc := 7) fl_X7_21 hR0.main rfl dX7_manyNow_7 ?_
  refine x_callV hG hO (pc := 10) [] c_Jx4a65c_iterator_32c93 lk_X7_79 (hR0.lst (id := 2) (by decide)).1 rfl rfl ⟨by decide, by decide⟩ (Nat.le_of_ble_eq_true rfl) (by rw [hG.mc]; dsimp only [rmk]; omega) (by rw [hG.ms]; dsimp only [rmk]; omega) dX7_manyNow_10 ?_
  refine ⟨_, _, _, _, _, (60, 0, 0), rfl, (hR0.lst (id := 2) (by decide)).1, fun it hfit hnit => ?_⟩
  refine x_gen (fun wi ei => ?_)
  have hit0 := (congrFun ei it).trans wup_s
  have hRi := hR0.nw hfit ei
  have hFi := hF0.nw hfit ei
  have hqi := (congrFun ei q).trans (wup_f hfit hq0)
  refine x_astore hG (pc := 13) dX7_manyNow_13 (Nat.le_of_ble_eq_true rfl) rfl (by dsimp only [List.set]) ?_
  refine nat_down (P := fun k => ∀ (w1 : Wd) (ls : Int32), RepM (gΓ g) L S w1 → w1 it = some ((60, 0, 0), oI (nI k) ls (L.2.2.2.1 2) (L.1 (53, 2, 0))) → FrC w w1 → w1 q = some ((80, 0, 0), aI (gK g) 5 (stR S k)) → ∀ z : Option Value, X g w1 2 9 15 [some (.ref (thM L)), some (.int (nI v)), some (.ref q), some (.int (cnt (fun j => gS S j 9) k)), some (.ref it), z, none, none] []) (nN S) (fun k hi ih w1 ls hR1 hit hF1 hqq z => ?_) 0 (Nat.zero_le _) wi _ hRi hit0 hFi hqi none
  refine x_aload hG (pc := 15) dX7_manyNow_15 rfl ?_
  refine x_callF hG hO (pc := 17) c_Jx35411_hasNext_aae02 lk_X7_83 hit ⟨by decide, by decide⟩ (Nat.le_of_ble_eq_true rfl) (by rw [hG.mc]; dsimp only [rmk]; omega) (by rw [hG.ms]; dsimp only [rmk]; omega) dX7_manyNow_17 ?_
  refine ⟨_, _, _, _, _, _, _, _, _, rfl, hit, (hR1.lst (id := 2) (by decide)).1, ?_⟩
  show X g _ _ _ _ _ (.int (if nI k = nI (nN S) then 0 else 1) :: _)
  refine x_if_eq hG (pc := 22) 58 dX7_manyNow_22 (by decide) (fun h22 => ?_) (fun h22 => ?_)
  · have hke : k = nN S := it_e hi (by omega) h22
    rw [hke] at hqq ⊢
    rw [← hI.2.2.2.2.2.2]
    clear ih
    refine x_iconst hG (pc := 58) 0 dX7_manyNow_58 (by decide) ?_
    rw [show (0 : Int32) = cnt (fun j => eS S j 4) 0 from rfl]
    refine x_istore hG (pc := 59) dX7_manyNow_59 (Nat.le_of_ble_eq_true rfl) rfl (by dsimp only [List.set]) ?_
    refine x_aload_n hG (pc := 61) 0 dX7_manyNow_61 rfl rfl ?_
    refine x_getf hG (pc := 62) fl_X7_24 hR1.main rfl dX7_manyNow_62 ?_
    refine x_callV hG hO (pc := 65) [] c_Jx4a65c_iterator_32c93 lk_X7_79 (hR1.lst (id := 0) (by decide)).1 rfl rfl ⟨by decide, by decide⟩ (Nat.le_of_ble_eq_true rfl) (by rw [hG.mc]; dsimp only [rmk]; omega) (by rw [hG.ms]; dsimp only [rmk]; omega) dX7_manyNow_65 ?_
    refine ⟨_, _, _, _, _, (60, 0, 0), rfl, (hR1.lst (id := 0) (by decide)).1, fun jt hfjt hnjt => ?_⟩
    refine x_gen (fun wib eib => ?_)
    have hjt0 := (congrFun eib jt).trans wup_s
    have hRib := hR1.nw hfjt eib
    have hFib := hF1.nw hfjt eib
    have hqb := (congrFun eib q).trans (wup_f hfjt hqq)
    refine x_astore hG (pc := 68) dX7_manyNow_68 (Nat.le_of_ble_eq_true rfl) rfl (by dsimp only [List.set]) ?_
    refine nat_down (P := fun m => ∀ (w1b : Wd) (ls : Int32), RepM (gΓ g) L S w1b → w1b jt = some ((60, 0, 0), oI (nI m) ls (L.2.2.2.1 0) (L.1 (53, 0, 0))) → FrC w w1b → w1b q = some ((80, 0, 0), aI (gK g) 5 (stR S (nN S))) → ∀ z : Option Value, X g w1b 3 13 70 [some (.ref (thM L)), some (.int (nI v)), some (.ref q), some (.int (gl S 6)), some (.int (cnt (fun j => eS S j 4) m)), some (.ref jt), z, none] []) (nE S) (fun m hib ih w1b ls hR1b hjt hF1b hqqb z => ?_) 0 (Nat.zero_le _) wib _ hRib hjt0 hFib hqb none
    refine x_aload hG (pc := 70) dX7_manyNow_70 rfl ?_
    refine x_callF hG hO (pc := 72) c_Jx35411_hasNext_aae02 lk_X7_83 hjt ⟨by decide, by decide⟩ (Nat.le_of_ble_eq_true rfl) (by rw [hG.mc]; dsimp only [rmk]; omega) (by rw [hG.ms]; dsimp only [rmk]; omega) dX7_manyNow_72 ?_
    refine ⟨_, _, _, _, _, _, _, _, _, rfl, hjt, (hR1b.lst (id := 0) (by decide)).1, ?_⟩
    show X g _ _ _ _ _ (.int (if nI m = nI (nE S) then 0 else 1) :: _)
    refine x_if_eq hG (pc := 77) 104 dX7_manyNow_77 (by decide) (fun h77 => ?_) (fun h77 => ?_)
    · have hme : m = nE S := it_e hib (by omega) h77
      rw [hme]
      rw [ali_e hI]
      clear ih
      refine x_iconst hG (pc := 104) 0 dX7_manyNow_104 (by decide) ?_
      rw [show (0 : Int32) = cnt (fsP S) 0 from rfl]
      refine x_istore hG (pc := 105) dX7_manyNow_105 (Nat.le_of_ble_eq_true rfl) rfl (by dsimp only [List.set]) ?_
      refine x_iconst hG (pc := 107) 0 dX7_manyNow_107 (by decide) ?_
      rw [show (0 : Int32) = cnt (seP S) 0 from rfl]
      refine x_istore hG (pc := 108) dX7_manyNow_108 (Nat.le_of_ble_eq_true rfl) rfl (by dsimp only [List.set]) ?_
      refine x_iconst hG (pc := 110) 0 dX7_manyNow_110 (by decide) ?_
      refine x_istore hG (pc := 111) dX7_manyNow_111 (Nat.le_of_ble_eq_true rfl) rfl (by dsimp only [List.set]) ?_
      refine nat_down (P := fun i => ∀ (w4 : Wd), RepM (gΓ g) L S w4 → FrC w w4 → w4 q = some ((80, 0, 0), aI (gK g) 5 (stR S (nN S))) → X g w4 (3 + i) (13 + 7 * i) 113 [some (.ref (thM L)), some (.int (nI v)), some (.ref q), some (.int (gl S 6)), some (.int (nAli S)), some (.int (cnt (fsP S) i)), some (.int (cnt (seP S) i)), some (.int (nI i))] []) 20 (fun i hi20 ih w4 hR4 hF4 hq4 => ?_) 0 (Nat.zero_le _) w1b hR1b hF1b hqqb
      refine x_iload hG (pc := 113) dX7_manyNow_113 rfl ?_
      refine x_bipush hG (pc := 115) 20 dX7_manyNow_115 (by decide) ?_
      refine x_icmp_ge hG (pc := 117) 187 dX7_manyNow_117 (by decide) (fun h117 => ?_) (fun h117 => ?_)
      · have hie : i = 20 := by
          rcases Nat.lt_or_ge i 20 with q | q
          · exact absurd h117 (nI_ge (b := 20) q (by decide))
          · omega
        rw [hie]
        refine x_widen (kc2 := 23) (ks2 := 153) (by omega) (by omega) ?_
        clear ih
        refine x_bipush hG (pc := 187) 17 dX7_manyNow_187 (by decide) ?_
        refine x_newI hG (pc := 189) (61, 0, 0) (by decide) (n := 17) (by decide) (by decide) dX7_manyNow_189 (by rw [hG.mc]; dsimp only [rmk]; omega) (by rw [hG.ms]; dsimp only [rmk]; omega) (fun p hfp hnp => ?_)
        refine x_gen (fun v1 z1 => ?_)
        have y1 := (congrFun z1 p).trans wup_s
        refine x_dup hG (pc := 191) dX7_manyNow_191 rfl ?_
        refine x_iconst hG (pc := 192) 0 dX7_manyNow_192 (by decide) ?_
        refine x_aload_n hG (pc := 193) 0 dX7_manyNow_193 rfl rfl ?_
        refine x_getf hG (pc := 194) fl_X7_93 ((hR4.nw hfp z1).main) rfl dX7_manyNow_194 ?_
        refine x_iastN hG (pc := 197) (c := 0) y1 (by decide) dX7_manyNow_197 ?_
        refine x_gen (fun v2 e102 => ?_)
        have z2 : v2 = wup w4 p ((61, 0, 0), aI (gK g) 17 (rset (fun _ => 0) (0) (gl S 0))) := by rw [e102, z1, wup_w]
        have y2 := (congrFun z2 p).trans wup_s
        refine x_dup hG (pc := 198) dX7_manyNow_198 rfl ?_
        refine x_iconst hG (pc := 199) 1 dX7_manyNow_199 (by decide) ?_
        refine x_aload_n hG (pc := 200) 0 dX7_manyNow_200 rfl rfl ?_
        refine x_getf hG (pc := 201) fl_X7_17 ((hR4.nw hfp z2).main) rfl dX7_manyNow_201 ?_
        refine x_callV hG hO (pc := 204) [] c_Jx4a65c_size_8abf5 lk_X7_64 ((hR4.nw hfp z2).lst (id := 1) (by decide)).1 rfl rfl ⟨by decide, by decide⟩ (Nat.le_of_ble_eq_true rfl) (by rw [hG.mc]; dsimp only [rmk]; omega) (by rw [hG.ms]; dsimp only [rmk]; omega) dX7_manyNow_204 ?_
        refine ⟨_, _, _, _, _, rfl, ((hR4.nw hfp z2).lst (id := 1) (by decide)).1, ?_⟩
        show X g _ _ _ _ _ (.int (nI (nM S)) :: _)
        refine x_iastN hG (pc := 207) (c := 1) y2 (by decide) dX7_manyNow_207 ?_
        refine x_gen (fun v3 e103 => ?_)
        have z3 : v3 = wup w4 p ((61, 0, 0), aI (gK g) 17 (rset (rset (fun _ => 0) (0) (gl S 0)) (1) (nI (nM S)))) := by rw [e103, z2, wup_w]
        have y3 := (congrFun z3 p).trans wup_s
        refine x_dup hG (pc := 208) dX7_manyNow_208 rfl ?_
        refine x_iconst hG (pc := 209) 2 dX7_manyNow_209 (by decide) ?_
        refine x_aload_n hG (pc := 210) 0 dX7_manyNow_210 rfl rfl ?_
        refine x_getf hG (pc := 211) fl_X7_24 ((hR4.nw hfp z3).main) rfl dX7_manyNow_211 ?_
        refine x_callV hG hO (pc := 214) [] c_Jx4a65c_size_8abf5 lk_X7_64 ((hR4.nw hfp z3).lst (id := 0) (by decide)).1 rfl rfl ⟨by decide, by decide⟩ (Nat.le_of_ble_eq_true rfl) (by rw [hG.mc]; dsimp only [rmk]; omega) (by rw [hG.ms]; dsimp only [rmk]; omega) dX7_manyNow_214 ?_
        refine ⟨_, _, _, _, _, rfl, ((hR4.nw hfp z3).lst (id := 0) (by decide)).1, ?_⟩
        show X g _ _ _ _ _ (.int (nI (nE S)) :: _)
        refine x_iastN hG (pc := 217) (c := 2) y3 (by decide) dX7_manyNow_217 ?_
        refine x_gen (fun v4 e104 => ?_)
        have z4 : v4 = wup w4 p ((61, 0, 0), aI (gK g) 17 (rset (rset (rset (fun _ => 0) (0) (gl S 0)) (1) (nI (nM S))) (2) (nI (nE S)))) := by rw [e104, z3, wup_w]
        have y4 := (congrFun z4 p).trans wup_s
        refine x_dup hG (pc := 218) dX7_manyNow_218 rfl ?_
        refine x_iconst hG (pc := 219) 3 dX7_manyNow_219 (by decide) ?_
        refine x_iload hG (pc := 220) dX7_manyNow_220 rfl ?_
        refine x_iastN hG (pc := 222) (c := 3) y4 (by decide) dX7_manyNow_222 ?_
        refine x_gen (fun v5 e105 => ?_)
        have z5 : v5 = wup w4 p ((61, 0, 0), aI (gK g) 17 (rset (rset (rset (rset (fun _ => 0) (0) (gl S 0)) (1) (nI (nM S))) (2) (nI (nE S))) (3) (nAli S))) := by rw [e105, z4, wup_w]
        have y5 := (congrFun z5 p).trans wup_s
        refine x_dup hG (pc := 223) dX7_manyNow_223 rfl ?_
        refine x_iconst hG (pc := 224) 4 dX7_manyNow_224 (by decide) ?_
        refine x_aload_n hG (pc := 225) 2 dX7_manyNow_225 rfl rfl ?_
        refine x_iconst hG (pc := 226) 0 dX7_manyNow_226 (by decide) ?_
        refine x_ialdN hG (pc := 227) (c := 0) ((congrFun z5 q).trans (wup_f hfp hq4)) (by decide) dX7_manyNow_227 ?_
        rw [stR_n (S := S) (s := 0) (by decide)]
        show X g _ _ _ _ _ (.int (nPos S 0) :: _)
        refine x_iastN hG (pc := 228) (c := 4) y5 (by decide) dX7_manyNow_228 ?_
        refine x_gen (fun v6 e106 => ?_)
        have z6 : v6 = wup w4 p ((61, 0, 0), aI (gK g) 17 (rset (rset (rset (rset (rset (fun _ => 0) (0) (gl S 0)) (1) (nI (nM S))) (2) (nI (nE S))) (3) (nAli S)) (4) (nPos S 0))) := by rw [e106, z5, wup_w]
        have y6 := (congrFun z6 p).trans wup_s
        refine x_dup hG (pc := 229) dX7_manyNow_229 rfl ?_
        refine x_iconst hG (pc := 230) 5 dX7_manyNow_230 (by decide) ?_
        refine x_aload_n hG (pc := 231) 2 dX7_manyNow_231 rfl rfl ?_
        refine x_iconst hG (pc := 232) 1 dX7_manyNow_232 (by decide) ?_
        refine x_ialdN hG (pc := 233) (c := 1) ((congrFun z6 q).trans (wup_f hfp hq4)) (by decide) dX7_manyNow_233 ?_
        rw [stR_n (S := S) (s := 1) (by decide)]
        show X g _ _ _ _ _ (.int (nPos S 1) :: _)
        refine x_iastN hG (pc := 234) (c := 5) y6 (by decide) dX7_manyNow_234 ?_
        refine x_gen (fun v7 e107 => ?_)
        have z7 : v7 = wup w4 p ((61, 0, 0), aI (gK g) 17 (rset (rset (rset (rset (rset (rset (fun _ => 0) (0) (gl S 0)) (1) (nI (nM S))) (2) (nI (nE S))) (3) (nAli S)) (4) (nPos S 0)) (5) (nPos S 1))) := by rw [e107, z6, wup_w]
        have y7 := (congrFun z7 p).trans wup_s
        refine x_dup hG (pc := 235) dX7_manyNow_235 rfl ?_
        refine x_bipush hG (pc := 236) 6 dX7_manyNow_236 (by decide) ?_
        refine x_aload_n hG (pc := 238) 2 dX7_manyNow_238 rfl rfl ?_
        refine x_iconst hG (pc := 239) 2 dX7_manyNow_239 (by decide) ?_
        refine x_ialdN hG (pc := 240) (c := 2) ((congrFun z7 q).trans (wup_f hfp hq4)) (by decide) dX7_manyNow_240 ?_
        rw [stR_n (S := S) (s := 2) (by decide)]
        show X g _ _ _ _ _ (.int (nPos S 2) :: _)
        refine x_iastN hG (pc := 241) (c := 6) y7 (by decide) dX7_manyNow_241 ?_
        refine x_gen (fun v8 e108 => ?_)
        have z8 : v8 = wup w4 p ((61, 0, 0), aI (gK g) 17 (rset (rset (rset (rset (rset (rset (rset (fun _ => 0) (0) (gl S 0)) (1) (nI (nM S))) (2) (nI (nE S))) (3) (nAli S)) (4) (nPos S 0)) (5) (nPos S 1)) (6) (nPos S 2))) := by rw [e108, z7, wup_w]
        have y8 := (congrFun z8 p).trans wup_s
        refine x_dup hG (pc := 242) dX7_manyNow_242 rfl ?_
        refine x_bipush hG (pc := 243) 7 dX7_manyNow_243 (by decide) ?_
        refine x_aload_n hG (pc := 245) 2 dX7_manyNow_245 rfl rfl ?_
        refine x_iconst hG (pc := 246) 3 dX7_manyNow_246 (by decide) ?_
        refine x_ialdN hG (pc := 247) (c := 3) ((congrFun z8 q).trans (wup_f hfp hq4)) (by decide) dX7_manyNow_247 ?_
        rw [stR_n (S := S) (s := 3) (by decide)]
        show X g _ _ _ _ _ (.int (nPos S 3) :: _)
        refine x_iastN hG (pc := 248) (c := 7) y8 (by decide) dX7_manyNow_248 ?_
        refine x_gen (fun v9 e109 => ?_)
        have z9 : v9 = wup w4 p ((61, 0, 0), aI (gK g) 17 (rset (rset (rset (rset (rset (rset (rset (rset (fun _ => 0) (0) (gl S 0)) (1) (nI (nM S))) (2) (nI (nE S))) (3) (nAli S)) (4) (nPos S 0)) (5) (nPos S 1)) (6) (nPos S 2)) (7) (nPos S 3))) := by rw [e109, z8, wup_w]
        have y9 := (congrFun z9 p).trans wup_s
        refine x_dup hG (pc := 249) dX7_manyNow_249 rfl ?_
        refine x_bipush hG (pc := 250) 8 dX7_manyNow_250 (by decide) ?_
        refine x_aload_n hG (pc := 252) 2 dX7_manyNow_252 rfl rfl ?_
        refine x_iconst hG (pc := 253) 4 dX7_manyNow_253 (by decide) ?_
        refine x_ialdN hG (pc := 254) (c := 4) ((congrFun z9 q).trans (wup_f hfp hq4)) (by decide) dX7_manyNow_254 ?_
        rw [stR_n (S := S) (s := 4) (by decide)]
        show X g _ _ _ _ _ (.int (nPos S 4) :: _)
        refine x_iastN hG (pc := 255) (c := 8) y9 (by decide) dX7_manyNow_255 ?_
        refine x_gen (fun v10 e110 => ?_)
        have z10 : v10 = wup w4 p ((61, 0, 0), aI (gK g) 17 (rset (rset (rset (rset (rset (rset (rset (rset (rset (fun _ => 0) (0) (gl S 0)) (1) (nI (nM S))) (2) (nI (nE S))) (3) (nAli S)) (4) (nPos S 0)) (5) (nPos S 1)) (6) (nPos S 2)) (7) (nPos S 3)) (8) (nPos S 4))) := by rw [e110, z9, wup_w]
        have y10 := (congrFun z10 p).trans wup_s
        refine x_dup hG (pc := 256) dX7_manyNow_256 rfl ?_
        refine x_bipush hG (pc := 257) 9 dX7_manyNow_257 (by decide) ?_
        refine x_aload_n hG (pc := 259) 0 dX7_manyNow_259 rfl rfl ?_
        refine x_getf hG (pc := 260) fl_X7_103 ((hR4.nw hfp z10).main) rfl dX7_manyNow_260 ?_
        refine x_iastN hG (pc := 263) (c := 9) y10 (by decide) dX7_manyNow_263 ?_
        refine x_gen (fun v11 e111 => ?_)
        have z11 : v11 = wup w4 p ((61, 0, 0), aI (gK g) 17 (rset (rset (rset (rset (rset (rset (rset (rset (rset (rset (fun _ => 0) (0) (gl S 0)) (1) (nI (nM S))) (2) (nI (nE S))) (3) (nAli S)) (4) (nPos S 0)) (5) (nPos S 1)) (6) (nPos S 2)) (7) (nPos S 3)) (8) (nPos S 4)) (9) (gl S 2))) := by rw [e111, z10, wup_w]
        have y11 := (congrFun z11 p).trans wup_s
        refine x_dup hG (pc := 264) dX7_manyNow_264 rfl ?_
        refine x_bipush hG (pc := 265) 10 dX7_manyNow_265 (by decide) ?_
        refine x_aload_n hG (pc := 267) 0 dX7_manyNow_267 rfl rfl ?_
        refine x_getf hG (pc := 268) fl_X7_109 ((hR4.nw hfp z11).main) rfl dX7_manyNow_268 ?_
        refine x_iastN hG (pc := 271) (c := 10) y11 (by decide) dX7_manyNow_271 ?_
        refine x_gen (fun v12 e112 => ?_)
        have z12 : v12 = wup w4 p ((61, 0, 0), aI (gK g) 17 (rset (rset (rset (rset (rset (rset (rset (rset (rset (rset (rset (fun _ => 0) (0) (gl S 0)) (1) (nI (nM S))) (2) (nI (nE S))) (3) (nAli S)) (4) (nPos S 0)) (5) (nPos S 1)) (6) (nPos S 2)) (7) (nPos S 3)) (8) (nPos S 4)) (9) (gl S 2)) (10) (gl S 3))) := by rw [e112, z11, wup_w]
        have y12 := (congrFun z12 p).trans wup_s
        refine x_dup hG (pc := 272) dX7_manyNow_272 rfl ?_
        refine x_bipush hG (pc := 273) 11 dX7_manyNow_273 (by decide) ?_
        refine x_aload_n hG (pc := 275) 0 dX7_manyNow_275 rfl rfl ?_
        refine x_getf hG (pc := 276) fl_X7_106 ((hR4.nw hfp z12).main) rfl dX7_manyNow_276 ?_
        refine x_iastN hG (pc := 279) (c := 11) y12 (by decide) dX7_manyNow_279 ?_
        refine x_gen (fun v13 e113 => ?_)
        have z13 : v13 = wup w4 p ((61, 0, 0), aI (gK g) 17 (rset (rset (rset (rset (rset (rset (rset (rset (rset (rset (rset (rset (fun _ => 0) (0) (gl S 0)) (1) (nI (nM S))) (2) (nI (nE S))) (3) (nAli S)) (4) (nPos S 0)) (5) (nPos S 1)) (6) (nPos S 2)) (7) (nPos S 3)) (8) (nPos S 4)) (9) (gl S 2)) (10) (gl S 3)) (11) (gl S 4))) := by rw [e113, z12, wup_w]
        have y13 := (congrFun z13 p).trans wup_s
        refine x_dup hG (pc := 280) dX7_manyNow_280 rfl ?_
        refine x_bipush hG (pc := 281) 12 dX7_manyNow_281 (by decide) ?_
        refine x_aload_n hG (pc := 283) 0 dX7_manyNow_283 rfl rfl ?_
        refine x_getf hG (pc := 284) fl_X7_168 ((hR4.nw hfp z13).main) rfl dX7_manyNow_284 ?_
        refine x_iastN hG (pc := 287) (c := 12) y13 (by decide) dX7_manyNow_287 ?_
        refine x_gen (fun v14 e114 => ?_)
        have z14 : v14 = wup w4 p ((61, 0, 0), aI (gK g) 17 (rset (rset (rset (rset (rset (rset (rset (rset (rset (rset (rset (rset (rset (fun _ => 0) (0) (gl S 0)) (1) (nI (nM S))) (2) (nI (nE S))) (3) (nAli S)) (4) (nPos S 0)) (5) (nPos S 1)) (6) (nPos S 2)) (7) (nPos S 3)) (8) (nPos S 4)) (9) (gl S 2)) (10) (gl S 3)) (11) (gl S 4)) (12) (gl S 5))) := by rw [e114, z13, wup_w]
        have y14 := (congrFun z14 p).trans wup_s
        refine x_dup hG (pc := 288) dX7_manyNow_288 rfl ?_
        refine x_bipush hG (pc := 289) 13 dX7_manyNow_289 (by decide) ?_
        refine x_iload hG (pc := 291) dX7_manyNow_291 rfl ?_
        refine x_iastN hG (pc := 293) (c := 13) y14 (by decide) dX7_manyNow_293 ?_
        refine x_gen (fun v15 e115 => ?_)
        have z15 : v15 = wup w4 p ((61, 0, 0), aI (gK g) 17 (rset (rset (rset (rset (rset (rset (rset (rset (rset (rset (rset (rset (rset (rset (fun _ => 0) (0) (gl S 0)) (1) (nI (nM S))) (2) (nI (nE S))) (3) (nAli S)) (4) (nPos S 0)) (5) (nPos S 1)) (6) (nPos S 2)) (7) (nPos S 3)) (8) (nPos S 4)) (9) (gl S 2)) (10) (gl S 3)) (11) (gl S 4)) (12) (gl S 5)) (13) (cnt (fsP S) 20))) := by rw [e115, z14, wup_w]
        have y15 := (congrFun z15 p).trans wup_s
        refine x_dup hG (pc := 294) dX7_manyNow_294 rfl ?_
        refine x_bipush hG (pc := 295) 14 dX7_manyNow_295 (by decide) ?_
        refine x_iload hG (pc := 297) dX7_manyNow_297 rfl ?_
        refine x_iastN hG (pc := 299) (c := 14) y15 (by decide) dX7_manyNow_299 ?_
        refine x_gen (fun v16 e116 => ?_)
        have z16 : v16 = wup w4 p ((61, 0, 0), aI (gK g) 17 (rset (rset (rset (rset (rset (rset (rset (rset (rset (rset (rset (rset (rset (rset (rset (fun _ => 0) (0) (gl S 0)) (1) (nI (nM S))) (2) (nI (nE S))) (3) (nAli S)) (4) (nPos S 0)) (5) (nPos S 1)) (6) (nPos S 2)) (7) (nPos S 3)) (8) (nPos S 4)) (9) (gl S 2)) (10) (gl S 3)) (11) (gl S 4)) (12) (gl S 5)) (13) (cnt (fsP S) 20)) (14) (cnt (seP S) 20))) := by rw [e116, z15, wup_w]
        have y16 := (congrFun z16 p).trans wup_s
        refine x_dup hG (pc := 300) dX7_manyNow_300 rfl ?_
        refine x_bipush hG (pc := 301) 15 dX7_manyNow_301 (by decide) ?_
        refine x_aload_n hG (pc := 303) 0 dX7_manyNow_303 rfl rfl ?_
        refine x_getf hG (pc := 304) fl_X7_27 ((hR4.nw hfp z16).main) rfl dX7_manyNow_304 ?_
        refine x_iastN hG (pc := 307) (c := 15) y16 (by decide) dX7_manyNow_307 ?_
        refine x_gen (fun v17 e117 => ?_)
        have z17 : v17 = wup w4 p ((61, 0, 0), aI (gK g) 17 (rset (rset (rset (rset (rset (rset (rset (rset (rset (rset (rset (rset (rset (rset (rset (rset (fun _ => 0) (0) (gl S 0)) (1) (nI (nM S))) (2) (nI (nE S))) (3) (nAli S)) (4) (nPos S 0)) (5) (nPos S 1)) (6) (nPos S 2)) (7) (nPos S 3)) (8) (nPos S 4)) (9) (gl S 2)) (10) (gl S 3)) (11) (gl S 4)) (12) (gl S 5)) (13) (cnt (fsP S) 20)) (14) (cnt (seP S) 20)) (15) (gl S 1))) := by rw [e117, z16, wup_w]
        have y17 := (congrFun z17 p).trans wup_s
        refine x_dup hG (pc := 308) dX7_manyNow_308 rfl ?_
        refine x_bipush hG (pc := 309) 16 dX7_manyNow_309 (by decide) ?_
        refine x_iload_n hG (pc := 311) 3 dX7_manyNow_311 rfl rfl ?_
        refine x_iastN hG (pc := 312) (c := 16) y17 (by decide) dX7_manyNow_312 ?_
        refine x_gen (fun v18 e118 => ?_)
        have z18 : v18 = wup w4 p ((61, 0, 0), aI (gK g) 17 (rset (rset (rset (rset (rset (rset (rset (rset (rset (rset (rset (rset (rset (rset (rset (rset (rset (fun _ => 0) (0) (gl S 0)) (1) (nI (nM S))) (2) (nI (nE S))) (3) (nAli S)) (4) (nPos S 0)) (5) (nPos S 1)) (6) (nPos S 2)) (7) (nPos S 3)) (8) (nPos S 4)) (9) (gl S 2)) (10) (gl S 3)) (11) (gl S 4)) (12) (gl S 5)) (13) (cnt (fsP S) 20)) (14) (cnt (seP S) 20)) (15) (gl S 1)) (16) (gl S 6))) := by rw [e118, z17, wup_w]
        have y18 := (congrFun z18 p).trans wup_s
        refine x_astore hG (pc := 313) dX7_manyNow_313 (Nat.le_of_ble_eq_true rfl) rfl (by dsimp only [List.set]) ?_
        refine x_aload hG (pc := 315) dX7_manyNow_315 rfl ?_
        refine x_iload_n hG (pc := 317) 1 dX7_manyNow_317 rfl rfl ?_
        refine x_ialdN hG (pc := 318) (c := v) y18 (by omega) dX7_manyNow_318 ?_ (hv := rfl)
        refine x_ireturn hG (pc := 319) dX7_manyNow_319 rfl rfl (by rw [hG.mc]; dsimp only [rmk]; omega) (by rw [hG.ms]; dsimp only [rmk]; omega) ?_
        refine fin_i ?_ (hk _ (hR4.nw hfp z18) (hF4.nw hfp z18))
        rcases (show v = 0 ∨ v = 1 ∨ v = 2 ∨ v = 3 ∨ v = 4 ∨ v = 5 ∨ v = 6 ∨ v = 7 ∨ v = 8 ∨ v = 9 ∨ v = 10 ∨ v = 11 ∨ v = 12 ∨ v = 13 ∨ v = 14 ∨ v = 15 ∨ v = 16 by omega) with rfl | rfl | rfl | rfl | rfl | rfl | rfl | rfl | rfl | rfl | rfl | rfl | rfl | rfl | rfl | rfl | rfl <;> rfl
      · have hin : i < 20 := by
          rcases Nat.lt_or_ge i 20 with q | q
          · exact q
          · exact absurd (nI_le (a := 20) q (by omega)) h117
        refine x_iload hG (pc := 120) dX7_manyNow_120 rfl ?_
        refine x_aload_n hG (pc := 122) 0 dX7_manyNow_122 rfl rfl ?_
        refine x_getf hG (pc := 123) fl_X7_11 hR4.main rfl dX7_manyNow_123 ?_
        refine x_iload hG (pc := 126) dX7_manyNow_126 rfl ?_
        refine x_aaldI hG (pc := 128) hR4.secs (vp_in_nI hin (by decide)) dX7_manyNow_128 ?_
        rw [nI_clamp (by omega), lE_at hin]
        show X g _ _ _ _ _ (.ref (L.1 (52, i, 0)) :: _)
        refine x_bipush hG (pc := 129) 6 dX7_manyNow_129 (by decide) ?_
        refine x_ialdN hG (pc := 131) (c := 6) (hR4.sec hin) (by decide) dX7_manyNow_131 ?_
        refine x_aload_n hG (pc := 132) 0 dX7_manyNow_132 rfl rfl ?_
        refine x_iload hG (pc := 133) dX7_manyNow_133 rfl ?_
        refine x_bipush hG (pc := 135) 7 dX7_manyNow_135 (by decide) ?_
        refine x_callV hG hO (pc := 137) [_, _] c_X7_ofSectionNow lk_X7_171 hR4.main rfl rfl ⟨by decide, by decide⟩ (Nat.le_of_ble_eq_true rfl) (by rw [hG.mc]; dsimp only [rmk]; omega) (by rw [hG.ms]; dsimp only [rmk]; omega) dX7_manyNow_137 ?_
        refine ⟨L, S, i, 7, rfl, hR4, hin, by decide, ?_⟩
        rw [ofS7]
        refine x_icmp_le hG (pc := 140) 147 dX7_manyNow_140 (by decide) (fun h140 => ?_) (fun h140 => ?_)
        · refine x_iconst hG (pc := 147) 0 dX7_manyNow_147 (by decide) ?_
          refine x_iadd hG (pc := 148) dX7_manyNow_148 ?_
          rw [cnt_s (show fsP S i = 0 from if_pos h140)]
          refine x_istore hG (pc := 149) dX7_manyNow_149 (Nat.le_of_ble_eq_true rfl) rfl (by dsimp only [List.set]) ?_
          refine x_iload hG (pc := 151) dX7_manyNow_151 rfl ?_
          refine x_aload_n hG (pc := 153) 0 dX7_manyNow_153 rfl rfl ?_
          refine x_getf hG (pc := 154) fl_X7_11 hR4.main rfl dX7_manyNow_154 ?_
          refine x_iload hG (pc := 157) dX7_manyNow_157 rfl ?_
          refine x_aaldI hG (pc := 159) hR4.secs (vp_in_nI hin (by decide)) dX7_manyNow_159 ?_
          rw [nI_clamp (by omega), lE_at hin]
          show X g _ _ _ _ _ (.ref (L.1 (52, i, 0)) :: _)
          refine x_bipush hG (pc := 160) 6 dX7_manyNow_160 (by decide) ?_
          refine x_ialdN hG (pc := 162) (c := 6) (hR4.sec hin) (by decide) dX7_manyNow_162 ?_
          refine x_aload_n hG (pc := 163) 0 dX7_manyNow_163 rfl rfl ?_
          refine x_iload hG (pc := 164) dX7_manyNow_164 rfl ?_
          refine x_iconst hG (pc := 166) 3 dX7_manyNow_166 (by decide) ?_
          refine x_callV hG hO (pc := 167) [_, _] c_X7_knownNow lk_X7_178 hR4.main rfl rfl ⟨by decide, by decide⟩ (Nat.le_of_ble_eq_true rfl) (by rw [hG.mc]; dsimp only [rmk]; omega) (by rw [hG.ms]; dsimp only [rmk]; omega) dX7_manyNow_167 ?_
          refine ⟨L, S, i, 3, rfl, hR4, hin, by decide, hI, fun w5 hR5 hF5 => ?_⟩
          have hq5 := hF5 _ _ hq4 (by show ¬ (50 ≤ 80 ∧ 80 < 80); decide)
          show X g _ _ _ _ _ (.int (kSp S (nI i) (sS S i 4)) :: _)
          refine x_icmp_le hG (pc := 170) 177 dX7_manyNow_170 (by decide) (fun h170 => ?_) (fun h170 => ?_)
          · refine x_iconst hG (pc := 177) 0 dX7_manyNow_177 (by decide) ?_
            refine x_iadd hG (pc := 178) dX7_manyNow_178 ?_
            rw [cnt_s (show seP S i = 0 from if_pos h170)]
            refine x_istore hG (pc := 179) dX7_manyNow_179 (Nat.le_of_ble_eq_true rfl) rfl (by dsimp only [List.set]) ?_
            refine x_iinc hG (pc := 181) (nI (i + 1)) dX7_manyNow_181 rfl (Nat.le_of_ble_eq_true rfl) rfl (nI_1' i) (by dsimp only [List.set]) ?_
            refine x_goto hG (pc := 184) 113 dX7_manyNow_184 (by decide) ?_
            exact ih (i + 1) (by omega) (by omega) w5 hR5 (hF4.tr hF5) hq5
          · refine x_iconst hG (pc := 173) 1 dX7_manyNow_173 (by decide) ?_
            refine x_goto hG (pc := 174) 178 dX7_manyNow_174 (by decide) ?_
            refine x_iadd hG (pc := 178) dX7_manyNow_178 ?_
            rw [cnt_s (show seP S i = 1 from if_neg h170)]
            refine x_istore hG (pc := 179) dX7_manyNow_179 (Nat.le_of_ble_eq_true rfl) rfl (by dsimp only [List.set]) ?_
            refine x_iinc hG (pc := 181) (nI (i + 1)) dX7_manyNow_181 rfl (Nat.le_of_ble_eq_true rfl) rfl (nI_1' i) (by dsimp only [List.set]) ?_
            refine x_goto hG (pc := 184) 113 dX7_manyNow_184 (by decide) ?_
            exact ih (i + 1) (by omega) (by omega) w5 hR5 (hF4.tr hF5) hq5
        · refine x_iconst hG (pc := 143) 1 dX7_manyNow_143 (by decide) ?_
          refine x_goto hG (pc := 144) 148 dX7_manyNow_144 (by decide) ?_
          refine x_iadd hG (pc := 148) dX7_manyNow_148 ?_
          rw [cnt_s (show fsP S i = 1 from if_neg h140)]
          refine x_istore hG (pc := 149) dX7_manyNow_149 (Nat.le_of_ble_eq_true rfl) rfl (by dsimp only [List.set]) ?_
          refine x_iload hG (pc := 151) dX7_manyNow_151 rfl ?_
          refine x_aload_n hG (pc := 153) 0 dX7_manyNow_153 rfl rfl ?_
          refine x_getf hG (pc := 154) fl_X7_11 hR4.main rfl dX7_manyNow_154 ?_
          refine x_iload hG (pc := 157) dX7_manyNow_157 rfl ?_
          refine x_aaldI hG (pc := 159) hR4.secs (vp_in_nI hin (by decide)) dX7_manyNow_159 ?_
          rw [nI_clamp (by omega), lE_at hin]
          show X g _ _ _ _ _ (.ref (L.1 (52, i, 0)) :: _)
          refine x_bipush hG (pc := 160) 6 dX7_manyNow_160 (by decide) ?_
          refine x_ialdN hG (pc := 162) (c := 6) (hR4.sec hin) (by decide) dX7_manyNow_162 ?_
          refine x_aload_n hG (pc := 163) 0 dX7_manyNow_163 rfl rfl ?_
          refine x_iload hG (pc := 164) dX7_manyNow_164 rfl ?_
          refine x_iconst hG (pc := 166) 3 dX7_manyNow_166 (by decide) ?_
          refine x_callV hG hO (pc := 167) [_, _] c_X7_knownNow lk_X7_178 hR4.main rfl rfl ⟨by decide, by decide⟩ (Nat.le_of_ble_eq_true rfl) (by rw [hG.mc]; dsimp only [rmk]; omega) (by rw [hG.ms]; dsimp only [rmk]; omega) dX7_manyNow_167 ?_
          refine ⟨L, S, i, 3, rfl, hR4, hin, by decide, hI, fun w5 hR5 hF5 => ?_⟩
          have hq5 := hF5 _ _ hq4 (by show ¬ (50 ≤ 80 ∧ 80 < 80); decide)
          show X g _ _ _ _ _ (.int (kSp S (nI i) (sS S i 4)) :: _)
          refine x_icmp_le hG (pc := 170) 177 dX7_manyNow_170 (by decide) (fun h170 => ?_) (fun h170 => ?_)
          · refine x_iconst hG (pc := 177) 0 dX7_manyNow_177 (by decide) ?_
            refine x_iadd hG (pc := 178) dX7_manyNow_178 ?_
            rw [cnt_s (show seP S i = 0 from if_pos h170)]
            refine x_istore hG (pc := 179) dX7_manyNow_179 (Nat.le_of_ble_eq_true rfl) rfl (by dsimp only [List.set]) ?_
            refine x_iinc hG (pc := 181) (nI (i + 1)) dX7_manyNow_181 rfl (Nat.le_of_ble_eq_true rfl) rfl (nI_1' i) (by dsimp only [List.set]) ?_
            refine x_goto hG (pc := 184) 113 dX7_manyNow_184 (by decide) ?_
            exact ih (i + 1) (by omega) (by omega) w5 hR5 (hF4.tr hF5) hq5
          · refine x_iconst hG (pc := 173) 1 dX7_manyNow_173 (by decide) ?_
            refine x_goto hG (pc := 174) 178 dX7_manyNow_174 (by decide) ?_
            refine x_iadd hG (pc := 178) dX7_manyNow_178 ?_
            rw [cnt_s (show seP S i = 1 from if_neg h170)]
            refine x_istore hG (pc := 179) dX7_manyNow_179 (Nat.le_of_ble_eq_true rfl) rfl (by dsimp only [List.set]) ?_
            refine x_iinc hG (pc := 181) (nI (i + 1)) dX7_manyNow_181 rfl (Nat.le_of_ble_eq_true rfl) rfl (nI_1' i) (by dsimp only [List.set]) ?_
            refine x_goto hG (pc := 184) 113 dX7_manyNow_184 (by decide) ?_
            exact ih (i + 1) (by omega) (by omega) w5 hR5 (hF4.tr hF5) hq5
    · have hmn : m < nE S := it_n hib h77
      refine x_aload hG (pc := 80) dX7_manyNow_80 rfl ?_
      refine x_callF hG hO (pc := 82) c_Jx35411_next_0502b lk_X7_89 hjt ⟨by decide, by decide⟩ (Nat.le_of_ble_eq_true rfl) (by rw [hG.mc]; dsimp only [rmk]; omega) (by rw [hG.ms]; dsimp only [rmk]; omega) dX7_manyNow_82 ?_
      refine ⟨_, _, m, _, _, _, _, _, _, _, _, _, rfl, hjt, hR1b.lst (id := 0) (by decide), hmn, (by intro z; cases z), ?_⟩
      refine x_gen (fun w2b e2b => ?_)
      have hjt2 := (congrFun e2b jt).trans wup_s
      have hR2b := hR1b.tmp hjt (by show 60 ≤ 60; decide) e2b
      have hF2b := hF1b.up hjt (by show 50 ≤ 60 ∧ 60 < 80; decide) e2b
      show X g _ _ _ _ _ (.ref (L.1 (55, m, 0)) :: _)
      have hq2b := (congrFun e2b q).trans (wup_t hjt hqqb (by intro z; cases z))
      refine x_castI hG (pc := 87) ckl_X7_56 (hR2b.mea hmn) dX7_manyNow_87 ?_
      refine x_astore hG (pc := 90) dX7_manyNow_90 (Nat.le_of_ble_eq_true rfl) rfl (by dsimp only [List.set]) ?_
      refine x_iload hG (pc := 92) dX7_manyNow_92 rfl ?_
      refine x_aload hG (pc := 94) dX7_manyNow_94 rfl ?_
      refine x_iconst hG (pc := 96) 4 dX7_manyNow_96 (by decide) ?_
      refine x_ialdN hG (pc := 97) (c := 4) (hR2b.mea hmn) (by decide) dX7_manyNow_97 ?_
      refine x_iadd hG (pc := 98) dX7_manyNow_98 ?_
      refine x_istore hG (pc := 99) dX7_manyNow_99 (Nat.le_of_ble_eq_true rfl) rfl (by dsimp only [List.set]) ?_
      refine x_goto hG (pc := 101) 70 dX7_manyNow_101 (by decide) ?_
      exact ih (m + 1) (by omega) (by omega) w2b _ hR2b hjt2 hF2b hq2b _
  · have hkn : k < nN S := it_n hi h22
    refine x_aload hG (pc := 25) dX7_manyNow_25 rfl ?_
    refine x_callF hG hO (pc := 27) c_Jx35411_next_0502b lk_X7_89 hit ⟨by decide, by decide⟩ (Nat.le_of_ble_eq_true rfl) (by rw [hG.mc]; dsimp only [rmk]; omega) (by rw [hG.ms]; dsimp only [rmk]; omega) dX7_manyNow_27 ?_
    refine ⟨_, _, k, _, _, _, _, _, _, _, _, _, rfl, hit, hR1.lst (id := 2) (by decide), hkn, (by intro z; cases z), ?_⟩
    refine x_gen (fun w2 e2 => ?_)
    have hit2 := (congrFun e2 it).trans wup_s
    have hR2 := hR1.tmp hit (by show 60 ≤ 60; decide) e2
    have hF2 := hF1.up hit (by show 50 ≤ 60 ∧ 60 < 80; decide) e2
    show X g _ _ _ _ _ (.ref (L.1 (57, k, 0)) :: _)
    have hq2 := (congrFun e2 q).trans (wup_t hit hqq (by intro z; cases z))
    refine x_castI hG (pc := 32) ckl_X7_56 (hR2.ngt hkn) dX7_manyNow_32 ?_
    refine x_astore hG (pc := 35) dX7_manyNow_35 (Nat.le_of_ble_eq_true rfl) rfl (by dsimp only [List.set]) ?_
    refine x_aload_n hG (pc := 37) 2 dX7_manyNow_37 rfl rfl ?_
    refine x_aload hG (pc := 38) dX7_manyNow_38 rfl ?_
    refine x_iconst hG (pc := 40) 0 dX7_manyNow_40 (by decide) ?_
    refine x_ialdN hG (pc := 41) (c := 0) (hR2.ngt hkn) (by decide) dX7_manyNow_41 ?_
    obtain ⟨st, hst, hse⟩ := st5 (hI.2.2.2.1 k hkn).2.1
    rw [hse]
    refine x_dup2 hG (pc := 42) dX7_manyNow_42 rfl rfl ?_
    refine x_ialdN hG (pc := 43) (c := st) hq2 (by omega) dX7_manyNow_43 ?_ (hv := rfl)
    refine x_iconst hG (pc := 44) 1 dX7_manyNow_44 (by decide) ?_
    refine x_iadd hG (pc := 45) dX7_manyNow_45 ?_
    refine x_iastN hG (pc := 46) (c := st) hq2 (by omega) dX7_manyNow_46 ?_ (hv := rfl)
    rw [stR_s hst hse]
    refine x_gen (fun w3 e3 => ?_)
    have hq3 := (congrFun e3 q).trans wup_s
    have hit3 := (congrFun e3 it).trans (wup_t hq2 hit2 (by intro z; cases z))
    have hR3 := hR2.tmp hq2 (by show 60 ≤ 80; decide) e3
    have hF3 := hF2.own hfq e3
    refine x_iload_n hG (pc := 47) 3 dX7_manyNow_47 rfl rfl ?_
    refine x_aload hG (pc := 48) dX7_manyNow_48 rfl ?_
    refine x_bipush hG (pc := 50) 9 dX7_manyNow_50 (by decide) ?_
    refine x_ialdN hG (pc := 52) (c := 9) (hR3.ngt hkn) (by decide) dX7_manyNow_52 ?_
    refine x_iadd hG (pc := 53) dX7_manyNow_53 ?_
    refine x_istore_n hG (pc := 54) 3 dX7_manyNow_54 rfl (Nat.le_of_ble_eq_true rfl) rfl (by dsimp only [List.set]) ?_
    refine x_goto hG (pc := 55) 15 dX7_manyNow_55 (by decide) ?_
    have hh := ih (k + 1) (by omega) (by omega) w3 _ hR3 hit3 hF3 hq3 (some (.ref (L.1 (57, k, 0))))
    exact hh
set_option maxHeartbeats 400000 in
set_option maxRecDepth 100000 in
theorem c_X7_many : CtrA yX7_many cX7_many 2 (some .int) (rmk 7 24 170 165) (fun Γ av w post xpost => ∃ (L : LayM) (S : St), ∃ u, av = [.ref (thM L), .int u] ∧ RepM Γ L S w ∧ Inv2 S ∧ MOut Γ L w post (oMan S u)) := by
  refine ctr_of (by decide) ?_
  rintro g av w hG hO ⟨L, S, u, rfl, hR, hI2, hk⟩
  refine ⟨Nat.le_of_ble_eq_true rfl, ?_⟩
  show X g w 0 0 0 [some (.ref (thM L)), some (.int u)] []
  have hI := hI2.1
  have hnM := hI.2.1.1
  have hnN := hI.2.1.2.1
  have hnE := hI.2.1.2.2
  refine x_aload_n hG (pc := 0) 0 dX7_many_0 rfl rfl ?_
  refine x_iconst hG (pc := 1) 0 dX7_many_1 (by decide) ?_
  refine x_putf hG (pc := 2) fl_X7_31 fw_9 ft_9_0 hR.main (Nat.le_of_ble_eq_true rfl) rfl rfl (by dsimp only [List.set]) dX7_many_2 ?_
  refine x_gen (fun w0 e0 => ?_)
  obtain ⟨hR0, hF0⟩ := hR.uT e0
  refine x_iload_n hG (pc := 5) 1 dX7_many_5 rfl rfl ?_
  refine x_iconst hG (pc := 6) 0 dX7_many_6 (by decide) ?_
  refine x_bipush hG (pc := 7) 16 dX7_many_7 (by decide) ?_
  refine x_callS hG hO (pc := 9) [_, _, _] c_X7_is lk_X7_68 rfl rfl ⟨by decide, by decide⟩ (Nat.le_of_ble_eq_true rfl) (by rw [hG.mc]; exact Nat.le_of_ble_eq_true rfl) (by rw [hG.ms]; exact Nat.le_of_ble_eq_true rfl) dX7_many_9 ?_
  refine ⟨_, _, _, rfl, ?_⟩
  rw [show s_is u 0 16 = sIx (ixO u 17) from s_is_ix (n := 17) (by decide)]
  refine x_if_eq hG (pc := 12) 23 dX7_many_12 (by decide) (fun h12 => ?_) (fun h12 => ?_)
  · have hxv := sIx_0 h12
    refine x_aload_n hG (pc := 23) 0 dX7_many_23 rfl rfl ?_
    refine x_iconst hG (pc := 24) 1 dX7_many_24 (by decide) ?_
    refine x_callV hG hO (pc := 25) [_] c_X7_refuse lk_X7_76 hR0.main rfl rfl ⟨by decide, by decide⟩ (Nat.le_of_ble_eq_true rfl) (by rw [hG.mc]; exact Nat.le_of_ble_eq_true rfl) (by rw [hG.ms]; exact Nat.le_of_ble_eq_true rfl) dX7_many_25 ?_
    refine ⟨_, _, 1, rfl, hR0, fun wr hRr hFr => ?_⟩
    refine x_ireturn hG (pc := 28) dX7_many_28 rfl rfl (by rw [hG.mc]; exact Nat.le_of_ble_eq_true rfl) (by rw [hG.ms]; exact Nat.le_of_ble_eq_true rfl) ?_
    exact hk.ok (k := 1) (v := 0) (S1 := S) (by simp only [oMan, hxv, ↓reduceIte]) hRr (hF0.tr hFr)
  · obtain ⟨v, hxv⟩ := sIx_1 h12
    obtain ⟨hvn, rfl⟩ := ixO_some hxv (by omega)
    refine x_aload_n hG (pc := 15) 0 dX7_many_15 rfl rfl ?_
    refine x_iload_n hG (pc := 16) 1 dX7_many_16 rfl rfl ?_
    refine x_callV hG hO (pc := 17) [_] c_X7_manyNow lk_X7_191 hR0.main rfl rfl ⟨by decide, by decide⟩ (Nat.le_of_ble_eq_true rfl) (by rw [hG.mc]; exact Nat.le_of_ble_eq_true rfl) (by rw [hG.ms]; exact Nat.le_of_ble_eq_true rfl) dX7_many_17 ?_
    refine ⟨lthr L 0, S, v, rfl, hR0, hvn, hI2, fun w1 hR1 hF1 => ?_⟩
    refine x_goto hG (pc := 20) 28 dX7_many_20 (by decide) ?_
    refine x_ireturn hG (pc := 28) dX7_many_28 rfl rfl (by rw [hG.mc]; exact Nat.le_of_ble_eq_true rfl) (by rw [hG.ms]; exact Nat.le_of_ble_eq_true rfl) ?_
    exact hk.ok (k := 0) (by simp only [oMan, hxv, ↓reduceIte]) hR1 (hF0.tr hF1)
set_option maxHeartbeats 400000 in
set_option maxRecDepth 100000 in
theorem c_X7_add : CtrA yX7_add cX7_add 2 none (rmk 0 0 0 0) (fun Γ av w post xpost => ∃ (L : LayM) (S : St), ∃ v, av = [.ref (thM L), .int v] ∧ RepM Γ L S w ∧ ∀ w1, RepM Γ (lsum L (dg (sumM L) v)) S w1 → FrC w w1 → Fr60 w w1 → post none w1) := by
  refine ctr_of (by decide) ?_
  rintro g av w hG hO ⟨L, S, v, rfl, hR, hk⟩
  refine ⟨Nat.le_of_ble_eq_true rfl, ?_⟩
  show X g w 0 0 0 [some (.ref (thM L)), some (.int v)] []
  refine x_aload_n hG (pc := 0) 0 dX7_add_0 rfl rfl ?_
  refine x_aload_n hG (pc := 1) 0 dX7_add_1 rfl rfl ?_
  refine x_getf hG (pc := 2) fl_X7_216 hR.main rfl dX7_add_2 ?_
  refine x_ldc2 hG (pc := 5) _ dX7_add_5 kc_X7_220 ?_
  refine x_lmul hG (pc := 8) dX7_add_8 ?_
  refine x_iload_n hG (pc := 9) 1 dX7_add_9 rfl rfl ?_
  refine x_i2l hG (pc := 10) dX7_add_10 ?_
  refine x_ladd hG (pc := 11) dX7_add_11 ?_
  refine x_putf hG (pc := 12) fl_X7_216 fw_9 ft_9_11 hR.main (Nat.le_of_ble_eq_true rfl) rfl rfl (by dsimp only [List.set]) dX7_add_12 ?_
  refine x_gen (fun w1 e1 => ?_)
  obtain ⟨hR1, hF1⟩ := hR.uD (d := dg (sumM L) v) e1
  have hS1 := Fr60.rf.up hR.main (by show 50 ≠ 60; decide) e1
  refine x_return hG (pc := 15) dX7_add_15 rfl (by rw [hG.mc]; exact Nat.le_of_ble_eq_true rfl) (by rw [hG.ms]; exact Nat.le_of_ble_eq_true rfl) ?_
  exact hk w1 hR1 hF1 hS1
