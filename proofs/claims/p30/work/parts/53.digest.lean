/-! TrackNights: digest -/
def dg (d : Int64) (v : Int32) : Int64 := d * 31 + v.toInt64
def dgl (d : Int64) (f : Nat → Int32) : Nat → Int64
  | 0 => d
  | n + 1 => dg (dgl d f n) (f n)
noncomputable def seV (S : St) (k : Nat) : Int32 := oF (fo (pSee S (nI k)) (nE S))
noncomputable def riV (S : St) (k : Nat) (t : Int32) : Int32 := oF (fo (pRis (sS S k) t (gl S 1)) 201)
noncomputable def dgS (S : St) (d : Int64) (k : Nat) : Int64 := dg (dg (dg (dg (dg (dgl (dgl d (ofS S k) 8) (knS S k) 5) (wyV S k 0)) (wyV S k 1)) (seV S k)) (riV S k 20)) (bst S k 20 30 3).1
noncomputable def dgT (S : St) (d : Int64) : Nat → Int64
  | 0 => d
  | n + 1 => dgS S (dgT S d n) n
def dgM (S : St) (d : Int64) : Nat → Int64
  | 0 => d
  | n + 1 => dgl (dgM S d n) (mS S n) 4
def dgN (S : St) (d : Int64) : Nat → Int64
  | 0 => d
  | n + 1 => dgl (dgN S d n) (ofN S n) 10
noncomputable def dgA (S : St) : Int64 := dg (dg (dgN S (dgM S (dgT S (dgl 4809 (manV S) 17) 20) (nM S)) (nN S)) (fre S 0 0 9)) (fre S 1 3 5)
set_option maxHeartbeats 400000 in
set_option maxRecDepth 100000 in
theorem c_X6_digestSection : CtrA yX6_digestSection cX6_digestSection 7 (some .long) (rmk 6 0 0 134) (fun Γ av w post xpost => ∃ (L : LayC) (S : St), ∃ k d, av = [.ref (thC L), .long d, .int (nI k)] ∧ RepC Γ L S w ∧ Inv S ∧ k < 20 ∧ (∀ f w1, RepC Γ (L.1, L.2.1, L.2.2.1, f) S w1 → FrM w w1 → post (some (.long (dgS S d k))) w1)) := by
  refine ctr_of (by decide) ?_
  rintro g av w hG hO ⟨L, S, k, d, rfl, hR, hI, hkn, hk⟩
  refine ⟨Nat.le_of_ble_eq_true rfl, ?_⟩
  show X g w 0 0 0 [some (.ref (thC L)), some (.long d), none, some (.int (nI k)), none, none, none] []
  have hnM := hI.2.1.1
  have hnN := hI.2.1.2.1
  have hnE := hI.2.1.2.2
  refine x_lload_n hG (pc := 0) 1 dX6_digestSection_0 rfl rfl ?_
  refine x_lstore hG (pc := 1) dX6_digestSection_1 (Nat.le_of_ble_eq_true rfl) rfl (by dsimp only [List.set]) ?_
  refine x_iconst hG (pc := 3) 0 dX6_digestSection_3 (by decide) ?_
  refine x_istore hG (pc := 4) dX6_digestSection_4 (Nat.le_of_ble_eq_true rfl) rfl (by dsimp only [List.set]) ?_
  refine nat_down (P := fun v => X g w 0 0 6 [some (.ref (thC L)), some (.long d), none, some (.int (nI k)), some (.long (dgl d (ofS S k) v)), none, some (.int (nI v))] []) 8 (fun v hv0 ih => ?_) 0 (Nat.zero_le _)
  refine x_iload hG (pc := 6) dX6_digestSection_6 rfl ?_
  refine x_bipush hG (pc := 8) 7 dX6_digestSection_8 (by decide) ?_
  refine x_icmp_gt hG (pc := 10) 36 dX6_digestSection_10 (by decide) (fun h10 => ?_) (fun h10 => ?_)
  · have hve : v = 8 := by
      rcases Nat.lt_or_ge v 8 with q | q
      · exact absurd h10 (Int32.not_lt.mpr (nI_le (b := 7) (by omega) (by decide)))
      · omega
    subst hve
    clear ih
    refine x_iconst hG (pc := 36) 0 dX6_digestSection_36 (by decide) ?_
    refine x_istore hG (pc := 37) dX6_digestSection_37 (Nat.le_of_ble_eq_true rfl) rfl (by dsimp only [List.set]) ?_
    refine nat_down (P := fun v => X g w 0 0 39 [some (.ref (thC L)), some (.long d), none, some (.int (nI k)), some (.long (dgl (dgl d (ofS S k) 8) (knS S k) v)), none, some (.int (nI v))] []) 5 (fun v hv0 ih => ?_) 0 (Nat.zero_le _)
    refine x_iload hG (pc := 39) dX6_digestSection_39 rfl ?_
    refine x_iconst hG (pc := 41) 4 dX6_digestSection_41 (by decide) ?_
    refine x_icmp_gt hG (pc := 42) 68 dX6_digestSection_42 (by decide) (fun h42 => ?_) (fun h42 => ?_)
    · have hve : v = 5 := by
        rcases Nat.lt_or_ge v 5 with q | q
        · exact absurd h42 (Int32.not_lt.mpr (nI_le (b := 4) (by omega) (by decide)))
        · omega
      subst hve
      refine x_lload hG (pc := 68) dX6_digestSection_68 rfl ?_
      refine x_ldc2 hG (pc := 70) _ dX6_digestSection_70 kc_X6_380 ?_
      refine x_lmul hG (pc := 73) dX6_digestSection_73 ?_
      refine x_aload_n hG (pc := 74) 0 dX6_digestSection_74 rfl rfl ?_
      refine x_iload_n hG (pc := 75) 3 dX6_digestSection_75 rfl rfl ?_
      refine x_iconst hG (pc := 76) 0 dX6_digestSection_76 (by decide) ?_
      refine x_callV hG hO (pc := 77) [_, _] v_X6_why lk_X6_405 (by first | assumption | exact hR.main) rfl rfl ⟨by decide, by decide⟩ (Nat.le_of_ble_eq_true rfl) (by rw [hG.mc]; exact Nat.le_of_ble_eq_true rfl) (by rw [hG.ms]; exact Nat.le_of_ble_eq_true rfl) dX6_digestSection_77 ?_
      refine ⟨L, S, k, 0, rfl, hR, hI, hkn, ?_⟩
      refine x_i2l hG (pc := 80) dX6_digestSection_80 ?_
      refine x_ladd hG (pc := 81) dX6_digestSection_81 ?_
      refine x_lstore hG (pc := 82) dX6_digestSection_82 (Nat.le_of_ble_eq_true rfl) rfl (by dsimp only [List.set]) ?_
      refine x_lload hG (pc := 84) dX6_digestSection_84 rfl ?_
      refine x_ldc2 hG (pc := 86) _ dX6_digestSection_86 kc_X6_380 ?_
      refine x_lmul hG (pc := 89) dX6_digestSection_89 ?_
      refine x_aload_n hG (pc := 90) 0 dX6_digestSection_90 rfl rfl ?_
      refine x_iload_n hG (pc := 91) 3 dX6_digestSection_91 rfl rfl ?_
      refine x_iconst hG (pc := 92) 1 dX6_digestSection_92 (by decide) ?_
      refine x_callV hG hO (pc := 93) [_, _] v_X6_why lk_X6_405 (by first | assumption | exact hR.main) rfl rfl ⟨by decide, by decide⟩ (Nat.le_of_ble_eq_true rfl) (by rw [hG.mc]; exact Nat.le_of_ble_eq_true rfl) (by rw [hG.ms]; exact Nat.le_of_ble_eq_true rfl) dX6_digestSection_93 ?_
      refine ⟨L, S, k, 1, rfl, hR, hI, hkn, ?_⟩
      refine x_i2l hG (pc := 96) dX6_digestSection_96 ?_
      refine x_ladd hG (pc := 97) dX6_digestSection_97 ?_
      refine x_lstore hG (pc := 98) dX6_digestSection_98 (Nat.le_of_ble_eq_true rfl) rfl (by dsimp only [List.set]) ?_
      refine x_lload hG (pc := 100) dX6_digestSection_100 rfl ?_
      refine x_ldc2 hG (pc := 102) _ dX6_digestSection_102 kc_X6_380 ?_
      refine x_lmul hG (pc := 105) dX6_digestSection_105 ?_
      refine x_aload_n hG (pc := 106) 0 dX6_digestSection_106 rfl rfl ?_
      refine x_iload_n hG (pc := 107) 3 dX6_digestSection_107 rfl rfl ?_
      refine x_callV hG hO (pc := 108) [_] v_X6_couldSee lk_X6_409 (by first | assumption | exact hR.main) rfl rfl ⟨by decide, by decide⟩ (Nat.le_of_ble_eq_true rfl) (by rw [hG.mc]; exact Nat.le_of_ble_eq_true rfl) (by rw [hG.ms]; exact Nat.le_of_ble_eq_true rfl) dX6_digestSection_108 ?_
      refine ⟨L, S, k, rfl, hR, hI, hkn, ?_⟩
      refine x_i2l hG (pc := 111) dX6_digestSection_111 ?_
      refine x_ladd hG (pc := 112) dX6_digestSection_112 ?_
      refine x_lstore hG (pc := 113) dX6_digestSection_113 (Nat.le_of_ble_eq_true rfl) rfl (by dsimp only [List.set]) ?_
      refine x_lload hG (pc := 115) dX6_digestSection_115 rfl ?_
      refine x_ldc2 hG (pc := 117) _ dX6_digestSection_117 kc_X6_380 ?_
      refine x_lmul hG (pc := 120) dX6_digestSection_120 ?_
      refine x_aload_n hG (pc := 121) 0 dX6_digestSection_121 rfl rfl ?_
      refine x_iload_n hG (pc := 122) 3 dX6_digestSection_122 rfl rfl ?_
      refine x_bipush hG (pc := 123) 20 dX6_digestSection_123 (by decide) ?_
      refine x_callV hG hO (pc := 125) [_, _] v_X6_firstRisk lk_X6_412 (by first | assumption | exact hR.main) rfl rfl ⟨by decide, by decide⟩ (Nat.le_of_ble_eq_true rfl) (by rw [hG.mc]; exact Nat.le_of_ble_eq_true rfl) (by rw [hG.ms]; exact Nat.le_of_ble_eq_true rfl) dX6_digestSection_125 ?_
      refine ⟨L, S, k, 20, rfl, hR, hI, hkn, by decide, by decide, fun f1 w1 hR1 hF1 => ?_⟩
      refine x_i2l hG (pc := 128) dX6_digestSection_128 ?_
      refine x_ladd hG (pc := 129) dX6_digestSection_129 ?_
      refine x_lstore hG (pc := 130) dX6_digestSection_130 (Nat.le_of_ble_eq_true rfl) rfl (by dsimp only [List.set]) ?_
      refine x_lload hG (pc := 132) dX6_digestSection_132 rfl ?_
      refine x_ldc2 hG (pc := 134) _ dX6_digestSection_134 kc_X6_380 ?_
      refine x_lmul hG (pc := 137) dX6_digestSection_137 ?_
      refine x_aload_n hG (pc := 138) 0 dX6_digestSection_138 rfl rfl ?_
      refine x_iload_n hG (pc := 139) 3 dX6_digestSection_139 rfl rfl ?_
      refine x_bipush hG (pc := 140) 20 dX6_digestSection_140 (by decide) ?_
      refine x_bipush hG (pc := 142) 30 dX6_digestSection_142 (by decide) ?_
      refine x_callV hG hO (pc := 144) [_, _, _] v_X6_bestWork lk_X6_415 hR1.main rfl rfl ⟨by decide, by decide⟩ (Nat.le_of_ble_eq_true rfl) (by rw [hG.mc]; exact Nat.le_of_ble_eq_true rfl) (by rw [hG.ms]; exact Nat.le_of_ble_eq_true rfl) dX6_digestSection_144 ?_
      refine ⟨(L.1, L.2.1, L.2.2.1, f1), S, k, 20, 30, rfl, hR1, hI, hkn, by decide, by decide, by decide, by decide, fun f2 w2 hR2 hF2 => ?_⟩
      refine x_i2l hG (pc := 147) dX6_digestSection_147 ?_
      refine x_ladd hG (pc := 148) dX6_digestSection_148 ?_
      refine x_lreturn hG (pc := 149) dX6_digestSection_149 rfl (by rw [hG.mc]; exact Nat.le_of_ble_eq_true rfl) (by rw [hG.ms]; exact Nat.le_of_ble_eq_true rfl) ?_
      exact hk f2 w2 hR2 (hF1.tr hF2)
    · have hvn : v < 5 := by
        rcases Nat.lt_or_ge v 5 with q | q
        · exact q
        · exact absurd (nI_lt2 (i := 4) (k := v) (by omega) (by omega)) h42
      refine x_lload hG (pc := 45) dX6_digestSection_45 rfl ?_
      refine x_ldc2 hG (pc := 47) _ dX6_digestSection_47 kc_X6_380 ?_
      refine x_lmul hG (pc := 50) dX6_digestSection_50 ?_
      refine x_aload_n hG (pc := 51) 0 dX6_digestSection_51 rfl rfl ?_
      refine x_iload_n hG (pc := 52) 3 dX6_digestSection_52 rfl rfl ?_
      refine x_iload hG (pc := 53) dX6_digestSection_53 rfl ?_
      refine x_callV hG hO (pc := 55) [_, _] v_X6_known lk_X6_402 (by first | assumption | exact hR.main) rfl rfl ⟨by decide, by decide⟩ (Nat.le_of_ble_eq_true rfl) (by rw [hG.mc]; exact Nat.le_of_ble_eq_true rfl) (by rw [hG.ms]; exact Nat.le_of_ble_eq_true rfl) dX6_digestSection_55 ?_
      refine ⟨L, S, k, v, rfl, hR, hI, hkn, hvn, ?_⟩
      refine x_i2l hG (pc := 58) dX6_digestSection_58 ?_
      refine x_ladd hG (pc := 59) dX6_digestSection_59 ?_
      refine x_lstore hG (pc := 60) dX6_digestSection_60 (Nat.le_of_ble_eq_true rfl) rfl (by dsimp only [List.set]) ?_
      refine x_iinc hG (pc := 62) (nI (v + 1)) dX6_digestSection_62 rfl (Nat.le_of_ble_eq_true rfl) rfl (nI_1' v) (by dsimp only [List.set]) ?_
      refine x_goto hG (pc := 65) 39 dX6_digestSection_65 (by decide) ?_
      exact ih (v + 1) (by omega) (by omega)
  · have hvn : v < 8 := by
      rcases Nat.lt_or_ge v 8 with q | q
      · exact q
      · exact absurd (nI_lt2 (i := 7) (k := v) (by omega) (by omega)) h10
    refine x_lload hG (pc := 13) dX6_digestSection_13 rfl ?_
    refine x_ldc2 hG (pc := 15) _ dX6_digestSection_15 kc_X6_380 ?_
    refine x_lmul hG (pc := 18) dX6_digestSection_18 ?_
    refine x_aload_n hG (pc := 19) 0 dX6_digestSection_19 rfl rfl ?_
    refine x_iload_n hG (pc := 20) 3 dX6_digestSection_20 rfl rfl ?_
    refine x_iload hG (pc := 21) dX6_digestSection_21 rfl ?_
    refine x_callV hG hO (pc := 23) [_, _] v_X6_ofSection lk_X6_399 (by first | assumption | exact hR.main) rfl rfl ⟨by decide, by decide⟩ (Nat.le_of_ble_eq_true rfl) (by rw [hG.mc]; exact Nat.le_of_ble_eq_true rfl) (by rw [hG.ms]; exact Nat.le_of_ble_eq_true rfl) dX6_digestSection_23 ?_
    refine ⟨L, S, k, v, rfl, hR, hI, hkn, hvn, ?_⟩
    refine x_i2l hG (pc := 26) dX6_digestSection_26 ?_
    refine x_ladd hG (pc := 27) dX6_digestSection_27 ?_
    refine x_lstore hG (pc := 28) dX6_digestSection_28 (Nat.le_of_ble_eq_true rfl) rfl (by dsimp only [List.set]) ?_
    refine x_iinc hG (pc := 30) (nI (v + 1)) dX6_digestSection_30 rfl (Nat.le_of_ble_eq_true rfl) rfl (nI_1' v) (by dsimp only [List.set]) ?_
    refine x_goto hG (pc := 33) 6 dX6_digestSection_33 (by decide) ?_
    exact ih (v + 1) (by omega) (by omega)
set_option maxHeartbeats 400000 in
set_option maxRecDepth 100000 in
theorem c_X6_digest : CtrA yX6_digest cX6_digest 5 (some .long) (rmk 7 0 0 160) (fun Γ av w post xpost => ∃ (L : LayC) (S : St), av = [.ref (thC L)] ∧ RepC Γ L S w ∧ Inv S ∧ (∀ f w1, RepC Γ (L.1, L.2.1, L.2.2.1, f) S w1 → FrM w w1 → post (some (.long (dgA S))) w1)) := by
  refine ctr_of (by decide) ?_
  rintro g av w hG hO ⟨L, S, rfl, hR, hI, hk⟩
  refine ⟨Nat.le_of_ble_eq_true rfl, ?_⟩
  show X g w 0 0 0 [some (.ref (thC L)), none, none, none, none] []
  have hnM := hI.2.1.1
  have hnN := hI.2.1.2.1
  have hnE := hI.2.1.2.2
  refine x_ldc2 hG (pc := 0) _ dX6_digest_0 kc_X6_378 ?_
  refine x_lstore_n hG (pc := 3) 1 dX6_digest_3 rfl (Nat.le_of_ble_eq_true rfl) rfl (by dsimp only [List.set]) ?_
  refine x_iconst hG (pc := 4) 0 dX6_digest_4 (by decide) ?_
  refine x_istore_n hG (pc := 5) 3 dX6_digest_5 rfl (Nat.le_of_ble_eq_true rfl) rfl (by dsimp only [List.set]) ?_
  refine nat_down (P := fun v => X g w 0 0 6 [some (.ref (thC L)), some (.long (dgl 4809 (manV S) v)), none, some (.int (nI v)), none] []) 17 (fun v hv0 ih => ?_) 0 (Nat.zero_le _)
  refine x_iload_n hG (pc := 6) 3 dX6_digest_6 rfl rfl ?_
  refine x_bipush hG (pc := 7) 16 dX6_digest_7 (by decide) ?_
  refine x_icmp_gt hG (pc := 9) 31 dX6_digest_9 (by decide) (fun h9 => ?_) (fun h9 => ?_)
  · have hve : v = 17 := by
      rcases Nat.lt_or_ge v 17 with q | q
      · exact absurd h9 (Int32.not_lt.mpr (nI_le (b := 16) (by omega) (by decide)))
      · omega
    subst hve
    clear ih
    refine x_iconst hG (pc := 31) 0 dX6_digest_31 (by decide) ?_
    refine x_istore_n hG (pc := 32) 3 dX6_digest_32 rfl (Nat.le_of_ble_eq_true rfl) rfl (by dsimp only [List.set]) ?_
    refine nat_down (P := fun v => ∀ f w1, RepC (gΓ g) (L.1, L.2.1, L.2.2.1, f) S w1 → FrM w w1 → X g w1 0 0 33 [some (.ref (thC L)), some (.long (dgT S (dgl 4809 (manV S) 17) v)), none, some (.int (nI v)), none] []) 20 (fun v hv0 ih f w1 hR1 hF1 => ?_) 0 (Nat.zero_le _) L.2.2.2 w hR FrM.rf
    refine x_iload_n hG (pc := 33) 3 dX6_digest_33 rfl rfl ?_
    refine x_bipush hG (pc := 34) 20 dX6_digest_34 (by decide) ?_
    refine x_icmp_ge hG (pc := 36) 52 dX6_digest_36 (by decide) (fun h36 => ?_) (fun h36 => ?_)
    · have hve : v = 20 := by
        rcases Nat.lt_or_ge v 20 with q | q
        · exact absurd h36 (nI_ge (b := 20) q (by decide))
        · omega
      subst hve
      clear ih
      refine x_iconst hG (pc := 52) 0 dX6_digest_52 (by decide) ?_
      refine x_istore_n hG (pc := 53) 3 dX6_digest_53 rfl (Nat.le_of_ble_eq_true rfl) rfl (by dsimp only [List.set]) ?_
      refine nat_down (P := fun m => ∀ z : Option Value, X g w1 0 0 54 [some (.ref (thC L)), some (.long (dgM S (dgT S (dgl 4809 (manV S) 17) 20) m)), none, some (.int (nI m)), z] []) (nM S) (fun m hm0 ih z => ?_) 0 (Nat.zero_le _) none
      refine x_iload_n hG (pc := 54) 3 dX6_digest_54 rfl rfl ?_
      refine x_aload_n hG (pc := 55) 0 dX6_digest_55 rfl rfl ?_
      refine x_getf hG (pc := 56) fl_X6_22 hR1.main rfl dX6_digest_56 ?_
      refine x_callV hG hO (pc := 59) [] c_Jx4a65c_size_8abf5 lk_X6_104 (hR1.lst (id := 1) (by omega)).1 rfl rfl ⟨by decide, by decide⟩ (Nat.le_of_ble_eq_true rfl) (by rw [hG.mc]; exact Nat.le_of_ble_eq_true rfl) (by rw [hG.ms]; exact Nat.le_of_ble_eq_true rfl) dX6_digest_59 ?_
      refine ⟨_, _, _, _, _, rfl, (hR1.lst (id := 1) (by omega)).1, ?_⟩
      refine x_icmp_ge hG (pc := 62) 101 dX6_digest_62 (by decide) (fun h62 => ?_) (fun h62 => ?_)
      · have hme : m = nM S := by
          rcases Nat.lt_or_ge m (nM S) with q | q
          · exact absurd h62 (nI_ge (b := nM S) q (by omega))
          · omega
        subst hme
        clear ih
        refine x_iconst hG (pc := 101) 0 dX6_digest_101 (by decide) ?_
        refine x_istore_n hG (pc := 102) 3 dX6_digest_102 rfl (Nat.le_of_ble_eq_true rfl) rfl (by dsimp only [List.set]) ?_
        refine nat_down (P := fun m => ∀ z : Option Value, X g w1 0 0 103 [some (.ref (thC L)), some (.long (dgN S (dgM S (dgT S (dgl 4809 (manV S) 17) 20) (nM S)) m)), none, some (.int (nI m)), z] []) (nN S) (fun m hm0 ih z => ?_) 0 (Nat.zero_le _) _
        refine x_iload_n hG (pc := 103) 3 dX6_digest_103 rfl rfl ?_
        refine x_aload_n hG (pc := 104) 0 dX6_digest_104 rfl rfl ?_
        refine x_getf hG (pc := 105) fl_X6_25 hR1.main rfl dX6_digest_105 ?_
        refine x_callV hG hO (pc := 108) [] c_Jx4a65c_size_8abf5 lk_X6_104 (hR1.lst (id := 2) (by omega)).1 rfl rfl ⟨by decide, by decide⟩ (Nat.le_of_ble_eq_true rfl) (by rw [hG.mc]; exact Nat.le_of_ble_eq_true rfl) (by rw [hG.ms]; exact Nat.le_of_ble_eq_true rfl) dX6_digest_108 ?_
        refine ⟨_, _, _, _, _, rfl, (hR1.lst (id := 2) (by omega)).1, ?_⟩
        refine x_icmp_ge hG (pc := 111) 151 dX6_digest_111 (by decide) (fun h111 => ?_) (fun h111 => ?_)
        · have hme : m = nN S := by
            rcases Nat.lt_or_ge m (nN S) with q | q
            · exact absurd h111 (nI_ge (b := nN S) q (by omega))
            · omega
          subst hme
          refine x_lload_n hG (pc := 151) 1 dX6_digest_151 rfl rfl ?_
          refine x_ldc2 hG (pc := 152) _ dX6_digest_152 kc_X6_380 ?_
          refine x_lmul hG (pc := 155) dX6_digest_155 ?_
          refine x_aload_n hG (pc := 156) 0 dX6_digest_156 rfl rfl ?_
          refine x_iconst hG (pc := 157) 0 dX6_digest_157 (by decide) ?_
          refine x_iconst hG (pc := 158) 0 dX6_digest_158 (by decide) ?_
          refine x_bipush hG (pc := 159) 9 dX6_digest_159 (by decide) ?_
          refine x_callV hG hO (pc := 161) [_, _, _] v_X6_freeDay lk_X6_395 hR1.main rfl rfl ⟨by decide, by decide⟩ (Nat.le_of_ble_eq_true rfl) (by rw [hG.mc]; exact Nat.le_of_ble_eq_true rfl) (by rw [hG.ms]; exact Nat.le_of_ble_eq_true rfl) dX6_digest_161 ?_
          refine ⟨_, S, _, _, _, rfl, hR1, hI, by decide, ?_⟩
          refine x_i2l hG (pc := 164) dX6_digest_164 ?_
          refine x_ladd hG (pc := 165) dX6_digest_165 ?_
          refine x_lstore_n hG (pc := 166) 1 dX6_digest_166 rfl (Nat.le_of_ble_eq_true rfl) rfl (by dsimp only [List.set]) ?_
          refine x_lload_n hG (pc := 167) 1 dX6_digest_167 rfl rfl ?_
          refine x_ldc2 hG (pc := 168) _ dX6_digest_168 kc_X6_380 ?_
          refine x_lmul hG (pc := 171) dX6_digest_171 ?_
          refine x_aload_n hG (pc := 172) 0 dX6_digest_172 rfl rfl ?_
          refine x_iconst hG (pc := 173) 1 dX6_digest_173 (by decide) ?_
          refine x_iconst hG (pc := 174) 3 dX6_digest_174 (by decide) ?_
          refine x_iconst hG (pc := 175) 5 dX6_digest_175 (by decide) ?_
          refine x_callV hG hO (pc := 176) [_, _, _] v_X6_freeDay lk_X6_395 hR1.main rfl rfl ⟨by decide, by decide⟩ (Nat.le_of_ble_eq_true rfl) (by rw [hG.mc]; exact Nat.le_of_ble_eq_true rfl) (by rw [hG.ms]; exact Nat.le_of_ble_eq_true rfl) dX6_digest_176 ?_
          refine ⟨_, S, _, _, _, rfl, hR1, hI, by decide, ?_⟩
          refine x_i2l hG (pc := 179) dX6_digest_179 ?_
          refine x_ladd hG (pc := 180) dX6_digest_180 ?_
          refine x_lreturn hG (pc := 181) dX6_digest_181 rfl (by rw [hG.mc]; exact Nat.le_of_ble_eq_true rfl) (by rw [hG.ms]; exact Nat.le_of_ble_eq_true rfl) ?_
          exact hk f w1 hR1 hF1
        · have hmn : m < nN S := by
            rcases Nat.lt_or_ge m (nN S) with q | q
            · exact q
            · exact absurd (nI_le q (by omega)) h111
          refine x_iconst hG (pc := 114) 0 dX6_digest_114 (by decide) ?_
          refine x_istore hG (pc := 115) dX6_digest_115 (Nat.le_of_ble_eq_true rfl) rfl (by dsimp only [List.set]) ?_
          refine nat_down (P := fun v => X g w1 0 0 117 [some (.ref (thC L)), some (.long (dgl (dgN S (dgM S (dgT S (dgl 4809 (manV S) 17) 20) (nM S)) m) (ofN S m) v)), none, some (.int (nI m)), some (.int (nI v))] []) 10 (fun v hv0 ih2 => ?_) 0 (Nat.zero_le _)
          refine x_iload hG (pc := 117) dX6_digest_117 rfl ?_
          refine x_bipush hG (pc := 119) 9 dX6_digest_119 (by decide) ?_
          refine x_icmp_gt hG (pc := 121) 145 dX6_digest_121 (by decide) (fun h121 => ?_) (fun h121 => ?_)
          · have hve : v = 10 := by
              rcases Nat.lt_or_ge v 10 with q | q
              · exact absurd h121 (Int32.not_lt.mpr (nI_le (b := 9) (by omega) (by decide)))
              · omega
            subst hve
            refine x_iinc hG (pc := 145) (nI (m + 1)) dX6_digest_145 rfl (Nat.le_of_ble_eq_true rfl) rfl (nI_1' m) (by dsimp only [List.set]) ?_
            refine x_goto hG (pc := 148) 103 dX6_digest_148 (by decide) ?_
            exact ih (m + 1) (by omega) (by omega) _
          · have hvn : v < 10 := by
              rcases Nat.lt_or_ge v 10 with q | q
              · exact q
              · exact absurd (nI_lt2 (i := 9) (k := v) (by omega) (by omega)) h121
            refine x_lload_n hG (pc := 124) 1 dX6_digest_124 rfl rfl ?_
            refine x_ldc2 hG (pc := 125) _ dX6_digest_125 kc_X6_380 ?_
            refine x_lmul hG (pc := 128) dX6_digest_128 ?_
            refine x_aload_n hG (pc := 129) 0 dX6_digest_129 rfl rfl ?_
            refine x_iload_n hG (pc := 130) 3 dX6_digest_130 rfl rfl ?_
            refine x_iload hG (pc := 131) dX6_digest_131 rfl ?_
            refine x_callV hG hO (pc := 133) [_, _] v_X6_ofPossession lk_X6_392 hR1.main rfl rfl ⟨by decide, by decide⟩ (Nat.le_of_ble_eq_true rfl) (by rw [hG.mc]; exact Nat.le_of_ble_eq_true rfl) (by rw [hG.ms]; exact Nat.le_of_ble_eq_true rfl) dX6_digest_133 ?_
            refine ⟨_, S, m, v, rfl, hR1, hI, hmn, hvn, ?_⟩
            refine x_i2l hG (pc := 136) dX6_digest_136 ?_
            refine x_ladd hG (pc := 137) dX6_digest_137 ?_
            refine x_lstore_n hG (pc := 138) 1 dX6_digest_138 rfl (Nat.le_of_ble_eq_true rfl) rfl (by dsimp only [List.set]) ?_
            refine x_iinc hG (pc := 139) (nI (v + 1)) dX6_digest_139 rfl (Nat.le_of_ble_eq_true rfl) rfl (nI_1' v) (by dsimp only [List.set]) ?_
            refine x_goto hG (pc := 142) 117 dX6_digest_142 (by decide) ?_
            exact ih2 (v + 1) (by omega) (by omega)
      · have hmn : m < nM S := by
          rcases Nat.lt_or_ge m (nM S) with q | q
          · exact q
          · exact absurd (nI_le q (by omega)) h62
        refine x_iconst hG (pc := 65) 0 dX6_digest_65 (by decide) ?_
        refine x_istore hG (pc := 66) dX6_digest_66 (Nat.le_of_ble_eq_true rfl) rfl (by dsimp only [List.set]) ?_
        refine nat_down (P := fun v => X g w1 0 0 68 [some (.ref (thC L)), some (.long (dgl (dgM S (dgT S (dgl 4809 (manV S) 17) 20) m) (mS S m) v)), none, some (.int (nI m)), some (.int (nI v))] []) 4 (fun v hv0 ih2 => ?_) 0 (Nat.zero_le _)
        refine x_iload hG (pc := 68) dX6_digest_68 rfl ?_
        refine x_iconst hG (pc := 70) 3 dX6_digest_70 (by decide) ?_
        refine x_icmp_gt hG (pc := 71) 95 dX6_digest_71 (by decide) (fun h71 => ?_) (fun h71 => ?_)
        · have hve : v = 4 := by
            rcases Nat.lt_or_ge v 4 with q | q
            · exact absurd h71 (Int32.not_lt.mpr (nI_le (b := 3) (by omega) (by decide)))
            · omega
          subst hve
          refine x_iinc hG (pc := 95) (nI (m + 1)) dX6_digest_95 rfl (Nat.le_of_ble_eq_true rfl) rfl (nI_1' m) (by dsimp only [List.set]) ?_
          refine x_goto hG (pc := 98) 54 dX6_digest_98 (by decide) ?_
          exact ih (m + 1) (by omega) (by omega) _
        · have hvn : v < 4 := by
            rcases Nat.lt_or_ge v 4 with q | q
            · exact q
            · exact absurd (nI_lt2 (i := 3) (k := v) (by omega) (by omega)) h71
          refine x_lload_n hG (pc := 74) 1 dX6_digest_74 rfl rfl ?_
          refine x_ldc2 hG (pc := 75) _ dX6_digest_75 kc_X6_380 ?_
          refine x_lmul hG (pc := 78) dX6_digest_78 ?_
          refine x_aload_n hG (pc := 79) 0 dX6_digest_79 rfl rfl ?_
          refine x_iload_n hG (pc := 80) 3 dX6_digest_80 rfl rfl ?_
          refine x_iload hG (pc := 81) dX6_digest_81 rfl ?_
          refine x_callV hG hO (pc := 83) [_, _] v_X6_ofMachine lk_X6_389 hR1.main rfl rfl ⟨by decide, by decide⟩ (Nat.le_of_ble_eq_true rfl) (by rw [hG.mc]; exact Nat.le_of_ble_eq_true rfl) (by rw [hG.ms]; exact Nat.le_of_ble_eq_true rfl) dX6_digest_83 ?_
          refine ⟨_, S, m, v, rfl, hR1, hI, hmn, hvn, ?_⟩
          refine x_i2l hG (pc := 86) dX6_digest_86 ?_
          refine x_ladd hG (pc := 87) dX6_digest_87 ?_
          refine x_lstore_n hG (pc := 88) 1 dX6_digest_88 rfl (Nat.le_of_ble_eq_true rfl) rfl (by dsimp only [List.set]) ?_
          refine x_iinc hG (pc := 89) (nI (v + 1)) dX6_digest_89 rfl (Nat.le_of_ble_eq_true rfl) rfl (nI_1' v) (by dsimp only [List.set]) ?_
          refine x_goto hG (pc := 92) 68 dX6_digest_92 (by decide) ?_
          exact ih2 (v + 1) (by omega) (by omega)
    · have hvn : v < 20 := by
        rcases Nat.lt_or_ge v 20 with q | q
        · exact q
        · exact absurd (nI_le (a := 20) q (by omega)) h36
      refine x_aload_n hG (pc := 39) 0 dX6_digest_39 rfl rfl ?_
      refine x_lload_n hG (pc := 40) 1 dX6_digest_40 rfl rfl ?_
      refine x_iload_n hG (pc := 41) 3 dX6_digest_41 rfl rfl ?_
      refine x_callV hG hO (pc := 42) [_, _] c_X6_digestSection lk_X6_385 hR1.main rfl rfl ⟨by decide, by decide⟩ (Nat.le_of_ble_eq_true rfl) (by rw [hG.mc]; exact Nat.le_of_ble_eq_true rfl) (by rw [hG.ms]; exact Nat.le_of_ble_eq_true rfl) dX6_digest_42 ?_
      refine ⟨(L.1, L.2.1, L.2.2.1, f), S, v, _, rfl, hR1, hI, hvn, fun f2 w2 hR2 hF2 => ?_⟩
      refine x_lstore_n hG (pc := 45) 1 dX6_digest_45 rfl (Nat.le_of_ble_eq_true rfl) rfl (by dsimp only [List.set]) ?_
      refine x_iinc hG (pc := 46) (nI (v + 1)) dX6_digest_46 rfl (Nat.le_of_ble_eq_true rfl) rfl (nI_1' v) (by dsimp only [List.set]) ?_
      refine x_goto hG (pc := 49) 33 dX6_digest_49 (by decide) ?_
      exact ih (v + 1) (by omega) (by omega) f2 w2 hR2 (hF1.tr hF2)
  · have hvn : v < 17 := by
      rcases Nat.lt_or_ge v 17 with q | q
      · exact q
      · exact absurd (nI_lt2 (i := 16) (k := v) (by omega) (by omega)) h9
    refine x_lload_n hG (pc := 12) 1 dX6_digest_12 rfl rfl ?_
    refine x_ldc2 hG (pc := 13) _ dX6_digest_13 kc_X6_380 ?_
    refine x_lmul hG (pc := 16) dX6_digest_16 ?_
    refine x_aload_n hG (pc := 17) 0 dX6_digest_17 rfl rfl ?_
    refine x_iload_n hG (pc := 18) 3 dX6_digest_18 rfl rfl ?_
    refine x_callV hG hO (pc := 19) [_] v_X6_many lk_X6_382 (by first | assumption | exact hR.main) rfl rfl ⟨by decide, by decide⟩ (Nat.le_of_ble_eq_true rfl) (by rw [hG.mc]; exact Nat.le_of_ble_eq_true rfl) (by rw [hG.ms]; exact Nat.le_of_ble_eq_true rfl) dX6_digest_19 ?_
    refine ⟨L, S, v, rfl, hR, hI, hvn, ?_⟩
    refine x_i2l hG (pc := 22) dX6_digest_22 ?_
    refine x_ladd hG (pc := 23) dX6_digest_23 ?_
    refine x_lstore_n hG (pc := 24) 1 dX6_digest_24 rfl (Nat.le_of_ble_eq_true rfl) rfl (by dsimp only [List.set]) ?_
    refine x_iinc hG (pc := 25) (nI (v + 1)) dX6_digest_25 rfl (Nat.le_of_ble_eq_true rfl) rfl (nI_1' v) (by dsimp only [List.set]) ?_
    refine x_goto hG (pc := 28) 6 dX6_digest_28 (by decide) ?_
    exact ih (v + 1) (by omega) (by omega)
