/-! p30's law: its loop, its end, its start -/
theorem x_topI {g : Cxt} {w : Wd} {kc ks pc : Nat} {lv : List (Option Value)} {st : List Value} {v : Int32} (h : ∀ x : Int32, X g w kc ks pc lv (.int x :: st)) : X g w kc ks pc lv (.int v :: st) := h v
theorem P3.first : P3 S0 0 := by
  refine ⟨Inv2.first, ⟨fun i _ => ?_, fun m hm => absurd hm (Nat.not_lt_zero _)⟩, ⟨fun n hn => absurd hn (Nat.not_lt_zero _), fun a b _ ha => absurd ha (Nat.not_lt_zero _)⟩, fun k hk => absurd hk (Nat.not_lt_zero _), ?_, ?_⟩
  · show SecB _ sec0
    unfold SecB
    decide
  · unfold QC
    decide
  · decide
set_option maxHeartbeats 1000000 in
set_option maxRecDepth 100000 in
theorem law_head {nm : String} {g : Cxt} {b L0 : Nat} {xs : Nat → Int32} {tc q qs τ : Nat} {r : Nat → Nat} (hG : Cx g cL_law RL nm (some .boolean) (rmk 13 631088 7208434 490)) (hO : No g) (hX : Scr g b L0 xs) (hL : L0 ≤ 260) (hp : ∀ w, gP g (some (.int 1)) w) (hτ : τ ≤ 70) (nx : τ < 70 → Hd g b tc q r qs (τ + 1)) : Hd g b tc q r qs τ := by
  intro L S w kc ks z9 z10 z11 z12 z13 z14 z15 z16 z17 z18 z19 z20 hc hLw hkc hks
  subst hc
  obtain ⟨hR, hP, hB, hq⟩ := id hLw
  have hI := hP.1.1
  have hN16 := hI.2.1.2.1
  have hL31 : L0 < 2 ^ 31 := by omega
  refine x_iload hG (pc := 42) dL_law_42 rfl ?_
  refine x_bipush hG (pc := 44) 70 dL_law_44 (by decide) ?_
  refine x_icmp_ge hG (pc := 46) 1132 dL_law_46 (by decide) (fun h46 => ?_) (fun h46 => ?_)
  · refine x_aload_n hG (pc := 1132) 1 dL_law_1132 rfl rfl ?_
    refine x_callVN hG hO (pc := 1133) [] c_X6_digest lk_L_103 (by first | assumption | exact hR.main) rfl rfl ⟨Nat.le_of_ble_eq_true rfl, Nat.le_of_ble_eq_true rfl⟩ (Nat.le_of_ble_eq_true rfl) (by rw [hG.mc]; dsimp only [rmk]; omega) (by rw [hG.ms]; dsimp only [rmk]; omega) dL_law_1133 ?_
    refine ⟨L, S, rfl, hR, hI, fun f1 w1 hR1 hF1 => ?_⟩
    show X g w1 _ _ 1136 _ [.long (dgA S)]
    refine x_lstore hG (pc := 1136) dL_law_1136 (Nat.le_of_ble_eq_true rfl) rfl (by dsimp only [List.set]) ?_
    refine x_aload_n hG (pc := 1138) 1 dL_law_1138 rfl rfl ?_
    refine x_iload hG (pc := 1139) dL_law_1139 rfl ?_
    refine x_iload hG (pc := 1141) dL_law_1141 rfl ?_
    refine x_callSN hG hO (pc := 1143) [_, _, _] c_L_isSo lk_L_99 rfl rfl ⟨Nat.le_of_ble_eq_true rfl, Nat.le_of_ble_eq_true rfl⟩ (Nat.le_of_ble_eq_true rfl) (by rw [hG.mc]; dsimp only [rmk]; omega) (by rw [hG.ms]; dsimp only [rmk]; omega) dL_law_1143 ?_
    refine ⟨(L.1, L.2.1, L.2.2.1, f1), S, τ, rfl, hR1, hP, fun w2 hF2 => ?_⟩
    have hR2 := hR1.mono hF2
    refine x_if_eq hG (pc := 1146) 1163 dL_law_1146 (by decide) (fun h1146 => ?_) (fun h1146 => ?_)
    · exact absurd h1146 (by decide)
    · refine x_aload_n hG (pc := 1149) 1 dL_law_1149 rfl rfl ?_
      refine x_callVN hG hO (pc := 1150) [] c_X6_digest lk_L_103 hR2.main rfl rfl ⟨Nat.le_of_ble_eq_true rfl, Nat.le_of_ble_eq_true rfl⟩ (Nat.le_of_ble_eq_true rfl) (by rw [hG.mc]; dsimp only [rmk]; omega) (by rw [hG.ms]; dsimp only [rmk]; omega) dL_law_1150 ?_
      refine ⟨(L.1, L.2.1, L.2.2.1, f1), S, rfl, hR2, hI, fun f3 w3 hR3 hF3 => ?_⟩
      show X g w3 _ _ 1153 _ [.long (dgA S)]
      refine x_lload hG (pc := 1153) dL_law_1153 rfl ?_
      refine x_lcmp hG (pc := 1155) dL_law_1155 ?_
      refine x_if_ne hG (pc := 1156) 1163 dL_law_1156 (by decide) (fun h1156 => ?_) (fun h1156 => ?_)
      · exact absurd (lgA rfl) h1156
      · refine x_iconst hG (pc := 1159) 1 dL_law_1159 (by decide) ?_
        refine x_goto hG (pc := 1160) 1164 dL_law_1160 (by decide) ?_
        refine x_ireturn hG (pc := 1164) dL_law_1164 rfl rfl (by rw [hG.mc]; dsimp only [rmk]; omega) (by rw [hG.ms]; dsimp only [rmk]; omega) ?_
        exact hp _
  · have hτ70 : τ < 70 := lt_d (n := 70) h46 (by decide) (by omega)
    have nx2 := nx hτ70
    refine x_aload_n hG (pc := 49) 0 dL_law_49 rfl rfl ?_
    refine x_iload hG (pc := 50) dL_law_50 rfl ?_
    refine x_bipush hG (pc := 52) 28 dL_law_52 (by decide) ?_
    refine x_irem hG (pc := 54) dL_law_54 (by decide) ?_
    rw [show nI τ - nI τ / 28 * 28 = nI (τ % 28) from nI_rem (b := 28) (by omega) (by decide) (by decide)]
    refine x_callSX hG hO (pc := 55) [_, _] hX (c_L_cell hL31) lk_L_20 rfl rfl ⟨Nat.le_of_ble_eq_true rfl, Nat.le_of_ble_eq_true rfl⟩ (Nat.le_of_ble_eq_true rfl) (by rw [hG.mc]; dsimp only [rmk]; omega) (by rw [hG.ms]; dsimp only [rmk]; omega) dL_law_55 ?_
    refine ⟨_, rfl, by omega, fun v0 => ?_⟩
    show X g w _ _ 58 _ [.int v0]
    refine x_iload hG (pc := 58) dL_law_58 rfl ?_
    refine x_bipush hG (pc := 60) 28 dL_law_60 (by decide) ?_
    refine x_idiv hG (pc := 62) dL_law_62 (by decide) ?_
    refine x_iconst hG (pc := 63) 4 dL_law_63 (by decide) ?_
    refine x_imul hG (pc := 64) dL_law_64 ?_
    refine x_ishr hG (pc := 65) dL_law_65 ?_
    refine x_topI (fun x => ?_)
    refine x_istore hG (pc := 66) dL_law_66 (Nat.le_of_ble_eq_true rfl) rfl (by dsimp only [List.set]) ?_
    refine x_iload hG (pc := 68) dL_law_68 rfl ?_
    refine x_iconst hG (pc := 70) 4 dL_law_70 (by decide) ?_
    refine x_ishr hG (pc := 71) dL_law_71 ?_
    refine x_bipush hG (pc := 72) 20 dL_law_72 (by decide) ?_
    refine x_callSN hG hO (pc := 74) [_, _] c_L_below lk_L_24 rfl rfl ⟨Nat.le_of_ble_eq_true rfl, Nat.le_of_ble_eq_true rfl⟩ (Nat.le_of_ble_eq_true rfl) (by rw [hG.mc]; dsimp only [rmk]; omega) (by rw [hG.ms]; dsimp only [rmk]; omega) dL_law_74 ?_
    refine ⟨_, 20, rfl, by decide, by decide, fun k hk => ?_⟩
    refine x_istore hG (pc := 77) dL_law_77 (Nat.le_of_ble_eq_true rfl) rfl (by dsimp only [List.set]) ?_
    have K98 : ∀ nt : Int32, ((nN S = 0 ∧ nt = -1) ∨ ∃ n, n < nN S ∧ nt = nI n) → X g w kc ks 98 [some (.ref b), some (.ref (thC L)), some (.ref q), some (.ref qs), some (.int (nI (nM S))), some (.int (nI (nN S))), some (.int (nI (nE S))), some (.int (gl S 5)), some (.int (nI τ)), some (.int x), some (.int (nI k)), z11, z12, z13, z14, z15, z16, z17, z18, z19, z20] [.int nt] := by
      rintro nt hnt
      refine x_istore hG (pc := 98) dL_law_98 (Nat.le_of_ble_eq_true rfl) rfl (by dsimp only [List.set]) ?_
      refine x_aload_n hG (pc := 100) 1 dL_law_100 rfl rfl ?_
      refine x_bipush hG (pc := 101) 9 dL_law_101 (by decide) ?_
      refine x_callVN hG hO (pc := 103) [_] v_X6_many lk_L_28 hR.main rfl rfl ⟨Nat.le_of_ble_eq_true rfl, Nat.le_of_ble_eq_true rfl⟩ (Nat.le_of_ble_eq_true rfl) (by rw [hG.mc]; dsimp only [rmk]; omega) (by rw [hG.ms]; dsimp only [rmk]; omega) dL_law_103 ?_
      refine ⟨L, S, 9, rfl, hR, hI, by decide, ?_⟩
      refine x_istore hG (pc := 106) dL_law_106 (Nat.le_of_ble_eq_true rfl) rfl (by dsimp only [List.set]) ?_
      refine x_aload_n hG (pc := 108) 1 dL_law_108 rfl rfl ?_
      refine x_bipush hG (pc := 109) 11 dL_law_109 (by decide) ?_
      refine x_callVN hG hO (pc := 111) [_] v_X6_many lk_L_28 hR.main rfl rfl ⟨Nat.le_of_ble_eq_true rfl, Nat.le_of_ble_eq_true rfl⟩ (Nat.le_of_ble_eq_true rfl) (by rw [hG.mc]; dsimp only [rmk]; omega) (by rw [hG.ms]; dsimp only [rmk]; omega) dL_law_111 ?_
      refine ⟨L, S, 11, rfl, hR, hI, by decide, ?_⟩
      refine x_istore hG (pc := 114) dL_law_114 (Nat.le_of_ble_eq_true rfl) rfl (by dsimp only [List.set]) ?_
      refine x_iconst hG (pc := 116) 0 dL_law_116 (by decide) ?_
      refine x_istore hG (pc := 117) dL_law_117 (Nat.le_of_ble_eq_true rfl) rfl (by dsimp only [List.set]) ?_
      refine x_iconst hG (pc := 119) 0 dL_law_119 (by decide) ?_
      refine x_istore hG (pc := 120) dL_law_120 (Nat.le_of_ble_eq_true rfl) rfl (by dsimp only [List.set]) ?_
      refine x_iconst hG (pc := 122) (-1) dL_law_122 (by decide) ?_
      refine x_istore hG (pc := 123) dL_law_123 (Nat.le_of_ble_eq_true rfl) rfl (by dsimp only [List.set]) ?_
      refine x_iload hG (pc := 125) dL_law_125 rfl ?_
      refine x_bipush hG (pc := 127) 18 dL_law_127 (by decide) ?_
      refine x_callSN hG hO (pc := 129) [_, _] c_L_below lk_L_24 rfl rfl ⟨Nat.le_of_ble_eq_true rfl, Nat.le_of_ble_eq_true rfl⟩ (Nat.le_of_ble_eq_true rfl) (by rw [hG.mc]; dsimp only [rmk]; omega) (by rw [hG.ms]; dsimp only [rmk]; omega) dL_law_129 ?_
      refine ⟨_, 18, rfl, by decide, by decide, fun c hc => ?_⟩
      match c, hc with
      | 0, _ =>
        refine x_tableIn hG (pc := 132) (off := 76) 208 dL_law_132 (by decide) (by decide) (by decide) (by decide) ?_
        exact law_c0 nm g b q qs r τ k L S w _ _ x nt z17 z18 z19 z20 hG hO hτ70 hk hnt nx2 hLw (by first | omega | (dsimp only [rmk]; omega)) (by first | omega | (dsimp only [rmk]; omega))
      | 1, _ =>
        refine x_tableIn hG (pc := 132) (off := 142) 274 dL_law_132 (by decide) (by decide) (by decide) (by decide) ?_
        exact law_c1 nm g b q qs r τ k L S w _ _ x nt z17 z18 z19 z20 hG hO hτ70 hk hnt nx2 hLw (by first | omega | (dsimp only [rmk]; omega)) (by first | omega | (dsimp only [rmk]; omega))
      | 2, _ =>
        refine x_tableIn hG (pc := 132) (off := 187) 319 dL_law_132 (by decide) (by decide) (by decide) (by decide) ?_
        exact law_c2 nm g b q qs r τ k L S w _ _ x nt z17 z18 z19 z20 hG hO hτ70 hk hnt nx2 hLw (by first | omega | (dsimp only [rmk]; omega)) (by first | omega | (dsimp only [rmk]; omega))
      | 3, _ =>
        refine x_tableIn hG (pc := 132) (off := 230) 362 dL_law_132 (by decide) (by decide) (by decide) (by decide) ?_
        exact law_c3 nm g b q qs r τ k L S w _ _ x nt z17 z18 z19 z20 hG hO hτ70 hk hnt nx2 hLw (by first | omega | (dsimp only [rmk]; omega)) (by first | omega | (dsimp only [rmk]; omega))
      | 4, _ =>
        refine x_tableIn hG (pc := 132) (off := 230) 362 dL_law_132 (by decide) (by decide) (by decide) (by decide) ?_
        exact law_c3 nm g b q qs r τ k L S w _ _ x nt z17 z18 z19 z20 hG hO hτ70 hk hnt nx2 hLw (by first | omega | (dsimp only [rmk]; omega)) (by first | omega | (dsimp only [rmk]; omega))
      | 5, _ =>
        refine x_tableIn hG (pc := 132) (off := 230) 362 dL_law_132 (by decide) (by decide) (by decide) (by decide) ?_
        exact law_c3 nm g b q qs r τ k L S w _ _ x nt z17 z18 z19 z20 hG hO hτ70 hk hnt nx2 hLw (by first | omega | (dsimp only [rmk]; omega)) (by first | omega | (dsimp only [rmk]; omega))
      | 6, _ =>
        refine x_tableIn hG (pc := 132) (off := 351) 483 dL_law_132 (by decide) (by decide) (by decide) (by decide) ?_
        exact law_c4 nm g b q qs r τ k L S w _ _ x nt z17 z18 z19 z20 hG hO hτ70 hk hnt nx2 hLw (by first | omega | (dsimp only [rmk]; omega)) (by first | omega | (dsimp only [rmk]; omega))
      | 7, _ =>
        refine x_tableIn hG (pc := 132) (off := 351) 483 dL_law_132 (by decide) (by decide) (by decide) (by decide) ?_
        exact law_c4 nm g b q qs r τ k L S w _ _ x nt z17 z18 z19 z20 hG hO hτ70 hk hnt nx2 hLw (by first | omega | (dsimp only [rmk]; omega)) (by first | omega | (dsimp only [rmk]; omega))
      | 8, _ =>
        refine x_tableIn hG (pc := 132) (off := 351) 483 dL_law_132 (by decide) (by decide) (by decide) (by decide) ?_
        exact law_c4 nm g b q qs r τ k L S w _ _ x nt z17 z18 z19 z20 hG hO hτ70 hk hnt nx2 hLw (by first | omega | (dsimp only [rmk]; omega)) (by first | omega | (dsimp only [rmk]; omega))
      | 9, _ =>
        refine x_tableIn hG (pc := 132) (off := 525) 657 dL_law_132 (by decide) (by decide) (by decide) (by decide) ?_
        exact law_c5 nm g b q qs r τ k L S w _ _ x nt z17 z18 z19 z20 hG hO hτ70 hk hnt nx2 hLw (by first | omega | (dsimp only [rmk]; omega)) (by first | omega | (dsimp only [rmk]; omega))
      | 10, _ =>
        refine x_tableIn hG (pc := 132) (off := 579) 711 dL_law_132 (by decide) (by decide) (by decide) (by decide) ?_
        exact law_c6 nm g b q qs r τ k L S w _ _ x nt z17 z18 z19 z20 hG hO hτ70 hk hnt nx2 hLw (by first | omega | (dsimp only [rmk]; omega)) (by first | omega | (dsimp only [rmk]; omega))
      | 11, _ =>
        refine x_tableIn hG (pc := 132) (off := 579) 711 dL_law_132 (by decide) (by decide) (by decide) (by decide) ?_
        exact law_c6 nm g b q qs r τ k L S w _ _ x nt z17 z18 z19 z20 hG hO hτ70 hk hnt nx2 hLw (by first | omega | (dsimp only [rmk]; omega)) (by first | omega | (dsimp only [rmk]; omega))
      | 12, _ =>
        refine x_tableIn hG (pc := 132) (off := 684) 816 dL_law_132 (by decide) (by decide) (by decide) (by decide) ?_
        exact law_c7 nm g b q qs r τ k L S w _ _ x nt z17 z18 z19 z20 hG hO hτ70 hk hnt nx2 hLw (by first | omega | (dsimp only [rmk]; omega)) (by first | omega | (dsimp only [rmk]; omega))
      | 13, _ =>
        refine x_tableIn hG (pc := 132) (off := 737) 869 dL_law_132 (by decide) (by decide) (by decide) (by decide) ?_
        exact law_c8 nm g b q qs r τ k L S w _ _ x nt z17 z18 z19 z20 hG hO hτ70 hk hnt nx2 hLw (by first | omega | (dsimp only [rmk]; omega)) (by first | omega | (dsimp only [rmk]; omega))
      | 14, _ =>
        refine x_tableIn hG (pc := 132) (off := 776) 908 dL_law_132 (by decide) (by decide) (by decide) (by decide) ?_
        exact law_c9 nm g b q qs r τ k L S w _ _ x nt z17 z18 z19 z20 hG hO hτ70 hk hnt nx2 hLw (by first | omega | (dsimp only [rmk]; omega)) (by first | omega | (dsimp only [rmk]; omega))
      | c + 15, hc =>
        refine x_tableOut hG (pc := 132) 956 dL_law_132 (Or.inr (by rw [nI_toInt (by omega)]; omega)) (by decide) ?_
        exact law_c10 nm g b q qs r τ k L S w _ _ x nt z17 z18 z19 z20 hG hO hτ70 hk hnt nx2 hLw (by first | omega | (dsimp only [rmk]; omega)) (by first | omega | (dsimp only [rmk]; omega))
    refine x_iload hG (pc := 79) dL_law_79 rfl ?_
    refine x_if_ne hG (pc := 81) 88 dL_law_81 (by decide) (fun h81 => ?_) (fun h81 => ?_)
    · have hN0 : 0 < nN S := by
        rcases Nat.eq_zero_or_pos (nN S) with z | z
        · exact absurd (show nI (nN S) = 0 from congrArg nI z) h81
        · exact z
      refine x_iload hG (pc := 88) dL_law_88 rfl ?_
      refine x_bipush hG (pc := 90) 6 dL_law_90 (by decide) ?_
      refine x_ishr hG (pc := 92) dL_law_92 ?_
      refine x_iload hG (pc := 93) dL_law_93 rfl ?_
      refine x_callSN hG hO (pc := 95) [_, _] c_L_below lk_L_24 rfl rfl ⟨Nat.le_of_ble_eq_true rfl, Nat.le_of_ble_eq_true rfl⟩ (Nat.le_of_ble_eq_true rfl) (by rw [hG.mc]; dsimp only [rmk]; omega) (by rw [hG.ms]; dsimp only [rmk]; omega) dL_law_95 ?_
      refine ⟨_, nN S, rfl, hN0, by omega, fun n hn => ?_⟩
      have hnt : (nN S = 0 ∧ nI n = -1) ∨ ∃ n2, n2 < nN S ∧ nI n = nI n2 := Or.inr ⟨n, hn, rfl⟩
      exact K98 _ hnt
    · have hN0 : nN S = 0 := nI_inj (b := 0) h81 (by omega) (by decide)
      have hnt : (nN S = 0 ∧ (-1 : Int32) = -1) ∨ ∃ n, n < nN S ∧ (-1 : Int32) = nI n := Or.inl ⟨hN0, rfl⟩
      refine x_iconst hG (pc := 84) (-1) dL_law_84 (by decide) ?_
      refine x_goto hG (pc := 85) 98 dL_law_85 (by decide) ?_
      exact K98 _ hnt
theorem law_go {nm : String} {g : Cxt} {b L0 : Nat} {xs : Nat → Int32} {tc q qs : Nat} {r : Nat → Nat} (hG : Cx g cL_law RL nm (some .boolean) (rmk 13 631088 7208434 490)) (hO : No g) (hX : Scr g b L0 xs) (hL : L0 ≤ 260) (hp : ∀ w, gP g (some (.int 1)) w) : ∀ n τ : Nat, τ + n = 70 → Hd g b tc q r qs τ
  | 0, τ, h => law_head hG hO hX hL hp (by omega) (fun z => absurd z (by omega))
  | n + 1, τ, h => law_head hG hO hX hL hp (by omega) (fun _ => law_go hG hO hX hL hp n (τ + 1) (by omega))
set_option maxHeartbeats 1000000 in
set_option maxRecDepth 100000 in
theorem law_all {nm : String} {g : Cxt} {b L0 : Nat} {xs : Nat → Int32} (hG : Cx g cL_law RL nm (some .boolean) (rmk 13 631088 7208434 490)) (hO : No g) (hX : Scr g b L0 xs) (hL : L0 ≤ 260) (hp : ∀ w, gP g (some (.int 1)) w) : X g (fun _ => none) 0 0 0 [some (.ref b), none, none, none, none, none, none, none, none, none, none, none, none, none, none, none, none, none, none, none, none] [] := by
  skip
  refine x_new hG (pc := 0) (1, 0, 0) nw_L_9 dL_law_0 (by rw [hG.mc]; dsimp only [rmk]; omega) (by rw [hG.ms]; dsimp only [rmk]; omega) (fun a hfa hna => ?_)
  refine x_gen (fun w1 e1 => ?_)
  refine x_dup hG (pc := 3) dL_law_3 rfl ?_
  refine x_callIN hG hO (pc := 4) [] c_X6_init lk_L_11 rfl rfl ⟨Nat.le_of_ble_eq_true rfl, Nat.le_of_ble_eq_true rfl⟩ (Nat.le_of_ble_eq_true rfl) (by rw [hG.mc]; dsimp only [rmk]; omega) (by rw [hG.ms]; dsimp only [rmk]; omega) dL_law_4 ?_
  refine ⟨a, rfl, (congrFun e1 a).trans wup_s, fun L w2 hth hR hF2 => ?_⟩
  show X g w2 _ _ 7 _ [.ref a]
  subst hth
  refine x_astore_n hG (pc := 7) 1 dL_law_7 rfl (Nat.le_of_ble_eq_true rfl) rfl (by dsimp only [List.set]) ?_
  refine x_bipush hG (pc := 8) 20 dL_law_8 (by decide) ?_
  refine x_bipush hG (pc := 10) 8 dL_law_10 (by decide) ?_
  refine x_newII hG (pc := 12) (80, 0, 0) (fun i => (81, i, 0)) ckl_L_12 (by decide) (by decide) (N := 20) (K := 8) rfl rfl (by decide) (by decide) dL_law_12 (by rw [hG.mc]; dsimp only [rmk]; omega) (by rw [hG.ms]; dsimp only [rmk]; omega) (fun q r w3 hF3 hq3 hr3 => ?_)
  have hR3 := hR.mono hF3
  refine x_astore_n hG (pc := 16) 2 dL_law_16 rfl (Nat.le_of_ble_eq_true rfl) rfl (by dsimp only [List.set]) ?_
  refine x_bipush hG (pc := 17) 16 dL_law_17 (by decide) ?_
  refine x_newI hG (pc := 19) (82, 0, 0) (n := 16) (by decide) rfl (by decide) dL_law_19 (by rw [hG.mc]; dsimp only [rmk]; omega) (by rw [hG.ms]; dsimp only [rmk]; omega) (fun qs hfs hns => ?_)
  refine x_gen (fun w4 e4 => ?_)
  have up : ∀ (b : Nat) (x : Tg × va_E), w3 b = some x → w4 b = some x := fun b x hb => (congrFun e4 b).trans (wup_f hfs hb)
  refine x_astore_n hG (pc := 21) 3 dL_law_21 rfl (Nat.le_of_ble_eq_true rfl) rfl (by dsimp only [List.set]) ?_
  refine x_iconst hG (pc := 22) 0 dL_law_22 (by decide) ?_
  refine x_istore hG (pc := 23) dL_law_23 (Nat.le_of_ble_eq_true rfl) rfl (by dsimp only [List.set]) ?_
  refine x_iconst hG (pc := 25) 0 dL_law_25 (by decide) ?_
  refine x_istore hG (pc := 26) dL_law_26 (Nat.le_of_ble_eq_true rfl) rfl (by dsimp only [List.set]) ?_
  refine x_iconst hG (pc := 28) 0 dL_law_28 (by decide) ?_
  refine x_istore hG (pc := 29) dL_law_29 (Nat.le_of_ble_eq_true rfl) rfl (by dsimp only [List.set]) ?_
  refine x_iconst hG (pc := 31) 0 dL_law_31 (by decide) ?_
  refine x_istore hG (pc := 32) dL_law_32 (Nat.le_of_ble_eq_true rfl) rfl (by dsimp only [List.set]) ?_
  refine x_aload_n hG (pc := 34) 1 dL_law_34 rfl rfl ?_
  refine x_aload_n hG (pc := 35) 2 dL_law_35 rfl rfl ?_
  refine x_callSN hG hO (pc := 36) [_, _] c_L_keep lk_L_14 rfl rfl ⟨Nat.le_of_ble_eq_true rfl, Nat.le_of_ble_eq_true rfl⟩ (Nat.le_of_ble_eq_true rfl) (by rw [hG.mc]; dsimp only [rmk]; omega) (by rw [hG.ms]; dsimp only [rmk]; omega) dL_law_36 ?_
  refine ⟨L, S0, q, r, fun _ _ => 0, rfl, hR3.mono up, Inv2.first.1, ⟨up _ _ hq3, fun i hi => ⟨_, up _ _ (hr3 i hi), fun _ _ => rfl⟩⟩, fun w5 hB5 hF5 => ?_⟩
  have hq5 := hF5 _ _ ((congrFun e4 qs).trans wup_s) (by show (82 : Nat) ≠ 81; decide)
  have hR5 := (hR3.mono up).frk hF5 (by decide)
  have est : (fun _ : Nat => (0 : Int32)) = stF S0 := by
    funext i
    exact (if_neg (Nat.not_lt_zero i)).symm
  rw [est] at hq5
  refine x_iconst hG (pc := 39) 0 dL_law_39 (by decide) ?_
  refine x_istore hG (pc := 40) dL_law_40 (Nat.le_of_ble_eq_true rfl) rfl (by dsimp only [List.set]) ?_
  exact law_go hG hO hX hL hp 70 0 rfl L S0 w5 _ _ _ _ _ _ _ _ _ _ _ _ _ _ rfl ⟨hR5, P3.first, hB5, hq5⟩ (by first | omega | (dsimp only [rmk]; omega)) (by first | omega | (dsimp only [rmk]; omega))
