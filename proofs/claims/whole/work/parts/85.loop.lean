/-! the law's loop and its start -/
set_option maxHeartbeats 1000000 in
set_option maxRecDepth 100000 in
theorem law_head {nm : String} {g : Cxt} {b L : Nat} {xs : Nat → Int32} {tc tm qo qd j N : Nat} (hG : Cx g cL_law RL nm (some .boolean) (rmk 13 601024 7293034 490)) (hO : No g) (hX : Scr g b L xs) (hL : L ≤ 3072) (hp : ∀ w, gP g (some (.int 1)) w) (hj : j = 6 * N) (hN : N ≤ 512) (nx : j + 6 ≤ L → N < 512 → Go g b tc tm qo qd (j + 6) (N + 1)) : Go g b tc tm qo qd j N := by
  intro Lc Lm S w kc ks z6 z7 z8 hc hm hI hkc hks
  subst hc
  subst hm
  have hdd := hI.2.2.1.1.2.2.2.2.2.1
  refine x_iload hG (pc := 28) dL_law_28 rfl ?_
  refine x_aload_n hG (pc := 30) 0 dL_law_30 rfl rfl ?_
  refine x_slen hG (pc := 31) hX dL_law_31 ?_
  refine x_bipush hG (pc := 32) 6 dL_law_32 (by decide) ?_
  refine x_isub hG (pc := 34) dL_law_34 ?_
  refine x_icmp_gt hG (pc := 35) 2023 dL_law_35 (by decide) (fun _ => ?_) (fun hlt => ?_)
  · refine x_iconst hG (pc := 2023) 1 dL_law_2023 (by decide) ?_
    refine x_ireturn hG (pc := 2024) dL_law_2024 rfl rfl (by rw [hG.mc]; dsimp only [rmk]; omega) (by rw [hG.ms]; dsimp only [rmk]; omega) ?_
    exact hp w
  · have hj6 := hd_lt (j := j) (by omega) hL hlt
    have nx2 := nx hj6 (by omega)
    refine x_aload_n hG (pc := 38) 0 dL_law_38 rfl rfl ?_
    refine x_iload hG (pc := 39) dL_law_39 rfl ?_
    refine x_sld hG (pc := 41) hX (vp_in_nI (by omega) (by omega)) rfl dL_law_41 ?_
    refine x_bipush hG (pc := 42) 31 dL_law_42 (by decide) ?_
    refine x_iand hG (pc := 44) dL_law_44 ?_
    obtain ⟨n, hn, e⟩ := and31 (xs (nI j).toNatClampNeg)
    rw [e]
    match n, hn with
    | 0, _ =>
      refine x_tableIn hG (pc := 45) (off := 123) 168 dL_law_45 (by decide) (by decide) (by decide) (by decide) ?_
      exact law_0 nm g b L xs qo qd j N Lc Lm S w kc ks z6 z7 z8 hG hO hX hj6 hL (by omega) nx2 hI hkc hks
    | 1, _ =>
      refine x_tableIn hG (pc := 45) (off := 214) 259 dL_law_45 (by decide) (by decide) (by decide) (by decide) ?_
      exact law_1 nm g b L xs qo qd j N Lc Lm S w kc ks z6 z7 z8 hG hO hX hj6 hL (by omega) nx2 hI hkc hks
    | 2, _ =>
      refine x_tableIn hG (pc := 45) (off := 282) 327 dL_law_45 (by decide) (by decide) (by decide) (by decide) ?_
      exact law_2 nm g b L xs qo qd j N Lc Lm S w kc ks z6 z7 z8 hG hO hX hj6 hL (by omega) nx2 hI hkc hks
    | 3, _ =>
      refine x_tableIn hG (pc := 45) (off := 362) 407 dL_law_45 (by decide) (by decide) (by decide) (by decide) ?_
      exact law_3 nm g b L xs qo qd j N Lc Lm S w kc ks z6 z7 z8 hG hO hX hj6 hL (by omega) nx2 hI hkc hks
    | 4, _ =>
      refine x_tableIn hG (pc := 45) (off := 454) 499 dL_law_45 (by decide) (by decide) (by decide) (by decide) ?_
      exact law_4 nm g b L xs qo qd j N Lc Lm S w kc ks z6 z7 z8 hG hO hX hj6 hL (by omega) nx2 hI hkc hks
    | 5, _ =>
      refine x_tableIn hG (pc := 45) (off := 510) 555 dL_law_45 (by decide) (by decide) (by decide) (by decide) ?_
      exact law_5 nm g b L xs qo qd j N Lc Lm S w kc ks z6 z7 z8 hG hO hX hj6 hL (by omega) nx2 hI hkc hks
    | 6, _ =>
      refine x_tableIn hG (pc := 45) (off := 578) 623 dL_law_45 (by decide) (by decide) (by decide) (by decide) ?_
      exact law_6 nm g b L xs qo qd j N Lc Lm S w kc ks z6 z7 z8 hG hO hX hj6 hL (by omega) nx2 hI hkc hks
    | 7, _ =>
      refine x_tableIn hG (pc := 45) (off := 634) 679 dL_law_45 (by decide) (by decide) (by decide) (by decide) ?_
      exact law_7 nm g b L xs qo qd j N Lc Lm S w kc ks z6 z7 z8 hG hO hX hj6 hL (by omega) nx2 hI hkc hks
    | 8, _ =>
      refine x_tableIn hG (pc := 45) (off := 738) 783 dL_law_45 (by decide) (by decide) (by decide) (by decide) ?_
      exact law_8 nm g b L xs qo qd j N Lc Lm S w kc ks z6 z7 z8 hG hO hX hj6 hL (by omega) nx2 hI hkc hks
    | 9, _ =>
      refine x_tableIn hG (pc := 45) (off := 818) 863 dL_law_45 (by decide) (by decide) (by decide) (by decide) ?_
      exact law_9 nm g b L xs qo qd j N Lc Lm S w kc ks z6 z7 z8 hG hO hX hj6 hL (by omega) nx2 hI hkc hks
    | 10, _ =>
      refine x_tableIn hG (pc := 45) (off := 874) 919 dL_law_45 (by decide) (by decide) (by decide) (by decide) ?_
      exact law_10 nm g b L xs qo qd j N Lc Lm S w kc ks z6 z7 z8 hG hO hX hj6 hL (by omega) nx2 hI hkc hks
    | 11, _ =>
      refine x_tableIn hG (pc := 45) (off := 942) 987 dL_law_45 (by decide) (by decide) (by decide) (by decide) ?_
      exact law_11 nm g b L xs qo qd j N Lc Lm S w kc ks z6 z7 z8 hG hO hX hj6 hL (by omega) nx2 hI hkc hks
    | 12, _ =>
      refine x_tableIn hG (pc := 45) (off := 998) 1043 dL_law_45 (by decide) (by decide) (by decide) (by decide) ?_
      exact law_12 nm g b L xs qo qd j N Lc Lm S w kc ks z6 z7 z8 hG hO hX hj6 hL (by omega) nx2 hI hkc hks
    | 13, _ =>
      refine x_tableIn hG (pc := 45) (off := 1054) 1099 dL_law_45 (by decide) (by decide) (by decide) (by decide) ?_
      exact law_13 nm g b L xs qo qd j N Lc Lm S w kc ks z6 z7 z8 hG hO hX hj6 hL (by omega) nx2 hI hkc hks
    | 14, _ =>
      refine x_tableIn hG (pc := 45) (off := 1129) 1174 dL_law_45 (by decide) (by decide) (by decide) (by decide) ?_
      exact law_14 nm g b L xs qo qd j N Lc Lm S w kc ks z6 z7 z8 hG hO hX hj6 hL (by omega) nx2 hI hkc hks
    | 15, _ =>
      refine x_tableIn hG (pc := 45) (off := 1197) 1242 dL_law_45 (by decide) (by decide) (by decide) (by decide) ?_
      exact law_15 nm g b L xs qo qd j N Lc Lm S w kc ks z6 z7 z8 hG hO hX hj6 hL (by omega) nx2 hI hkc hks
    | 16, _ =>
      refine x_tableIn hG (pc := 45) (off := 1265) 1310 dL_law_45 (by decide) (by decide) (by decide) (by decide) ?_
      exact law_16 nm g b L xs qo qd j N Lc Lm S w kc ks z6 z7 z8 hG hO hX hj6 hL (by omega) nx2 hI hkc hks
    | 17, _ =>
      refine x_tableIn hG (pc := 45) (off := 1349) 1394 dL_law_45 (by decide) (by decide) (by decide) (by decide) ?_
      exact law_17 nm g b L xs qo qd j N Lc Lm S w kc ks z6 z7 z8 hG hO hX hj6 hL (by omega) nx2 hI hkc hks
    | 18, _ =>
      refine x_tableIn hG (pc := 45) (off := 1417) 1462 dL_law_45 (by decide) (by decide) (by decide) (by decide) ?_
      exact law_18 nm g b L xs qo qd j N Lc Lm S w kc ks z6 z7 z8 hG hO hX hj6 hL (by omega) nx2 hI hkc hks
    | 19, _ =>
      refine x_tableIn hG (pc := 45) (off := 1485) 1530 dL_law_45 (by decide) (by decide) (by decide) (by decide) ?_
      exact law_19 nm g b L xs qo qd j N Lc Lm S w kc ks z6 z7 z8 hG hO hX hj6 hL (by omega) nx2 hI hkc hks
    | 20, _ =>
      refine x_tableIn hG (pc := 45) (off := 1541) 1586 dL_law_45 (by decide) (by decide) (by decide) (by decide) ?_
      exact law_20 nm g b L xs qo qd j N Lc Lm S w kc ks z6 z7 z8 hG hO hX hj6 hL (by omega) nx2 hI hkc hks
    | 21, _ =>
      refine x_tableIn hG (pc := 45) (off := 1618) 1663 dL_law_45 (by decide) (by decide) (by decide) (by decide) ?_
      exact law_21 nm g b L xs qo qd j N Lc Lm S w kc ks z6 z7 z8 hG hO hX hj6 hL (by omega) nx2 hI hkc hks
    | 22, _ =>
      refine x_tableIn hG (pc := 45) (off := 1674) 1719 dL_law_45 (by decide) (by decide) (by decide) (by decide) ?_
      exact law_22 nm g b L xs qo qd j N Lc Lm S w kc ks z6 z7 z8 hG hO hX hj6 hL (by omega) nx2 hI hkc hks
    | 23, _ =>
      refine x_tableIn hG (pc := 45) (off := 1742) 1787 dL_law_45 (by decide) (by decide) (by decide) (by decide) ?_
      exact law_23 nm g b L xs qo qd j N Lc Lm S w kc ks z6 z7 z8 hG hO hX hj6 hL (by omega) nx2 hI hkc hks
    | 24, _ =>
      refine x_tableIn hG (pc := 45) (off := 1822) 1867 dL_law_45 (by decide) (by decide) (by decide) (by decide) ?_
      exact law_24 nm g b L xs qo qd j N Lc Lm S w kc ks z6 z7 z8 hG hO hX hj6 hL (by omega) nx2 hI hkc hks
    | 25, _ =>
      refine x_tableIn hG (pc := 45) (off := 1902) 1947 dL_law_45 (by decide) (by decide) (by decide) (by decide) ?_
      exact law_25 nm g b L xs qo qd j N Lc Lm S w kc ks z6 z7 z8 hG hO hX hj6 hL (by omega) nx2 hI hkc hks
    | 26, _ =>
      refine x_tableIn hG (pc := 45) (off := 1958) 2003 dL_law_45 (by decide) (by decide) (by decide) (by decide) ?_
      exact law_26 nm g b L xs qo qd j N Lc Lm S w kc ks z6 z7 z8 hG hO hX hj6 hL (by omega) nx2 hI hkc hks
    | n + 27, hn =>
      refine x_tableOut hG (pc := 45) 2017 dL_law_45 (Or.inr (by rw [nI_toInt (by omega)]; omega)) (by decide) ?_
      refine x_iinc hG (pc := 2017) (nI (j + 6)) dL_law_2017 rfl (Nat.le_of_ble_eq_true rfl) rfl (nI_6 j) (by dsimp only [List.set]) ?_
      refine x_goto hG (pc := 2020) 28 dL_law_2020 (by decide) ?_
      exact nx2 Lc Lm S w _ _ _ _ _ rfl rfl hI (by omega) (by omega)
theorem law_go {nm : String} {g : Cxt} {b L : Nat} {xs : Nat → Int32} {tc tm qo qd : Nat} (hG : Cx g cL_law RL nm (some .boolean) (rmk 13 601024 7293034 490)) (hO : No g) (hX : Scr g b L xs) (hL : L ≤ 3072) (hp : ∀ w, gP g (some (.int 1)) w) : ∀ n N : Nat, N + n = 512 → Go g b tc tm qo qd (6 * N) N
  | 0, N, h => law_head hG hO hX hL hp rfl (by omega) (fun _ q => absurd q (by omega))
  | n + 1, N, h => law_head hG hO hX hL hp rfl (by omega) (fun _ _ => law_go hG hO hX hL hp n (N + 1) (by omega))
set_option maxHeartbeats 1000000 in
set_option maxRecDepth 100000 in
theorem law_all {nm : String} {g : Cxt} {b L : Nat} {xs : Nat → Int32} (hG : Cx g cL_law RL nm (some .boolean) (rmk 13 601024 7293034 490)) (hO : No g) (hX : Scr g b L xs) (hL : L ≤ 3072) (hp : ∀ w, gP g (some (.int 1)) w) : X g (fun _ => none) 0 0 0 [some (.ref b), none, none, none, none, none, none, none, none] [] := by
  refine x_new hG (pc := 0) (1, 0, 0) nw_L_8 dL_law_0 (by rw [hG.mc]; exact Nat.le_of_ble_eq_true rfl) (by rw [hG.ms]; exact Nat.le_of_ble_eq_true rfl) (fun a hfa hna => ?_)
  refine x_gen (fun w1 e1 => ?_)
  refine x_dup hG (pc := 3) dL_law_3 rfl ?_
  refine x_callIN hG hO (pc := 4) [] c_X6_init lk_L_102 rfl rfl ⟨Nat.le_of_ble_eq_true rfl, Nat.le_of_ble_eq_true rfl⟩ (Nat.le_of_ble_eq_true rfl) (by rw [hG.mc]; exact Nat.le_of_ble_eq_true rfl) (by rw [hG.ms]; exact Nat.le_of_ble_eq_true rfl) dL_law_4 ?_
  refine ⟨a, rfl, (congrFun e1 a).trans wup_s, fun Lc w2 hth hRC hF2 => ?_⟩
  show X g w2 _ _ 7 _ [.ref a]
  refine x_astore_n hG (pc := 7) 1 dL_law_7 rfl (Nat.le_of_ble_eq_true rfl) rfl (by dsimp only [List.set]) ?_
  refine x_new hG (pc := 8) (50, 0, 0) nw_L_103 dL_law_8 (by rw [hG.mc]; exact Nat.le_of_ble_eq_true rfl) (by rw [hG.ms]; exact Nat.le_of_ble_eq_true rfl) (fun m hfm hnm => ?_)
  refine x_gen (fun w3 e3 => ?_)
  refine x_dup hG (pc := 11) dL_law_11 rfl ?_
  refine x_callIN hG hO (pc := 12) [] c_X7_init lk_L_105 rfl rfl ⟨Nat.le_of_ble_eq_true rfl, Nat.le_of_ble_eq_true rfl⟩ (Nat.le_of_ble_eq_true rfl) (by rw [hG.mc]; exact Nat.le_of_ble_eq_true rfl) (by rw [hG.ms]; exact Nat.le_of_ble_eq_true rfl) dL_law_12 ?_
  refine ⟨m, rfl, (congrFun e3 m).trans wup_s, fun Lm w4 hth2 hRM hF4 => ?_⟩
  have hRC4 : RepC (gΓ g) Lc S0 w4 := (hRC.mono (fun q x hq => (congrFun e3 q).trans (wup_f hfm hq))).frc hF4
  show X g w4 _ _ 15 _ [.ref m]
  refine x_astore_n hG (pc := 15) 2 dL_law_15 rfl (Nat.le_of_ble_eq_true rfl) rfl (by dsimp only [List.set]) ?_
  refine x_iconst hG (pc := 16) 1 dL_law_16 (by decide) ?_
  refine x_newL hG (pc := 17) (80, 0, 0) (by decide) (n := 1) rfl (by decide) dL_law_17 (by rw [hG.mc]; exact Nat.le_of_ble_eq_true rfl) (by rw [hG.ms]; exact Nat.le_of_ble_eq_true rfl) (fun qo hfo hno => ?_)
  refine x_gen (fun w5 e5 => ?_)
  refine x_astore_n hG (pc := 19) 3 dL_law_19 rfl (Nat.le_of_ble_eq_true rfl) rfl (by dsimp only [List.set]) ?_
  refine x_iconst hG (pc := 20) 1 dL_law_20 (by decide) ?_
  refine x_newD hG (pc := 21) (81, 0, 0) (by decide) (n := 1) rfl (by decide) dL_law_21 (by rw [hG.mc]; exact Nat.le_of_ble_eq_true rfl) (by rw [hG.ms]; exact Nat.le_of_ble_eq_true rfl) (fun qd hfd hnd => ?_)
  refine x_gen (fun w6 e6 => ?_)
  refine x_astore hG (pc := 23) dL_law_23 (Nat.le_of_ble_eq_true rfl) rfl (by dsimp only [List.set]) ?_
  refine x_iconst hG (pc := 25) 0 dL_law_25 (by decide) ?_
  refine x_istore hG (pc := 26) dL_law_26 (Nat.le_of_ble_eq_true rfl) rfl (by dsimp only [List.set]) ?_
  have up : ∀ (q : Nat) (x : Tg × va_E), w4 q = some x → w6 q = some x := fun q x hq => (congrFun e6 q).trans (wup_f hfd ((congrFun e5 q).trans (wup_f hfo hq)))
  have hd0 : (gl S0 0).toInt = 0 := rfl
  exact law_go hG hO hX hL hp 512 0 rfl Lc Lm S0 w6 _ _ none none none hth hth2 ⟨hRC4.mono up, hRM.keep (fun q x hq _ => up q x hq), Inv2.first, ⟨_, (congrFun e6 qo).trans (wup_f hfd ((congrFun e5 qo).trans wup_s))⟩, _, (congrFun e6 qd).trans wup_s⟩ (by rw [hd0]; exact Int.le_of_lt_add_one (by decide)) (Nat.le_of_ble_eq_true rfl)
