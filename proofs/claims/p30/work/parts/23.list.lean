/-! ArrayList: what it holds, and its members -/
abbrev aQ (K : Nat → ClassId) (n : Nat) (f : Nat → Option Nat) : va_E := .inl (K 1, n, .inr (.inr (.inr (.inr f))))
def lE (n : Nat) (el : Nat → Nat) : Nat → Option Nat := fun j => if j < n then some (el j) else none
abbrev oL (md : Int32) (e n : Nat) : va_E := .inr (1, [.int md, .ref e, .int (nI n)])
def AL (Γ : Gw) (w : Wd) (a : Nat) (t te : Tg) (e cap : Nat) (md : Int32) (n : Nat) (el : Nat → Nat) : Prop :=
  w a = some (t, oL md e n) ∧ ((10 ≤ cap ∧ n ≤ cap ∧ cap ≤ 30 ∧ w e = some (te, aQ Γ.2.1 cap (lE n el))) ∨ (cap = 0 ∧ n = 0 ∧ e = Γ.2.2.2.1))
theorem lE_at {n j : Nat} {el : Nat → Nat} (h : j < n) : lE n el j = some (el j) := if_pos h
theorem lE_put {n v : Nat} {el : Nat → Nat} : va_up (lE n el) n (some v) = lE (n + 1) (fun j => if j = n then v else el j) := by
  funext j
  unfold va_up lE
  by_cases h : j = n
  · subst h
    rw [if_pos rfl, if_pos (by omega)]
    show some v = some (if j = j then v else el j)
    rw [if_pos rfl]
  · rw [if_neg h]
    by_cases h2 : j < n
    · rw [if_pos h2, if_pos (by omega)]
      show some (el j) = some (if j = n then v else el j)
      rw [if_neg h]
    · rw [if_neg h2, if_neg (by omega)]
theorem lE_cpy {n cap : Nat} {el : Nat → Nat} (h : n ≤ cap) : va_cpy (lE n el) (fun _ => none) 0 0 cap = lE n el := by
  funext j
  unfold va_cpy lE
  by_cases h2 : j < cap
  · rw [if_pos (by omega)]
    simp
  · rw [if_neg (by omega), if_neg (by omega)]
theorem lE_0 {el : Nat → Nat} : (fun _ : Nat => (none : Option Nat)) = lE 0 el := by
  funext j
  rw [lE, if_neg (by omega)]
set_option maxRecDepth 100000 in
theorem ge_Jx4a65c_39 : Cond.fieldLink RJx4a65c 39 "java/util/ArrayList" "DEFAULTCAPACITY_EMPTY_ELEMENTDATA" "[Ljava/lang/Object;" ∈ TB := (TB_1 45 rfl rfl)
set_option maxRecDepth 100000 in
theorem fl_Jxc12de_7 : FL RJxc12de 7 1 0 := ⟨RJx4a65c, TJx4a65c, 3, "java/util/AbstractList", rfl, by decide, inJx4a65c, Or.inl (TB_1 49 rfl rfl), Or.inl rfl⟩
/-- a world that grew or changed but at two tags -/
def Fr2 (t te : Tg) (w w1 : Wd) : Prop := ∀ (b : Nat) (x : Tg × va_E), w b = some x → x.1 ≠ t → x.1 ≠ te → w1 b = some x
theorem pos10 {cap : Nat} (h : 10 ≤ cap) : 0 < cap := by omega
set_option maxHeartbeats 400000 in
set_option maxRecDepth 100000 in
theorem c_Jxa1e45_init_da8c8 : CtrA yJxa1e45_init_da8c8 cJxa1e45_init_da8c8 1 none (rmk 1 0 0 20) (fun Γ av w post _ => ∃ a, av = [.ref a] ∧ post none w) := by
  refine ctr_of (by decide) ?_
  rintro g av w hG hO ⟨a, rfl, hk⟩
  refine ⟨Nat.le_of_ble_eq_true rfl, ?_⟩
  show X g w 0 0 0 [some (.ref a)] []
  refine x_aload_n hG (pc := 0) 0 dJxa1e45_init_da8c8_0 rfl rfl ?_
  refine x_objInit hG (pc := 1) oi_Jxa1e45_1 oi_i oi_c dJxa1e45_init_da8c8_1 (by decide) (Nat.le_of_ble_eq_true rfl) (Nat.le_of_ble_eq_true rfl) ?_
  refine x_return hG (pc := 4) dJxa1e45_init_da8c8_4 rfl (by rw [hG.mc]; exact Nat.le_of_ble_eq_true rfl) (by rw [hG.ms]; exact Nat.le_of_ble_eq_true rfl) ?_
  exact hk
set_option maxHeartbeats 400000 in
set_option maxRecDepth 100000 in
theorem c_Jxc12de_init_da8c8 : CtrA yJxc12de_init_da8c8 cJxc12de_init_da8c8 1 none (rmk 2 0 0 40) (fun Γ av w post _ => ∃ a t e n md, av = [.ref a] ∧ w a = some (t, .inr (1, [.int md, e, n])) ∧ post none (wup w a (t, .inr (1, [.int 0, e, n])))) := by
  refine ctr_of (by decide) ?_
  rintro g av w hG hO ⟨a, t, e, n, md, rfl, ha, hk⟩
  refine ⟨Nat.le_of_ble_eq_true rfl, ?_⟩
  show X g w 0 0 0 [some (.ref a)] []
  refine x_aload_n hG (pc := 0) 0 dJxc12de_init_da8c8_0 rfl rfl ?_
  refine x_callI hG hO (pc := 1) [] c_Jxa1e45_init_da8c8 lk_Jxc12de_1 rfl rfl ⟨by decide, by decide⟩ (Nat.le_of_ble_eq_true rfl) (by rw [hG.mc]; exact Nat.le_of_ble_eq_true rfl) (by rw [hG.ms]; exact Nat.le_of_ble_eq_true rfl) dJxc12de_init_da8c8_1 ?_
  refine ⟨a, rfl, ?_⟩
  refine x_aload_n hG (pc := 4) 0 dJxc12de_init_da8c8_4 rfl rfl ?_
  refine x_iconst hG (pc := 5) 0 dJxc12de_init_da8c8_5 (by decide) ?_
  refine x_putf hG (pc := 6) fl_Jxc12de_7 fw_1 ft_1_0 (by first | assumption | exact hR.main) (Nat.le_of_ble_eq_true rfl) rfl rfl (by dsimp only [List.set]) dJxc12de_init_da8c8_6 ?_
  refine x_return hG (pc := 9) dJxc12de_init_da8c8_9 rfl (by rw [hG.mc]; exact Nat.le_of_ble_eq_true rfl) (by rw [hG.ms]; exact Nat.le_of_ble_eq_true rfl) ?_
  exact hk
set_option maxHeartbeats 400000 in
set_option maxRecDepth 100000 in
theorem c_Jx4a65c_init_da8c8 : CtrA yJx4a65c_init_da8c8 cJx4a65c_init_da8c8 1 none (rmk 3 0 0 60) (fun Γ av w post _ => ∃ a t e, av = [.ref a] ∧ w a = some (t, .inr (1, [.int 0, e, .int 0])) ∧ post none (wup w a (t, oL 0 Γ.2.2.2.1 0))) := by
  refine ctr_of (by decide) ?_
  rintro g av w hG hO ⟨a, t, e, rfl, ha, hk⟩
  refine ⟨Nat.le_of_ble_eq_true rfl, ?_⟩
  show X g w 0 0 0 [some (.ref a)] []
  refine x_aload_n hG (pc := 0) 0 dJx4a65c_init_da8c8_0 rfl rfl ?_
  refine x_callI hG hO (pc := 1) [] c_Jxc12de_init_da8c8 lk_Jx4a65c_1 rfl rfl ⟨by decide, by decide⟩ (Nat.le_of_ble_eq_true rfl) (by rw [hG.mc]; exact Nat.le_of_ble_eq_true rfl) (by rw [hG.ms]; exact Nat.le_of_ble_eq_true rfl) dJx4a65c_init_da8c8_1 ?_
  refine ⟨a, t, e, .int 0, 0, rfl, ha, ?_⟩
  refine x_gen (fun w1 e1 => ?_)
  have ha1 := (congrFun e1 a).trans wup_s
  refine x_aload_n hG (pc := 4) 0 dJx4a65c_init_da8c8_4 rfl rfl ?_
  refine x_gete0 hG (pc := 5) ge_Jx4a65c_39 dJx4a65c_init_da8c8_5 ?_
  refine x_putf hG (pc := 8) fl_Jx4a65c_9 fw_1 ft_1_1 (by first | assumption | exact hR.main) (Nat.le_of_ble_eq_true rfl) rfl rfl (by dsimp only [List.set]) dJx4a65c_init_da8c8_8 ?_
  refine x_return hG (pc := 11) dJx4a65c_init_da8c8_11 rfl (by rw [hG.mc]; exact Nat.le_of_ble_eq_true rfl) (by rw [hG.ms]; exact Nat.le_of_ble_eq_true rfl) ?_
  subst e1
  rw [wup_w]
  exact hk
set_option maxHeartbeats 400000 in
set_option maxRecDepth 100000 in
theorem c_Jx4a65c_size_8abf5 : CtrA yJx4a65c_size_8abf5 cJx4a65c_size_8abf5 1 (some .int) (rmk 0 0 0 0) (fun Γ av w post _ => ∃ a t md e n, av = [.ref a] ∧ w a = some (t, oL md e n) ∧ post (some (.int (nI n))) w) := by
  refine ctr_of (by decide) ?_
  rintro g av w hG hO ⟨a, t, md, e, n, rfl, ha, hk⟩
  refine ⟨Nat.le_of_ble_eq_true rfl, ?_⟩
  show X g w 0 0 0 [some (.ref a)] []
  refine x_aload_n hG (pc := 0) 0 dJx4a65c_size_8abf5_0 rfl rfl ?_
  refine x_getf hG (pc := 1) fl_Jx4a65c_48 (by first | assumption | exact hR.main) rfl dJx4a65c_size_8abf5_1 ?_
  refine x_ireturn hG (pc := 4) dJx4a65c_size_8abf5_4 rfl rfl (by rw [hG.mc]; exact Nat.le_of_ble_eq_true rfl) (by rw [hG.ms]; exact Nat.le_of_ble_eq_true rfl) ?_
  exact hk
set_option maxHeartbeats 400000 in
set_option maxRecDepth 100000 in
theorem c_Jx4a65c_elementData_915e3 : CtrA yJx4a65c_elementData_915e3 cJx4a65c_elementData_915e3 2 (some (.object "java/lang/Object")) (rmk 0 0 0 0) (fun Γ av w post _ => ∃ a t te e cap md n el i, av = [.ref a, .int (nI i)] ∧ AL Γ w a t te e cap md n el ∧ i < n ∧ post (some (.ref (el i))) w) := by
  refine ctr_of (by decide) ?_
  rintro g av w hG hO ⟨a, t, te, e, cap, md, n, el, i, rfl, ⟨ha, hc⟩, hi, hk⟩
  refine ⟨Nat.le_of_ble_eq_true rfl, ?_⟩
  show X g w 0 0 0 [some (.ref a), some (.int (nI i))] []
  obtain ⟨hc1, hc2, hc3, he⟩ : 10 ≤ cap ∧ n ≤ cap ∧ cap ≤ 30 ∧ w e = some (te, aQ (gK g) cap (lE n el)) := by
    rcases hc with h | ⟨h1, h2, h3⟩
    · exact h
    · omega
  refine x_aload_n hG (pc := 0) 0 dJx4a65c_elementData_915e3_0 rfl rfl ?_
  refine x_getf hG (pc := 1) fl_Jx4a65c_9 (by first | assumption | exact hR.main) rfl dJx4a65c_elementData_915e3_1 ?_
  refine x_iload_n hG (pc := 4) 1 dJx4a65c_elementData_915e3_4 rfl rfl ?_
  refine x_aaldO hG (pc := 5) he (vp_in_nI (by omega) (by omega)) dJx4a65c_elementData_915e3_5 ?_
  rw [nI_clamp (by omega), lE_at hi]
  show X g w _ _ _ _ [.ref (el i)]
  refine x_areturn hG (pc := 6) dJx4a65c_elementData_915e3_6 rfl (Or.inl ⟨_, rfl⟩) (by rw [hG.mc]; exact Nat.le_of_ble_eq_true rfl) (by rw [hG.ms]; exact Nat.le_of_ble_eq_true rfl) ?_
  exact hk
set_option maxHeartbeats 400000 in
set_option maxRecDepth 100000 in
theorem c_J3_checkIndex_8e157 : CtrA yJ3_checkIndex_8e157 cJ3_checkIndex_8e157 3 (some .int) (rmk 0 0 0 0) (fun Γ av w post _ => ∃ i n, av = [.int i, .int n, .null] ∧ ¬ i < 0 ∧ i < n ∧ post (some (.int i)) w) := by
  refine ctr_of (by decide) ?_
  rintro g av w hG hO ⟨i, n, rfl, p1, p2, hk⟩
  refine ⟨Nat.le_of_ble_eq_true rfl, ?_⟩
  show X g w 0 0 0 [some (.int i), some (.int n), some (.null)] []
  refine x_iload_n hG (pc := 0) 0 dJ3_checkIndex_8e157_0 rfl rfl ?_
  refine x_if_lt hG (pc := 1) 9 dJ3_checkIndex_8e157_1 (by decide) (fun h1 => ?_) (fun h1 => ?_)
  · exact absurd h1 p1
  · refine x_iload_n hG (pc := 4) 0 dJ3_checkIndex_8e157_4 rfl rfl ?_
    refine x_iload_n hG (pc := 5) 1 dJ3_checkIndex_8e157_5 rfl rfl ?_
    refine x_icmp_lt hG (pc := 6) 16 dJ3_checkIndex_8e157_6 (by decide) (fun h6 => ?_) (fun h6 => ?_)
    · refine x_iload_n hG (pc := 16) 0 dJ3_checkIndex_8e157_16 rfl rfl ?_
      refine x_ireturn hG (pc := 17) dJ3_checkIndex_8e157_17 rfl rfl (by rw [hG.mc]; exact Nat.le_of_ble_eq_true rfl) (by rw [hG.ms]; exact Nat.le_of_ble_eq_true rfl) ?_
      exact hk
    · exact absurd p2 h6
set_option maxHeartbeats 400000 in
set_option maxRecDepth 100000 in
theorem c_J15_checkIndex_7cf53 : CtrA yJ15_checkIndex_7cf53 cJ15_checkIndex_7cf53 2 (some .int) (rmk 1 0 0 22) (fun Γ av w post _ => ∃ i n, av = [.int i, .int n] ∧ ¬ i < 0 ∧ i < n ∧ post (some (.int i)) w) := by
  refine ctr_of (by decide) ?_
  rintro g av w hG hO ⟨i, n, rfl, h1, h2, hk⟩
  refine ⟨Nat.le_of_ble_eq_true rfl, ?_⟩
  show X g w 0 0 0 [some (.int i), some (.int n)] []
  refine x_iload_n hG (pc := 0) 0 dJ15_checkIndex_7cf53_0 rfl rfl ?_
  refine x_iload_n hG (pc := 1) 1 dJ15_checkIndex_7cf53_1 rfl rfl ?_
  refine x_null hG (pc := 2) dJ15_checkIndex_7cf53_2 ?_
  refine x_callS hG hO (pc := 3) [_, _, _] c_J3_checkIndex_8e157 lk_J15_105 rfl rfl ⟨by decide, by decide⟩ (Nat.le_of_ble_eq_true rfl) (by rw [hG.mc]; exact Nat.le_of_ble_eq_true rfl) (by rw [hG.ms]; exact Nat.le_of_ble_eq_true rfl) dJ15_checkIndex_7cf53_3 ?_
  refine ⟨i, n, rfl, h1, h2, ?_⟩
  refine x_ireturn hG (pc := 6) dJ15_checkIndex_7cf53_6 rfl rfl (by rw [hG.mc]; exact Nat.le_of_ble_eq_true rfl) (by rw [hG.ms]; exact Nat.le_of_ble_eq_true rfl) ?_
  exact hk
set_option maxHeartbeats 400000 in
set_option maxRecDepth 100000 in
theorem c_Jx4a65c_get_915e3 : CtrA yJx4a65c_get_915e3 cJx4a65c_get_915e3 2 (some (.object "java/lang/Object")) (rmk 2 0 0 43) (fun Γ av w post _ => ∃ a t te e cap md n el i, av = [.ref a, .int (nI i)] ∧ AL Γ w a t te e cap md n el ∧ i < n ∧ post (some (.ref (el i))) w) := by
  refine ctr_of (by decide) ?_
  rintro g av w hG hO ⟨a, t, te, e, cap, md, n, el, i, rfl, hA, hi, hk⟩
  refine ⟨Nat.le_of_ble_eq_true rfl, ?_⟩
  show X g w 0 0 0 [some (.ref a), some (.int (nI i))] []
  have ha := hA.1
  have hn : n ≤ 30 := by
    rcases hA.2 with h | h <;> omega
  refine x_iload_n hG (pc := 0) 1 dJx4a65c_get_915e3_0 rfl rfl ?_
  refine x_aload_n hG (pc := 1) 0 dJx4a65c_get_915e3_1 rfl rfl ?_
  refine x_getf hG (pc := 2) fl_Jx4a65c_48 (by first | assumption | exact hR.main) rfl dJx4a65c_get_915e3_2 ?_
  refine x_callS hG hO (pc := 5) [_, _] c_J15_checkIndex_7cf53 lk_Jx4a65c_118 rfl rfl ⟨by decide, by decide⟩ (Nat.le_of_ble_eq_true rfl) (by rw [hG.mc]; exact Nat.le_of_ble_eq_true rfl) (by rw [hG.ms]; exact Nat.le_of_ble_eq_true rfl) dJx4a65c_get_915e3_5 ?_
  refine ⟨_, _, rfl, nI_pos (by omega), nI_lt hi (by omega), ?_⟩
  refine x_pop hG (pc := 8) dJx4a65c_get_915e3_8 rfl ?_
  refine x_aload_n hG (pc := 9) 0 dJx4a65c_get_915e3_9 rfl rfl ?_
  refine x_iload_n hG (pc := 10) 1 dJx4a65c_get_915e3_10 rfl rfl ?_
  refine x_callV hG hO (pc := 11) [_] c_Jx4a65c_elementData_915e3 lk_Jx4a65c_123 (by first | assumption | exact hR.main) rfl rfl ⟨by decide, by decide⟩ (Nat.le_of_ble_eq_true rfl) (by rw [hG.mc]; exact Nat.le_of_ble_eq_true rfl) (by rw [hG.ms]; exact Nat.le_of_ble_eq_true rfl) dJx4a65c_get_915e3_11 ?_
  refine ⟨a, t, te, e, cap, md, n, el, i, rfl, hA, hi, ?_⟩
  refine x_areturn hG (pc := 14) dJx4a65c_get_915e3_14 rfl (Or.inl ⟨_, rfl⟩) (by rw [hG.mc]; exact Nat.le_of_ble_eq_true rfl) (by rw [hG.ms]; exact Nat.le_of_ble_eq_true rfl) ?_
  exact hk
theorem i_lt {a b : Nat} (h : a < b) (hb : b < 2 ^ 31) : ¬ nI b ≤ nI a := nI_ge h hb
theorem mx_nI {a b : Nat} (ha : a < 2 ^ 31) (hb : b < 2 ^ 31) : mx (nI a) (nI b) = nI (max a b) := by
  unfold mx
  by_cases h : a < b
  · rw [if_pos (nI_lt h hb), Nat.max_eq_right (by omega)]
  · rw [if_neg (nI_nlt (by omega) ha), Nat.max_eq_left (by omega)]
theorem mn_nI {a b : Nat} (ha : a < 2 ^ 31) (hb : b < 2 ^ 31) : mn (nI a) (nI b) = nI (min a b) := by
  unfold mn
  by_cases h : b < a
  · rw [if_pos (nI_lt h ha), Nat.min_eq_right (by omega)]
  · rw [if_neg (nI_nlt (by omega) hb), Nat.min_eq_left (by omega)]
theorem shr1 {n : Nat} (h : n < 2 ^ 31) : nI n >>> ((1 : Int32) &&& 31) = nI (n / 2) := by
  have k := pk_shrN h ((1 : Int32) &&& 31) 1 (by decide)
  rw [Nat.pow_one] at k
  exact k
theorem nI_lit (n : Nat) : (OfNat.ofNat n : Int32) = nI n := rfl
set_option maxHeartbeats 400000 in
set_option maxRecDepth 100000 in
theorem c_J8_newLength_cabcc : CtrA yJ8_newLength_cabcc cJ8_newLength_cabcc 4 (some .int) (rmk 1 0 0 33) (fun Γ av w post _ => ∃ a b c : Nat, av = [.int (nI a), .int (nI b), .int (nI c)] ∧ 0 < a ∧ a < 1000 ∧ b < 1000 ∧ c < 1000 ∧ post (some (.int (nI (a + max b c)))) w) := by
  refine ctr_of (by decide) ?_
  rintro g av w hG hO ⟨a, b, c, rfl, p1, p2, p3, p4, hk⟩
  refine ⟨Nat.le_of_ble_eq_true rfl, ?_⟩
  show X g w 0 0 0 [some (.int (nI a)), some (.int (nI b)), some (.int (nI c)), none] []
  refine x_iload_n hG (pc := 0) 0 dJ8_newLength_cabcc_0 rfl rfl ?_
  refine x_iload_n hG (pc := 1) 1 dJ8_newLength_cabcc_1 rfl rfl ?_
  refine x_iload_n hG (pc := 2) 2 dJ8_newLength_cabcc_2 rfl rfl ?_
  refine x_mmax hG (pc := 3) lk_J8_194 dJ8_newLength_cabcc_3 (by decide) (Nat.le_of_ble_eq_true rfl) (by rw [hG.mc]; exact Nat.le_of_ble_eq_true rfl) (by rw [hG.ms]; exact Nat.le_of_ble_eq_true rfl) ?_
  rw [mx_nI (by omega) (by omega)]
  refine x_iadd hG (pc := 6) dJ8_newLength_cabcc_6 ?_
  rw [nI_add]
  refine x_istore_n hG (pc := 7) 3 dJ8_newLength_cabcc_7 rfl (Nat.le_of_ble_eq_true rfl) rfl (by dsimp only [List.set]) ?_
  refine x_iconst hG (pc := 8) 0 dJ8_newLength_cabcc_8 (by decide) ?_
  refine x_iload_n hG (pc := 9) 3 dJ8_newLength_cabcc_9 rfl rfl ?_
  refine x_icmp_ge hG (pc := 10) 21 dJ8_newLength_cabcc_10 (by decide) (fun h10 => ?_) (fun h10 => ?_)
  · exact absurd h10 (nI_nle (by omega) (by omega))
  · refine x_iload_n hG (pc := 13) 3 dJ8_newLength_cabcc_13 rfl rfl ?_
    refine x_ldc hG (pc := 14) _ dJ8_newLength_cabcc_14 kc_J8_200 ?_
    refine x_icmp_gt hG (pc := 16) 21 dJ8_newLength_cabcc_16 (by decide) (fun h16 => ?_) (fun h16 => ?_)
    · exact absurd h16 (nI_nlt (a := 2147483639) (by omega) (by decide))
    · refine x_iload_n hG (pc := 19) 3 dJ8_newLength_cabcc_19 rfl rfl ?_
      refine x_ireturn hG (pc := 20) dJ8_newLength_cabcc_20 rfl rfl (by rw [hG.mc]; exact Nat.le_of_ble_eq_true rfl) (by rw [hG.ms]; exact Nat.le_of_ble_eq_true rfl) ?_
      exact hk
