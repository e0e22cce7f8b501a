/-! The reference: what is told, one -/
def NNo (f : Nat → Int32) : Prop := (0 ≤ (f 4).toInt ∧ (f 4).toInt ≤ 2000) ∧ ∀ j, j < nJ f → 0 ≤ (f (10 + 3 * j)).toInt ∧ 0 ≤ (f (11 + 3 * j)).toInt
def Inv2 (S : St) : Prop := Inv S ∧ (∀ n, n < nN S → NNo (gS S n)) ∧ ∀ n, n < nN S → ¬ gS S n 0 = 2 → gS S n 9 = 0
theorem is_t {x a b : Int32} (h : ¬ s_is x a b = 0) : ¬ x < a ∧ x ≤ b := by
  unfold s_is at h
  by_cases q : x < a
  · rw [if_pos q] at h
    exact absurd rfl h
  · rw [if_neg q] at h
    by_cases q2 : b < x
    · rw [if_pos q2] at h
      exact absurd rfl h
    · exact ⟨q, Int32.not_lt.mp q2⟩
theorem is_f {x a b : Int32} (h : s_is x a b = 0) : x < a ∨ (¬ x < a ∧ ¬ x ≤ b) := by
  unfold s_is at h
  by_cases q : x < a
  · exact Or.inl q
  · rw [if_neg q] at h
    by_cases q2 : b < x
    · exact Or.inr ⟨q, Int32.not_le.mpr q2⟩
    · rw [if_neg q2] at h
      exact absurd h (by decide)
theorem it_e {k n : Nat} (hk : k ≤ n) (hn : n < 2 ^ 31) (h : (if nI k = nI n then (0 : Int32) else 1) = 0) : k = n := by
  by_cases q : nI k = nI n
  · exact (nI_eq (by omega) hn).mp q
  · rw [if_neg q] at h
    exact absurd h (by decide)
theorem it_n {k n : Nat} (hk : k ≤ n) (h : ¬ (if nI k = nI n then (0 : Int32) else 1) = 0) : k < n := by
  rcases Nat.lt_or_ge k n with q | q
  · exact q
  · rw [if_pos (by rw [show k = n by omega])] at h
    exact absurd rfl h
theorem mk_bit {m e : Int32} (hm : m = 0 ∨ m = 1 ∨ m = 2 ∨ m = 3) (he : e = 0 ∨ e = 1) : (m >>> (e &&& 31)) &&& 1 = if e = 0 then mk1 m else mk2 m := by
  rcases hm with rfl | rfl | rfl | rfl <;> rcases he with rfl | rfl <;> decide
theorem mk_or {m e : Int32} (hm : m = 0 ∨ m = 1 ∨ m = 2 ∨ m = 3) (he : e = 0 ∨ e = 1) (h : (if e = 0 then mk1 m else mk2 m) = 0) : m ||| ((1 : Int32) <<< (e &&& 31)) = m + (if e = 0 then 1 else 2) ∧ ((m + (if e = 0 then 1 else 2)) = 0 ∨ (m + (if e = 0 then 1 else 2)) = 1 ∨ (m + (if e = 0 then 1 else 2)) = 2 ∨ (m + (if e = 0 then 1 else 2)) = 3) := by
  rcases hm with rfl | rfl | rfl | rfl <;> rcases he with rfl | rfl <;> revert h <;> decide
theorem ix01 {e : Int32} (h0 : ¬ e < 0) (h1 : e ≤ 1) : e = 0 ∨ e = 1 := by
  have a := mt Int32.lt_iff_toInt_lt.mpr h0
  have b := Int32.le_iff_toInt_le.mp h1
  simp at a b
  rcases (show e.toInt = 0 ∨ e.toInt = 1 by omega) with q | q
  · exact Or.inl (Int32.toInt_inj.mp q)
  · exact Or.inr (Int32.toInt_inj.mp q)
theorem bits3 {m : Int32} (hm : m = 0 ∨ m = 1 ∨ m = 2 ∨ m = 3) : (2 ≤ bits m ↔ m = 3) := by
  rcases hm with rfl | rfl | rfl | rfl <;> decide
theorem fee_le {d g : Int32} (hd : 0 ≤ d.toInt ∧ d.toInt ≤ 2000) (hg : 0 ≤ g.toInt ∧ g.toInt ≤ 2000) : 5 ≤ d - g ↔ g + 5 ≤ d := by
  rw [Int32.le_iff_toInt_le, Int32.le_iff_toInt_le, Int32.toInt_sub, Int32.toInt_add, Int.bmod_eq_of_le (by simp; omega) (by simp; omega), Int.bmod_eq_of_le (by simp; omega) (by simp; omega)]
  simp
  omega
set_option maxHeartbeats 400000 in
set_option maxRecDepth 100000 in
theorem c_J6_bitCount_0f7a4 : CtrA yJ6_bitCount_0f7a4 cJ6_bitCount_0f7a4 1 (some .int) (rmk 0 0 0 0) (fun Γ av w post _ => ∃ m, av = [.int m] ∧ (m = 0 ∨ m = 1 ∨ m = 2 ∨ m = 3) ∧ post (some (.int (bits m))) w) := by
  refine ctr_of (by decide) ?_
  rintro g av w hG hO ⟨m, rfl, hm, hk⟩
  refine ⟨Nat.le_of_ble_eq_true rfl, ?_⟩
  show X g w 0 0 0 [some (.int m)] []
  by_cases m0 : m = 0
  · have m0x := m0
    subst m0x
    refine x_iload_n hG (pc := 0) 0 dJ6_bitCount_0f7a4_0 rfl rfl ?_
    refine x_iload_n hG (pc := 1) 0 dJ6_bitCount_0f7a4_1 rfl rfl ?_
    refine x_iconst hG (pc := 2) 1 dJ6_bitCount_0f7a4_2 (by decide) ?_
    refine x_iushr hG (pc := 3) dJ6_bitCount_0f7a4_3 rfl ?_
    refine x_ldcw hG (pc := 4) _ dJ6_bitCount_0f7a4_4 kc_J6_265 ?_
    refine x_iand hG (pc := 7) dJ6_bitCount_0f7a4_7 ?_
    refine x_isub hG (pc := 8) dJ6_bitCount_0f7a4_8 ?_
    refine x_istore_n hG (pc := 9) 0 dJ6_bitCount_0f7a4_9 rfl (Nat.le_of_ble_eq_true rfl) rfl (by dsimp only [List.set]) ?_
    refine x_iload_n hG (pc := 10) 0 dJ6_bitCount_0f7a4_10 rfl rfl ?_
    refine x_ldcw hG (pc := 11) _ dJ6_bitCount_0f7a4_11 kc_J6_266 ?_
    refine x_iand hG (pc := 14) dJ6_bitCount_0f7a4_14 ?_
    refine x_iload_n hG (pc := 15) 0 dJ6_bitCount_0f7a4_15 rfl rfl ?_
    refine x_iconst hG (pc := 16) 2 dJ6_bitCount_0f7a4_16 (by decide) ?_
    refine x_iushr hG (pc := 17) dJ6_bitCount_0f7a4_17 rfl ?_
    refine x_ldcw hG (pc := 18) _ dJ6_bitCount_0f7a4_18 kc_J6_266 ?_
    refine x_iand hG (pc := 21) dJ6_bitCount_0f7a4_21 ?_
    refine x_iadd hG (pc := 22) dJ6_bitCount_0f7a4_22 ?_
    refine x_istore_n hG (pc := 23) 0 dJ6_bitCount_0f7a4_23 rfl (Nat.le_of_ble_eq_true rfl) rfl (by dsimp only [List.set]) ?_
    refine x_iload_n hG (pc := 24) 0 dJ6_bitCount_0f7a4_24 rfl rfl ?_
    refine x_iload_n hG (pc := 25) 0 dJ6_bitCount_0f7a4_25 rfl rfl ?_
    refine x_iconst hG (pc := 26) 4 dJ6_bitCount_0f7a4_26 (by decide) ?_
    refine x_iushr hG (pc := 27) dJ6_bitCount_0f7a4_27 rfl ?_
    refine x_iadd hG (pc := 28) dJ6_bitCount_0f7a4_28 ?_
    refine x_ldcw hG (pc := 29) _ dJ6_bitCount_0f7a4_29 kc_J6_267 ?_
    refine x_iand hG (pc := 32) dJ6_bitCount_0f7a4_32 ?_
    refine x_istore_n hG (pc := 33) 0 dJ6_bitCount_0f7a4_33 rfl (Nat.le_of_ble_eq_true rfl) rfl (by dsimp only [List.set]) ?_
    refine x_iload_n hG (pc := 34) 0 dJ6_bitCount_0f7a4_34 rfl rfl ?_
    refine x_iload_n hG (pc := 35) 0 dJ6_bitCount_0f7a4_35 rfl rfl ?_
    refine x_bipush hG (pc := 36) 8 dJ6_bitCount_0f7a4_36 (by decide) ?_
    refine x_iushr hG (pc := 38) dJ6_bitCount_0f7a4_38 rfl ?_
    refine x_iadd hG (pc := 39) dJ6_bitCount_0f7a4_39 ?_
    refine x_istore_n hG (pc := 40) 0 dJ6_bitCount_0f7a4_40 rfl (Nat.le_of_ble_eq_true rfl) rfl (by dsimp only [List.set]) ?_
    refine x_iload_n hG (pc := 41) 0 dJ6_bitCount_0f7a4_41 rfl rfl ?_
    refine x_iload_n hG (pc := 42) 0 dJ6_bitCount_0f7a4_42 rfl rfl ?_
    refine x_bipush hG (pc := 43) 16 dJ6_bitCount_0f7a4_43 (by decide) ?_
    refine x_iushr hG (pc := 45) dJ6_bitCount_0f7a4_45 rfl ?_
    refine x_iadd hG (pc := 46) dJ6_bitCount_0f7a4_46 ?_
    refine x_istore_n hG (pc := 47) 0 dJ6_bitCount_0f7a4_47 rfl (Nat.le_of_ble_eq_true rfl) rfl (by dsimp only [List.set]) ?_
    refine x_iload_n hG (pc := 48) 0 dJ6_bitCount_0f7a4_48 rfl rfl ?_
    refine x_bipush hG (pc := 49) 63 dJ6_bitCount_0f7a4_49 (by decide) ?_
    refine x_iand hG (pc := 51) dJ6_bitCount_0f7a4_51 ?_
    refine x_ireturn hG (pc := 52) dJ6_bitCount_0f7a4_52 rfl rfl (by rw [hG.mc]; exact Nat.le_of_ble_eq_true rfl) (by rw [hG.ms]; exact Nat.le_of_ble_eq_true rfl) ?_
    exact fin_i (by decide) hk
  · by_cases m1 : m = 1
    · have m1x := m1
      subst m1x
      refine x_iload_n hG (pc := 0) 0 dJ6_bitCount_0f7a4_0 rfl rfl ?_
      refine x_iload_n hG (pc := 1) 0 dJ6_bitCount_0f7a4_1 rfl rfl ?_
      refine x_iconst hG (pc := 2) 1 dJ6_bitCount_0f7a4_2 (by decide) ?_
      refine x_iushr hG (pc := 3) dJ6_bitCount_0f7a4_3 rfl ?_
      refine x_ldcw hG (pc := 4) _ dJ6_bitCount_0f7a4_4 kc_J6_265 ?_
      refine x_iand hG (pc := 7) dJ6_bitCount_0f7a4_7 ?_
      refine x_isub hG (pc := 8) dJ6_bitCount_0f7a4_8 ?_
      refine x_istore_n hG (pc := 9) 0 dJ6_bitCount_0f7a4_9 rfl (Nat.le_of_ble_eq_true rfl) rfl (by dsimp only [List.set]) ?_
      refine x_iload_n hG (pc := 10) 0 dJ6_bitCount_0f7a4_10 rfl rfl ?_
      refine x_ldcw hG (pc := 11) _ dJ6_bitCount_0f7a4_11 kc_J6_266 ?_
      refine x_iand hG (pc := 14) dJ6_bitCount_0f7a4_14 ?_
      refine x_iload_n hG (pc := 15) 0 dJ6_bitCount_0f7a4_15 rfl rfl ?_
      refine x_iconst hG (pc := 16) 2 dJ6_bitCount_0f7a4_16 (by decide) ?_
      refine x_iushr hG (pc := 17) dJ6_bitCount_0f7a4_17 rfl ?_
      refine x_ldcw hG (pc := 18) _ dJ6_bitCount_0f7a4_18 kc_J6_266 ?_
      refine x_iand hG (pc := 21) dJ6_bitCount_0f7a4_21 ?_
      refine x_iadd hG (pc := 22) dJ6_bitCount_0f7a4_22 ?_
      refine x_istore_n hG (pc := 23) 0 dJ6_bitCount_0f7a4_23 rfl (Nat.le_of_ble_eq_true rfl) rfl (by dsimp only [List.set]) ?_
      refine x_iload_n hG (pc := 24) 0 dJ6_bitCount_0f7a4_24 rfl rfl ?_
      refine x_iload_n hG (pc := 25) 0 dJ6_bitCount_0f7a4_25 rfl rfl ?_
      refine x_iconst hG (pc := 26) 4 dJ6_bitCount_0f7a4_26 (by decide) ?_
      refine x_iushr hG (pc := 27) dJ6_bitCount_0f7a4_27 rfl ?_
      refine x_iadd hG (pc := 28) dJ6_bitCount_0f7a4_28 ?_
      refine x_ldcw hG (pc := 29) _ dJ6_bitCount_0f7a4_29 kc_J6_267 ?_
      refine x_iand hG (pc := 32) dJ6_bitCount_0f7a4_32 ?_
      refine x_istore_n hG (pc := 33) 0 dJ6_bitCount_0f7a4_33 rfl (Nat.le_of_ble_eq_true rfl) rfl (by dsimp only [List.set]) ?_
      refine x_iload_n hG (pc := 34) 0 dJ6_bitCount_0f7a4_34 rfl rfl ?_
      refine x_iload_n hG (pc := 35) 0 dJ6_bitCount_0f7a4_35 rfl rfl ?_
      refine x_bipush hG (pc := 36) 8 dJ6_bitCount_0f7a4_36 (by decide) ?_
      refine x_iushr hG (pc := 38) dJ6_bitCount_0f7a4_38 rfl ?_
      refine x_iadd hG (pc := 39) dJ6_bitCount_0f7a4_39 ?_
      refine x_istore_n hG (pc := 40) 0 dJ6_bitCount_0f7a4_40 rfl (Nat.le_of_ble_eq_true rfl) rfl (by dsimp only [List.set]) ?_
      refine x_iload_n hG (pc := 41) 0 dJ6_bitCount_0f7a4_41 rfl rfl ?_
      refine x_iload_n hG (pc := 42) 0 dJ6_bitCount_0f7a4_42 rfl rfl ?_
      refine x_bipush hG (pc := 43) 16 dJ6_bitCount_0f7a4_43 (by decide) ?_
      refine x_iushr hG (pc := 45) dJ6_bitCount_0f7a4_45 rfl ?_
      refine x_iadd hG (pc := 46) dJ6_bitCount_0f7a4_46 ?_
      refine x_istore_n hG (pc := 47) 0 dJ6_bitCount_0f7a4_47 rfl (Nat.le_of_ble_eq_true rfl) rfl (by dsimp only [List.set]) ?_
      refine x_iload_n hG (pc := 48) 0 dJ6_bitCount_0f7a4_48 rfl rfl ?_
      refine x_bipush hG (pc := 49) 63 dJ6_bitCount_0f7a4_49 (by decide) ?_
      refine x_iand hG (pc := 51) dJ6_bitCount_0f7a4_51 ?_
      refine x_ireturn hG (pc := 52) dJ6_bitCount_0f7a4_52 rfl rfl (by rw [hG.mc]; exact Nat.le_of_ble_eq_true rfl) (by rw [hG.ms]; exact Nat.le_of_ble_eq_true rfl) ?_
      exact fin_i (by decide) hk
    · by_cases m2 : m = 2
      · have m2x := m2
        subst m2x
        refine x_iload_n hG (pc := 0) 0 dJ6_bitCount_0f7a4_0 rfl rfl ?_
        refine x_iload_n hG (pc := 1) 0 dJ6_bitCount_0f7a4_1 rfl rfl ?_
        refine x_iconst hG (pc := 2) 1 dJ6_bitCount_0f7a4_2 (by decide) ?_
        refine x_iushr hG (pc := 3) dJ6_bitCount_0f7a4_3 rfl ?_
        refine x_ldcw hG (pc := 4) _ dJ6_bitCount_0f7a4_4 kc_J6_265 ?_
        refine x_iand hG (pc := 7) dJ6_bitCount_0f7a4_7 ?_
        refine x_isub hG (pc := 8) dJ6_bitCount_0f7a4_8 ?_
        refine x_istore_n hG (pc := 9) 0 dJ6_bitCount_0f7a4_9 rfl (Nat.le_of_ble_eq_true rfl) rfl (by dsimp only [List.set]) ?_
        refine x_iload_n hG (pc := 10) 0 dJ6_bitCount_0f7a4_10 rfl rfl ?_
        refine x_ldcw hG (pc := 11) _ dJ6_bitCount_0f7a4_11 kc_J6_266 ?_
        refine x_iand hG (pc := 14) dJ6_bitCount_0f7a4_14 ?_
        refine x_iload_n hG (pc := 15) 0 dJ6_bitCount_0f7a4_15 rfl rfl ?_
        refine x_iconst hG (pc := 16) 2 dJ6_bitCount_0f7a4_16 (by decide) ?_
        refine x_iushr hG (pc := 17) dJ6_bitCount_0f7a4_17 rfl ?_
        refine x_ldcw hG (pc := 18) _ dJ6_bitCount_0f7a4_18 kc_J6_266 ?_
        refine x_iand hG (pc := 21) dJ6_bitCount_0f7a4_21 ?_
        refine x_iadd hG (pc := 22) dJ6_bitCount_0f7a4_22 ?_
        refine x_istore_n hG (pc := 23) 0 dJ6_bitCount_0f7a4_23 rfl (Nat.le_of_ble_eq_true rfl) rfl (by dsimp only [List.set]) ?_
        refine x_iload_n hG (pc := 24) 0 dJ6_bitCount_0f7a4_24 rfl rfl ?_
        refine x_iload_n hG (pc := 25) 0 dJ6_bitCount_0f7a4_25 rfl rfl ?_
        refine x_iconst hG (pc := 26) 4 dJ6_bitCount_0f7a4_26 (by decide) ?_
        refine x_iushr hG (pc := 27) dJ6_bitCount_0f7a4_27 rfl ?_
        refine x_iadd hG (pc := 28) dJ6_bitCount_0f7a4_28 ?_
        refine x_ldcw hG (pc := 29) _ dJ6_bitCount_0f7a4_29 kc_J6_267 ?_
        refine x_iand hG (pc := 32) dJ6_bitCount_0f7a4_32 ?_
        refine x_istore_n hG (pc := 33) 0 dJ6_bitCount_0f7a4_33 rfl (Nat.le_of_ble_eq_true rfl) rfl (by dsimp only [List.set]) ?_
        refine x_iload_n hG (pc := 34) 0 dJ6_bitCount_0f7a4_34 rfl rfl ?_
        refine x_iload_n hG (pc := 35) 0 dJ6_bitCount_0f7a4_35 rfl rfl ?_
        refine x_bipush hG (pc := 36) 8 dJ6_bitCount_0f7a4_36 (by decide) ?_
        refine x_iushr hG (pc := 38) dJ6_bitCount_0f7a4_38 rfl ?_
        refine x_iadd hG (pc := 39) dJ6_bitCount_0f7a4_39 ?_
        refine x_istore_n hG (pc := 40) 0 dJ6_bitCount_0f7a4_40 rfl (Nat.le_of_ble_eq_true rfl) rfl (by dsimp only [List.set]) ?_
        refine x_iload_n hG (pc := 41) 0 dJ6_bitCount_0f7a4_41 rfl rfl ?_
        refine x_iload_n hG (pc := 42) 0 dJ6_bitCount_0f7a4_42 rfl rfl ?_
        refine x_bipush hG (pc := 43) 16 dJ6_bitCount_0f7a4_43 (by decide) ?_
        refine x_iushr hG (pc := 45) dJ6_bitCount_0f7a4_45 rfl ?_
        refine x_iadd hG (pc := 46) dJ6_bitCount_0f7a4_46 ?_
        refine x_istore_n hG (pc := 47) 0 dJ6_bitCount_0f7a4_47 rfl (Nat.le_of_ble_eq_true rfl) rfl (by dsimp only [List.set]) ?_
        refine x_iload_n hG (pc := 48) 0 dJ6_bitCount_0f7a4_48 rfl rfl ?_
        refine x_bipush hG (pc := 49) 63 dJ6_bitCount_0f7a4_49 (by decide) ?_
        refine x_iand hG (pc := 51) dJ6_bitCount_0f7a4_51 ?_
        refine x_ireturn hG (pc := 52) dJ6_bitCount_0f7a4_52 rfl rfl (by rw [hG.mc]; exact Nat.le_of_ble_eq_true rfl) (by rw [hG.ms]; exact Nat.le_of_ble_eq_true rfl) ?_
        exact fin_i (by decide) hk
      · obtain rfl : m = 3 := ((hm.resolve_left m0).resolve_left m1).resolve_left m2
        refine x_iload_n hG (pc := 0) 0 dJ6_bitCount_0f7a4_0 rfl rfl ?_
        refine x_iload_n hG (pc := 1) 0 dJ6_bitCount_0f7a4_1 rfl rfl ?_
        refine x_iconst hG (pc := 2) 1 dJ6_bitCount_0f7a4_2 (by decide) ?_
        refine x_iushr hG (pc := 3) dJ6_bitCount_0f7a4_3 rfl ?_
        refine x_ldcw hG (pc := 4) _ dJ6_bitCount_0f7a4_4 kc_J6_265 ?_
        refine x_iand hG (pc := 7) dJ6_bitCount_0f7a4_7 ?_
        refine x_isub hG (pc := 8) dJ6_bitCount_0f7a4_8 ?_
        refine x_istore_n hG (pc := 9) 0 dJ6_bitCount_0f7a4_9 rfl (Nat.le_of_ble_eq_true rfl) rfl (by dsimp only [List.set]) ?_
        refine x_iload_n hG (pc := 10) 0 dJ6_bitCount_0f7a4_10 rfl rfl ?_
        refine x_ldcw hG (pc := 11) _ dJ6_bitCount_0f7a4_11 kc_J6_266 ?_
        refine x_iand hG (pc := 14) dJ6_bitCount_0f7a4_14 ?_
        refine x_iload_n hG (pc := 15) 0 dJ6_bitCount_0f7a4_15 rfl rfl ?_
        refine x_iconst hG (pc := 16) 2 dJ6_bitCount_0f7a4_16 (by decide) ?_
        refine x_iushr hG (pc := 17) dJ6_bitCount_0f7a4_17 rfl ?_
        refine x_ldcw hG (pc := 18) _ dJ6_bitCount_0f7a4_18 kc_J6_266 ?_
        refine x_iand hG (pc := 21) dJ6_bitCount_0f7a4_21 ?_
        refine x_iadd hG (pc := 22) dJ6_bitCount_0f7a4_22 ?_
        refine x_istore_n hG (pc := 23) 0 dJ6_bitCount_0f7a4_23 rfl (Nat.le_of_ble_eq_true rfl) rfl (by dsimp only [List.set]) ?_
        refine x_iload_n hG (pc := 24) 0 dJ6_bitCount_0f7a4_24 rfl rfl ?_
        refine x_iload_n hG (pc := 25) 0 dJ6_bitCount_0f7a4_25 rfl rfl ?_
        refine x_iconst hG (pc := 26) 4 dJ6_bitCount_0f7a4_26 (by decide) ?_
        refine x_iushr hG (pc := 27) dJ6_bitCount_0f7a4_27 rfl ?_
        refine x_iadd hG (pc := 28) dJ6_bitCount_0f7a4_28 ?_
        refine x_ldcw hG (pc := 29) _ dJ6_bitCount_0f7a4_29 kc_J6_267 ?_
        refine x_iand hG (pc := 32) dJ6_bitCount_0f7a4_32 ?_
        refine x_istore_n hG (pc := 33) 0 dJ6_bitCount_0f7a4_33 rfl (Nat.le_of_ble_eq_true rfl) rfl (by dsimp only [List.set]) ?_
        refine x_iload_n hG (pc := 34) 0 dJ6_bitCount_0f7a4_34 rfl rfl ?_
        refine x_iload_n hG (pc := 35) 0 dJ6_bitCount_0f7a4_35 rfl rfl ?_
        refine x_bipush hG (pc := 36) 8 dJ6_bitCount_0f7a4_36 (by decide) ?_
        refine x_iushr hG (pc := 38) dJ6_bitCount_0f7a4_38 rfl ?_
        refine x_iadd hG (pc := 39) dJ6_bitCount_0f7a4_39 ?_
        refine x_istore_n hG (pc := 40) 0 dJ6_bitCount_0f7a4_40 rfl (Nat.le_of_ble_eq_true rfl) rfl (by dsimp only [List.set]) ?_
        refine x_iload_n hG (pc := 41) 0 dJ6_bitCount_0f7a4_41 rfl rfl ?_
        refine x_iload_n hG (pc := 42) 0 dJ6_bitCount_0f7a4_42 rfl rfl ?_
        refine x_bipush hG (pc := 43) 16 dJ6_bitCount_0f7a4_43 (by decide) ?_
        refine x_iushr hG (pc := 45) dJ6_bitCount_0f7a4_45 rfl ?_
        refine x_iadd hG (pc := 46) dJ6_bitCount_0f7a4_46 ?_
        refine x_istore_n hG (pc := 47) 0 dJ6_bitCount_0f7a4_47 rfl (Nat.le_of_ble_eq_true rfl) rfl (by dsimp only [List.set]) ?_
        refine x_iload_n hG (pc := 48) 0 dJ6_bitCount_0f7a4_48 rfl rfl ?_
        refine x_bipush hG (pc := 49) 63 dJ6_bitCount_0f7a4_49 (by decide) ?_
        refine x_iand hG (pc := 51) dJ6_bitCount_0f7a4_51 ?_
        refine x_ireturn hG (pc := 52) dJ6_bitCount_0f7a4_52 rfl rfl (by rw [hG.mc]; exact Nat.le_of_ble_eq_true rfl) (by rw [hG.ms]; exact Nat.le_of_ble_eq_true rfl) ?_
        exact fin_i (by decide) hk
set_option maxHeartbeats 400000 in
set_option maxRecDepth 100000 in
theorem c_X7_curve : CtrA yX7_curve cX7_curve 4 (some .boolean) (rmk 2 0 0 42) (fun Γ av w post xpost => ∃ (L : LayM) (S : St), ∃ i b, av = [.ref (thM L), .int i, .int b] ∧ RepM Γ L S w ∧ Inv2 S ∧ (b = 0 ∨ b = 1) ∧ MOut Γ L w post (oCur S i b)) := by
  refine ctr_of (by decide) ?_
  rintro g av w hG hO ⟨L, S, i, b, rfl, hR, hI2, hb, hk⟩
  refine ⟨Nat.le_of_ble_eq_true rfl, ?_⟩
  show X g w 0 0 0 [some (.ref (thM L)), some (.int i), some (.int b), none] []
  have hI := hI2.1
  have hnM := hI.2.1.1
  have hnN := hI.2.1.2.1
  have hnE := hI.2.1.2.2
  refine x_aload_n hG (pc := 0) 0 dX7_curve_0 rfl rfl ?_
  refine x_iload_n hG (pc := 1) 1 dX7_curve_1 rfl rfl ?_
  refine x_callS hG hO (pc := 2) [_] c_X7_isSection lk_X7_72 rfl rfl ⟨by decide, by decide⟩ (Nat.le_of_ble_eq_true rfl) (by rw [hG.mc]; exact Nat.le_of_ble_eq_true rfl) (by rw [hG.ms]; exact Nat.le_of_ble_eq_true rfl) dX7_curve_2 ?_
  refine ⟨_, rfl, ?_⟩
  refine x_if_eq hG (pc := 5) 12 dX7_curve_5 (by decide) (fun h5 => ?_) (fun h5 => ?_)
  · have hx := sIx_0 h5
    refine x_iconst hG (pc := 12) 1 dX7_curve_12 (by decide) ?_
    refine x_putf hG (pc := 13) fl_X7_31 fw_9 ft_9_0 hR.main (Nat.le_of_ble_eq_true rfl) rfl rfl (by dsimp only [List.set]) dX7_curve_13 ?_
    refine x_gen (fun w0 e0 => ?_)
    obtain ⟨hR0, hF0⟩ := hR.uT (t := 1) e0
    refine x_aload_n hG (pc := 16) 0 dX7_curve_16 rfl rfl ?_
    refine x_getf hG (pc := 17) fl_X7_31 hR0.main rfl dX7_curve_17 ?_
    refine x_if_le hG (pc := 20) 25 dX7_curve_20 (by decide) (fun h20 => ?_) (fun h20 => ?_)
    · exact absurd (show (1 : Int32) ≤ 0 from h20) (by decide)
    · refine x_iconst hG (pc := 23) 0 dX7_curve_23 (by decide) ?_
      refine x_ireturn hG (pc := 24) dX7_curve_24 rfl rfl (by rw [hG.mc]; exact Nat.le_of_ble_eq_true rfl) (by rw [hG.ms]; exact Nat.le_of_ble_eq_true rfl) ?_
      exact hk.ok (k := 1) (v := 0) (S1 := S) (by simp only [oCur, hx, ↓reduceIte]) hR0 hF0
  · obtain ⟨k, hx⟩ := sIx_1 h5
    obtain ⟨hkn, rfl⟩ := ixO_some hx (by omega)
    refine x_iconst hG (pc := 8) 0 dX7_curve_8 (by decide) ?_
    refine x_goto hG (pc := 9) 13 dX7_curve_9 (by decide) ?_
    refine x_putf hG (pc := 13) fl_X7_31 fw_9 ft_9_0 hR.main (Nat.le_of_ble_eq_true rfl) rfl rfl (by dsimp only [List.set]) dX7_curve_13 ?_
    refine x_gen (fun w0 e0 => ?_)
    obtain ⟨hR0, hF0⟩ := hR.uT (t := 0) e0
    refine x_aload_n hG (pc := 16) 0 dX7_curve_16 rfl rfl ?_
    refine x_getf hG (pc := 17) fl_X7_31 hR0.main rfl dX7_curve_17 ?_
    refine x_if_le hG (pc := 20) 25 dX7_curve_20 (by decide) (fun h20 => ?_) (fun h20 => ?_)
    · refine x_aload_n hG (pc := 25) 0 dX7_curve_25 rfl rfl ?_
      refine x_getf hG (pc := 26) fl_X7_11 hR0.main rfl dX7_curve_26 ?_
      refine x_iload_n hG (pc := 29) 1 dX7_curve_29 rfl rfl ?_
      refine x_aaldI hG (pc := 30) hR0.secs (vp_in_nI hkn (by decide)) dX7_curve_30 ?_
      rw [nI_clamp (by omega), lE_at hkn]
      show X g _ _ _ _ _ (.ref (L.1 (52, k, 0)) :: _)
      refine x_iconst hG (pc := 31) 5 dX7_curve_31 (by decide) ?_
      refine x_ialdN hG (pc := 32) (c := 5) (hR0.sec hkn) (by decide) dX7_curve_32 ?_
      refine x_iconst hG (pc := 33) 1 dX7_curve_33 (by decide) ?_
      refine x_icmp_ne hG (pc := 34) 41 dX7_curve_34 (by decide) (fun h34 => ?_) (fun h34 => ?_)
      · refine x_iconst hG (pc := 41) 0 dX7_curve_41 (by decide) ?_
        refine x_istore_n hG (pc := 42) 3 dX7_curve_42 rfl (Nat.le_of_ble_eq_true rfl) rfl (by dsimp only [List.set]) ?_
        refine x_aload_n hG (pc := 43) 0 dX7_curve_43 rfl rfl ?_
        refine x_getf hG (pc := 44) fl_X7_11 hR0.main rfl dX7_curve_44 ?_
        refine x_iload_n hG (pc := 47) 1 dX7_curve_47 rfl rfl ?_
        refine x_aaldI hG (pc := 48) hR0.secs (vp_in_nI hkn (by decide)) dX7_curve_48 ?_
        rw [nI_clamp (by omega), lE_at hkn]
        show X g _ _ _ _ _ (.ref (L.1 (52, k, 0)) :: _)
        refine x_iconst hG (pc := 49) 5 dX7_curve_49 (by decide) ?_
        refine x_iload_n hG (pc := 50) 2 dX7_curve_50 rfl rfl ?_
        refine x_if_eq hG (pc := 51) 58 dX7_curve_51 (by decide) (fun h51 => ?_) (fun h51 => ?_)
        · refine x_iconst hG (pc := 58) 0 dX7_curve_58 (by decide) ?_
          refine x_iastN hG (pc := 59) (c := 5) (hR0.sec hkn) (by decide) dX7_curve_59 ?_
          refine x_gen (fun w1 e1 => ?_)
          obtain ⟨hR1, hF1⟩ := hR0.uS hkn (f := rset (sS S k) 5 0) e1
          refine x_iload_n hG (pc := 60) 3 dX7_curve_60 rfl rfl ?_
          refine x_ireturn hG (pc := 61) dX7_curve_61 rfl rfl (by rw [hG.mc]; exact Nat.le_of_ble_eq_true rfl) (by rw [hG.ms]; exact Nat.le_of_ble_eq_true rfl) ?_
          have e5 : sS S k 5 = 0 := (hI.1 k hkn).2.2.1.resolve_right h34
          have eb : b = 0 := h51
          exact hk.ok (k := 0) (v := 0) (S1 := setS S k (rset (sS S k) 5 0)) (by simp only [oCur, hx, e5, eb]) hR1 (hF0.tr hF1)
        · refine x_iconst hG (pc := 54) 1 dX7_curve_54 (by decide) ?_
          refine x_goto hG (pc := 55) 59 dX7_curve_55 (by decide) ?_
          refine x_iastN hG (pc := 59) (c := 5) (hR0.sec hkn) (by decide) dX7_curve_59 ?_
          refine x_gen (fun w1 e1 => ?_)
          obtain ⟨hR1, hF1⟩ := hR0.uS hkn (f := rset (sS S k) 5 1) e1
          refine x_iload_n hG (pc := 60) 3 dX7_curve_60 rfl rfl ?_
          refine x_ireturn hG (pc := 61) dX7_curve_61 rfl rfl (by rw [hG.mc]; exact Nat.le_of_ble_eq_true rfl) (by rw [hG.ms]; exact Nat.le_of_ble_eq_true rfl) ?_
          have e5 : sS S k 5 = 0 := (hI.1 k hkn).2.2.1.resolve_right h34
          have eb : b = 1 := hb.resolve_left h51
          exact hk.ok (k := 0) (v := 0) (S1 := setS S k (rset (sS S k) 5 1)) (by simp only [oCur, hx, e5, eb]) hR1 (hF0.tr hF1)
      · refine x_iconst hG (pc := 37) 1 dX7_curve_37 (by decide) ?_
        refine x_goto hG (pc := 38) 42 dX7_curve_38 (by decide) ?_
        refine x_istore_n hG (pc := 42) 3 dX7_curve_42 rfl (Nat.le_of_ble_eq_true rfl) rfl (by dsimp only [List.set]) ?_
        refine x_aload_n hG (pc := 43) 0 dX7_curve_43 rfl rfl ?_
        refine x_getf hG (pc := 44) fl_X7_11 hR0.main rfl dX7_curve_44 ?_
        refine x_iload_n hG (pc := 47) 1 dX7_curve_47 rfl rfl ?_
        refine x_aaldI hG (pc := 48) hR0.secs (vp_in_nI hkn (by decide)) dX7_curve_48 ?_
        rw [nI_clamp (by omega), lE_at hkn]
        show X g _ _ _ _ _ (.ref (L.1 (52, k, 0)) :: _)
        refine x_iconst hG (pc := 49) 5 dX7_curve_49 (by decide) ?_
        refine x_iload_n hG (pc := 50) 2 dX7_curve_50 rfl rfl ?_
        refine x_if_eq hG (pc := 51) 58 dX7_curve_51 (by decide) (fun h51 => ?_) (fun h51 => ?_)
        · refine x_iconst hG (pc := 58) 0 dX7_curve_58 (by decide) ?_
          refine x_iastN hG (pc := 59) (c := 5) (hR0.sec hkn) (by decide) dX7_curve_59 ?_
          refine x_gen (fun w1 e1 => ?_)
          obtain ⟨hR1, hF1⟩ := hR0.uS hkn (f := rset (sS S k) 5 0) e1
          refine x_iload_n hG (pc := 60) 3 dX7_curve_60 rfl rfl ?_
          refine x_ireturn hG (pc := 61) dX7_curve_61 rfl rfl (by rw [hG.mc]; exact Nat.le_of_ble_eq_true rfl) (by rw [hG.ms]; exact Nat.le_of_ble_eq_true rfl) ?_
          have e5 : sS S k 5 = 1 := h34
          have eb : b = 0 := h51
          exact hk.ok (k := 0) (v := 1) (S1 := setS S k (rset (sS S k) 5 0)) (by simp only [oCur, hx, e5, eb]) hR1 (hF0.tr hF1)
        · refine x_iconst hG (pc := 54) 1 dX7_curve_54 (by decide) ?_
          refine x_goto hG (pc := 55) 59 dX7_curve_55 (by decide) ?_
          refine x_iastN hG (pc := 59) (c := 5) (hR0.sec hkn) (by decide) dX7_curve_59 ?_
          refine x_gen (fun w1 e1 => ?_)
          obtain ⟨hR1, hF1⟩ := hR0.uS hkn (f := rset (sS S k) 5 1) e1
          refine x_iload_n hG (pc := 60) 3 dX7_curve_60 rfl rfl ?_
          refine x_ireturn hG (pc := 61) dX7_curve_61 rfl rfl (by rw [hG.mc]; exact Nat.le_of_ble_eq_true rfl) (by rw [hG.ms]; exact Nat.le_of_ble_eq_true rfl) ?_
          have e5 : sS S k 5 = 1 := h34
          have eb : b = 1 := hb.resolve_left h51
          exact hk.ok (k := 0) (v := 1) (S1 := setS S k (rset (sS S k) 5 1)) (by simp only [oCur, hx, e5, eb]) hR1 (hF0.tr hF1)
    · exact absurd (show (0 : Int32) ≤ 0 by decide) h20
set_option maxHeartbeats 400000 in
set_option maxRecDepth 100000 in
theorem c_X7_sign : CtrA yX7_sign cX7_sign 4 (some .int) (rmk 2 0 0 42) (fun Γ av w post xpost => ∃ (L : LayM) (S : St), ∃ i v, av = [.ref (thM L), .int i, .int v] ∧ RepM Γ L S w ∧ Inv2 S ∧ MOut Γ L w post (oSig S i v)) := by
  refine ctr_of (by decide) ?_
  rintro g av w hG hO ⟨L, S, i, v, rfl, hR, hI2, hk⟩
  refine ⟨Nat.le_of_ble_eq_true rfl, ?_⟩
  show X g w 0 0 0 [some (.ref (thM L)), some (.int i), some (.int v), none] []
  have hI := hI2.1
  have hnM := hI.2.1.1
  have hnN := hI.2.1.2.1
  have hnE := hI.2.1.2.2
  refine x_aload_n hG (pc := 0) 0 dX7_sign_0 rfl rfl ?_
  refine x_iconst hG (pc := 1) 0 dX7_sign_1 (by decide) ?_
  refine x_putf hG (pc := 2) fl_X7_31 fw_9 ft_9_0 hR.main (Nat.le_of_ble_eq_true rfl) rfl rfl (by dsimp only [List.set]) dX7_sign_2 ?_
  refine x_gen (fun w0 e0 => ?_)
  obtain ⟨hR0, hF0⟩ := hR.uT e0
  refine x_iload_n hG (pc := 5) 1 dX7_sign_5 rfl rfl ?_
  refine x_callS hG hO (pc := 6) [_] c_X7_isSection lk_X7_72 rfl rfl ⟨by decide, by decide⟩ (Nat.le_of_ble_eq_true rfl) (by rw [hG.mc]; exact Nat.le_of_ble_eq_true rfl) (by rw [hG.ms]; exact Nat.le_of_ble_eq_true rfl) dX7_sign_6 ?_
  refine ⟨_, rfl, ?_⟩
  refine x_if_ne hG (pc := 9) 18 dX7_sign_9 (by decide) (fun h9 => ?_) (fun h9 => ?_)
  · obtain ⟨k, hx⟩ := sIx_1 h9
    obtain ⟨hkn, rfl⟩ := ixO_some hx (by omega)
    refine x_iload_n hG (pc := 18) 2 dX7_sign_18 rfl rfl ?_
    refine x_iconst hG (pc := 19) 0 dX7_sign_19 (by decide) ?_
    refine x_sipush hG (pc := 20) 160 dX7_sign_20 (by decide) ?_
    refine x_callS hG hO (pc := 23) [_, _, _] c_X7_is lk_X7_68 rfl rfl ⟨by decide, by decide⟩ (Nat.le_of_ble_eq_true rfl) (by rw [hG.mc]; exact Nat.le_of_ble_eq_true rfl) (by rw [hG.ms]; exact Nat.le_of_ble_eq_true rfl) dX7_sign_23 ?_
    refine ⟨_, _, _, rfl, ?_⟩
    refine x_if_ne hG (pc := 26) 35 dX7_sign_26 (by decide) (fun h26 => ?_) (fun h26 => ?_)
    · obtain ⟨i26a, i26b⟩ := is_t h26
      refine x_aload_n hG (pc := 35) 0 dX7_sign_35 rfl rfl ?_
      refine x_getf hG (pc := 36) fl_X7_11 hR0.main rfl dX7_sign_36 ?_
      refine x_iload_n hG (pc := 39) 1 dX7_sign_39 rfl rfl ?_
      refine x_aaldI hG (pc := 40) hR0.secs (vp_in_nI hkn (by decide)) dX7_sign_40 ?_
      rw [nI_clamp (by omega), lE_at hkn]
      show X g _ _ _ _ _ (.ref (L.1 (52, k, 0)) :: _)
      refine x_bipush hG (pc := 41) 6 dX7_sign_41 (by decide) ?_
      refine x_ialdN hG (pc := 43) (c := 6) (hR0.sec hkn) (by decide) dX7_sign_43 ?_
      refine x_istore_n hG (pc := 44) 3 dX7_sign_44 rfl (Nat.le_of_ble_eq_true rfl) rfl (by dsimp only [List.set]) ?_
      refine x_aload_n hG (pc := 45) 0 dX7_sign_45 rfl rfl ?_
      refine x_getf hG (pc := 46) fl_X7_11 hR0.main rfl dX7_sign_46 ?_
      refine x_iload_n hG (pc := 49) 1 dX7_sign_49 rfl rfl ?_
      refine x_aaldI hG (pc := 50) hR0.secs (vp_in_nI hkn (by decide)) dX7_sign_50 ?_
      rw [nI_clamp (by omega), lE_at hkn]
      show X g _ _ _ _ _ (.ref (L.1 (52, k, 0)) :: _)
      refine x_bipush hG (pc := 51) 6 dX7_sign_51 (by decide) ?_
      refine x_iload_n hG (pc := 53) 2 dX7_sign_53 rfl rfl ?_
      refine x_iastN hG (pc := 54) (c := 6) (hR0.sec hkn) (by decide) dX7_sign_54 ?_
      refine x_gen (fun w1 e1 => ?_)
      obtain ⟨hR1, hF1⟩ := hR0.uS hkn (f := rset (sS S k) 6 v) e1
      refine x_iload_n hG (pc := 55) 3 dX7_sign_55 rfl rfl ?_
      refine x_ireturn hG (pc := 56) dX7_sign_56 rfl rfl (by rw [hG.mc]; exact Nat.le_of_ble_eq_true rfl) (by rw [hG.ms]; exact Nat.le_of_ble_eq_true rfl) ?_
      exact hk.ok (k := 0) (v := sS S k 6) (S1 := setS S k (rset (sS S k) 6 v)) (by simp only [oSig, hx, i26a, i26b, ↓reduceIte]) hR1 (hF0.tr hF1)
    · refine x_aload_n hG (pc := 29) 0 dX7_sign_29 rfl rfl ?_
      refine x_iconst hG (pc := 30) 2 dX7_sign_30 (by decide) ?_
      refine x_callV hG hO (pc := 31) [_] c_X7_refuse lk_X7_76 hR0.main rfl rfl ⟨by decide, by decide⟩ (Nat.le_of_ble_eq_true rfl) (by rw [hG.mc]; exact Nat.le_of_ble_eq_true rfl) (by rw [hG.ms]; exact Nat.le_of_ble_eq_true rfl) dX7_sign_31 ?_
      refine ⟨_, _, 2, rfl, hR0, fun wr hRr hFr => ?_⟩
      refine x_ireturn hG (pc := 34) dX7_sign_34 rfl rfl (by rw [hG.mc]; exact Nat.le_of_ble_eq_true rfl) (by rw [hG.ms]; exact Nat.le_of_ble_eq_true rfl) ?_
      exact hk.ok (k := 2) (v := 0) (S1 := S) (by
        rcases is_f h26 with q | ⟨q, q2⟩
        · simp only [oSig, hx, q, ↓reduceIte]
        · simp only [oSig, hx, q, q2, ↓reduceIte]) hRr (hF0.tr hFr)
  · have hx := sIx_0 h9
    refine x_aload_n hG (pc := 12) 0 dX7_sign_12 rfl rfl ?_
    refine x_iconst hG (pc := 13) 1 dX7_sign_13 (by decide) ?_
    refine x_callV hG hO (pc := 14) [_] c_X7_refuse lk_X7_76 hR0.main rfl rfl ⟨by decide, by decide⟩ (Nat.le_of_ble_eq_true rfl) (by rw [hG.mc]; exact Nat.le_of_ble_eq_true rfl) (by rw [hG.ms]; exact Nat.le_of_ble_eq_true rfl) dX7_sign_14 ?_
    refine ⟨_, _, 1, rfl, hR0, fun wr hRr hFr => ?_⟩
    refine x_ireturn hG (pc := 17) dX7_sign_17 rfl rfl (by rw [hG.mc]; exact Nat.le_of_ble_eq_true rfl) (by rw [hG.ms]; exact Nat.le_of_ble_eq_true rfl) ?_
    exact hk.ok (k := 1) (v := 0) (S1 := S) (by simp only [oSig, hx, ↓reduceIte]) hRr (hF0.tr hFr)
set_option maxHeartbeats 400000 in
set_option maxRecDepth 100000 in
theorem c_X7_align : CtrA yX7_align cX7_align 3 (some .int) (rmk 3 0 0 64) (fun Γ av w post xpost => ∃ (L : LayM) (S : St), ∃ m, av = [.ref (thM L), .int m] ∧ RepM Γ L S w ∧ Inv2 S ∧ MOut Γ L w post (oAli S m)) := by
  refine ctr_of (by decide) ?_
  rintro g av w hG hO ⟨L, S, m, rfl, hR, hI2, hk⟩
  refine ⟨Nat.le_of_ble_eq_true rfl, ?_⟩
  show X g w 0 0 0 [some (.ref (thM L)), some (.int m), none] []
  have hI := hI2.1
  have hnM := hI.2.1.1
  have hnN := hI.2.1.2.1
  have hnE := hI.2.1.2.2
  refine x_aload_n hG (pc := 0) 0 dX7_align_0 rfl rfl ?_
  refine x_iconst hG (pc := 1) 0 dX7_align_1 (by decide) ?_
  refine x_putf hG (pc := 2) fl_X7_31 fw_9 ft_9_0 hR.main (Nat.le_of_ble_eq_true rfl) rfl rfl (by dsimp only [List.set]) dX7_align_2 ?_
  refine x_gen (fun w0 e0 => ?_)
  obtain ⟨hR0, hF0⟩ := hR.uT e0
  refine x_iload_n hG (pc := 5) 1 dX7_align_5 rfl rfl ?_
  refine x_iconst hG (pc := 6) 0 dX7_align_6 (by decide) ?_
  refine x_aload_n hG (pc := 7) 0 dX7_align_7 rfl rfl ?_
  refine x_getf hG (pc := 8) fl_X7_24 hR0.main rfl dX7_align_8 ?_
  refine x_callV hG hO (pc := 11) [] c_Jx4a65c_size_8abf5 lk_X7_64 (hR0.lst (id := 0) (by decide)).1 rfl rfl ⟨by decide, by decide⟩ (Nat.le_of_ble_eq_true rfl) (by rw [hG.mc]; exact Nat.le_of_ble_eq_true rfl) (by rw [hG.ms]; exact Nat.le_of_ble_eq_true rfl) dX7_align_11 ?_
  refine ⟨_, _, _, _, _, rfl, (hR0.lst (id := 0) (by decide)).1, ?_⟩
  show X g _ _ _ _ _ (.int (nI (nE S)) :: _)
  refine x_iconst hG (pc := 14) 1 dX7_align_14 (by decide) ?_
  refine x_isub hG (pc := 15) dX7_align_15 ?_
  rw [i1_st]
  refine x_callS hG hO (pc := 16) [_, _, _] c_X7_is lk_X7_68 rfl rfl ⟨by decide, by decide⟩ (Nat.le_of_ble_eq_true rfl) (by rw [hG.mc]; exact Nat.le_of_ble_eq_true rfl) (by rw [hG.ms]; exact Nat.le_of_ble_eq_true rfl) dX7_align_16 ?_
  refine ⟨m, _, _, rfl, ?_⟩
  rw [s_is_ix (by omega)]
  refine x_if_ne hG (pc := 19) 28 dX7_align_19 (by decide) (fun h19 => ?_) (fun h19 => ?_)
  · obtain ⟨k, hx⟩ := sIx_1 h19
    obtain ⟨hkn, rfl⟩ := ixO_some hx (by omega)
    refine x_aload_n hG (pc := 28) 0 dX7_align_28 rfl rfl ?_
    refine x_getf hG (pc := 29) fl_X7_24 hR0.main rfl dX7_align_29 ?_
    refine x_iload_n hG (pc := 32) 1 dX7_align_32 rfl rfl ?_
    refine x_callV hG hO (pc := 33) [_] c_Jx4a65c_get_915e3 lk_X7_52 (hR0.lst (id := 0) (by decide)).1 rfl rfl ⟨by decide, by decide⟩ (Nat.le_of_ble_eq_true rfl) (by rw [hG.mc]; exact Nat.le_of_ble_eq_true rfl) (by rw [hG.ms]; exact Nat.le_of_ble_eq_true rfl) dX7_align_33 ?_
    refine ⟨_, _, _, _, _, _, _, _, k, rfl, (hR0.lst (id := 0) (by decide)), hkn, ?_⟩
    show X g _ _ _ _ _ (.ref (L.1 (55, k, 0)) :: _)
    refine x_castI hG (pc := 36) ckl_X7_56 (hR0.mea hkn) dX7_align_36 ?_
    refine x_astore_n hG (pc := 39) 2 dX7_align_39 rfl (Nat.le_of_ble_eq_true rfl) rfl (by dsimp only [List.set]) ?_
    refine x_aload_n hG (pc := 40) 2 dX7_align_40 rfl rfl ?_
    refine x_iconst hG (pc := 41) 4 dX7_align_41 (by decide) ?_
    refine x_ialdN hG (pc := 42) (c := 4) (hR0.mea hkn) (by decide) dX7_align_42 ?_
    refine x_iconst hG (pc := 43) 1 dX7_align_43 (by decide) ?_
    refine x_icmp_ne hG (pc := 44) 53 dX7_align_44 (by decide) (fun h44 => ?_) (fun h44 => ?_)
    · have e4 : eS S k 4 = 0 := (hI.2.2.2.2.1 k hkn).1.resolve_right h44
      refine x_aload_n hG (pc := 53) 2 dX7_align_53 rfl rfl ?_
      refine x_iconst hG (pc := 54) 4 dX7_align_54 (by decide) ?_
      refine x_iconst hG (pc := 55) 1 dX7_align_55 (by decide) ?_
      refine x_iastN hG (pc := 56) (c := 4) (hR0.mea hkn) (by decide) dX7_align_56 ?_
      refine x_gen (fun w1 e1 => ?_)
      obtain ⟨hR1, hF1⟩ := hR0.uE hkn (f := rset (eS S k) 4 1) e1
      have hc1 := (congrFun e1 _).trans wup_s
      refine x_aload_n hG (pc := 57) 2 dX7_align_57 rfl rfl ?_
      refine x_iconst hG (pc := 58) 3 dX7_align_58 (by decide) ?_
      refine x_ialdN hG (pc := 59) (c := 3) hc1 (by decide) dX7_align_59 ?_
      refine x_ireturn hG (pc := 60) dX7_align_60 rfl rfl (by rw [hG.mc]; exact Nat.le_of_ble_eq_true rfl) (by rw [hG.ms]; exact Nat.le_of_ble_eq_true rfl) ?_
      exact hk.ok (k := 0) (S1 := setE S k (rset (eS S k) 4 1)) (by simp only [oAli, hx, e4, ↓reduceIte]; rfl) hR1 (hF0.tr hF1)
    · refine x_aload_n hG (pc := 47) 0 dX7_align_47 rfl rfl ?_
      refine x_iconst hG (pc := 48) 2 dX7_align_48 (by decide) ?_
      refine x_callV hG hO (pc := 49) [_] c_X7_refuse lk_X7_76 hR0.main rfl rfl ⟨by decide, by decide⟩ (Nat.le_of_ble_eq_true rfl) (by rw [hG.mc]; exact Nat.le_of_ble_eq_true rfl) (by rw [hG.ms]; exact Nat.le_of_ble_eq_true rfl) dX7_align_49 ?_
      refine ⟨_, _, 2, rfl, hR0, fun wr hRr hFr => ?_⟩
      refine x_ireturn hG (pc := 52) dX7_align_52 rfl rfl (by rw [hG.mc]; exact Nat.le_of_ble_eq_true rfl) (by rw [hG.ms]; exact Nat.le_of_ble_eq_true rfl) ?_
      exact hk.ok (k := 2) (v := 0) (S1 := S) (by simp only [oAli, hx, h44]; rfl) hRr (hF0.tr hFr)
  · have hx := sIx_0 h19
    refine x_aload_n hG (pc := 22) 0 dX7_align_22 rfl rfl ?_
    refine x_iconst hG (pc := 23) 1 dX7_align_23 (by decide) ?_
    refine x_callV hG hO (pc := 24) [_] c_X7_refuse lk_X7_76 hR0.main rfl rfl ⟨by decide, by decide⟩ (Nat.le_of_ble_eq_true rfl) (by rw [hG.mc]; exact Nat.le_of_ble_eq_true rfl) (by rw [hG.ms]; exact Nat.le_of_ble_eq_true rfl) dX7_align_24 ?_
    refine ⟨_, _, 1, rfl, hR0, fun wr hRr hFr => ?_⟩
    refine x_ireturn hG (pc := 27) dX7_align_27 rfl rfl (by rw [hG.mc]; exact Nat.le_of_ble_eq_true rfl) (by rw [hG.ms]; exact Nat.le_of_ble_eq_true rfl) ?_
    exact hk.ok (k := 1) (v := 0) (S1 := S) (by simp only [oAli, hx, ↓reduceIte]) hRr (hF0.tr hFr)
set_option maxHeartbeats 400000 in
set_option maxRecDepth 100000 in
theorem c_X7_cancel : CtrA yX7_cancel cX7_cancel 4 (some .int) (rmk 3 0 0 64) (fun Γ av w post xpost => ∃ (L : LayM) (S : St), ∃ p, av = [.ref (thM L), .int p] ∧ RepM Γ L S w ∧ Inv2 S ∧ MOut Γ L w post (oCan S p)) := by
  refine ctr_of (by decide) ?_
  rintro g av w hG hO ⟨L, S, p, rfl, hR, hI2, hk⟩
  refine ⟨Nat.le_of_ble_eq_true rfl, ?_⟩
  show X g w 0 0 0 [some (.ref (thM L)), some (.int p), none, none] []
  have hI := hI2.1
  have hnM := hI.2.1.1
  have hnN := hI.2.1.2.1
  have hnE := hI.2.1.2.2
  refine x_aload_n hG (pc := 0) 0 dX7_cancel_0 rfl rfl ?_
  refine x_iconst hG (pc := 1) 0 dX7_cancel_1 (by decide) ?_
  refine x_putf hG (pc := 2) fl_X7_31 fw_9 ft_9_0 hR.main (Nat.le_of_ble_eq_true rfl) rfl rfl (by dsimp only [List.set]) dX7_cancel_2 ?_
  refine x_gen (fun w0 e0 => ?_)
  obtain ⟨hR0, hF0⟩ := hR.uT e0
  refine x_aload_n hG (pc := 5) 0 dX7_cancel_5 rfl rfl ?_
  refine x_iload_n hG (pc := 6) 1 dX7_cancel_6 rfl rfl ?_
  refine x_callV hG hO (pc := 7) [_] c_X7_isNight lk_X7_136 hR0.main rfl rfl ⟨by decide, by decide⟩ (Nat.le_of_ble_eq_true rfl) (by rw [hG.mc]; exact Nat.le_of_ble_eq_true rfl) (by rw [hG.ms]; exact Nat.le_of_ble_eq_true rfl) dX7_cancel_7 ?_
  refine ⟨_, S, _, rfl, hR0, by omega, ?_⟩
  refine x_if_ne hG (pc := 10) 19 dX7_cancel_10 (by decide) (fun h10 => ?_) (fun h10 => ?_)
  · obtain ⟨k, hx⟩ := sIx_1 h10
    obtain ⟨hkn, rfl⟩ := ixO_some hx (by omega)
    refine x_aload_n hG (pc := 19) 0 dX7_cancel_19 rfl rfl ?_
    refine x_getf hG (pc := 20) fl_X7_21 hR0.main rfl dX7_cancel_20 ?_
    refine x_iload_n hG (pc := 23) 1 dX7_cancel_23 rfl rfl ?_
    refine x_callV hG hO (pc := 24) [_] c_Jx4a65c_get_915e3 lk_X7_52 (hR0.lst (id := 2) (by decide)).1 rfl rfl ⟨by decide, by decide⟩ (Nat.le_of_ble_eq_true rfl) (by rw [hG.mc]; exact Nat.le_of_ble_eq_true rfl) (by rw [hG.ms]; exact Nat.le_of_ble_eq_true rfl) dX7_cancel_24 ?_
    refine ⟨_, _, _, _, _, _, _, _, k, rfl, (hR0.lst (id := 2) (by decide)), hkn, ?_⟩
    show X g _ _ _ _ _ (.ref (L.1 (57, k, 0)) :: _)
    refine x_castI hG (pc := 27) ckl_X7_56 (hR0.ngt hkn) dX7_cancel_27 ?_
    refine x_astore_n hG (pc := 30) 2 dX7_cancel_30 rfl (Nat.le_of_ble_eq_true rfl) rfl (by dsimp only [List.set]) ?_
    refine x_aload_n hG (pc := 31) 2 dX7_cancel_31 rfl rfl ?_
    refine x_iconst hG (pc := 32) 0 dX7_cancel_32 (by decide) ?_
    refine x_ialdN hG (pc := 33) (c := 0) (hR0.ngt hkn) (by decide) dX7_cancel_33 ?_
    refine x_if_eq hG (pc := 34) 43 dX7_cancel_34 (by decide) (fun h34 => ?_) (fun h34 => ?_)
    · refine x_aload_n hG (pc := 43) 2 dX7_cancel_43 rfl rfl ?_
      refine x_iconst hG (pc := 44) 0 dX7_cancel_44 (by decide) ?_
      refine x_iconst hG (pc := 45) 4 dX7_cancel_45 (by decide) ?_
      refine x_iastN hG (pc := 46) (c := 0) (hR0.ngt hkn) (by decide) dX7_cancel_46 ?_
      refine x_gen (fun w1 e1 => ?_)
      obtain ⟨hR1, hF1⟩ := hR0.uN hkn (f := rset (gS S k) 0 4) e1
      have hc1 := (congrFun e1 _).trans wup_s
      refine x_aload_n hG (pc := 47) 2 dX7_cancel_47 rfl rfl ?_
      refine x_iconst hG (pc := 48) 4 dX7_cancel_48 (by decide) ?_
      refine x_ialdN hG (pc := 49) (c := 4) hc1 (by decide) dX7_cancel_49 ?_
      refine x_aload_n hG (pc := 50) 0 dX7_cancel_50 rfl rfl ?_
      refine x_getf hG (pc := 51) fl_X7_93 hR1.main rfl dX7_cancel_51 ?_
      refine x_isub hG (pc := 54) dX7_cancel_54 ?_
      show X g _ _ _ _ _ (.int (gS S k 4 - gl S 0) :: _)
      refine x_iconst hG (pc := 55) 5 dX7_cancel_55 (by decide) ?_
      refine x_icmp_ge hG (pc := 56) 68 dX7_cancel_56 (by decide) (fun h56 => ?_) (fun h56 => ?_)
      · have hfe : cFee S k = 0 := if_pos ((fee_le (hI2.2.1 k hkn).1 hI.2.2.2.2.2.1).mp h56)
        refine x_iconst hG (pc := 68) 0 dX7_cancel_68 (by decide) ?_
        rw [← hfe]
        refine x_istore_n hG (pc := 69) 3 dX7_cancel_69 rfl (Nat.le_of_ble_eq_true rfl) rfl (by dsimp only [List.set]) ?_
        refine x_aload_n hG (pc := 70) 0 dX7_cancel_70 rfl rfl ?_
        refine x_dup hG (pc := 71) dX7_cancel_71 rfl ?_
        refine x_getf hG (pc := 72) fl_X7_103 hR1.main rfl dX7_cancel_72 ?_
        refine x_iload_n hG (pc := 75) 3 dX7_cancel_75 rfl rfl ?_
        refine x_iadd hG (pc := 76) dX7_cancel_76 ?_
        refine x_putf hG (pc := 77) fl_X7_103 fw_9 ft_9_7 hR1.main (Nat.le_of_ble_eq_true rfl) rfl rfl (by dsimp only [List.set]) dX7_cancel_77 ?_
        refine x_gen (fun w2 e2 => ?_)
        obtain ⟨hR2, hF2⟩ := hR1.uG (f := rset (gl S) 2 (gl S 2 + cFee S k)) e2
        refine x_iload_n hG (pc := 80) 3 dX7_cancel_80 rfl rfl ?_
        refine x_ireturn hG (pc := 81) dX7_cancel_81 rfl rfl (by rw [hG.mc]; exact Nat.le_of_ble_eq_true rfl) (by rw [hG.ms]; exact Nat.le_of_ble_eq_true rfl) ?_
        exact hk.ok (k := 0) (v := cFee S k) (by simp only [oCan, hx, h34, ↓reduceIte]) hR2 ((hF0.tr hF1).tr hF2)
      · have hfe : cFee S k = 10 * gS S k 5 := if_neg (fun q => h56 ((fee_le (hI2.2.1 k hkn).1 hI.2.2.2.2.2.1).mpr q))
        refine x_bipush hG (pc := 59) 10 dX7_cancel_59 (by decide) ?_
        refine x_aload_n hG (pc := 61) 2 dX7_cancel_61 rfl rfl ?_
        refine x_iconst hG (pc := 62) 5 dX7_cancel_62 (by decide) ?_
        refine x_ialdN hG (pc := 63) (c := 5) hc1 (by decide) dX7_cancel_63 ?_
        refine x_imul hG (pc := 64) dX7_cancel_64 ?_
        refine x_goto hG (pc := 65) 69 dX7_cancel_65 (by decide) ?_
        show X g _ _ _ _ _ [.int (10 * gS S k 5)]
        rw [← hfe]
        refine x_istore_n hG (pc := 69) 3 dX7_cancel_69 rfl (Nat.le_of_ble_eq_true rfl) rfl (by dsimp only [List.set]) ?_
        refine x_aload_n hG (pc := 70) 0 dX7_cancel_70 rfl rfl ?_
        refine x_dup hG (pc := 71) dX7_cancel_71 rfl ?_
        refine x_getf hG (pc := 72) fl_X7_103 hR1.main rfl dX7_cancel_72 ?_
        refine x_iload_n hG (pc := 75) 3 dX7_cancel_75 rfl rfl ?_
        refine x_iadd hG (pc := 76) dX7_cancel_76 ?_
        refine x_putf hG (pc := 77) fl_X7_103 fw_9 ft_9_7 hR1.main (Nat.le_of_ble_eq_true rfl) rfl rfl (by dsimp only [List.set]) dX7_cancel_77 ?_
        refine x_gen (fun w2 e2 => ?_)
        obtain ⟨hR2, hF2⟩ := hR1.uG (f := rset (gl S) 2 (gl S 2 + cFee S k)) e2
        refine x_iload_n hG (pc := 80) 3 dX7_cancel_80 rfl rfl ?_
        refine x_ireturn hG (pc := 81) dX7_cancel_81 rfl rfl (by rw [hG.mc]; exact Nat.le_of_ble_eq_true rfl) (by rw [hG.ms]; exact Nat.le_of_ble_eq_true rfl) ?_
        exact hk.ok (k := 0) (v := cFee S k) (by simp only [oCan, hx, h34, ↓reduceIte]) hR2 ((hF0.tr hF1).tr hF2)
    · refine x_aload_n hG (pc := 37) 0 dX7_cancel_37 rfl rfl ?_
      refine x_iconst hG (pc := 38) 2 dX7_cancel_38 (by decide) ?_
      refine x_callV hG hO (pc := 39) [_] c_X7_refuse lk_X7_76 hR0.main rfl rfl ⟨by decide, by decide⟩ (Nat.le_of_ble_eq_true rfl) (by rw [hG.mc]; exact Nat.le_of_ble_eq_true rfl) (by rw [hG.ms]; exact Nat.le_of_ble_eq_true rfl) dX7_cancel_39 ?_
      refine ⟨_, _, 2, rfl, hR0, fun wr hRr hFr => ?_⟩
      refine x_ireturn hG (pc := 42) dX7_cancel_42 rfl rfl (by rw [hG.mc]; exact Nat.le_of_ble_eq_true rfl) (by rw [hG.ms]; exact Nat.le_of_ble_eq_true rfl) ?_
      exact hk.ok (k := 2) (v := 0) (S1 := S) (by simp only [oCan, hx, h34, ↓reduceIte]) hRr (hF0.tr hFr)
  · have hx := sIx_0 h10
    refine x_aload_n hG (pc := 13) 0 dX7_cancel_13 rfl rfl ?_
    refine x_iconst hG (pc := 14) 1 dX7_cancel_14 (by decide) ?_
    refine x_callV hG hO (pc := 15) [_] c_X7_refuse lk_X7_76 hR0.main rfl rfl ⟨by decide, by decide⟩ (Nat.le_of_ble_eq_true rfl) (by rw [hG.mc]; exact Nat.le_of_ble_eq_true rfl) (by rw [hG.ms]; exact Nat.le_of_ble_eq_true rfl) dX7_cancel_15 ?_
    refine ⟨_, _, 1, rfl, hR0, fun wr hRr hFr => ?_⟩
    refine x_ireturn hG (pc := 18) dX7_cancel_18 rfl rfl (by rw [hG.mc]; exact Nat.le_of_ble_eq_true rfl) (by rw [hG.ms]; exact Nat.le_of_ble_eq_true rfl) ?_
    exact hk.ok (k := 1) (v := 0) (S1 := S) (by simp only [oCan, hx, ↓reduceIte]) hRr (hF0.tr hFr)
set_option maxHeartbeats 400000 in
set_option maxRecDepth 100000 in
theorem c_X7_mark : CtrA yX7_mark cX7_mark 4 (some .int) (rmk 3 0 0 64) (fun Γ av w post xpost => ∃ (L : LayM) (S : St), ∃ p e, av = [.ref (thM L), .int p, .int e] ∧ RepM Γ L S w ∧ Inv2 S ∧ MOut Γ L w post (oMrk S p e)) := by
  refine ctr_of (by decide) ?_
  rintro g av w hG hO ⟨L, S, p, e, rfl, hR, hI2, hk⟩
  refine ⟨Nat.le_of_ble_eq_true rfl, ?_⟩
  show X g w 0 0 0 [some (.ref (thM L)), some (.int p), some (.int e), none] []
  have hI := hI2.1
  have hnM := hI.2.1.1
  have hnN := hI.2.1.2.1
  have hnE := hI.2.1.2.2
  refine x_aload_n hG (pc := 0) 0 dX7_mark_0 rfl rfl ?_
  refine x_iconst hG (pc := 1) 0 dX7_mark_1 (by decide) ?_
  refine x_putf hG (pc := 2) fl_X7_31 fw_9 ft_9_0 hR.main (Nat.le_of_ble_eq_true rfl) rfl rfl (by dsimp only [List.set]) dX7_mark_2 ?_
  refine x_gen (fun w0 e0 => ?_)
  obtain ⟨hR0, hF0⟩ := hR.uT e0
  refine x_aload_n hG (pc := 5) 0 dX7_mark_5 rfl rfl ?_
  refine x_iload_n hG (pc := 6) 1 dX7_mark_6 rfl rfl ?_
  refine x_callV hG hO (pc := 7) [_] c_X7_isNight lk_X7_136 hR0.main rfl rfl ⟨by decide, by decide⟩ (Nat.le_of_ble_eq_true rfl) (by rw [hG.mc]; exact Nat.le_of_ble_eq_true rfl) (by rw [hG.ms]; exact Nat.le_of_ble_eq_true rfl) dX7_mark_7 ?_
  refine ⟨_, S, _, rfl, hR0, by omega, ?_⟩
  refine x_if_eq hG (pc := 10) 22 dX7_mark_10 (by decide) (fun h10 => ?_) (fun h10 => ?_)
  · have hx := sIx_0 h10
    refine x_aload_n hG (pc := 22) 0 dX7_mark_22 rfl rfl ?_
    refine x_iconst hG (pc := 23) 1 dX7_mark_23 (by decide) ?_
    refine x_callV hG hO (pc := 24) [_] c_X7_refuse lk_X7_76 hR0.main rfl rfl ⟨by decide, by decide⟩ (Nat.le_of_ble_eq_true rfl) (by rw [hG.mc]; exact Nat.le_of_ble_eq_true rfl) (by rw [hG.ms]; exact Nat.le_of_ble_eq_true rfl) dX7_mark_24 ?_
    refine ⟨_, _, 1, rfl, hR0, fun wr hRr hFr => ?_⟩
    refine x_ireturn hG (pc := 27) dX7_mark_27 rfl rfl (by rw [hG.mc]; exact Nat.le_of_ble_eq_true rfl) (by rw [hG.ms]; exact Nat.le_of_ble_eq_true rfl) ?_
    exact hk.ok (k := 1) (v := 0) (S1 := S) (by simp only [oMrk, hx, ↓reduceIte]) hRr (hF0.tr hFr)
  · obtain ⟨k, hx⟩ := sIx_1 h10
    obtain ⟨hkn, rfl⟩ := ixO_some hx (by omega)
    refine x_iload_n hG (pc := 13) 2 dX7_mark_13 rfl rfl ?_
    refine x_iconst hG (pc := 14) 0 dX7_mark_14 (by decide) ?_
    refine x_iconst hG (pc := 15) 1 dX7_mark_15 (by decide) ?_
    refine x_callS hG hO (pc := 16) [_, _, _] c_X7_is lk_X7_68 rfl rfl ⟨by decide, by decide⟩ (Nat.le_of_ble_eq_true rfl) (by rw [hG.mc]; exact Nat.le_of_ble_eq_true rfl) (by rw [hG.ms]; exact Nat.le_of_ble_eq_true rfl) dX7_mark_16 ?_
    refine ⟨_, _, _, rfl, ?_⟩
    refine x_if_ne hG (pc := 19) 28 dX7_mark_19 (by decide) (fun h19 => ?_) (fun h19 => ?_)
    · obtain ⟨i19a, i19b⟩ := is_t h19
      refine x_aload_n hG (pc := 28) 0 dX7_mark_28 rfl rfl ?_
      refine x_getf hG (pc := 29) fl_X7_21 hR0.main rfl dX7_mark_29 ?_
      refine x_iload_n hG (pc := 32) 1 dX7_mark_32 rfl rfl ?_
      refine x_callV hG hO (pc := 33) [_] c_Jx4a65c_get_915e3 lk_X7_52 (hR0.lst (id := 2) (by decide)).1 rfl rfl ⟨by decide, by decide⟩ (Nat.le_of_ble_eq_true rfl) (by rw [hG.mc]; exact Nat.le_of_ble_eq_true rfl) (by rw [hG.ms]; exact Nat.le_of_ble_eq_true rfl) dX7_mark_33 ?_
      refine ⟨_, _, _, _, _, _, _, _, k, rfl, (hR0.lst (id := 2) (by decide)), hkn, ?_⟩
      show X g _ _ _ _ _ (.ref (L.1 (57, k, 0)) :: _)
      refine x_castI hG (pc := 36) ckl_X7_56 (hR0.ngt hkn) dX7_mark_36 ?_
      refine x_astore_n hG (pc := 39) 3 dX7_mark_39 rfl (Nat.le_of_ble_eq_true rfl) rfl (by dsimp only [List.set]) ?_
      refine x_aload_n hG (pc := 40) 3 dX7_mark_40 rfl rfl ?_
      refine x_iconst hG (pc := 41) 0 dX7_mark_41 (by decide) ?_
      refine x_ialdN hG (pc := 42) (c := 0) (hR0.ngt hkn) (by decide) dX7_mark_42 ?_
      refine x_if_ne hG (pc := 43) 68 dX7_mark_43 (by decide) (fun h43 => ?_) (fun h43 => ?_)
      · refine x_aload_n hG (pc := 68) 0 dX7_mark_68 rfl rfl ?_
        refine x_iconst hG (pc := 69) 2 dX7_mark_69 (by decide) ?_
        refine x_callV hG hO (pc := 70) [_] c_X7_refuse lk_X7_76 hR0.main rfl rfl ⟨by decide, by decide⟩ (Nat.le_of_ble_eq_true rfl) (by rw [hG.mc]; exact Nat.le_of_ble_eq_true rfl) (by rw [hG.ms]; exact Nat.le_of_ble_eq_true rfl) dX7_mark_70 ?_
        refine ⟨_, _, 2, rfl, hR0, fun wr hRr hFr => ?_⟩
        refine x_ireturn hG (pc := 73) dX7_mark_73 rfl rfl (by rw [hG.mc]; exact Nat.le_of_ble_eq_true rfl) (by rw [hG.ms]; exact Nat.le_of_ble_eq_true rfl) ?_
        exact hk.ok (k := 2) (v := 0) (S1 := S) (by simp only [oMrk, hx, i19a, show e < 2 from (by rcases ix01 i19a i19b with q | q <;> rw [q] <;> decide), h43, ↓reduceIte]) hRr (hF0.tr hFr)
      · refine x_aload_n hG (pc := 46) 3 dX7_mark_46 rfl rfl ?_
        refine x_iconst hG (pc := 47) 4 dX7_mark_47 (by decide) ?_
        refine x_ialdN hG (pc := 48) (c := 4) (hR0.ngt hkn) (by decide) dX7_mark_48 ?_
        refine x_aload_n hG (pc := 49) 0 dX7_mark_49 rfl rfl ?_
        refine x_getf hG (pc := 50) fl_X7_93 hR0.main rfl dX7_mark_50 ?_
        refine x_icmp_ne hG (pc := 53) 68 dX7_mark_53 (by decide) (fun h53 => ?_) (fun h53 => ?_)
        · replace h53 : ¬ gS S k 4 = gl S 0 := h53
          refine x_aload_n hG (pc := 68) 0 dX7_mark_68 rfl rfl ?_
          refine x_iconst hG (pc := 69) 2 dX7_mark_69 (by decide) ?_
          refine x_callV hG hO (pc := 70) [_] c_X7_refuse lk_X7_76 hR0.main rfl rfl ⟨by decide, by decide⟩ (Nat.le_of_ble_eq_true rfl) (by rw [hG.mc]; exact Nat.le_of_ble_eq_true rfl) (by rw [hG.ms]; exact Nat.le_of_ble_eq_true rfl) dX7_mark_70 ?_
          refine ⟨_, _, 2, rfl, hR0, fun wr hRr hFr => ?_⟩
          refine x_ireturn hG (pc := 73) dX7_mark_73 rfl rfl (by rw [hG.mc]; exact Nat.le_of_ble_eq_true rfl) (by rw [hG.ms]; exact Nat.le_of_ble_eq_true rfl) ?_
          exact hk.ok (k := 2) (v := 0) (S1 := S) (by simp only [oMrk, hx, i19a, show e < 2 from (by rcases ix01 i19a i19b with q | q <;> rw [q] <;> decide), h43, h53, ↓reduceIte]) hRr (hF0.tr hFr)
        · replace h53 : gS S k 4 = gl S 0 := h53
          refine x_aload_n hG (pc := 56) 3 dX7_mark_56 rfl rfl ?_
          refine x_bipush hG (pc := 57) 8 dX7_mark_57 (by decide) ?_
          refine x_ialdN hG (pc := 59) (c := 8) (hR0.ngt hkn) (by decide) dX7_mark_59 ?_
          refine x_iload_n hG (pc := 60) 2 dX7_mark_60 rfl rfl ?_
          refine x_ishr hG (pc := 61) dX7_mark_61 ?_
          refine x_iconst hG (pc := 62) 1 dX7_mark_62 (by decide) ?_
          refine x_iand hG (pc := 63) dX7_mark_63 ?_
          rw [mk_bit (hI.2.2.2.1 k hkn).2.2.1 (ix01 i19a i19b)]
          refine x_iconst hG (pc := 64) 1 dX7_mark_64 (by decide) ?_
          refine x_icmp_ne hG (pc := 65) 74 dX7_mark_65 (by decide) (fun h65 => ?_) (fun h65 => ?_)
          · have hb : (if e = 0 then mk1 (gS S k 8) else mk2 (gS S k 8)) = 0 := (by split <;> first | exact ((mk01 _).1.resolve_right (by rename_i z; rw [if_pos z] at h65; exact h65)) | exact ((mk01 _).2.resolve_right (by rename_i z; rw [if_neg z] at h65; exact h65)))
            have hor := mk_or (hI.2.2.2.1 k hkn).2.2.1 (ix01 i19a i19b) hb
            refine x_aload_n hG (pc := 74) 3 dX7_mark_74 rfl rfl ?_
            refine x_bipush hG (pc := 75) 8 dX7_mark_75 (by decide) ?_
            refine x_dup2 hG (pc := 77) dX7_mark_77 rfl rfl ?_
            refine x_ialdN hG (pc := 78) (c := 8) (hR0.ngt hkn) (by decide) dX7_mark_78 ?_
            refine x_iconst hG (pc := 79) 1 dX7_mark_79 (by decide) ?_
            refine x_iload_n hG (pc := 80) 2 dX7_mark_80 rfl rfl ?_
            refine x_ishl hG (pc := 81) dX7_mark_81 ?_
            refine x_ior hG (pc := 82) dX7_mark_82 ?_
            rw [hor.1]
            refine x_iastN hG (pc := 83) (c := 8) (hR0.ngt hkn) (by decide) dX7_mark_83 ?_
            refine x_gen (fun w1 e1 => ?_)
            obtain ⟨hR1, hF1⟩ := hR0.uN hkn (f := rset (gS S k) 8 (gS S k 8 + (if e = 0 then 1 else 2))) e1
            have hc1 := (congrFun e1 _).trans wup_s
            refine x_aload_n hG (pc := 84) 3 dX7_mark_84 rfl rfl ?_
            refine x_bipush hG (pc := 85) 8 dX7_mark_85 (by decide) ?_
            refine x_ialdN hG (pc := 87) (c := 8) hc1 (by decide) dX7_mark_87 ?_
            refine x_callS hG hO (pc := 88) [_] c_J6_bitCount_0f7a4 lk_X7_145 rfl rfl ⟨by decide, by decide⟩ (Nat.le_of_ble_eq_true rfl) (by rw [hG.mc]; exact Nat.le_of_ble_eq_true rfl) (by rw [hG.ms]; exact Nat.le_of_ble_eq_true rfl) dX7_mark_88 ?_
            refine ⟨_, rfl, hor.2, ?_⟩
            refine x_ireturn hG (pc := 91) dX7_mark_91 rfl rfl (by rw [hG.mc]; exact Nat.le_of_ble_eq_true rfl) (by rw [hG.ms]; exact Nat.le_of_ble_eq_true rfl) ?_
            exact hk.ok (k := 0) (v := bits (gS S k 8 + (if e = 0 then 1 else 2))) (by simp only [oMrk, hx, i19a, show e < 2 from (by rcases ix01 i19a i19b with q | q <;> rw [q] <;> decide), h43, h53, ↓reduceIte]; rw [if_pos hb]) hR1 (hF0.tr hF1)
          · refine x_aload_n hG (pc := 68) 0 dX7_mark_68 rfl rfl ?_
            refine x_iconst hG (pc := 69) 2 dX7_mark_69 (by decide) ?_
            refine x_callV hG hO (pc := 70) [_] c_X7_refuse lk_X7_76 hR0.main rfl rfl ⟨by decide, by decide⟩ (Nat.le_of_ble_eq_true rfl) (by rw [hG.mc]; exact Nat.le_of_ble_eq_true rfl) (by rw [hG.ms]; exact Nat.le_of_ble_eq_true rfl) dX7_mark_70 ?_
            refine ⟨_, _, 2, rfl, hR0, fun wr hRr hFr => ?_⟩
            refine x_ireturn hG (pc := 73) dX7_mark_73 rfl rfl (by rw [hG.mc]; exact Nat.le_of_ble_eq_true rfl) (by rw [hG.ms]; exact Nat.le_of_ble_eq_true rfl) ?_
            exact hk.ok (k := 2) (v := 0) (S1 := S) (by
              simp only [oMrk, hx, i19a, show e < 2 from (by rcases ix01 i19a i19b with q | q <;> rw [q] <;> decide), h43, h53, ↓reduceIte]
              rw [if_neg (by rw [h65]; decide)]) hRr (hF0.tr hFr)
    · refine x_aload_n hG (pc := 22) 0 dX7_mark_22 rfl rfl ?_
      refine x_iconst hG (pc := 23) 1 dX7_mark_23 (by decide) ?_
      refine x_callV hG hO (pc := 24) [_] c_X7_refuse lk_X7_76 hR0.main rfl rfl ⟨by decide, by decide⟩ (Nat.le_of_ble_eq_true rfl) (by rw [hG.mc]; exact Nat.le_of_ble_eq_true rfl) (by rw [hG.ms]; exact Nat.le_of_ble_eq_true rfl) dX7_mark_24 ?_
      refine ⟨_, _, 1, rfl, hR0, fun wr hRr hFr => ?_⟩
      refine x_ireturn hG (pc := 27) dX7_mark_27 rfl rfl (by rw [hG.mc]; exact Nat.le_of_ble_eq_true rfl) (by rw [hG.ms]; exact Nat.le_of_ble_eq_true rfl) ?_
      exact hk.ok (k := 1) (v := 0) (S1 := S) (by
        rcases is_f h19 with q | ⟨q, q2⟩
        · simp only [oMrk, hx, q, ↓reduceIte]
        · have q3 : ¬ e < 2 := fun z => q2 (by have := Int32.lt_iff_toInt_lt.mp z; refine Int32.le_iff_toInt_le.mpr ?_; simp at this ⊢; omega)
          simp only [oMrk, hx, q, q3, ↓reduceIte]) hRr (hF0.tr hFr)
set_option maxHeartbeats 400000 in
set_option maxRecDepth 100000 in
theorem c_X7_take : CtrA yX7_take cX7_take 3 (some .int) (rmk 3 0 0 64) (fun Γ av w post xpost => ∃ (L : LayM) (S : St), ∃ p, av = [.ref (thM L), .int p] ∧ RepM Γ L S w ∧ Inv2 S ∧ MOut Γ L w post (oTak S p)) := by
  refine ctr_of (by decide) ?_
  rintro g av w hG hO ⟨L, S, p, rfl, hR, hI2, hk⟩
  refine ⟨Nat.le_of_ble_eq_true rfl, ?_⟩
  show X g w 0 0 0 [some (.ref (thM L)), some (.int p), none] []
  have hI := hI2.1
  have hnM := hI.2.1.1
  have hnN := hI.2.1.2.1
  have hnE := hI.2.1.2.2
  refine x_aload_n hG (pc := 0) 0 dX7_take_0 rfl rfl ?_
  refine x_iconst hG (pc := 1) 0 dX7_take_1 (by decide) ?_
  refine x_putf hG (pc := 2) fl_X7_31 fw_9 ft_9_0 hR.main (Nat.le_of_ble_eq_true rfl) rfl rfl (by dsimp only [List.set]) dX7_take_2 ?_
  refine x_gen (fun w0 e0 => ?_)
  obtain ⟨hR0, hF0⟩ := hR.uT e0
  refine x_aload_n hG (pc := 5) 0 dX7_take_5 rfl rfl ?_
  refine x_iload_n hG (pc := 6) 1 dX7_take_6 rfl rfl ?_
  refine x_callV hG hO (pc := 7) [_] c_X7_isNight lk_X7_136 hR0.main rfl rfl ⟨by decide, by decide⟩ (Nat.le_of_ble_eq_true rfl) (by rw [hG.mc]; exact Nat.le_of_ble_eq_true rfl) (by rw [hG.ms]; exact Nat.le_of_ble_eq_true rfl) dX7_take_7 ?_
  refine ⟨_, S, _, rfl, hR0, by omega, ?_⟩
  refine x_if_ne hG (pc := 10) 19 dX7_take_10 (by decide) (fun h10 => ?_) (fun h10 => ?_)
  · obtain ⟨k, hx⟩ := sIx_1 h10
    obtain ⟨hkn, rfl⟩ := ixO_some hx (by omega)
    refine x_aload_n hG (pc := 19) 0 dX7_take_19 rfl rfl ?_
    refine x_getf hG (pc := 20) fl_X7_21 hR0.main rfl dX7_take_20 ?_
    refine x_iload_n hG (pc := 23) 1 dX7_take_23 rfl rfl ?_
    refine x_callV hG hO (pc := 24) [_] c_Jx4a65c_get_915e3 lk_X7_52 (hR0.lst (id := 2) (by decide)).1 rfl rfl ⟨by decide, by decide⟩ (Nat.le_of_ble_eq_true rfl) (by rw [hG.mc]; exact Nat.le_of_ble_eq_true rfl) (by rw [hG.ms]; exact Nat.le_of_ble_eq_true rfl) dX7_take_24 ?_
    refine ⟨_, _, _, _, _, _, _, _, k, rfl, (hR0.lst (id := 2) (by decide)), hkn, ?_⟩
    show X g _ _ _ _ _ (.ref (L.1 (57, k, 0)) :: _)
    refine x_castI hG (pc := 27) ckl_X7_56 (hR0.ngt hkn) dX7_take_27 ?_
    refine x_astore_n hG (pc := 30) 2 dX7_take_30 rfl (Nat.le_of_ble_eq_true rfl) rfl (by dsimp only [List.set]) ?_
    refine x_aload_n hG (pc := 31) 2 dX7_take_31 rfl rfl ?_
    refine x_iconst hG (pc := 32) 0 dX7_take_32 (by decide) ?_
    refine x_ialdN hG (pc := 33) (c := 0) (hR0.ngt hkn) (by decide) dX7_take_33 ?_
    refine x_if_ne hG (pc := 34) 45 dX7_take_34 (by decide) (fun h34 => ?_) (fun h34 => ?_)
    · refine x_aload_n hG (pc := 45) 0 dX7_take_45 rfl rfl ?_
      refine x_iconst hG (pc := 46) 2 dX7_take_46 (by decide) ?_
      refine x_callV hG hO (pc := 47) [_] c_X7_refuse lk_X7_76 hR0.main rfl rfl ⟨by decide, by decide⟩ (Nat.le_of_ble_eq_true rfl) (by rw [hG.mc]; exact Nat.le_of_ble_eq_true rfl) (by rw [hG.ms]; exact Nat.le_of_ble_eq_true rfl) dX7_take_47 ?_
      refine ⟨_, _, 2, rfl, hR0, fun wr hRr hFr => ?_⟩
      refine x_ireturn hG (pc := 50) dX7_take_50 rfl rfl (by rw [hG.mc]; exact Nat.le_of_ble_eq_true rfl) (by rw [hG.ms]; exact Nat.le_of_ble_eq_true rfl) ?_
      exact hk.ok (k := 2) (v := 0) (S1 := S) (by simp only [oTak, hx, h34, ↓reduceIte]) hRr (hF0.tr hFr)
    · refine x_aload_n hG (pc := 37) 2 dX7_take_37 rfl rfl ?_
      refine x_bipush hG (pc := 38) 8 dX7_take_38 (by decide) ?_
      refine x_ialdN hG (pc := 40) (c := 8) (hR0.ngt hkn) (by decide) dX7_take_40 ?_
      refine x_iconst hG (pc := 41) 3 dX7_take_41 (by decide) ?_
      refine x_icmp_eq hG (pc := 42) 51 dX7_take_42 (by decide) (fun h42 => ?_) (fun h42 => ?_)
      · refine x_aload_n hG (pc := 51) 2 dX7_take_51 rfl rfl ?_
        refine x_iconst hG (pc := 52) 0 dX7_take_52 (by decide) ?_
        refine x_iconst hG (pc := 53) 1 dX7_take_53 (by decide) ?_
        refine x_iastN hG (pc := 54) (c := 0) (hR0.ngt hkn) (by decide) dX7_take_54 ?_
        refine x_gen (fun w1 e1 => ?_)
        obtain ⟨hR1, hF1⟩ := hR0.uN hkn (f := rset (gS S k) 0 1) e1
        have hc1 := (congrFun e1 _).trans wup_s
        refine x_aload_n hG (pc := 55) 2 dX7_take_55 rfl rfl ?_
        refine x_iconst hG (pc := 56) 3 dX7_take_56 (by decide) ?_
        refine x_ialdN hG (pc := 57) (c := 3) hc1 (by decide) dX7_take_57 ?_
        refine x_aload_n hG (pc := 58) 2 dX7_take_58 rfl rfl ?_
        refine x_iconst hG (pc := 59) 2 dX7_take_59 (by decide) ?_
        refine x_ialdN hG (pc := 60) (c := 2) hc1 (by decide) dX7_take_60 ?_
        refine x_isub hG (pc := 61) dX7_take_61 ?_
        refine x_iconst hG (pc := 62) 1 dX7_take_62 (by decide) ?_
        refine x_iadd hG (pc := 63) dX7_take_63 ?_
        refine x_ireturn hG (pc := 64) dX7_take_64 rfl rfl (by rw [hG.mc]; exact Nat.le_of_ble_eq_true rfl) (by rw [hG.ms]; exact Nat.le_of_ble_eq_true rfl) ?_
        exact hk.ok (k := 0) (by simp only [oTak, hx, h34, (bits3 (hI.2.2.2.1 k hkn).2.2.1).mpr h42, ↓reduceIte]; rfl) hR1 (hF0.tr hF1)
      · refine x_aload_n hG (pc := 45) 0 dX7_take_45 rfl rfl ?_
        refine x_iconst hG (pc := 46) 2 dX7_take_46 (by decide) ?_
        refine x_callV hG hO (pc := 47) [_] c_X7_refuse lk_X7_76 hR0.main rfl rfl ⟨by decide, by decide⟩ (Nat.le_of_ble_eq_true rfl) (by rw [hG.mc]; exact Nat.le_of_ble_eq_true rfl) (by rw [hG.ms]; exact Nat.le_of_ble_eq_true rfl) dX7_take_47 ?_
        refine ⟨_, _, 2, rfl, hR0, fun wr hRr hFr => ?_⟩
        refine x_ireturn hG (pc := 50) dX7_take_50 rfl rfl (by rw [hG.mc]; exact Nat.le_of_ble_eq_true rfl) (by rw [hG.ms]; exact Nat.le_of_ble_eq_true rfl) ?_
        exact hk.ok (k := 2) (v := 0) (S1 := S) (by simp only [oTak, hx, h34, mt (bits3 (hI.2.2.2.1 k hkn).2.2.1).mp h42, ↓reduceIte]) hRr (hF0.tr hFr)
  · have hx := sIx_0 h10
    refine x_aload_n hG (pc := 13) 0 dX7_take_13 rfl rfl ?_
    refine x_iconst hG (pc := 14) 1 dX7_take_14 (by decide) ?_
    refine x_callV hG hO (pc := 15) [_] c_X7_refuse lk_X7_76 hR0.main rfl rfl ⟨by decide, by decide⟩ (Nat.le_of_ble_eq_true rfl) (by rw [hG.mc]; exact Nat.le_of_ble_eq_true rfl) (by rw [hG.ms]; exact Nat.le_of_ble_eq_true rfl) dX7_take_15 ?_
    refine ⟨_, _, 1, rfl, hR0, fun wr hRr hFr => ?_⟩
    refine x_ireturn hG (pc := 18) dX7_take_18 rfl rfl (by rw [hG.mc]; exact Nat.le_of_ble_eq_true rfl) (by rw [hG.ms]; exact Nat.le_of_ble_eq_true rfl) ?_
    exact hk.ok (k := 1) (v := 0) (S1 := S) (by simp only [oTak, hx, ↓reduceIte]) hRr (hF0.tr hFr)
