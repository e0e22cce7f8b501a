/-! numbers of p30's law -/
theorem tAdd {x y : Int32} (h1 : -2147483648 ≤ x.toInt + y.toInt) (h2 : x.toInt + y.toInt < 2147483648) : (x + y).toInt = x.toInt + y.toInt := by
  rw [Int32.toInt_add, Int.bmod_eq_of_le (by simp; omega) (by simp; omega)]
theorem tSub {x y : Int32} (h1 : -2147483648 ≤ x.toInt - y.toInt) (h2 : x.toInt - y.toInt < 2147483648) : (x - y).toInt = x.toInt - y.toInt := by
  rw [Int32.toInt_sub, Int.bmod_eq_of_le (by simp; omega) (by simp; omega)]
theorem tMul {x y : Int32} (h1 : -2147483648 ≤ x.toInt * y.toInt) (h2 : x.toInt * y.toInt < 2147483648) : (x * y).toInt = x.toInt * y.toInt := by
  obtain ⟨P, hP⟩ : ∃ P, P = x.toInt * y.toInt := ⟨_, rfl⟩
  rw [← hP] at h1 h2 ⊢
  rw [Int32.toInt_mul, ← hP, Int.bmod_eq_of_le (by simp; omega) (by simp; omega)]
theorem tDiv {x y : Int32} (hx : 0 ≤ x.toInt) (hy : 0 < y.toInt) : (x / y).toInt = x.toInt / y.toInt := by
  rw [Int32.toInt_div_of_ne_right _ _ (fun q => by rw [q] at hy; revert hy; decide), Int.tdiv_eq_ediv_of_nonneg hx]
theorem tLt {x y : Int32} : x < y ↔ x.toInt < y.toInt := Int32.lt_iff_toInt_lt
theorem tLe {x y : Int32} : x ≤ y ↔ x.toInt ≤ y.toInt := Int32.le_iff_toInt_le
theorem nI_div {a b : Nat} (ha : a < 2 ^ 31) (hb : b < 2 ^ 31) (h0 : 0 < b) : nI a / nI b = nI (a / b) := by
  refine Int32.toInt_inj.mp ?_
  have h1 : a / b ≤ a := Nat.div_le_self a b
  rw [tDiv (by rw [nI_toInt ha]; omega) (by rw [nI_toInt hb]; omega), nI_toInt ha, nI_toInt hb, nI_toInt (by omega)]
  rfl
theorem andM (y : Int32) : ∃ n : Nat, n < 2 ^ 31 ∧ y &&& 2147483647 = nI n := by
  refine ⟨y.toBitVec.toNat % 2147483648, Nat.mod_lt _ (by decide), ?_⟩
  refine Int32.toBitVec_inj.mp (BitVec.eq_of_toNat_eq ?_)
  rw [Int32.toBitVec_and, BitVec.toNat_and]
  have e : (2147483647 : Int32).toBitVec.toNat = 2 ^ 31 - 1 := by decide
  rw [e, Nat.and_two_pow_sub_one_eq_mod]
  show _ = (BitVec.ofNat 32 _).toNat
  rw [BitVec.toNat_ofNat]
  omega
/-- what the law's 'below' answers -/
theorem bel_ok (v : Int32) {m : Nat} (h0 : 0 < m) (hm : m < 2 ^ 31) : ∃ r, r < m ∧ (v &&& 2147483647) - (v &&& 2147483647) / nI m * nI m = nI r := by
  obtain ⟨q, hq, e⟩ := andM v
  rw [e, nI_div hq hm h0, nI_mul]
  have h1 := Nat.div_mul_le_self q m
  rw [nI_sub h1]
  have h2 := Nat.mod_add_div' q m
  exact ⟨q - q / m * m, by have := Nat.mod_lt q h0; omega, rfl⟩
theorem cnt0 {p : Nat → Int32} : ∀ n, (∀ k, k < n → p k = 0) → cnt p n = 0
  | 0, _ => rfl
  | n + 1, h => by
    show cnt p n + p n = 0
    rw [cnt0 n (fun k hk => h k (by omega)), h n (by omega)]
    rfl
/-- as many days as there are nights, and one more: one of them is free -/
theorem pig : ∀ (n : Nat) (F : Nat → Int32) (v : Nat → Int32), (∀ i j, i ≤ n → j ≤ n → v i = v j → i = j) → ∃ d, d ≤ n ∧ ∀ k, k < n → ¬ F k = v d
  | 0, _, _, _ => ⟨0, Nat.le_refl _, fun k hk => absurd hk (Nat.not_lt_zero _)⟩
  | n + 1, F, v, inj => by
    by_cases q : ∃ i, i ≤ n + 1 ∧ F n = v i
    · obtain ⟨i0, hi, hq⟩ := q
      obtain ⟨d, hd, h⟩ := pig n F (fun d => if d < i0 then v d else v (d + 1)) (fun i j hi2 hj2 e => by
        by_cases a : i < i0
        · by_cases b : j < i0
          · simp only [if_pos a, if_pos b] at e
            exact inj i j (by omega) (by omega) e
          · simp only [if_pos a, if_neg b] at e
            have := inj i (j + 1) (by omega) (by omega) e
            omega
        · by_cases b : j < i0
          · simp only [if_neg a, if_pos b] at e
            have := inj (i + 1) j (by omega) (by omega) e
            omega
          · simp only [if_neg a, if_neg b] at e
            have := inj (i + 1) (j + 1) (by omega) (by omega) e
            omega)
      by_cases a : d < i0
      · refine ⟨d, by omega, fun k hk z => ?_⟩
        by_cases c : k = n
        · subst c
          have := inj i0 d hi (by omega) (hq.symm.trans z)
          omega
        · have g := h k (by omega)
          simp only [if_pos a] at g
          exact g z
      · refine ⟨d + 1, by omega, fun k hk z => ?_⟩
        by_cases c : k = n
        · subst c
          have := inj i0 (d + 1) hi (by omega) (hq.symm.trans z)
          omega
        · have g := h k (by omega)
          simp only [if_neg a] at g
          exact g z
    · obtain ⟨d, hd, h⟩ := pig n F v (fun i j a b => inj i j (by omega) (by omega))
      refine ⟨d, by omega, fun k hk z => ?_⟩
      by_cases c : k = n
      · subst c
        exact q ⟨d, by omega, z⟩
      · exact h k (by omega) z
