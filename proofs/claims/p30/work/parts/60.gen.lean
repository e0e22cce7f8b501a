/-! rows without the machine, that the reference's parts of whole held -/
theorem nI_mul (a b : Nat) : nI a * nI b = nI (a * b) := (Int32.ofNat_mul a b).symm
theorem ixO_some {x : Int32} {n k : Nat} (h : ixO x n = some k) (hn : n < 2 ^ 31) : k < n ∧ x = nI k := by
  unfold ixO at h
  split at h
  · rename_i a
    cases h
    have h1 : x.toNatClampNeg = x.toInt.toNat := rfl
    refine ⟨by omega, (i_nn a.1).symm⟩
  · cases h
theorem mn_ti (x y : Int32) : (mn x y).toInt = min x.toInt y.toInt := by
  unfold mn
  by_cases h : y < x
  · rw [if_pos h]
    have := Int32.lt_iff_toInt_lt.mp h
    omega
  · rw [if_neg h]
    have := mt Int32.lt_iff_toInt_lt.mpr h
    omega
def NNo (f : Nat → Int32) : Prop := (0 ≤ (f 4).toInt ∧ (f 4).toInt ≤ 2000) ∧ ∀ j, j < nJ f → 0 ≤ (f (10 + 3 * j)).toInt ∧ 0 ≤ (f (11 + 3 * j)).toInt
def Inv2 (S : St) : Prop := Inv S ∧ (∀ n, n < nN S → NNo (gS S n)) ∧ ∀ n, n < nN S → ¬ gS S n 0 = 2 → gS S n 9 = 0
theorem RepC.tg {Γ : Gw} {L : LayC} {S : St} {w w1 : Wd} (h : RepC Γ L S w) (hF : ∀ (b : Nat) (x : Tg × va_E), w b = some x → x.1.1 < 50 → w1 b = some x) : RepC Γ L S w1 :=
  h.but (fun t => 50 ≤ t.1) (fun b x hb hx => hF b x hb (Nat.lt_of_not_le hx)) (fun t ht => by
    obtain ⟨k, i, j⟩ := t
    obtain ⟨n, rfl⟩ : ∃ n, k = n + 50 := ⟨k - 50, by have : 50 ≤ k := ht; omega⟩
    rfl)
