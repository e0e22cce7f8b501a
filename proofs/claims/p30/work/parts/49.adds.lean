/-! Adding to the class's lists -/
theorem Hold.mv {w w1 : Wd} {a a1 : Tg → Nat} {c c1 : Nat → Nat → Nat → Option va_E} (h : Hold w a c) (T : Tg → Prop) (hF : ∀ (b : Nat) (x : Tg × va_E), w b = some x → ¬ T x.1 → w1 b = some x)
    (ha : ∀ t : Tg, ¬ T t → a1 t = a t) (hc : ∀ t : Tg, zT t → ¬ T t → c1 t.1 t.2.1 t.2.2 = c t.1 t.2.1 t.2.2) (hT : ∀ (t : Tg) (e : va_E), zT t → T t → c1 t.1 t.2.1 t.2.2 = some e → w1 (a1 t) = some (t, e)) : Hold w1 a1 c1 := by
  intro t e zt ht
  by_cases q : T t
  · exact hT t e zt q ht
  · rw [hc t zt q] at ht
    rw [ha t q]
    exact hF _ _ (h t e zt ht) q
theorem oke_c {K : Nat → ClassId} {ci : Nat} {vs : List Value} (h : ∃ (C : String) (T : u_T) (N : Nat), vwCl[ci]? = some (C, T, N) ∧ Cond.castable C "java/lang/Object" ∈ NB) : OkE K (.inr (ci, vs)) := by
  obtain ⟨C, T, N, a, b⟩ := h
  exact Or.inl ⟨ci, vs, C, T, N, rfl, a, b⟩
theorem RepC.mono {Γ : Gw} {L : LayC} {S : St} {w w1 : Wd} (h : RepC Γ L S w) (hF : ∀ (b : Nat) (x : Tg × va_E), w b = some x → w1 b = some x) : RepC Γ L S w1 := ⟨fun t e zt ht => hF _ _ (h.1 t e zt ht), h.2⟩
theorem RepC.but {Γ : Gw} {L : LayC} {S : St} {w w1 : Wd} (h : RepC Γ L S w) (T : Tg → Prop) (hF : ∀ (b : Nat) (x : Tg × va_E), w b = some x → ¬ T x.1 → w1 b = some x) (hT : ∀ t : Tg, T t → cC Γ L S t.1 t.2.1 t.2.2 = none) : RepC Γ L S w1 := ⟨fun t e zt ht => hF _ _ (h.1 t e zt ht) (fun q => by rw [hT t q] at ht; cases ht), h.2⟩
theorem lay_ex (L : LayC) (id e1 : Nat) (cp : Nat → Nat) (mf : Nat → Int32) (nw : Tg → Option Nat) (hid : nw (6, id, 0) = none) : ∃ L1 : LayC, (∀ t, nw t = none → t ≠ (6, id, 0) → L1.1 t = L.1 t) ∧ (∀ t q, nw t = some q → L1.1 t = q) ∧ L1.1 (6, id, 0) = e1 ∧ L1.2.1 = cp ∧ L1.2.2.1 = mf ∧ L1.2.2.2 = L.2.2.2 :=
  ⟨(fun t => match nw t with | some q => q | none => if t = (6, id, 0) then e1 else L.1 t, cp, mf, L.2.2.2), fun t h h2 => by simp only [h]; exact if_neg h2, fun t q h => by simp only [h], by simp only [hid, ↓reduceIte], rfl, rfl, rfl⟩
section ADD
variable {Γ : Gw} {L : LayC} {S : St} {w w1 : Wd}
theorem RepC.aM (h : RepC Γ L S w) (hJ : JOk S) {q e1 cap1 : Nat} {md : Int32} {f : Nat → Int32} (hAL : AL Γ w1 (L.1 (5, 1, 0)) (5, 1, 0) (6, 1, 0) e1 cap1 md (nM S + 1) (fun j => if j = nM S then q else elC L.1 1 j)) (hq : w1 q = some ((10, nM S, 0), oM (f 0) (f 1) (f 2) (f 3)))
    (hF : ∀ (b : Nat) (x : Tg × va_E), w b = some x → x.1 ≠ (5, 1, 0) → x.1 ≠ (6, 1, 0) → x.1 ≠ (10, nM S, 0) → w1 b = some x) : ∃ L1 : LayC, thC L1 = thC L ∧ RepC Γ L1 (addM S f) w1 := by
  obtain ⟨hA1, hA2 | hA2⟩ := hAL
  case inr => exact absurd hA2.2.1 (by omega)
  obtain ⟨c1, c2, c3, hA3⟩ := hA2
  obtain ⟨L1, hA, hnw, he, hcp, hmf, htr⟩ := lay_ex L 1 e1 (rset L.2.1 1 cap1) (rset L.2.2.1 1 md) (fun t => if t = (10, nM S, 0) then some q else none) rfl
  have hX : ∀ k i j, k ≠ 10 → k ≠ 6 → L1.1 (k, i, j) = L.1 (k, i, j) := fun k i j g1 g2 => hA _ (if_neg (fun z => g1 (congrArg Prod.fst z))) (fun z => g2 (congrArg Prod.fst z))
  have h6 : ∀ i, i ≠ 1 → L1.1 (6, i, 0) = L.1 (6, i, 0) := fun i g => hA _ rfl (fun z => g (congrArg (fun y : Tg => y.2.1) z))
  have h10 : ∀ i, i ≠ nM S → L1.1 (10, i, 0) = L.1 (10, i, 0) := fun i g => hA _ (if_neg (fun z => g (congrArg (fun y : Tg => y.2.1) z))) (by intro z; cases z)
  have hqq : L1.1 (10, nM S, 0) = q := hnw _ _ (if_pos rfl)
  have h1 : ∀ i j, L1.1 (1, i, j) = L.1 (1, i, j) := fun i j => hX _ _ _ (by decide) (by decide)
  have h2 : ∀ i j, L1.1 (2, i, j) = L.1 (2, i, j) := fun i j => hX _ _ _ (by decide) (by decide)
  have h3 : ∀ i j, L1.1 (3, i, j) = L.1 (3, i, j) := fun i j => hX _ _ _ (by decide) (by decide)
  have h4 : ∀ i j, L1.1 (4, i, j) = L.1 (4, i, j) := fun i j => hX _ _ _ (by decide) (by decide)
  have h5 : ∀ i j, L1.1 (5, i, j) = L.1 (5, i, j) := fun i j => hX _ _ _ (by decide) (by decide)
  have h8 : ∀ i j, L1.1 (8, i, j) = L.1 (8, i, j) := fun i j => hX _ _ _ (by decide) (by decide)
  have h9 : ∀ i j, L1.1 (9, i, j) = L.1 (9, i, j) := fun i j => hX _ _ _ (by decide) (by decide)
  have hel : ∀ id, id ≠ 1 → elC L1.1 id = elC L.1 id := by
    intro id g
    match id, g with
    | 0, _ => exact funext fun j => hX _ _ _ (by decide) (by decide)
    | 1, g => exact absurd rfl g
    | 2, _ => exact funext fun j => hX _ _ _ (by decide) (by decide)
    | k + 3, _ => exact funext fun j => hX _ _ _ (by decide) (by decide)
  have hln : ∀ id, id ≠ 1 → lnC (addM S f) id = lnC S id := by
    intro id g
    match id, g with
    | 0, _ => rfl
    | 1, g => exact absurd rfl g
    | 2, _ => rfl
    | k + 3, _ => rfl
  have hwr : ∀ k g, wrC L1.1 k g = wrC L.1 k g := by
    intro k g
    funext x
    unfold wrC
    rw [h9]
  have hcn : ∀ i, i ≠ 1 → L1.2.1 i = L.2.1 i := fun i g => (congrFun hcp i).trans (rset_n g)
  have hmn : ∀ i, i ≠ 1 → L1.2.2.1 i = L.2.2.1 i := fun i g => (congrFun hmf i).trans (rset_n g)
  refine ⟨L1, h1 0 0, h.1.mv (fun t => t = (5, 1, 0) ∨ t = (6, 1, 0) ∨ t = (10, nM S, 0)) (fun b x hx hn => hF b x hx (fun z => hn (Or.inl z)) (fun z => hn (Or.inr (Or.inl z))) (fun z => hn (Or.inr (Or.inr z)))) (fun t hn => hA t (if_neg (fun z => hn (Or.inr (Or.inr z)))) (fun z => hn (Or.inr (Or.inl z)))) ?_ ?_, ?_⟩
  · rintro ⟨k, i2, j⟩
    revert k
    refine kcase ?_ ?_ ?_ ?_ ?_ ?_ ?_ ?_ ?_ ?_ ?_ ?_ ?_ ?_
    any_goals (first | (intro zt hn; simp only [cC, h2, h3, h4, h5, h8, h9, htr, hwr]; done) | (intro zt hn; simp only [cC, h2, h3, h4, h5, h8, h9, htr, hwr]; rfl) | (intro n zt hn; exact (cC_n _ _ _ _ _ _).trans (cC_n _ _ _ _ _ _).symm) | (intro zt hn; exact (cC_z _ _ _ _ _).trans (cC_z _ _ _ _ _).symm))
    · intro zt hn
      have hj := zT0 zt (by decide) (by decide)
      subst hj
      have hne : i2 ≠ 1 := fun z => hn (Or.inl (by rw [z]))
      simp only [cC, arC, hcn i2 hne, hmn i2 hne, h6 i2 hne, hln i2 hne]
      rfl
    · intro zt hn
      have hj := zT0 zt (by decide) (by decide)
      subst hj
      have hne : i2 ≠ 1 := fun z => hn (Or.inr (Or.inl (by rw [z])))
      simp only [cC, hcn i2 hne, hel i2 hne, hln i2 hne]
      rfl
    · intro zt hn
      have hj := zT0 zt (by decide) (by decide)
      subst hj
      have hne : i2 ≠ nM S := fun z => hn (Or.inr (Or.inr (by rw [z])))
      have hi : i2 < nM S + 1 ↔ i2 < nM S := by omega
      have e2 : mS (addM S f) i2 = mS S i2 := rset_n hne
      have e3 : nM (addM S f) = nM S + 1 := rfl
      simp only [cC, e2, e3, hi]
    · intro zt hn
      show (if i2 < nN S then (if j < nJ (gS S i2) then some (oW (L1.1 (3, (gS S i2 (10 + 3 * j)).toNatClampNeg, 0)) (L1.1 (10, (gS S i2 (11 + 3 * j)).toNatClampNeg, 0)) (gS S i2 (12 + 3 * j))) else none) else none) = (if i2 < nN S then (if j < nJ (gS S i2) then some (oW (L.1 (3, (gS S i2 (10 + 3 * j)).toNatClampNeg, 0)) (L.1 (10, (gS S i2 (11 + 3 * j)).toNatClampNeg, 0)) (gS S i2 (12 + 3 * j))) else none) else none)
      by_cases q1 : i2 < nN S
      · by_cases q2 : j < nJ (gS S i2)
        · have hm := (hJ i2 q1 j q2).1
          rw [h3, h10 _ (Nat.ne_of_lt hm)]
        · rw [if_neg q2, if_neg q2]
      · rw [if_neg q1, if_neg q1]
  · rintro t e zt (rfl | rfl | rfl) hce
    · have e0 : some (oL (L1.2.2.1 1) (arC Γ L1 1) (nM S + 1)) = some e := by
        rw [← hce]
        simp only [cC]
        exact (if_pos (by omega)).symm
      have hz : ¬ L1.2.1 1 = 0 := by rw [hcp, rset_s]; omega
      rw [arC, if_neg hz, he, hmf, rset_s] at e0
      cases e0
      rw [h5]
      exact hA1
    · have e0 : some (aQ Γ.2.1 (L1.2.1 1) (lE (nM S + 1) (elC L1.1 1))) = some e := by
        rw [← hce]
        have hz : ¬ L1.2.1 1 = 0 := by rw [hcp, rset_s]; omega
        simp only [cC]
        rw [if_pos (show 1 < 3 + nN (addM S f) by omega), if_neg hz]
        rfl
      have hee : lE (nM S + 1) (elC L1.1 1) = lE (nM S + 1) (fun j => if j = nM S then q else elC L.1 1 j) := by
        funext x
        unfold lE
        by_cases g : x < nM S + 1
        · rw [if_pos g, if_pos g]
          dsimp only
          by_cases g2 : x = nM S
          · rw [if_pos g2, g2]
            exact congrArg some hqq
          · rw [if_neg g2]
            exact congrArg some (h10 x g2)
        · rw [if_neg g, if_neg g]
      rw [hee, hcp, rset_s] at e0
      cases e0
      rw [he]
      exact hA3
    · have e0 : some (oM (f 0) (f 1) (f 2) (f 3)) = some e := by
        rw [← hce]
        have e2 : mS (addM S f) (nM S) = f := rset_s
        simp only [cC, e2]
        exact (if_pos (show nM S < nM (addM S f) from Nat.lt_succ_self _)).symm
      cases e0
      rw [hqq]
      exact hq
  · intro id hid
    by_cases g : id = 1
    · subst g
      rw [hcp, rset_s]
      exact Or.inl ⟨c1, c2, c3⟩
    · rw [hcn id g, hln id g]
      exact h.2 id hid
theorem RepC.aE (h : RepC Γ L S w) {q e1 cap1 qw : Nat} {q9 : Nat → Nat} {md : Int32} {f : Nat → Int32} (hAL : AL Γ w1 (L.1 (5, 0, 0)) (5, 0, 0) (6, 0, 0) e1 cap1 md (nE S + 1) (fun j => if j = nE S then q else elC L.1 0 j)) (hq : w1 q = some ((7, nE S, 0), oE (f 0) (f 3) (f 4) qw)) (hqw : w1 qw = some ((8, nE S, 0), aV Γ.2.1 10 (fun j => if j < 10 then (if f (5 + 4 * j) = 1 then some (q9 j) else none) else none)))
    (hq9 : ∀ j, j < 10 → f (5 + 4 * j) = 1 → w1 (q9 j) = some ((9, nE S, j), oV (f (6 + 4 * j)) (f (7 + 4 * j)) (f (8 + 4 * j))))
    (hF : ∀ (b : Nat) (x : Tg × va_E), w b = some x → x.1 ≠ (5, 0, 0) → x.1 ≠ (6, 0, 0) → ¬ (7 ≤ x.1.1 ∧ x.1.1 ≤ 9 ∧ x.1.2.1 = nE S) → w1 b = some x) : ∃ L1 : LayC, thC L1 = thC L ∧ RepC Γ L1 (addE S f) w1 := by
  obtain ⟨hA1, hA2 | hA2⟩ := hAL
  case inr => exact absurd hA2.2.1 (by omega)
  obtain ⟨c1, c2, c3, hA3⟩ := hA2
  obtain ⟨L1, hA, hnw, he, hcp, hmf, htr⟩ := lay_ex L 0 e1 (rset L.2.1 0 cap1) (rset L.2.2.1 0 md) (fun t => if t.2.1 = nE S then (if t.1 = 7 then some q else if t.1 = 8 then some qw else if t.1 = 9 then some (q9 t.2.2) else none) else none) (by
    dsimp only
    split
    · rfl
    · rfl)
  have hN : ∀ t : Tg, ¬ (7 ≤ t.1 ∧ t.1 ≤ 9 ∧ t.2.1 = nE S) → (fun t : Tg => if t.2.1 = nE S then (if t.1 = 7 then some q else if t.1 = 8 then some qw else if t.1 = 9 then some (q9 t.2.2) else none) else none) t = none := by
    intro t g
    dsimp only
    by_cases z : t.2.1 = nE S
    · rw [if_pos z, if_neg (fun y => g ⟨by omega, by omega, z⟩), if_neg (fun y => g ⟨by omega, by omega, z⟩), if_neg (fun y => g ⟨by omega, by omega, z⟩)]
    · rw [if_neg z]
  have hX : ∀ k i j, ¬ (6 ≤ k ∧ k ≤ 9) → L1.1 (k, i, j) = L.1 (k, i, j) := fun k i j g1 => hA _ (hN _ (fun z => g1 ⟨Nat.le_trans (by decide) z.1, z.2.1⟩)) (fun z => g1 (by have := congrArg Prod.fst z; dsimp only at this; omega))
  have h6 : ∀ i, i ≠ 0 → L1.1 (6, i, 0) = L.1 (6, i, 0) := fun i g => hA _ (hN _ (fun z => absurd (show 7 ≤ 6 from z.1) (by decide))) (fun z => g (congrArg (fun y : Tg => y.2.1) z))
  have hM : ∀ k i j, i ≠ nE S → 7 ≤ k → L1.1 (k, i, j) = L.1 (k, i, j) := fun k i j g g2 => hA _ (hN _ (fun z => g z.2.2)) (fun z => by have := congrArg Prod.fst z; dsimp only at this; omega)
  have hq7 : L1.1 (7, nE S, 0) = q := hnw _ _ ((if_pos rfl).trans (if_pos rfl))
  have hq8 : L1.1 (8, nE S, 0) = qw := hnw _ _ ((if_pos rfl).trans ((if_neg (show ¬ (8 : Nat) = 7 by decide)).trans (if_pos rfl)))
  have hq99 : ∀ j, L1.1 (9, nE S, j) = q9 j := fun j => hnw _ _ ((if_pos rfl).trans ((if_neg (show ¬ (9 : Nat) = 7 by decide)).trans ((if_neg (show ¬ (9 : Nat) = 8 by decide)).trans (if_pos rfl))))
  have h1 : ∀ i j, L1.1 (1, i, j) = L.1 (1, i, j) := fun i j => hX _ _ _ (by decide)
  have h2 : ∀ i j, L1.1 (2, i, j) = L.1 (2, i, j) := fun i j => hX _ _ _ (by decide)
  have h3 : ∀ i j, L1.1 (3, i, j) = L.1 (3, i, j) := fun i j => hX _ _ _ (by decide)
  have h4 : ∀ i j, L1.1 (4, i, j) = L.1 (4, i, j) := fun i j => hX _ _ _ (by decide)
  have h5 : ∀ i j, L1.1 (5, i, j) = L.1 (5, i, j) := fun i j => hX _ _ _ (by decide)
  have h10 : ∀ i j, L1.1 (10, i, j) = L.1 (10, i, j) := fun i j => hX _ _ _ (by decide)
  have h11 : ∀ i j, L1.1 (11, i, j) = L.1 (11, i, j) := fun i j => hX _ _ _ (by decide)
  have h12 : ∀ i j, L1.1 (12, i, j) = L.1 (12, i, j) := fun i j => hX _ _ _ (by decide)
  have hel : ∀ id, id ≠ 0 → elC L1.1 id = elC L.1 id := by
    intro id g
    match id, g with
    | 0, g => exact absurd rfl g
    | 1, _ => exact funext fun j => h10 _ _
    | 2, _ => exact funext fun j => h11 _ _
    | k + 3, _ => exact funext fun j => h12 _ _
  have hln : ∀ id, id ≠ 0 → lnC (addE S f) id = lnC S id := by
    intro id g
    match id, g with
    | 0, g => exact absurd rfl g
    | 1, _ => rfl
    | 2, _ => rfl
    | k + 3, _ => rfl
  have hcn : ∀ i, i ≠ 0 → L1.2.1 i = L.2.1 i := fun i g => (congrFun hcp i).trans (rset_n g)
  have hmn : ∀ i, i ≠ 0 → L1.2.2.1 i = L.2.2.1 i := fun i g => (congrFun hmf i).trans (rset_n g)
  have e3 : nE (addE S f) = nE S + 1 := rfl
  have hz : ¬ L1.2.1 0 = 0 := by rw [hcp, rset_s]; omega
  have hwn : wrC L1.1 (nE S) f = (fun j => if j < 10 then (if f (5 + 4 * j) = 1 then some (q9 j) else none) else none) := by
    funext x
    unfold wrC
    rw [hq99]
  have hwr : ∀ k g, k ≠ nE S → wrC L1.1 k g = wrC L.1 k g := by
    intro k g hk
    funext x
    unfold wrC
    rw [hM 9 k x hk (by decide)]
  refine ⟨L1, h1 0 0, h.1.mv (fun t => t = (5, 0, 0) ∨ t = (6, 0, 0) ∨ (7 ≤ t.1 ∧ t.1 ≤ 9 ∧ t.2.1 = nE S)) (fun b x hx hn => hF b x hx (fun z => hn (Or.inl z)) (fun z => hn (Or.inr (Or.inl z))) (fun z => hn (Or.inr (Or.inr z)))) (fun t hn => hA t (hN _ (fun z => hn (Or.inr (Or.inr z)))) (fun z => hn (Or.inr (Or.inl z)))) ?_ ?_, ?_⟩
  · rintro ⟨k, i2, j⟩
    revert k
    refine kcase ?_ ?_ ?_ ?_ ?_ ?_ ?_ ?_ ?_ ?_ ?_ ?_ ?_ ?_
    any_goals (first | (intro zt hn; simp only [cC, h2, h3, h4, h5, h10, h11, h12, htr]; done) | (intro zt hn; simp only [cC, h2, h3, h4, h5, h10, h11, h12, htr]; rfl) | (intro n zt hn; exact (cC_n _ _ _ _ _ _).trans (cC_n _ _ _ _ _ _).symm) | (intro zt hn; exact (cC_z _ _ _ _ _).trans (cC_z _ _ _ _ _).symm))
    · intro zt hn
      have hj := zT0 zt (by decide) (by decide)
      subst hj
      have hne : i2 ≠ 0 := fun z => hn (Or.inl (by rw [z]))
      simp only [cC, arC, hcn i2 hne, hmn i2 hne, h6 i2 hne, hln i2 hne]
      rfl
    · intro zt hn
      have hj := zT0 zt (by decide) (by decide)
      subst hj
      have hne : i2 ≠ 0 := fun z => hn (Or.inr (Or.inl (by rw [z])))
      simp only [cC, hcn i2 hne, hel i2 hne, hln i2 hne]
      rfl
    · intro zt hn
      have hj := zT0 zt (by decide) (by decide)
      subst hj
      have hne : i2 ≠ nE S := fun z => hn (Or.inr (Or.inr ⟨Nat.le_of_ble_eq_true rfl, Nat.le_of_ble_eq_true rfl, z⟩))
      have hi : i2 < nE S + 1 ↔ i2 < nE S := by omega
      have e2 : eS (addE S f) i2 = eS S i2 := rset_n hne
      simp only [cC, e2, e3, hi, hM 8 i2 0 hne (by decide)]
    · intro zt hn
      have hj := zT0 zt (by decide) (by decide)
      subst hj
      have hne : i2 ≠ nE S := fun z => hn (Or.inr (Or.inr ⟨Nat.le_of_ble_eq_true rfl, Nat.le_of_ble_eq_true rfl, z⟩))
      have hi : i2 < nE S + 1 ↔ i2 < nE S := by omega
      have e2 : eS (addE S f) i2 = eS S i2 := rset_n hne
      simp only [cC, e2, e3, hi, hwr i2 _ hne]
    · intro zt hn
      have hne : i2 ≠ nE S := fun z => hn (Or.inr (Or.inr ⟨Nat.le_of_ble_eq_true rfl, Nat.le_of_ble_eq_true rfl, z⟩))
      have hi : i2 < nE S + 1 ↔ i2 < nE S := by omega
      have e2 : eS (addE S f) i2 = eS S i2 := rset_n hne
      simp only [cC, e2, e3, hi]
  · rintro t e zt (rfl | rfl | ht) hce
    · have e0 : some (oL (L1.2.2.1 0) (arC Γ L1 0) (nE S + 1)) = some e := by
        rw [← hce]
        simp only [cC]
        exact (if_pos (by omega)).symm
      rw [arC, if_neg hz, he, hmf, rset_s] at e0
      cases e0
      rw [h5]
      exact hA1
    · have e0 : some (aQ Γ.2.1 (L1.2.1 0) (lE (nE S + 1) (elC L1.1 0))) = some e := by
        rw [← hce]
        simp only [cC]
        rw [if_pos (show 0 < 3 + nN (addE S f) by omega), if_neg hz]
        rfl
      have hee : lE (nE S + 1) (elC L1.1 0) = lE (nE S + 1) (fun j => if j = nE S then q else elC L.1 0 j) := by
        funext x
        unfold lE
        by_cases g : x < nE S + 1
        · rw [if_pos g, if_pos g]
          dsimp only
          by_cases g2 : x = nE S
          · rw [if_pos g2, g2]
            exact congrArg some hq7
          · rw [if_neg g2]
            exact congrArg some (hM 7 x 0 g2 (by decide))
        · rw [if_neg g, if_neg g]
      rw [hee, hcp, rset_s] at e0
      cases e0
      rw [he]
      exact hA3
    · obtain ⟨k, i, j⟩ := t
      obtain ⟨ht1, ht2, ht3⟩ := ht
      dsimp only at ht1 ht2 ht3
      subst ht3
      have e2 : eS (addE S f) (nE S) = f := rset_s
      have hlt : nE S < nE S + 1 := Nat.lt_succ_self _
      rcases (show k = 7 ∨ k = 8 ∨ k = 9 by omega) with rfl | rfl | rfl
      · have hj := zT0 zt (by decide) (by decide)
        subst hj
        simp only [cC, e2, e3, if_pos hlt, hq8] at hce
        cases hce
        rw [hq7]
        exact hq
      · have hj := zT0 zt (by decide) (by decide)
        subst hj
        simp only [cC, e2, e3, if_pos hlt, hwn] at hce
        cases hce
        rw [hq8]
        exact hqw
      · simp only [cC, e2, e3, if_pos hlt] at hce
        split at hce
        · rename_i g1
          split at hce
          · rename_i g2
            cases hce
            rw [hq99]
            exact hq9 j g1 g2
          · cases hce
        · cases hce
  · intro id hid
    by_cases g : id = 0
    · subst g
      rw [hcp, rset_s]
      exact Or.inl ⟨c1, c2, c3⟩
    · rw [hcn id g, hln id g]
      exact h.2 id hid
theorem RepC.aN (h : RepC Γ L S w) {q e1 cap1 ql : Nat} {md : Int32} {f : Nat → Int32} (h0 : nJ f = 0) (hAL : AL Γ w1 (L.1 (5, 2, 0)) (5, 2, 0) (6, 2, 0) e1 cap1 md (nN S + 1) (fun j => if j = nN S then q else elC L.1 2 j)) (hq : w1 q = some ((11, nN S, 0), oP (f 1) (f 2) (f 3) (f 4) (f 5) ql (f 0) (mk1 (f 8)) (mk2 (f 8)) (f 9))) (hql : w1 ql = some ((5, nN S + 3, 0), oL 0 Γ.2.2.2.1 0))
    (hF : ∀ (b : Nat) (x : Tg × va_E), w b = some x → x.1 ≠ (5, 2, 0) → x.1 ≠ (6, 2, 0) → x.1 ≠ (11, nN S, 0) → x.1 ≠ (5, nN S + 3, 0) → w1 b = some x) : ∃ L1 : LayC, thC L1 = thC L ∧ RepC Γ L1 (addN S f) w1 := by
  obtain ⟨hA1, hA2 | hA2⟩ := hAL
  case inr => exact absurd hA2.2.1 (by omega)
  obtain ⟨c1, c2, c3, hA3⟩ := hA2
  obtain ⟨L1, hA, hnw, he, hcp, hmf, htr⟩ := lay_ex L 2 e1 (rset (rset L.2.1 2 cap1) (nN S + 3) 0) (rset (rset L.2.2.1 2 md) (nN S + 3) 0) (fun t => if t = (11, nN S, 0) then some q else if t = (5, nN S + 3, 0) then some ql else none) rfl
  have hN : ∀ t : Tg, t ≠ (11, nN S, 0) → t ≠ (5, nN S + 3, 0) → (fun t : Tg => if t = (11, nN S, 0) then some q else if t = (5, nN S + 3, 0) then some ql else none) t = none := fun t g1 g2 => (if_neg g1).trans (if_neg g2)
  have hX : ∀ k i j, ¬ (k = 5 ∨ k = 6 ∨ k = 11) → L1.1 (k, i, j) = L.1 (k, i, j) := fun k i j g1 => hA _ (hN _ (fun z => g1 (Or.inr (Or.inr (congrArg Prod.fst z)))) (fun z => g1 (Or.inl (congrArg Prod.fst z)))) (fun z => g1 (Or.inr (Or.inl (congrArg Prod.fst z))))
  have h6 : ∀ i, i ≠ 2 → L1.1 (6, i, 0) = L.1 (6, i, 0) := fun i g => hA _ (hN _ (by intro z; cases z) (by intro z; cases z)) (fun z => g (congrArg (fun y : Tg => y.2.1) z))
  have h5 : ∀ i j, i ≠ nN S + 3 → L1.1 (5, i, j) = L.1 (5, i, j) := fun i j g => hA _ (hN _ (by intro z; cases z) (fun z => g (congrArg (fun y : Tg => y.2.1) z))) (by intro z; cases z)
  have h11 : ∀ i j, i ≠ nN S → L1.1 (11, i, j) = L.1 (11, i, j) := fun i j g => hA _ (hN _ (fun z => g (congrArg (fun y : Tg => y.2.1) z)) (by intro z; cases z)) (by intro z; cases z)
  have hqn : L1.1 (11, nN S, 0) = q := hnw _ _ (if_pos rfl)
  have hqll : L1.1 (5, nN S + 3, 0) = ql := hnw _ _ ((if_neg (by intro z; cases z)).trans (if_pos rfl))
  have h1 : ∀ i j, L1.1 (1, i, j) = L.1 (1, i, j) := fun i j => hX _ _ _ (by decide)
  have h2 : ∀ i j, L1.1 (2, i, j) = L.1 (2, i, j) := fun i j => hX _ _ _ (by decide)
  have h3 : ∀ i j, L1.1 (3, i, j) = L.1 (3, i, j) := fun i j => hX _ _ _ (by decide)
  have h4 : ∀ i j, L1.1 (4, i, j) = L.1 (4, i, j) := fun i j => hX _ _ _ (by decide)
  have h7 : ∀ i j, L1.1 (7, i, j) = L.1 (7, i, j) := fun i j => hX _ _ _ (by decide)
  have h8 : ∀ i j, L1.1 (8, i, j) = L.1 (8, i, j) := fun i j => hX _ _ _ (by decide)
  have h9 : ∀ i j, L1.1 (9, i, j) = L.1 (9, i, j) := fun i j => hX _ _ _ (by decide)
  have h10 : ∀ i j, L1.1 (10, i, j) = L.1 (10, i, j) := fun i j => hX _ _ _ (by decide)
  have h12 : ∀ i j, L1.1 (12, i, j) = L.1 (12, i, j) := fun i j => hX _ _ _ (by decide)
  have h50 : L1.1 (5, 0, 0) = L.1 (5, 0, 0) := h5 0 0 (by omega)
  have h51 : L1.1 (5, 1, 0) = L.1 (5, 1, 0) := h5 1 0 (by omega)
  have h52 : L1.1 (5, 2, 0) = L.1 (5, 2, 0) := h5 2 0 (by omega)
  have hel : ∀ id, id ≠ 2 → elC L1.1 id = elC L.1 id := by
    intro id g
    match id, g with
    | 0, _ => exact funext fun j => h7 _ _
    | 1, _ => exact funext fun j => h10 _ _
    | 2, g => exact absurd rfl g
    | k + 3, _ => exact funext fun j => h12 _ _
  have e3 : nN (addN S f) = nN S + 1 := rfl
  have e4 : ∀ i, i ≠ nN S → gS (addN S f) i = gS S i := fun i g => rset_n g
  have e5 : gS (addN S f) (nN S) = f := rset_s
  have hln : ∀ id, id ≠ 2 → id ≠ nN S + 3 → lnC (addN S f) id = lnC S id := by
    intro id g g2
    match id, g, g2 with
    | 0, _, _ => rfl
    | 1, _, _ => rfl
    | 2, g, _ => exact absurd rfl g
    | k + 3, _, g2 =>
      show nJ (gS (addN S f) k) = nJ (gS S k)
      rw [e4 k (by omega)]
  have hwr : ∀ k g, wrC L1.1 k g = wrC L.1 k g := by
    intro k g
    funext x
    unfold wrC
    rw [h9]
  have hcn : ∀ i, i ≠ 2 → i ≠ nN S + 3 → L1.2.1 i = L.2.1 i := fun i g g2 => (congrFun hcp i).trans ((rset_n g2).trans (rset_n g))
  have hmn : ∀ i, i ≠ 2 → i ≠ nN S + 3 → L1.2.2.1 i = L.2.2.1 i := fun i g g2 => (congrFun hmf i).trans ((rset_n g2).trans (rset_n g))
  have hc2 : L1.2.1 2 = cap1 := (congrFun hcp 2).trans ((rset_n (by omega)).trans rset_s)
  have hm2 : L1.2.2.1 2 = md := (congrFun hmf 2).trans ((rset_n (by omega)).trans rset_s)
  have hcl : L1.2.1 (nN S + 3) = 0 := (congrFun hcp _).trans rset_s
  have hml : L1.2.2.1 (nN S + 3) = 0 := (congrFun hmf _).trans rset_s
  have hz : ¬ L1.2.1 2 = 0 := by rw [hc2]; omega
  have hl2 : lnC (addN S f) 2 = nN S + 1 := rfl
  have hl3 : lnC (addN S f) (nN S + 3) = 0 := by
    show nJ (gS (addN S f) (nN S)) = 0
    rw [e5]
    exact h0
  refine ⟨L1, h1 0 0, h.1.mv (fun t => t = (5, 2, 0) ∨ t = (6, 2, 0) ∨ t = (11, nN S, 0) ∨ t = (5, nN S + 3, 0) ∨ t = (6, nN S + 3, 0)) (fun b x hx hn => hF b x hx (fun z => hn (Or.inl z)) (fun z => hn (Or.inr (Or.inl z))) (fun z => hn (Or.inr (Or.inr (Or.inl z)))) (fun z => hn (Or.inr (Or.inr (Or.inr (Or.inl z)))))) (fun t hn => hA t (hN _ (fun z => hn (Or.inr (Or.inr (Or.inl z)))) (fun z => hn (Or.inr (Or.inr (Or.inr (Or.inl z)))))) (fun z => hn (Or.inr (Or.inl z)))) ?_ ?_, ?_⟩
  · rintro ⟨k, i2, j⟩
    revert k
    refine kcase ?_ ?_ ?_ ?_ ?_ ?_ ?_ ?_ ?_ ?_ ?_ ?_ ?_ ?_
    any_goals (first | (intro zt hn; simp only [cC, h2, h3, h4, h50, h51, h52, h7, h8, h9, h10, htr, hwr]; done) | (intro zt hn; simp only [cC, h2, h3, h4, h50, h51, h52, h7, h8, h9, h10, htr, hwr]; rfl) | (intro n zt hn; exact (cC_n _ _ _ _ _ _).trans (cC_n _ _ _ _ _ _).symm) | (intro zt hn; exact (cC_z _ _ _ _ _).trans (cC_z _ _ _ _ _).symm))
    · intro zt hn
      have hj := zT0 zt (by decide) (by decide)
      subst hj
      have hne : i2 ≠ 2 := fun z => hn (Or.inl (by rw [z]))
      have hne2 : i2 ≠ nN S + 3 := fun z => hn (Or.inr (Or.inr (Or.inr (Or.inl (by rw [z])))))
      have hi : i2 < 3 + (nN S + 1) ↔ i2 < 3 + nN S := by omega
      simp only [cC, arC, hcn i2 hne hne2, hmn i2 hne hne2, h6 i2 hne, hln i2 hne hne2, e3, hi]
    · intro zt hn
      have hj := zT0 zt (by decide) (by decide)
      subst hj
      have hne : i2 ≠ 2 := fun z => hn (Or.inr (Or.inl (by rw [z])))
      have hne2 : i2 ≠ nN S + 3 := fun z => hn (Or.inr (Or.inr (Or.inr (Or.inr (by rw [z])))))
      have hi : i2 < 3 + (nN S + 1) ↔ i2 < 3 + nN S := by omega
      simp only [cC, hcn i2 hne hne2, hel i2 hne, hln i2 hne hne2, e3, hi]
    · intro zt hn
      have hj := zT0 zt (by decide) (by decide)
      subst hj
      have hne : i2 ≠ nN S := fun z => hn (Or.inr (Or.inr (Or.inl (by rw [z]))))
      have hi : i2 < nN S + 1 ↔ i2 < nN S := by omega
      simp only [cC, e4 i2 hne, e3, hi, h5 (i2 + 3) 0 (by omega)]
    · intro zt hn
      by_cases q1 : i2 = nN S
      · subst q1
        have g1 : ¬ nN S < nN S := by omega
        have g2 : ¬ j < nJ f := by omega
        simp only [cC, e5, if_neg g1, if_neg g2]
        split <;> rfl
      · have hi : i2 < nN S + 1 ↔ i2 < nN S := by omega
        simp only [cC, e4 i2 q1, e3, hi, h3, h10]
  · rintro t e zt (rfl | rfl | rfl | rfl | rfl) hce
    · have hlt : 2 < 3 + (nN S + 1) := by omega
      simp only [cC, e3, if_pos hlt, hm2, arC, if_neg hz, he, hl2] at hce
      cases hce
      rw [h52]
      exact hA1
    · have hlt : 2 < 3 + (nN S + 1) := by omega
      have hee : lE (nN S + 1) (elC L1.1 2) = lE (nN S + 1) (fun j => if j = nN S then q else elC L.1 2 j) := by
        funext x
        unfold lE
        by_cases g : x < nN S + 1
        · rw [if_pos g, if_pos g]
          dsimp only
          by_cases g2 : x = nN S
          · rw [if_pos g2, g2]
            exact congrArg some hqn
          · rw [if_neg g2]
            exact congrArg some (h11 x 0 g2)
        · rw [if_neg g, if_neg g]
      simp only [cC, e3, if_pos hlt, hl2, hee, hc2, if_neg (show ¬ cap1 = 0 by omega)] at hce
      cases hce
      rw [he]
      exact hA3
    · have hlt : nN S < nN S + 1 := Nat.lt_succ_self _
      simp only [cC, e3, e5, if_pos hlt, hqll] at hce
      cases hce
      rw [hqn]
      exact hq
    · have hlt : nN S + 3 < 3 + (nN S + 1) := by omega
      simp only [cC, e3, if_pos hlt, hml, arC, hcl, if_pos, hl3] at hce
      cases hce
      rw [hqll]
      exact hql
    · simp only [cC, hcl, if_pos] at hce
      split at hce <;> cases hce
  · intro id hid
    by_cases g : id = 2
    · subst g
      rw [hc2]
      exact Or.inl ⟨c1, c2, c3⟩
    · by_cases g2 : id = nN S + 3
      · subst g2
        exact Or.inr ⟨hcl, hl3⟩
      · rw [hcn id g g2, hln id g g2]
        refine h.2 id ?_
        have hid2 : id < 3 + (nN S + 1) := hid
        omega
/-- a work is put into night k -/
theorem RepC.aJ (h : RepC Γ L S w) {k n q e1 cap1 : Nat} {md : Int32} {f : Nat → Int32} (hk : k < nN S) (hn0 : nJ (gS S k) = n) (hn1 : nJ f = n + 1) (hrow : ∀ x, x ≠ 6 → x ≠ 7 → x < 10 + 3 * n → f x = gS S k x)
    (hAL : AL Γ w1 (L.1 (5, k + 3, 0)) (5, k + 3, 0) (6, k + 3, 0) e1 cap1 md (n + 1) (fun j => if j = n then q else elC L.1 (k + 3) j)) (hq : w1 q = some ((12, k, n), oW (L.1 (3, (f (10 + 3 * n)).toNatClampNeg, 0)) (L.1 (10, (f (11 + 3 * n)).toNatClampNeg, 0)) (f (12 + 3 * n))))
    (hF : ∀ (b : Nat) (x : Tg × va_E), w b = some x → x.1 ≠ (5, k + 3, 0) → x.1 ≠ (6, k + 3, 0) → x.1 ≠ (12, k, n) → w1 b = some x) : ∃ L1 : LayC, thC L1 = thC L ∧ L1.1 (11, k, 0) = L.1 (11, k, 0) ∧ RepC Γ L1 (setN S k f) w1 := by
  obtain ⟨hA1, hA2 | hA2⟩ := hAL
  case inr => exact absurd hA2.2.1 (by omega)
  obtain ⟨c1, c2, c3, hA3⟩ := hA2
  obtain ⟨L1, hA, hnw, he, hcp, hmf, htr⟩ := lay_ex L (k + 3) e1 (rset L.2.1 (k + 3) cap1) (rset L.2.2.1 (k + 3) md) (fun t => if t = (12, k, n) then some q else none) rfl
  have hX : ∀ k1 i j, ¬ (k1 = 6 ∨ k1 = 12) → L1.1 (k1, i, j) = L.1 (k1, i, j) := fun k1 i j g1 => hA _ (if_neg (fun z => g1 (Or.inr (congrArg Prod.fst z)))) (fun z => g1 (Or.inl (congrArg Prod.fst z)))
  have h6 : ∀ i, i ≠ k + 3 → L1.1 (6, i, 0) = L.1 (6, i, 0) := fun i g => hA _ rfl (fun z => g (congrArg (fun y : Tg => y.2.1) z))
  have h12 : ∀ i j, ¬ (i = k ∧ j = n) → L1.1 (12, i, j) = L.1 (12, i, j) := fun i j g => hA _ (if_neg (fun z => g ⟨congrArg (fun y : Tg => y.2.1) z, congrArg (fun y : Tg => y.2.2) z⟩)) (by intro z; cases z)
  have hqq : L1.1 (12, k, n) = q := hnw _ _ (if_pos rfl)
  have h1 : ∀ i j, L1.1 (1, i, j) = L.1 (1, i, j) := fun i j => hX _ _ _ (by decide)
  have h2 : ∀ i j, L1.1 (2, i, j) = L.1 (2, i, j) := fun i j => hX _ _ _ (by decide)
  have h3 : ∀ i j, L1.1 (3, i, j) = L.1 (3, i, j) := fun i j => hX _ _ _ (by decide)
  have h4 : ∀ i j, L1.1 (4, i, j) = L.1 (4, i, j) := fun i j => hX _ _ _ (by decide)
  have h5 : ∀ i j, L1.1 (5, i, j) = L.1 (5, i, j) := fun i j => hX _ _ _ (by decide)
  have h7 : ∀ i j, L1.1 (7, i, j) = L.1 (7, i, j) := fun i j => hX _ _ _ (by decide)
  have h8 : ∀ i j, L1.1 (8, i, j) = L.1 (8, i, j) := fun i j => hX _ _ _ (by decide)
  have h9 : ∀ i j, L1.1 (9, i, j) = L.1 (9, i, j) := fun i j => hX _ _ _ (by decide)
  have h10 : ∀ i j, L1.1 (10, i, j) = L.1 (10, i, j) := fun i j => hX _ _ _ (by decide)
  have h11 : ∀ i j, L1.1 (11, i, j) = L.1 (11, i, j) := fun i j => hX _ _ _ (by decide)
  have e3 : nN (setN S k f) = nN S := rfl
  have e4 : ∀ i, i ≠ k → gS (setN S k f) i = gS S i := fun i g => rset_n g
  have e5 : gS (setN S k f) k = f := rset_s
  have hel : ∀ id, id ≠ k + 3 → elC L1.1 id = elC L.1 id := by
    intro id g
    match id, g with
    | 0, _ => exact funext fun j => h7 _ _
    | 1, _ => exact funext fun j => h10 _ _
    | 2, _ => exact funext fun j => h11 _ _
    | i + 3, g => exact funext fun j => h12 _ _ (fun z => g (by omega))
  have hln : ∀ id, id ≠ k + 3 → lnC (setN S k f) id = lnC S id := by
    intro id g
    match id, g with
    | 0, _ => rfl
    | 1, _ => rfl
    | 2, _ => rfl
    | i + 3, g =>
      show nJ (gS (setN S k f) i) = nJ (gS S i)
      rw [e4 i (by omega)]
  have hwr : ∀ k g, wrC L1.1 k g = wrC L.1 k g := by
    intro k g
    funext x
    unfold wrC
    rw [h9]
  have hcn : ∀ i, i ≠ k + 3 → L1.2.1 i = L.2.1 i := fun i g => (congrFun hcp i).trans (rset_n g)
  have hmn : ∀ i, i ≠ k + 3 → L1.2.2.1 i = L.2.2.1 i := fun i g => (congrFun hmf i).trans (rset_n g)
  have hck : L1.2.1 (k + 3) = cap1 := (congrFun hcp _).trans rset_s
  have hmk : L1.2.2.1 (k + 3) = md := (congrFun hmf _).trans rset_s
  have hz : ¬ L1.2.1 (k + 3) = 0 := by rw [hck]; omega
  have hlk : lnC (setN S k f) (k + 3) = n + 1 := by
    show nJ (gS (setN S k f) k) = n + 1
    rw [e5]
    exact hn1
  have hltk : k + 3 < 3 + nN S := by omega
  refine ⟨L1, h1 0 0, h11 _ _, h.1.mv (fun t => t = (5, k + 3, 0) ∨ t = (6, k + 3, 0) ∨ t = (12, k, n)) (fun b x hx hn => hF b x hx (fun z => hn (Or.inl z)) (fun z => hn (Or.inr (Or.inl z))) (fun z => hn (Or.inr (Or.inr z)))) (fun t hn => hA t (if_neg (fun z => hn (Or.inr (Or.inr z)))) (fun z => hn (Or.inr (Or.inl z)))) ?_ ?_, ?_⟩
  · rintro ⟨k1, i2, j⟩
    revert k1
    refine kcase ?_ ?_ ?_ ?_ ?_ ?_ ?_ ?_ ?_ ?_ ?_ ?_ ?_ ?_
    any_goals (first | (intro zt hn; simp only [cC, h2, h3, h4, h5, h7, h8, h9, h10, htr, hwr]; done) | (intro zt hn; simp only [cC, h2, h3, h4, h5, h7, h8, h9, h10, htr, hwr]; rfl) | (intro n zt hn; exact (cC_n _ _ _ _ _ _).trans (cC_n _ _ _ _ _ _).symm) | (intro zt hn; exact (cC_z _ _ _ _ _).trans (cC_z _ _ _ _ _).symm))
    · intro zt hn
      have hj := zT0 zt (by decide) (by decide)
      subst hj
      have hne : i2 ≠ k + 3 := fun z => hn (Or.inl (by rw [z]))
      simp only [cC, arC, hcn i2 hne, hmn i2 hne, h6 i2 hne, hln i2 hne, e3]
    · intro zt hn
      have hj := zT0 zt (by decide) (by decide)
      subst hj
      have hne : i2 ≠ k + 3 := fun z => hn (Or.inr (Or.inl (by rw [z])))
      simp only [cC, hcn i2 hne, hel i2 hne, hln i2 hne, e3]
    · intro zt hn
      have hj := zT0 zt (by decide) (by decide)
      subst hj
      by_cases g : i2 = k
      · subst g
        simp only [cC, e5, e3, h5, hrow 0 (by decide) (by decide) (by omega), hrow 1 (by decide) (by decide) (by omega), hrow 2 (by decide) (by decide) (by omega), hrow 3 (by decide) (by decide) (by omega), hrow 4 (by decide) (by decide) (by omega), hrow 5 (by decide) (by decide) (by omega), hrow 8 (by decide) (by decide) (by omega), hrow 9 (by decide) (by decide) (by omega)]
      · simp only [cC, e4 i2 g, e3, h5]
    · intro zt hn
      by_cases g : i2 = k
      · subst g
        have hjn : j ≠ n := fun z => hn (Or.inr (Or.inr (by rw [z])))
        have hi : j < n + 1 ↔ j < n := by omega
        simp only [cC, e5, e3, h3, h10, hn0, hn1, hi]
        by_cases g2 : j < n
        · rw [hrow (10 + 3 * j) (by omega) (by omega) (by omega), hrow (11 + 3 * j) (by omega) (by omega) (by omega), hrow (12 + 3 * j) (by omega) (by omega) (by omega)]
        · rw [if_neg g2, if_neg g2]
      · simp only [cC, e4 i2 g, e3, h3, h10]
  · rintro t e zt (rfl | rfl | rfl) hce
    · simp only [cC, e3, if_pos hltk, hmk, arC, if_neg hz, he, hlk] at hce
      cases hce
      rw [h5]
      exact hA1
    · have hee : lE (n + 1) (elC L1.1 (k + 3)) = lE (n + 1) (fun j => if j = n then q else elC L.1 (k + 3) j) := by
        funext x
        unfold lE
        by_cases g : x < n + 1
        · rw [if_pos g, if_pos g]
          dsimp only
          by_cases g2 : x = n
          · rw [if_pos g2, g2]
            exact congrArg some hqq
          · rw [if_neg g2]
            exact congrArg some (h12 k x (fun z => g2 z.2))
        · rw [if_neg g, if_neg g]
      simp only [cC, e3, if_pos hltk, hlk, hee, hck, if_neg (show ¬ cap1 = 0 by omega)] at hce
      cases hce
      rw [he]
      exact hA3
    · have hlt : n < n + 1 := Nat.lt_succ_self _
      simp only [cC, e3, e5, if_pos hk, hn1, if_pos hlt, h3, h10] at hce
      cases hce
      rw [hqq]
      exact hq
  · intro id hid
    by_cases g : id = k + 3
    · subst g
      rw [hck, hlk]
      exact Or.inl ⟨c1, c2, c3⟩
    · rw [hcn id g, hln id g]
      exact h.2 id hid
end ADD
