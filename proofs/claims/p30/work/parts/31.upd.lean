/-! Changes of the class's state, cell by cell -/
theorem Hold.up {w w1 : Wd} {a : Tg → Nat} {c c1 : Nat → Nat → Nat → Option va_E} (h : Hold w a c) (T : Tg → Prop) (hF : ∀ (b : Nat) (x : Tg × va_E), w b = some x → ¬ T x.1 → w1 b = some x)
    (hc : ∀ t : Tg, zT t → ¬ T t → c1 t.1 t.2.1 t.2.2 = c t.1 t.2.1 t.2.2) (hT : ∀ (t : Tg) (e : va_E), zT t → T t → c1 t.1 t.2.1 t.2.2 = some e → w1 (a t) = some (t, e)) : Hold w1 a c1 := by
  intro t e zt ht
  by_cases q : T t
  · exact hT t e zt q ht
  · rw [hc t zt q] at ht
    exact hF _ _ (h t e zt ht) q
theorem kcase {P : Nat → Prop} (h0 : P 0) (h1 : P 1) (h2 : P 2) (h3 : P 3) (h4 : P 4) (h5 : P 5) (h6 : P 6) (h7 : P 7) (h8 : P 8) (h9 : P 9) (h10 : P 10) (h11 : P 11) (h12 : P 12) (hn : ∀ n, P (n + 13)) : ∀ k, P k := fun k => match k with
  | 0 => h0 | 1 => h1 | 2 => h2 | 3 => h3 | 4 => h4 | 5 => h5 | 6 => h6 | 7 => h7 | 8 => h8 | 9 => h9 | 10 => h10 | 11 => h11 | 12 => h12 | n + 13 => hn n
theorem zT0 {k i j : Nat} (h : zT (k, i, j)) (h9 : k ≠ 9) (h12 : k ≠ 12) : j = 0 := by
  rcases h with h | h | h
  · exact absurd h h9
  · exact absurd h h12
  · exact h
theorem cC_n (Γ : Gw) (L : LayC) (S : St) (n a b : Nat) : cC Γ L S (n + 13) a b = none := rfl
theorem cC_z (Γ : Gw) (L : LayC) (S : St) (a b : Nat) : cC Γ L S 0 a b = none := rfl
section UP
variable {Γ : Gw} {L : LayC} {S : St} {w w1 : Wd}
theorem rc_setS (h : RepC Γ L S w) {i : Nat} {f : Nat → Int32} (hi : i < 20) (h3 : w1 (L.1 (3, i, 0)) = some ((3, i, 0), oS (L.1 (4, i, 0)) (f 3) (f 4) (f 5) (f 6))) (h4 : w1 (L.1 (4, i, 0)) = some ((4, i, 0), oV (f 0) (f 1) (f 2))) (hF : Fr2 (3, i, 0) (4, i, 0) w w1) : RepC Γ L (setS S i f) w1 := by
  refine ⟨h.1.up (fun t => t = (3, i, 0) ∨ t = (4, i, 0)) (fun b x hx hn => hF b x hx (fun q => hn (Or.inl q)) (fun q => hn (Or.inr q))) ?_ ?_, h.2⟩
  · rintro ⟨k, i2, j⟩
    revert k
    refine kcase ?_ ?_ ?_ ?_ ?_ ?_ ?_ ?_ ?_ ?_ ?_ ?_ ?_ ?_
    any_goals (first | (intro zt hn; simp only [cC]; done) | (intro zt hn; simp only [cC]; rfl) | (intro n zt hn; exact (cC_n _ _ _ _ _ _).trans (cC_n _ _ _ _ _ _).symm) | (intro zt hn; exact (cC_z _ _ _ _ _).trans (cC_z _ _ _ _ _).symm))
    · intro zt hn
      have hj := zT0 zt (by decide) (by decide)
      subst hj
      have hne : i2 ≠ i := fun q => hn (Or.inl (by rw [q]))
      show cC Γ L (setS S i f) 3 i2 0 = _
      simp only [cC, setS, sS, rset_n hne]
    · intro zt hn
      have hj := zT0 zt (by decide) (by decide)
      subst hj
      have hne : i2 ≠ i := fun q => hn (Or.inr (by rw [q]))
      show cC Γ L (setS S i f) 4 i2 0 = _
      simp only [cC, setS, sS, rset_n hne]
  · rintro t e zt (rfl | rfl) he
    · have he2 : (if i < 20 then some (oS (L.1 (4, i, 0)) (rset S.1 i f i 3) (rset S.1 i f i 4) (rset S.1 i f i 5) (rset S.1 i f i 6)) else _) = some e := he
      rw [if_pos hi, rset_s] at he2
      cases he2
      exact h3
    · have he2 : (if i < 20 then some (oV (rset S.1 i f i 0) (rset S.1 i f i 1) (rset S.1 i f i 2)) else _) = some e := he
      rw [if_pos hi, rset_s] at he2
      cases he2
      exact h4
theorem rc_setM (h : RepC Γ L S w) {i : Nat} {f : Nat → Int32} (h1 : w1 (L.1 (10, i, 0)) = some ((10, i, 0), oM (f 0) (f 1) (f 2) (f 3))) (hF : Fr2 (10, i, 0) (10, i, 0) w w1) : RepC Γ L (setM S i f) w1 := by
  refine ⟨h.1.up (fun t => t = (10, i, 0)) (fun b x hx hn => hF b x hx hn hn) ?_ ?_, ?_⟩
  · rintro ⟨k, i2, j⟩
    revert k
    refine kcase ?_ ?_ ?_ ?_ ?_ ?_ ?_ ?_ ?_ ?_ ?_ ?_ ?_ ?_
    any_goals (first | (intro zt hn; simp only [cC]; done) | (intro zt hn; simp only [cC]; rfl) | (intro n zt hn; exact (cC_n _ _ _ _ _ _).trans (cC_n _ _ _ _ _ _).symm) | (intro zt hn; exact (cC_z _ _ _ _ _).trans (cC_z _ _ _ _ _).symm))
    · intro zt hn
      have hj := zT0 zt (by decide) (by decide)
      subst hj
      have hne : i2 ≠ i := fun q => hn (by rw [q])
      show cC Γ L (setM S i f) 10 i2 0 = _
      simp only [cC, setM, mS, nM, rset_n hne]
  · rintro t e zt rfl he
    have he2 : (if i < nM S then some (oM (rset S.2.1.2 i f i 0) (rset S.2.1.2 i f i 1) (rset S.2.1.2 i f i 2) (rset S.2.1.2 i f i 3)) else none) = some e := he
    rw [rset_s] at he2
    split at he2
    · cases he2
      exact h1
    · cases he2
  · intro id hid
    have hl : lnC (setM S i f) id = lnC S id := by
      rcases id with _ | _ | _ | id <;> rfl
    rw [hl]
    exact h.2 id hid
theorem rc_setG (h : RepC Γ L S w) {f : Nat → Int32} (h1 : w1 (L.1 (1, 0, 0)) = some ((1, 0, 0), oT (L.1 (2, 0, 0)) (L.1 (5, 0, 0)) (L.1 (5, 1, 0)) (L.1 (5, 2, 0)) (L.1 (4, 21, 0)) (L.1 (3, 20, 0)) f)) (hF : Fr2 (1, 0, 0) (1, 0, 0) w w1) : RepC Γ L (setG S f) w1 := by
  refine ⟨h.1.up (fun t => t = (1, 0, 0)) (fun b x hx hn => hF b x hx hn hn) ?_ ?_, ?_⟩
  · rintro ⟨k, i2, j⟩
    revert k
    refine kcase ?_ ?_ ?_ ?_ ?_ ?_ ?_ ?_ ?_ ?_ ?_ ?_ ?_ ?_
    any_goals (first | (intro zt hn; simp only [cC]; done) | (intro zt hn; simp only [cC]; rfl) | (intro n zt hn; exact (cC_n _ _ _ _ _ _).trans (cC_n _ _ _ _ _ _).symm) | (intro zt hn; exact (cC_z _ _ _ _ _).trans (cC_z _ _ _ _ _).symm))
    · intro zt hn
      have hj := zT0 zt (by decide) (by decide)
      subst hj
      have hne : ¬ i2 = 0 := fun q => hn (by rw [q])
      show cC Γ L (setG S f) 1 i2 0 = cC Γ L S 1 i2 0
      simp only [cC, if_neg hne]
  · rintro t e zt rfl he
    cases he
    exact h1
  · intro id hid
    have hl : lnC (setG S f) id = lnC S id := by
      rcases id with _ | _ | _ | id <;> rfl
    rw [hl]
    exact h.2 id hid
theorem rc_hn6 {i : Nat} {f : Nat → Int32} (h6 : f 6 = gS S i 6) (k : Nat) : nJ (gS (setN S i f) k) = nJ (gS S k) := by
  have e : gS (setN S i f) k 6 = gS S k 6 := by
    by_cases q : k = i
    · subst q
      exact (congrFun (rset_s (f := S.2.2.1.2) (i := k) (x := f)) 6).trans h6
    · exact congrFun (rset_n (f := S.2.2.1.2) (x := f) q) 6
  exact congrArg Int32.toNatClampNeg e
theorem rc_hl {i : Nat} {f : Nat → Int32} (h6 : f 6 = gS S i 6) : ∀ id, lnC (setN S i f) id = lnC S id
  | 0 => rfl
  | 1 => rfl
  | 2 => rfl
  | k + 3 => rc_hn6 h6 k
/-- a night row changes, but not its works -/
theorem rc_setN (h : RepC Γ L S w) {i : Nat} {f : Nat → Int32} (h6 : f 6 = gS S i 6) (hj : ∀ j, 10 ≤ j → f j = gS S i j) (h1 : w1 (L.1 (11, i, 0)) = some ((11, i, 0), oP (f 1) (f 2) (f 3) (f 4) (f 5) (L.1 (5, i + 3, 0)) (f 0) (mk1 (f 8)) (mk2 (f 8)) (f 9))) (hF : Fr2 (11, i, 0) (11, i, 0) w w1) : RepC Γ L (setN S i f) w1 := by
  have hn6 := fun k => rc_hn6 (S := S) (f := f) h6 k
  have hl := rc_hl (S := S) (f := f) h6
  refine ⟨h.1.up (fun t => t = (11, i, 0)) (fun b x hx hn => hF b x hx hn hn) ?_ ?_, ?_⟩
  · rintro ⟨k, i2, j⟩
    revert k
    refine kcase ?_ ?_ ?_ ?_ ?_ ?_ ?_ ?_ ?_ ?_ ?_ ?_ ?_ ?_
    any_goals (first | (intro zt hn; simp only [cC]; done) | (intro zt hn; simp only [cC]; rfl) | (intro n zt hn; exact (cC_n _ _ _ _ _ _).trans (cC_n _ _ _ _ _ _).symm) | (intro zt hn; exact (cC_z _ _ _ _ _).trans (cC_z _ _ _ _ _).symm))
    · intro zt hn
      show (if i2 < 3 + nN S then some (oL (L.2.2.1 i2) (arC Γ L i2) (lnC (setN S i f) i2)) else none) = _
      rw [hl]
      rfl
    · intro zt hn
      show (if i2 < 3 + nN S then (if L.2.1 i2 = 0 then none else some (aQ Γ.2.1 (L.2.1 i2) (lE (lnC (setN S i f) i2) (elC L.1 i2)))) else none) = _
      rw [hl]
      rfl
    · intro zt hn
      have hj0 := zT0 zt (by decide) (by decide)
      subst hj0
      have hne : i2 ≠ i := fun q => hn (by rw [q])
      show cC Γ L (setN S i f) 11 i2 0 = _
      simp only [cC, setN, gS, nN, rset_n hne]
    · intro zt hn
      show cC Γ L (setN S i f) 12 i2 j = cC Γ L S 12 i2 j
      have g6 := hn6 i2
      simp only [cC]
      rw [g6]
      have g7 : ∀ x, 10 ≤ x → gS (setN S i f) i2 x = gS S i2 x := by
        intro x hx
        by_cases q : i2 = i
        · subst q
          show rset S.2.2.1.2 i2 f i2 x = _
          rw [rset_s, hj x hx]
        · show rset S.2.2.1.2 i f i2 x = _
          rw [rset_n q]
      rw [g7 _ (by omega), g7 _ (by omega), g7 _ (by omega)]
      rfl
  · rintro t e zt rfl he
    have he2 : (if i < nN S then some (oP (rset S.2.2.1.2 i f i 1) (rset S.2.2.1.2 i f i 2) (rset S.2.2.1.2 i f i 3) (rset S.2.2.1.2 i f i 4) (rset S.2.2.1.2 i f i 5) (L.1 (5, i + 3, 0)) (rset S.2.2.1.2 i f i 0) (mk1 (rset S.2.2.1.2 i f i 8)) (mk2 (rset S.2.2.1.2 i f i 8)) (rset S.2.2.1.2 i f i 9)) else none) = some e := he
    rw [rset_s] at he2
    split at he2
    · cases he2
      exact h1
    · cases he2
  · intro id hid
    rw [hl]
    exact h.2 id hid
/-- a measure is aligned -/
theorem rc_setE (h : RepC Γ L S w) {i : Nat} {f : Nat → Int32} (hj : ∀ j, 5 ≤ j → f j = eS S i j) (h1 : w1 (L.1 (7, i, 0)) = some ((7, i, 0), oE (f 0) (f 3) (f 4) (L.1 (8, i, 0)))) (hF : Fr2 (7, i, 0) (7, i, 0) w w1) : RepC Γ L (setE S i f) w1 := by
  refine ⟨h.1.up (fun t => t = (7, i, 0)) (fun b x hx hn => hF b x hx hn hn) ?_ ?_, ?_⟩
  · rintro ⟨k, i2, j⟩
    revert k
    refine kcase ?_ ?_ ?_ ?_ ?_ ?_ ?_ ?_ ?_ ?_ ?_ ?_ ?_ ?_
    any_goals (first | (intro zt hn; simp only [cC]; done) | (intro zt hn; simp only [cC]; rfl) | (intro n zt hn; exact (cC_n _ _ _ _ _ _).trans (cC_n _ _ _ _ _ _).symm) | (intro zt hn; exact (cC_z _ _ _ _ _).trans (cC_z _ _ _ _ _).symm))
    · intro zt hn
      have hj0 := zT0 zt (by decide) (by decide)
      subst hj0
      have hne : i2 ≠ i := fun q => hn (by rw [q])
      show cC Γ L (setE S i f) 7 i2 0 = _
      simp only [cC, setE, eS, nE, rset_n hne]
    · intro zt hn
      show (if i2 < nE S then some (aV Γ.2.1 10 (wrC L.1 i2 (rset S.2.2.2.1.2 i f i2))) else none) = _
      by_cases q : i2 = i
      · subst q
        rw [rset_s]
        have hw : wrC L.1 i2 f = wrC L.1 i2 (eS S i2) := by
          funext x
          unfold wrC
          rw [hj _ (by omega)]
        rw [hw]
        rfl
      · rw [rset_n q]
        rfl
    · intro zt hn
      show (if i2 < nE S then (if j < 10 then (if rset S.2.2.2.1.2 i f i2 (5 + 4 * j) = 1 then some (oV (rset S.2.2.2.1.2 i f i2 (6 + 4 * j)) (rset S.2.2.2.1.2 i f i2 (7 + 4 * j)) (rset S.2.2.2.1.2 i f i2 (8 + 4 * j))) else none) else none) else none) = _
      by_cases q : i2 = i
      · subst q
        rw [rset_s, hj _ (by omega), hj _ (by omega), hj _ (by omega), hj _ (by omega)]
        rfl
      · rw [rset_n q]
        rfl
  · rintro t e zt rfl he
    have he2 : (if i < nE S then some (oE (rset S.2.2.2.1.2 i f i 0) (rset S.2.2.2.1.2 i f i 3) (rset S.2.2.2.1.2 i f i 4) (L.1 (8, i, 0))) else none) = some e := he
    rw [rset_s] at he2
    split at he2
    · cases he2
      exact h1
    · cases he2
  · intro id hid
    have hl : lnC (setE S i f) id = lnC S id := by
      rcases id with _ | _ | _ | id <;> rfl
    rw [hl]
    exact h.2 id hid
/-- the trial section changes -/
theorem rc_trial (h : RepC Γ L S w) {f : Nat → Int32} (h3 : w1 (L.1 (3, 20, 0)) = some ((3, 20, 0), oS (L.1 (4, 20, 0)) (f 3) (f 4) (f 5) (f 6))) (h4 : w1 (L.1 (4, 20, 0)) = some ((4, 20, 0), oV (f 0) (f 1) (f 2))) (hF : Fr2 (3, 20, 0) (4, 20, 0) w w1) : RepC Γ (L.1, L.2.1, L.2.2.1, f) S w1 := by
  refine ⟨h.1.up (fun t => t = (3, 20, 0) ∨ t = (4, 20, 0)) (fun b x hx hn => hF b x hx (fun q => hn (Or.inl q)) (fun q => hn (Or.inr q))) ?_ ?_, h.2⟩
  · rintro ⟨k, i2, j⟩
    revert k
    refine kcase ?_ ?_ ?_ ?_ ?_ ?_ ?_ ?_ ?_ ?_ ?_ ?_ ?_ ?_
    any_goals (first | (intro zt hn; simp only [cC]; done) | (intro zt hn; simp only [cC]; rfl) | (intro n zt hn; exact (cC_n _ _ _ _ _ _).trans (cC_n _ _ _ _ _ _).symm) | (intro zt hn; exact (cC_z _ _ _ _ _).trans (cC_z _ _ _ _ _).symm))
    · intro zt hn
      have hj := zT0 zt (by decide) (by decide)
      subst hj
      have hne : i2 ≠ 20 := fun q => hn (Or.inl (by rw [q]))
      show cC Γ (L.1, L.2.1, L.2.2.1, f) S 3 i2 0 = cC Γ L S 3 i2 0
      simp only [cC, if_neg hne]
    · intro zt hn
      have hj := zT0 zt (by decide) (by decide)
      subst hj
      have hne : i2 ≠ 20 := fun q => hn (Or.inr (by rw [q]))
      show cC Γ (L.1, L.2.1, L.2.2.1, f) S 4 i2 0 = cC Γ L S 4 i2 0
      simp only [cC, if_neg hne]
  · rintro t e zt (rfl | rfl) he
    · cases he
      exact h3
    · cases he
      exact h4
end UP
