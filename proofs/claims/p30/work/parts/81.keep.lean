/-! What every call keeps -/
def RowOk (M : Nat) (f : Nat → Int32) : Prop := (∀ j, j < nJ f → (f (11 + 3 * j)).toNatClampNeg < M ∧ (f (10 + 3 * j)).toNatClampNeg < 20) ∧ (0 ≤ (f 0).toInt ∧ (f 0).toInt ≤ 4) ∧ (f 8 = 0 ∨ f 8 = 1 ∨ f 8 = 2 ∨ f 8 = 3) ∧ (0 ≤ (f 6).toInt ∧ (f 6).toInt ≤ 6) ∧ f 7 = hsum (fun j => f (12 + 3 * j)) (nJ f) ∧ NNo f ∧ (¬ f 0 = 2 → f 9 = 0)
theorem RowOk.mono {M M' : Nat} {f : Nat → Int32} (h : RowOk M f) (hM : M ≤ M') : RowOk M' f := ⟨fun j hj => ⟨Nat.lt_of_lt_of_le (h.1 j hj).1 hM, (h.1 j hj).2⟩, h.2⟩
theorem Inv2.row {S : St} (h : Inv2 S) {n : Nat} (hn : n < nN S) : RowOk (nM S) (gS S n) :=
  ⟨(h.1.2.2.2.1 n hn).1, (h.1.2.2.2.1 n hn).2.1, (h.1.2.2.2.1 n hn).2.2.1, (h.1.2.2.2.1 n hn).2.2.2.1, (h.1.2.2.2.1 n hn).2.2.2.2, h.2.1 n hn, h.2.2 n hn⟩
theorem Inv2.mk2 {S : St} (h1 : ∀ i, i < 20 → IvS (sS S i)) (h2 : nM S ≤ 4 ∧ nN S ≤ 16 ∧ nE S ≤ 12) (h3 : MOk S) (h4 : ∀ n, n < nN S → RowOk (nM S) (gS S n)) (h5 : ∀ k, k < nE S → IvE (eS S k)) (h6 : 0 ≤ (gl S 0).toInt ∧ (gl S 0).toInt ≤ 2000) (h7 : gl S 6 = cnt (fun k => gS S k 9) (nN S)) : Inv2 S :=
  ⟨⟨h1, h2, h3, fun n hn => ⟨(h4 n hn).1, (h4 n hn).2.1, (h4 n hn).2.2.1, (h4 n hn).2.2.2.1, (h4 n hn).2.2.2.2.1⟩, h5, h6, h7⟩, fun n hn => (h4 n hn).2.2.2.2.2.1, fun n hn => (h4 n hn).2.2.2.2.2.2⟩
theorem Inv2.first : Inv2 S0 :=
  Inv2.mk2 (fun _ _ => by show IvS sec0; unfold IvS; decide) (by decide) (fun m hm => absurd hm (Nat.not_lt_zero _)) (fun m hm => absurd hm (Nat.not_lt_zero _)) (fun m hm => absurd hm (Nat.not_lt_zero _)) (by decide) rfl
section KP
variable {S : St}
theorem Inv2.kS (h : Inv2 S) {i : Nat} {f : Nat → Int32} (hf : i < 20 → IvS f) : Inv2 (setS S i f) :=
  Inv2.mk2 (fun j hj => by
    by_cases q : j = i
    · subst q
      rw [show sS (setS S j f) j = f from rset_s]
      exact hf hj
    · rw [show sS (setS S i f) j = sS S j from rset_n q]
      exact h.1.1 j hj) h.1.2.1 h.1.2.2.1 (fun n hn => h.row hn) h.1.2.2.2.2.1 h.1.2.2.2.2.2.1 h.1.2.2.2.2.2.2
theorem Inv2.kM (h : Inv2 S) {i : Nat} {f : Nat → Int32} (hf : i < nM S → 0 ≤ (f 0).toInt ∧ (f 0).toInt ≤ 2) : Inv2 (setM S i f) :=
  Inv2.mk2 h.1.1 h.1.2.1 (fun m hm => by
    by_cases q : m = i
    · subst q
      rw [mS_setM]
      exact hf hm
    · rw [show mS (setM S i f) m = mS S m from rset_n q]
      exact h.1.2.2.1 m hm) (fun n hn => h.row hn) h.1.2.2.2.2.1 h.1.2.2.2.2.2.1 h.1.2.2.2.2.2.2
theorem Inv2.kG (h : Inv2 S) {f : Nat → Int32} (h0 : f 0 = gl S 0) (h6 : f 6 = gl S 6) : Inv2 (setG S f) :=
  Inv2.mk2 h.1.1 h.1.2.1 h.1.2.2.1 (fun n hn => h.row hn) h.1.2.2.2.2.1 (by rw [gl_setG, h0]; exact h.1.2.2.2.2.2.1) (by rw [gl_setG, h6]; exact h.1.2.2.2.2.2.2)
theorem Inv2.kE (h : Inv2 S) {i : Nat} {f : Nat → Int32} (hf : i < nE S → IvE f) : Inv2 (setE S i f) :=
  Inv2.mk2 h.1.1 h.1.2.1 h.1.2.2.1 (fun n hn => h.row hn) (fun k hk => by
    by_cases q : k = i
    · subst q
      rw [show eS (setE S k f) k = f from rset_s]
      exact hf hk
    · rw [show eS (setE S i f) k = eS S k from rset_n q]
      exact h.1.2.2.2.2.1 k hk) h.1.2.2.2.2.2.1 h.1.2.2.2.2.2.2
theorem Inv2.kN (h : Inv2 S) {i : Nat} {f : Nat → Int32} (hf : i < nN S → RowOk (nM S) f) (h9 : f 9 = gS S i 9) : Inv2 (setN S i f) :=
  Inv2.mk2 h.1.1 h.1.2.1 h.1.2.2.1 (fun n hn => by
    by_cases q : n = i
    · subst q
      rw [gS_setN]
      exact hf hn
    · rw [show gS (setN S i f) n = gS S n from rset_n q]
      exact h.row hn) h.1.2.2.2.2.1 h.1.2.2.2.2.2.1 (h.1.2.2.2.2.2.2.trans (cnt_c _ fun n hn => by
    by_cases q : n = i
    · subst q
      rw [gS_setN, h9]
    · rw [show gS (setN S i f) n = gS S n from rset_n q]))
theorem Inv2.pM (h : Inv2 S) {f : Nat → Int32} (hm : nM S < 4) (hf : 0 ≤ (f 0).toInt ∧ (f 0).toInt ≤ 2) : Inv2 (addM S f) :=
  Inv2.mk2 h.1.1 ⟨hm, h.1.2.1.2⟩ (fun m hm => by
    by_cases q : m = nM S
    · subst q
      rw [show mS (addM S f) (nM S) = f from rset_s]
      exact hf
    · rw [show mS (addM S f) m = mS S m from rset_n q]
      exact h.1.2.2.1 m (by have : m < nM S + 1 := hm; omega)) (fun n hn => (h.row hn).mono (Nat.le_succ _)) h.1.2.2.2.2.1 h.1.2.2.2.2.2.1 h.1.2.2.2.2.2.2
theorem Inv2.pN (h : Inv2 S) {f : Nat → Int32} (hm : nN S < 16) (hf : RowOk (nM S) f) (h9 : f 9 = 0) : Inv2 (addN S f) :=
  Inv2.mk2 h.1.1 ⟨h.1.2.1.1, hm, h.1.2.1.2.2⟩ h.1.2.2.1 (fun n hn => by
    by_cases q : n = nN S
    · subst q
      rw [show gS (addN S f) (nN S) = f from rset_s]
      exact hf
    · rw [show gS (addN S f) n = gS S n from rset_n q]
      exact h.row (by have : n < nN S + 1 := hn; omega)) h.1.2.2.2.2.1 h.1.2.2.2.2.2.1 (by
    show gl S 6 = cnt (fun k => gS (addN S f) k 9) (nN S) + gS (addN S f) (nN S) 9
    rw [show gS (addN S f) (nN S) = f from rset_s, h9, Int32.add_zero]
    refine h.1.2.2.2.2.2.2.trans (cnt_c _ fun n hn => ?_)
    rw [show gS (addN S f) n = gS S n from rset_n (Nat.ne_of_lt hn)])
theorem Inv2.pE (h : Inv2 S) {f : Nat → Int32} (hm : nE S < 12) (hf : IvE f) : Inv2 (addE S f) :=
  Inv2.mk2 h.1.1 ⟨h.1.2.1.1, h.1.2.1.2.1, hm⟩ h.1.2.2.1 (fun n hn => h.row hn) (fun k hk => by
    by_cases q : k = nE S
    · subst q
      rw [show eS (addE S f) (nE S) = f from rset_s]
      exact hf
    · rw [show eS (addE S f) k = eS S k from rset_n q]
      exact h.1.2.2.2.2.1 k (by have : k < nE S + 1 := hk; omega)) h.1.2.2.2.2.2.1 h.1.2.2.2.2.2.2
theorem ge0 {x : Int32} (h : ¬ x < 0) : 0 ≤ x.toInt := by
  have a := mt Int32.lt_iff_toInt_lt.mpr h
  have e : (0 : Int32).toInt = 0 := rfl
  omega
theorem nlt {x y : Int32} (h : ¬ x < y) : y.toInt ≤ x.toInt := by
  have a := mt Int32.lt_iff_toInt_lt.mpr h
  omega
theorem iv_Cur {i b : Int32} (h : Inv2 S) (hb : b = 0 ∨ b = 1) : Inv2 (oCur S i b).2.2 := by
  unfold oCur
  split
  · exact h
  · rename_i k hk
    exact h.kS fun hk => ⟨(h.1.1 k hk).1, (h.1.1 k hk).2.1, hb, (h.1.1 k hk).2.2.2⟩
theorem iv_Sig {i v : Int32} (h : Inv2 S) : Inv2 (oSig S i v).2.2 := by
  unfold oSig
  split
  · exact h
  · rename_i k hk
    split
    · exact h
    · rename_i h0
      split
      · rename_i h1
        exact h.kS fun hk => ⟨(h.1.1 k hk).1, (h.1.1 k hk).2.1, (h.1.1 k hk).2.2.1, ge0 h0, le_ti h1⟩
      · exact h
theorem iv_Pas {t hh d : Int32} (h : Inv2 S) : Inv2 (oPas S t hh d).2.2 := by
  unfold oPas
  split
  · exact h
  rename_i h0
  split
  · rename_i h1
    split
    · exact h
    split
    · split
      · exact h
      rename_i h2
      split
      · rename_i h3
        split
        · rename_i h4
          refine (pas_iv h h0 h1 d.toNatClampNeg ?_).1
          have a := le_ti h3
          have b := nlt h2
          have c := le_ti h4
          have e := h.1.2.2.2.2.2.1
          have e1 : (1 : Int32).toInt = 1 := rfl
          have e2 : (60 : Int32).toInt = 60 := rfl
          have e3 : (2000 : Int32).toInt = 2000 := rfl
          rw [Int32.toInt_add, Int.bmod_eq_of_le (by simp; omega) (by simp; omega)] at c
          have e4 : d.toNatClampNeg = d.toInt.toNat := rfl
          omega
        · exact h
      · exact h
    · exact h
  · exact h
theorem iv_Ali {m : Int32} (h : Inv2 S) : Inv2 (oAli S m).2.2 := by
  unfold oAli
  split
  · exact h
  · rename_i k hk
    split
    · refine h.kE fun hk => ⟨Or.inr rset_s, fun j hj => ?_⟩
      rw [rset_n (by omega), rset_n (by omega)]
      exact (h.1.2.2.2.2.1 k hk).2 j hj
    · exact h
theorem iv_Ser {m : Int32} (h : Inv2 S) : Inv2 (oSer S m).2.2 := by
  unfold oSer
  split
  · exact h
  · rename_i k hk
    split
    · exact (h.kM (f := rset (mS S k) 1 40) fun hk => h.1.2.2.1 k hk).kG (f := rset (gl S) 2 (gl S 2 + 200)) rfl rfl
    · exact h
theorem RowOk.r0 {M : Nat} {f : Nat → Int32} {x : Int32} (h : RowOk M f) (hx : 0 ≤ x.toInt ∧ x.toInt ≤ 4) (h9 : f 9 = 0) : RowOk M (rset f 0 x) := by
  have e : ∀ j, j ≠ 0 → rset f 0 x j = f j := fun j hj => rset_n hj
  have hJ : nJ (rset f 0 x) = nJ f := rfl
  refine ⟨fun j hj => ?_, hx, h.2.2.1, h.2.2.2.1, ?_, ⟨h.2.2.2.2.2.1.1, fun j hj => ?_⟩, fun _ => h9⟩
  · rw [e _ (by omega), e _ (by omega)]
    exact h.1 j hj
  · refine h.2.2.2.2.1.trans ?_
    rw [hJ]
    exact hsum_c _ fun j hj => (e _ (by omega)).symm
  · rw [e _ (by omega), e _ (by omega)]
    exact h.2.2.2.2.2.1.2 j hj
theorem RowOk.r8 {M : Nat} {f : Nat → Int32} {x : Int32} (h : RowOk M f) (hx : x = 0 ∨ x = 1 ∨ x = 2 ∨ x = 3) : RowOk M (rset f 8 x) := by
  have e : ∀ j, j ≠ 8 → rset f 8 x j = f j := fun j hj => rset_n hj
  have hJ : nJ (rset f 8 x) = nJ f := rfl
  refine ⟨fun j hj => ?_, h.2.1, hx, h.2.2.2.1, ?_, ⟨h.2.2.2.2.2.1.1, fun j hj => ?_⟩, h.2.2.2.2.2.2⟩
  · rw [e _ (by omega), e _ (by omega)]
    exact h.1 j hj
  · refine h.2.2.2.2.1.trans ?_
    rw [hJ]
    exact hsum_c _ fun j hj => (e _ (by omega)).symm
  · rw [e _ (by omega), e _ (by omega)]
    exact h.2.2.2.2.2.1.2 j hj
theorem iv_Can {p : Int32} (h : Inv2 S) : Inv2 (oCan S p).2.2 := by
  unfold oCan
  split
  · exact h
  · rename_i k hk
    split
    · rename_i h0
      exact (h.kN (fun hk => (h.row hk).r0 (by decide) (h.2.2 k hk (by rw [h0]; decide))) rfl).kG rfl rfl
    · exact h
theorem Inv2.kX (h : Inv2 S) {k : Nat} {x : Int32} (hk : k < nN S) (hx : x = 0 ∨ x = 1 ∨ x = 2 ∨ x = 3) : Inv2 (setN S k (rset (gS S k) 8 x)) := h.kN (fun _ => (h.row hk).r8 hx) (rset_n (by decide))
theorem mk_ok {x e : Int32} (hr : x = 0 ∨ x = 1 ∨ x = 2 ∨ x = 3) (hm : (if e = 0 then mk1 x else mk2 x) = 0) : x + (if e = 0 then 1 else 2) = 0 ∨ x + (if e = 0 then 1 else 2) = 1 ∨ x + (if e = 0 then 1 else 2) = 2 ∨ x + (if e = 0 then 1 else 2) = 3 := by
  by_cases q : e = 0
  · rw [if_pos q] at hm
    rw [if_pos q]
    rcases hr with z | z | z | z <;> subst z <;> revert hm <;> decide
  · rw [if_neg q] at hm
    rw [if_neg q]
    rcases hr with z | z | z | z <;> subst z <;> revert hm <;> decide
theorem iv_Mrk {p e : Int32} (h : Inv2 S) : Inv2 (oMrk S p e).2.2 := by
  unfold oMrk
  split
  · exact h
  · rename_i k hk
    have hk2 := (ixO_some hk (by have := h.1.2.1.2.1; omega)).1
    split
    · exact h
    split
    · split
      · split
        · by_cases hm : (if e = 0 then mk1 (gS S k 8) else mk2 (gS S k 8)) = 0
          · rw [if_pos hm]
            exact h.kX hk2 (mk_ok (h.row hk2).2.2.1 hm)
          · rw [if_neg hm]
            exact h
        · exact h
      · exact h
    · exact h
theorem iv_Tak {p : Int32} (h : Inv2 S) : Inv2 (oTak S p).2.2 := by
  unfold oTak
  split
  · exact h
  · rename_i k hk
    split
    · rename_i h0
      split
      · exact h.kN (fun hk => (h.row hk).r0 (by decide) (h.2.2 k hk (by rw [h0]; decide))) rfl
      · exact h
    · exact h
theorem iv_Giv {p : Int32} (h : Inv2 S) : Inv2 (oGiv S p).2.2 := by
  unfold oGiv
  split
  · exact h
  · rename_i k hk
    split
    · rename_i h1
      have hk2 := (ixO_some hk (by have := h.1.2.1.2.1; omega)).1
      refine h.of end_q.1 (end_g hk2 h1 h.pg) ?_
      rw [end_q.2 0 (by decide) (by decide)]
      exact h.1.2.2.2.2.2.1
    · exact h
theorem iv_Wal {i s : Int32} (h : Inv2 S) : Inv2 (oWal S i s).2.2 := by
  unfold oWal
  split
  · exact h
  · split
    · exact h
    split
    · split
      · exact h.kG rfl rfl
      · exact h
    · exact h
theorem iv_Mac {kd lf : Int32} (h : Inv2 S) : Inv2 (oMac S kd lf).2.2 := by
  unfold oMac
  split
  · exact h
  rename_i h0
  split
  · rename_i h1
    split
    · exact h
    split
    · split
      · rename_i h2
        refine h.pM ?_ ⟨ge0 h0, le_ti h1⟩
        have := h.1.2.1.1
        have a := Int32.lt_iff_toInt_lt.mp h2
        rw [nI_toInt (by omega)] at a
        have e : (4 : Int32).toInt = 4 := rfl
        omega
      · exact h
    · exact h
  · exact h
theorem iv_Boo {t f o d hh : Int32} (h : Inv2 S) : Inv2 (oBoo S t f o d hh).2.2 := by
  unfold oBoo
  split
  · split
    · exact h
    rename_i h0
    split
    · rename_i h1
      split
      · exact h
      split
      · split
        · rename_i h2
          split
          · exact h
          · refine h.pN ?_ ?_ rfl
            · have := h.1.2.1.2.1
              have a := Int32.lt_iff_toInt_lt.mp h2
              rw [nI_toInt (by omega)] at a
              have e : (16 : Int32).toInt = 16 := rfl
              omega
            · have a := nlt h0
              have b := le_ti h1
              have c := h.1.2.2.2.2.2.1
              have e : (2000 : Int32).toInt = 2000 := rfl
              have e5 : (5 : Int32).toInt = 5 := rfl
              rw [Int32.toInt_add, Int.bmod_eq_of_le (by simp; omega) (by simp; omega)] at a
              have hJ : nJ (rowN t f o d hh) = 0 := rfl
              refine ⟨fun j hj => ?_, by show 0 ≤ (0 : Int32).toInt ∧ (0 : Int32).toInt ≤ 4; decide, Or.inl rfl, by show 0 ≤ (0 : Int32).toInt ∧ (0 : Int32).toInt ≤ 6; decide, rfl, ⟨by show 0 ≤ d.toInt ∧ d.toInt ≤ 2000; omega, fun j hj => ?_⟩, fun _ => rfl⟩
              · rw [hJ] at hj
                omega
              · rw [hJ] at hj
                omega
        · exact h
      · exact h
    · exact h
  · exact h
  · exact h
theorem rowJ_ok {k s m : Nat} {x : Int32} (hr : RowOk (nM S) (gS S k)) (h6 : nJ (gS S k) < 6) (hm : m < nM S) (hM : nM S ≤ 4) (hs : s < 20) : RowOk (nM S) (rowJ S k s m x) := by
  obtain ⟨n, hn⟩ : ∃ n, n = nJ (gS S k) := ⟨_, rfl⟩
  obtain ⟨r1, r2, r3, r4, r5, ⟨r6, r7⟩, r8⟩ := hr
  unfold rowJ
  rw [← hn] at h6 r1 r5 r7 ⊢
  have e7 : ∀ f : Nat → Int32, ∀ y : Int32, ∀ j, j ≠ 7 → rset f 7 y j = f j := fun f y j hj => rset_n hj
  have e6 : ∀ f : Nat → Int32, ∀ y : Int32, ∀ j, j ≠ 6 → rset f 6 y j = f j := fun f y j hj => rset_n hj
  have es : rset (rset (rset (rset (rset (gS S k) (10 + 3 * n) (nI s)) (11 + 3 * n) (nI m)) (12 + 3 * n) x) 6 (nI (n + 1))) 7 (gS S k 7 + x) 6 = nI (n + 1) := (rset_n (by decide)).trans rset_s
  obtain ⟨F, hF⟩ : ∃ F, F = rset (rset (rset (rset (rset (gS S k) (10 + 3 * n) (nI s)) (11 + 3 * n) (nI m)) (12 + 3 * n) x) 6 (nI (n + 1))) 7 (gS S k 7 + x) := ⟨_, rfl⟩
  have lo : ∀ j, j < 10 → j ≠ 6 → j ≠ 7 → F j = gS S k j := fun j a b c => by rw [hF, rset_n c, rset_n b, rset_n (by omega), rset_n (by omega), rset_n (by omega)]
  have old : ∀ j, j < n → F (10 + 3 * j) = gS S k (10 + 3 * j) ∧ F (11 + 3 * j) = gS S k (11 + 3 * j) ∧ F (12 + 3 * j) = gS S k (12 + 3 * j) := fun j a => by
    refine ⟨?_, ?_, ?_⟩ <;> rw [hF, rset_n (by omega), rset_n (by omega), rset_n (by omega), rset_n (by omega), rset_n (by omega)]
  have n10 : F (10 + 3 * n) = nI s := by rw [hF, rset_n (by omega), rset_n (by omega), rset_n (by omega), rset_n (by omega), rset_s]
  have n11 : F (11 + 3 * n) = nI m := by rw [hF, rset_n (by omega), rset_n (by omega), rset_n (by omega), rset_s]
  have n12 : F (12 + 3 * n) = x := by rw [hF, rset_n (by omega), rset_n (by omega), rset_s]
  have n7 : F 7 = gS S k 7 + x := by rw [hF, rset_s]
  rw [← hF] at es ⊢
  have hJ : nJ F = n + 1 := by
    show (F 6).toNatClampNeg = _
    rw [es, nI_clamp (by omega)]
  refine ⟨fun j hj => ?_, ?_, ?_, ?_, ?_, ⟨?_, fun j hj => ?_⟩, ?_⟩
  · rw [hJ] at hj
    by_cases q : j = n
    · subst q
      rw [n10, n11, nI_clamp (by omega), nI_clamp (by omega)]
      exact ⟨hm, hs⟩
    · have o := old j (by omega)
      rw [o.1, o.2.1]
      exact r1 j (by omega)
  · rw [lo 0 (by decide) (by decide) (by decide)]
    exact r2
  · rw [lo 8 (by decide) (by decide) (by decide)]
    exact r3
  · rw [es, nI_toInt (by omega)]
    omega
  · rw [hJ, n7, r5]
    show _ = hsum (fun j => F (12 + 3 * j)) n + F (12 + 3 * n)
    rw [n12]
    exact congrArg (· + x) (hsum_c _ fun j hj => (old j hj).2.2.symm)
  · rw [lo 4 (by decide) (by decide) (by decide)]
    exact r6
  · rw [hJ] at hj
    by_cases q : j = n
    · subst q
      rw [n10, n11, nI_toInt (by omega), nI_toInt (by omega)]
      omega
    · have o := old j (by omega)
      rw [o.1, o.2.1]
      exact r7 j (by omega)
  · rw [lo 0 (by decide) (by decide) (by decide), lo 9 (by decide) (by decide) (by decide)]
    exact r8
theorem iv_Wor {p i m : Int32} (h : Inv2 S) : Inv2 (oWor S p i m).2.2 := by
  unfold oWor
  split
  · exact h
  rename_i k hk
  split
  · exact h
  rename_i mm hmm
  split
  · exact h
  rename_i s hs
  split
  · exact h
  split
  · split
    · rename_i h6
      split
      · split
        · have hM := h.1.2.1.1
          refine h.kN (fun hk => rowJ_ok (h.row hk) ?_ (ixO_some hmm (by omega)).1 hM (ixO_some hs (by omega)).1) ?_
          · have r := (h.row hk).2.2.2.1
            have a := Int32.lt_iff_toInt_lt.mp h6
            have e4 : nJ (gS S k) = (gS S k 6).toInt.toNat := rfl
            rw [nI_toInt (by omega)] at a
            have e : (6 : Int32).toInt = 6 := rfl
            omega
          · exact (rset_n (by decide)).trans ((rset_n (by decide)).trans ((rset_n (by omega)).trans ((rset_n (by omega)).trans (rset_n (by omega)))))
        · exact h
      · exact h
    · exact h
  · exact h
theorem eRw_iv {t0 f0 : Nat} {d : Int32} {b : Nat → Int32} (hb : IvE b) : ∀ n, IvE (eRw S t0 d b f0 n)
  | 0 => hb
  | n + 1 => by
    have ih := eRw_iv (t0 := t0) (f0 := f0) (d := d) hb n
    simp only [eRw, eSt]
    split
    · exact ih
    · split
      · refine ⟨?_, fun j hj => ?_⟩
        · rw [rset_n (by omega), rset_n (by omega), rset_n (by omega), rset_n (by omega)]
          exact ih.1
        · by_cases q : j = f0 + n
          · subst q
            right
            rw [rset_n (by omega), rset_n (by omega), rset_n (by omega), rset_s]
          · have o := ih.2 j hj
            rw [rset_n (show 5 + 4 * j ≠ 8 + 4 * (f0 + n) by omega), rset_n (show 5 + 4 * j ≠ 7 + 4 * (f0 + n) by omega), rset_n (show 5 + 4 * j ≠ 6 + 4 * (f0 + n) by omega), rset_n (show 5 + 4 * j ≠ 5 + 4 * (f0 + n) by omega), rset_n (show 7 + 4 * j ≠ 8 + 4 * (f0 + n) by omega), rset_n (show 7 + 4 * j ≠ 7 + 4 * (f0 + n) by omega), rset_n (show 7 + 4 * j ≠ 6 + 4 * (f0 + n) by omega), rset_n (show 7 + 4 * j ≠ 5 + 4 * (f0 + n) by omega)]
            exact o
      · exact ih
theorem iv_Mea {t f o d : Int32} (h : Inv2 S) : Inv2 (oMea S t f o d).2.2 := by
  unfold oMea
  split
  · split
    · exact h
    split
    · split
      · rename_i h2
        refine h.pE ?_ (eRw_iv ⟨Or.inl rfl, fun j hj => Or.inl ⟨?_, ?_⟩⟩ _)
        · have := h.1.2.1.2.2
          have a := Int32.lt_iff_toInt_lt.mp h2
          rw [nI_toInt (by omega)] at a
          have e : (12 : Int32).toInt = 12 := rfl
          omega
        · unfold eBas
          rw [if_neg (by omega), if_neg (by omega), if_neg (by omega), if_neg (by omega)]
        · unfold eBas
          rw [if_neg (by omega), if_neg (by omega), if_neg (by omega), if_neg (by omega)]
      · exact h
    · exact h
  · exact h
  · exact h
end KP
