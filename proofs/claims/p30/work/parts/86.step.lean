/-! the rest of the calls of p30's law -/
theorem glG_s {S : St} {f : Nat → Int32} {i : Nat} {x : Int32} : gl (setG S (rset f i x)) i = x := if_pos rfl
theorem glG_n {S : St} {f : Nat → Int32} {i j : Nat} {x : Int32} (h : j ≠ i) : gl (setG S (rset f i x)) j = f j := if_neg h
theorem hours_b {k c : Int32} : 1 ≤ (s_hours k c).toInt ∧ (s_hours k c).toInt ≤ 5 := by
  unfold s_hours
  split
  · split <;> decide
  · split
    · split <;> decide
    · split <;> decide
/-- a section of a night lies in it -/
theorem has_ok {a p q r : Nat} (ha : a < 2) (hq : q < 10) (hr : p + r ≤ q) : ¬ s_has (nI a) (nI p) (nI q) (nI (10 * a + p + r)) = 0 := by
  have e10 : (10 : Int32) = nI 10 := rfl
  have d1 : nI (10 * a + p + r) / 10 = nI a := by
    rw [e10, nI_div (by omega) (by decide) (by decide)]
    congr 1
    omega
  have d2 : rm10 (nI (10 * a + p + r)) = nI (p + r) := by
    unfold rm10
    rw [d1, e10, nI_mul, nI_sub (by omega)]
    congr 1
    omega
  unfold s_has
  rw [if_pos d1, d2, if_neg (fun z => by have := tLt.mp z; rw [nI_toInt (by omega), nI_toInt (by omega)] at this; omega), if_neg (fun z => by have := tLt.mp z; rw [nI_toInt (by omega), nI_toInt (by omega)] at this; omega)]
  decide
theorem nJ_toInt {f : Nat → Int32} (h0 : 0 ≤ (f 6).toInt) : ((nJ f : Nat) : Int) = (f 6).toInt := by
  have e : nJ f = (f 6).toInt.toNat := rfl
  omega
/-- a work is put in, or refused with the third exception -/
theorem op_wor {S : St} {t n m s : Nat} (h : P3 S t) (hn : n < nN S) (hm : m < nM S) (hs : s < 20) (h0 : gS S n 0 = 0) (hh : ¬ s_has (gS S n 1) (gS S n 2) (gS S n 3) (nI s) = 0) :
    oWor S (nI n) (nI s) (nI m) = (3, 0, S) ∨ ∃ x T, oWor S (nI n) (nI s) (nI m) = (0, x, T) ∧ Ste S T t 0 0 (-1) ∧ (gS S n 7 < x ∧ 0 ≤ x.toInt) ∧ x ≤ gS T n 5 ∧ gS T n 6 = gS S n 6 + 1 ∧ nM T = nM S ∧ nN T = nN S ∧ nE T = nE S ∧ gl T = gl S := by
  have hM := h.1.1.2.1.1
  have hN := h.1.1.2.1.2.1
  have iv := iv_Wor (p := nI n) (i := nI s) (m := nI m) h.1
  have e : oWor S (nI n) (nI s) (nI m) = if nI (nJ (gS S n)) < 6 then (if gS S n 7 + s_hours (mS S m 0) (sS S s 5) ≤ gS S n 5 then (if ex01 (pElI S m n) (nN S) = 0 then (0, gS S n 7 + s_hours (mS S m 0) (sS S s 5), setN S n (rowJ S n s m (s_hours (mS S m 0) (sS S s 5)))) else (3, 0, S)) else (3, 0, S)) else (3, 0, S) := by
    unfold oWor
    rw [ixO_s hn (by omega)]
    dsimp only
    rw [ixO_s hm (by omega)]
    dsimp only
    rw [ixO_s hs (by decide)]
    dsimp only
    rw [if_neg hh, if_pos h0]
  obtain ⟨x, hx⟩ : ∃ x, x = s_hours (mS S m 0) (sS S s 5) := ⟨_, rfl⟩
  rw [← hx] at e
  have xb : 1 ≤ x.toInt ∧ x.toInt ≤ 5 := by rw [hx]; exact hours_b
  by_cases c1 : nI (nJ (gS S n)) < 6
  · rw [if_pos c1] at e
    by_cases c2 : gS S n 7 + x ≤ gS S n 5
    · rw [if_pos c2] at e
      by_cases c3 : ex01 (pElI S m n) (nN S) = 0
      · rw [if_pos c3] at e
        rw [e] at iv
        obtain ⟨⟨p1, p2⟩, ⟨p3, p4, p5⟩, ⟨p6, p7⟩, ⟨p8, p9⟩, p10⟩ := (h.2.2.1.1 n hn).1
        have hrow := h.1.row hn
        have h6 := hrow.2.2.2.1
        have hJ := nJ_toInt h6.1
        have hJ6 : nJ (gS S n) < 6 := by
          have := tLt.mp c1
          rw [nI_toInt (by omega)] at this
          have e : (6 : Int32).toInt = 6 := rfl
          omega
        have e7 : (gS S n 7 + x).toInt = (gS S n 7).toInt + x.toInt := tAdd (by omega) (by omega)
        have c2' := tLe.mp c2
        obtain ⟨k, hk⟩ : ∃ k, k = nJ (gS S n) := ⟨_, rfl⟩
        obtain ⟨F, hF⟩ : ∃ F, F = rowJ S n s m x := ⟨_, rfl⟩
        have lo : ∀ j, j < 10 → j ≠ 6 → j ≠ 7 → F j = gS S n j := fun j a b c => by
          rw [hF]
          unfold rowJ
          rw [rset_n c, rset_n b, rset_n (by omega), rset_n (by omega), rset_n (by omega)]
        have n6 : F 6 = nI (k + 1) := by
          rw [hF, hk]
          unfold rowJ
          rw [rset_n (by decide), rset_s]
        have n7 : F 7 = gS S n 7 + x := by
          rw [hF]
          unfold rowJ
          rw [rset_s]
        have old : ∀ j, j < k → F (12 + 3 * j) = gS S n (12 + 3 * j) := fun j a => by
          rw [hk] at a
          rw [hF]
          unfold rowJ
          rw [rset_n (by omega), rset_n (by omega), rset_n (by omega), rset_n (by omega), rset_n (by omega)]
        have n12 : F (12 + 3 * k) = x := by
          rw [hF, hk]
          unfold rowJ
          rw [rset_n (by omega), rset_n (by omega), rset_s]
        have hJF : nJ F = k + 1 := by
          show (F 6).toNatClampNeg = _
          rw [n6, nI_clamp (by omega)]
        rw [← hF] at e iv
        refine Or.inr ⟨gS S n 7 + x, setN S n F, e, ?_, ⟨tLt.mpr (by omega), by omega⟩, ?_, ?_, rfl, rfl, rfl, rfl⟩
        · refine Ste.plain h iv h.2.1.cN (h.2.2.1.cR (fun _ => ⟨?_, ?_⟩) (fun y a b => lo y (by omega) (by omega) (by omega)) (fun z => by rw [h0]; decide)) h.2.2.2.1 rfl rfl rfl (fun _ _ _ => rfl) (fun _ _ _ _ => rfl) (TrC.same rfl fun y hy => ?_) (Nat.le_refl _)
          · unfold NgR
            rw [hJF, lo 1 (by decide) (by decide) (by decide), lo 2 (by decide) (by decide) (by decide), lo 3 (by decide) (by decide) (by decide), lo 5 (by decide) (by decide) (by decide), n6, n7, e7, nI_toInt (by omega)]
            refine ⟨⟨p1, p2⟩, ⟨p3, p4, p5⟩, ⟨p6, p7⟩, by omega, fun j hj => ?_⟩
            by_cases q : j = k
            · subst q
              rw [n12]
              exact xb
            · rw [old j (by omega)]
              exact p10 j (by omega)
          · have hd := (h.2.2.1.1 n hn).2
            unfold NgD at hd ⊢
            rw [lo 0 (by decide) (by decide) (by decide), lo 4 (by decide) (by decide) (by decide), lo 8 (by decide) (by decide) (by decide)]
            exact hd
          · by_cases q : y = n
            · subst q
              rw [gS_setN]
              exact lo 0 (by decide) (by decide) (by decide)
            · rw [show gS (setN S n F) y = gS S y from rset_n q]
        · rw [gS_setN, lo 5 (by decide) (by decide) (by decide)]
          exact c2
        · rw [gS_setN, n6, ← nI_1 k, hk]
          have : nI (nJ (gS S n)) = gS S n 6 := by
            refine Int32.toInt_inj.mp ?_
            rw [nI_toInt (by omega)]
            exact hJ
          rw [this]
      · rw [if_neg c3] at e
        exact Or.inl e
    · rw [if_neg c2] at e
      exact Or.inl e
  · rw [if_neg c1] at e
    exact Or.inl e
theorem op_can {S : St} {t n : Nat} (h : P3 S t) (ht : t ≤ 70) (hn : n < nN S) (h0 : gS S n 0 = 0) : oCan S (nI n) = (0, cFee S n, setG (setN S n (rset (gS S n) 0 4)) (rset (gl S) 2 (gl S 2 + cFee S n))) ∧ Ste S (setG (setN S n (rset (gS S n) 0 4)) (rset (gl S) 2 (gl S 2 + cFee S n))) t 0 0 (-1) := by
  have hN := h.1.1.2.1.2.1
  have e : oCan S (nI n) = (0, cFee S n, setG (setN S n (rset (gS S n) 0 4)) (rset (gl S) 2 (gl S 2 + cFee S n))) := by
    unfold oCan
    rw [ixO_s hn (by omega)]
    dsimp only
    rw [if_pos h0]
  have iv := iv_Can (p := nI n) h.1
  rw [e] at iv
  have hb := (h.2.2.1.1 n hn).1.2.2.1
  have e10 : (10 : Int32).toInt = 10 := rfl
  have e0 : (0 : Int32).toInt = 0 := rfl
  have fb : 0 ≤ (cFee S n).toInt ∧ (cFee S n).toInt ≤ 80 := by
    unfold cFee
    split
    · rw [e0]
      omega
    · rw [tMul (by rw [e10]; omega) (by rw [e10]; omega), e10]
      omega
  have hc := h.2.2.2.2.1
  unfold QC at hc
  have s2 : (gl S 2 + cFee S n).toInt = (gl S 2).toInt + (cFee S n).toInt := tAdd (by omega) (by omega)
  have g2 : ∀ T : St, gl (setG T (rset (gl S) 2 (gl S 2 + cFee S n))) 2 = gl S 2 + cFee S n := fun _ => glG_s
  refine ⟨e, ⟨iv, h.2.1.mono (by omega), ?_, h.2.2.2.1, ?_, ?_⟩, ?_, SteC.same (fun _ _ _ => rfl) (fun _ _ _ _ _ _ => rfl) (glG_n (by decide)), fun k hk => ?_, Nat.le_refl _⟩
  · have hq : QN (setN S n (rset (gS S n) 0 4)) := by
      refine h.2.2.1.cR (fun _ => ⟨(h.2.2.1.1 n hn).1.cx fun x a _ _ => rset_n a, ?_⟩) (fun x a b => rset_n (by omega)) (fun z => absurd rset_s z)
      unfold NgD
      rw [rset_s]
      exact ⟨fun z => absurd z (by decide), fun z => absurd z (by decide), fun z => absurd z (by decide)⟩
    exact hq
  · unfold QC
    rw [g2, s2]
    omega
  · have := h.2.2.2.2.2
    show (rset (gl S) 2 (gl S 2 + cFee S n) 0).toInt ≤ _
    rw [rset_n (by decide)]
    omega
  · rw [g2, s2]
    omega
  · by_cases q : k = n
    · subst q
      refine Or.inr (Or.inl ⟨(if_pos hn).trans h0, Or.inr (Or.inr ?_)⟩)
      show gS (setN S k (rset (gS S k) 0 4)) k 0 = 4
      rw [gS_setN, rset_s]
    · refine Or.inl ?_
      show gS (setN S n (rset (gS S n) 0 4)) k 0 = stF S k
      rw [show gS (setN S n (rset (gS S n) 0 4)) k = gS S k from rset_n q]
      exact (if_pos hk).symm
theorem op_giv {S : St} {t n : Nat} (h : P3 S t) (ht : t ≤ 70) (hn : n < nN S) (h1 : gS S n 0 = 1) : oOvr S (nI n) = (0, mx 0 (tkI S n - gS S n 5), S) ∧ oGiv S (nI n) = (0, mx 0 (tkI S n - gS S n 5), oEnd S n 0) ∧ gS (oEnd S n 0) n 9 = mx 0 (tkI S n - gS S n 5) ∧ Ste S (oEnd S n 0) t 0 1 (-1) ∧ nM (oEnd S n 0) = nM S ∧ nN (oEnd S n 0) = nN S ∧ nE (oEnd S n 0) = nE S ∧ gl (oEnd S n 0) 5 = gl S 5 := by
  have hN := h.1.1.2.1.2.1
  have g9 : gS (oEnd S n 0) n 9 = mx 0 (tkI S n - gS S n 5) := by
    rw [end_gn, rset_s, Int32.add_zero]
  have eg : oGiv S (nI n) = (0, mx 0 (tkI S n - gS S n 5), oEnd S n 0) := by
    unfold oGiv
    rw [ixO_s hn (by omega)]
    dsimp only
    rw [if_pos h1, g9]
  have iv := iv_Giv (p := nI n) h.1
  rw [eg] at iv
  have hq := end_q (S := S) (n := n) (late := 0)
  have hc := h.2.2.2.2.1
  unfold QC at hc
  obtain ⟨b1, b2, b3⟩ := end_b (n := n) (late := 0) h.2.1 (by omega) h.2.2.2.2.1 (by omega) h.1.1.2.1.1 (h.2.2.1.1 n hn).1 (j6 h.1 hn) (by decide)
  have e0 : gl (oEnd S n 0) 0 = gl S 0 := hq.2 0 (by decide) (by decide)
  refine ⟨?_, eg, g9, ⟨⟨iv, b1.mono (by omega), ?_, ?_, ?_, ?_⟩, b2.1, SteC.same (fun k _ _ => (b3 k).1) (fun _ z => absurd z (by decide)) (hq.2 4 (by decide) (by decide)), fun k hk => ?_, ?_⟩, hq.1.2.1, hq.1.1, hq.1.2.2.1, hq.2 5 (by decide) (by decide)⟩
  · unfold oOvr
    rw [ixO_s hn (by omega)]
    dsimp only
    rw [if_neg (by rw [h1]; decide)]
  · refine h.2.2.1.of hq.1.1 (fun k hk => ⟨(h.2.2.1.1 k hk).1.cx fun x a _ c => hq.1.2.2.2.2.1 k x a c, ?_⟩) (fun k hk => ⟨fun x a b => hq.1.2.2.2.2.1 k x (by omega) (by omega), fun z => ?_⟩)
    · by_cases q : k = n
      · subst q
        unfold NgD
        rw [end_gn, rset_n (show (0 : Nat) ≠ 9 by decide), rset_s]
        exact ⟨fun z => absurd z (by decide), fun z => absurd z (by decide), fun z => absurd z (by decide)⟩
      · rw [end_gk q, e0]
        exact (h.2.2.1.1 k hk).2
    · by_cases q : k = n
      · subst q
        rw [h1]
        decide
      · rw [end_gk q] at z
        exact z
  · intro k hk
    rw [hq.1.2.2.2.1]
    exact h.2.2.2.1 k (by rw [← hq.1.2.2.1]; exact hk)
  · unfold QC
    omega
  · rw [e0]
    have := h.2.2.2.2.2
    omega
  · rw [hq.1.1] at hk
    by_cases q : k = n
    · subst q
      refine Or.inr (Or.inr ⟨(if_pos hk).trans h1, ?_⟩)
      rw [end_gn, rset_n (show (0 : Nat) ≠ 9 by decide), rset_s]
    · refine Or.inl ?_
      rw [end_gk q]
      exact (if_pos hk).symm
  · rw [hq.1.1]
    exact Nat.le_refl _
theorem op_wal {S : St} {t k s : Nat} (h : P3 S t) (hk : k < 20) (h1 : 50 ≤ s) (h2 : s ≤ 2000) : ∃ x T, oWal S (nI k) (nI s) = (0, x, T) ∧ (x = 0 ∨ x = 1) ∧ Ste S T t 0 0 (-1) ∧ nM T = nM S ∧ nN T = nN S ∧ nE T = nE S ∧ gl T 5 = gl S 5 + (if x = 0 then 1 else 0) := by
  have e : oWal S (nI k) (nI s) = if wSaf S k (nI s) = 0 then (0, 0, setG S (rset (gl S) 5 (gl S 5 + 1))) else (0, 1, S) := by
    unfold oWal
    rw [ixO_s hk (by decide)]
    dsimp only
    rw [if_neg (fun z => by have := tLt.mp z; rw [nI_toInt (by omega)] at this; have e : (50 : Int32).toInt = 50 := rfl; omega), if_pos (tLe.mpr (by rw [nI_toInt (by omega)]; show (s : Int) ≤ 2000; omega))]
  by_cases c : wSaf S k (nI s) = 0
  · rw [if_pos c] at e
    have iv := iv_Wal (i := nI k) (s := nI s) h.1
    rw [e] at iv
    refine ⟨0, _, e, Or.inl rfl, Ste.plain h iv h.2.1 h.2.2.1 h.2.2.2.1 (glG_n (by decide)) (glG_n (by decide)) (glG_n (by decide)) (fun _ _ _ => rfl) (fun _ _ _ _ => rfl) (TrC.same rfl fun _ _ => rfl) (Nat.le_refl _), rfl, rfl, rfl, ?_⟩
    rw [if_pos rfl]
    exact glG_s
  · rw [if_neg c] at e
    refine ⟨1, S, e, Or.inr rfl, Ste.none h, rfl, rfl, rfl, ?_⟩
    rw [if_neg (by decide), Int32.add_zero]
theorem eRw_me {S : St} {t0 f0 : Nat} {d : Int32} {b : Nat → Int32} (hb : MeB b) : ∀ n, MeB (eRw S t0 d b f0 n)
  | 0 => hb
  | n + 1 => by
    have ih := eRw_me (S := S) (t0 := t0) (f0 := f0) (d := d) hb n
    simp only [eRw, eSt]
    split
    · exact ih
    · split
      · refine ⟨?_, fun j hj => ?_⟩
        · rw [rset_n (by omega), rset_n (by omega), rset_n (by omega), rset_n (by omega)]
          exact ih.1
        · by_cases q : j = f0 + n
          · subst q
            rw [rset_n (by omega), rset_s]
            split
            · rename_i c
              exact Or.inr (tLe.mp c)
            · exact Or.inl (by decide)
          · have o := ih.2 j hj
            rw [rset_n (show 7 + 4 * j ≠ 8 + 4 * (f0 + n) by omega), rset_n (show 7 + 4 * j ≠ 7 + 4 * (f0 + n) by omega), rset_n (show 7 + 4 * j ≠ 6 + 4 * (f0 + n) by omega), rset_n (show 7 + 4 * j ≠ 5 + 4 * (f0 + n) by omega)]
            exact o
      · exact ih
theorem op_mea {S : St} {t a : Nat} {d : Int32} (h : P3 S t) (ha : a < 2) (hd : -2 ≤ d.toInt ∧ d.toInt ≤ 2) (hE : nE S < 12) : oMea S (nI a) 0 9 d = (0, nI (nE S), addE S (eRow S (nI a) 0 9 d)) ∧ Ste S (addE S (eRow S (nI a) 0 9 d)) t 0 0 (-1) := by
  have e : oMea S (nI a) 0 9 d = (0, nI (nE S), addE S (eRow S (nI a) 0 9 d)) := by
    unfold oMea
    rw [show c_str (nI a) 0 9 = 0 from c_str0 (p := 0) (q := 9) ha (by decide) (by decide)]
    try dsimp only
    rw [if_neg (fun z => by have := tLt.mp z; have e : (-2 : Int32).toInt = -2 := rfl; omega), if_pos (tLe.mpr hd.2), if_pos (show nI (nE S) < 12 from nI_lt2 (k := 12) hE (by decide))]
    rfl
  have iv := iv_Mea (t := nI a) (f := 0) (o := 9) (d := d) h.1
  rw [e] at iv
  refine ⟨e, Ste.plain h iv h.2.1 h.2.2.1 (fun k hk => ?_) rfl rfl rfl (fun _ _ _ => rfl) (fun _ _ _ _ => rfl) (TrC.same rfl fun _ _ => rfl) (Nat.le_refl _)⟩
  by_cases q : k = nE S
  · subst q
    rw [show eS (addE S (eRow S (nI a) 0 9 d)) (nE S) = eRow S (nI a) 0 9 d from rset_s]
    refine eRw_me ⟨rfl, fun j hj => Or.inl ?_⟩ _
    have : eBas (nI a) 0 9 d (7 + 4 * j) = 0 := by
      unfold eBas
      rw [if_neg (by omega), if_neg (by omega), if_neg (by omega), if_neg (by omega)]
    rw [this]
    decide
  · rw [show eS (addE S (eRow S (nI a) 0 9 d)) k = eS S k from rset_n q]
    exact h.2.2.2.1 k (by have : k < nE S + 1 := hk; omega)
/-! nights that are marked and taken, one after another -/
def Mtk (S T : St) (t n : Nat) : Prop := P3 T t ∧ sS T = sS S ∧ gl T = gl S ∧ nM T = nM S ∧ nN T = nN S ∧ nE T = nE S ∧ (∀ k, n ≤ k → gS T k = gS S k) ∧ ∀ k, k < n → gS T k 0 = gS S k 0 ∨ (gS S k 0 = 0 ∧ gS T k 0 = 1)
theorem Mtk.rf {S : St} {t : Nat} (h : P3 S t) : Mtk S S t 0 := ⟨h, rfl, rfl, rfl, rfl, rfl, fun _ _ => rfl, fun _ _ => Or.inl rfl⟩
theorem Mtk.skip {S T : St} {t n : Nat} (h : Mtk S T t n) : Mtk S T t (n + 1) := by
  refine ⟨h.1, h.2.1, h.2.2.1, h.2.2.2.1, h.2.2.2.2.1, h.2.2.2.2.2.1, fun k hk => h.2.2.2.2.2.2.1 k (by omega), fun k hk => ?_⟩
  by_cases q : k = n
  · subst q
    exact Or.inl (congrFun (h.2.2.2.2.2.2.1 k (Nat.le_refl _)) 0)
  · exact h.2.2.2.2.2.2.2 k (by omega)
theorem Mtk.done {S T : St} {t n : Nat} (h : Mtk S T t n) (hS : P3 S t) (hn : nN S ≤ n) : Ste S T t 0 0 (-1) := by
  obtain ⟨h1, h2, h3, h4, h5, h6, h7, h8⟩ := h
  refine Ste.plain hS h1.1 h1.2.1 h1.2.2.1 h1.2.2.2.1 (congrFun h3 2) (congrFun h3 0) (congrFun h3 4) (fun k _ _ => by rw [h2]) (fun k _ v _ => by rw [h2]) (fun k hk => ?_) (by rw [h5]; exact Nat.le_refl _)
  rw [h5] at hk
  have e : stF S k = gS S k 0 := if_pos hk
  rw [e]
  rcases h8 k (by omega) with z | ⟨z1, z2⟩
  · exact Or.inl z
  · exact Or.inr (Or.inl ⟨z1, Or.inl z2⟩)
theorem bits0 {x : Int32} (h : x = 0 ∨ x = 1 ∨ x = 2 ∨ x = 3) (hb : bits x ≤ 0) : x = 0 := by
  rcases h with rfl | rfl | rfl | rfl
  · rfl
  all_goals exact absurd hb (by decide)
theorem op_mrk {T : St} {k : Nat} (hI : Inv2 T) (hk : k < nN T) (h0 : gS T k 0 = 0) (h4 : gS T k 4 = gl T 0) (h8 : gS T k 8 = 0) :
    oMrk T (nI k) 1 = (0, 1, setN T k (rset (gS T k) 8 2)) ∧ oMrk (setN T k (rset (gS T k) 8 2)) (nI k) 0 = (0, 2, setN T k (rset (gS T k) 8 3)) ∧ oTak (setN T k (rset (gS T k) 8 3)) (nI k) = (0, gS T k 3 - gS T k 2 + 1, setN T k (rset (rset (gS T k) 8 3) 0 1)) := by
  have hN := hI.1.2.1.2.1
  refine ⟨?_, ?_, ?_⟩
  · unfold oMrk
    rw [ixO_s hk (by omega)]
    dsimp only
    rw [h8, if_neg (by decide), if_pos (by decide), if_pos h0, if_pos h4, if_pos (by decide)]
    rfl
  · have hk2 : k < nN (setN T k (rset (gS T k) 8 2)) := hk
    have e : gS (setN T k (rset (gS T k) 8 2)) k = rset (gS T k) 8 2 := gS_setN
    unfold oMrk
    rw [ixO_s hk2 (show nN T < 2 ^ 31 by omega)]
    dsimp only
    rw [e, rset_s, rset_n (show (0 : Nat) ≠ 8 by decide), rset_n (show (4 : Nat) ≠ 8 by decide), if_neg (by decide), if_pos (by decide), if_pos h0, if_pos (show gS T k 4 = gl (setN T k (rset (gS T k) 8 2)) 0 from h4), if_pos (by decide), rset2, setN2]
    rfl
  · have hk2 : k < nN (setN T k (rset (gS T k) 8 3)) := hk
    have e : gS (setN T k (rset (gS T k) 8 3)) k = rset (gS T k) 8 3 := gS_setN
    unfold oTak
    rw [ixO_s hk2 (show nN T < 2 ^ 31 by omega)]
    dsimp only
    rw [e, rset_s, rset_n (show (0 : Nat) ≠ 8 by decide), if_pos h0, if_pos (by decide), setN2, rset_n (show (3 : Nat) ≠ 8 by decide), rset_n (show (2 : Nat) ≠ 8 by decide)]
theorem Mtk.take {S T : St} {t k : Nat} (h : Mtk S T t k) (hk : k < nN S) (h0 : gS T k 0 = 0) (h4 : gS T k 4 = gl T 0) (h8 : gS T k 8 = 0) : Mtk S (setN T k (rset (rset (gS T k) 8 3) 0 1)) t (k + 1) := by
  obtain ⟨h1, h2, h3, hM, h5, h6, h7, h9⟩ := h
  have hkT : k < nN T := by rw [h5]; exact hk
  obtain ⟨o1, o2, o3⟩ := op_mrk h1.1 hkT h0 h4 h8
  have i1 := iv_Mrk (p := nI k) (e := 1) h1.1
  rw [o1] at i1
  have i2 := iv_Mrk (p := nI k) (e := 0) i1
  rw [o2] at i2
  have i3 := iv_Tak (p := nI k) i2
  rw [o3] at i3
  have hx : ∀ x, x ≠ 0 → x ≠ 8 → rset (rset (gS T k) 8 3) 0 1 x = gS T k x := fun x a b => (rset_n a).trans (rset_n b)
  refine ⟨⟨i3, h1.2.1.cN, h1.2.2.1.cR (fun _ => ⟨(h1.2.2.1.1 k hkT).1.cx fun x a b _ => hx x a b, ?_⟩) (fun x a b => hx x (by omega) (by omega)) (fun _ => by rw [h0]; decide), h1.2.2.2.1, h1.2.2.2.2⟩, h2, h3, hM, h5, h6, fun j hj => ?_, fun j hj => ?_⟩
  · unfold NgD
    rw [rset_s, hx 4 (by decide) (by decide), rset_n (show (8 : Nat) ≠ 0 by decide), rset_s]
    exact ⟨fun z => absurd z (by decide), fun z => absurd z (by decide), fun _ => ⟨h4, by decide⟩⟩
  · rw [show gS (setN T k (rset (rset (gS T k) 8 3) 0 1)) j = gS T j from rset_n (by omega)]
    exact h7 j (by omega)
  · by_cases q : j = k
    · subst q
      refine Or.inr ⟨(congrFun (h7 j (Nat.le_refl _)) 0).symm.trans h0, ?_⟩
      rw [gS_setN, rset_s]
    · rw [show gS (setN T k (rset (rset (gS T k) 8 3) 0 1)) j = gS T j from rset_n q]
      exact h9 j (by omega)
/-! a day -/
theorem nst_tr {d : Int32} {f : Nat → Int32} : nst d f = f 0 ∨ (f 0 = 0 ∧ nst d f = 3) ∨ (f 0 = 1 ∧ nst d f = 2) := by
  unfold nst
  by_cases c4 : f 4 = d
  · rw [if_pos c4]
    by_cases c0 : f 0 = 0
    · rw [if_pos c0]
      exact Or.inr (Or.inl ⟨c0, rfl⟩)
    · rw [if_neg c0]
      by_cases c1 : f 0 = 1
      · rw [if_pos c1]
        exact Or.inr (Or.inr ⟨c1, rfl⟩)
      · rw [if_neg c1]
        exact Or.inl rfl
  · rw [if_neg c4]
    exact Or.inl rfl
theorem nst_D {d e : Int32} {f g : Nat → Int32} (h : NgD d f) (he : e.toInt = d.toInt + 1) (g0 : g 0 = nst d f) (g4 : g 4 = f 4) : NgD e g := by
  have hne : ¬ f 4 = d → ¬ (f 4).toInt = d.toInt := fun a b => a (Int32.toInt_inj.mp b)
  unfold NgD
  rw [g0, g4]
  unfold nst
  by_cases c4 : f 4 = d
  · rw [if_pos c4]
    have c4' : (f 4).toInt = d.toInt := by rw [c4]
    by_cases c0 : f 0 = 0
    · rw [if_pos c0]
      exact ⟨fun _ => by omega, fun z => absurd z (by decide), fun z => absurd z (by decide)⟩
    · rw [if_neg c0]
      by_cases c1 : f 0 = 1
      · rw [if_pos c1]
        exact ⟨fun z => absurd z (by decide), fun z => absurd z (by decide), fun z => absurd z (by decide)⟩
      · rw [if_neg c1]
        exact ⟨fun _ => by omega, fun z => absurd z c0, fun z => absurd z c1⟩
  · rw [if_neg c4]
    have := hne c4
    exact ⟨fun z => by have := h.1 z; omega, fun z => by have := h.2.1 z; omega, fun z => absurd (h.2.2 z).1 c4⟩
theorem op_day {S : St} {τ : Nat} {t hh : Int32} (h : P3 S τ) (hτ : τ < 70) (h0 : ¬ t < 0) (h1 : t ≤ 40) :
    Ste S (oDay S t hh) τ 1 0 (-1) ∧ gl (oDay S t hh) 3 - gl S 3 = nTru (oDay S t hh) ∧ nM (oDay S t hh) = nM S ∧ nN (oDay S t hh) = nN S ∧ nE (oDay S t hh) = nE S ∧ gl (oDay S t hh) 5 = gl S 5 := by
  have hg := h.1.1.2.2.2.2.2.1
  have hgt := h.2.2.2.2.2
  have hN := h.1.1.2.1.2.1
  have hc := h.2.2.2.2.1
  obtain ⟨iv, e0⟩ := day_iv (t := t) (h := hh) h.1 h0 h1 (by omega)
  obtain ⟨a, b, c⟩ := dayS_q (h := hh) h.1
  have hgn : ∀ k, k < nN S → gS (dayS S hh) k 0 = nst (gl S 0) (gS S k) := fun k hk => nts_st (nN S) k hk
  obtain ⟨q1, q2, q3⟩ := nts_b (d := gl S 0) h.1 h.2.1 (by omega) h.2.2.2.2.1 (by omega) (fun n hn => (h.2.2.1.1 n hn).1) (nN S) (Nat.le_refl _)
  have dB : QB (dayS S hh) (100 * τ + 6 * nN S) := q1
  have d2 : gl (dayS S hh) 2 = gl (nts S (gl S 0) (nN S)) 2 := by
    show rset (rset (gl (nts S (gl S 0) (nN S))) 0 (gl (nts S (gl S 0) (nN S)) 0 + 1)) 1 hh 2 = _
    rw [rset_n (by decide), rset_n (by decide)]
  have dx : ∀ x, x ≠ 0 → x ≠ 1 → x ≠ 2 → x ≠ 6 → gl (dayS S hh) x = gl S x := by
    intro x x0 x1 x2 x6
    show rset (rset (gl (nts S (gl S 0) (nN S))) 0 (gl (nts S (gl S 0) (nN S)) 0 + 1)) 1 hh x = _
    rw [rset_n x1, rset_n x0]
    exact (nts_q (nN S)).2 x x2 x6
  have dS : ∀ i, sS (dayS S hh) i 6 = sS S i 6 := fun i => (q3 i).1
  have dO : SOk (dayS S hh) := a.2.2.2.2.2.1 h.1.1.1
  unfold QC at hc
  rw [day_e] at iv e0 ⊢
  obtain ⟨D, hD⟩ : ∃ D, D = dayS S hh := ⟨_, rfl⟩
  rw [← hD] at a b c hgn dB d2 dx dS dO iv e0 ⊢
  have d2' := congrArg Int32.toInt d2
  obtain ⟨y1, y2, y3, y4, y5⟩ := dys_e (D := D) (t := t) 20
  obtain ⟨z1, z2, z3⟩ := dys_q (S := D) h0 h1 20
  obtain ⟨w1, w2, w3⟩ := dys_b (C := 500000 * τ + 30000 * nN S) dB (by omega) (by unfold QC; omega) (by omega) dO h0 h1 20 (by decide)
  obtain ⟨E, hE⟩ : ∃ E, E = dys D t 20 := ⟨_, rfl⟩
  rw [← hE] at y1 y2 y3 y4 y5 z1 z2 z3 w1 w2 w3 iv e0 ⊢
  have eN : nN E = nN S := z1.1.trans a.1
  have eM : nM E = nM S := z1.2.1.trans a.2.1
  have eE : nE E = nE S := z1.2.2.1.trans a.2.2.1
  have gx : ∀ n x, x ≠ 0 → x ≠ 9 → gS E n x = gS S n x := fun n x x0 x9 => (congrFun (congrFun z2 n) x).trans (a.2.2.2.2.1 n x x0 x9)
  have g0 : ∀ k, k < nN S → gS E k 0 = nst (gl S 0) (gS S k) := fun k hk => (congrFun (congrFun z2 k) 0).trans (hgn k hk)
  have e1 : (1 : Int32).toInt = 1 := rfl
  have e0' : (gl E 0).toInt = (gl S 0).toInt + 1 := by rw [e0, tAdd (by rw [e1]; omega) (by rw [e1]; omega), e1]
  have s6 : ∀ k, k < 20 → sS E k 6 = sRow (sS D k) t 6 := fun k hk => by rw [y1 k hk]
  refine ⟨⟨⟨iv, w1.mono (by omega), ?_, ?_, ?_, ?_⟩, ?_, ⟨fun k hk _ hne => ?_, fun z => absurd z (by decide), ?_⟩, fun k hk => ?_, ?_⟩, ?_, eM, eN, eE, ?_⟩
  · refine h.2.2.1.of eN (fun k hk => ⟨(h.2.2.1.1 k hk).1.cx fun x x0 _ x9 => gx k x x0 x9, nst_D (h.2.2.1.1 k hk).2 e0' (g0 k hk) (gx k 4 (by decide) (by decide))⟩) (fun k hk => ⟨fun x x1 x4 => gx k x (by omega) (by omega), fun z q => z ?_⟩)
    rw [g0 k hk]
    rcases nst_tr (d := gl S 0) (f := gS S k) with g | ⟨g, -⟩ | ⟨g, -⟩
    · rw [g, q]
    · rw [q] at g
      exact absurd g (by decide)
    · rw [q] at g
      exact absurd g (by decide)
  · intro k hk
    rw [z1.2.2.2.1, a.2.2.2.1]
    exact h.2.2.2.1 k (by rw [← eE]; exact hk)
  · unfold QC
    omega
  · omega
  · omega
  · rw [ofS_lt (by decide), s6 k hk, ← dS k] at hne
    rcases sRow_6 (f := sS D k) (t := t) with g | ⟨g1, g2, g3⟩
    · exact absurd g hne
    · refine ⟨by decide, (s6 k hk).trans g1, ?_⟩
      have i1 := (iv.1.1 k hk).2.1
      have e60 : (60 : Int32).toInt = 60 := rfl
      rw [← y1 k hk] at g3
      have g4 := mt tLt.mpr g3
      refine Int32.toInt_inj.mp ?_
      omega
  · rw [y3, dx 4 (by decide) (by decide) (by decide) (by decide), add_sub']
    refine cnt_c 20 fun k hk => ?_
    rw [if_neg (fun z => by
      have := congrArg Int32.toInt z
      rw [nI_toInt (by omega)] at this
      have e : (-1 : Int32).toInt = -1 := rfl
      omega), ofS_lt (by decide), s6 k hk, ← dS k]
  · rw [eN] at hk
    have e : stF S k = gS S k 0 := if_pos hk
    rw [e, g0 k hk]
    rcases nst_tr (d := gl S 0) (f := gS S k) with g | ⟨g, g2⟩ | ⟨g, g2⟩
    · exact Or.inl g
    · exact Or.inr (Or.inl ⟨g, Or.inr (Or.inl g2)⟩)
    · exact Or.inr (Or.inr ⟨g, g2⟩)
  · rw [eN]
    exact Nat.le_refl _
  · rw [y4, dx 3 (by decide) (by decide) (by decide) (by decide), add_sub']
    unfold nTru
    refine cnt_c 20 fun k hk => ?_
    rw [y1 k hk, y5]
  · exact (z3 5 (by decide) (by decide) (by decide)).trans (dx 5 (by decide) (by decide) (by decide) (by decide))
