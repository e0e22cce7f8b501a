/-! what holds of the class's state besides, at the head of p30's law -/
def SecB (B : Int) (f : Nat → Int32) : Prop := (0 ≤ (f 2).toInt ∧ (f 2).toInt ≤ 60) ∧ (0 ≤ (f 3).toInt ∧ (f 3).toInt ≤ B) ∧ (10 ≤ (f 4).toInt ∧ (f 4).toInt ≤ 40)
def MacB (B : Int) (f : Nat → Int32) : Prop := (0 ≤ (f 1).toInt ∧ (f 1).toInt ≤ 99) ∧ (0 ≤ (f 2).toInt ∧ (f 2).toInt ≤ B) ∧ (0 ≤ (f 3).toInt ∧ (f 3).toInt ≤ B)
def QB (S : St) (B : Int) : Prop := (∀ i, i < 20 → SecB B (sS S i)) ∧ ∀ m, m < nM S → MacB B (mS S m)
/-- a night, as it was booked and worked at -/
def NgR (f : Nat → Int32) : Prop := (0 ≤ (f 1).toInt ∧ (f 1).toInt ≤ 1) ∧ (0 ≤ (f 2).toInt ∧ (f 2).toInt ≤ (f 3).toInt ∧ (f 3).toInt ≤ 9) ∧ (2 ≤ (f 5).toInt ∧ (f 5).toInt ≤ 8) ∧ ((f 6).toInt ≤ (f 7).toInt ∧ (f 7).toInt ≤ (f 5).toInt) ∧ ∀ j, j < nJ f → 1 ≤ (f (12 + 3 * j)).toInt ∧ (f (12 + 3 * j)).toInt ≤ 5
/-- a night's state, on the day d -/
def NgD (d : Int32) (f : Nat → Int32) : Prop := (f 0 = 3 → (f 4).toInt < d.toInt) ∧ (f 0 = 0 → d.toInt ≤ (f 4).toInt) ∧ (f 0 = 1 → f 4 = d ∧ bits (f 8) = 2)
/-- two nights have no section of a day in common -/
def NgM (a b : Nat → Int32) : Prop := ¬ (a 1 = b 1 ∧ (a 2).toInt ≤ (b 3).toInt ∧ (b 2).toInt ≤ (a 3).toInt ∧ a 4 = b 4 ∧ ¬ a 0 = 4 ∧ ¬ b 0 = 4)
def MeB (f : Nat → Int32) : Prop := f 4 = 0 ∧ ∀ j, j < 10 → (f (7 + 4 * j)).toInt ≤ 0 ∨ 5 ≤ (f (7 + 4 * j)).toInt
def QN (S : St) : Prop := (∀ n, n < nN S → NgR (gS S n) ∧ NgD (gl S 0) (gS S n)) ∧ ∀ a b, b < a → a < nN S → NgM (gS S a) (gS S b)
def QE (S : St) : Prop := ∀ k, k < nE S → MeB (eS S k)
def QC (S : St) (C : Int) : Prop := 0 ≤ (gl S 2).toInt ∧ (gl S 2).toInt ≤ C
theorem SecB.mono {B C : Int} {f : Nat → Int32} (h : SecB B f) (hB : B ≤ C) : SecB C f := ⟨h.1, ⟨h.2.1.1, Int.le_trans h.2.1.2 hB⟩, h.2.2⟩
theorem MacB.mono {B C : Int} {f : Nat → Int32} (h : MacB B f) (hB : B ≤ C) : MacB C f := ⟨h.1, ⟨h.2.1.1, Int.le_trans h.2.1.2 hB⟩, ⟨h.2.2.1, Int.le_trans h.2.2.2 hB⟩⟩
theorem QB.mono {S : St} {B C : Int} (h : QB S B) (hB : B ≤ C) : QB S C := ⟨fun i hi => (h.1 i hi).mono hB, fun m hm => (h.2 m hm).mono hB⟩
theorem QB.cS {S : St} {B : Int} {i : Nat} {f : Nat → Int32} (h : QB S B) (hf : i < 20 → SecB B f) : QB (setS S i f) B := by
  refine ⟨fun j hj => ?_, h.2⟩
  by_cases q : j = i
  · subst q
    rw [sS_setS]
    exact hf hj
  · rw [show sS (setS S i f) j = sS S j from rset_n q]
    exact h.1 j hj
theorem QB.cM {S : St} {B : Int} {i : Nat} {f : Nat → Int32} (h : QB S B) (hf : i < nM S → MacB B f) : QB (setM S i f) B := by
  refine ⟨h.1, fun j hj => ?_⟩
  by_cases q : j = i
  · subst q
    rw [mS_setM]
    exact hf hj
  · rw [show mS (setM S i f) j = mS S j from rset_n q]
    exact h.2 j hj
theorem QB.cG {S : St} {B : Int} {f : Nat → Int32} (h : QB S B) : QB (setG S f) B := h
theorem QB.cN {S : St} {B : Int} {i : Nat} {f : Nat → Int32} (h : QB S B) : QB (setN S i f) B := h
theorem trt_b {f : Nat → Int32} {k h : Int32} {B : Int} (hf : SecB B f) (hB : 0 ≤ B ∧ B ≤ 100000) : SecB (B + 1) (trt f k h) := by
  have e0 : (0 : Int32).toInt = 0 := rfl
  have e1 : (1 : Int32).toInt = 1 := rfl
  have e4 : (4 : Int32).toInt = 4 := rfl
  have e10 : (10 : Int32).toInt = 10 := rfl
  have e40 : (40 : Int32).toInt = 40 := rfl
  obtain ⟨⟨a1, a2⟩, ⟨b1, b2⟩, c1, c2⟩ := hf
  refine ⟨?_, ?_, ?_⟩
  · show 0 ≤ (tS k (f 2)).toInt ∧ (tS k (f 2)).toInt ≤ 60
    unfold tS
    split
    · rw [tDiv a1 (by rw [e4]; decide), e4]
      omega
    · split
      · exact ⟨a1, a2⟩
      · rw [e0]
        omega
  · show 0 ≤ (tT k (f 3)).toInt ∧ (tT k (f 3)).toInt ≤ B + 1
    unfold tT
    split
    · rw [tAdd (by rw [e1]; omega) (by rw [e1]; omega), e1]
      omega
    · split
      · omega
      · rw [e0]
        omega
  · show 10 ≤ (tF k (f 4) h).toInt ∧ (tF k (f 4) h).toInt ≤ 40
    unfold tF
    split
    · exact ⟨c1, c2⟩
    · split
      · exact ⟨c1, c2⟩
      · rw [mx_ti, mn_ti, e10, e40]
        omega
theorem age_b {f : Nat → Int32} {t : Int32} {B : Int} (hf : SecB B f) (hB : 0 ≤ B ∧ B ≤ 100000) (h0 : ¬ t < 0) (h1 : t ≤ 40) : SecB B (age f t) := by
  have e0 : (0 : Int32).toInt = 0 := rfl
  have e5 : (5 : Int32).toInt = 5 := rfl
  have e10 : (10 : Int32).toInt = 10 := rfl
  have e40 : (40 : Int32).toInt = 40 := rfl
  have e60 : (60 : Int32).toInt = 60 := rfl
  obtain ⟨⟨a1, a2⟩, ⟨b1, b2⟩, c⟩ := hf
  have t0 : 0 ≤ t.toInt := by
    have := mt tLt.mpr h0
    rw [e0] at this
    omega
  have t1 : t.toInt ≤ 40 := by
    have := tLe.mp h1
    rw [e40] at this
    exact this
  refine ⟨?_, ⟨b1, b2⟩, c⟩
  show 0 ≤ (bS (f 2) t (f 3)).toInt ∧ (bS (f 2) t (f 3)).toInt ≤ 60
  have m5 : (5 * f 3).toInt = 5 * (f 3).toInt := by
    rw [tMul (by rw [e5]; omega) (by rw [e5]; omega), e5]
  have s1 : (t + 5 * f 3).toInt = t.toInt + 5 * (f 3).toInt := by
    rw [tAdd (by rw [m5]; omega) (by rw [m5]; omega), m5]
  have d1 : ((t + 5 * f 3) / 10).toInt = (t.toInt + 5 * (f 3).toInt) / 10 := by
    rw [tDiv (by rw [s1]; omega) (by rw [e10]; decide), s1, e10]
  unfold bS
  rw [mn_ti, e60, tAdd (by rw [d1]; omega) (by rw [d1]; omega), d1]
  omega
/-- a work that is done, or fails -/
theorem jo_b {S : St} {m q : Nat} {h : Int32} {B C : Int} (hS : QB S B) (hB : 0 ≤ B ∧ B ≤ 100000) (hh : 1 ≤ h.toInt ∧ h.toInt ≤ 5) (hC : QC S C) (hC9 : C ≤ 1000000000) :
    QB (oJo S m q h) (B + 1) ∧ ((gl S 2).toInt ≤ (gl (oJo S m q h) 2).toInt ∧ (gl (oJo S m q h) 2).toInt ≤ (gl S 2).toInt + 300) ∧ ∀ i, sS (oJo S m q h) i 6 = sS S i 6 ∧ sS (oJo S m q h) i 5 = sS S i 5 := by
  have e0 : (0 : Int32).toInt = 0 := rfl
  have e1 : (1 : Int32).toInt = 1 := rfl
  have e3 : (300 : Int32).toInt = 300 := rfl
  have hS1 := hS.mono (show B ≤ B + 1 by omega)
  have sg : ∀ (T : St), sS T = sS S → ∀ i, sS (setS T q (trt (sS S q) (mS S m 0) (gl S 1))) i 6 = sS S i 6 ∧ sS (setS T q (trt (sS S q) (mS S m 0) (gl S 1))) i 5 = sS S i 5 := by
    intro T hT i
    by_cases z : i = q
    · subst z
      rw [sS_setS]
      exact ⟨rfl, rfl⟩
    · rw [show sS (setS T q (trt (sS S q) (mS S m 0) (gl S 1))) i = sS T i from rset_n z, hT]
      exact ⟨rfl, rfl⟩
  have mb : h ≤ mS S m 1 → QB (setM S m (rset (rset (mS S m) 1 (mS S m 1 - h)) 2 (mS S m 2 + 1))) (B + 1) := by
    intro hl
    refine hS1.cM fun hm => ?_
    obtain ⟨⟨a1, a2⟩, ⟨b1, b2⟩, c1, c2⟩ := hS.2 m hm
    have l1 := tLe.mp hl
    refine ⟨?_, ?_, ?_⟩
    · rw [rset_n (by decide), rset_s, tSub (by omega) (by omega)]
      omega
    · rw [rset_s, tAdd (by rw [e1]; omega) (by rw [e1]; omega), e1]
      omega
    · rw [rset_n (by decide), rset_n (by decide)]
      omega
  unfold oJo
  by_cases hl : h ≤ mS S m 1
  · rw [if_pos hl]
    by_cases h2 : mS S m 0 = 2
    · rw [if_pos h2]
      refine ⟨((mb hl).cS fun hq => trt_b (hS.1 q hq) hB).cG, ?_, sg _ rfl⟩
      rw [gl_setG, rset_s]
      obtain ⟨a, b⟩ := hC
      rw [tAdd (by rw [e3]; omega) (by rw [e3]; omega), e3]
      omega
    · rw [if_neg h2]
      exact ⟨(mb hl).cS fun hq => trt_b (hS.1 q hq) hB, ⟨Int.le_refl _, Int.le_add_of_nonneg_right (by decide)⟩, sg _ rfl⟩
  · rw [if_neg hl]
    refine ⟨hS1.cM fun hm => ?_, ⟨Int.le_refl _, Int.le_add_of_nonneg_right (by decide)⟩, fun i => ⟨rfl, rfl⟩⟩
    obtain ⟨⟨a1, a2⟩, ⟨b1, b2⟩, c1, c2⟩ := hS.2 m hm
    refine ⟨?_, ?_, ?_⟩
    · rw [rset_n (by decide), rset_s, e0]
      omega
    · rw [rset_n (by decide), rset_n (by decide)]
      omega
    · rw [rset_s, tAdd (by rw [e1]; omega) (by rw [e1]; omega), e1]
      omega
theorem jobs_b {S : St} {n : Nat} {B C : Int} (hS : QB S B) (hB : 0 ≤ B ∧ B ≤ 90000) (hC : QC S C) (hC9 : C ≤ 900000000) : ∀ j, j ≤ 6 → (∀ i, i < j → 1 ≤ (jH S n i).toInt ∧ (jH S n i).toInt ≤ 5) →
    QB (jobs S n j) (B + j) ∧ ((gl S 2).toInt ≤ (gl (jobs S n j) 2).toInt ∧ (gl (jobs S n j) 2).toInt ≤ (gl S 2).toInt + 300 * j) ∧ ∀ i, sS (jobs S n j) i 6 = sS S i 6 ∧ sS (jobs S n j) i 5 = sS S i 5
  | 0, _, _ => ⟨hS.mono (by simp), by show (gl S 2).toInt ≤ (gl S 2).toInt ∧ (gl S 2).toInt ≤ _; omega, fun _ => ⟨rfl, rfl⟩⟩
  | j + 1, hj, hh => by
    obtain ⟨a, b, c⟩ := jobs_b hS hB hC hC9 j (by omega) (fun i hi => hh i (by omega))
    have hg : gS (jobs S n j) = gS S := (jobs_q j).2.1
    have e : jobs S n (j + 1) = oJo (jobs S n j) (jM (jobs S n j) n j) (jQ (jobs S n j) n j) (jH (jobs S n j) n j) := rfl
    obtain ⟨d1, d2, d3⟩ := jo_b (S := jobs S n j) (m := jM (jobs S n j) n j) (q := jQ (jobs S n j) n j) (h := jH (jobs S n j) n j) (C := C + 300 * j) a (by omega) (by
      show 1 ≤ (gS (jobs S n j) n (12 + 3 * j)).toInt ∧ (gS (jobs S n j) n (12 + 3 * j)).toInt ≤ 5
      rw [hg]
      exact hh j (by omega)) (by unfold QC at hC ⊢; omega) (by omega)
    rw [e]
    refine ⟨d1.mono (by omega), by omega, fun i => ⟨(d3 i).1.trans (c i).1, (d3 i).2.trans (c i).2⟩⟩
theorem hts_b {ma : Nat → Nat} {hr : Nat → Int32} {tool : Nat} {l0 : Int32} : ∀ j, j ≤ 6 → (∀ i, i < j → 1 ≤ (hr i).toInt ∧ (hr i).toInt ≤ 5) → 0 ≤ (htS ma hr tool l0 j).2.toInt ∧ (htS ma hr tool l0 j).2.toInt ≤ 7 * (j : Int)
  | 0, _, _ => by
    show 0 ≤ (0 : Int32).toInt ∧ (0 : Int32).toInt ≤ _
    decide
  | j + 1, hj, h => by
    have e2 : (2 : Int32).toInt = 2 := rfl
    obtain ⟨a, b⟩ := hts_b (ma := ma) (hr := hr) (tool := tool) (l0 := l0) j (by omega) (fun i hi => h i (by omega))
    obtain ⟨c, d⟩ := h j (by omega)
    simp only [htS]
    by_cases q : ma j = tool
    · rw [if_pos q]
      by_cases r : hr j ≤ (htS ma hr tool l0 j).1
      · rw [if_pos r]
        show 0 ≤ ((htS ma hr tool l0 j).2 + hr j).toInt ∧ ((htS ma hr tool l0 j).2 + hr j).toInt ≤ _
        rw [tAdd (by omega) (by omega)]
        omega
      · rw [if_neg r]
        have g : (hr j + 2).toInt = (hr j).toInt + 2 := by rw [tAdd (by rw [e2]; omega) (by rw [e2]; omega), e2]
        show 0 ≤ ((htS ma hr tool l0 j).2 + (hr j + 2)).toInt ∧ ((htS ma hr tool l0 j).2 + (hr j + 2)).toInt ≤ _
        rw [tAdd (by rw [g]; omega) (by rw [g]; omega), g]
        omega
    · rw [if_neg q]
      omega
theorem cnt_b {p : Nat → Int32} {c : Int} (hc : c ≤ 1000) : ∀ n, n ≤ 20 → (∀ k, k < n → 0 ≤ (p k).toInt ∧ (p k).toInt ≤ c) → 0 ≤ (cnt p n).toInt ∧ (cnt p n).toInt ≤ c * n
  | 0, _, _ => by
    show 0 ≤ (0 : Int32).toInt ∧ (0 : Int32).toInt ≤ _
    simp
  | n + 1, hn, h => by
    obtain ⟨a, b⟩ := cnt_b hc n (by omega) (fun k hk => h k (by omega))
    obtain ⟨d, e⟩ := h n (by omega)
    have g : c * (n + 1 : Nat) = c * n + c := by rw [show ((n + 1 : Nat) : Int) = (n : Int) + 1 by omega, Int.mul_add, Int.mul_one]
    have g2 : c * n ≤ 1000 * 20 := Int.le_trans (Int.mul_le_mul_of_nonneg_right hc (by omega)) (by omega)
    show 0 ≤ (cnt p n + p n).toInt ∧ (cnt p n + p n).toInt ≤ _
    rw [tAdd (by omega) (by omega), g]
    omega
theorem tk_b {S : St} {n : Nat} (hM : nM S ≤ 4) (h6 : nJ (gS S n) ≤ 6) (hh : ∀ i, i < nJ (gS S n) → 1 ≤ (jH S n i).toInt ∧ (jH S n i).toInt ≤ 5) : 0 ≤ (tkI S n).toInt ∧ (tkI S n).toInt ≤ 168 := by
  unfold tkI
  have := cnt_b (p := fun m => (htS (fun j => jM S n j) (hrC S n) m (mS S m 1) (nJ (gS S n))).2) (c := 42) (by decide) (nM S) (by omega) (fun m hm => by
    have a := hts_b (ma := fun j => jM S n j) (hr := hrC S n) (tool := m) (l0 := mS S m 1) (nJ (gS S n)) h6 hh
    omega)
  omega
/-- a night's end -/
theorem end_b {S : St} {n : Nat} {late : Int32} {B C : Int} (hS : QB S B) (hB : 0 ≤ B ∧ B ≤ 90000) (hC : QC S C) (hC9 : C ≤ 900000000) (hM : nM S ≤ 4) (hR : NgR (gS S n)) (h6 : nJ (gS S n) ≤ 6) (hl : 0 ≤ late.toInt ∧ late.toInt ≤ 2) :
    QB (oEnd S n late) (B + 6) ∧ ((gl S 2).toInt ≤ (gl (oEnd S n late) 2).toInt ∧ (gl (oEnd S n late) 2).toInt ≤ (gl S 2).toInt + 30000) ∧ ∀ i, sS (oEnd S n late) i 6 = sS S i 6 ∧ sS (oEnd S n late) i 5 = sS S i 5 := by
  obtain ⟨a, b, c⟩ := jobs_b (n := n) hS hB hC hC9 (nJ (gS S n)) h6 hR.2.2.2.2
  have hg : gS (jobs S n (nJ (gS S n))) = gS S := (jobs_q _).2.1
  have hk := tk_b hM h6 hR.2.2.2.2
  have hb := hR.2.2.1
  have e0 : (0 : Int32).toInt = 0 := rfl
  have e20 : (20 : Int32).toInt = 20 := rfl
  have e30 : (30 : Int32).toInt = 30 := rfl
  have e100 : (100 : Int32).toInt = 100 := rfl
  have eg : gl (oEnd S n late) 2 = gl (jobs S n (nJ (gS S n))) 2 + 20 * gS S n 5 + 30 * tkI S n + 100 * (mx 0 (tkI S n - gS S n 5) + late) := by
    unfold oEnd
    dsimp only
    rw [gl_setG, rset_s, hg]
  refine ⟨?_, ?_, ?_⟩
  · unfold oEnd
    dsimp only
    exact ((a.mono (by omega)).cN).cG
  · rw [eg]
    unfold QC at hC
    have m1 : (20 * gS S n 5).toInt = 20 * (gS S n 5).toInt := by rw [tMul (by rw [e20]; omega) (by rw [e20]; omega), e20]
    have m2 : (30 * tkI S n).toInt = 30 * (tkI S n).toInt := by rw [tMul (by rw [e30]; omega) (by rw [e30]; omega), e30]
    have m3 : (tkI S n - gS S n 5).toInt = (tkI S n).toInt - (gS S n 5).toInt := tSub (by omega) (by omega)
    have m4 : (mx 0 (tkI S n - gS S n 5) + late).toInt = max 0 ((tkI S n).toInt - (gS S n 5).toInt) + late.toInt := by
      have g : (mx 0 (tkI S n - gS S n 5)).toInt = max 0 ((tkI S n).toInt - (gS S n 5).toInt) := by rw [mx_ti, e0, m3]
      rw [tAdd (by rw [g]; omega) (by rw [g]; omega), g]
    have m5 : (100 * (mx 0 (tkI S n - gS S n 5) + late)).toInt = 100 * (max 0 ((tkI S n).toInt - (gS S n 5).toInt) + late.toInt) := by rw [tMul (by rw [e100, m4]; omega) (by rw [e100, m4]; omega), e100, m4]
    have s1 : (gl (jobs S n (nJ (gS S n))) 2 + 20 * gS S n 5).toInt = (gl (jobs S n (nJ (gS S n))) 2).toInt + 20 * (gS S n 5).toInt := by rw [tAdd (by rw [m1]; omega) (by rw [m1]; omega), m1]
    have s2 : (gl (jobs S n (nJ (gS S n))) 2 + 20 * gS S n 5 + 30 * tkI S n).toInt = (gl (jobs S n (nJ (gS S n))) 2).toInt + 20 * (gS S n 5).toInt + 30 * (tkI S n).toInt := by rw [tAdd (by rw [s1, m2]; omega) (by rw [s1, m2]; omega), s1, m2]
    rw [tAdd (by rw [s2, m5]; omega) (by rw [s2, m5]; omega), s2, m5]
    omega
  · unfold oEnd
    dsimp only
    exact c
theorem end_gn {S : St} {n : Nat} {late : Int32} : gS (oEnd S n late) n = rset (rset (gS S n) 0 2) 9 (mx 0 (tkI S n - gS S n 5) + late) := by
  have hg : gS (jobs S n (nJ (gS S n))) = gS S := (jobs_q _).2.1
  have e : gS (oEnd S n late) n = rset (rset (gS (jobs S n (nJ (gS S n))) n) 0 2) 9 (mx 0 (tkI S n - gS (jobs S n (nJ (gS S n))) n 5) + late) := rset_s
  rw [e, hg]
theorem end_gk {S : St} {n k : Nat} {late : Int32} (hk : k ≠ n) : gS (oEnd S n late) k = gS S k := by
  have hg : gS (jobs S n (nJ (gS S n))) = gS S := (jobs_q _).2.1
  have e : gS (oEnd S n late) k = gS (jobs S n (nJ (gS S n))) k := rset_n hk
  rw [e, hg]
