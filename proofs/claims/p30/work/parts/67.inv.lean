/-! What every change keeps -/
theorem t_nI {t : Int32} {n : Nat} (h0 : ¬ t < 0) (h1 : t.toInt ≤ n) : ∃ k, k < n + 1 ∧ t = nI k := by
  have a := mt Int32.lt_iff_toInt_lt.mpr h0
  simp at a
  exact ⟨t.toInt.toNat, by omega, Int32.toInt_inj.mp (by rw [nI_toInt (by have := t.toInt_lt; omega)]; omega)⟩
theorem le_ti {x y : Int32} (h : x ≤ y) : x.toInt ≤ y.toInt := Int32.le_iff_toInt_le.mp h
theorem mx_ti (x y : Int32) : (mx x y).toInt = max x.toInt y.toInt := by
  unfold mx
  by_cases h : x < y
  · rw [if_pos h]
    have := Int32.lt_iff_toInt_lt.mp h
    omega
  · rw [if_neg h]
    have := mt Int32.lt_iff_toInt_lt.mpr h
    omega
theorem dv8 : ∀ n : Fin 41, 0 ≤ (nI n.1 / 8).toInt ∧ (nI n.1 / 8).toInt ≤ 40 := by decide
theorem dv4 : ∀ n : Fin 41, 0 ≤ (nI n.1 / 4).toInt ∧ (nI n.1 / 4).toInt ≤ 40 := by decide
theorem gr8 : ∀ n : Fin 61, 0 ≤ (nI n.1 + (1 + nI n.1 / 8)).toInt := by decide
theorem ti_add {x y : Int32} (hx : 0 ≤ x.toInt ∧ x.toInt ≤ 1000) (hy : 0 ≤ y.toInt ∧ y.toInt ≤ 1000) : (x + y).toInt = x.toInt + y.toInt := by
  rw [Int32.toInt_add, Int.bmod_eq_of_le (by simp; omega) (by simp; omega)]
theorem bW_iv {x c t : Int32} (hx : 0 ≤ x.toInt ∧ x.toInt ≤ 100) (h0 : ¬ t < 0) (h1 : t ≤ 40) : 0 ≤ (bW x c t).toInt ∧ (bW x c t).toInt ≤ 100 := by
  obtain ⟨n, hn, rfl⟩ := t_nI (n := 40) h0 (le_ti h1)
  unfold bW
  rw [mn_ti]
  have h100 : (100 : Int32).toInt = 100 := rfl
  have key : 0 ≤ (x + if c = 0 then nI n / 8 else nI n / 4).toInt := by
    split
    · have := dv8 ⟨n, hn⟩
      rw [ti_add ⟨hx.1, by omega⟩ ⟨this.1, by have := this.2; omega⟩]
      have := this.1
      omega
    · have := dv4 ⟨n, hn⟩
      rw [ti_add ⟨hx.1, by omega⟩ ⟨this.1, by have := this.2; omega⟩]
      have := this.1
      omega
  omega
theorem bC_iv {x y : Int32} (hy : 0 ≤ y.toInt ∧ y.toInt ≤ 60) : 0 ≤ (bC x y).toInt ∧ (bC x y).toInt ≤ 60 := by
  unfold bC
  rw [mn_ti]
  have h60 : (60 : Int32).toInt = 60 := rfl
  have key : 0 ≤ (y + bG x y).toInt := by
    unfold bG
    split
    · split
      · rw [Int32.add_zero]
        exact hy.1
      · rw [ti_add ⟨hy.1, by omega⟩ (by decide)]
        have : (1 : Int32).toInt = 1 := rfl
        omega
    · obtain ⟨n, hn, rfl⟩ := t_nI (n := 60) (t := y) (fun z => by have := Int32.lt_iff_toInt_lt.mp z; simp at this; omega) hy.2
      exact gr8 ⟨n, hn⟩
  omega
theorem age_iv {f : Nat → Int32} {t : Int32} (h : IvS f) (h0 : ¬ t < 0) (h1 : t ≤ 40) : IvS (age f t) :=
  ⟨bW_iv h.1 h0 h1, bC_iv h.2.1, h.2.2.1, h.2.2.2⟩
theorem trt_iv {f : Nat → Int32} {k t : Int32} (h : IvS f) : IvS (trt f k t) := by
  have e0 : trt f k t 0 = tW k (f 0) := rfl
  have e1 : trt f k t 1 = tC k (f 1) := rfl
  have e5 : trt f k t 5 = f 5 := rfl
  have e6 : trt f k t 6 = f 6 := rfl
  refine ⟨?_, ?_, ?_, ?_⟩
  · rw [e0]
    unfold tW
    split
    · exact h.1
    · split
      · have h100 : (100 : Int32).toInt = 100 := rfl
        have h2 : (2 : Int32).toInt = 2 := rfl
        rw [mn_ti, ti_add ⟨h.1.1, by have := h.1.2; omega⟩ (by decide)]
        have := h.1
        omega
      · decide
  · rw [e1]
    unfold tC
    split
    · exact h.2.1
    · split
      · have h8 : (8 : Int32).toInt = 8 := rfl
        have h00 : (0 : Int32).toInt = 0 := rfl
        rw [mx_ti, Int32.toInt_sub, Int.bmod_eq_of_le (by have := h.2.1; simp; omega) (by have := h.2.1; simp; omega)]
        have := h.2.1
        omega
      · decide
  · rw [e5]
    exact h.2.2.1
  · rw [e6]
    exact h.2.2.2
def SOk (S : St) : Prop := ∀ i, i < 20 → IvS (sS S i)
def MOk (S : St) : Prop := ∀ m, m < nM S → 0 ≤ (mS S m 0).toInt ∧ (mS S m 0).toInt ≤ 2
/-- what a night's end and a day keep -/
def Fq (S T : St) : Prop := nN T = nN S ∧ nM T = nM S ∧ nE T = nE S ∧ eS T = eS S ∧ (∀ n x, x ≠ 0 → x ≠ 9 → gS T n x = gS S n x) ∧ (SOk S → SOk T) ∧ (MOk S → MOk T)
theorem Fq.rf {S : St} : Fq S S := ⟨rfl, rfl, rfl, rfl, fun _ _ _ _ => rfl, id, id⟩
theorem Fq.tr {S T U : St} (h : Fq S T) (h2 : Fq T U) : Fq S U := ⟨h2.1.trans h.1, h2.2.1.trans h.2.1, h2.2.2.1.trans h.2.2.1, h2.2.2.2.1.trans h.2.2.2.1, fun n x a b => (h2.2.2.2.2.1 n x a b).trans (h.2.2.2.2.1 n x a b), fun z => h2.2.2.2.2.2.1 (h.2.2.2.2.2.1 z), fun z => h2.2.2.2.2.2.2 (h.2.2.2.2.2.2 z)⟩
theorem Fq.cS {S : St} {i : Nat} {f : Nat → Int32} (h : SOk S → i < 20 → IvS f) : Fq S (setS S i f) := by
  refine ⟨rfl, rfl, rfl, rfl, fun _ _ _ _ => rfl, fun z j hj => ?_, id⟩
  by_cases q : j = i
  · subst q
    rw [show sS (setS S j f) j = f from rset_s]
    exact h z hj
  · rw [show sS (setS S i f) j = sS S j from rset_n q]
    exact z j hj
theorem Fq.cG {S : St} {f : Nat → Int32} : Fq S (setG S f) := ⟨rfl, rfl, rfl, rfl, fun _ _ _ _ => rfl, id, id⟩
theorem Fq.cM {S : St} {i : Nat} {f : Nat → Int32} (h : f 0 = mS S i 0) : Fq S (setM S i f) := by
  refine ⟨rfl, rfl, rfl, rfl, fun _ _ _ _ => rfl, id, fun z m hm => ?_⟩
  by_cases q : m = i
  · subst q
    rw [mS_setM, h]
    exact z m hm
  · rw [show mS (setM S i f) m = mS S m from rset_n q]
    exact z m hm
theorem Fq.cN {S : St} {i : Nat} {f : Nat → Int32} (h : ∀ x, x ≠ 0 → x ≠ 9 → f x = gS S i x) : Fq S (setN S i f) := by
  refine ⟨rfl, rfl, rfl, rfl, fun n x a b => ?_, id, id⟩
  by_cases q : n = i
  · subst q
    exact (congrFun gS_setN x).trans (h x a b)
  · exact congrFun (rset_n (f := S.2.2.1.2) (x := f) q) x
theorem jo_q {S : St} {m q : Nat} {h : Int32} : Fq S (oJo S m q h) ∧ gS (oJo S m q h) = gS S ∧ (∀ x, x ≠ 2 → gl (oJo S m q h) x = gl S x) := by
  unfold oJo
  split
  · split
    · refine ⟨((Fq.cM ?_).tr (Fq.cS ?_)).tr Fq.cG, rfl, fun x hx => rset_n hx⟩
      · rw [rset_n (by decide), rset_n (by decide)]
      · exact fun z hq => trt_iv (z q hq)
    · refine ⟨(Fq.cM ?_).tr (Fq.cS ?_), rfl, fun x hx => rfl⟩
      · rw [rset_n (by decide), rset_n (by decide)]
      · exact fun z hq => trt_iv (z q hq)
  · refine ⟨Fq.cM ?_, rfl, fun x hx => rfl⟩
    rw [rset_n (by decide), rset_n (by decide)]
theorem jobs_q {S : St} {n : Nat} : ∀ j, Fq S (jobs S n j) ∧ gS (jobs S n j) = gS S ∧ (∀ x, x ≠ 2 → gl (jobs S n j) x = gl S x)
  | 0 => ⟨Fq.rf, rfl, fun _ _ => rfl⟩
  | j + 1 => by
    have h1 := jobs_q (S := S) (n := n) j
    have h2 := jo_q (S := jobs S n j) (m := jM (jobs S n j) n j) (q := jQ (jobs S n j) n j) (h := jH (jobs S n j) n j)
    exact ⟨h1.1.tr h2.1, h2.2.1.trans h1.2.1, fun x hx => (h2.2.2 x hx).trans (h1.2.2 x hx)⟩
theorem cnt_one {p q : Nat → Int32} {d : Int32} {m : Nat} : ∀ {n : Nat}, m < n → (∀ k, k < n → k ≠ m → q k = p k) → q m = p m + d → cnt q n = cnt p n + d
  | 0, h, _, _ => absurd h (Nat.not_lt_zero _)
  | n + 1, h, h1, h2 => by
    simp only [cnt]
    by_cases z : m = n
    · subst z
      rw [cnt_c m (fun k hk => h1 k (by omega) (by omega)), h2, Int32.add_assoc]
    · rw [cnt_one (n := n) (by omega) (fun k hk hm => h1 k (by omega) hm) h2, h1 n (by omega) (fun y => z y.symm), Int32.add_assoc, Int32.add_comm d, ← Int32.add_assoc]
/-- states and overruns -/
def PG (S : St) : Prop := (∀ n, n < nN S → (0 ≤ (gS S n 0).toInt ∧ (gS S n 0).toInt ≤ 4) ∧ (¬ gS S n 0 = 2 → gS S n 9 = 0)) ∧ gl S 6 = cnt (fun k => gS S k 9) (nN S)
theorem gl_setG {S : St} {f : Nat → Int32} : gl (setG S f) = f := rfl
theorem end_q {S : St} {n : Nat} {late : Int32} : Fq S (oEnd S n late) ∧ (∀ x, x ≠ 2 → x ≠ 6 → gl (oEnd S n late) x = gl S x) := by
  have h := jobs_q (S := S) (n := n) (nJ (gS S n))
  refine ⟨(h.1.tr (Fq.cN ?_)).tr Fq.cG, fun x h2 h6 => ?_⟩
  · intro x a b
    rw [rset_n b, rset_n a]
  · exact (rset_n h2).trans ((rset_n h6).trans (h.2.2 x h2))
theorem end_g {S : St} {n : Nat} {late : Int32} (hn : n < nN S) (h1 : gS S n 0 = 1) (hP : PG S) : PG (oEnd S n late) := by
  have h := jobs_q (S := S) (n := n) (nJ (gS S n))
  have hN : nN (oEnd S n late) = nN S := (end_q (late := late)).1.1
  have hg : ∀ k, k ≠ n → gS (oEnd S n late) k = gS S k := by
    intro k hk
    have e : gS (oEnd S n late) k = gS (jobs S n (nJ (gS S n))) k := rset_n hk
    rw [e, h.2.1]
  have hgn : gS (oEnd S n late) n = rset (rset (gS S n) 0 2) 9 (mx 0 (tkI S n - gS S n 5) + late) := by
    have e : gS (oEnd S n late) n = rset (rset (gS (jobs S n (nJ (gS S n))) n) 0 2) 9 (mx 0 (tkI S n - gS (jobs S n (nJ (gS S n))) n 5) + late) := rset_s
    rw [e, h.2.1]
  have h9 : gS S n 9 = 0 := (hP.1 n hn).2 (by rw [h1]; decide)
  refine ⟨fun k hk => ?_, ?_⟩
  · by_cases q : k = n
    · subst q
      rw [hgn, rset_n (show (0 : Nat) ≠ 9 by decide), rset_s]
      exact ⟨by decide, fun z => absurd rfl z⟩
    · rw [hg k q]
      exact hP.1 k (by rw [← hN]; exact hk)
  · have e6 : gl (oEnd S n late) 6 = gl S 6 + (mx 0 (tkI S n - gS S n 5) + late) := by
      have e : gl (oEnd S n late) 6 = gl (jobs S n (nJ (gS S n))) 6 + (mx 0 (tkI S n - gS (jobs S n (nJ (gS S n))) n 5) + late) := by
        unfold oEnd
        dsimp only
        rw [gl_setG, rset_n (by decide), rset_s]
      rw [e, h.2.1, h.2.2 6 (by decide)]
    rw [e6, hP.2, hN]
    refine (cnt_one hn (fun k _ hk => by show gS (oEnd S n late) k 9 = gS S k 9; rw [hg k hk]) ?_).symm
    show gS (oEnd S n late) n 9 = gS S n 9 + _
    rw [hgn, rset_s, h9, Int32.zero_add]
theorem nts_q {S : St} {d : Int32} : ∀ k, Fq S (nts S d k) ∧ (∀ x, x ≠ 2 → x ≠ 6 → gl (nts S d k) x = gl S x)
  | 0 => ⟨Fq.rf, fun _ _ _ => rfl⟩
  | k + 1 => by
    have h := nts_q (S := S) (d := d) k
    rw [nts_s]
    split
    · split
      · exact ⟨h.1.tr (Fq.cN fun x a b => rset_n a), h.2⟩
      · split
        · exact ⟨h.1.tr end_q.1, fun x a b => (end_q.2 x a b).trans (h.2 x a b)⟩
        · exact h
    · exact h
theorem nts_g {S : St} {d : Int32} (hP : PG S) : ∀ k, k ≤ nN S → PG (nts S d k)
  | 0, _ => hP
  | k + 1, hk => by
    have h := nts_g (S := S) (d := d) hP k (by omega)
    have hN : nN (nts S d k) = nN S := (nts_q k).1.1
    rw [nts_s]
    split
    · split
      · rename_i q0
        refine ⟨fun n hn => ?_, ?_⟩
        · by_cases q : n = k
          · subst q
            rw [gS_setN, rset_s, rset_n (show (9 : Nat) ≠ 0 by decide)]
            exact ⟨by decide, fun _ => (h.1 n hn).2 (by rw [q0]; decide)⟩
          · rw [show gS (setN (nts S d k) k (rset (gS (nts S d k) k) 0 3)) n = gS (nts S d k) n from rset_n q]
            exact h.1 n hn
        · refine h.2.trans (cnt_c _ fun n hn => ?_)
          by_cases q : n = k
          · subst q
            rw [gS_setN, rset_n (show (9 : Nat) ≠ 0 by decide)]
          · rw [show gS (setN (nts S d k) k (rset (gS (nts S d k) k) 0 3)) n = gS (nts S d k) n from rset_n q]
      · split
        · rename_i q1
          exact end_g (by omega) q1 h
        · exact h
    · exact h
theorem brk_q {S : St} {i : Nat} : Fq S (oBrk S i) ∧ gS (oBrk S i) = gS S ∧ (∀ x, x ≠ 4 → gl (oBrk S i) x = gl S x) := by
  unfold oBrk
  split
  · exact ⟨Fq.rf, rfl, fun _ _ => rfl⟩
  · split
    · exact ⟨Fq.rf, rfl, fun _ _ => rfl⟩
    · refine ⟨(Fq.cS fun z hi => ?_).tr Fq.cG, rfl, fun x hx => rset_n hx⟩
      have := z i hi
      exact ⟨this.1, this.2.1, this.2.2.1, by rw [show rset (sS S i) 6 0 6 = 0 from rset_s]; decide⟩
theorem sec_q {S : St} {t : Int32} {i : Nat} (h0 : ¬ t < 0) (h1 : t ≤ 40) : Fq S (oSec S t i) ∧ gS (oSec S t i) = gS S ∧ (∀ x, x ≠ 2 → x ≠ 3 → x ≠ 4 → gl (oSec S t i) x = gl S x) := by
  unfold oSec
  dsimp only
  obtain ⟨T2, hT2, hA, hA2, hA3⟩ : ∃ T2, T2 = setG (setS S i (age (sS S i) t)) (rset (gl (setS S i (age (sS S i) t))) 2 (gl (setS S i (age (sS S i) t)) 2 + s_delay t (sS (setS S i (age (sS S i) t)) i 6))) ∧ Fq S T2 ∧ gS T2 = gS S ∧ ∀ x, x ≠ 2 → gl T2 x = gl S x :=
    ⟨_, rfl, (Fq.cS fun z hi => age_iv (z i hi) h0 h1).tr Fq.cG, rfl, fun x hx => rset_n hx⟩
  rw [← hT2]
  have hB := brk_q (S := T2) (i := i)
  obtain ⟨T3, hT3⟩ : ∃ T3, T3 = oBrk T2 i := ⟨_, rfl⟩
  rw [← hT3] at hB ⊢
  split
  · exact ⟨hA.tr hB.1, hB.2.1.trans hA2, fun x a b c => (hB.2.2 x c).trans (hA3 x a)⟩
  · exact ⟨(hA.tr hB.1).tr Fq.cG, hB.2.1.trans hA2, fun x a b c => (rset_n b).trans ((hB.2.2 x c).trans (hA3 x a))⟩
theorem dys_s {S : St} {t : Int32} {i : Nat} : dys S t (i + 1) = oSec (dys S t i) t i := rfl
theorem dys_q {S : St} {t : Int32} (h0 : ¬ t < 0) (h1 : t ≤ 40) : ∀ i, Fq S (dys S t i) ∧ gS (dys S t i) = gS S ∧ (∀ x, x ≠ 2 → x ≠ 3 → x ≠ 4 → gl (dys S t i) x = gl S x)
  | 0 => ⟨Fq.rf, rfl, fun _ _ _ _ => rfl⟩
  | i + 1 => by
    have a := dys_q (S := S) h0 h1 i
    have b := sec_q (S := dys S t i) (i := i) h0 h1
    rw [dys_s]
    exact ⟨a.1.tr b.1, b.2.1.trans a.2.1, fun x p q r => (b.2.2 x p q r).trans (a.2.2 x p q r)⟩
theorem PG.of {S T : St} (h : PG S) (hN : nN T = nN S) (hg : gS T = gS S) (h6 : gl T 6 = gl S 6) : PG T := by
  refine ⟨fun n hn => ?_, ?_⟩
  · rw [hg]
    exact h.1 n (by omega)
  · rw [h6, hN, hg]
    exact h.2
theorem Inv2.pg {S : St} (h : Inv2 S) : PG S := ⟨fun n hn => ⟨(h.1.2.2.2.1 n hn).2.1, h.2.2 n hn⟩, h.1.2.2.2.2.2.2⟩
theorem Inv2.of {S T : St} (h : Inv2 S) (hF : Fq S T) (hP : PG T) (h0 : 0 ≤ (gl T 0).toInt ∧ (gl T 0).toInt ≤ 2000) : Inv2 T := by
  obtain ⟨hN, hM, hE, he, hg, hS, hMo⟩ := hF
  have h6 : ∀ n, nJ (gS T n) = nJ (gS S n) := fun n => congrArg Int32.toNatClampNeg (hg n 6 (by decide) (by decide))
  refine ⟨⟨hS h.1.1, ⟨by rw [hM]; exact h.1.2.1.1, by rw [hN]; exact h.1.2.1.2.1, by rw [hE]; exact h.1.2.1.2.2⟩, hMo h.1.2.2.1, fun n hn => ?_, fun k hk => ?_, h0, hP.2⟩, fun n hn => ?_, fun n hn => (hP.1 n hn).2⟩
  · rw [hN] at hn
    obtain ⟨a, b, c, d, e⟩ := h.1.2.2.2.1 n hn
    refine ⟨?_, (hP.1 n (by omega)).1, ?_, ?_, ?_⟩
    · intro j hj
      rw [h6] at hj
      have e1 : jM T n j = jM S n j := congrArg Int32.toNatClampNeg (hg n _ (by omega) (by omega))
      have e2 : jQ T n j = jQ S n j := congrArg Int32.toNatClampNeg (hg n _ (by omega) (by omega))
      rw [e1, e2, hM]
      exact a j hj
    · rw [hg n 8 (by decide) (by decide)]
      exact c
    · rw [hg n 6 (by decide) (by decide)]
      exact d
    · rw [hg n 7 (by decide) (by decide), h6, e]
      exact hsum_c _ fun j hj => (hg n _ (by omega) (by omega)).symm
  · rw [he]
    exact h.1.2.2.2.2.1 k (by omega)
  · rw [hN] at hn
    obtain ⟨a, b⟩ := h.2.1 n hn
    refine ⟨by rw [hg n 4 (by decide) (by decide)]; exact a, fun j hj => ?_⟩
    rw [h6] at hj
    rw [hg n _ (by omega) (by omega), hg n _ (by omega) (by omega)]
    exact b j hj
/-- a day -/
def dayS (S : St) (h : Int32) : St := setG (nts S (gl S 0) (nN S)) (rset (rset (gl (nts S (gl S 0) (nN S))) 0 (gl (nts S (gl S 0) (nN S)) 0 + 1)) 1 h)
theorem day_e {S : St} {t h : Int32} : oDay S t h = dys (dayS S h) t 20 := by
  unfold oDay dayS
  dsimp only
theorem dayS_q {S : St} {h : Int32} (hI : Inv2 S) : Fq S (dayS S h) ∧ PG (dayS S h) ∧ gl (dayS S h) 0 = gl S 0 + 1 := by
  have a := nts_q (S := S) (d := gl S 0) (nN S)
  have b := nts_g (d := gl S 0) hI.pg (nN S) (Nat.le_refl _)
  refine ⟨a.1.tr Fq.cG, b.of rfl rfl ?_, ?_⟩
  · show rset (rset (gl (nts S (gl S 0) (nN S))) 0 (gl (nts S (gl S 0) (nN S)) 0 + 1)) 1 h 6 = _
    rw [rset_n (by decide), rset_n (by decide)]
  · show rset (rset (gl (nts S (gl S 0) (nN S))) 0 (gl (nts S (gl S 0) (nN S)) 0 + 1)) 1 h 0 = _
    rw [rset_n (by decide), rset_s, a.2 0 (by decide) (by decide)]
theorem day_iv {S : St} {t h : Int32} (hI : Inv2 S) (h0 : ¬ t < 0) (h1 : t ≤ 40) (hd : (gl S 0).toInt < 2000) : Inv2 (oDay S t h) ∧ gl (oDay S t h) 0 = gl S 0 + 1 := by
  obtain ⟨a, b, c⟩ := dayS_q (h := h) hI
  rw [day_e]
  obtain ⟨D, hD⟩ : ∃ D, D = dayS S h := ⟨_, rfl⟩
  rw [← hD] at a b c ⊢
  have d := dys_q (S := D) h0 h1 20
  obtain ⟨E, hE⟩ : ∃ E, E = dys D t 20 := ⟨_, rfl⟩
  rw [← hE] at d ⊢
  have e0 : gl E 0 = gl S 0 + 1 := (d.2.2 0 (by decide) (by decide) (by decide)).trans c
  refine ⟨hI.of (a.tr d.1) (b.of d.1.1 d.2.1 (d.2.2 6 (by decide) (by decide) (by decide))) ?_, e0⟩
  rw [e0]
  have g := hI.1.2.2.2.2.2.1
  have e1 : (1 : Int32).toInt = 1 := rfl
  rw [Int32.toInt_add, Int.bmod_eq_of_le (by simp; omega) (by simp; omega)]
  omega
theorem add_sub' (a b : Int32) : a + b - a = b := by
  rw [Int32.sub_eq_add_neg, Int32.add_comm a b, Int32.add_assoc, Int32.add_right_neg, Int32.add_zero]
theorem sub_tr (a b c : Int32) : (a - b) + (c - a) = c - b := by
  rw [Int32.sub_eq_add_neg, Int32.sub_eq_add_neg, Int32.sub_eq_add_neg, Int32.add_comm c, ← Int32.add_assoc, Int32.add_assoc a, Int32.add_comm (-b), ← Int32.add_assoc, Int32.add_right_neg, Int32.zero_add, Int32.add_comm]
theorem pas_iv {S : St} {t h : Int32} (hI : Inv2 S) (h0 : ¬ t < 0) (h1 : t ≤ 40) : ∀ j : Nat, (gl S 0).toInt + (j : Int) ≤ 2000 → Inv2 (pas S t h j) ∧ (gl (pas S t h j) 0).toInt = (gl S 0).toInt + j
  | 0, _ => ⟨hI, by simp [pas]⟩
  | j + 1, hj => by
    obtain ⟨a, b⟩ := pas_iv (h := h) hI h0 h1 j (by omega)
    obtain ⟨c, d⟩ := day_iv (h := h) a h0 h1 (by omega)
    have e : pas S t h (j + 1) = oDay (pas S t h j) t h := rfl
    rw [e]
    refine ⟨c, ?_⟩
    have g := hI.1.2.2.2.2.2.1
    have e1 : (1 : Int32).toInt = 1 := rfl
    rw [d, Int32.toInt_add, Int.bmod_eq_of_le (by simp; omega) (by simp; omega), b]
    omega
