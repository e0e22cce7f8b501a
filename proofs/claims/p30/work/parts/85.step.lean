/-! what each call of p30's law does, and what the checks behind it ask -/
def P3 (S : St) (t : Nat) : Prop := Inv2 S ∧ QB S (100 * t) ∧ QN S ∧ QE S ∧ QC S (500000 * t) ∧ (gl S 0).toInt ≤ t
theorem P3.up {S : St} {t : Nat} (h : P3 S t) : P3 S (t + 1) := ⟨h.1, h.2.1.mono (by omega), h.2.2.1, h.2.2.2.1, ⟨h.2.2.2.2.1.1, by have := h.2.2.2.2.1.2; omega⟩, by have := h.2.2.2.2.2; omega⟩
/-- what the law keeps of the nights' states -/
def stF (S : St) : Nat → Int32 := fun k => if k < nN S then gS S k 0 else 0
def SteC (bf : Nat → Nat → Int32) (T : St) (day wk sg br : Int32) : Prop :=
  (∀ k, k < 20 → ¬ nI k = sg → ¬ sS T k 6 = bf k 6 → ¬ day = 0 ∧ sS T k 6 = 0 ∧ sS T k 1 = 60) ∧
  (day = 0 → wk = 0 → ∀ k, k < 20 → ∀ v, v < 5 → ofS T k v = bf k v) ∧
  cnt (fun k => if nI k = sg then 0 else if sS T k 6 = bf k 6 then 0 else 1) 20 = br
def TrC (f : Nat → Int32) (T : St) : Prop := ∀ k, k < nN T → gS T k 0 = f k ∨ (f k = 0 ∧ (gS T k 0 = 1 ∨ gS T k 0 = 3 ∨ gS T k 0 = 4)) ∨ (f k = 1 ∧ gS T k 0 = 2)
def Ste (S T : St) (t : Nat) (day wk sg : Int32) : Prop := P3 T (t + 1) ∧ (gl S 2).toInt ≤ (gl T 2).toInt ∧ SteC (ofS S) T day wk sg (gl T 4 - gl S 4) ∧ TrC (stF S) T ∧ nN S ≤ nN T
theorem ofS_lt {S : St} {k v : Nat} (hv : v < 7) : ofS S k v = sS S k v := if_pos hv
theorem i_sub (a : Int32) : a - a = 0 := by rw [Int32.sub_eq_add_neg, Int32.add_right_neg]
theorem SteC.same {S T : St} {day wk sg : Int32} (h6 : ∀ k, k < 20 → ¬ nI k = sg → sS T k 6 = sS S k 6) (hv : day = 0 → wk = 0 → ∀ k, k < 20 → ∀ v, v < 5 → sS T k v = sS S k v) (h4 : gl T 4 = gl S 4) : SteC (ofS S) T day wk sg (gl T 4 - gl S 4) := by
  refine ⟨fun k hk h1 h2 => absurd ((h6 k hk h1).trans (ofS_lt (by decide)).symm) h2, fun a b k hk v hv2 => ?_, ?_⟩
  · rw [ofS_lt (by omega), ofS_lt (by omega)]
    exact hv a b k hk v hv2
  · rw [h4, i_sub]
    refine cnt0 20 fun k hk => ?_
    by_cases c : nI k = sg
    · exact if_pos c
    · rw [if_neg c, if_pos ((h6 k hk c).trans (ofS_lt (by decide)).symm)]
theorem TrC.same {S T : St} (hN : nN T = nN S) (h : ∀ k, k < nN S → gS T k 0 = gS S k 0) : TrC (stF S) T := fun k hk => Or.inl (by rw [hN] at hk; rw [h k hk]; exact (if_pos hk).symm)
/-- a step that changes no night's state, no sign but one, no cost and no day -/
theorem Ste.plain {S T : St} {t : Nat} {sg : Int32} (h : P3 S t) (iv : Inv2 T) (qb : QB T (100 * t)) (qn : QN T) (qe : QE T) (h2 : gl T 2 = gl S 2) (h0 : gl T 0 = gl S 0) (h4 : gl T 4 = gl S 4) (h6 : ∀ k, k < 20 → ¬ nI k = sg → sS T k 6 = sS S k 6) (hv : ∀ k, k < 20 → ∀ v, v < 5 → sS T k v = sS S k v) (ht : TrC (stF S) T) (hN : nN S ≤ nN T) : Ste S T t 0 0 sg := by
  refine ⟨P3.up ⟨iv, qb, qn, qe, ?_, ?_⟩, ?_, SteC.same h6 (fun _ _ => hv) h4, ht, hN⟩
  · unfold QC
    rw [h2]
    exact h.2.2.2.2.1
  · rw [h0]
    exact h.2.2.2.2.2
  · rw [h2]
    exact Int.le_refl _
theorem Ste.none {S : St} {t : Nat} (h : P3 S t) : Ste S S t 0 0 (-1) := Ste.plain h h.1 h.2.1 h.2.2.1 h.2.2.2.1 rfl rfl rfl (fun _ _ _ => rfl) (fun _ _ _ _ => rfl) (TrC.same rfl fun _ _ => rfl) (Nat.le_refl _)
theorem NgR.cx {f g : Nat → Int32} (h : NgR g) (hx : ∀ x, x ≠ 0 → x ≠ 8 → x ≠ 9 → f x = g x) : NgR f := by
  have hJ : nJ f = nJ g := congrArg Int32.toNatClampNeg (hx 6 (by decide) (by decide) (by decide))
  unfold NgR
  rw [hJ, hx 1 (by decide) (by decide) (by decide), hx 2 (by decide) (by decide) (by decide), hx 3 (by decide) (by decide) (by decide), hx 5 (by decide) (by decide) (by decide), hx 6 (by decide) (by decide) (by decide), hx 7 (by decide) (by decide) (by decide)]
  refine ⟨h.1, h.2.1, h.2.2.1, h.2.2.2.1, fun j hj => ?_⟩
  rw [hx _ (by omega) (by omega) (by omega)]
  exact h.2.2.2.2 j hj
theorem NgM.cx {a b f g : Nat → Int32} (h : NgM a b) (hf : ∀ x, 1 ≤ x → x ≤ 4 → f x = a x) (hg : ∀ x, 1 ≤ x → x ≤ 4 → g x = b x) (h1 : ¬ f 0 = 4 → ¬ a 0 = 4) (h2 : ¬ g 0 = 4 → ¬ b 0 = 4) : NgM f g := by
  rintro ⟨a1, a2, a3, a4, a5, a6⟩
  rw [hf 1 (by decide) (by decide), hg 1 (by decide) (by decide)] at a1
  rw [hf 2 (by decide) (by decide), hg 3 (by decide) (by decide)] at a2
  rw [hg 2 (by decide) (by decide), hf 3 (by decide) (by decide)] at a3
  rw [hf 4 (by decide) (by decide), hg 4 (by decide) (by decide)] at a4
  exact h ⟨a1, a2, a3, a4, h1 a5, h2 a6⟩
/-- nights that changed their states alone -/
theorem QN.of {S T : St} (h : QN S) (hN : nN T = nN S) (hr : ∀ n, n < nN S → NgR (gS T n) ∧ NgD (gl T 0) (gS T n)) (hf : ∀ n, n < nN S → (∀ x, 1 ≤ x → x ≤ 4 → gS T n x = gS S n x) ∧ (¬ gS T n 0 = 4 → ¬ gS S n 0 = 4)) : QN T :=
  ⟨fun n hn => hr n (by rw [hN] at hn; exact hn), fun a b hb ha => by
    rw [hN] at ha
    exact (h.2 a b hb ha).cx (hf a ha).1 (hf b (by omega)).1 (hf a ha).2 (hf b (by omega)).2⟩
theorem QN.cR {S : St} {k : Nat} {f : Nat → Int32} (h : QN S) (hr : k < nN S → NgR f ∧ NgD (gl S 0) f) (hx : ∀ x, 1 ≤ x → x ≤ 4 → f x = gS S k x) (h4 : ¬ f 0 = 4 → ¬ gS S k 0 = 4) : QN (setN S k f) := by
  refine h.of rfl (fun n hn => ?_) (fun n hn => ?_)
  · by_cases q : n = k
    · subst q
      rw [gS_setN]
      exact hr hn
    · rw [show gS (setN S k f) n = gS S n from rset_n q]
      exact h.1 n hn
  · by_cases q : n = k
    · subst q
      rw [gS_setN]
      exact ⟨hx, h4⟩
    · rw [show gS (setN S k f) n = gS S n from rset_n q]
      exact ⟨fun _ _ _ => rfl, id⟩
theorem QN.cA {S : St} {f : Nat → Int32} (h : QN S) (hr : NgR f) (hd : NgD (gl S 0) f) (hm : ∀ b, b < nN S → NgM f (gS S b)) : QN (addN S f) := by
  have eN : nN (addN S f) = nN S + 1 := rfl
  have e1 : gS (addN S f) (nN S) = f := rset_s
  have e2 : ∀ n, n ≠ nN S → gS (addN S f) n = gS S n := fun n hn => rset_n hn
  refine ⟨fun n hn => ?_, fun a b hb ha => ?_⟩
  · by_cases q : n = nN S
    · subst q
      rw [e1]
      exact ⟨hr, hd⟩
    · rw [e2 n q]
      exact h.1 n (by omega)
  · by_cases q : a = nN S
    · subst q
      rw [e1, e2 b (by omega)]
      exact hm b hb
    · rw [e2 a q, e2 b (by omega)]
      exact h.2 a b hb (by omega)
theorem op_cur {S : St} {t k : Nat} {b : Int32} (h : P3 S t) (hk : k < 20) (hb : b = 0 ∨ b = 1) : oCur S (nI k) b = (0, sS S k 5, setS S k (rset (sS S k) 5 b)) ∧ Ste S (setS S k (rset (sS S k) 5 b)) t 0 0 (-1) := by
  have e : oCur S (nI k) b = (0, sS S k 5, setS S k (rset (sS S k) 5 b)) := by
    unfold oCur
    rw [ixO_s hk (by decide)]
  have iv := iv_Cur (i := nI k) h.1 hb
  rw [e] at iv
  have row : ∀ i v, v ≠ 5 → sS (setS S k (rset (sS S k) 5 b)) i v = sS S i v := by
    intro i v hv
    by_cases q : i = k
    · subst q
      rw [sS_setS, rset_n hv]
    · rw [show sS (setS S k (rset (sS S k) 5 b)) i = sS S i from rset_n q]
  refine ⟨e, Ste.plain h iv (h.2.1.cS fun hk => ?_) h.2.2.1 h.2.2.2.1 rfl rfl rfl (fun i _ _ => row i 6 (by decide)) (fun i _ v hv => row i v (by omega)) (TrC.same rfl fun _ _ => rfl) (Nat.le_refl _)⟩
  exact h.2.1.1 k hk
theorem op_sig {S : St} {t k m : Nat} (h : P3 S t) (hk : k < 20) (hm : m ≤ 160) : oSig S (nI k) (nI m) = (0, sS S k 6, setS S k (rset (sS S k) 6 (nI m))) ∧ Ste S (setS S k (rset (sS S k) 6 (nI m))) t 0 0 (nI k) := by
  have e : oSig S (nI k) (nI m) = (0, sS S k 6, setS S k (rset (sS S k) 6 (nI m))) := by
    unfold oSig
    rw [ixO_s hk (by decide)]
    show (if nI m < 0 then _ else if nI m ≤ 160 then _ else _) = _
    rw [if_neg (nI_nn (by omega)), if_pos (tLe.mpr (by rw [nI_toInt (by omega)]; show (m : Int) ≤ 160; omega))]
  have iv := iv_Sig (i := nI k) (v := nI m) h.1
  rw [e] at iv
  have row : ∀ i, ¬ nI i = nI k → sS (setS S k (rset (sS S k) 6 (nI m))) i = sS S i := by
    intro i hi
    exact rset_n (fun q => hi (by rw [q]))
  refine ⟨e, Ste.plain h iv (h.2.1.cS fun hk => ?_) h.2.2.1 h.2.2.2.1 rfl rfl rfl (fun i _ hi => by rw [row i hi]) (fun i _ v hv => ?_) (TrC.same rfl fun _ _ => rfl) (Nat.le_refl _)⟩
  · exact h.2.1.1 k hk
  · by_cases q : i = k
    · subst q
      rw [sS_setS, rset_n (by omega)]
    · rw [show sS (setS S k (rset (sS S k) 6 (nI m))) i = sS S i from rset_n q]
theorem op_mac {S : St} {t kd lf : Nat} (h : P3 S t) (hk : kd ≤ 2) (hl : lf ≤ 99) (hM : nM S < 4) : oMac S (nI kd) (nI lf) = (0, nI (nM S), addM S (rowM (nI kd) (nI lf))) ∧ Ste S (addM S (rowM (nI kd) (nI lf))) t 0 0 (-1) := by
  have e : oMac S (nI kd) (nI lf) = (0, nI (nM S), addM S (rowM (nI kd) (nI lf))) := by
    unfold oMac
    rw [if_neg (nI_nn (by omega)), if_pos (tLe.mpr (by rw [nI_toInt (by omega)]; show (kd : Int) ≤ 2; omega)), if_neg (nI_nn (by omega)), if_pos (tLe.mpr (by rw [nI_toInt (by omega)]; show (lf : Int) ≤ 99; omega)), if_pos (tLt.mpr (by rw [nI_toInt (by omega)]; show (nM S : Int) < 4; omega))]
  have iv := iv_Mac (kd := nI kd) (lf := nI lf) h.1
  rw [e] at iv
  refine ⟨e, Ste.plain h iv ⟨h.2.1.1, fun m hm => ?_⟩ h.2.2.1 h.2.2.2.1 rfl rfl rfl (fun _ _ _ => rfl) (fun _ _ _ _ => rfl) (TrC.same rfl fun _ _ => rfl) (Nat.le_refl _)⟩
  by_cases q : m = nM S
  · subst q
    rw [show mS (addM S (rowM (nI kd) (nI lf))) (nM S) = rowM (nI kd) (nI lf) from rset_s]
    have e1 : rowM (nI kd) (nI lf) 1 = nI lf := rfl
    have e2 : rowM (nI kd) (nI lf) 2 = 0 := rfl
    have e3 : rowM (nI kd) (nI lf) 3 = 0 := rfl
    have e0 : (0 : Int32).toInt = 0 := rfl
    unfold MacB
    rw [e1, e2, e3, nI_toInt (by omega), e0]
    omega
  · rw [show mS (addM S (rowM (nI kd) (nI lf))) m = mS S m from rset_n q]
    exact h.2.1.2 m (by have : m < nM S + 1 := hm; omega)
theorem c_str0 {a p q : Nat} (ha : a < 2) (hpq : p ≤ q) (hq : q < 10) : c_str (nI a) (nI p) (nI q) = 0 := by
  unfold c_str
  rw [if_neg (nI_nn (by omega)), if_pos (show nI a < 2 from nI_lt2 (k := 2) ha (by decide)), if_neg (nI_nn (by omega)), if_neg, if_neg (nI_nn (by omega)), if_pos (show nI q < 10 from nI_lt2 (k := 10) hq (by decide)), if_pos]
  · exact tLe.mpr (by rw [nI_toInt (by omega), nI_toInt (by omega)]; omega)
  · intro z
    have := tLe.mp z
    rw [nI_toInt (by omega)] at this
    have e : (10 : Int32).toInt = 10 := rfl
    omega
/-- a free day is found -/
theorem fre_ok {S : St} {t : Nat} (h : P3 S t) (ht : t ≤ 70) (a p q : Int32) : ∃ d : Nat, d ≤ 16 ∧ fre S a p q = gl S 0 + 5 + nI d ∧ ∀ k, k < nN S → ¬ pOcc S a p q (gl S 0 + 5 + nI d) k := by
  have hN := h.1.1.2.1.2.1
  have hg := h.1.1.2.2.2.2.2.1
  have hgt := h.2.2.2.2.2
  have e5 : (5 : Int32).toInt = 5 := rfl
  have hd : ∀ d : Nat, d ≤ 16 → (gl S 0 + 5 + nI d).toInt = (gl S 0).toInt + 5 + d := by
    intro d hd
    have s1 : (gl S 0 + 5).toInt = (gl S 0).toInt + 5 := by rw [tAdd (by rw [e5]; omega) (by rw [e5]; omega), e5]
    rw [tAdd (by rw [s1, nI_toInt (by omega)]; omega) (by rw [s1, nI_toInt (by omega)]; omega), s1, nI_toInt (by omega)]
  obtain ⟨d, hd1, hd2⟩ := pig (nN S) (fun k => gS S k 4) (fun d => gl S 0 + 5 + nI d) (fun i j hi hj e => by
    have := congrArg Int32.toInt e
    simp only [hd i (by omega), hd j (by omega)] at this
    omega)
  have hp : pFre S a p q d := ex_f fun k hk z => hd2 k hk z.1
  have hfr : 17 ≤ frN S := by
    unfold frN
    have e : (gl S 0).toNatClampNeg = (gl S 0).toInt.toNat := rfl
    omega
  have key : ∀ n, d < n → ∃ k, k ≤ d ∧ fo (pFre S a p q) n = some k ∧ pFre S a p q k := by
    intro n hn
    have hmin : ∀ m, m ≤ d + 1 → (∀ j, j < m → ¬ pFre S a p q j) ∨ ∃ k, k < m ∧ (∀ j, j < k → ¬ pFre S a p q j) ∧ pFre S a p q k := by
      intro m
      induction m with
      | zero => exact fun _ => Or.inl fun j hj => absurd hj (Nat.not_lt_zero _)
      | succ m ih =>
        intro hm
        rcases ih (by omega) with g | ⟨k, g1, g2, g3⟩
        · by_cases c : pFre S a p q m
          · exact Or.inr ⟨m, Nat.lt_succ_self _, g, c⟩
          · refine Or.inl fun j hj => ?_
            by_cases e : j = m
            · subst e
              exact c
            · exact g j (by omega)
        · exact Or.inr ⟨k, by omega, g2, g3⟩
    rcases hmin (d + 1) (Nat.le_refl _) with g | ⟨k, g1, g2, g3⟩
    · exact absurd hp (g d (Nat.lt_succ_self _))
    · exact ⟨k, by omega, fo_t (by omega) g2 g3, g3⟩
  obtain ⟨k, k1, k2, k3⟩ := key (frN S) (by omega)
  refine ⟨k, by omega, ?_, fun n hn z => ?_⟩
  · unfold fre
    rw [k2]
  · have g : ex01 (pOcc S a p q (gl S 0 + 5 + nI k)) (nN S) = 0 := k3
    rw [ex_t hn z] at g
    exact absurd g (by decide)
theorem op_boo {S : St} {t a p q hr : Nat} (h : P3 S t) (ht : t ≤ 70) (ha : a < 2) (hpq : p ≤ q) (hq : q < 10) (h1 : 2 ≤ hr) (h2 : hr ≤ 8) (hN : nN S < 16) : oBoo S (nI a) (nI p) (nI q) (fre S (nI a) (nI p) (nI q)) (nI hr) = (0, nI (nN S), addN S (rowN (nI a) (nI p) (nI q) (fre S (nI a) (nI p) (nI q)) (nI hr))) ∧ Ste S (addN S (rowN (nI a) (nI p) (nI q) (fre S (nI a) (nI p) (nI q)) (nI hr))) t 0 0 (-1) := by
  obtain ⟨d, hd, hf, hfr⟩ := fre_ok h ht (nI a) (nI p) (nI q)
  have hg := h.1.1.2.2.2.2.2.1
  have hgt := h.2.2.2.2.2
  have e5 : (5 : Int32).toInt = 5 := rfl
  have s1 : (gl S 0 + 5).toInt = (gl S 0).toInt + 5 := by rw [tAdd (by rw [e5]; omega) (by rw [e5]; omega), e5]
  have s2 : (gl S 0 + 5 + nI d).toInt = (gl S 0).toInt + 5 + d := by
    rw [tAdd (by rw [s1, nI_toInt (by omega)]; omega) (by rw [s1, nI_toInt (by omega)]; omega), s1, nI_toInt (by omega)]
  rw [hf]
  obtain ⟨D, hD⟩ : ∃ D, D = gl S 0 + 5 + nI d := ⟨_, rfl⟩
  rw [← hD] at s2 hfr ⊢
  have e2000 : (2000 : Int32).toInt = 2000 := rfl
  have e : oBoo S (nI a) (nI p) (nI q) D (nI hr) = (0, nI (nN S), addN S (rowN (nI a) (nI p) (nI q) D (nI hr))) := by
    unfold oBoo
    rw [c_str0 ha hpq hq]
    try dsimp only
    rw [if_neg (fun z => by have := tLt.mp z; omega), if_pos (tLe.mpr (by omega)), if_neg (fun z => by have := tLt.mp z; rw [nI_toInt (by omega)] at this; have e : (2 : Int32).toInt = 2 := rfl; omega), if_pos (tLe.mpr (by rw [nI_toInt (by omega)]; show (hr : Int) ≤ 8; omega)), if_pos (show nI (nN S) < 16 from nI_lt2 (k := 16) hN (by decide)), ex_f hfr, if_neg (by decide)]
    rfl
  have iv := iv_Boo (t := nI a) (f := nI p) (o := nI q) (d := D) (hh := nI hr) h.1
  rw [e] at iv
  have f0 : rowN (nI a) (nI p) (nI q) D (nI hr) 0 = 0 := rfl
  have f1 : rowN (nI a) (nI p) (nI q) D (nI hr) 1 = nI a := rfl
  have f2 : rowN (nI a) (nI p) (nI q) D (nI hr) 2 = nI p := rfl
  have f3 : rowN (nI a) (nI p) (nI q) D (nI hr) 3 = nI q := rfl
  have f4 : rowN (nI a) (nI p) (nI q) D (nI hr) 4 = D := rfl
  have f5 : rowN (nI a) (nI p) (nI q) D (nI hr) 5 = nI hr := rfl
  have f6 : rowN (nI a) (nI p) (nI q) D (nI hr) 6 = 0 := rfl
  have f7 : rowN (nI a) (nI p) (nI q) D (nI hr) 7 = 0 := rfl
  have e0 : (0 : Int32).toInt = 0 := rfl
  refine ⟨e, Ste.plain h iv h.2.1 (h.2.2.1.cA ?_ ?_ ?_) h.2.2.2.1 rfl rfl rfl (fun _ _ _ => rfl) (fun _ _ _ _ => rfl) (fun k hk => Or.inl ?_) (Nat.le_succ _)⟩
  · unfold NgR
    rw [f1, f2, f3, f5, f6, f7, nI_toInt (by omega), nI_toInt (by omega), nI_toInt (by omega), nI_toInt (by omega), e0]
    refine ⟨by omega, by omega, by omega, by omega, fun j hj => ?_⟩
    have hJ : nJ (rowN (nI a) (nI p) (nI q) D (nI hr)) = 0 := rfl
    rw [hJ] at hj
    omega
  · unfold NgD
    rw [f0, f4]
    exact ⟨fun z => absurd z (by decide), fun _ => by omega, fun z => absurd z (by decide)⟩
  · rintro b hb ⟨a1, a2, a3, a4, a5, a6⟩
    rw [f1] at a1
    rw [f2] at a2
    rw [f3] at a3
    rw [f4] at a4
    refine hfr b hb ⟨a4.symm, a6, ?_⟩
    unfold s_meets
    rw [if_pos a1.symm, if_neg (fun z => by have := tLt.mp z; omega), if_neg (fun z => by have := tLt.mp z; omega)]
    decide
  · have eN : nN (addN S (rowN (nI a) (nI p) (nI q) D (nI hr))) = nN S + 1 := rfl
    unfold stF
    by_cases q9 : k = nN S
    · subst q9
      rw [if_neg (Nat.lt_irrefl _), show gS (addN S (rowN (nI a) (nI p) (nI q) D (nI hr))) (nN S) = rowN (nI a) (nI p) (nI q) D (nI hr) from rset_s]
      rfl
    · rw [if_pos (by omega), show gS (addN S (rowN (nI a) (nI p) (nI q) D (nI hr))) k = gS S k from rset_n q9]
