/-! a day, for p30's law -/
def nst (d : Int32) (f : Nat → Int32) : Int32 := if f 4 = d then (if f 0 = 0 then 3 else if f 0 = 1 then 2 else f 0) else f 0
theorem nts_k {S : St} {d : Int32} : ∀ n k, n ≤ k → gS (nts S d n) k = gS S k
  | 0, _, _ => rfl
  | n + 1, k, h => by
    have ih := nts_k (S := S) (d := d) n k (by omega)
    have hne : k ≠ n := by omega
    rw [nts_s]
    split
    · split
      · rw [show gS (setN (nts S d n) n (rset (gS (nts S d n) n) 0 3)) k = gS (nts S d n) k from rset_n hne]
        exact ih
      · split
        · rw [end_gk hne]
          exact ih
        · exact ih
    · exact ih
theorem nts_st {S : St} {d : Int32} : ∀ n k, k < n → gS (nts S d n) k 0 = nst d (gS S k)
  | 0, _, h => absurd h (Nat.not_lt_zero _)
  | n + 1, k, h => by
    have hk := nts_k (S := S) (d := d) n n (Nat.le_refl _)
    rw [nts_s]
    by_cases q : k = n
    · subst q
      unfold nst
      rw [hk]
      by_cases c4 : gS S k 4 = d
      · rw [if_pos c4, if_pos c4]
        by_cases c0 : gS S k 0 = 0
        · rw [if_pos c0, if_pos c0, gS_setN, rset_s]
        · rw [if_neg c0, if_neg c0]
          by_cases c1 : gS S k 0 = 1
          · rw [if_pos c1, if_pos c1, end_gn, rset_n (by decide), rset_s]
          · rw [if_neg c1, if_neg c1, hk]
      · rw [if_neg c4, if_neg c4, hk]
    · have ih := nts_st (S := S) (d := d) n k (by omega)
      split
      · split
        · rw [show gS (setN (nts S d n) n (rset (gS (nts S d n) n) 0 3)) k = gS (nts S d n) k from rset_n q]
          exact ih
        · split
          · rw [end_gk q]
            exact ih
          · exact ih
      · exact ih
theorem j6 {S : St} (hI : Inv2 S) {n : Nat} (hn : n < nN S) : nJ (gS S n) ≤ 6 := by
  have h := (hI.1.2.2.2.1 n hn).2.2.2.1
  have e : nJ (gS S n) = (gS S n 6).toInt.toNat := rfl
  omega
theorem nts_b {S : St} {d : Int32} {B C : Int} (hI : Inv2 S) (hS : QB S B) (hB : 0 ≤ B ∧ B ≤ 80000) (hC : QC S C) (hC9 : C ≤ 800000000) (hR : ∀ n, n < nN S → NgR (gS S n)) : ∀ k, k ≤ nN S →
    QB (nts S d k) (B + 6 * k) ∧ ((gl S 2).toInt ≤ (gl (nts S d k) 2).toInt ∧ (gl (nts S d k) 2).toInt ≤ (gl S 2).toInt + 30000 * k) ∧ ∀ i, sS (nts S d k) i 6 = sS S i 6 ∧ sS (nts S d k) i 5 = sS S i 5
  | 0, _ => ⟨hS.mono (by simp), by show (gl S 2).toInt ≤ (gl S 2).toInt ∧ (gl S 2).toInt ≤ _; omega, fun _ => ⟨rfl, rfl⟩⟩
  | k + 1, hk => by
    obtain ⟨a, b, c⟩ := nts_b (d := d) hI hS hB hC hC9 hR k (by omega)
    have hN16 := hI.1.2.1.2.1
    have hM : nM (nts S d k) ≤ 4 := by
      rw [(nts_q k).1.2.1]
      exact hI.1.2.1.1
    have hg := nts_k (S := S) (d := d) k k (Nat.le_refl _)
    have h6 := j6 hI (n := k) (by omega)
    have hC2 : QC (nts S d k) (C + 30000 * k) := by unfold QC at hC ⊢; omega
    rw [nts_s]
    split
    · split
      · exact ⟨(a.mono (by omega)).cN, by show (gl S 2).toInt ≤ (gl (nts S d k) 2).toInt ∧ (gl (nts S d k) 2).toInt ≤ _; omega, c⟩
      · split
        · obtain ⟨d1, d2, d3⟩ := end_b (n := k) (late := 2) a (by omega) hC2 (by omega) hM (by rw [hg]; exact hR k (by omega)) (by rw [hg]; exact h6) (by decide)
          exact ⟨d1.mono (by omega), by omega, fun i => ⟨(d3 i).1.trans (c i).1, (d3 i).2.trans (c i).2⟩⟩
        · exact ⟨a.mono (by omega), by omega, c⟩
    · exact ⟨a.mono (by omega), by omega, c⟩
/-- a section behind a day -/
def sRow (f : Nat → Int32) (t : Int32) : Nat → Int32 := if age f t 1 < 60 then age f t else if age f t 6 ≤ 0 then age f t else rset (age f t) 6 0
theorem brk_e {T : St} {i : Nat} {a : Nat → Int32} (h : sS T i = a) : sS (oBrk T i) i = (if a 1 < 60 then a else if a 6 ≤ 0 then a else rset a 6 0) ∧ (∀ j, j ≠ i → sS (oBrk T i) j = sS T j) ∧ gl (oBrk T i) = (if a 1 < 60 then gl T else if a 6 ≤ 0 then gl T else rset (gl T) 4 (gl T 4 + 1)) := by
  subst h
  unfold oBrk
  by_cases c1 : sS T i 1 < 60
  · rw [if_pos c1, if_pos c1, if_pos c1]
    exact ⟨rfl, fun _ _ => rfl, rfl⟩
  · rw [if_neg c1, if_neg c1, if_neg c1]
    by_cases c2 : sS T i 6 ≤ 0
    · rw [if_pos c2, if_pos c2, if_pos c2]
      exact ⟨rfl, fun _ _ => rfl, rfl⟩
    · rw [if_neg c2, if_neg c2, if_neg c2]
      exact ⟨sS_setS, fun j hj => rset_n hj, rfl⟩
theorem sRow_6 {f : Nat → Int32} {t : Int32} : sRow f t 6 = f 6 ∨ (sRow f t 6 = 0 ∧ ¬ f 6 = 0 ∧ ¬ sRow f t 1 < 60) := by
  unfold sRow
  by_cases c1 : age f t 1 < 60
  · rw [if_pos c1]
    exact Or.inl rfl
  · rw [if_neg c1]
    by_cases c2 : age f t 6 ≤ 0
    · rw [if_pos c2]
      exact Or.inl rfl
    · rw [if_neg c2]
      have e : age f t 6 = f 6 := rfl
      rw [e] at c2
      refine Or.inr ⟨rset_s, fun q => c2 (by rw [q]; decide), ?_⟩
      rw [rset_n (by decide)]
      exact c1
theorem sec_e {S : St} {t : Int32} {i : Nat} : sS (oSec S t i) i = sRow (sS S i) t ∧ (∀ j, j ≠ i → sS (oSec S t i) j = sS S j) ∧ gl (oSec S t i) 2 = gl S 2 + s_delay t (sS S i 6) ∧ gl (oSec S t i) 4 = gl S 4 + (if sRow (sS S i) t 6 = sS S i 6 then 0 else 1) ∧ gl (oSec S t i) 3 = gl S 3 + (if sRow (sS S i) t 6 ≤ sp7 (sRow (sS S i) t) (gl S 1) then 0 else 1) ∧ gl (oSec S t i) 1 = gl S 1 := by
  obtain ⟨T2, hT2, f1, f2, f3⟩ : ∃ T2, T2 = setG (setS S i (age (sS S i) t)) (rset (gl (setS S i (age (sS S i) t))) 2 (gl (setS S i (age (sS S i) t)) 2 + s_delay t (sS (setS S i (age (sS S i) t)) i 6))) ∧ sS T2 i = age (sS S i) t ∧ (∀ j, j ≠ i → sS T2 j = sS S j) ∧ gl T2 = rset (gl S) 2 (gl S 2 + s_delay t (sS S i 6)) :=
    ⟨_, rfl, sS_setS, fun j hj => rset_n hj, by rw [sS_setS]; rfl⟩
  obtain ⟨b1, b2, b3⟩ := brk_e f1
  have e : oSec S t i = (if sS (oBrk T2 i) i 6 ≤ sp7 (sS (oBrk T2 i) i) (gl (oBrk T2 i) 1) then oBrk T2 i else setG (oBrk T2 i) (rset (gl (oBrk T2 i)) 3 (gl (oBrk T2 i) 3 + 1))) := by
    rw [hT2]
    rfl
  have r1 : sS (oBrk T2 i) i = sRow (sS S i) t := b1
  have g1 : gl (oBrk T2 i) 1 = gl S 1 := by
    rw [b3, f3]
    split
    · exact rset_n (by decide)
    · split
      · exact rset_n (by decide)
      · exact (rset_n (by decide)).trans (rset_n (by decide))
  have g2 : gl (oBrk T2 i) 2 = gl S 2 + s_delay t (sS S i 6) := by
    rw [b3, f3]
    split
    · exact rset_s
    · split
      · exact rset_s
      · exact (rset_n (by decide)).trans rset_s
  have g3 : gl (oBrk T2 i) 3 = gl S 3 := by
    rw [b3, f3]
    split
    · exact rset_n (by decide)
    · split
      · exact rset_n (by decide)
      · exact (rset_n (by decide)).trans (rset_n (by decide))
  have g4 : gl (oBrk T2 i) 4 = gl S 4 + (if sRow (sS S i) t 6 = sS S i 6 then 0 else 1) := by
    rw [b3, f3]
    have e6 : age (sS S i) t 6 = sS S i 6 := rfl
    by_cases c1 : age (sS S i) t 1 < 60
    · have er : sRow (sS S i) t = age (sS S i) t := if_pos c1
      rw [if_pos c1, er, if_pos e6, Int32.add_zero]
      exact rset_n (by decide)
    · by_cases c2 : age (sS S i) t 6 ≤ 0
      · have er : sRow (sS S i) t = age (sS S i) t := (if_neg c1).trans (if_pos c2)
        rw [if_neg c1, if_pos c2, er, if_pos e6, Int32.add_zero]
        exact rset_n (by decide)
      · have er : sRow (sS S i) t = rset (age (sS S i) t) 6 0 := (if_neg c1).trans (if_neg c2)
        rw [if_neg c1, if_neg c2, er, rset_s, rset_s, rset_n (by decide), if_neg]
        intro z
        exact c2 (by rw [e6, ← z]; decide)
  rw [r1, g1] at e
  by_cases c : sRow (sS S i) t 6 ≤ sp7 (sRow (sS S i) t) (gl S 1)
  · rw [if_pos c] at e
    rw [e, if_pos c, Int32.add_zero]
    exact ⟨r1, fun j hj => (b2 j hj).trans (f2 j hj), g2, g4, g3, g1⟩
  · rw [if_neg c] at e
    rw [e, if_neg c]
    refine ⟨r1, fun j hj => (b2 j hj).trans (f2 j hj), ?_, ?_, ?_, ?_⟩
    · rw [gl_setG, rset_n (by decide)]
      exact g2
    · rw [gl_setG, rset_n (by decide)]
      exact g4
    · rw [gl_setG, rset_s, g3]
    · rw [gl_setG, rset_n (by decide)]
      exact g1
theorem dys_e {D : St} {t : Int32} : ∀ n, (∀ i, i < n → sS (dys D t n) i = sRow (sS D i) t) ∧ (∀ i, n ≤ i → sS (dys D t n) i = sS D i) ∧ gl (dys D t n) 4 = gl D 4 + cnt (fun i => if sRow (sS D i) t 6 = sS D i 6 then 0 else 1) n ∧ gl (dys D t n) 3 = gl D 3 + cnt (fun i => if sRow (sS D i) t 6 ≤ sp7 (sRow (sS D i) t) (gl D 1) then 0 else 1) n ∧ gl (dys D t n) 1 = gl D 1
  | 0 => ⟨fun i h => absurd h (Nat.not_lt_zero _), fun _ _ => rfl, (Int32.add_zero _).symm, (Int32.add_zero _).symm, rfl⟩
  | n + 1 => by
    obtain ⟨a, b, c, d, e⟩ := dys_e (D := D) (t := t) n
    obtain ⟨s1, s2, -, s4, s3, s5⟩ := sec_e (S := dys D t n) (t := t) (i := n)
    have hn := b n (Nat.le_refl _)
    rw [hn] at s1 s4 s3
    rw [dys_s]
    refine ⟨fun i hi => ?_, fun i hi => ?_, ?_, ?_, s5.trans e⟩
    · by_cases q : i = n
      · subst q
        exact s1
      · exact (s2 i q).trans (a i (by omega))
    · exact (s2 i (by omega)).trans (b i (by omega))
    · rw [s4, c, Int32.add_assoc]
      rfl
    · rw [s3, d, e, Int32.add_assoc]
      rfl
theorem del_b {t s : Int32} (h0 : ¬ t < 0) (h1 : t ≤ 40) (hs : 0 ≤ s.toInt ∧ s.toInt ≤ 160) : 0 ≤ (s_delay t s).toInt ∧ (s_delay t s).toInt ≤ 80 := by
  have e0 : (0 : Int32).toInt = 0 := rfl
  have e40 : (40 : Int32).toInt = 40 := rfl
  have e80 : (80 : Int32).toInt = 80 := rfl
  have e160 : (160 : Int32).toInt = 160 := rfl
  have t0 : 0 ≤ t.toInt := by
    have := mt tLt.mpr h0
    rw [e0] at this
    omega
  have t1 : t.toInt ≤ 40 := by
    have := tLe.mp h1
    rw [e40] at this
    exact this
  have m1 : (160 - s).toInt = 160 - s.toInt := by rw [tSub (by rw [e160]; omega) (by rw [e160]; omega), e160]
  have p0 : 0 ≤ t.toInt * (160 - s.toInt) := Int.mul_nonneg t0 (by omega)
  have p1 : t.toInt * (160 - s.toInt) ≤ 40 * 160 := Int.mul_le_mul t1 (by omega) (by omega) (by decide)
  obtain ⟨P, hP⟩ : ∃ P, P = t.toInt * (160 - s.toInt) := ⟨_, rfl⟩
  have m2 : (t * (160 - s)).toInt = P := by
    rw [tMul (by rw [m1, ← hP]; omega) (by rw [m1, ← hP]; omega), m1, hP]
  unfold s_delay
  rw [tDiv (by rw [m2]; omega) (by rw [e80]; decide), m2, e80]
  omega
theorem sRow_b {f : Nat → Int32} {t : Int32} {B : Int} (hf : SecB B f) (hB : 0 ≤ B ∧ B ≤ 100000) (h0 : ¬ t < 0) (h1 : t ≤ 40) : SecB B (sRow f t) := by
  have h := age_b hf hB h0 h1
  unfold sRow
  split
  · exact h
  · split
    · exact h
    · exact ⟨by rw [rset_n (by decide)]; exact h.1, by rw [rset_n (by decide)]; exact h.2.1, by rw [rset_n (by decide)]; exact h.2.2⟩
theorem sec_m {S : St} {t : Int32} {i : Nat} : mS (oSec S t i) = mS S ∧ nM (oSec S t i) = nM S := by
  unfold oSec
  dsimp only
  unfold oBrk
  repeat' split
  all_goals exact ⟨rfl, rfl⟩
theorem dys_b {D : St} {t : Int32} {B C : Int} (hS : QB D B) (hB : 0 ≤ B ∧ B ≤ 90000) (hC : QC D C) (hC9 : C ≤ 900000000) (hO : SOk D) (h0 : ¬ t < 0) (h1 : t ≤ 40) : ∀ n, n ≤ 20 →
    QB (dys D t n) B ∧ (gl D 2).toInt ≤ (gl (dys D t n) 2).toInt ∧ (gl (dys D t n) 2).toInt ≤ (gl D 2).toInt + 80 * n
  | 0, _ => ⟨hS, by show (gl D 2).toInt ≤ (gl D 2).toInt ∧ (gl D 2).toInt ≤ _; omega⟩
  | n + 1, hn => by
    obtain ⟨a, b, c⟩ := dys_b hS hB hC hC9 hO h0 h1 n (by omega)
    obtain ⟨s1, s2, s3, -⟩ := sec_e (S := dys D t n) (t := t) (i := n)
    obtain ⟨m1, m2⟩ := sec_m (S := dys D t n) (t := t) (i := n)
    have hf := (dys_e (D := D) (t := t) n).2.1 n (Nat.le_refl _)
    have g := del_b (t := t) (s := sS (dys D t n) n 6) h0 h1 (by rw [hf]; exact (hO n (by omega)).2.2.2)
    unfold QC at hC
    rw [dys_s]
    refine ⟨⟨fun i hi => ?_, fun m hm => ?_⟩, ?_⟩
    · by_cases q : i = n
      · subst q
        rw [s1]
        exact sRow_b (a.1 i hi) (by omega) h0 h1
      · rw [s2 i q]
        exact a.1 i hi
    · rw [m1]
      exact a.2 m (by rw [← m2]; exact hm)
    · rw [s3, tAdd (by omega) (by omega)]
      omega
