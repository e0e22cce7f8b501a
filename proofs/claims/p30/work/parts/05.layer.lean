/-! My layer over the kit's judgement W: a world is a function from addresses to (ghost tag, cell); locals are a dense list. -/
abbrev Tg : Type := Nat × Nat × Nat
abbrev Wd : Type := Nat → Option (Tg × va_E)
def wup (w : Wd) (a : Nat) (x : Tg × va_E) : Wd := fun b => if b = a then some x else w b
theorem wup_s {w : Wd} {a : Nat} {x : Tg × va_E} : wup w a x a = some x := if_pos rfl
theorem wup_n {w : Wd} {a b : Nat} {x : Tg × va_E} (h : b ≠ a) : wup w a x b = w b := if_neg h
theorem wd_ne {w : Wd} {a b : Nat} {ta tb : Tg} {ea eb : va_E} (ha : w a = some (ta, ea)) (hb : w b = some (tb, eb)) (h : tb ≠ ta) : b ≠ a := by
  intro q
  subst q
  rw [ha] at hb
  exact h (congrArg (fun z => z.1) (Option.some.inj hb)).symm
theorem wup_t {w : Wd} {a b : Nat} {x : Tg × va_E} {ta tb : Tg} {ea eb : va_E} (ha : w a = some (ta, ea)) (hb : w b = some (tb, eb)) (h : tb ≠ ta) : wup w a x b = some (tb, eb) := (wup_n (wd_ne ha hb h)).trans hb
/-- a new cell stands apart from all that the world holds -/
theorem wup_f {w : Wd} {a b : Nat} {x y : Tg × va_E} (ha : w a = none) (hb : w b = some y) : wup w a x b = some y := (wup_n (fun q => by rw [q, ha] at hb; cases hb)).trans hb
/-- D, the array classes, where what the law makes begins, the empty array of ArrayList, the class object of Object[] -/
abbrev Gw : Type := va_G × (Nat → ClassId) × Nat × Nat × Nat
abbrev tyL (K : Nat → ClassId) : List (ClassId × FieldType) := [(K 0, .int), (K 1, .object "java/lang/Object"), (K 2, .object "TrackNights$Section"), (K 3, .object "TrackNights$Values"), (K 4, .array .int)]
def n0A (Γ : Gw) : Nat → Prop := fun q => Γ.2.2.1 ≤ q
def wPic (Γ : Gw) (w : Wd) (H : Heap) : Prop := ∀ (a : Nat) (x : Tg × va_E), w a = some x → n0A Γ a ∧ va_at Γ.1 vwCl (a, x.2) H
theorem wPic.put {Γ : Gw} {w : Wd} {H H1 : Heap} {a : Nat} {t : Tg} {x : Tg × va_E} {e : va_E} (hP : wPic Γ w H) (hw : w a = some x) (he : va_at Γ.1 vwCl (a, e) H1) (oq : ∀ q : Nat, q ≠ a → H1[q]? = H[q]?) : wPic Γ (wup w a (t, e)) H1 := by
  intro b y hb
  by_cases hq : b = a
  · subst hq
    rw [wup_s] at hb
    cases hb
    exact ⟨(hP b _ hw).1, he⟩
  · rw [wup_n hq] at hb
    exact ⟨(hP b _ hb).1, (hP b _ hb).2.kept (oq b hq)⟩
theorem wPic.lt {Γ : Gw} {w : Wd} {H : Heap} (hP : wPic Γ w H) {a : Nat} {x : Tg × va_E} (h : w a = some x) : a < H.size := (hP a x h).2.lt
theorem wPic.fresh {Γ : Gw} {w : Wd} {H : Heap} (hP : wPic Γ w H) {a : Nat} (h : H.size ≤ a) : w a = none := by
  cases hw : w a with
  | none => rfl
  | some x => exact absurd (hP.lt hw) (by omega)
theorem wPic.new {Γ : Gw} {w : Wd} {H H1 : Heap} {t : Tg} {e : va_E} (hP : wPic Γ w H) (h0 : Γ.2.2.1 ≤ H.size) (he : va_at Γ.1 vwCl (H.size, e) H1) (oq : ∀ q : Nat, q < H.size → H1[q]? = H[q]?) : wPic Γ (wup w H.size (t, e)) H1 := by
  intro b y hb
  by_cases hq : b = H.size
  · subst hq
    rw [wup_s] at hb
    cases hb
    exact ⟨h0, he⟩
  · rw [wup_n hq] at hb
    exact ⟨(hP b _ hb).1, (hP b _ hb).2.kept (oq b (hP.lt hb))⟩
theorem wPic.keep {Γ : Gw} {w : Wd} {H H1 : Heap} (hP : wPic Γ w H) (oq : ∀ q : Nat, q < H.size → H1[q]? = H[q]?) : wPic Γ w H1 := fun b y hb => ⟨(hP b _ hb).1, (hP b _ hb).2.kept (oq b (hP.lt hb))⟩
theorem wPic.one {Γ : Gw} {w : Wd} {H : Heap} (hP : wPic Γ w H) {a : Nat} {t : Tg} {e : va_E} (h : w a = some (t, e)) : va_P Γ.1 vwCl [(a, e)] H := by
  intro k q hk
  have hz : k < 1 := (List.getElem?_eq_some_iff.mp hk).1
  rw [show k = 0 by omega] at hk
  cases hk
  exact (hP a _ h).2
/-! locals as a dense list -/
def den : List (Option Value) → Nat → List (Nat × Value)
  | [], _ => []
  | none :: r, i => den r (i + 1)
  | some v :: r, i => (i, v) :: den r (i + 1)
theorem den_mem : ∀ (lv : List (Option Value)) (k j : Nat) (v : Value), (j, v) ∈ den lv k ↔ k ≤ j ∧ lv[j - k]? = some (some v)
  | [], k, j, v => by simp [den]
  | none :: r, k, j, v => by
    rw [den, den_mem r (k + 1) j v]
    constructor
    · rintro ⟨h1, h2⟩
      refine ⟨by omega, ?_⟩
      rw [show j - k = (j - (k + 1)) + 1 by omega, List.getElem?_cons_succ]
      exact h2
    · rintro ⟨h1, h2⟩
      by_cases hj : j = k
      · subst hj
        simp at h2
      · refine ⟨by omega, ?_⟩
        rw [show j - k = (j - (k + 1)) + 1 by omega, List.getElem?_cons_succ] at h2
        exact h2
  | some u :: r, k, j, v => by
    rw [den, List.mem_cons, den_mem r (k + 1) j v]
    constructor
    · rintro (h | ⟨h1, h2⟩)
      · cases h
        exact ⟨Nat.le_refl _, by simp⟩
      · refine ⟨by omega, ?_⟩
        rw [show j - k = (j - (k + 1)) + 1 by omega, List.getElem?_cons_succ]
        exact h2
    · rintro ⟨h1, h2⟩
      by_cases hj : j = k
      · subst hj
        simp at h2
        exact Or.inl (by rw [h2])
      · refine Or.inr ⟨by omega, ?_⟩
        rw [show j - k = (j - (k + 1)) + 1 by omega, List.getElem?_cons_succ] at h2
        exact h2
def lh (ls : Array Slot) (nL : Nat) (lv : List (Option Value)) : Prop := lv_has ls nL (den lv 0) ∧ lv.length = nL
theorem lh_at {ls : Array Slot} {nL : Nat} {lv : List (Option Value)} (h : lh ls nL lv) {i : Nat} {v : Value} (hi : lv[i]? = some (some v)) : ls[i]? = some (.val v) := h.1.2.2 (i, v) ((den_mem lv 0 i v).mpr ⟨Nat.zero_le _, hi⟩)
/-- the place before i holds no long or double -/
def okS (lv : List (Option Value)) : Nat → Bool
  | 0 => true
  | i + 1 => match lv[i]? with
    | some (some v) => decide (v.category = 1)
    | _ => true
theorem lh_set {ls : Array Slot} {nL i : Nat} {lv : List (Option Value)} {v : Value} (hok : okS lv i = true) (hlen : lv.length = nL) (h : lv_has ls nL ((i, v) :: (den lv 0).filter (fun q => !(q.1 == i) && !(q.1 + 1 == i && q.2.category == 2)))) : lh ls nL (lv.set i (some v)) := by
  refine ⟨⟨h.1, h.2.1, fun q hq => ?_⟩, by rw [List.length_set]; exact hlen⟩
  obtain ⟨j, u⟩ := q
  rw [den_mem] at hq
  have hq2 := hq.2
  rw [Nat.sub_zero] at hq2
  by_cases hj : j = i
  · subst hj
    have hlen : j < (lv.set j (some v)).length := (List.getElem?_eq_some_iff.mp hq2).1
    rw [List.length_set] at hlen
    rw [List.getElem?_set_self hlen] at hq2
    cases hq2
    exact h.2.2 _ List.mem_cons_self
  · rw [List.getElem?_set_ne (Ne.symm hj)] at hq2
    refine h.2.2 _ (List.mem_cons_of_mem _ (List.mem_filter.mpr ⟨(den_mem lv 0 j u).mpr ⟨Nat.zero_le _, by rw [Nat.sub_zero]; exact hq2⟩, ?_⟩))
    cases i with
    | zero => simp [hj]
    | succ i =>
      by_cases hji : j = i
      · subst hji
        have hc : u.category = 1 := by
          simp only [okS, hq2, decide_eq_true_eq] at hok
          exact hok
        simp [hc]
      · simp [hj, hji]
theorem lh_set2 {ls : Array Slot} {nL i : Nat} {lv : List (Option Value)} {v : Value} (hok : okS lv i = true) (hlen : lv.length = nL) (h : lv_has ls nL ((i, v) :: (den lv 0).filter (fun q => !(q.1 == i) && (!(q.1 == i + 1) && !(q.1 + 1 == i && q.2.category == 2))))) : lh ls nL ((lv.set i (some v)).set (i + 1) none) := by
  refine ⟨⟨h.1, h.2.1, fun q hq => ?_⟩, by rw [List.length_set, List.length_set]; exact hlen⟩
  obtain ⟨j, u⟩ := q
  rw [den_mem] at hq
  have hq2 := hq.2
  rw [Nat.sub_zero] at hq2
  by_cases hj1 : j = i + 1
  · subst hj1
    have hlen : i + 1 < ((lv.set i (some v)).set (i + 1) none).length := (List.getElem?_eq_some_iff.mp hq2).1
    rw [List.length_set] at hlen
    rw [List.getElem?_set_self hlen] at hq2
    cases hq2
  · rw [List.getElem?_set_ne (Ne.symm hj1)] at hq2
    by_cases hj : j = i
    · subst hj
      have hlen : j < (lv.set j (some v)).length := (List.getElem?_eq_some_iff.mp hq2).1
      rw [List.length_set] at hlen
      rw [List.getElem?_set_self hlen] at hq2
      cases hq2
      exact h.2.2 _ List.mem_cons_self
    · rw [List.getElem?_set_ne (Ne.symm hj)] at hq2
      refine h.2.2 _ (List.mem_cons_of_mem _ (List.mem_filter.mpr ⟨(den_mem lv 0 j u).mpr ⟨Nat.zero_le _, by rw [Nat.sub_zero]; exact hq2⟩, ?_⟩))
      cases i with
      | zero => simp [hj, hj1]
      | succ i =>
        by_cases hji : j = i
        · subst hji
          have hc : u.category = 1 := by
            simp only [okS, hq2, decide_eq_true_eq] at hok
            exact hok
          simp [hc]
          omega
        · simp [hj, hji, hj1]
/-- the locals at a method's start -/
def ini : List Value → Nat → List (Option Value)
  | [], n => List.replicate n none
  | v :: vs, n => if v.category = 2 then some v :: none :: ini vs (n - 2) else some v :: ini vs (n - 1)
theorem ini_in : ∀ (vs : List Value) (n k : Nat) (q : Nat × Value), q ∈ den (ini vs n) k → q ∈ lv_args k vs
  | [], n, k, q, h => by
    exfalso
    obtain ⟨j, v⟩ := q
    have h2 := ((den_mem _ _ _ _).mp h).2
    simp only [ini] at h2
    have := List.mem_of_getElem? h2
    simp at this
  | v :: vs, n, k, q, h => by
    by_cases hc : v.category = 2
    · simp only [ini, if_pos hc, den, List.mem_cons] at h
      rw [lv_args, if_pos hc]
      rcases h with h | h
      · exact List.mem_cons.mpr (Or.inl h)
      · exact List.mem_cons_of_mem _ (ini_in vs (n - 2) (k + 2) q h)
    · simp only [ini, if_neg hc, den, List.mem_cons] at h
      rw [lv_args, if_neg hc]
      rcases h with h | h
      · exact List.mem_cons.mpr (Or.inl h)
      · exact List.mem_cons_of_mem _ (ini_in vs (n - 1) (k + 1) q h)
theorem lg_sl_cons (v : Value) (vs : List Value) : (lg_sl (v :: vs)).length = (if v.category = 2 then 2 else 1) + (lg_sl vs).length := by
  unfold lg_sl
  rw [List.flatMap_cons, List.length_append]
  split <;> rfl
theorem ini_len : ∀ (vs : List Value) (n : Nat), (lg_sl vs).length ≤ n → (ini vs n).length = n
  | [], n, _ => by simp [ini]
  | v :: vs, n, h => by
    rw [lg_sl_cons] at h
    by_cases hc : v.category = 2
    · rw [if_pos hc] at h
      rw [ini, if_pos hc, List.length_cons, List.length_cons, ini_len vs (n - 2) (by omega)]
      omega
    · rw [if_neg hc] at h
      rw [ini, if_neg hc, List.length_cons, ini_len vs (n - 1) (by omega)]
      omega
