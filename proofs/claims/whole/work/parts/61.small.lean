/-! The reference: its small methods -/
def s_is (x a b : Int32) : Int32 := if x < a then 0 else if b < x then 0 else 1
theorem s_is01 {x a b : Int32} : s_is x a b = 0 ∨ s_is x a b = 1 := by
  unfold s_is
  split
  · exact Or.inl rfl
  · split
    · exact Or.inl rfl
    · exact Or.inr rfl
def sIx : Option Nat → Int32
  | none => 0
  | some _ => 1
theorem nI_mul (a b : Nat) : nI a * nI b = nI (a * b) := (Int32.ofNat_mul a b).symm
theorem ix3 (k : Nat) : (10 : Int32) + 3 * nI k + 1 = nI (11 + 3 * k) := by
  show nI 10 + nI 3 * nI k + nI 1 = _
  rw [nI_mul, nI_add, nI_add]
  congr 1
  omega
theorem ix4 (k : Nat) : (10 : Int32) + 3 * nI k + 2 = nI (12 + 3 * k) := by
  show nI 10 + nI 3 * nI k + nI 2 = _
  rw [nI_mul, nI_add, nI_add]
  congr 1
  omega
theorem ix2 (k : Nat) : (10 : Int32) + 3 * nI k = nI (10 + 3 * k) := by
  show nI 10 + nI 3 * nI k = _
  rw [nI_mul, nI_add]
theorem s_is_ix {x : Int32} {n : Nat} (hn : n < 2 ^ 31) : s_is x 0 (i1 n) = sIx (ixO x n) := by
  have hm : (i1 n).toInt = (n : Int) - 1 := by
    cases n with
    | zero => rfl
    | succ k =>
      show (nI k).toInt = _
      rw [nI_toInt (by omega)]
      omega
  unfold s_is ixO
  have h0 : x < 0 ↔ x.toInt < 0 := by
    rw [Int32.lt_iff_toInt_lt]
    rfl
  have h1 : i1 n < x ↔ (n : Int) - 1 < x.toInt := by rw [Int32.lt_iff_toInt_lt, hm]
  by_cases a : x < 0
  · rw [if_pos a, if_neg (by have := h0.1 a; omega)]
    rfl
  · rw [if_neg a]
    by_cases b : i1 n < x
    · rw [if_pos b, if_neg (by have := h1.1 b; omega)]
      rfl
    · rw [if_neg b, if_pos (by have := mt h0.2 a; have := mt h1.2 b; omega)]
      rfl
theorem s_is_20 {x : Int32} : s_is x 0 19 = sIx (ixO x 20) := s_is_ix (n := 20) (by decide)
theorem ixO_some {x : Int32} {n k : Nat} (h : ixO x n = some k) (hn : n < 2 ^ 31) : k < n ∧ x = nI k := by
  unfold ixO at h
  split at h
  · rename_i a
    cases h
    have h1 : x.toNatClampNeg = x.toInt.toNat := rfl
    refine ⟨by omega, (i_nn a.1).symm⟩
  · cases h
theorem sIx_0 {o : Option Nat} (h : sIx o = 0) : o = none := by
  cases o with
  | none => rfl
  | some k => exact absurd h (by decide : ¬ (1 : Int32) = 0)
theorem sIx_1 {o : Option Nat} (h : ¬ sIx o = 0) : ∃ k, o = some k := by
  cases o with
  | none => exact absurd rfl h
  | some k => exact ⟨k, rfl⟩
def bea (f : Nat → Int32) (h : Int32) : Nat → Int32
  | 1 => s_wear (f 0)
  | 2 => s_crack (f 1)
  | 3 => s_settle (f 2)
  | _ => s_heat (h - f 4)
def spn (f : Nat → Int32) (h : Int32) : Nat → Int32
  | 0 => 160
  | q + 1 => mn (spn f h q) (bea f h (q + 1))
theorem mn_ti (x y : Int32) : (mn x y).toInt = min x.toInt y.toInt := by
  unfold mn
  by_cases h : y < x
  · rw [if_pos h]
    have := Int32.lt_iff_toInt_lt.mp h
    omega
  · rw [if_neg h]
    have := mt Int32.lt_iff_toInt_lt.mpr h
    omega
theorem mn_as (a b c : Int32) : mn (mn a b) c = mn a (mn b c) := by
  refine Int32.toInt_inj.mp ?_
  rw [mn_ti, mn_ti, mn_ti, mn_ti]
  omega
theorem mn_w (x : Int32) : mn 160 (s_wear x) = s_wear x := by
  unfold s_wear
  split
  · split
    · split <;> decide
    · decide
  · decide
theorem spn_4 {f : Nat → Int32} {h : Int32} : spn f h 4 = sp7 f h := by
  show mn (mn (mn (mn 160 (s_wear (f 0))) (s_crack (f 1))) (s_settle (f 2))) (s_heat (h - f 4)) = s_speed (f 0) (f 1) (f 2) (h - f 4)
  rw [mn_w, mn_as]
  rfl
theorem mn_or (a b : Int32) : mn a b = a ∨ mn a b = b := by
  unfold mn
  split
  · exact Or.inr rfl
  · exact Or.inl rfl
theorem spn_or {f : Nat → Int32} {h : Int32} : ∀ n, spn f h n = 160 ∨ ∃ q, q < n ∧ bea f h (q + 1) = spn f h n
  | 0 => Or.inl rfl
  | n + 1 => by
    rcases mn_or (spn f h n) (bea f h (n + 1)) with e | e
    · rcases spn_or (f := f) (h := h) n with g | ⟨q, hq, g⟩
      · exact Or.inl (e.trans g)
      · exact Or.inr ⟨q, by omega, g.trans e.symm⟩
    · exact Or.inr ⟨n, by omega, e.symm⟩
theorem rset_same {f : Nat → Int32} {i : Nat} {x : Int32} (h : f i = x) : rset f i x = f := by
  funext j
  unfold rset
  by_cases q : j = i
  · rw [if_pos q, q, h]
  · rw [if_neg q]
theorem bC_0 {x y : Int32} (h : y ≤ 0) (h2 : 0 ≤ y.toInt) (hx : x < 50) : y = bC x y := by
  have hy : y = 0 := Int32.toInt_inj.mp (by have := Int32.le_iff_toInt_le.mp h; simp at this; show y.toInt = 0; omega)
  subst hy
  unfold bC bG
  rw [if_pos h, if_pos hx]
  decide
theorem bC_1 {x y : Int32} (h : y ≤ 0) (h2 : 0 ≤ y.toInt) (hx : ¬ x < 50) : 1 = bC x y := by
  have hy : y = 0 := Int32.toInt_inj.mp (by have := Int32.le_iff_toInt_le.mp h; simp at this; show y.toInt = 0; omega)
  subst hy
  unfold bC bG
  rw [if_pos h, if_neg hx]
  decide
theorem bC_2 {x y : Int32} (h : ¬ y ≤ 0) : mn 60 (y + 1 + y / 8) = bC x y := by
  unfold bC bG
  rw [if_neg h, Int32.add_assoc]
theorem uses_s {ma : Nat → Nat} {k t : Nat} : uses (k + 1) ma t = uses k ma t ||| (if ma k = t then 1 else 0) := by
  by_cases q : ma k = t
  · rw [if_pos q, uses_t (n := k + 1) (by omega) q]
    by_cases a : ∃ i, i < k ∧ ma i = t
    · obtain ⟨i, hi, z⟩ := a
      rw [uses_t hi z]
      decide
    · rw [uses_f fun i hi z => a ⟨i, hi, z⟩]
      decide
  · rw [if_neg q]
    by_cases a : ∃ i, i < k ∧ ma i = t
    · obtain ⟨i, hi, z⟩ := a
      rw [uses_t hi z, uses_t (n := k + 1) (by omega) z]
      decide
    · rw [uses_f fun i hi z => a ⟨i, hi, z⟩, uses_f]
      · decide
      · intro i hi z
        rcases Nat.lt_or_ge i k with c | c
        · exact a ⟨i, c, z⟩
        · exact q (by rw [← z, show i = k by omega])
theorem cl_eq {x : Int32} {m : Nat} (h : 0 ≤ x.toInt) (hm : m < 2 ^ 31) : x = nI m ↔ x.toNatClampNeg = m := by
  constructor
  · rintro rfl
    exact nI_clamp hm
  · rintro rfl
    exact (i_nn h).symm
/-- how long works take in their order, by lives that go down -/
def tkR (f : Nat → Int32) (g : Nat → Int32) : Nat → (Nat → Int32) × Int32
  | 0 => (g, 0)
  | k + 1 => if f (12 + 3 * k) ≤ (tkR f g k).1 (f (11 + 3 * k)).toNatClampNeg then (rset (tkR f g k).1 (f (11 + 3 * k)).toNatClampNeg ((tkR f g k).1 (f (11 + 3 * k)).toNatClampNeg - f (12 + 3 * k)), (tkR f g k).2 + f (12 + 3 * k)) else (rset (tkR f g k).1 (f (11 + 3 * k)).toNatClampNeg 0, (tkR f g k).2 + (f (12 + 3 * k) + 2))
def liv (S : St) (n : Nat) : Nat → Int32 := fun j => if j < n then mS S j 1 else 0
theorem liv_s {S : St} {n : Nat} : rset (liv S n) n (mS S n 1) = liv S (n + 1) := by
  funext j
  unfold rset liv
  by_cases q : j = n
  · subst q
    rw [if_pos rfl, if_pos (by omega)]
  · rw [if_neg q]
    by_cases a : j < n
    · rw [if_pos a, if_pos (by omega)]
    · rw [if_neg a, if_neg (by omega)]
theorem hours_eq {k c : Int32} (hk : 0 ≤ k.toInt ∧ k.toInt ≤ 2) (hc : c = 0 ∨ c = 1) : (1 : Int32) <<< (k &&& 31) + c = s_hours k c := by
  have h3 : k = 0 ∨ k = 1 ∨ k = 2 := by
    rcases (show k.toInt = 0 ∨ k.toInt = 1 ∨ k.toInt = 2 by omega) with h | h | h
    · exact Or.inl (Int32.toInt_inj.mp h)
    · exact Or.inr (Or.inl (Int32.toInt_inj.mp h))
    · exact Or.inr (Or.inr (Int32.toInt_inj.mp h))
  rcases h3 with rfl | rfl | rfl <;> rcases hc with rfl | rfl <;> decide
set_option maxHeartbeats 400000 in
set_option maxRecDepth 100000 in
theorem c_X7_is : CtrA yX7_is cX7_is 3 (some .boolean) (rmk 0 0 0 0) (fun Γ av w post _ => ∃ x a b, av = [.int x, .int a, .int b] ∧ post (some (.int (s_is x a b))) w) := by
  refine ctr_of (by decide) ?_
  rintro g av w hG hO ⟨x, a, b, rfl, hk⟩
  refine ⟨Nat.le_of_ble_eq_true rfl, ?_⟩
  show X g w 0 0 0 [some (.int x), some (.int a), some (.int b)] []
  refine x_iload_n hG (pc := 0) 0 dX7_is_0 rfl rfl ?_
  refine x_iload_n hG (pc := 1) 1 dX7_is_1 rfl rfl ?_
  refine x_icmp_lt hG (pc := 2) 14 dX7_is_2 (by decide) (fun h2 => ?_) (fun h2 => ?_)
  · refine x_iconst hG (pc := 14) 0 dX7_is_14 (by decide) ?_
    refine x_ireturn hG (pc := 15) dX7_is_15 rfl rfl (by rw [hG.mc]; exact Nat.le_of_ble_eq_true rfl) (by rw [hG.ms]; exact Nat.le_of_ble_eq_true rfl) ?_
    exact fin_i (by simp [s_is, h2]) hk
  · refine x_iload_n hG (pc := 5) 0 dX7_is_5 rfl rfl ?_
    refine x_iload_n hG (pc := 6) 2 dX7_is_6 rfl rfl ?_
    refine x_icmp_gt hG (pc := 7) 14 dX7_is_7 (by decide) (fun h7 => ?_) (fun h7 => ?_)
    · refine x_iconst hG (pc := 14) 0 dX7_is_14 (by decide) ?_
      refine x_ireturn hG (pc := 15) dX7_is_15 rfl rfl (by rw [hG.mc]; exact Nat.le_of_ble_eq_true rfl) (by rw [hG.ms]; exact Nat.le_of_ble_eq_true rfl) ?_
      exact fin_i (by simp [s_is, h2, h7]) hk
    · refine x_iconst hG (pc := 10) 1 dX7_is_10 (by decide) ?_
      refine x_goto hG (pc := 11) 15 dX7_is_11 (by decide) ?_
      refine x_ireturn hG (pc := 15) dX7_is_15 rfl rfl (by rw [hG.mc]; exact Nat.le_of_ble_eq_true rfl) (by rw [hG.ms]; exact Nat.le_of_ble_eq_true rfl) ?_
      exact fin_i (by simp [s_is, h2, h7]) hk
set_option maxHeartbeats 400000 in
set_option maxRecDepth 100000 in
theorem c_X7_isSection : CtrA yX7_isSection cX7_isSection 1 (some .boolean) (rmk 1 0 0 22) (fun Γ av w post _ => ∃ x, av = [.int x] ∧ post (some (.int (sIx (ixO x 20)))) w) := by
  refine ctr_of (by decide) ?_
  rintro g av w hG hO ⟨x, rfl, hk⟩
  refine ⟨Nat.le_of_ble_eq_true rfl, ?_⟩
  show X g w 0 0 0 [some (.int x)] []
  refine x_iload_n hG (pc := 0) 0 dX7_isSection_0 rfl rfl ?_
  refine x_iconst hG (pc := 1) 0 dX7_isSection_1 (by decide) ?_
  refine x_bipush hG (pc := 2) 19 dX7_isSection_2 (by decide) ?_
  refine x_callS hG hO (pc := 4) [_, _, _] c_X7_is lk_X7_68 rfl rfl ⟨by decide, by decide⟩ (Nat.le_of_ble_eq_true rfl) (by rw [hG.mc]; exact Nat.le_of_ble_eq_true rfl) (by rw [hG.ms]; exact Nat.le_of_ble_eq_true rfl) dX7_isSection_4 ?_
  refine ⟨x, _, _, rfl, ?_⟩
  refine x_ireturn hG (pc := 7) dX7_isSection_7 rfl (nb01 s_is01) (by rw [hG.mc]; exact Nat.le_of_ble_eq_true rfl) (by rw [hG.ms]; exact Nat.le_of_ble_eq_true rfl) ?_
  exact fin_i s_is_20 hk
set_option maxHeartbeats 400000 in
set_option maxRecDepth 100000 in
theorem c_X7_isTrains : CtrA yX7_isTrains cX7_isTrains 1 (some .boolean) (rmk 1 0 0 22) (fun Γ av w post _ => ∃ x, av = [.int x] ∧ post (some (.int (s_is x 0 40))) w) := by
  refine ctr_of (by decide) ?_
  rintro g av w hG hO ⟨x, rfl, hk⟩
  refine ⟨Nat.le_of_ble_eq_true rfl, ?_⟩
  show X g w 0 0 0 [some (.int x)] []
  refine x_iload_n hG (pc := 0) 0 dX7_isTrains_0 rfl rfl ?_
  refine x_iconst hG (pc := 1) 0 dX7_isTrains_1 (by decide) ?_
  refine x_bipush hG (pc := 2) 40 dX7_isTrains_2 (by decide) ?_
  refine x_callS hG hO (pc := 4) [_, _, _] c_X7_is lk_X7_68 rfl rfl ⟨by decide, by decide⟩ (Nat.le_of_ble_eq_true rfl) (by rw [hG.mc]; exact Nat.le_of_ble_eq_true rfl) (by rw [hG.ms]; exact Nat.le_of_ble_eq_true rfl) dX7_isTrains_4 ?_
  refine ⟨x, _, _, rfl, ?_⟩
  refine x_ireturn hG (pc := 7) dX7_isTrains_7 rfl (nb01 s_is01) (by rw [hG.mc]; exact Nat.le_of_ble_eq_true rfl) (by rw [hG.ms]; exact Nat.le_of_ble_eq_true rfl) ?_
  exact hk
set_option maxHeartbeats 400000 in
set_option maxRecDepth 100000 in
theorem c_X7_isPart : CtrA yX7_isPart cX7_isPart 3 (some .boolean) (rmk 1 0 0 22) (fun Γ av w post _ => ∃ x y z, av = [.int x, .int y, .int z] ∧ post (some (.int (if s_is x 0 1 = 0 then 0 else if s_is y 0 9 = 0 then 0 else if s_is z 0 9 = 0 then 0 else 1))) w) := by
  refine ctr_of (by decide) ?_
  rintro g av w hG hO ⟨x, y, z, rfl, hk⟩
  refine ⟨Nat.le_of_ble_eq_true rfl, ?_⟩
  show X g w 0 0 0 [some (.int x), some (.int y), some (.int z)] []
  refine x_iload_n hG (pc := 0) 0 dX7_isPart_0 rfl rfl ?_
  refine x_iconst hG (pc := 1) 0 dX7_isPart_1 (by decide) ?_
  refine x_iconst hG (pc := 2) 1 dX7_isPart_2 (by decide) ?_
  refine x_callS hG hO (pc := 3) [_, _, _] c_X7_is lk_X7_68 rfl rfl ⟨by decide, by decide⟩ (Nat.le_of_ble_eq_true rfl) (by rw [hG.mc]; exact Nat.le_of_ble_eq_true rfl) (by rw [hG.ms]; exact Nat.le_of_ble_eq_true rfl) dX7_isPart_3 ?_
  refine ⟨x, _, _, rfl, ?_⟩
  refine x_if_eq hG (pc := 6) 33 dX7_isPart_6 (by decide) (fun h6 => ?_) (fun h6 => ?_)
  · refine x_iconst hG (pc := 33) 0 dX7_isPart_33 (by decide) ?_
    refine x_ireturn hG (pc := 34) dX7_isPart_34 rfl rfl (by rw [hG.mc]; exact Nat.le_of_ble_eq_true rfl) (by rw [hG.ms]; exact Nat.le_of_ble_eq_true rfl) ?_
    exact fin_i (by simp [h6]) hk
  · refine x_iload_n hG (pc := 9) 1 dX7_isPart_9 rfl rfl ?_
    refine x_iconst hG (pc := 10) 0 dX7_isPart_10 (by decide) ?_
    refine x_bipush hG (pc := 11) 9 dX7_isPart_11 (by decide) ?_
    refine x_callS hG hO (pc := 13) [_, _, _] c_X7_is lk_X7_68 rfl rfl ⟨by decide, by decide⟩ (Nat.le_of_ble_eq_true rfl) (by rw [hG.mc]; exact Nat.le_of_ble_eq_true rfl) (by rw [hG.ms]; exact Nat.le_of_ble_eq_true rfl) dX7_isPart_13 ?_
    refine ⟨y, _, _, rfl, ?_⟩
    refine x_if_eq hG (pc := 16) 33 dX7_isPart_16 (by decide) (fun h16 => ?_) (fun h16 => ?_)
    · refine x_iconst hG (pc := 33) 0 dX7_isPart_33 (by decide) ?_
      refine x_ireturn hG (pc := 34) dX7_isPart_34 rfl rfl (by rw [hG.mc]; exact Nat.le_of_ble_eq_true rfl) (by rw [hG.ms]; exact Nat.le_of_ble_eq_true rfl) ?_
      exact fin_i (by simp [h6, h16]) hk
    · refine x_iload_n hG (pc := 19) 2 dX7_isPart_19 rfl rfl ?_
      refine x_iconst hG (pc := 20) 0 dX7_isPart_20 (by decide) ?_
      refine x_bipush hG (pc := 21) 9 dX7_isPart_21 (by decide) ?_
      refine x_callS hG hO (pc := 23) [_, _, _] c_X7_is lk_X7_68 rfl rfl ⟨by decide, by decide⟩ (Nat.le_of_ble_eq_true rfl) (by rw [hG.mc]; exact Nat.le_of_ble_eq_true rfl) (by rw [hG.ms]; exact Nat.le_of_ble_eq_true rfl) dX7_isPart_23 ?_
      refine ⟨z, _, _, rfl, ?_⟩
      refine x_if_eq hG (pc := 26) 33 dX7_isPart_26 (by decide) (fun h26 => ?_) (fun h26 => ?_)
      · refine x_iconst hG (pc := 33) 0 dX7_isPart_33 (by decide) ?_
        refine x_ireturn hG (pc := 34) dX7_isPart_34 rfl rfl (by rw [hG.mc]; exact Nat.le_of_ble_eq_true rfl) (by rw [hG.ms]; exact Nat.le_of_ble_eq_true rfl) ?_
        exact fin_i (by simp [h6, h16, h26]) hk
      · refine x_iconst hG (pc := 29) 1 dX7_isPart_29 (by decide) ?_
        refine x_goto hG (pc := 30) 34 dX7_isPart_30 (by decide) ?_
        refine x_ireturn hG (pc := 34) dX7_isPart_34 rfl rfl (by rw [hG.mc]; exact Nat.le_of_ble_eq_true rfl) (by rw [hG.ms]; exact Nat.le_of_ble_eq_true rfl) ?_
        exact fin_i (by simp [h6, h16, h26]) hk
set_option maxHeartbeats 400000 in
set_option maxRecDepth 100000 in
theorem c_X7_thrown : CtrA yX7_thrown cX7_thrown 1 (some .int) (rmk 0 0 0 0) (fun Γ av w post xpost => ∃ (L : LayM) (S : St), av = [.ref (thM L)] ∧ RepM Γ L S w ∧ post (some (.int (thr L))) w) := by
  refine ctr_of (by decide) ?_
  rintro g av w hG hO ⟨L, S, rfl, hR, hk⟩
  refine ⟨Nat.le_of_ble_eq_true rfl, ?_⟩
  show X g w 0 0 0 [some (.ref (thM L))] []
  refine x_aload_n hG (pc := 0) 0 dX7_thrown_0 rfl rfl ?_
  refine x_getf hG (pc := 1) fl_X7_31 hR.main rfl dX7_thrown_1 ?_
  refine x_ireturn hG (pc := 4) dX7_thrown_4 rfl rfl (by rw [hG.mc]; exact Nat.le_of_ble_eq_true rfl) (by rw [hG.ms]; exact Nat.le_of_ble_eq_true rfl) ?_
  exact hk
set_option maxHeartbeats 400000 in
set_option maxRecDepth 100000 in
theorem c_X7_refuse : CtrA yX7_refuse cX7_refuse 2 (some .int) (rmk 0 0 0 0) (fun Γ av w post xpost => ∃ (L : LayM) (S : St), ∃ k, av = [.ref (thM L), .int k] ∧ RepM Γ L S w ∧ ∀ w1, RepM Γ (lthr L k) S w1 → FrC w w1 → post (some (.int 0)) w1) := by
  refine ctr_of (by decide) ?_
  rintro g av w hG hO ⟨L, S, k, rfl, hR, hk⟩
  refine ⟨Nat.le_of_ble_eq_true rfl, ?_⟩
  show X g w 0 0 0 [some (.ref (thM L)), some (.int k)] []
  refine x_aload_n hG (pc := 0) 0 dX7_refuse_0 rfl rfl ?_
  refine x_iload_n hG (pc := 1) 1 dX7_refuse_1 rfl rfl ?_
  refine x_putf hG (pc := 2) fl_X7_31 fw_9 ft_9_0 hR.main (Nat.le_of_ble_eq_true rfl) rfl rfl (by dsimp only [List.set]) dX7_refuse_2 ?_
  refine x_gen (fun w1 e1 => ?_)
  obtain ⟨hR1, hF1⟩ := hR.uT e1
  refine x_iconst hG (pc := 5) 0 dX7_refuse_5 (by decide) ?_
  refine x_ireturn hG (pc := 6) dX7_refuse_6 rfl rfl (by rw [hG.mc]; exact Nat.le_of_ble_eq_true rfl) (by rw [hG.ms]; exact Nat.le_of_ble_eq_true rfl) ?_
  exact hk w1 hR1 hF1
set_option maxHeartbeats 400000 in
set_option maxRecDepth 100000 in
theorem c_X7_isMachine : CtrA yX7_isMachine cX7_isMachine 2 (some .boolean) (rmk 1 0 0 22) (fun Γ av w post xpost => ∃ (L : LayM) (S : St), ∃ x, av = [.ref (thM L), .int x] ∧ RepM Γ L S w ∧ nM S ≤ 30 ∧ post (some (.int (sIx (ixO x (nM S))))) w) := by
  refine ctr_of (by decide) ?_
  rintro g av w hG hO ⟨L, S, x, rfl, hR, hn, hk⟩
  refine ⟨Nat.le_of_ble_eq_true rfl, ?_⟩
  show X g w 0 0 0 [some (.ref (thM L)), some (.int x)] []
  refine x_iload_n hG (pc := 0) 1 dX7_isMachine_0 rfl rfl ?_
  refine x_iconst hG (pc := 1) 0 dX7_isMachine_1 (by decide) ?_
  refine x_aload_n hG (pc := 2) 0 dX7_isMachine_2 rfl rfl ?_
  refine x_getf hG (pc := 3) fl_X7_17 hR.main rfl dX7_isMachine_3 ?_
  refine x_callV hG hO (pc := 6) [] c_Jx4a65c_size_8abf5 lk_X7_64 (hR.lst (id := 1) (by decide)).1 rfl rfl ⟨by decide, by decide⟩ (Nat.le_of_ble_eq_true rfl) (by rw [hG.mc]; exact Nat.le_of_ble_eq_true rfl) (by rw [hG.ms]; exact Nat.le_of_ble_eq_true rfl) dX7_isMachine_6 ?_
  refine ⟨_, _, _, _, _, rfl, (hR.lst (id := 1) (by decide)).1, ?_⟩
  show X g _ _ _ _ _ (.int (nI (nM S)) :: _)
  refine x_iconst hG (pc := 9) 1 dX7_isMachine_9 (by decide) ?_
  refine x_isub hG (pc := 10) dX7_isMachine_10 ?_
  rw [i1_st]
  refine x_callS hG hO (pc := 11) [_, _, _] c_X7_is lk_X7_68 rfl rfl ⟨by decide, by decide⟩ (Nat.le_of_ble_eq_true rfl) (by rw [hG.mc]; exact Nat.le_of_ble_eq_true rfl) (by rw [hG.ms]; exact Nat.le_of_ble_eq_true rfl) dX7_isMachine_11 ?_
  refine ⟨x, _, _, rfl, ?_⟩
  refine x_ireturn hG (pc := 14) dX7_isMachine_14 rfl (nb01 s_is01) (by rw [hG.mc]; exact Nat.le_of_ble_eq_true rfl) (by rw [hG.ms]; exact Nat.le_of_ble_eq_true rfl) ?_
  exact fin_i (s_is_ix (by omega)) hk
set_option maxHeartbeats 400000 in
set_option maxRecDepth 100000 in
theorem c_X7_isNight : CtrA yX7_isNight cX7_isNight 2 (some .boolean) (rmk 1 0 0 22) (fun Γ av w post xpost => ∃ (L : LayM) (S : St), ∃ x, av = [.ref (thM L), .int x] ∧ RepM Γ L S w ∧ nN S ≤ 30 ∧ post (some (.int (sIx (ixO x (nN S))))) w) := by
  refine ctr_of (by decide) ?_
  rintro g av w hG hO ⟨L, S, x, rfl, hR, hn, hk⟩
  refine ⟨Nat.le_of_ble_eq_true rfl, ?_⟩
  show X g w 0 0 0 [some (.ref (thM L)), some (.int x)] []
  refine x_iload_n hG (pc := 0) 1 dX7_isNight_0 rfl rfl ?_
  refine x_iconst hG (pc := 1) 0 dX7_isNight_1 (by decide) ?_
  refine x_aload_n hG (pc := 2) 0 dX7_isNight_2 rfl rfl ?_
  refine x_getf hG (pc := 3) fl_X7_21 hR.main rfl dX7_isNight_3 ?_
  refine x_callV hG hO (pc := 6) [] c_Jx4a65c_size_8abf5 lk_X7_64 (hR.lst (id := 2) (by decide)).1 rfl rfl ⟨by decide, by decide⟩ (Nat.le_of_ble_eq_true rfl) (by rw [hG.mc]; exact Nat.le_of_ble_eq_true rfl) (by rw [hG.ms]; exact Nat.le_of_ble_eq_true rfl) dX7_isNight_6 ?_
  refine ⟨_, _, _, _, _, rfl, (hR.lst (id := 2) (by decide)).1, ?_⟩
  show X g _ _ _ _ _ (.int (nI (nN S)) :: _)
  refine x_iconst hG (pc := 9) 1 dX7_isNight_9 (by decide) ?_
  refine x_isub hG (pc := 10) dX7_isNight_10 ?_
  rw [i1_st]
  refine x_callS hG hO (pc := 11) [_, _, _] c_X7_is lk_X7_68 rfl rfl ⟨by decide, by decide⟩ (Nat.le_of_ble_eq_true rfl) (by rw [hG.mc]; exact Nat.le_of_ble_eq_true rfl) (by rw [hG.ms]; exact Nat.le_of_ble_eq_true rfl) dX7_isNight_11 ?_
  refine ⟨x, _, _, rfl, ?_⟩
  refine x_ireturn hG (pc := 14) dX7_isNight_14 rfl (nb01 s_is01) (by rw [hG.mc]; exact Nat.le_of_ble_eq_true rfl) (by rw [hG.ms]; exact Nat.le_of_ble_eq_true rfl) ?_
  exact fin_i (s_is_ix (by omega)) hk
set_option maxHeartbeats 400000 in
set_option maxRecDepth 100000 in
theorem c_X7_bears : CtrA yX7_bears cX7_bears 4 (some .int) (rmk 0 0 0 0) (fun Γ av w post _ => ∃ a t f h q, av = [.ref a, .int h, .int (nI q)] ∧ w a = some (t, aI Γ.2.1 7 f) ∧ 1 ≤ q ∧ q ≤ 4 ∧ post (some (.int (bea f h q))) w) := by
  refine ctr_of (by decide) ?_
  rintro g av w hG hO ⟨a, t, f, h, q, rfl, ha, hq1, hq4, hk⟩
  refine ⟨Nat.le_of_ble_eq_true rfl, ?_⟩
  show X g w 0 0 0 [some (.ref a), some (.int h), some (.int (nI q)), none] []
  by_cases q1 : q = 1
  · have q1x := q1
    subst q1x
    refine x_iload_n hG (pc := 0) 2 dX7_bears_0 rfl rfl ?_
    refine x_iconst hG (pc := 1) 4 dX7_bears_1 (by decide) ?_
    refine x_icmp_ge hG (pc := 2) 13 dX7_bears_2 (by decide) (fun h2 => ?_) (fun h2 => ?_)
    · exact absurd h2 (by decide)
    · refine x_aload_n hG (pc := 5) 0 dX7_bears_5 rfl rfl ?_
      refine x_iload_n hG (pc := 6) 2 dX7_bears_6 rfl rfl ?_
      refine x_iconst hG (pc := 7) 1 dX7_bears_7 (by decide) ?_
      refine x_isub hG (pc := 8) dX7_bears_8 ?_
      refine x_ialdN hG (pc := 9) (c := 0) (by first | assumption | exact hR.main) (by decide) dX7_bears_9 ?_
      refine x_goto hG (pc := 10) 18 dX7_bears_10 (by decide) ?_
      refine x_istore_n hG (pc := 18) 3 dX7_bears_18 rfl (Nat.le_of_ble_eq_true rfl) rfl (by dsimp only [List.set]) ?_
      refine x_iload_n hG (pc := 19) 2 dX7_bears_19 rfl rfl ?_
      refine x_tableIn hG (pc := 20) (off := 28) 48 dX7_bears_20 (by decide) (by decide) (by decide) (by decide) ?_
      refine x_iload_n hG (pc := 48) 3 dX7_bears_48 rfl rfl ?_
      refine x_bipush hG (pc := 49) 60 dX7_bears_49 (by decide) ?_
      refine x_icmp_ge hG (pc := 51) 60 dX7_bears_51 (by decide) (fun h51 => ?_) (fun h51 => ?_)
      · refine x_iload_n hG (pc := 60) 3 dX7_bears_60 rfl rfl ?_
        refine x_bipush hG (pc := 61) 80 dX7_bears_61 (by decide) ?_
        refine x_icmp_ge hG (pc := 63) 71 dX7_bears_63 (by decide) (fun h63 => ?_) (fun h63 => ?_)
        · refine x_iload_n hG (pc := 71) 3 dX7_bears_71 rfl rfl ?_
          refine x_bipush hG (pc := 72) 100 dX7_bears_72 (by decide) ?_
          refine x_icmp_ge hG (pc := 74) 82 dX7_bears_74 (by decide) (fun h74 => ?_) (fun h74 => ?_)
          · refine x_bipush hG (pc := 82) 20 dX7_bears_82 (by decide) ?_
            refine x_ireturn hG (pc := 84) dX7_bears_84 rfl rfl (by rw [hG.mc]; exact Nat.le_of_ble_eq_true rfl) (by rw [hG.ms]; exact Nat.le_of_ble_eq_true rfl) ?_
            exact fin_i (by simp [bea, s_wear, s_crack, s_settle, s_heat, q1, h2, h51, h63, h74]) hk
          · refine x_bipush hG (pc := 77) 60 dX7_bears_77 (by decide) ?_
            refine x_goto hG (pc := 79) 84 dX7_bears_79 (by decide) ?_
            refine x_ireturn hG (pc := 84) dX7_bears_84 rfl rfl (by rw [hG.mc]; exact Nat.le_of_ble_eq_true rfl) (by rw [hG.ms]; exact Nat.le_of_ble_eq_true rfl) ?_
            exact fin_i (by simp [bea, s_wear, s_crack, s_settle, s_heat, q1, h2, h51, h63, h74]) hk
        · refine x_bipush hG (pc := 66) 100 dX7_bears_66 (by decide) ?_
          refine x_goto hG (pc := 68) 84 dX7_bears_68 (by decide) ?_
          refine x_ireturn hG (pc := 84) dX7_bears_84 rfl rfl (by rw [hG.mc]; exact Nat.le_of_ble_eq_true rfl) (by rw [hG.ms]; exact Nat.le_of_ble_eq_true rfl) ?_
          exact fin_i (by simp [bea, s_wear, s_crack, s_settle, s_heat, q1, h2, h51, h63]) hk
      · refine x_sipush hG (pc := 54) 160 dX7_bears_54 (by decide) ?_
        refine x_goto hG (pc := 57) 84 dX7_bears_57 (by decide) ?_
        refine x_ireturn hG (pc := 84) dX7_bears_84 rfl rfl (by rw [hG.mc]; exact Nat.le_of_ble_eq_true rfl) (by rw [hG.ms]; exact Nat.le_of_ble_eq_true rfl) ?_
        exact fin_i (by simp [bea, s_wear, s_crack, s_settle, s_heat, q1, h2, h51]) hk
  · by_cases q2 : q = 2
    · have q2x := q2
      subst q2x
      refine x_iload_n hG (pc := 0) 2 dX7_bears_0 rfl rfl ?_
      refine x_iconst hG (pc := 1) 4 dX7_bears_1 (by decide) ?_
      refine x_icmp_ge hG (pc := 2) 13 dX7_bears_2 (by decide) (fun h2 => ?_) (fun h2 => ?_)
      · exact absurd h2 (by decide)
      · refine x_aload_n hG (pc := 5) 0 dX7_bears_5 rfl rfl ?_
        refine x_iload_n hG (pc := 6) 2 dX7_bears_6 rfl rfl ?_
        refine x_iconst hG (pc := 7) 1 dX7_bears_7 (by decide) ?_
        refine x_isub hG (pc := 8) dX7_bears_8 ?_
        refine x_ialdN hG (pc := 9) (c := 1) (by first | assumption | exact hR.main) (by decide) dX7_bears_9 ?_
        refine x_goto hG (pc := 10) 18 dX7_bears_10 (by decide) ?_
        refine x_istore_n hG (pc := 18) 3 dX7_bears_18 rfl (Nat.le_of_ble_eq_true rfl) rfl (by dsimp only [List.set]) ?_
        refine x_iload_n hG (pc := 19) 2 dX7_bears_19 rfl rfl ?_
        refine x_tableIn hG (pc := 20) (off := 65) 85 dX7_bears_20 (by decide) (by decide) (by decide) (by decide) ?_
        refine x_iload_n hG (pc := 85) 3 dX7_bears_85 rfl rfl ?_
        refine x_bipush hG (pc := 86) 10 dX7_bears_86 (by decide) ?_
        refine x_icmp_ge hG (pc := 88) 97 dX7_bears_88 (by decide) (fun h88 => ?_) (fun h88 => ?_)
        · refine x_iload_n hG (pc := 97) 3 dX7_bears_97 rfl rfl ?_
          refine x_bipush hG (pc := 98) 20 dX7_bears_98 (by decide) ?_
          refine x_icmp_ge hG (pc := 100) 108 dX7_bears_100 (by decide) (fun h100 => ?_) (fun h100 => ?_)
          · refine x_iload_n hG (pc := 108) 3 dX7_bears_108 rfl rfl ?_
            refine x_bipush hG (pc := 109) 40 dX7_bears_109 (by decide) ?_
            refine x_icmp_ge hG (pc := 111) 119 dX7_bears_111 (by decide) (fun h111 => ?_) (fun h111 => ?_)
            · refine x_iconst hG (pc := 119) 0 dX7_bears_119 (by decide) ?_
              refine x_ireturn hG (pc := 120) dX7_bears_120 rfl rfl (by rw [hG.mc]; exact Nat.le_of_ble_eq_true rfl) (by rw [hG.ms]; exact Nat.le_of_ble_eq_true rfl) ?_
              exact fin_i (by simp [bea, s_wear, s_crack, s_settle, s_heat, q1, q2, h2, h88, h100, h111]) hk
            · refine x_bipush hG (pc := 114) 40 dX7_bears_114 (by decide) ?_
              refine x_goto hG (pc := 116) 120 dX7_bears_116 (by decide) ?_
              refine x_ireturn hG (pc := 120) dX7_bears_120 rfl rfl (by rw [hG.mc]; exact Nat.le_of_ble_eq_true rfl) (by rw [hG.ms]; exact Nat.le_of_ble_eq_true rfl) ?_
              exact fin_i (by simp [bea, s_wear, s_crack, s_settle, s_heat, q1, q2, h2, h88, h100, h111]) hk
          · refine x_bipush hG (pc := 103) 80 dX7_bears_103 (by decide) ?_
            refine x_goto hG (pc := 105) 120 dX7_bears_105 (by decide) ?_
            refine x_ireturn hG (pc := 120) dX7_bears_120 rfl rfl (by rw [hG.mc]; exact Nat.le_of_ble_eq_true rfl) (by rw [hG.ms]; exact Nat.le_of_ble_eq_true rfl) ?_
            exact fin_i (by simp [bea, s_wear, s_crack, s_settle, s_heat, q1, q2, h2, h88, h100]) hk
        · refine x_sipush hG (pc := 91) 160 dX7_bears_91 (by decide) ?_
          refine x_goto hG (pc := 94) 120 dX7_bears_94 (by decide) ?_
          refine x_ireturn hG (pc := 120) dX7_bears_120 rfl rfl (by rw [hG.mc]; exact Nat.le_of_ble_eq_true rfl) (by rw [hG.ms]; exact Nat.le_of_ble_eq_true rfl) ?_
          exact fin_i (by simp [bea, s_wear, s_crack, s_settle, s_heat, q1, q2, h2, h88]) hk
    · by_cases q3 : q = 3
      · have q3x := q3
        subst q3x
        refine x_iload_n hG (pc := 0) 2 dX7_bears_0 rfl rfl ?_
        refine x_iconst hG (pc := 1) 4 dX7_bears_1 (by decide) ?_
        refine x_icmp_ge hG (pc := 2) 13 dX7_bears_2 (by decide) (fun h2 => ?_) (fun h2 => ?_)
        · exact absurd h2 (by decide)
        · refine x_aload_n hG (pc := 5) 0 dX7_bears_5 rfl rfl ?_
          refine x_iload_n hG (pc := 6) 2 dX7_bears_6 rfl rfl ?_
          refine x_iconst hG (pc := 7) 1 dX7_bears_7 (by decide) ?_
          refine x_isub hG (pc := 8) dX7_bears_8 ?_
          refine x_ialdN hG (pc := 9) (c := 2) (by first | assumption | exact hR.main) (by decide) dX7_bears_9 ?_
          refine x_goto hG (pc := 10) 18 dX7_bears_10 (by decide) ?_
          refine x_istore_n hG (pc := 18) 3 dX7_bears_18 rfl (Nat.le_of_ble_eq_true rfl) rfl (by dsimp only [List.set]) ?_
          refine x_iload_n hG (pc := 19) 2 dX7_bears_19 rfl rfl ?_
          refine x_tableIn hG (pc := 20) (off := 101) 121 dX7_bears_20 (by decide) (by decide) (by decide) (by decide) ?_
          refine x_iload_n hG (pc := 121) 3 dX7_bears_121 rfl rfl ?_
          refine x_bipush hG (pc := 122) 20 dX7_bears_122 (by decide) ?_
          refine x_icmp_ge hG (pc := 124) 133 dX7_bears_124 (by decide) (fun h124 => ?_) (fun h124 => ?_)
          · refine x_iload_n hG (pc := 133) 3 dX7_bears_133 rfl rfl ?_
            refine x_bipush hG (pc := 134) 30 dX7_bears_134 (by decide) ?_
            refine x_icmp_ge hG (pc := 136) 144 dX7_bears_136 (by decide) (fun h136 => ?_) (fun h136 => ?_)
            · refine x_iload_n hG (pc := 144) 3 dX7_bears_144 rfl rfl ?_
              refine x_bipush hG (pc := 145) 40 dX7_bears_145 (by decide) ?_
              refine x_icmp_ge hG (pc := 147) 155 dX7_bears_147 (by decide) (fun h147 => ?_) (fun h147 => ?_)
              · refine x_iload_n hG (pc := 155) 3 dX7_bears_155 rfl rfl ?_
                refine x_bipush hG (pc := 156) 50 dX7_bears_156 (by decide) ?_
                refine x_icmp_ge hG (pc := 158) 166 dX7_bears_158 (by decide) (fun h158 => ?_) (fun h158 => ?_)
                · refine x_bipush hG (pc := 166) 10 dX7_bears_166 (by decide) ?_
                  refine x_ireturn hG (pc := 168) dX7_bears_168 rfl rfl (by rw [hG.mc]; exact Nat.le_of_ble_eq_true rfl) (by rw [hG.ms]; exact Nat.le_of_ble_eq_true rfl) ?_
                  exact fin_i (by simp [bea, s_wear, s_crack, s_settle, s_heat, q1, q2, q3, h2, h124, h136, h147, h158]) hk
                · refine x_bipush hG (pc := 161) 40 dX7_bears_161 (by decide) ?_
                  refine x_goto hG (pc := 163) 168 dX7_bears_163 (by decide) ?_
                  refine x_ireturn hG (pc := 168) dX7_bears_168 rfl rfl (by rw [hG.mc]; exact Nat.le_of_ble_eq_true rfl) (by rw [hG.ms]; exact Nat.le_of_ble_eq_true rfl) ?_
                  exact fin_i (by simp [bea, s_wear, s_crack, s_settle, s_heat, q1, q2, q3, h2, h124, h136, h147, h158]) hk
              · refine x_bipush hG (pc := 150) 80 dX7_bears_150 (by decide) ?_
                refine x_goto hG (pc := 152) 168 dX7_bears_152 (by decide) ?_
                refine x_ireturn hG (pc := 168) dX7_bears_168 rfl rfl (by rw [hG.mc]; exact Nat.le_of_ble_eq_true rfl) (by rw [hG.ms]; exact Nat.le_of_ble_eq_true rfl) ?_
                exact fin_i (by simp [bea, s_wear, s_crack, s_settle, s_heat, q1, q2, q3, h2, h124, h136, h147]) hk
            · refine x_bipush hG (pc := 139) 120 dX7_bears_139 (by decide) ?_
              refine x_goto hG (pc := 141) 168 dX7_bears_141 (by decide) ?_
              refine x_ireturn hG (pc := 168) dX7_bears_168 rfl rfl (by rw [hG.mc]; exact Nat.le_of_ble_eq_true rfl) (by rw [hG.ms]; exact Nat.le_of_ble_eq_true rfl) ?_
              exact fin_i (by simp [bea, s_wear, s_crack, s_settle, s_heat, q1, q2, q3, h2, h124, h136]) hk
          · refine x_sipush hG (pc := 127) 160 dX7_bears_127 (by decide) ?_
            refine x_goto hG (pc := 130) 168 dX7_bears_130 (by decide) ?_
            refine x_ireturn hG (pc := 168) dX7_bears_168 rfl rfl (by rw [hG.mc]; exact Nat.le_of_ble_eq_true rfl) (by rw [hG.ms]; exact Nat.le_of_ble_eq_true rfl) ?_
            exact fin_i (by simp [bea, s_wear, s_crack, s_settle, s_heat, q1, q2, q3, h2, h124]) hk
      · obtain rfl : q = 4 := by omega
        refine x_iload_n hG (pc := 0) 2 dX7_bears_0 rfl rfl ?_
        refine x_iconst hG (pc := 1) 4 dX7_bears_1 (by decide) ?_
        refine x_icmp_ge hG (pc := 2) 13 dX7_bears_2 (by decide) (fun h2 => ?_) (fun h2 => ?_)
        · refine x_iload_n hG (pc := 13) 1 dX7_bears_13 rfl rfl ?_
          refine x_aload_n hG (pc := 14) 0 dX7_bears_14 rfl rfl ?_
          refine x_iconst hG (pc := 15) 4 dX7_bears_15 (by decide) ?_
          refine x_ialdN hG (pc := 16) (c := 4) (by first | assumption | exact hR.main) (by decide) dX7_bears_16 ?_
          refine x_isub hG (pc := 17) dX7_bears_17 ?_
          refine x_istore_n hG (pc := 18) 3 dX7_bears_18 rfl (Nat.le_of_ble_eq_true rfl) rfl (by dsimp only [List.set]) ?_
          refine x_iload_n hG (pc := 19) 2 dX7_bears_19 rfl rfl ?_
          refine x_tableOut hG (pc := 20) 169 dX7_bears_20 (by decide) (by decide) ?_
          refine x_iload_n hG (pc := 169) 3 dX7_bears_169 rfl rfl ?_
          refine x_bipush hG (pc := 170) 30 dX7_bears_170 (by decide) ?_
          refine x_icmp_le hG (pc := 172) 180 dX7_bears_172 (by decide) (fun h172 => ?_) (fun h172 => ?_)
          · refine x_iload_n hG (pc := 180) 3 dX7_bears_180 rfl rfl ?_
            refine x_bipush hG (pc := 181) 20 dX7_bears_181 (by decide) ?_
            refine x_icmp_le hG (pc := 183) 191 dX7_bears_183 (by decide) (fun h183 => ?_) (fun h183 => ?_)
            · refine x_iload_n hG (pc := 191) 3 dX7_bears_191 rfl rfl ?_
              refine x_bipush hG (pc := 192) (-40) dX7_bears_192 (by decide) ?_
              refine x_icmp_ge hG (pc := 194) 202 dX7_bears_194 (by decide) (fun h194 => ?_) (fun h194 => ?_)
              · refine x_sipush hG (pc := 202) 160 dX7_bears_202 (by decide) ?_
                refine x_ireturn hG (pc := 205) dX7_bears_205 rfl rfl (by rw [hG.mc]; exact Nat.le_of_ble_eq_true rfl) (by rw [hG.ms]; exact Nat.le_of_ble_eq_true rfl) ?_
                exact fin_i (by simp [bea, s_wear, s_crack, s_settle, s_heat, q1, q2, q3, h2, h172, h183, h194]) hk
              · refine x_bipush hG (pc := 197) 100 dX7_bears_197 (by decide) ?_
                refine x_goto hG (pc := 199) 205 dX7_bears_199 (by decide) ?_
                refine x_ireturn hG (pc := 205) dX7_bears_205 rfl rfl (by rw [hG.mc]; exact Nat.le_of_ble_eq_true rfl) (by rw [hG.ms]; exact Nat.le_of_ble_eq_true rfl) ?_
                exact fin_i (by simp [bea, s_wear, s_crack, s_settle, s_heat, q1, q2, q3, h2, h172, h183, h194]) hk
            · refine x_bipush hG (pc := 186) 80 dX7_bears_186 (by decide) ?_
              refine x_goto hG (pc := 188) 205 dX7_bears_188 (by decide) ?_
              refine x_ireturn hG (pc := 205) dX7_bears_205 rfl rfl (by rw [hG.mc]; exact Nat.le_of_ble_eq_true rfl) (by rw [hG.ms]; exact Nat.le_of_ble_eq_true rfl) ?_
              exact fin_i (by simp [bea, s_wear, s_crack, s_settle, s_heat, q1, q2, q3, h2, h172, h183]) hk
          · refine x_bipush hG (pc := 175) 40 dX7_bears_175 (by decide) ?_
            refine x_goto hG (pc := 177) 205 dX7_bears_177 (by decide) ?_
            refine x_ireturn hG (pc := 205) dX7_bears_205 rfl rfl (by rw [hG.mc]; exact Nat.le_of_ble_eq_true rfl) (by rw [hG.ms]; exact Nat.le_of_ble_eq_true rfl) ?_
            exact fin_i (by simp [bea, s_wear, s_crack, s_settle, s_heat, q1, q2, q3, h2, h172]) hk
        · exact absurd (by decide) h2
set_option maxHeartbeats 400000 in
set_option maxRecDepth 100000 in
theorem c_X7_speedOf : CtrA yX7_speedOf cX7_speedOf 4 (some .int) (rmk 1 0 0 33) (fun Γ av w post _ => ∃ a t f h, av = [.ref a, .int h] ∧ w a = some (t, aI Γ.2.1 7 f) ∧ post (some (.int (sp7 f h))) w) := by
  refine ctr_of (by decide) ?_
  rintro g av w hG hO ⟨a, t, f, h, rfl, ha, hk⟩
  refine ⟨Nat.le_of_ble_eq_true rfl, ?_⟩
  show X g w 0 0 0 [some (.ref a), some (.int h), none, none] []
  refine x_sipush hG (pc := 0) 160 dX7_speedOf_0 (by decide) ?_
  refine x_istore_n hG (pc := 3) 2 dX7_speedOf_3 rfl (Nat.le_of_ble_eq_true rfl) rfl (by dsimp only [List.set]) ?_
  refine x_iconst hG (pc := 4) 1 dX7_speedOf_4 (by decide) ?_
  refine x_istore_n hG (pc := 5) 3 dX7_speedOf_5 rfl (Nat.le_of_ble_eq_true rfl) rfl (by dsimp only [List.set]) ?_
  refine nat_down (P := fun q => X g w 0 0 6 [some (.ref a), some (.int h), some (.int (spn f h q)), some (.int (nI (q + 1)))] []) 4 (fun q hq ih => ?_) 0 (Nat.zero_le _)
  refine x_iload_n hG (pc := 6) 3 dX7_speedOf_6 rfl rfl ?_
  refine x_iconst hG (pc := 7) 5 dX7_speedOf_7 (by decide) ?_
  refine x_icmp_ge hG (pc := 8) 28 dX7_speedOf_8 (by decide) (fun h8 => ?_) (fun h8 => ?_)
  · have hqe : q = 4 := by
      rcases Nat.lt_or_ge q 4 with z | z
      · exact absurd h8 (nI_ge (a := q + 1) (b := 5) (by omega) (by decide))
      · omega
    refine x_iload_n hG (pc := 28) 2 dX7_speedOf_28 rfl rfl ?_
    refine x_ireturn hG (pc := 29) dX7_speedOf_29 rfl rfl (by rw [hG.mc]; exact Nat.le_of_ble_eq_true rfl) (by rw [hG.ms]; exact Nat.le_of_ble_eq_true rfl) ?_
    rw [hqe]
    exact fin_i spn_4 hk
  · have hqn : q < 4 := by
      rcases Nat.lt_or_ge q 4 with z | z
      · exact z
      · exact absurd (nI_le (a := 5) (b := q + 1) (by omega) (by omega)) h8
    refine x_iload_n hG (pc := 11) 2 dX7_speedOf_11 rfl rfl ?_
    refine x_aload_n hG (pc := 12) 0 dX7_speedOf_12 rfl rfl ?_
    refine x_iload_n hG (pc := 13) 1 dX7_speedOf_13 rfl rfl ?_
    refine x_iload_n hG (pc := 14) 3 dX7_speedOf_14 rfl rfl ?_
    refine x_callS hG hO (pc := 15) [_, _, _] c_X7_bears lk_X7_34 rfl rfl ⟨by decide, by decide⟩ (Nat.le_of_ble_eq_true rfl) (by rw [hG.mc]; exact Nat.le_of_ble_eq_true rfl) (by rw [hG.ms]; exact Nat.le_of_ble_eq_true rfl) dX7_speedOf_15 ?_
    refine ⟨a, t, f, h, q + 1, rfl, ha, by omega, by omega, ?_⟩
    refine x_mmin hG (pc := 18) lk_X7_38 dX7_speedOf_18 (by decide) (Nat.le_of_ble_eq_true rfl) (by rw [hG.mc]; exact Nat.le_of_ble_eq_true rfl) (by rw [hG.ms]; exact Nat.le_of_ble_eq_true rfl) ?_
    refine x_istore_n hG (pc := 21) 2 dX7_speedOf_21 rfl (Nat.le_of_ble_eq_true rfl) rfl (by dsimp only [List.set]) ?_
    refine x_iinc hG (pc := 22) (nI (q + 1 + 1)) dX7_speedOf_22 rfl (Nat.le_of_ble_eq_true rfl) rfl (nI_1' (q + 1)) (by dsimp only [List.set]) ?_
    refine x_goto hG (pc := 25) 6 dX7_speedOf_25 (by decide) ?_
    exact ih (q + 1) (by omega) (by omega)
set_option maxHeartbeats 400000 in
set_option maxRecDepth 100000 in
theorem c_X7_whyOf : CtrA yX7_whyOf cX7_whyOf 4 (some .int) (rmk 2 0 0 56) (fun Γ av w post _ => ∃ a t f h, av = [.ref a, .int h] ∧ w a = some (t, aI Γ.2.1 7 f) ∧ post (some (.int (s_dec (f 0) (f 1) (f 2) (h - f 4)))) w) := by
  refine ctr_of (by decide) ?_
  rintro g av w hG hO ⟨a, t, f, h, rfl, ha, hk⟩
  refine ⟨Nat.le_of_ble_eq_true rfl, ?_⟩
  show X g w 0 0 0 [some (.ref a), some (.int h), none, none] []
  refine x_aload_n hG (pc := 0) 0 dX7_whyOf_0 rfl rfl ?_
  refine x_iload_n hG (pc := 1) 1 dX7_whyOf_1 rfl rfl ?_
  refine x_callS hG hO (pc := 2) [_, _] c_X7_speedOf lk_X7_44 rfl rfl ⟨by decide, by decide⟩ (Nat.le_of_ble_eq_true rfl) (by rw [hG.mc]; exact Nat.le_of_ble_eq_true rfl) (by rw [hG.ms]; exact Nat.le_of_ble_eq_true rfl) dX7_whyOf_2 ?_
  refine ⟨a, t, f, h, rfl, ha, ?_⟩
  refine x_istore_n hG (pc := 5) 2 dX7_whyOf_5 rfl (Nat.le_of_ble_eq_true rfl) rfl (by dsimp only [List.set]) ?_
  refine x_iload_n hG (pc := 6) 2 dX7_whyOf_6 rfl rfl ?_
  refine x_sipush hG (pc := 7) 160 dX7_whyOf_7 (by decide) ?_
  refine x_icmp_ne hG (pc := 10) 15 dX7_whyOf_10 (by decide) (fun h10 => ?_) (fun h10 => ?_)
  · refine x_iconst hG (pc := 15) 1 dX7_whyOf_15 (by decide) ?_
    refine x_istore_n hG (pc := 16) 3 dX7_whyOf_16 rfl (Nat.le_of_ble_eq_true rfl) rfl (by dsimp only [List.set]) ?_
    refine nat_down (P := fun q => (∀ j, j < q → ¬ bea f h (j + 1) = sp7 f h) → X g w 0 0 17 [some (.ref a), some (.int h), some (.int (sp7 f h)), some (.int (nI (q + 1)))] []) 3 (fun q hq ih hN => ?_) 0 (Nat.zero_le _) (fun j hj => absurd hj (Nat.not_lt_zero _))
    refine x_aload_n hG (pc := 17) 0 dX7_whyOf_17 rfl rfl ?_
    refine x_iload_n hG (pc := 18) 1 dX7_whyOf_18 rfl rfl ?_
    refine x_iload_n hG (pc := 19) 3 dX7_whyOf_19 rfl rfl ?_
    refine x_callS hG hO (pc := 20) [_, _, _] c_X7_bears lk_X7_34 rfl rfl ⟨by decide, by decide⟩ (Nat.le_of_ble_eq_true rfl) (by rw [hG.mc]; exact Nat.le_of_ble_eq_true rfl) (by rw [hG.ms]; exact Nat.le_of_ble_eq_true rfl) dX7_whyOf_20 ?_
    refine ⟨a, t, f, h, q + 1, rfl, ha, by omega, by omega, ?_⟩
    refine x_iload_n hG (pc := 23) 2 dX7_whyOf_23 rfl rfl ?_
    refine x_icmp_eq hG (pc := 24) 33 dX7_whyOf_24 (by decide) (fun h24 => ?_) (fun h24 => ?_)
    · refine x_iload_n hG (pc := 33) 3 dX7_whyOf_33 rfl rfl ?_
      refine x_ireturn hG (pc := 34) dX7_whyOf_34 rfl rfl (by rw [hG.mc]; exact Nat.le_of_ble_eq_true rfl) (by rw [hG.ms]; exact Nat.le_of_ble_eq_true rfl) ?_
      have e : nI (q + 1) = s_dec (f 0) (f 1) (f 2) (h - f 4) := by
        have n0 : ¬ s_speed (f 0) (f 1) (f 2) (h - f 4) = 160 := h10
        unfold s_dec
        rw [if_neg n0]
        rcases (show q = 0 ∨ q = 1 ∨ q = 2 ∨ q = 3 by omega) with rfl | rfl | rfl | rfl
        · rw [if_pos (show s_wear (f 0) = s_speed (f 0) (f 1) (f 2) (h - f 4) from h24)]
          rfl
        · rw [if_neg (show ¬ s_wear (f 0) = s_speed (f 0) (f 1) (f 2) (h - f 4) from hN 0 (by decide)), if_pos (show s_crack (f 1) = s_speed (f 0) (f 1) (f 2) (h - f 4) from h24)]
          rfl
        · rw [if_neg (show ¬ s_wear (f 0) = s_speed (f 0) (f 1) (f 2) (h - f 4) from hN 0 (by decide)), if_neg (show ¬ s_crack (f 1) = s_speed (f 0) (f 1) (f 2) (h - f 4) from hN 1 (by decide)), if_pos (show s_settle (f 2) = s_speed (f 0) (f 1) (f 2) (h - f 4) from h24)]
          rfl
        · rw [if_neg (show ¬ s_wear (f 0) = s_speed (f 0) (f 1) (f 2) (h - f 4) from hN 0 (by decide)), if_neg (show ¬ s_crack (f 1) = s_speed (f 0) (f 1) (f 2) (h - f 4) from hN 1 (by decide)), if_neg (show ¬ s_settle (f 2) = s_speed (f 0) (f 1) (f 2) (h - f 4) from hN 2 (by decide))]
          rfl
      exact fin_i e hk
    · have hqn : q < 3 := by
        rcases Nat.lt_or_ge q 3 with z | z
        · exact z
        · exfalso
          have hq3 : q = 3 := by omega
          subst hq3
          rcases spn_or (f := f) (h := h) 4 with y | ⟨j, hj, y⟩
          · exact h10 (spn_4.symm.trans y)
          · rw [spn_4] at y
            rcases Nat.lt_or_ge j 3 with u | u
            · exact hN j u y
            · rw [show j = 3 by omega] at y
              exact h24 y
      refine x_iinc hG (pc := 27) (nI (q + 1 + 1)) dX7_whyOf_27 rfl (Nat.le_of_ble_eq_true rfl) rfl (nI_1' (q + 1)) (by dsimp only [List.set]) ?_
      refine x_goto hG (pc := 30) 17 dX7_whyOf_30 (by decide) ?_
      exact ih (q + 1) (by omega) (by omega) (all_s hN h24)
  · refine x_iconst hG (pc := 13) 0 dX7_whyOf_13 (by decide) ?_
    refine x_ireturn hG (pc := 14) dX7_whyOf_14 rfl rfl (by rw [hG.mc]; exact Nat.le_of_ble_eq_true rfl) (by rw [hG.ms]; exact Nat.le_of_ble_eq_true rfl) ?_
    exact fin_i (if_pos h10).symm hk
