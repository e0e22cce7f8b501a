/-! TrackNights: what is added: machines, measures, nights, works; meanWear -/
theorem ext2 {w w1 w2 : Wd} {q : Nat} {x y : Tg × va_E} (hq : w q = none) (e1 : w1 = wup w q x) (e2 : w2 = wup w1 q y) : ∀ (b : Nat) (z : Tg × va_E), w b = some z → w2 b = some z := by
  intro b z hb
  subst e2 e1
  rw [wup_w]
  exact wup_f hq hb
theorem str_0 {t f o : Int32} (h : c_str t f o = 0) : ∃ t0 f0 o0 : Nat, t = nI t0 ∧ f = nI f0 ∧ o = nI o0 ∧ t0 < 2 ∧ f0 ≤ o0 ∧ o0 < 10 := by
  unfold c_str at h
  by_cases a1 : t < 0
  · rw [if_pos a1] at h
    cases h
  rw [if_neg a1] at h
  by_cases a2 : t < 2
  case neg =>
    rw [if_neg a2] at h
    cases h
  rw [if_pos a2] at h
  by_cases a3 : f < 0
  · rw [if_pos a3] at h
    cases h
  rw [if_neg a3] at h
  by_cases a4 : 10 ≤ f
  · rw [if_pos a4] at h
    cases h
  rw [if_neg a4] at h
  by_cases a5 : o < 0
  · rw [if_pos a5] at h
    cases h
  rw [if_neg a5] at h
  by_cases a6 : o < 10
  case neg =>
    rw [if_neg a6] at h
    cases h
  rw [if_pos a6] at h
  by_cases a7 : f ≤ o
  case neg =>
    rw [if_neg a7] at h
    cases h
  obtain ⟨t0, b1, rfl⟩ := ix_lt (n := 2) rfl (by decide) a1 a2
  obtain ⟨f0, b2, rfl⟩ := ix_lt (n := 10) rfl (by decide) a3 (Int32.not_le.mp a4)
  obtain ⟨o0, b3, rfl⟩ := ix_lt (n := 10) rfl (by decide) a5 a6
  refine ⟨t0, f0, o0, rfl, rfl, rfl, b1, ?_, b3⟩
  rcases Nat.lt_or_ge o0 f0 with g | g
  · exact absurd a7 (nI_ge g (by omega))
  · exact g
theorem ti_ix {t0 j : Nat} (ht : t0 < 2) : nI t0 * 10 + nI j = nI (t0 * 10 + j) := by
  rcases (show t0 = 0 ∨ t0 = 1 by omega) with rfl | rfl
  · have e : nI 0 * 10 = nI (0 * 10) := by decide
    rw [e, nI_add]
  · have e : nI 1 * 10 = nI (1 * 10) := by decide
    rw [e, nI_add]
def rowM (kd lf : Int32) : Nat → Int32 := fun x => if x = 0 then kd else if x = 1 then lf else 0
def oMac (S : St) (kd lf : Int32) : Oc := if kd < 0 then (1, 0, S) else if kd ≤ 2 then (if lf < 0 then (1, 0, S) else if lf ≤ 99 then (if nI (nM S) < 4 then (0, nI (nM S), addM S (rowM kd lf)) else (2, 0, S)) else (1, 0, S)) else (1, 0, S)
def rowN (t f o d h : Int32) : Nat → Int32 := fun x => if x = 1 then t else if x = 2 then f else if x = 3 then o else if x = 4 then d else if x = 5 then h else 0
noncomputable def oBoo (S : St) (t f o d h : Int32) : Oc := match c_str t f o with
  | 0 => if d < gl S 0 + 5 then (2, 0, S) else if d ≤ 2000 then (if h < 2 then (2, 0, S) else if h ≤ 8 then (if nI (nN S) < 16 then (if (1 - ex01 (pOcc S t f o d) (nN S)) = 0 then (3, 0, S) else (0, nI (nN S), addN S (rowN t f o d h))) else (3, 0, S)) else (2, 0, S)) else (2, 0, S)
  | 1 => (1, 0, S)
  | _ => (2, 0, S)
def rowJ (S : St) (k s m : Nat) (h : Int32) : Nat → Int32 := rset (rset (rset (rset (rset (gS S k) (10 + 3 * nJ (gS S k)) (nI s)) (11 + 3 * nJ (gS S k)) (nI m)) (12 + 3 * nJ (gS S k)) h) 6 (nI (nJ (gS S k) + 1))) 7 (gS S k 7 + h)
noncomputable def oWor (S : St) (p i m : Int32) : Oc := match ixO p (nN S) with
  | none => (1, 0, S)
  | some k => match ixO m (nM S) with
    | none => (1, 0, S)
    | some mm => match ixO i 20 with
      | none => (1, 0, S)
      | some s => if s_has (gS S k 1) (gS S k 2) (gS S k 3) (nI s) = 0 then (2, 0, S) else if gS S k 0 = 0 then (if nI (nJ (gS S k)) < 6 then (if gS S k 7 + s_hours (mS S mm 0) (sS S s 5) ≤ gS S k 5 then (if ex01 (pElI S mm k) (nN S) = 0 then (0, gS S k 7 + s_hours (mS S mm 0) (sS S s 5), setN S k (rowJ S k s mm (s_hours (mS S mm 0) (sS S s 5)))) else (3, 0, S)) else (3, 0, S)) else (3, 0, S)) else (3, 0, S)
/-- a measure's row as it is written -/
def eBas (t f o d : Int32) : Nat → Int32 := fun x => if x = 0 then t else if x = 1 then f else if x = 2 then o else if x = 3 then d else 0
def eSt (S : St) (t0 : Nat) (d : Int32) (b : Nat → Int32) (k : Nat) : Nat → Int32 := if nI k + d < 0 then b else if nI k + d < 10 then rset (rset (rset (rset b (5 + 4 * k) 1) (6 + 4 * k) (sS S (t0 * 10 + (nI k + d).toNatClampNeg) 0)) (7 + 4 * k) (if 5 ≤ sS S (t0 * 10 + (nI k + d).toNatClampNeg) 1 then sS S (t0 * 10 + (nI k + d).toNatClampNeg) 1 else 0)) (8 + 4 * k) (sS S (t0 * 10 + (nI k + d).toNatClampNeg) 2) else b
def eRw (S : St) (t0 : Nat) (d : Int32) (b : Nat → Int32) (f0 : Nat) : Nat → Nat → Int32
  | 0 => b
  | n + 1 => eSt S t0 d (eRw S t0 d b f0 n) (f0 + n)
def eRow (S : St) (t f o d : Int32) : Nat → Int32 := eRw S t.toNatClampNeg d (eBas t f o d) f.toNatClampNeg (o.toNatClampNeg + 1 - f.toNatClampNeg)
def oMea (S : St) (t f o d : Int32) : Oc := match c_str t f o with
  | 0 => if d < -2 then (2, 0, S) else if d ≤ 2 then (if nI (nE S) < 12 then (0, nI (nE S), addE S (eRow S t f o d)) else (3, 0, S)) else (2, 0, S)
  | 1 => (1, 0, S)
  | _ => (2, 0, S)
theorem eRw_lo {S : St} {t0 f0 : Nat} {d : Int32} {b : Nat → Int32} {x : Nat} (hx : x < 5) : ∀ n, eRw S t0 d b f0 n x = b x
  | 0 => rfl
  | n + 1 => by
    have ih := eRw_lo (S := S) (t0 := t0) (f0 := f0) (d := d) (b := b) hx n
    simp only [eRw, eSt]
    split
    · exact ih
    · split
      · rw [rset_n (by omega), rset_n (by omega), rset_n (by omega), rset_n (by omega)]
        exact ih
      · exact ih
def wrF (row : Nat → Int32) (q9 : Nat → Nat) : Nat → Option Nat := fun j => if j < 10 then (if row (5 + 4 * j) = 1 then some (q9 j) else none) else none
theorem hsum_c {p q : Nat → Int32} : ∀ n, (∀ k, k < n → p k = q k) → hsum p n = hsum q n
  | 0, _ => rfl
  | n + 1, h => by
    simp only [hsum]
    rw [hsum_c n (fun k hk => h k (by omega)), h n (by omega)]
def MeI (Γ : Gw) (n : Nat) (w0 : Wd) (r qw : Nat) (t d : Int32) (w : Wd) (row : Nat → Int32) (q9 : Nat → Nat) : Prop :=
  w r = some ((7, n, 0), oE t d 0 qw) ∧ w qw = some ((8, n, 0), aV Γ.2.1 10 (wrF row q9)) ∧ (∀ j, j < 10 → row (5 + 4 * j) = 1 → w (q9 j) = some ((9, n, j), oV (row (6 + 4 * j)) (row (7 + 4 * j)) (row (8 + 4 * j)))) ∧ (∀ (b : Nat) (x : Tg × va_E), w0 b = some x → ¬ (7 ≤ x.1.1 ∧ x.1.1 ≤ 9 ∧ x.1.2.1 = n) → w b = some x)
theorem MeI.st {Γ : Gw} {n : Nat} {w0 : Wd} {r qw : Nat} {t d : Int32} {w : Wd} {row : Nat → Int32} {q9 : Nat → Nat} (h : MeI Γ n w0 r qw t d w row q9) {k q : Nat} {x y z : Int32} {w2 : Wd} (hk : k < 10) (hq : w q = none)
    (e : w2 = wup (wup w q ((9, n, k), oV x y z)) qw ((8, n, 0), aV Γ.2.1 10 (va_up (wrF row q9) k (some q)))) : MeI Γ n w0 r qw t d w2 (rset (rset (rset (rset row (5 + 4 * k) 1) (6 + 4 * k) x) (7 + 4 * k) y) (8 + 4 * k) z) (rset q9 k q) := by
  obtain ⟨h1, h2, h3, h4⟩ := h
  subst e
  have hqw : (wup w q ((9, n, k), oV x y z)) qw = some ((8, n, 0), aV Γ.2.1 10 (wrF row q9)) := wup_f hq h2
  have old : ∀ (b : Nat) (u : Tg × va_E), w b = some u → u.1 ≠ (8, n, 0) → (wup (wup w q ((9, n, k), oV x y z)) qw ((8, n, 0), aV Γ.2.1 10 (va_up (wrF row q9) k (some q)))) b = some u := by
    intro b u hb hu
    have hb2 : (wup w q ((9, n, k), oV x y z)) b = some u := wup_f hq hb
    exact wup_t (tb := u.1) (eb := u.2) hqw hb2 hu
  refine ⟨old _ _ h1 (by intro z; cases z), ?_, ?_, ?_⟩
  · refine wup_s.trans ?_
    have e : va_up (wrF row q9) k (some q) = wrF (rset (rset (rset (rset row (5 + 4 * k) 1) (6 + 4 * k) x) (7 + 4 * k) y) (8 + 4 * k) z) (rset q9 k q) := by
      funext j
      unfold va_up wrF
      by_cases g : j = k
      · subst g
        rw [if_pos rfl, if_pos hk, rset_n (by omega), rset_n (by omega), rset_n (by omega), rset_s, if_pos rfl, rset_s]
      · rw [if_neg g, rset_n (show 5 + 4 * j ≠ 8 + 4 * k by omega), rset_n (show 5 + 4 * j ≠ 7 + 4 * k by omega), rset_n (show 5 + 4 * j ≠ 6 + 4 * k by omega), rset_n (show 5 + 4 * j ≠ 5 + 4 * k by omega), rset_n g]
    rw [e]
  · intro j hj hr
    by_cases g : j = k
    · subst g
      rw [rset_s, rset_s, rset_n (show 7 + 4 * j ≠ 8 + 4 * j by omega), rset_s, rset_n (show 6 + 4 * j ≠ 8 + 4 * j by omega), rset_n (show 6 + 4 * j ≠ 7 + 4 * j by omega), rset_s]
      refine wup_t (tb := (9, n, j)) hqw wup_s (by intro z; cases z)
    · rw [rset_n (show 5 + 4 * j ≠ 8 + 4 * k by omega), rset_n (show 5 + 4 * j ≠ 7 + 4 * k by omega), rset_n (show 5 + 4 * j ≠ 6 + 4 * k by omega), rset_n (show 5 + 4 * j ≠ 5 + 4 * k by omega)] at hr
      rw [rset_n g, rset_n (show 6 + 4 * j ≠ 8 + 4 * k by omega), rset_n (show 6 + 4 * j ≠ 7 + 4 * k by omega), rset_n (show 6 + 4 * j ≠ 6 + 4 * k by omega), rset_n (show 6 + 4 * j ≠ 5 + 4 * k by omega), rset_n (show 7 + 4 * j ≠ 8 + 4 * k by omega), rset_n (show 7 + 4 * j ≠ 7 + 4 * k by omega), rset_n (show 7 + 4 * j ≠ 6 + 4 * k by omega), rset_n (show 7 + 4 * j ≠ 5 + 4 * k by omega), rset_n (show 8 + 4 * j ≠ 8 + 4 * k by omega), rset_n (show 8 + 4 * j ≠ 7 + 4 * k by omega), rset_n (show 8 + 4 * j ≠ 6 + 4 * k by omega), rset_n (show 8 + 4 * j ≠ 5 + 4 * k by omega)]
      exact old _ _ (h3 j hj hr) (by intro z; cases z)
  · intro b u hb hu
    exact old _ _ (h4 b u hb hu) (fun z => hu (by rw [z]; exact ⟨Nat.le_of_ble_eq_true rfl, Nat.le_of_ble_eq_true rfl, rfl⟩))
theorem MeI.rep {Γ : Gw} {L : LayC} {S : St} {w0 : Wd} {r qw : Nat} {t d : Int32} {w : Wd} {row : Nat → Int32} {q9 : Nat → Nat} (h : MeI Γ (nE S) w0 r qw t d w row q9) (hR : RepC Γ L S w0) : RepC Γ L S w := by
  refine hR.but (fun t => 7 ≤ t.1 ∧ t.1 ≤ 9 ∧ t.2.1 = nE S) h.2.2.2 ?_
  rintro ⟨k, i, j⟩ ⟨h1, h2, h3⟩
  dsimp only at h1 h2 h3
  subst h3
  have g : ¬ nE S < nE S := by omega
  rcases (show k = 7 ∨ k = 8 ∨ k = 9 by omega) with rfl | rfl | rfl <;> simp only [cC, if_neg g]
def mwS (S : St) (k : Nat) : Int32 := cnt (fun j => sS S (k * 10 + j) 0) 10
theorem mw_le {p : Nat → Int32} {c : Nat} (hc : c ≤ 1000) : ∀ n, n ≤ 20 → (∀ j, j < n → 0 ≤ (p j).toInt ∧ (p j).toInt ≤ c) → ∃ s, s ≤ c * n ∧ cnt p n = nI s
  | 0, _, _ => ⟨0, by omega, rfl⟩
  | n + 1, hn, h => by
    obtain ⟨s, h1, h2⟩ := mw_le hc n (by omega) (fun j hj => h j (by omega))
    obtain ⟨g1, g2⟩ := h n (by omega)
    have h3 : c * n ≤ 1000 * 20 := Nat.mul_le_mul hc (by omega)
    refine ⟨s + (p n).toInt.toNat, by rw [Nat.mul_succ]; omega, ?_⟩
    simp only [cnt]
    rw [h2, ← nI_add]
    congr 1
    refine Int32.toInt_inj.mp ?_
    rw [nI_toInt (by omega)]
    omega
theorem mw_dv {S : St} (hI : Inv S) {k : Nat} (hk : k < 2) : vf_n64 (FP.ddiv (FP.i2d (mwS S k)) 0x4024000000000000) := by
  obtain ⟨s, h1, h2⟩ := mw_le (p := fun j => sS S (k * 10 + j) 0) (c := 100) (by decide) 10 (by decide) (fun j hj => (hI.1 (k * 10 + j) (by omega)).1)
  unfold mwS
  rw [h2]
  exact dv_ok ⟨s, by omega⟩
set_option maxHeartbeats 400000 in
set_option maxRecDepth 100000 in
theorem c_X6_machine : CtrA yX6_machine cX6_machine 3 (some .int) (rmk 8 4 50 324) (fun Γ av w post xpost => ∃ (L : LayC) (S : St), ∃ kd lf, av = [.ref (thC L), .int kd, .int lf] ∧ RepC Γ L S w ∧ Inv S ∧ Out Γ L w post xpost [xA, xS] (oMac S kd lf)) := by
  refine ctr_of (by decide) ?_
  rintro g av w hG hO ⟨L, S, kd, lf, rfl, hR, hI, hk⟩
  refine ⟨Nat.le_of_ble_eq_true rfl, ?_⟩
  show X g w 0 0 0 [some (.ref (thC L)), some (.int kd), some (.int lf)] []
  have hnM := hI.2.1.1
  have hnN := hI.2.1.2.1
  have hnE := hI.2.1.2.2
  refine x_iload_n hG (pc := 0) 1 dX6_machine_0 rfl rfl ?_
  refine x_if_lt hG (pc := 1) 9 dX6_machine_1 (by decide) (fun h1 => ?_) (fun h1 => ?_)
  · refine x_throw hG hO (pc := 9) _ _ lt_142 dX6_machine_9 dX6_machine_12 dX6_machine_13 dX6_machine_15 dX6_machine_18 (by decide) (Nat.le_of_ble_eq_true rfl) (by rw [hG.mc]; exact Nat.le_of_ble_eq_true rfl) (by rw [hG.ms]; exact Nat.le_of_ble_eq_true rfl) ?_
    exact hk.bad (k := 0) (v := 0) (S1 := S) (by simp only [oMac, h1, ↓reduceIte]) rfl
  · refine x_iload_n hG (pc := 4) 1 dX6_machine_4 rfl rfl ?_
    refine x_iconst hG (pc := 5) 2 dX6_machine_5 (by decide) ?_
    refine x_icmp_le hG (pc := 6) 19 dX6_machine_6 (by decide) (fun h6 => ?_) (fun h6 => ?_)
    · refine x_iload_n hG (pc := 19) 2 dX6_machine_19 rfl rfl ?_
      refine x_if_lt hG (pc := 20) 29 dX6_machine_20 (by decide) (fun h20 => ?_) (fun h20 => ?_)
      · refine x_throw hG hO (pc := 29) _ _ lt_144 dX6_machine_29 dX6_machine_32 dX6_machine_33 dX6_machine_35 dX6_machine_38 (by decide) (Nat.le_of_ble_eq_true rfl) (by rw [hG.mc]; exact Nat.le_of_ble_eq_true rfl) (by rw [hG.ms]; exact Nat.le_of_ble_eq_true rfl) ?_
        exact hk.bad (k := 0) (v := 0) (S1 := S) (by simp only [oMac, h1, h6, h20, ↓reduceIte]) rfl
      · refine x_iload_n hG (pc := 23) 2 dX6_machine_23 rfl rfl ?_
        refine x_bipush hG (pc := 24) 99 dX6_machine_24 (by decide) ?_
        refine x_icmp_le hG (pc := 26) 39 dX6_machine_26 (by decide) (fun h26 => ?_) (fun h26 => ?_)
        · refine x_aload_n hG (pc := 39) 0 dX6_machine_39 rfl rfl ?_
          refine x_getf hG (pc := 40) fl_X6_22 hR.main rfl dX6_machine_40 ?_
          refine x_callV hG hO (pc := 43) [] c_Jx4a65c_size_8abf5 lk_X6_104 (hR.lst (id := 1) (by omega)).1 rfl rfl ⟨by decide, by decide⟩ (Nat.le_of_ble_eq_true rfl) (by rw [hG.mc]; exact Nat.le_of_ble_eq_true rfl) (by rw [hG.ms]; exact Nat.le_of_ble_eq_true rfl) dX6_machine_43 ?_
          refine ⟨_, _, _, _, _, rfl, (hR.lst (id := 1) (by omega)).1, ?_⟩
          refine x_iconst hG (pc := 46) 4 dX6_machine_46 (by decide) ?_
          refine x_icmp_lt hG (pc := 47) 60 dX6_machine_47 (by decide) (fun h47 => ?_) (fun h47 => ?_)
          · replace h47 : nI (nM S) < 4 := h47
            refine x_aload_n hG (pc := 60) 0 dX6_machine_60 rfl rfl ?_
            refine x_getf hG (pc := 61) fl_X6_22 hR.main rfl dX6_machine_61 ?_
            refine x_new hG (pc := 64) (10, nM S, 0) nw_X6_148 dX6_machine_64 (by rw [hG.mc]; exact Nat.le_of_ble_eq_true rfl) (by rw [hG.ms]; exact Nat.le_of_ble_eq_true rfl) (fun q hfq hnq => ?_)
            refine x_gen (fun w1 e1 => ?_)
            have hq1 := (congrFun e1 q).trans wup_s
            refine x_dup hG (pc := 67) dX6_machine_67 rfl ?_
            refine x_iload_n hG (pc := 68) 1 dX6_machine_68 rfl rfl ?_
            refine x_iload_n hG (pc := 69) 2 dX6_machine_69 rfl rfl ?_
            refine x_callI hG hO (pc := 70) [_, _] c_X0_init lk_X6_150 rfl rfl ⟨by decide, by decide⟩ (Nat.le_of_ble_eq_true rfl) (by rw [hG.mc]; exact Nat.le_of_ble_eq_true rfl) (by rw [hG.ms]; exact Nat.le_of_ble_eq_true rfl) dX6_machine_70 ?_
            refine ⟨q, _, kd, lf, _, _, _, _, rfl, hq1, ?_⟩
            refine x_gen (fun w2 e2 => ?_)
            have hq2 := (congrFun e2 q).trans wup_s
            have hw2 := ext2 hfq e1 e2
            have hR2 := hR.mono hw2
            refine x_callV hG hO (pc := 73) [_] c_Jx4a65c_add_9ea2d lk_X6_121 (hR2.lst (id := 1) (by omega)).1 rfl rfl ⟨by decide, by decide⟩ (Nat.le_of_ble_eq_true rfl) (by rw [hG.mc]; exact Nat.le_of_ble_eq_true rfl) (by rw [hG.ms]; exact Nat.le_of_ble_eq_true rfl) dX6_machine_73 ?_
            refine ⟨_, (5, 1, 0), (6, 1, 0), _, _, _, nM S, elC L.1 1, q, _, _, rfl, hR2.lst (id := 1) (by omega), by omega, hq2, oke_c cob_2, (by intro z; cases z), (by intro z; cases z), (by intro z; cases z), fun i hi => ⟨_, _, hR2.mac hi, oke_c cob_2, (by intro z; cases z)⟩, fun w5 e5 cap5 hAL hF5 => ?_⟩
            obtain ⟨L1, hth, hR5⟩ := hR2.aM hI.job (f := rowM kd lf) hAL (hF5 _ _ hq2 (by intro z; cases z) (by intro z; cases z)) (fun b x hb z1 z2 z3 => hF5 b x hb z1 z2)
            have hF6 : FrM w w5 := fun b x hb hx => hF5 b x (hw2 b x hb) (fun z => by rw [z] at hx; exact absurd hx (by decide)) (fun z => by rw [z] at hx; exact absurd hx (by decide))
            have hm5 := hR5.main
            rw [show L1.1 (1, 0, 0) = L.1 (1, 0, 0) from hth] at hm5
            refine x_pop hG (pc := 76) dX6_machine_76 rfl ?_
            refine x_aload_n hG (pc := 77) 0 dX6_machine_77 rfl rfl ?_
            refine x_getf hG (pc := 78) fl_X6_22 hm5 rfl dX6_machine_78 ?_
            refine x_callV hG hO (pc := 81) [] c_Jx4a65c_size_8abf5 lk_X6_104 (hR5.lst (id := 1) (by omega)).1 rfl rfl ⟨by decide, by decide⟩ (Nat.le_of_ble_eq_true rfl) (by rw [hG.mc]; exact Nat.le_of_ble_eq_true rfl) (by rw [hG.ms]; exact Nat.le_of_ble_eq_true rfl) dX6_machine_81 ?_
            refine ⟨_, _, _, _, _, rfl, (hR5.lst (id := 1) (by omega)).1, ?_⟩
            show X g w5 _ _ _ _ [.int (nI (nM S + 1))]
            refine x_iconst hG (pc := 84) 1 dX6_machine_84 (by decide) ?_
            refine x_isub hG (pc := 85) dX6_machine_85 ?_
            rw [nI_pred]
            refine x_ireturn hG (pc := 86) dX6_machine_86 rfl rfl (by rw [hG.mc]; exact Nat.le_of_ble_eq_true rfl) (by rw [hG.ms]; exact Nat.le_of_ble_eq_true rfl) ?_
            exact hk.ok (by simp only [oMac, h1, h6, h20, h26, h47, ↓reduceIte]) hth hR5 hF6
          · replace h47 : ¬ (nI (nM S) < 4) := h47
            refine x_throw hG hO (pc := 50) _ _ lt_146 dX6_machine_50 dX6_machine_53 dX6_machine_54 dX6_machine_56 dX6_machine_59 (by decide) (Nat.le_of_ble_eq_true rfl) (by rw [hG.mc]; exact Nat.le_of_ble_eq_true rfl) (by rw [hG.ms]; exact Nat.le_of_ble_eq_true rfl) ?_
            exact hk.bad (k := 1) (v := 0) (S1 := S) (by simp only [oMac, h1, h6, h20, h26, h47, ↓reduceIte]) rfl
        · refine x_throw hG hO (pc := 29) _ _ lt_144 dX6_machine_29 dX6_machine_32 dX6_machine_33 dX6_machine_35 dX6_machine_38 (by decide) (Nat.le_of_ble_eq_true rfl) (by rw [hG.mc]; exact Nat.le_of_ble_eq_true rfl) (by rw [hG.ms]; exact Nat.le_of_ble_eq_true rfl) ?_
          exact hk.bad (k := 0) (v := 0) (S1 := S) (by simp only [oMac, h1, h6, h20, h26, ↓reduceIte]) rfl
    · refine x_throw hG hO (pc := 9) _ _ lt_142 dX6_machine_9 dX6_machine_12 dX6_machine_13 dX6_machine_15 dX6_machine_18 (by decide) (Nat.le_of_ble_eq_true rfl) (by rw [hG.mc]; exact Nat.le_of_ble_eq_true rfl) (by rw [hG.ms]; exact Nat.le_of_ble_eq_true rfl) ?_
      exact hk.bad (k := 0) (v := 0) (S1 := S) (by simp only [oMac, h1, h6, ↓reduceIte]) rfl
set_option maxHeartbeats 400000 in
set_option maxRecDepth 100000 in
theorem c_X6_book : CtrA yX6_book cX6_book 6 (some .int) (rmk 8 5 60 324) (fun Γ av w post xpost => ∃ (L : LayC) (S : St), ∃ t f o d h, av = [.ref (thC L), .int t, .int f, .int o, .int d, .int h] ∧ RepC Γ L S w ∧ Inv S ∧ Out Γ L w post xpost [xI, xA, xS] (oBoo S t f o d h)) := by
  refine ctr_of (by decide) ?_
  rintro g av w hG hO ⟨L, S, t, f, o, d, h, rfl, hR, hI, hk⟩
  refine ⟨Nat.le_of_ble_eq_true rfl, ?_⟩
  show X g w 0 0 0 [some (.ref (thC L)), some (.int t), some (.int f), some (.int o), some (.int d), some (.int h)] []
  have hnM := hI.2.1.1
  have hnN := hI.2.1.2.1
  have hnE := hI.2.1.2.2
  refine x_aload_n hG (pc := 0) 0 dX6_book_0 rfl rfl ?_
  refine x_iload_n hG (pc := 1) 1 dX6_book_1 rfl rfl ?_
  refine x_iload_n hG (pc := 2) 2 dX6_book_2 rfl rfl ?_
  refine x_iload_n hG (pc := 3) 3 dX6_book_3 rfl rfl ?_
  refine x_callV hG hO (pc := 4) [_, _, _] c_X6_checkStretch lk_X6_99 (by first | assumption | exact hR.main) rfl rfl ⟨by decide, by decide⟩ (Nat.le_of_ble_eq_true rfl) (by rw [hG.mc]; exact Nat.le_of_ble_eq_true rfl) (by rw [hG.ms]; exact Nat.le_of_ble_eq_true rfl) dX6_book_4 ?_
  refine ⟨_, t, f, o, rfl, fun h0 => ?_, fun h1 => hk.bad (k := 0) (v := 0) (S1 := S) (by simp only [oBoo, h1]) rfl, fun h1 => hk.bad (k := 1) (v := 0) (S1 := S) (by simp only [oBoo, h1]) rfl⟩
  refine x_iload hG (pc := 7) dX6_book_7 rfl ?_
  refine x_aload_n hG (pc := 9) 0 dX6_book_9 rfl rfl ?_
  refine x_getf hG (pc := 10) fl_X6_42 hR.main rfl dX6_book_10 ?_
  refine x_iconst hG (pc := 13) 5 dX6_book_13 (by decide) ?_
  refine x_iadd hG (pc := 14) dX6_book_14 ?_
  refine x_icmp_lt hG (pc := 15) 26 dX6_book_15 (by decide) (fun h15 => ?_) (fun h15 => ?_)
  · refine x_throw hG hO (pc := 26) _ _ lt_164 dX6_book_26 dX6_book_29 dX6_book_30 dX6_book_32 dX6_book_35 (by decide) (Nat.le_of_ble_eq_true rfl) (by rw [hG.mc]; exact Nat.le_of_ble_eq_true rfl) (by rw [hG.ms]; exact Nat.le_of_ble_eq_true rfl) ?_
    exact hk.bad (k := 1) (v := 0) (S1 := S) (by simp only [oBoo, h0, h15, ↓reduceIte]) rfl
  · refine x_iload hG (pc := 18) dX6_book_18 rfl ?_
    refine x_sipush hG (pc := 20) 2000 dX6_book_20 (by decide) ?_
    refine x_icmp_le hG (pc := 23) 36 dX6_book_23 (by decide) (fun h23 => ?_) (fun h23 => ?_)
    · refine x_iload hG (pc := 36) dX6_book_36 rfl ?_
      refine x_iconst hG (pc := 38) 2 dX6_book_38 (by decide) ?_
      refine x_icmp_lt hG (pc := 39) 49 dX6_book_39 (by decide) (fun h39 => ?_) (fun h39 => ?_)
      · refine x_throw hG hO (pc := 49) _ _ lt_166 dX6_book_49 dX6_book_52 dX6_book_53 dX6_book_55 dX6_book_58 (by decide) (Nat.le_of_ble_eq_true rfl) (by rw [hG.mc]; exact Nat.le_of_ble_eq_true rfl) (by rw [hG.ms]; exact Nat.le_of_ble_eq_true rfl) ?_
        exact hk.bad (k := 1) (v := 0) (S1 := S) (by simp only [oBoo, h0, h15, h23, h39, ↓reduceIte]) rfl
      · refine x_iload hG (pc := 42) dX6_book_42 rfl ?_
        refine x_bipush hG (pc := 44) 8 dX6_book_44 (by decide) ?_
        refine x_icmp_le hG (pc := 46) 59 dX6_book_46 (by decide) (fun h46 => ?_) (fun h46 => ?_)
        · refine x_aload_n hG (pc := 59) 0 dX6_book_59 rfl rfl ?_
          refine x_getf hG (pc := 60) fl_X6_25 hR.main rfl dX6_book_60 ?_
          refine x_callV hG hO (pc := 63) [] c_Jx4a65c_size_8abf5 lk_X6_104 (hR.lst (id := 2) (by omega)).1 rfl rfl ⟨by decide, by decide⟩ (Nat.le_of_ble_eq_true rfl) (by rw [hG.mc]; exact Nat.le_of_ble_eq_true rfl) (by rw [hG.ms]; exact Nat.le_of_ble_eq_true rfl) dX6_book_63 ?_
          refine ⟨_, _, _, _, _, rfl, (hR.lst (id := 2) (by omega)).1, ?_⟩
          refine x_bipush hG (pc := 66) 16 dX6_book_66 (by decide) ?_
          refine x_icmp_lt hG (pc := 68) 81 dX6_book_68 (by decide) (fun h68 => ?_) (fun h68 => ?_)
          · replace h68 : nI (nN S) < 16 := h68
            refine x_aload_n hG (pc := 81) 0 dX6_book_81 rfl rfl ?_
            refine x_iload_n hG (pc := 82) 1 dX6_book_82 rfl rfl ?_
            refine x_iload_n hG (pc := 83) 2 dX6_book_83 rfl rfl ?_
            refine x_iload_n hG (pc := 84) 3 dX6_book_84 rfl rfl ?_
            refine x_iload hG (pc := 85) dX6_book_85 rfl ?_
            refine x_callV hG hO (pc := 87) [_, _, _, _] c_X6_isFree lk_X6_170 (by first | assumption | exact hR.main) rfl rfl ⟨by decide, by decide⟩ (Nat.le_of_ble_eq_true rfl) (by rw [hG.mc]; exact Nat.le_of_ble_eq_true rfl) (by rw [hG.ms]; exact Nat.le_of_ble_eq_true rfl) dX6_book_87 ?_
            refine ⟨L, S, t, f, o, d, rfl, hR, ?_⟩
            refine x_if_ne hG (pc := 90) 103 dX6_book_90 (by decide) (fun h90 => ?_) (fun h90 => ?_)
            · refine x_aload_n hG (pc := 103) 0 dX6_book_103 rfl rfl ?_
              refine x_getf hG (pc := 104) fl_X6_25 hR.main rfl dX6_book_104 ?_
              refine x_new hG (pc := 107) (11, nN S, 0) nw_X6_176 dX6_book_107 (by rw [hG.mc]; exact Nat.le_of_ble_eq_true rfl) (by rw [hG.ms]; exact Nat.le_of_ble_eq_true rfl) (fun q hfq hnq => ?_)
              refine x_gen (fun w1 e1 => ?_)
              have hq1 := (congrFun e1 q).trans wup_s
              refine x_dup hG (pc := 110) dX6_book_110 rfl ?_
              refine x_iload_n hG (pc := 111) 1 dX6_book_111 rfl rfl ?_
              refine x_iload_n hG (pc := 112) 2 dX6_book_112 rfl rfl ?_
              refine x_iload_n hG (pc := 113) 3 dX6_book_113 rfl rfl ?_
              refine x_iload hG (pc := 114) dX6_book_114 rfl ?_
              refine x_iload hG (pc := 116) dX6_book_116 rfl ?_
              refine x_callI hG hO (pc := 118) [_, _, _, _, _] c_X2_init lk_X6_178 rfl rfl ⟨by decide, by decide⟩ (Nat.le_of_ble_eq_true rfl) (by rw [hG.mc]; exact Nat.le_of_ble_eq_true rfl) (by rw [hG.ms]; exact Nat.le_of_ble_eq_true rfl) dX6_book_118 ?_
              refine ⟨q, _, t, f, o, d, h, (5, nN S + 3, 0), rfl, hq1, fun ql hfl hnl => ?_⟩
              refine x_gen (fun w2 e2 => ?_)
              have hqn : q ≠ ql := fun z => by subst z; rw [hq1] at hfl; cases hfl
              have hq2 := (congrFun e2 q).trans wup_s
              have hl2 := ((congrFun e2 ql).trans (wup_n (fun z => hqn z.symm))).trans wup_s
              have hw2 : ∀ (b : Nat) (z : Tg × va_E), w b = some z → w2 b = some z := by
                intro b z hb
                have hb1 : w1 b = some z := (congrFun e1 b).trans (wup_f hfq hb)
                have hbq : b ≠ q := fun y => by subst y; rw [hfq] at hb; cases hb
                exact ((congrFun e2 b).trans (wup_n hbq)).trans (wup_f hfl hb1)
              have hR2 := hR.mono hw2
              refine x_callV hG hO (pc := 121) [_] c_Jx4a65c_add_9ea2d lk_X6_121 (hR2.lst (id := 2) (by omega)).1 rfl rfl ⟨by decide, by decide⟩ (Nat.le_of_ble_eq_true rfl) (by rw [hG.mc]; exact Nat.le_of_ble_eq_true rfl) (by rw [hG.ms]; exact Nat.le_of_ble_eq_true rfl) dX6_book_121 ?_
              refine ⟨_, (5, 2, 0), (6, 2, 0), _, _, _, nN S, elC L.1 2, q, _, _, rfl, hR2.lst (id := 2) (by omega), by omega, hq2, oke_c cob_4, (by intro z; cases z), (by intro z; cases z), (by intro z; cases z), fun i hi => ⟨_, _, hR2.pos hi, oke_c cob_4, (by intro z; cases z)⟩, fun w5 e5 cap5 hAL hF5 => ?_⟩
              obtain ⟨L1, hth, hR5⟩ := hR2.aN (f := rowN t f o d h) rfl hAL (hF5 _ _ hq2 (by intro z; cases z) (by intro z; cases z)) (hF5 _ _ hl2 (fun z => absurd (congrArg (fun y : Tg => y.2.1) z) (by show ¬ nN S + 3 = 2; omega)) (by intro z; cases z)) (fun b x hb z1 z2 z3 z4 => hF5 b x hb z1 z2)
              have hF6 : FrM w w5 := fun b x hb hx => hF5 b x (hw2 b x hb) (fun z => by rw [z] at hx; exact absurd hx (by decide)) (fun z => by rw [z] at hx; exact absurd hx (by decide))
              have hm5 := hR5.main
              rw [show L1.1 (1, 0, 0) = L.1 (1, 0, 0) from hth] at hm5
              refine x_pop hG (pc := 124) dX6_book_124 rfl ?_
              refine x_aload_n hG (pc := 125) 0 dX6_book_125 rfl rfl ?_
              refine x_getf hG (pc := 126) fl_X6_25 hm5 rfl dX6_book_126 ?_
              refine x_callV hG hO (pc := 129) [] c_Jx4a65c_size_8abf5 lk_X6_104 (hR5.lst (id := 2) (by omega)).1 rfl rfl ⟨by decide, by decide⟩ (Nat.le_of_ble_eq_true rfl) (by rw [hG.mc]; exact Nat.le_of_ble_eq_true rfl) (by rw [hG.ms]; exact Nat.le_of_ble_eq_true rfl) dX6_book_129 ?_
              refine ⟨_, _, _, _, _, rfl, (hR5.lst (id := 2) (by omega)).1, ?_⟩
              show X g w5 _ _ _ _ [.int (nI (nN S + 1))]
              refine x_iconst hG (pc := 132) 1 dX6_book_132 (by decide) ?_
              refine x_isub hG (pc := 133) dX6_book_133 ?_
              rw [nI_pred]
              refine x_ireturn hG (pc := 134) dX6_book_134 rfl rfl (by rw [hG.mc]; exact Nat.le_of_ble_eq_true rfl) (by rw [hG.ms]; exact Nat.le_of_ble_eq_true rfl) ?_
              exact hk.ok (by simp only [oBoo, h0, h15, h23, h39, h46, h68, h90, ↓reduceIte]) hth hR5 hF6
            · refine x_throw hG hO (pc := 93) _ _ lt_174 dX6_book_93 dX6_book_96 dX6_book_97 dX6_book_99 dX6_book_102 (by decide) (Nat.le_of_ble_eq_true rfl) (by rw [hG.mc]; exact Nat.le_of_ble_eq_true rfl) (by rw [hG.ms]; exact Nat.le_of_ble_eq_true rfl) ?_
              exact hk.bad (k := 2) (v := 0) (S1 := S) (by simp only [oBoo, h0, h15, h23, h39, h46, h68, h90, ↓reduceIte]) rfl
          · replace h68 : ¬ (nI (nN S) < 16) := h68
            refine x_throw hG hO (pc := 71) _ _ lt_168 dX6_book_71 dX6_book_74 dX6_book_75 dX6_book_77 dX6_book_80 (by decide) (Nat.le_of_ble_eq_true rfl) (by rw [hG.mc]; exact Nat.le_of_ble_eq_true rfl) (by rw [hG.ms]; exact Nat.le_of_ble_eq_true rfl) ?_
            exact hk.bad (k := 2) (v := 0) (S1 := S) (by simp only [oBoo, h0, h15, h23, h39, h46, h68, ↓reduceIte]) rfl
        · refine x_throw hG hO (pc := 49) _ _ lt_166 dX6_book_49 dX6_book_52 dX6_book_53 dX6_book_55 dX6_book_58 (by decide) (Nat.le_of_ble_eq_true rfl) (by rw [hG.mc]; exact Nat.le_of_ble_eq_true rfl) (by rw [hG.ms]; exact Nat.le_of_ble_eq_true rfl) ?_
          exact hk.bad (k := 1) (v := 0) (S1 := S) (by simp only [oBoo, h0, h15, h23, h39, h46, ↓reduceIte]) rfl
    · refine x_throw hG hO (pc := 26) _ _ lt_164 dX6_book_26 dX6_book_29 dX6_book_30 dX6_book_32 dX6_book_35 (by decide) (Nat.le_of_ble_eq_true rfl) (by rw [hG.mc]; exact Nat.le_of_ble_eq_true rfl) (by rw [hG.ms]; exact Nat.le_of_ble_eq_true rfl) ?_
      exact hk.bad (k := 1) (v := 0) (S1 := S) (by simp only [oBoo, h0, h15, h23, ↓reduceIte]) rfl
set_option maxHeartbeats 400000 in
set_option maxRecDepth 100000 in
theorem c_X6_work : CtrA yX6_work cX6_work 8 (some .int) (rmk 8 6 60 324) (fun Γ av w post xpost => ∃ (L : LayC) (S : St), ∃ p i m, av = [.ref (thC L), .int p, .int i, .int m] ∧ RepC Γ L S w ∧ Inv S ∧ Out Γ L w post xpost [xI, xA, xS] (oWor S p i m)) := by
  refine ctr_of (by decide) ?_
  rintro g av w hG hO ⟨L, S, p, i, m, rfl, hR, hI, hk⟩
  refine ⟨Nat.le_of_ble_eq_true rfl, ?_⟩
  show X g w 0 0 0 [some (.ref (thC L)), some (.int p), some (.int i), some (.int m), none, none, none, none] []
  have hnM := hI.2.1.1
  have hnN := hI.2.1.2.1
  have hnE := hI.2.1.2.2
  refine x_aload_n hG (pc := 0) 0 dX6_work_0 rfl rfl ?_
  refine x_iload_n hG (pc := 1) 1 dX6_work_1 rfl rfl ?_
  refine x_callV hG hO (pc := 2) [_] c_X6_possessionAt lk_X6_181 (by first | assumption | exact hR.main) rfl rfl ⟨by decide, by decide⟩ (Nat.le_of_ble_eq_true rfl) (by rw [hG.mc]; exact Nat.le_of_ble_eq_true rfl) (by rw [hG.ms]; exact Nat.le_of_ble_eq_true rfl) dX6_work_2 ?_
  refine ⟨L, S, p, rfl, hR, fun k hkn hiq => ?_, fun hb => hk.bad (k := 0) (v := 0) (S1 := S) (by simp only [oWor, ixO_n (n := nN S) hb (by omega)]) rfl⟩
  subst hiq
  refine x_astore hG (pc := 5) dX6_work_5 (Nat.le_of_ble_eq_true rfl) rfl (by dsimp only [List.set]) ?_
  refine x_aload_n hG (pc := 7) 0 dX6_work_7 rfl rfl ?_
  refine x_iload_n hG (pc := 8) 3 dX6_work_8 rfl rfl ?_
  refine x_callV hG hO (pc := 9) [_] c_X6_machineAt lk_X6_151 (by first | assumption | exact hR.main) rfl rfl ⟨by decide, by decide⟩ (Nat.le_of_ble_eq_true rfl) (by rw [hG.mc]; exact Nat.le_of_ble_eq_true rfl) (by rw [hG.ms]; exact Nat.le_of_ble_eq_true rfl) dX6_work_9 ?_
  refine ⟨L, S, m, rfl, hR, fun mm hmn hiq => ?_, fun hb => hk.bad (k := 0) (v := 0) (S1 := S) (by simp only [oWor, ixO_s (n := nN S) hkn (by omega), ixO_n (n := nM S) hb (by omega)]) rfl⟩
  subst hiq
  refine x_astore hG (pc := 12) dX6_work_12 (Nat.le_of_ble_eq_true rfl) rfl (by dsimp only [List.set]) ?_
  refine x_aload_n hG (pc := 14) 0 dX6_work_14 rfl rfl ?_
  refine x_iload_n hG (pc := 15) 2 dX6_work_15 rfl rfl ?_
  refine x_callV hG hO (pc := 16) [_] c_X6_sectionAt lk_X6_64 (by first | assumption | exact hR.main) rfl rfl ⟨by decide, by decide⟩ (Nat.le_of_ble_eq_true rfl) (by rw [hG.mc]; exact Nat.le_of_ble_eq_true rfl) (by rw [hG.ms]; exact Nat.le_of_ble_eq_true rfl) dX6_work_16 ?_
  refine ⟨L, S, i, rfl, hR, fun s hsn hiq => ?_, fun hb => hk.bad (k := 0) (v := 0) (S1 := S) (by simp only [oWor, ixO_s (n := nN S) hkn (by omega), ixO_s (n := nM S) hmn (by omega), ixO_n (n := 20) hb (by decide)]) rfl⟩
  subst hiq
  have hIk := hI.2.2.2.1 k hkn
  have hpl : hsum (hrC S k) (nJ (gS S k)) = gS S k 7 := hIk.2.2.2.2.symm
  refine x_astore hG (pc := 19) dX6_work_19 (Nat.le_of_ble_eq_true rfl) rfl (by dsimp only [List.set]) ?_
  refine x_aload hG (pc := 21) dX6_work_21 rfl ?_
  refine x_iload_n hG (pc := 23) 2 dX6_work_23 rfl rfl ?_
  refine x_callV hG hO (pc := 24) [_] c_X2_has lk_X6_185 (hR.pos hkn) rfl rfl ⟨by decide, by decide⟩ (Nat.le_of_ble_eq_true rfl) (by rw [hG.mc]; exact Nat.le_of_ble_eq_true rfl) (by rw [hG.ms]; exact Nat.le_of_ble_eq_true rfl) dX6_work_24 ?_
  refine ⟨_, _, _, _, _, _, _, _, _, _, _, _, nI s, rfl, hR.pos hkn, ?_⟩
  refine x_if_ne hG (pc := 27) 40 dX6_work_27 (by decide) (fun h27 => ?_) (fun h27 => ?_)
  · refine x_aload hG (pc := 40) dX6_work_40 rfl ?_
    refine x_getf hG (pc := 42) fl_X6_191 (hR.pos hkn) rfl dX6_work_42 ?_
    refine x_if_eq hG (pc := 45) 58 dX6_work_45 (by decide) (fun h45 => ?_) (fun h45 => ?_)
    · refine x_aload hG (pc := 58) dX6_work_58 rfl ?_
      refine x_getf hG (pc := 60) fl_X6_196 (hR.pos hkn) rfl dX6_work_60 ?_
      refine x_callV hG hO (pc := 63) [] c_Jx4a65c_size_8abf5 lk_X6_104 (hR.lst (id := k + 3) (by omega)).1 rfl rfl ⟨by decide, by decide⟩ (Nat.le_of_ble_eq_true rfl) (by rw [hG.mc]; exact Nat.le_of_ble_eq_true rfl) (by rw [hG.ms]; exact Nat.le_of_ble_eq_true rfl) dX6_work_63 ?_
      refine ⟨_, _, _, _, _, rfl, (hR.lst (id := k + 3) (by omega)).1, ?_⟩
      refine x_bipush hG (pc := 66) 6 dX6_work_66 (by decide) ?_
      refine x_icmp_lt hG (pc := 68) 81 dX6_work_68 (by decide) (fun h68 => ?_) (fun h68 => ?_)
      · have hjn : nJ (gS S k) < 6 := by
          rcases Nat.lt_or_ge (nJ (gS S k)) 6 with q | q
          · exact q
          · exact absurd h68 (nI_nlt (b := 6) q (by have := hR.n30 (id := k + 3) (by omega); have e : lnC S (k + 3) = nJ (gS S k) := rfl; omega))
        replace h68 : nI (nJ (gS S k)) < 6 := h68
        refine x_aload hG (pc := 81) dX6_work_81 rfl ?_
        refine x_aload hG (pc := 83) dX6_work_83 rfl ?_
        refine x_getf hG (pc := 85) fl_X6_201 (hR.mac hmn) rfl dX6_work_85 ?_
        refine x_callV hG hO (pc := 88) [_] c_X3_hoursFor lk_X6_204 (hR.sec hsn) rfl rfl ⟨by decide, by decide⟩ (Nat.le_of_ble_eq_true rfl) (by rw [hG.mc]; exact Nat.le_of_ble_eq_true rfl) (by rw [hG.ms]; exact Nat.le_of_ble_eq_true rfl) dX6_work_88 ?_
        refine ⟨_, _, _, _, _, _, _, _, rfl, hR.sec hsn, ?_⟩
        refine x_istore hG (pc := 91) dX6_work_91 (Nat.le_of_ble_eq_true rfl) rfl (by dsimp only [List.set]) ?_
        refine x_aload hG (pc := 93) dX6_work_93 rfl ?_
        refine x_callV hG hO (pc := 95) [] c_X2_hoursPlanned lk_X6_208 (hR.pos hkn) rfl rfl ⟨by decide, by decide⟩ (Nat.le_of_ble_eq_true rfl) (by rw [hG.mc]; exact Nat.le_of_ble_eq_true rfl) (by rw [hG.ms]; exact Nat.le_of_ble_eq_true rfl) dX6_work_95 ?_
        refine ⟨_, _, _, _, _, _, _, _, _, _, _, _, _, _, _, _, _, _, _, _, _, _, rfl, hR.pos hkn, hR.lst (id := k + 3) (by omega), hR.wrk hkn, ?_⟩
        show X g w _ _ _ _ (.int (hsum (hrC S k) (nJ (gS S k))) :: _)
        rw [hpl]
        refine x_iload hG (pc := 98) dX6_work_98 rfl ?_
        refine x_iadd hG (pc := 100) dX6_work_100 ?_
        refine x_aload hG (pc := 101) dX6_work_101 rfl ?_
        refine x_getf hG (pc := 103) fl_X6_211 (hR.pos hkn) rfl dX6_work_103 ?_
        refine x_icmp_le hG (pc := 106) 119 dX6_work_106 (by decide) (fun h106 => ?_) (fun h106 => ?_)
        · refine x_aload_n hG (pc := 119) 0 dX6_work_119 rfl rfl ?_
          refine x_aload hG (pc := 120) dX6_work_120 rfl ?_
          refine x_aload hG (pc := 122) dX6_work_122 rfl ?_
          refine x_callV hG hO (pc := 124) [_, _] c_X6_isElsewhere lk_X6_216 (by first | assumption | exact hR.main) rfl rfl ⟨by decide, by decide⟩ (Nat.le_of_ble_eq_true rfl) (by rw [hG.mc]; exact Nat.le_of_ble_eq_true rfl) (by rw [hG.ms]; exact Nat.le_of_ble_eq_true rfl) dX6_work_124 ?_
          refine ⟨L, S, _, k, rfl, hR, hkn, ?_⟩
          rw [hR.elI hI.job hmn]
          refine x_if_eq hG (pc := 127) 140 dX6_work_127 (by decide) (fun h127 => ?_) (fun h127 => ?_)
          · refine x_aload hG (pc := 140) dX6_work_140 rfl ?_
            refine x_getf hG (pc := 142) fl_X6_196 (hR.pos hkn) rfl dX6_work_142 ?_
            refine x_new hG (pc := 145) (12, k, nJ (gS S k)) nw_X6_222 dX6_work_145 (by rw [hG.mc]; exact Nat.le_of_ble_eq_true rfl) (by rw [hG.ms]; exact Nat.le_of_ble_eq_true rfl) (fun q hfq hnq => ?_)
            refine x_gen (fun w1 e1 => ?_)
            have hq1 := (congrFun e1 q).trans wup_s
            refine x_dup hG (pc := 148) dX6_work_148 rfl ?_
            refine x_aload hG (pc := 149) dX6_work_149 rfl ?_
            refine x_aload hG (pc := 151) dX6_work_151 rfl ?_
            refine x_iload hG (pc := 153) dX6_work_153 rfl ?_
            refine x_callI hG hO (pc := 155) [_, _, _] c_X5_init lk_X6_224 rfl rfl ⟨by decide, by decide⟩ (Nat.le_of_ble_eq_true rfl) (by rw [hG.mc]; exact Nat.le_of_ble_eq_true rfl) (by rw [hG.ms]; exact Nat.le_of_ble_eq_true rfl) dX6_work_155 ?_
            refine ⟨q, _, _, _, _, _, _, _, rfl, hq1, ?_⟩
            refine x_gen (fun w2 e2 => ?_)
            have hq2 := (congrFun e2 q).trans wup_s
            have hw2 := ext2 hfq e1 e2
            have hR2 := hR.mono hw2
            refine x_callV hG hO (pc := 158) [_] c_Jx4a65c_add_9ea2d lk_X6_121 (hR2.lst (id := k + 3) (by omega)).1 rfl rfl ⟨by decide, by decide⟩ (Nat.le_of_ble_eq_true rfl) (by rw [hG.mc]; exact Nat.le_of_ble_eq_true rfl) (by rw [hG.ms]; exact Nat.le_of_ble_eq_true rfl) dX6_work_158 ?_
            refine ⟨_, (5, k + 3, 0), (6, k + 3, 0), _, _, _, nJ (gS S k), elC L.1 (k + 3), q, _, _, rfl, hR2.lst (id := k + 3) (by omega), by omega, hq2, oke_c cob_7, (by intro z; cases z), (by intro z; cases z), (by intro z; cases z), fun i hi => ⟨(12, k, i), _, hR2.1 (12, k, i) _ (Or.inr (Or.inl rfl)) ((if_pos hkn).trans (if_pos hi)), oke_c cob_7, (by intro z; cases z)⟩, fun w5 e5 cap5 hAL hF5 => ?_⟩
            have hrJ : ∀ x, x ≠ 6 → x ≠ 7 → x < 10 + 3 * nJ (gS S k) → rowJ S k s mm (s_hours (mS S mm 0) (sS S s 5)) x = gS S k x := by
              intro x z1 z2 z3
              unfold rowJ
              rw [rset_n z2, rset_n z1, rset_n (by omega), rset_n (by omega), rset_n (by omega)]
            have r6 : rowJ S k s mm (s_hours (mS S mm 0) (sS S s 5)) 6 = nI (nJ (gS S k) + 1) := by
              unfold rowJ
              rw [rset_n (by decide), rset_s]
            have rj : nJ (rowJ S k s mm (s_hours (mS S mm 0) (sS S s 5))) = nJ (gS S k) + 1 := by
              show (rowJ S k s mm (s_hours (mS S mm 0) (sS S s 5)) 6).toNatClampNeg = _
              rw [r6, nI_clamp (by omega)]
            have r10 : rowJ S k s mm (s_hours (mS S mm 0) (sS S s 5)) (10 + 3 * nJ (gS S k)) = nI s := by
              unfold rowJ
              rw [rset_n (by omega), rset_n (by omega), rset_n (by omega), rset_n (by omega), rset_s]
            have r11 : rowJ S k s mm (s_hours (mS S mm 0) (sS S s 5)) (11 + 3 * nJ (gS S k)) = nI mm := by
              unfold rowJ
              rw [rset_n (by omega), rset_n (by omega), rset_n (by omega), rset_s]
            have r12 : rowJ S k s mm (s_hours (mS S mm 0) (sS S s 5)) (12 + 3 * nJ (gS S k)) = s_hours (mS S mm 0) (sS S s 5) := by
              unfold rowJ
              rw [rset_n (by omega), rset_n (by omega), rset_s]
            obtain ⟨L1, hth, h11k, hR5⟩ := hR2.aJ hkn rfl rj hrJ hAL (by rw [r10, r11, r12, nI_clamp (by omega), nI_clamp (by omega)]; exact hF5 _ _ hq2 (by intro z; cases z) (by intro z; cases z)) (fun b x hb z1 z2 z3 => hF5 b x hb z1 z2)
            have hF6 : FrM w w5 := fun b x hb hx => hF5 b x (hw2 b x hb) (fun z => by rw [z] at hx; exact absurd (show 50 ≤ 5 from hx) (by decide)) (fun z => by rw [z] at hx; exact absurd (show 50 ≤ 6 from hx) (by decide))
            have hp5 := hR5.pos (k := k) hkn
            rw [h11k] at hp5
            have e5r : gS (setN S k (rowJ S k s mm (s_hours (mS S mm 0) (sS S s 5)))) k = rowJ S k s mm (s_hours (mS S mm 0) (sS S s 5)) := rset_s
            have hsm : hsum (hrC (setN S k (rowJ S k s mm (s_hours (mS S mm 0) (sS S s 5)))) k) (nJ (gS (setN S k (rowJ S k s mm (s_hours (mS S mm 0) (sS S s 5)))) k)) = gS S k 7 + s_hours (mS S mm 0) (sS S s 5) := by
              rw [e5r, rj, hsum]
              have e6 : hsum (hrC (setN S k (rowJ S k s mm (s_hours (mS S mm 0) (sS S s 5)))) k) (nJ (gS S k)) = hsum (hrC S k) (nJ (gS S k)) := hsum_c _ (fun j hj => by
                show gS (setN S k (rowJ S k s mm (s_hours (mS S mm 0) (sS S s 5)))) k (12 + 3 * j) = gS S k (12 + 3 * j)
                rw [e5r, hrJ _ (by omega) (by omega) (by omega)])
              rw [e6, hpl]
              show gS S k 7 + gS (setN S k (rowJ S k s mm (s_hours (mS S mm 0) (sS S s 5)))) k (12 + 3 * nJ (gS S k)) = _
              rw [e5r, r12]
            refine x_pop hG (pc := 161) dX6_work_161 rfl ?_
            refine x_aload hG (pc := 162) dX6_work_162 rfl ?_
            refine x_callV hG hO (pc := 164) [] c_X2_hoursPlanned lk_X6_208 hp5 rfl rfl ⟨by decide, by decide⟩ (Nat.le_of_ble_eq_true rfl) (by rw [hG.mc]; exact Nat.le_of_ble_eq_true rfl) (by rw [hG.ms]; exact Nat.le_of_ble_eq_true rfl) dX6_work_164 ?_
            refine ⟨_, _, _, _, _, _, _, _, _, _, _, _, _, _, _, _, _, _, _, _, _, _, rfl, hp5, hR5.lst (id := k + 3) (by show k + 3 < 3 + nN S; omega), hR5.wrk (k := k) hkn, ?_⟩
            show X g w5 _ _ _ _ (.int (hsum (hrC _ k) (nJ (gS _ k))) :: _)
            rw [hsm]
            refine x_ireturn hG (pc := 167) dX6_work_167 rfl rfl (by rw [hG.mc]; exact Nat.le_of_ble_eq_true rfl) (by rw [hG.ms]; exact Nat.le_of_ble_eq_true rfl) ?_
            exact hk.ok (by simp only [oWor, ixO_s (n := nN S) hkn (by omega), ixO_s (n := nM S) hmn (by omega), ixO_s (n := 20) hsn (by decide), h27, h45, h68, h106, h127, ↓reduceIte]) hth hR5 hF6
          · refine x_throw hG hO (pc := 130) _ _ lt_220 dX6_work_130 dX6_work_133 dX6_work_134 dX6_work_136 dX6_work_139 (by decide) (Nat.le_of_ble_eq_true rfl) (by rw [hG.mc]; exact Nat.le_of_ble_eq_true rfl) (by rw [hG.ms]; exact Nat.le_of_ble_eq_true rfl) ?_
            exact hk.bad (k := 2) (v := 0) (S1 := S) (by simp only [oWor, ixO_s (n := nN S) hkn (by omega), ixO_s (n := nM S) hmn (by omega), ixO_s (n := 20) hsn (by decide), h27, h45, h68, h106, h127, ↓reduceIte]) rfl
        · refine x_throw hG hO (pc := 109) _ _ lt_214 dX6_work_109 dX6_work_112 dX6_work_113 dX6_work_115 dX6_work_118 (by decide) (Nat.le_of_ble_eq_true rfl) (by rw [hG.mc]; exact Nat.le_of_ble_eq_true rfl) (by rw [hG.ms]; exact Nat.le_of_ble_eq_true rfl) ?_
          exact hk.bad (k := 2) (v := 0) (S1 := S) (by simp only [oWor, ixO_s (n := nN S) hkn (by omega), ixO_s (n := nM S) hmn (by omega), ixO_s (n := 20) hsn (by decide), h27, h45, h68, h106, ↓reduceIte]) rfl
      · replace h68 : ¬ nI (nJ (gS S k)) < 6 := h68
        refine x_throw hG hO (pc := 71) _ _ lt_199 dX6_work_71 dX6_work_74 dX6_work_75 dX6_work_77 dX6_work_80 (by decide) (Nat.le_of_ble_eq_true rfl) (by rw [hG.mc]; exact Nat.le_of_ble_eq_true rfl) (by rw [hG.ms]; exact Nat.le_of_ble_eq_true rfl) ?_
        exact hk.bad (k := 2) (v := 0) (S1 := S) (by simp only [oWor, ixO_s (n := nN S) hkn (by omega), ixO_s (n := nM S) hmn (by omega), ixO_s (n := 20) hsn (by decide), h27, h45, h68, ↓reduceIte]) rfl
    · refine x_throw hG hO (pc := 48) _ _ lt_194 dX6_work_48 dX6_work_51 dX6_work_52 dX6_work_54 dX6_work_57 (by decide) (Nat.le_of_ble_eq_true rfl) (by rw [hG.mc]; exact Nat.le_of_ble_eq_true rfl) (by rw [hG.ms]; exact Nat.le_of_ble_eq_true rfl) ?_
      exact hk.bad (k := 2) (v := 0) (S1 := S) (by simp only [oWor, ixO_s (n := nN S) hkn (by omega), ixO_s (n := nM S) hmn (by omega), ixO_s (n := 20) hsn (by decide), h27, h45, ↓reduceIte]) rfl
  · refine x_throw hG hO (pc := 30) _ _ lt_189 dX6_work_30 dX6_work_33 dX6_work_34 dX6_work_36 dX6_work_39 (by decide) (Nat.le_of_ble_eq_true rfl) (by rw [hG.mc]; exact Nat.le_of_ble_eq_true rfl) (by rw [hG.ms]; exact Nat.le_of_ble_eq_true rfl) ?_
    exact hk.bad (k := 1) (v := 0) (S1 := S) (by simp only [oWor, ixO_s (n := nN S) hkn (by omega), ixO_s (n := nM S) hmn (by omega), ixO_s (n := 20) hsn (by decide), h27, ↓reduceIte]) rfl
