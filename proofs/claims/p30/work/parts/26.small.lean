/-! Machine, Work, Measure, Possession -/
theorem nat_down {P : Nat → Prop} (n : Nat) (h : ∀ i, i ≤ n → (∀ j, i < j → j ≤ n → P j) → P i) : ∀ i, i ≤ n → P i := by
  have key : ∀ k i, i ≤ n → n - i ≤ k → P i := by
    intro k
    induction k with
    | zero => exact fun i hi hk => h i hi (fun j h1 h2 => absurd h1 (by omega))
    | succ k ih => exact fun i hi hk => h i hi (fun j h1 h2 => ih j h2 (by omega))
  exact fun i hi => key n i hi (by omega)
theorem vp_in_lt {x m : Int32} {n : Nat} (hm : m.toInt = n) (h0 : ¬ x < 0) (h1 : x < m) : vp_in x n := by
  refine vp_in_iff.mpr ⟨?_, ?_⟩
  · simpa using Int32.le_iff_toInt_le.mp (Int32.not_lt.mp h0)
  · rw [← hm]
    exact Int32.lt_iff_toInt_lt.mp h1
theorem nb01 {v : Int32} (h : v = 0 ∨ v = 1) : narrow .boolean (.int v) = .int v := by
  rcases h with rfl | rfl <;> rfl
theorem fb01 {v : Int32} (h : v = 0 ∨ v = 1) : fits .boolean (.int v) = true := by
  rcases h with rfl | rfl <;> rfl
theorem x_areturnR {g : Cxt} {cc : ByteArray} {own nm : String} {rt : Option FieldType} {rm : Room} (hG : Cx g cc own nm rt rm) {w : Wd} {kc ks pc : Nat} {lv : List (Option Value)} {r : Option Nat} {ty : FieldType} (hd : decode cc pc = .ok (.areturn, 1)) (hrt : rt = some ty) (hty : (∃ n, ty = .object n) ∨ ∃ t, ty = .array t) (hkc : kc ≤ gM g) (hks : ks ≤ gN g) (k : gP g (some (va_rf r)) w) : X g w kc ks pc lv [va_rf r] := by
  cases r with
  | none => exact x_areturnN hG hd hrt hty hkc hks k
  | some q => exact x_areturn hG hd hrt hty hkc hks k
abbrev oM (kind life did failed : Int32) : va_E := .inr (2, [.int kind, .int life, .int did, .int failed])
abbrev oW (sec mac : Nat) (hr : Int32) : va_E := .inr (7, [.ref sec, .ref mac, .int hr])
abbrev oE (track drift aligned : Int32) (wr : Nat) : va_E := .inr (3, [.int track, .int drift, .int aligned, .ref wr])
abbrev aV (K : Nat → ClassId) (n : Nat) (f : Nat → Option Nat) : va_E := .inl (K 3, n, .inr (.inr (.inr (.inr f))))
abbrev oP (track fr to day hours : Int32) (wk : Nat) (st m1 m2 ov : Int32) : va_E := .inr (4, [.int track, .int fr, .int to, .int day, .int hours, .ref wk, .int st, .int m1, .int m2, .int ov])
def rm10 (x : Int32) : Int32 := x - x / 10 * 10
def s_wf (track : Int32) (f : Nat → Option Nat) (sec less : Int32) : Option Nat := if sec / 10 = track then (if rm10 sec - less < 0 then none else if rm10 sec - less < 10 then f (rm10 sec - less).toNatClampNeg else none) else none
def s_has (track fr to sec : Int32) : Int32 := if sec / 10 = track then (if rm10 sec < fr then 0 else if to < rm10 sec then 0 else 1) else 0
def s_meets (track fr to ot ofr oto : Int32) : Int32 := if track = ot then (if oto < fr then 0 else if to < ofr then 0 else 1) else 0
def s_cot (st : Int32) : Int32 := if st = 0 then 1 else if st = 1 then 1 else 0
def hsum (hr : Nat → Int32) : Nat → Int32
  | 0 => 0
  | i + 1 => hsum hr i + hr i
def htS (ma : Nat → Nat) (hr : Nat → Int32) (tool : Nat) (l0 : Int32) : Nat → Int32 × Int32
  | 0 => (l0, 0)
  | i + 1 => if ma i = tool then (if hr i ≤ (htS ma hr tool l0 i).1 then ((htS ma hr tool l0 i).1 - hr i, (htS ma hr tool l0 i).2 + hr i) else (0, (htS ma hr tool l0 i).2 + (hr i + 2))) else htS ma hr tool l0 i
/-- the works of a list -/
def WK (w : Wd) (n : Nat) (el sa ma : Nat → Nat) (hr : Nat → Int32) : Prop := ∀ i, i < n → ∃ t, w (el i) = some (t, oW (sa i) (ma i) (hr i))
def uses (n : Nat) (ma : Nat → Nat) (tool : Nat) : Int32 := if ∃ i, i < n ∧ ma i = tool then 1 else 0
set_option maxHeartbeats 400000 in
set_option maxRecDepth 100000 in
theorem c_X0_init : CtrA yX0_init cX0_init 3 none (rmk 1 0 0 20) (fun Γ av w post _ => ∃ a t k l k0 l0 d0 f0, av = [.ref a, .int k, .int l] ∧ w a = some (t, oM k0 l0 d0 f0) ∧ post none (wup w a (t, oM k l 0 0))) := by
  refine ctr_of (by decide) ?_
  rintro g av w hG hO ⟨a, t, k, l, k0, l0, d0, f0, rfl, ha, hk⟩
  refine ⟨Nat.le_of_ble_eq_true rfl, ?_⟩
  show X g w 0 0 0 [some (.ref a), some (.int k), some (.int l)] []
  refine x_aload_n hG (pc := 0) 0 dX0_init_0 rfl rfl ?_
  refine x_objInit hG (pc := 1) oi_X0_1 oi_i oi_c dX0_init_1 (by decide) (Nat.le_of_ble_eq_true rfl) (Nat.le_of_ble_eq_true rfl) ?_
  refine x_aload_n hG (pc := 4) 0 dX0_init_4 rfl rfl ?_
  refine x_iconst hG (pc := 5) 0 dX0_init_5 (by decide) ?_
  refine x_putf hG (pc := 6) fl_X0_7 fw_2 ft_2_2 ha (Nat.le_of_ble_eq_true rfl) rfl rfl (by dsimp only [List.set]) dX0_init_6 ?_
  refine x_gen (fun w1 e1 => ?_)
  have ha1 := (congrFun e1 a).trans wup_s
  refine x_aload_n hG (pc := 9) 0 dX0_init_9 rfl rfl ?_
  refine x_iconst hG (pc := 10) 0 dX0_init_10 (by decide) ?_
  refine x_putf hG (pc := 11) fl_X0_13 fw_2 ft_2_3 ha1 (Nat.le_of_ble_eq_true rfl) rfl rfl (by dsimp only [List.set]) dX0_init_11 ?_
  refine x_gen (fun w2 e2 => ?_)
  have ha2 := (congrFun e2 a).trans wup_s
  refine x_aload_n hG (pc := 14) 0 dX0_init_14 rfl rfl ?_
  refine x_iload_n hG (pc := 15) 1 dX0_init_15 rfl rfl ?_
  refine x_putfF hG (pc := 16) flp_X0_16 fw_2 ft_2_0 ha2 (Nat.le_of_ble_eq_true rfl) rfl rfl (by dsimp only [List.set]) dX0_init_16 rfl ?_
  refine x_gen (fun w3 e3 => ?_)
  have ha3 := (congrFun e3 a).trans wup_s
  refine x_aload_n hG (pc := 19) 0 dX0_init_19 rfl rfl ?_
  refine x_iload_n hG (pc := 20) 2 dX0_init_20 rfl rfl ?_
  refine x_putf hG (pc := 21) fl_X0_19 fw_2 ft_2_1 ha3 (Nat.le_of_ble_eq_true rfl) rfl rfl (by dsimp only [List.set]) dX0_init_21 ?_
  refine x_gen (fun w4 e4 => ?_)
  have ha4 := (congrFun e4 a).trans wup_s
  refine x_return hG (pc := 24) dX0_init_24 rfl (by rw [hG.mc]; exact Nat.le_of_ble_eq_true rfl) (by rw [hG.ms]; exact Nat.le_of_ble_eq_true rfl) ?_
  subst e4 e3 e2 e1
  simp only [wup_w]
  exact hk
set_option maxHeartbeats 400000 in
set_option maxRecDepth 100000 in
theorem c_X5_init : CtrA yX5_init cX5_init 4 none (rmk 1 0 0 20) (fun Γ av w post _ => ∃ a t s m h s0 m0 h0, av = [.ref a, .ref s, .ref m, .int h] ∧ w a = some (t, .inr (7, [s0, m0, .int h0])) ∧ post none (wup w a (t, oW s m h))) := by
  refine ctr_of (by decide) ?_
  rintro g av w hG hO ⟨a, t, s, m, h, s0, m0, h0, rfl, ha, hk⟩
  refine ⟨Nat.le_of_ble_eq_true rfl, ?_⟩
  show X g w 0 0 0 [some (.ref a), some (.ref s), some (.ref m), some (.int h)] []
  refine x_aload_n hG (pc := 0) 0 dX5_init_0 rfl rfl ?_
  refine x_objInit hG (pc := 1) oi_X5_1 oi_i oi_c dX5_init_1 (by decide) (Nat.le_of_ble_eq_true rfl) (Nat.le_of_ble_eq_true rfl) ?_
  refine x_aload_n hG (pc := 4) 0 dX5_init_4 rfl rfl ?_
  refine x_aload_n hG (pc := 5) 1 dX5_init_5 rfl rfl ?_
  refine x_putfF hG (pc := 6) flp_X5_7 fw_7 ft_7_0 ha (Nat.le_of_ble_eq_true rfl) rfl rfl (by dsimp only [List.set]) dX5_init_6 rfl ?_
  refine x_gen (fun w1 e1 => ?_)
  have ha1 := (congrFun e1 a).trans wup_s
  refine x_aload_n hG (pc := 9) 0 dX5_init_9 rfl rfl ?_
  refine x_aload_n hG (pc := 10) 2 dX5_init_10 rfl rfl ?_
  refine x_putfF hG (pc := 11) flp_X5_13 fw_7 ft_7_1 ha1 (Nat.le_of_ble_eq_true rfl) rfl rfl (by dsimp only [List.set]) dX5_init_11 rfl ?_
  refine x_gen (fun w2 e2 => ?_)
  have ha2 := (congrFun e2 a).trans wup_s
  refine x_aload_n hG (pc := 14) 0 dX5_init_14 rfl rfl ?_
  refine x_iload_n hG (pc := 15) 3 dX5_init_15 rfl rfl ?_
  refine x_putfF hG (pc := 16) flp_X5_17 fw_7 ft_7_2 ha2 (Nat.le_of_ble_eq_true rfl) rfl rfl (by dsimp only [List.set]) dX5_init_16 rfl ?_
  refine x_gen (fun w3 e3 => ?_)
  have ha3 := (congrFun e3 a).trans wup_s
  refine x_return hG (pc := 19) dX5_init_19 rfl (by rw [hG.mc]; exact Nat.le_of_ble_eq_true rfl) (by rw [hG.ms]; exact Nat.le_of_ble_eq_true rfl) ?_
  subst e3 e2 e1
  simp only [wup_w]
  exact hk
set_option maxHeartbeats 400000 in
set_option maxRecDepth 100000 in
theorem c_X1_init : CtrA yX1_init cX1_init 3 none (rmk 1 1 10 20) (fun Γ av w post _ => ∃ a t tw tr dr, av = [.ref a, .int tr, .int dr] ∧ w a = some (t, .inr (3, [.int 0, .int 0, .int 0, .null])) ∧ ∀ q, w q = none → n0A Γ q → post none (wup (wup w q (tw, aV Γ.2.1 10 (fun _ => none))) a (t, oE tr dr 0 q))) := by
  refine ctr_of (by decide) ?_
  rintro g av w hG hO ⟨a, t, tw, tr, dr, rfl, ha, hk⟩
  refine ⟨Nat.le_of_ble_eq_true rfl, ?_⟩
  show X g w 0 0 0 [some (.ref a), some (.int tr), some (.int dr)] []
  refine x_aload_n hG (pc := 0) 0 dX1_init_0 rfl rfl ?_
  refine x_objInit hG (pc := 1) oi_X1_3 oi_i oi_c dX1_init_1 (by decide) (Nat.le_of_ble_eq_true rfl) (Nat.le_of_ble_eq_true rfl) ?_
  refine x_aload_n hG (pc := 4) 0 dX1_init_4 rfl rfl ?_
  refine x_iconst hG (pc := 5) 0 dX1_init_5 (by decide) ?_
  refine x_putf hG (pc := 6) fl_X1_9 fw_3 ft_3_2 ha (Nat.le_of_ble_eq_true rfl) rfl rfl (by dsimp only [List.set]) dX1_init_6 ?_
  refine x_gen (fun w1 e1 => ?_)
  have ha1 := (congrFun e1 a).trans wup_s
  refine x_aload_n hG (pc := 9) 0 dX1_init_9 rfl rfl ?_
  refine x_bipush hG (pc := 10) 10 dX1_init_10 (by decide) ?_
  refine x_newV hG (pc := 12) tw ckl_X1_15 (by decide) (n := 10) (by decide) (by decide) dX1_init_12 (by rw [hG.mc]; exact Nat.le_of_ble_eq_true rfl) (by rw [hG.ms]; exact Nat.le_of_ble_eq_true rfl) (fun q hfq hnq => ?_)
  refine x_gen (fun v1 z1 => ?_)
  have hq1 := (congrFun z1 q).trans wup_s
  have hav := (congrFun z1 a).trans (wup_f hfq ha1)
  refine x_putfF hG (pc := 15) flp_X1_17 fw_3 ft_3_3 hav (Nat.le_of_ble_eq_true rfl) rfl rfl (by dsimp only [List.set]) dX1_init_15 rfl ?_
  refine x_gen (fun w2 e2 => ?_)
  have ha2 := (congrFun e2 a).trans wup_s
  refine x_aload_n hG (pc := 18) 0 dX1_init_18 rfl rfl ?_
  refine x_iload_n hG (pc := 19) 1 dX1_init_19 rfl rfl ?_
  refine x_putfF hG (pc := 20) flp_X1_21 fw_3 ft_3_0 ha2 (Nat.le_of_ble_eq_true rfl) rfl rfl (by dsimp only [List.set]) dX1_init_20 rfl ?_
  refine x_gen (fun w3 e3 => ?_)
  have ha3 := (congrFun e3 a).trans wup_s
  refine x_aload_n hG (pc := 23) 0 dX1_init_23 rfl rfl ?_
  refine x_iload_n hG (pc := 24) 2 dX1_init_24 rfl rfl ?_
  refine x_putfF hG (pc := 25) flp_X1_25 fw_3 ft_3_1 ha3 (Nat.le_of_ble_eq_true rfl) rfl rfl (by dsimp only [List.set]) dX1_init_25 rfl ?_
  refine x_gen (fun w4 e4 => ?_)
  have ha4 := (congrFun e4 a).trans wup_s
  refine x_return hG (pc := 28) dX1_init_28 rfl (by rw [hG.mc]; exact Nat.le_of_ble_eq_true rfl) (by rw [hG.ms]; exact Nat.le_of_ble_eq_true rfl) ?_
  have hfw : w q = none := by
    have := hfq
    rw [e1, wup_n (fun z => by subst z; rw [ha1] at hfq; cases hfq)] at this
    exact this
  have hne : a ≠ q := fun z => by subst z; rw [ha1] at hfq; cases hfq
  subst e4 e3 e2 z1 e1
  simp only [wup_w]
  rw [wup_c hne, wup_w]
  exact hk q hfw hnq
set_option maxHeartbeats 400000 in
set_option maxRecDepth 100000 in
theorem c_X1_write : CtrA yX1_write cX1_write 4 none (rmk 2 1 3 43) (fun Γ av w post _ => ∃ a t tr dr al wr tw f k v tv x y z tq, av = [.ref a, .int (nI k), .ref v] ∧ w a = some (t, oE tr dr al wr) ∧ w wr = some (tw, aV Γ.2.1 10 f) ∧ w v = some (tv, oV x y z) ∧ k < 10 ∧ ∀ q, w q = none → n0A Γ q → post none (wup (wup w q (tq, oV x (if 5 ≤ y then y else 0) z)) wr (tw, aV Γ.2.1 10 (va_up f k (some q))))) := by
  refine ctr_of (by decide) ?_
  rintro g av w hG hO ⟨a, t, tr, dr, al, wr, tw, f, k, v, tv, x, y, z, tq, rfl, ha, hw, hv, p1, hk⟩
  refine ⟨Nat.le_of_ble_eq_true rfl, ?_⟩
  show X g w 0 0 0 [some (.ref a), some (.int (nI k)), some (.ref v), none] []
  refine x_iload_n hG (pc := 0) 1 dX1_write_0 rfl rfl ?_
  refine x_if_lt hG (pc := 1) 49 dX1_write_1 (by decide) (fun h1 => ?_) (fun h1 => ?_)
  · exact absurd h1 (nI_pos (by omega))
  · refine x_iload_n hG (pc := 4) 1 dX1_write_4 rfl rfl ?_
    refine x_bipush hG (pc := 5) 10 dX1_write_5 (by decide) ?_
    refine x_icmp_ge hG (pc := 7) 49 dX1_write_7 (by decide) (fun h7 => ?_) (fun h7 => ?_)
    · exact absurd h7 (nI_ge (a := k) (b := 10) p1 (by decide))
    · refine x_aload_n hG (pc := 10) 2 dX1_write_10 rfl rfl ?_
      refine x_getf hG (pc := 11) fl_X1_28 (by first | assumption | exact hR.main) rfl dX1_write_11 ?_
      refine x_iconst hG (pc := 14) 5 dX1_write_14 (by decide) ?_
      refine x_icmp_ge hG (pc := 15) 22 dX1_write_15 (by decide) (fun h15 => ?_) (fun h15 => ?_)
      · refine x_aload_n hG (pc := 22) 2 dX1_write_22 rfl rfl ?_
        refine x_getf hG (pc := 23) fl_X1_28 (by first | assumption | exact hR.main) rfl dX1_write_23 ?_
        refine x_istore_n hG (pc := 26) 3 dX1_write_26 rfl (Nat.le_of_ble_eq_true rfl) rfl (by dsimp only [List.set]) ?_
        refine x_aload_n hG (pc := 27) 0 dX1_write_27 rfl rfl ?_
        refine x_getf hG (pc := 28) fl_X1_17 (by first | assumption | exact hR.main) rfl dX1_write_28 ?_
        refine x_iload_n hG (pc := 31) 1 dX1_write_31 rfl rfl ?_
        refine x_new hG (pc := 32) tq nw_X1_15 dX1_write_32 (by rw [hG.mc]; exact Nat.le_of_ble_eq_true rfl) (by rw [hG.ms]; exact Nat.le_of_ble_eq_true rfl) (fun q hfq hnq => ?_)
        refine x_gen (fun w1 e1 => ?_)
        have hq1 := (congrFun e1 q).trans wup_s
        have hw1 := (congrFun e1 wr).trans (wup_f hfq hw)
        have hv1 := (congrFun e1 v).trans (wup_f hfq hv)
        refine x_dup hG (pc := 35) dX1_write_35 rfl ?_
        refine x_aload_n hG (pc := 36) 2 dX1_write_36 rfl rfl ?_
        refine x_getf hG (pc := 37) fl_X1_31 hv1 rfl dX1_write_37 ?_
        refine x_iload_n hG (pc := 40) 3 dX1_write_40 rfl rfl ?_
        refine x_aload_n hG (pc := 41) 2 dX1_write_41 rfl rfl ?_
        refine x_getf hG (pc := 42) fl_X1_34 hv1 rfl dX1_write_42 ?_
        refine x_callI hG hO (pc := 45) [_, _, _] c_X4_init lk_X1_37 rfl rfl ⟨by decide, by decide⟩ (Nat.le_of_ble_eq_true rfl) (by rw [hG.mc]; exact Nat.le_of_ble_eq_true rfl) (by rw [hG.ms]; exact Nat.le_of_ble_eq_true rfl) dX1_write_45 ?_
        refine ⟨q, tq, _, _, _, _, _, _, rfl, hq1, ?_⟩
        refine x_gen (fun w2 e2 => ?_)
        have hq2 := (congrFun e2 q).trans wup_s
        have hw2 := (congrFun e2 wr).trans (wup_e hq1 hw1 (by intro q; cases q))
        refine x_aastV hG (pc := 48) hw2 hq2 (vp_in_nI p1 (by decide)) dX1_write_48 ?_
        rw [nI_clamp (by omega)]
        refine x_return hG (pc := 49) dX1_write_49 rfl (by rw [hG.mc]; exact Nat.le_of_ble_eq_true rfl) (by rw [hG.ms]; exact Nat.le_of_ble_eq_true rfl) ?_
        subst e2 e1
        rw [wup_w]
        have h := hk q hfq hnq
        simp only [h1, h7, h15, ↓reduceIte] at h
        exact h
      · refine x_iconst hG (pc := 18) 0 dX1_write_18 (by decide) ?_
        refine x_goto hG (pc := 19) 26 dX1_write_19 (by decide) ?_
        refine x_istore_n hG (pc := 26) 3 dX1_write_26 rfl (Nat.le_of_ble_eq_true rfl) rfl (by dsimp only [List.set]) ?_
        refine x_aload_n hG (pc := 27) 0 dX1_write_27 rfl rfl ?_
        refine x_getf hG (pc := 28) fl_X1_17 (by first | assumption | exact hR.main) rfl dX1_write_28 ?_
        refine x_iload_n hG (pc := 31) 1 dX1_write_31 rfl rfl ?_
        refine x_new hG (pc := 32) tq nw_X1_15 dX1_write_32 (by rw [hG.mc]; exact Nat.le_of_ble_eq_true rfl) (by rw [hG.ms]; exact Nat.le_of_ble_eq_true rfl) (fun q hfq hnq => ?_)
        refine x_gen (fun w1 e1 => ?_)
        have hq1 := (congrFun e1 q).trans wup_s
        have hw1 := (congrFun e1 wr).trans (wup_f hfq hw)
        have hv1 := (congrFun e1 v).trans (wup_f hfq hv)
        refine x_dup hG (pc := 35) dX1_write_35 rfl ?_
        refine x_aload_n hG (pc := 36) 2 dX1_write_36 rfl rfl ?_
        refine x_getf hG (pc := 37) fl_X1_31 hv1 rfl dX1_write_37 ?_
        refine x_iload_n hG (pc := 40) 3 dX1_write_40 rfl rfl ?_
        refine x_aload_n hG (pc := 41) 2 dX1_write_41 rfl rfl ?_
        refine x_getf hG (pc := 42) fl_X1_34 hv1 rfl dX1_write_42 ?_
        refine x_callI hG hO (pc := 45) [_, _, _] c_X4_init lk_X1_37 rfl rfl ⟨by decide, by decide⟩ (Nat.le_of_ble_eq_true rfl) (by rw [hG.mc]; exact Nat.le_of_ble_eq_true rfl) (by rw [hG.ms]; exact Nat.le_of_ble_eq_true rfl) dX1_write_45 ?_
        refine ⟨q, tq, _, _, _, _, _, _, rfl, hq1, ?_⟩
        refine x_gen (fun w2 e2 => ?_)
        have hq2 := (congrFun e2 q).trans wup_s
        have hw2 := (congrFun e2 wr).trans (wup_e hq1 hw1 (by intro q; cases q))
        refine x_aastV hG (pc := 48) hw2 hq2 (vp_in_nI p1 (by decide)) dX1_write_48 ?_
        rw [nI_clamp (by omega)]
        refine x_return hG (pc := 49) dX1_write_49 rfl (by rw [hG.mc]; exact Nat.le_of_ble_eq_true rfl) (by rw [hG.ms]; exact Nat.le_of_ble_eq_true rfl) ?_
        subst e2 e1
        rw [wup_w]
        have h := hk q hfq hnq
        simp only [h1, h7, h15, ↓reduceIte] at h
        exact h
set_option maxHeartbeats 400000 in
set_option maxRecDepth 100000 in
theorem c_X1_writtenFor : CtrA yX1_writtenFor cX1_writtenFor 4 (some (.object "TrackNights$Values")) (rmk 0 0 0 0) (fun Γ av w post _ => ∃ a t tr dr al wr tw f s le, av = [.ref a, .int s, .int le] ∧ w a = some (t, oE tr dr al wr) ∧ w wr = some (tw, aV Γ.2.1 10 f) ∧ post (some (va_rf (s_wf tr f s le))) w) := by
  refine ctr_of (by decide) ?_
  rintro g av w hG hO ⟨a, t, tr, dr, al, wr, tw, f, s, le, rfl, ha, hw, hk⟩
  refine ⟨Nat.le_of_ble_eq_true rfl, ?_⟩
  show X g w 0 0 0 [some (.ref a), some (.int s), some (.int le), none] []
  refine x_iload_n hG (pc := 0) 1 dX1_writtenFor_0 rfl rfl ?_
  refine x_bipush hG (pc := 1) 10 dX1_writtenFor_1 (by decide) ?_
  refine x_irem hG (pc := 3) dX1_writtenFor_3 (by decide) ?_
  show X g w _ _ _ _ [.int (rm10 s)]
  refine x_iload_n hG (pc := 4) 2 dX1_writtenFor_4 rfl rfl ?_
  refine x_isub hG (pc := 5) dX1_writtenFor_5 ?_
  refine x_istore_n hG (pc := 6) 3 dX1_writtenFor_6 rfl (Nat.le_of_ble_eq_true rfl) rfl (by dsimp only [List.set]) ?_
  refine x_iload_n hG (pc := 7) 1 dX1_writtenFor_7 rfl rfl ?_
  refine x_bipush hG (pc := 8) 10 dX1_writtenFor_8 (by decide) ?_
  refine x_idiv hG (pc := 10) dX1_writtenFor_10 (by decide) ?_
  refine x_aload_n hG (pc := 11) 0 dX1_writtenFor_11 rfl rfl ?_
  refine x_getf hG (pc := 12) fl_X1_21 (by first | assumption | exact hR.main) rfl dX1_writtenFor_12 ?_
  refine x_icmp_ne hG (pc := 15) 28 dX1_writtenFor_15 (by decide) (fun h15 => ?_) (fun h15 => ?_)
  · refine x_null hG (pc := 28) dX1_writtenFor_28 ?_
    refine x_areturnN hG (pc := 29) dX1_writtenFor_29 rfl (Or.inl ⟨_, rfl⟩) (by rw [hG.mc]; exact Nat.le_of_ble_eq_true rfl) (by rw [hG.ms]; exact Nat.le_of_ble_eq_true rfl) ?_
    have e : s_wf tr f s le = none := by simp [s_wf, h15]
    rw [e] at hk
    exact hk
  · refine x_iload_n hG (pc := 18) 3 dX1_writtenFor_18 rfl rfl ?_
    refine x_if_lt hG (pc := 19) 28 dX1_writtenFor_19 (by decide) (fun h19 => ?_) (fun h19 => ?_)
    · refine x_null hG (pc := 28) dX1_writtenFor_28 ?_
      refine x_areturnN hG (pc := 29) dX1_writtenFor_29 rfl (Or.inl ⟨_, rfl⟩) (by rw [hG.mc]; exact Nat.le_of_ble_eq_true rfl) (by rw [hG.ms]; exact Nat.le_of_ble_eq_true rfl) ?_
      have e : s_wf tr f s le = none := by simp [s_wf, h15, h19]
      rw [e] at hk
      exact hk
    · refine x_iload_n hG (pc := 22) 3 dX1_writtenFor_22 rfl rfl ?_
      refine x_bipush hG (pc := 23) 10 dX1_writtenFor_23 (by decide) ?_
      refine x_icmp_lt hG (pc := 25) 30 dX1_writtenFor_25 (by decide) (fun h25 => ?_) (fun h25 => ?_)
      · refine x_aload_n hG (pc := 30) 0 dX1_writtenFor_30 rfl rfl ?_
        refine x_getf hG (pc := 31) fl_X1_17 (by first | assumption | exact hR.main) rfl dX1_writtenFor_31 ?_
        refine x_iload_n hG (pc := 34) 3 dX1_writtenFor_34 rfl rfl ?_
        refine x_aaldV hG (pc := 35) hw (vp_in_lt rfl h19 h25) dX1_writtenFor_35 ?_
        refine x_areturnR hG (pc := 36) dX1_writtenFor_36 rfl (Or.inl ⟨_, rfl⟩) (by rw [hG.mc]; exact Nat.le_of_ble_eq_true rfl) (by rw [hG.ms]; exact Nat.le_of_ble_eq_true rfl) ?_
        have e : s_wf tr f s le = f (rm10 s - le).toNatClampNeg := by simp [s_wf, h15, h19, h25]
        rw [e] at hk
        exact hk
      · refine x_null hG (pc := 28) dX1_writtenFor_28 ?_
        refine x_areturnN hG (pc := 29) dX1_writtenFor_29 rfl (Or.inl ⟨_, rfl⟩) (by rw [hG.mc]; exact Nat.le_of_ble_eq_true rfl) (by rw [hG.ms]; exact Nat.le_of_ble_eq_true rfl) ?_
        have e : s_wf tr f s le = none := by simp [s_wf, h15, h19, h25]
        rw [e] at hk
        exact hk
set_option maxHeartbeats 400000 in
set_option maxRecDepth 100000 in
theorem c_X1_writtenOf : CtrA yX1_writtenOf cX1_writtenOf 2 (some (.object "TrackNights$Values")) (rmk 1 0 0 23) (fun Γ av w post _ => ∃ a t tr dr al wr tw f s, av = [.ref a, .int s] ∧ w a = some (t, oE tr dr al wr) ∧ w wr = some (tw, aV Γ.2.1 10 f) ∧ post (some (va_rf (s_wf tr f s dr))) w) := by
  refine ctr_of (by decide) ?_
  rintro g av w hG hO ⟨a, t, tr, dr, al, wr, tw, f, s, rfl, ha, hw, hk⟩
  refine ⟨Nat.le_of_ble_eq_true rfl, ?_⟩
  show X g w 0 0 0 [some (.ref a), some (.int s)] []
  refine x_aload_n hG (pc := 0) 0 dX1_writtenOf_0 rfl rfl ?_
  refine x_iload_n hG (pc := 1) 1 dX1_writtenOf_1 rfl rfl ?_
  refine x_aload_n hG (pc := 2) 0 dX1_writtenOf_2 rfl rfl ?_
  refine x_getf hG (pc := 3) fl_X1_25 (by first | assumption | exact hR.main) rfl dX1_writtenOf_3 ?_
  refine x_callV hG hO (pc := 6) [_, _] c_X1_writtenFor lk_X1_40 (by first | assumption | exact hR.main) rfl rfl ⟨by decide, by decide⟩ (Nat.le_of_ble_eq_true rfl) (by rw [hG.mc]; exact Nat.le_of_ble_eq_true rfl) (by rw [hG.ms]; exact Nat.le_of_ble_eq_true rfl) dX1_writtenOf_6 ?_
  refine ⟨a, t, tr, dr, al, wr, tw, f, s, _, rfl, ha, hw, ?_⟩
  refine x_areturnR hG (pc := 9) dX1_writtenOf_9 rfl (Or.inl ⟨_, rfl⟩) (by rw [hG.mc]; exact Nat.le_of_ble_eq_true rfl) (by rw [hG.ms]; exact Nat.le_of_ble_eq_true rfl) ?_
  exact hk
set_option maxHeartbeats 400000 in
set_option maxRecDepth 100000 in
theorem c_X1_says : CtrA yX1_says cX1_says 2 (some (.object "TrackNights$Values")) (rmk 2 0 0 44) (fun Γ av w post _ => ∃ a t tr dr al wr tw f s, av = [.ref a, .int s] ∧ w a = some (t, oE tr dr al wr) ∧ w wr = some (tw, aV Γ.2.1 10 f) ∧ post (some (va_rf (s_wf tr f s (if al = 0 then 0 else dr)))) w) := by
  refine ctr_of (by decide) ?_
  rintro g av w hG hO ⟨a, t, tr, dr, al, wr, tw, f, s, rfl, ha, hw, hk⟩
  refine ⟨Nat.le_of_ble_eq_true rfl, ?_⟩
  show X g w 0 0 0 [some (.ref a), some (.int s)] []
  refine x_aload_n hG (pc := 0) 0 dX1_says_0 rfl rfl ?_
  refine x_iload_n hG (pc := 1) 1 dX1_says_1 rfl rfl ?_
  refine x_aload_n hG (pc := 2) 0 dX1_says_2 rfl rfl ?_
  refine x_getf hG (pc := 3) fl_X1_9 (by first | assumption | exact hR.main) rfl dX1_says_3 ?_
  refine x_if_eq hG (pc := 6) 16 dX1_says_6 (by decide) (fun h6 => ?_) (fun h6 => ?_)
  · refine x_iconst hG (pc := 16) 0 dX1_says_16 (by decide) ?_
    refine x_callV hG hO (pc := 17) [_, _] c_X1_writtenFor lk_X1_40 (by first | assumption | exact hR.main) rfl rfl ⟨by decide, by decide⟩ (Nat.le_of_ble_eq_true rfl) (by rw [hG.mc]; exact Nat.le_of_ble_eq_true rfl) (by rw [hG.ms]; exact Nat.le_of_ble_eq_true rfl) dX1_says_17 ?_
    refine ⟨a, t, tr, dr, al, wr, tw, f, s, _, rfl, ha, hw, ?_⟩
    refine x_areturnR hG (pc := 20) dX1_says_20 rfl (Or.inl ⟨_, rfl⟩) (by rw [hG.mc]; exact Nat.le_of_ble_eq_true rfl) (by rw [hG.ms]; exact Nat.le_of_ble_eq_true rfl) ?_
    simp only [h6, ↓reduceIte] at hk
    exact hk
  · refine x_aload_n hG (pc := 9) 0 dX1_says_9 rfl rfl ?_
    refine x_getf hG (pc := 10) fl_X1_25 (by first | assumption | exact hR.main) rfl dX1_says_10 ?_
    refine x_goto hG (pc := 13) 17 dX1_says_13 (by decide) ?_
    refine x_callV hG hO (pc := 17) [_, _] c_X1_writtenFor lk_X1_40 (by first | assumption | exact hR.main) rfl rfl ⟨by decide, by decide⟩ (Nat.le_of_ble_eq_true rfl) (by rw [hG.mc]; exact Nat.le_of_ble_eq_true rfl) (by rw [hG.ms]; exact Nat.le_of_ble_eq_true rfl) dX1_says_17 ?_
    refine ⟨a, t, tr, dr, al, wr, tw, f, s, _, rfl, ha, hw, ?_⟩
    refine x_areturnR hG (pc := 20) dX1_says_20 rfl (Or.inl ⟨_, rfl⟩) (by rw [hG.mc]; exact Nat.le_of_ble_eq_true rfl) (by rw [hG.ms]; exact Nat.le_of_ble_eq_true rfl) ?_
    simp only [h6, ↓reduceIte] at hk
    exact hk
