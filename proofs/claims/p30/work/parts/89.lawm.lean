/-! the methods of p30's law -/
abbrev aI (K : Nat → ClassId) (n : Nat) (f : Nat → Int32) : va_E := .inl (K 0, n, .inl f)
/-- what the law keeps of the sections -/
def BEF (Γ : Gw) (w : Wd) (q : Nat) (r : Nat → Nat) (bf : Nat → Nat → Int32) : Prop := w q = some ((80, 0, 0), .inl (Γ.2.1 4, 20, .inr (.inr (.inr (.inr (fun i => if i < 20 then some (r i) else none)))))) ∧ ∀ i, i < 20 → ∃ f, w (r i) = some ((81, i, 0), aI Γ.2.1 8 f) ∧ ∀ v, v < 8 → f v = bf i v
/-- all but cells of one kind stays -/
def FrK (n : Nat) (w w1 : Wd) : Prop := ∀ (b : Nat) (x : Tg × va_E), w b = some x → x.1.1 ≠ n → w1 b = some x
theorem FrK.rf {n : Nat} {w : Wd} : FrK n w w := fun _ _ h _ => h
theorem RepC.frk {Γ : Gw} {L : LayC} {S : St} {w w1 : Wd} {n : Nat} (h : RepC Γ L S w) (hF : FrK n w w1) (hn : 50 ≤ n) : RepC Γ L S w1 := h.tg fun b x hb hx => hF b x hb (fun z => by omega)
theorem BEF.put {Γ : Gw} {w w2 : Wd} {q : Nat} {r : Nat → Nat} {bf b2 : Nat → Nat → Int32} {k v : Nat} {f : Nat → Int32} {x : Int32} (h : BEF Γ w q r bf) (hk : k < 20) (hf : w (r k) = some ((81, k, 0), aI Γ.2.1 8 f)) (e : w2 = wup w (r k) ((81, k, 0), aI Γ.2.1 8 (upd f v x))) (hb : ∀ i u, i < 20 → u < 8 → b2 i u = if i = k ∧ u = v then x else bf i u) : BEF Γ w2 q r b2 ∧ FrK 81 w w2 := by
  subst e
  have hF : FrK 81 w (wup w (r k) ((81, k, 0), aI Γ.2.1 8 (upd f v x))) := fun b y hb hy => wup_t (tb := y.1) (eb := y.2) hf hb (fun z => hy (by rw [z]))
  refine ⟨⟨hF _ _ h.1 (by show (80 : Nat) ≠ 81; decide), fun i hi => ?_⟩, hF⟩
  by_cases c : i = k
  · subst c
    obtain ⟨f0, g1, g2⟩ := h.2 i hi
    rw [hf] at g1
    have ef : f = f0 := by
      have z := congrArg (fun y : Tg × va_E => y.2) (Option.some.inj g1)
      simp only [Sum.inl.injEq, Prod.mk.injEq, true_and] at z
      exact z
    subst ef
    refine ⟨upd f v x, wup_s, fun u hu => ?_⟩
    rw [hb i u hi hu]
    unfold upd
    by_cases d : u = v
    · rw [if_pos d, if_pos ⟨rfl, d⟩]
    · rw [if_neg d, if_neg (fun z => d z.2)]
      exact g2 u hu
  · obtain ⟨f0, g1, g2⟩ := h.2 i hi
    refine ⟨f0, wup_t (tb := (81, i, 0)) hf g1 (fun z => c (congrArg (fun y : Tg => y.2.1) z)), fun u hu => ?_⟩
    rw [hb i u hi hu, if_neg (fun z => c z.1)]
    exact g2 u hu
theorem ge_d {k n : Nat} (h : nI n ≤ nI k) (hn : n < 2 ^ 31) (hk : k < 2 ^ 31) : n ≤ k := by
  have := tLe.mp h
  rw [nI_toInt hn, nI_toInt hk] at this
  omega
theorem lt_d {k n : Nat} (h : ¬ nI n ≤ nI k) (hn : n < 2 ^ 31) (hk : k < 2 ^ 31) : k < n := by
  have := mt tLe.mpr h
  rw [nI_toInt hn, nI_toInt hk] at this
  omega
set_option maxHeartbeats 400000 in
set_option maxRecDepth 100000 in
theorem c_L_below : CtrA yL_below cL_below 2 (some .int) (rmk 0 0 0 0) (fun Γ av w post _ => ∃ v m, av = [.int v, .int (nI m)] ∧ 0 < m ∧ m < 2 ^ 31 ∧ ∀ r, r < m → post (some (.int (nI r))) w) := by
  refine ctr_of (by decide) ?_
  rintro g av w hG hO ⟨v, m, rfl, h0, hm, hk⟩
  refine ⟨Nat.le_of_ble_eq_true rfl, ?_⟩
  show X g w 0 0 0 [some (.int v), some (.int (nI m))] []
  refine x_iload_n hG (pc := 0) 0 dL_below_0 rfl rfl ?_
  refine x_ldc hG (pc := 1) _ dL_below_1 kc_L_7 ?_
  refine x_iand hG (pc := 3) dL_below_3 ?_
  refine x_iload_n hG (pc := 4) 1 dL_below_4 rfl rfl ?_
  refine x_irem hG (pc := 5) dL_below_5 (nI_nz h0 hm) ?_
  refine x_ireturn hG (pc := 6) dL_below_6 rfl rfl (by rw [hG.mc]; exact Nat.le_of_ble_eq_true rfl) (by rw [hG.ms]; exact Nat.le_of_ble_eq_true rfl) ?_
  obtain ⟨r, hr, e⟩ := bel_ok v h0 hm
  exact fin_i e (hk r hr)
set_option maxHeartbeats 400000 in
theorem c_L_cell {b L : Nat} {xs : Nat → Int32} (hL : L < 2 ^ 31) : CtrS b L xs yL_cell cL_cell 2 (some .int) (rmk 0 0 0 0) (fun Γ av w post _ => ∃ k, av = [.ref b, .int (nI k)] ∧ k < 2 ^ 31 ∧ ∀ v, post (some (.int v)) w) := by
  refine ctr_ofS (by decide) ?_
  rintro g av w hG hO hX ⟨k, rfl, hk, hp⟩
  refine ⟨Nat.le_of_ble_eq_true rfl, ?_⟩
  show X g w 0 0 0 [some (.ref b), some (.int (nI k))] []
  refine x_iload_n hG (pc := 0) 1 dL_cell_0 rfl rfl ?_
  refine x_aload_n hG (pc := 1) 0 dL_cell_1 rfl rfl ?_
  refine x_slen hG (pc := 2) hX dL_cell_2 ?_
  refine x_icmp_ge hG (pc := 3) 12 dL_cell_3 (by decide) (fun h3 => ?_) (fun h3 => ?_)
  · refine x_ldc hG (pc := 12) _ dL_cell_12 kc_L_8 ?_
    refine x_iload_n hG (pc := 14) 1 dL_cell_14 rfl rfl ?_
    refine x_iconst hG (pc := 15) 3 dL_cell_15 (by decide) ?_
    refine x_iadd hG (pc := 16) dL_cell_16 ?_
    refine x_imul hG (pc := 17) dL_cell_17 ?_
    refine x_ireturn hG (pc := 18) dL_cell_18 rfl rfl (by rw [hG.mc]; exact Nat.le_of_ble_eq_true rfl) (by rw [hG.ms]; exact Nat.le_of_ble_eq_true rfl) ?_
    exact hp _
  · refine x_aload_n hG (pc := 6) 0 dL_cell_6 rfl rfl ?_
    refine x_iload_n hG (pc := 7) 1 dL_cell_7 rfl rfl ?_
    refine x_sld hG (pc := 8) hX (vp_in_nI (lt_d h3 hL hk) hL) rfl dL_cell_8 ?_
    refine x_goto hG (pc := 9) 18 dL_cell_9 (by decide) ?_
    refine x_ireturn hG (pc := 18) dL_cell_18 rfl rfl (by rw [hG.mc]; exact Nat.le_of_ble_eq_true rfl) (by rw [hG.ms]; exact Nat.le_of_ble_eq_true rfl) ?_
    exact hp _
def bK (S : St) (bf : Nat → Nat → Int32) (k v : Nat) : Nat → Nat → Int32 := fun i u => if i < k ∨ (i = k ∧ u < v) then ofS S i u else bf i u
set_option maxHeartbeats 400000 in
set_option maxRecDepth 100000 in
theorem c_L_keep : CtrA yL_keep cL_keep 4 none (rmk 4 0 0 99) (fun Γ av w post _ => ∃ (L : LayC) (S : St), ∃ q r bf, av = [.ref (thC L), .ref q] ∧ RepC Γ L S w ∧ Inv S ∧ BEF Γ w q r bf ∧ ∀ w1, BEF Γ w1 q r (ofS S) → FrK 81 w w1 → post none w1) := by
  refine ctr_of (by decide) ?_
  rintro g av w hG hO ⟨L, S, q, r, bf, rfl, hR0, hI, hB0, hk⟩
  refine ⟨Nat.le_of_ble_eq_true rfl, ?_⟩
  show X g w 0 0 0 [some (.ref (thC L)), some (.ref q), none, none] []
  refine x_iconst hG (pc := 0) 0 dL_keep_0 (by decide) ?_
  refine x_istore_n hG (pc := 1) 2 dL_keep_1 rfl (Nat.le_of_ble_eq_true rfl) rfl (by dsimp only [List.set]) ?_
  refine nat_down (P := fun k => ∀ (w1 : Wd) (z3 : Option Value), BEF (gΓ g) w1 q r (bK S bf k 0) → FrK 81 w w1 → X g w1 0 0 2 [some (.ref (thC L)), some (.ref q), some (.int (nI k)), z3] []) 20 (fun k hi ih w1 z3 hB hF => ?_) 0 (Nat.zero_le _) w none ⟨hB0.1, fun i hi => (hB0.2 i hi).elim fun f h => ⟨f, h.1, fun v hv => (h.2 v hv).trans (if_neg (by omega)).symm⟩⟩ FrK.rf
  refine x_iload_n hG (pc := 2) 2 dL_keep_2 rfl rfl ?_
  refine x_bipush hG (pc := 3) 20 dL_keep_3 (by decide) ?_
  refine x_icmp_ge hG (pc := 5) 39 dL_keep_5 (by decide) (fun h5 => ?_) (fun h5 => ?_)
  · have hke : k = 20 := by
      have := ge_d (n := 20) h5 (by decide) (by omega)
      omega
    subst hke
    refine x_return hG (pc := 39) dL_keep_39 rfl (by rw [hG.mc]; exact Nat.le_of_ble_eq_true rfl) (by rw [hG.ms]; exact Nat.le_of_ble_eq_true rfl) ?_
    refine hk w1 ⟨hB.1, fun i hi => (hB.2 i hi).elim fun f h => ⟨f, h.1, fun v hv => (h.2 v hv).trans (if_pos (Or.inl hi))⟩⟩ hF
  · have hk20 : k < 20 := lt_d (n := 20) h5 (by decide) (by omega)
    refine x_iconst hG (pc := 8) 0 dL_keep_8 (by decide) ?_
    refine x_istore_n hG (pc := 9) 3 dL_keep_9 rfl (Nat.le_of_ble_eq_true rfl) rfl (by dsimp only [List.set]) ?_
    refine nat_down (P := fun v => ∀ w1 : Wd, BEF (gΓ g) w1 q r (bK S bf k v) → FrK 81 w w1 → X g w1 0 0 10 [some (.ref (thC L)), some (.ref q), some (.int (nI k)), some (.int (nI v))] []) 8 (fun v hv9 ih2 w1 hB hF => ?_) 0 (Nat.zero_le _) w1 hB hF
    refine x_iload_n hG (pc := 10) 3 dL_keep_10 rfl rfl ?_
    refine x_bipush hG (pc := 11) 8 dL_keep_11 (by decide) ?_
    refine x_icmp_ge hG (pc := 13) 33 dL_keep_13 (by decide) (fun h13 => ?_) (fun h13 => ?_)
    · have hke : v = 8 := by
        have := ge_d (n := 8) h13 (by decide) (by omega)
        omega
      subst hke
      refine x_iinc hG (pc := 33) (nI (k + 1)) dL_keep_33 rfl (Nat.le_of_ble_eq_true rfl) rfl (nI_1' k) (by dsimp only [List.set]) ?_
      refine x_goto hG (pc := 36) 2 dL_keep_36 (by decide) ?_
      exact ih (k + 1) (by omega) (by omega) w1 _ ⟨hB.1, fun i hi => (hB.2 i hi).elim fun f h => ⟨f, h.1, fun u hu => (h.2 u hu).trans (by
        unfold bK
        by_cases c1 : i < k + 1
        · rw [if_pos (by omega), if_pos (Or.inl c1)]
        · rw [if_neg (by omega), if_neg (by omega)])⟩⟩ hF
    · have hk8 : v < 8 := lt_d (n := 8) h13 (by decide) (by omega)
      refine x_aload_n hG (pc := 16) 1 dL_keep_16 rfl rfl ?_
      refine x_iload_n hG (pc := 17) 2 dL_keep_17 rfl rfl ?_
      refine x_aaldI hG (pc := 18) hB.1 (vp_in_nI hk20 (by decide)) dL_keep_18 ?_
      rw [nI_clamp (by omega), if_pos hk20]
      show X g w1 _ _ _ _ [.ref (r k)]
      have hR1 := hR0.frk hF (by decide)
      obtain ⟨f, hf1, hf2⟩ := hB.2 k hk20
      refine x_iload_n hG (pc := 19) 3 dL_keep_19 rfl rfl ?_
      refine x_aload_n hG (pc := 20) 0 dL_keep_20 rfl rfl ?_
      refine x_iload_n hG (pc := 21) 2 dL_keep_21 rfl rfl ?_
      refine x_iload_n hG (pc := 22) 3 dL_keep_22 rfl rfl ?_
      refine x_callV hG hO (pc := 23) [_, _] v_X6_ofSection lk_L_36 hR1.main rfl rfl ⟨by decide, by decide⟩ (Nat.le_of_ble_eq_true rfl) (by rw [hG.mc]; exact Nat.le_of_ble_eq_true rfl) (by rw [hG.ms]; exact Nat.le_of_ble_eq_true rfl) dL_keep_23 ?_
      refine ⟨L, S, k, v, rfl, hR1, hI, hk20, hk8, ?_⟩
      refine x_iast hG (pc := 26) hf1 (vp_in_nI hk8 (by decide)) dL_keep_26 ?_
      rw [nI_clamp (by omega)]
      refine x_gen (fun w2 e2 => ?_)
      obtain ⟨hB2, hF2⟩ := hB.put (b2 := bK S bf k (v + 1)) hk20 hf1 e2 (fun i u hi hu => by
        unfold bK
        by_cases c1 : i = k
        · by_cases c2 : u = v
          · rw [if_pos (Or.inr ⟨c1, by omega⟩), if_pos ⟨c1, c2⟩, c1, c2]
          · rw [if_neg (show ¬ (i = k ∧ u = v) from fun z => c2 z.2)]
            by_cases c3 : u < v
            · rw [if_pos (Or.inr ⟨c1, by omega⟩), if_pos (Or.inr ⟨c1, c3⟩)]
            · rw [if_neg (by omega), if_neg (by omega)]
        · rw [if_neg (show ¬ (i = k ∧ u = v) from fun z => c1 z.1)]
          by_cases c3 : i < k
          · rw [if_pos (Or.inl c3), if_pos (Or.inl c3)]
          · rw [if_neg (by omega), if_neg (by omega)])
      refine x_iinc hG (pc := 27) (nI (v + 1)) dL_keep_27 rfl (Nat.le_of_ble_eq_true rfl) rfl (nI_1' v) (by dsimp only [List.set]) ?_
      refine x_goto hG (pc := 30) 10 dL_keep_30 (by decide) ?_
      exact ih2 (v + 1) (by omega) (by omega) w2 hB2 (fun b x hb hx => hF2 b x (hF b x hb hx) hx)
theorem cnt_up0 {S : St} {bf : Nat → Nat → Int32} {sg : Int32} {k : Nat} (h : nI k = sg) : cnt (fun k => if nI k = sg then 0 else if sS S k 6 = bf k 6 then 0 else 1) k = cnt (fun k => if nI k = sg then 0 else if sS S k 6 = bf k 6 then 0 else 1) (k + 1) := by
  show _ = cnt _ k + (if nI k = sg then 0 else if sS S k 6 = bf k 6 then 0 else 1)
  rw [if_pos h, Int32.add_zero]
theorem cnt_up1 {S : St} {bf : Nat → Nat → Int32} {sg : Int32} {k : Nat} (h : ¬ nI k = sg) (h2 : sS S k 6 = bf k 6) : cnt (fun k => if nI k = sg then 0 else if sS S k 6 = bf k 6 then 0 else 1) k = cnt (fun k => if nI k = sg then 0 else if sS S k 6 = bf k 6 then 0 else 1) (k + 1) := by
  show _ = cnt _ k + (if nI k = sg then 0 else if sS S k 6 = bf k 6 then 0 else 1)
  rw [if_neg h, if_pos h2, Int32.add_zero]
theorem cnt_up2 {S : St} {bf : Nat → Nat → Int32} {sg : Int32} {k : Nat} (h : ¬ nI k = sg) (h2 : ¬ sS S k 6 = bf k 6) : cnt (fun k => if nI k = sg then 0 else if sS S k 6 = bf k 6 then 0 else 1) k + Int32.ofInt 1 = cnt (fun k => if nI k = sg then 0 else if sS S k 6 = bf k 6 then 0 else 1) (k + 1) := by
  show _ = cnt _ k + (if nI k = sg then 0 else if sS S k 6 = bf k 6 then 0 else 1)
  rw [if_neg h, if_neg h2]
  rfl
set_option maxHeartbeats 400000 in
set_option maxRecDepth 100000 in
theorem c_L_isStep : CtrA yL_isStep cL_isStep 9 (some .boolean) (rmk 4 0 0 99) (fun Γ av w post _ => ∃ (L : LayC) (S : St), ∃ q r bf dy wk sg br, av = [.ref (thC L), .ref q, .int dy, .int wk, .int sg, .int br] ∧ RepC Γ L S w ∧ Inv S ∧ BEF Γ w q r bf ∧ SteC bf S dy wk sg br ∧ post (some (.int 1)) w) := by
  refine ctr_of (by decide) ?_
  rintro g av w hG hO ⟨L, S, q, r, bf, dy, wk, sg, br, rfl, hR, hI, hB, hC, hk⟩
  refine ⟨Nat.le_of_ble_eq_true rfl, ?_⟩
  show X g w 0 0 0 [some (.ref (thC L)), some (.ref q), some (.int dy), some (.int wk), some (.int sg), some (.int br), none, none, none] []
  obtain ⟨c1, c2, c3⟩ := hC
  refine x_iconst hG (pc := 0) 0 dL_isStep_0 (by decide) ?_
  refine x_istore hG (pc := 1) dL_isStep_1 (Nat.le_of_ble_eq_true rfl) rfl (by dsimp only [List.set]) ?_
  refine x_iconst hG (pc := 3) 0 dL_isStep_3 (by decide) ?_
  refine x_istore hG (pc := 4) dL_isStep_4 (Nat.le_of_ble_eq_true rfl) rfl (by dsimp only [List.set]) ?_
  refine nat_down (P := fun k => ∀ z8 : Option Value, X g w 0 0 6 [some (.ref (thC L)), some (.ref q), some (.int dy), some (.int wk), some (.int sg), some (.int br), some (.int (cnt (fun k => if nI k = sg then 0 else if sS S k 6 = bf k 6 then 0 else 1) k)), some (.int (nI k)), z8] []) 20 (fun k hi ih z8 => ?_) 0 (Nat.zero_le _) none
  refine x_iload hG (pc := 6) dL_isStep_6 rfl ?_
  refine x_bipush hG (pc := 8) 20 dL_isStep_8 (by decide) ?_
  refine x_icmp_ge hG (pc := 10) 122 dL_isStep_10 (by decide) (fun h10 => ?_) (fun h10 => ?_)
  · have hke : k = 20 := by
      have := ge_d (n := 20) h10 (by decide) (by omega)
      omega
    subst hke
    refine x_iload hG (pc := 122) dL_isStep_122 rfl ?_
    refine x_iload hG (pc := 124) dL_isStep_124 rfl ?_
    refine x_icmp_ne hG (pc := 126) 133 dL_isStep_126 (by decide) (fun h126 => ?_) (fun h126 => ?_)
    · exact absurd c3 h126
    · refine x_iconst hG (pc := 129) 1 dL_isStep_129 (by decide) ?_
      refine x_goto hG (pc := 130) 134 dL_isStep_130 (by decide) ?_
      refine x_ireturn hG (pc := 134) dL_isStep_134 rfl rfl (by rw [hG.mc]; exact Nat.le_of_ble_eq_true rfl) (by rw [hG.ms]; exact Nat.le_of_ble_eq_true rfl) ?_
      exact hk
  · have hk20 : k < 20 := lt_d (n := 20) h10 (by decide) (by omega)
    obtain ⟨f, hf1, hf2⟩ := hB.2 k hk20
    have K70 : ∀ (y : Int32), y = cnt (fun k => if nI k = sg then 0 else if sS S k 6 = bf k 6 then 0 else 1) (k + 1) → X g w 0 0 70 [some (.ref (thC L)), some (.ref q), some (.int dy), some (.int wk), some (.int sg), some (.int br), some (.int y), some (.int (nI k)), z8] [] := by
      rintro y rfl
      refine x_iload_n hG (pc := 70) 2 dL_isStep_70 rfl rfl ?_
      refine x_if_ne hG (pc := 71) 116 dL_isStep_71 (by decide) (fun h71 => ?_) (fun h71 => ?_)
      · refine x_iinc hG (pc := 116) (nI (k + 1)) dL_isStep_116 rfl (Nat.le_of_ble_eq_true rfl) rfl (nI_1' k) (by dsimp only [List.set]) ?_
        refine x_goto hG (pc := 119) 6 dL_isStep_119 (by decide) ?_
        exact ih (k + 1) (by omega) (by omega) _
      · refine x_iload_n hG (pc := 74) 3 dL_isStep_74 rfl rfl ?_
        refine x_if_eq hG (pc := 75) 81 dL_isStep_75 (by decide) (fun h75 => ?_) (fun h75 => ?_)
        · refine x_iconst hG (pc := 81) 0 dL_isStep_81 (by decide) ?_
          refine x_istore hG (pc := 82) dL_isStep_82 (Nat.le_of_ble_eq_true rfl) rfl (by dsimp only [List.set]) ?_
          refine nat_down (P := fun v => X g w 0 0 84 [some (.ref (thC L)), some (.ref q), some (.int dy), some (.int wk), some (.int sg), some (.int br), some (.int (cnt (fun k => if nI k = sg then 0 else if sS S k 6 = bf k 6 then 0 else 1) (k + 1))), some (.int (nI k)), some (.int (nI v))] []) 5 (fun v hv9 ih2 => ?_) 0 (Nat.zero_le _)
          refine x_iload hG (pc := 84) dL_isStep_84 rfl ?_
          refine x_iconst hG (pc := 86) 5 dL_isStep_86 (by decide) ?_
          refine x_icmp_ge hG (pc := 87) 116 dL_isStep_87 (by decide) (fun h87 => ?_) (fun h87 => ?_)
          · refine x_iinc hG (pc := 116) (nI (k + 1)) dL_isStep_116 rfl (Nat.le_of_ble_eq_true rfl) rfl (nI_1' k) (by dsimp only [List.set]) ?_
            refine x_goto hG (pc := 119) 6 dL_isStep_119 (by decide) ?_
            exact ih (k + 1) (by omega) (by omega) _
          · have hk5 : v < 5 := lt_d (n := 5) h87 (by decide) (by omega)
            refine x_aload_n hG (pc := 90) 0 dL_isStep_90 rfl rfl ?_
            refine x_iload hG (pc := 91) dL_isStep_91 rfl ?_
            refine x_iload hG (pc := 93) dL_isStep_93 rfl ?_
            refine x_callV hG hO (pc := 95) [_, _] v_X6_ofSection lk_L_36 hR.main rfl rfl ⟨by decide, by decide⟩ (Nat.le_of_ble_eq_true rfl) (by rw [hG.mc]; exact Nat.le_of_ble_eq_true rfl) (by rw [hG.ms]; exact Nat.le_of_ble_eq_true rfl) dL_isStep_95 ?_
            refine ⟨L, S, k, v, rfl, hR, hI, hk20, by omega, ?_⟩
            refine x_aload_n hG (pc := 98) 1 dL_isStep_98 rfl rfl ?_
            refine x_iload hG (pc := 99) dL_isStep_99 rfl ?_
            refine x_aaldI hG (pc := 101) hB.1 (vp_in_nI hk20 (by decide)) dL_isStep_101 ?_
            rw [nI_clamp (by omega), if_pos hk20]
            show X g w _ _ _ _ [.ref (r k), .int (ofS S k v)]
            refine x_iload hG (pc := 102) dL_isStep_102 rfl ?_
            refine x_iald hG (pc := 104) hf1 (vp_in_nI (show v < 8 by omega) (by decide)) dL_isStep_104 ?_
            rw [nI_clamp (by omega), hf2 v (by omega)]
            refine x_icmp_eq hG (pc := 105) 110 dL_isStep_105 (by decide) (fun h105 => ?_) (fun h105 => ?_)
            · refine x_iinc hG (pc := 110) (nI (v + 1)) dL_isStep_110 rfl (Nat.le_of_ble_eq_true rfl) rfl (nI_1' v) (by dsimp only [List.set]) ?_
              refine x_goto hG (pc := 113) 84 dL_isStep_113 (by decide) ?_
              exact ih2 (v + 1) (by omega) (by omega)
            · exact absurd (c2 h71 h75 k hk20 v hk5) h105
        · refine x_goto hG (pc := 78) 116 dL_isStep_78 (by decide) ?_
          refine x_iinc hG (pc := 116) (nI (k + 1)) dL_isStep_116 rfl (Nat.le_of_ble_eq_true rfl) rfl (nI_1' k) (by dsimp only [List.set]) ?_
          refine x_goto hG (pc := 119) 6 dL_isStep_119 (by decide) ?_
          exact ih (k + 1) (by omega) (by omega) _
    refine x_iload hG (pc := 13) dL_isStep_13 rfl ?_
    refine x_iload hG (pc := 15) dL_isStep_15 rfl ?_
    refine x_icmp_eq hG (pc := 17) 70 dL_isStep_17 (by decide) (fun h17 => ?_) (fun h17 => ?_)
    · exact K70 _ (by first | exact cnt_up0 h17 | exact cnt_up1 h17 h35 | exact cnt_up2 h17 h35)
    · refine x_aload_n hG (pc := 20) 0 dL_isStep_20 rfl rfl ?_
      refine x_iload hG (pc := 21) dL_isStep_21 rfl ?_
      refine x_bipush hG (pc := 23) 6 dL_isStep_23 (by decide) ?_
      refine x_callV hG hO (pc := 25) [_, _] v_X6_ofSection lk_L_36 hR.main rfl rfl ⟨by decide, by decide⟩ (Nat.le_of_ble_eq_true rfl) (by rw [hG.mc]; exact Nat.le_of_ble_eq_true rfl) (by rw [hG.ms]; exact Nat.le_of_ble_eq_true rfl) dL_isStep_25 ?_
      refine ⟨L, S, k, 6, rfl, hR, hI, hk20, by decide, ?_⟩
      refine x_aload_n hG (pc := 28) 1 dL_isStep_28 rfl rfl ?_
      refine x_iload hG (pc := 29) dL_isStep_29 rfl ?_
      refine x_aaldI hG (pc := 31) hB.1 (vp_in_nI hk20 (by decide)) dL_isStep_31 ?_
      rw [nI_clamp (by omega), if_pos hk20]
      show X g w _ _ _ _ [.ref (r k), .int (sS S k 6)]
      refine x_bipush hG (pc := 32) 6 dL_isStep_32 (by decide) ?_
      refine x_iald hG (pc := 34) hf1 (vp_in_nI (n := 6) (by decide) (by decide)) dL_isStep_34 ?_
      rw [show f (6 : Int32).toNatClampNeg = bf k 6 from hf2 6 (by decide)]
      refine x_icmp_eq hG (pc := 35) 70 dL_isStep_35 (by decide) (fun h35 => ?_) (fun h35 => ?_)
      · exact K70 _ (by first | exact cnt_up0 h17 | exact cnt_up1 h17 h35 | exact cnt_up2 h17 h35)
      · refine x_iload_n hG (pc := 38) 2 dL_isStep_38 rfl rfl ?_
        refine x_if_eq hG (pc := 39) 65 dL_isStep_39 (by decide) (fun h39 => ?_) (fun h39 => ?_)
        · exact absurd h39 (c1 k hk20 h17 h35).1
        · refine x_aload_n hG (pc := 42) 0 dL_isStep_42 rfl rfl ?_
          refine x_iload hG (pc := 43) dL_isStep_43 rfl ?_
          refine x_bipush hG (pc := 45) 6 dL_isStep_45 (by decide) ?_
          refine x_callV hG hO (pc := 47) [_, _] v_X6_ofSection lk_L_36 hR.main rfl rfl ⟨by decide, by decide⟩ (Nat.le_of_ble_eq_true rfl) (by rw [hG.mc]; exact Nat.le_of_ble_eq_true rfl) (by rw [hG.ms]; exact Nat.le_of_ble_eq_true rfl) dL_isStep_47 ?_
          refine ⟨L, S, k, 6, rfl, hR, hI, hk20, by decide, ?_⟩
          refine x_if_ne hG (pc := 50) 65 dL_isStep_50 (by decide) (fun h50 => ?_) (fun h50 => ?_)
          · exact absurd (c1 k hk20 h17 h35).2.1 h50
          · refine x_aload_n hG (pc := 53) 0 dL_isStep_53 rfl rfl ?_
            refine x_iload hG (pc := 54) dL_isStep_54 rfl ?_
            refine x_iconst hG (pc := 56) 1 dL_isStep_56 (by decide) ?_
            refine x_callV hG hO (pc := 57) [_, _] v_X6_ofSection lk_L_36 hR.main rfl rfl ⟨by decide, by decide⟩ (Nat.le_of_ble_eq_true rfl) (by rw [hG.mc]; exact Nat.le_of_ble_eq_true rfl) (by rw [hG.ms]; exact Nat.le_of_ble_eq_true rfl) dL_isStep_57 ?_
            refine ⟨L, S, k, 1, rfl, hR, hI, hk20, by decide, ?_⟩
            refine x_bipush hG (pc := 60) 60 dL_isStep_60 (by decide) ?_
            refine x_icmp_eq hG (pc := 62) 67 dL_isStep_62 (by decide) (fun h62 => ?_) (fun h62 => ?_)
            · refine x_iinc hG (pc := 67) _ dL_isStep_67 rfl (Nat.le_of_ble_eq_true rfl) rfl rfl (by dsimp only [List.set]) ?_
              exact K70 _ (by first | exact cnt_up0 h17 | exact cnt_up1 h17 h35 | exact cnt_up2 h17 h35)
            · exact absurd (c1 k hk20 h17 h35).2.2 h62
/-- the nights' states, as far as they are looked at -/
def stG (S : St) (f : Nat → Int32) (k : Nat) : Nat → Int32 := fun i => if i < k then gS S i 0 else f i
theorem stG_s {S : St} {f g : Nat → Int32} {k : Nat} (h : g = stG S f k) : upd g k (gS S k 0) = stG S f (k + 1) := by
  subst h
  funext i
  unfold upd stG
  by_cases c : i = k
  · subst c
    rw [if_pos rfl, if_pos (Nat.lt_succ_self i)]
  · rw [if_neg c]
    by_cases d : i < k
    · rw [if_pos d, if_pos (by omega)]
    · rw [if_neg d, if_neg (by omega)]
set_option maxHeartbeats 400000 in
set_option maxRecDepth 100000 in
theorem c_L_areSteps : CtrA yL_areSteps cL_areSteps 6 (some .boolean) (rmk 7 0 0 154) (fun Γ av w post _ => ∃ (L : LayC) (S : St), ∃ t qs f, av = [.ref (thC L), .ref qs, .int (nI (nN S))] ∧ RepC Γ L S w ∧ P3 S t ∧ w qs = some ((82, 0, 0), aI Γ.2.1 16 f) ∧ TrC f S ∧ ∀ w1, w1 qs = some ((82, 0, 0), aI Γ.2.1 16 (stG S f (nN S))) → FrK 82 w w1 → post (some (.int 1)) w1) := by
  refine ctr_of (by decide) ?_
  rintro g av w hG hO ⟨L, S, t, qs, f, rfl, hR0, hP, hq0, hT, hk⟩
  refine ⟨Nat.le_of_ble_eq_true rfl, ?_⟩
  show X g w 0 0 0 [some (.ref (thC L)), some (.ref qs), some (.int (nI (nN S))), none, none, none] []
  have hI := hP.1.1
  have hN16 := hI.2.1.2.1
  refine x_iconst hG (pc := 0) 0 dL_areSteps_0 (by decide) ?_
  refine x_istore_n hG (pc := 1) 3 dL_areSteps_1 rfl (Nat.le_of_ble_eq_true rfl) rfl (by dsimp only [List.set]) ?_
  refine nat_down (P := fun k => ∀ (w1 : Wd) (gg : Nat → Int32) (z4 z5 : Option Value), w1 qs = some ((82, 0, 0), aI (gK g) 16 gg) → gg = stG S f k → FrK 82 w w1 → X g w1 0 0 2 [some (.ref (thC L)), some (.ref qs), some (.int (nI (nN S))), some (.int (nI k)), z4, z5] []) (nN S) (fun k hi ih w1 gg z4 z5 hq hg hF => ?_) 0 (Nat.zero_le _) w f none none hq0 (by funext i; exact (if_neg (Nat.not_lt_zero i)).symm) FrK.rf
  refine x_iload_n hG (pc := 2) 3 dL_areSteps_2 rfl rfl ?_
  refine x_iload_n hG (pc := 3) 2 dL_areSteps_3 rfl rfl ?_
  refine x_icmp_ge hG (pc := 4) 148 dL_areSteps_4 (by decide) (fun h4 => ?_) (fun h4 => ?_)
  · have hke : k = nN S := by
      have := ge_d h4 (by omega) (by omega)
      omega
    subst hke
    refine x_iconst hG (pc := 148) 1 dL_areSteps_148 (by decide) ?_
    refine x_ireturn hG (pc := 149) dL_areSteps_149 rfl rfl (by rw [hG.mc]; exact Nat.le_of_ble_eq_true rfl) (by rw [hG.ms]; exact Nat.le_of_ble_eq_true rfl) ?_
    subst hg
    exact hk w1 hq hF
  · have hkn : k < nN S := lt_d h4 (by omega) (by omega)
    have hR1 := hR0.frk hF (by decide)
    obtain ⟨s1, s2, s3, s4⟩ := so_step hP hkn hT
    refine x_aload_n hG (pc := 7) 0 dL_areSteps_7 rfl rfl ?_
    refine x_iload_n hG (pc := 8) 3 dL_areSteps_8 rfl rfl ?_
    refine x_iconst hG (pc := 9) 0 dL_areSteps_9 (by decide) ?_
    refine x_callV hG hO (pc := 10) [_, _] v_X6_ofPossession lk_L_58 hR1.main rfl rfl ⟨by decide, by decide⟩ (Nat.le_of_ble_eq_true rfl) (by rw [hG.mc]; exact Nat.le_of_ble_eq_true rfl) (by rw [hG.ms]; exact Nat.le_of_ble_eq_true rfl) dL_areSteps_10 ?_
    refine ⟨L, S, k, 0, rfl, hR1, hI, hkn, by decide, ?_⟩
    refine x_istore hG (pc := 13) dL_areSteps_13 (Nat.le_of_ble_eq_true rfl) rfl (by dsimp only [List.set]) ?_
    refine x_aload_n hG (pc := 15) 1 dL_areSteps_15 rfl rfl ?_
    refine x_iload_n hG (pc := 16) 3 dL_areSteps_16 rfl rfl ?_
    refine x_iald hG (pc := 17) hq (vp_in_nI (show k < 16 by omega) (by decide)) dL_areSteps_17 ?_
    rw [nI_clamp (by omega), show gg k = f k by rw [hg]; exact if_neg (Nat.lt_irrefl k)]
    refine x_istore hG (pc := 18) dL_areSteps_18 (Nat.le_of_ble_eq_true rfl) rfl (by dsimp only [List.set]) ?_
    have K64 : X g w1 0 0 64 [some (.ref (thC L)), some (.ref qs), some (.int (nI (nN S))), some (.int (nI k)), some (.int (ofN S k 0)), some (.int (f k))] [] := by
      refine x_iload hG (pc := 64) dL_areSteps_64 rfl ?_
      refine x_iconst hG (pc := 66) 3 dL_areSteps_66 (by decide) ?_
      refine x_icmp_ne hG (pc := 67) 84 dL_areSteps_67 (by decide) (fun h67 => ?_) (fun h67 => ?_)
      · refine x_iload hG (pc := 84) dL_areSteps_84 rfl ?_
        refine x_iconst hG (pc := 86) 2 dL_areSteps_86 (by decide) ?_
        refine x_icmp_ge hG (pc := 87) 104 dL_areSteps_87 (by decide) (fun h87 => ?_) (fun h87 => ?_)
        · refine x_iload hG (pc := 104) dL_areSteps_104 rfl ?_
          refine x_iconst hG (pc := 106) 1 dL_areSteps_106 (by decide) ?_
          refine x_icmp_ne hG (pc := 107) 137 dL_areSteps_107 (by decide) (fun h107 => ?_) (fun h107 => ?_)
          · refine x_aload_n hG (pc := 137) 1 dL_areSteps_137 rfl rfl ?_
            refine x_iload_n hG (pc := 138) 3 dL_areSteps_138 rfl rfl ?_
            refine x_iload hG (pc := 139) dL_areSteps_139 rfl ?_
            refine x_iast hG (pc := 141) hq (vp_in_nI (show k < 16 by omega) (by decide)) dL_areSteps_141 ?_
            rw [nI_clamp (by omega), show ofN S k 0 = gS S k 0 from rfl, stG_s hg]
            refine x_gen (fun w2 e2 => ?_)
            refine x_iinc hG (pc := 142) (nI (k + 1)) dL_areSteps_142 rfl (Nat.le_of_ble_eq_true rfl) rfl (nI_1' k) (by dsimp only [List.set]) ?_
            refine x_goto hG (pc := 145) 2 dL_areSteps_145 (by decide) ?_
            exact ih (k + 1) (by omega) (by omega) w2 _ _ _ (by rw [e2]; exact wup_s) rfl (fun b x hb hx => by rw [e2]; exact wup_t (tb := x.1) (eb := x.2) hq (hF b x hb hx) (fun z => hx (by rw [z])))
          · refine x_aload_n hG (pc := 110) 0 dL_areSteps_110 rfl rfl ?_
            refine x_iload_n hG (pc := 111) 3 dL_areSteps_111 rfl rfl ?_
            refine x_iconst hG (pc := 112) 4 dL_areSteps_112 (by decide) ?_
            refine x_callV hG hO (pc := 113) [_, _] v_X6_ofPossession lk_L_58 hR1.main rfl rfl ⟨by decide, by decide⟩ (Nat.le_of_ble_eq_true rfl) (by rw [hG.mc]; exact Nat.le_of_ble_eq_true rfl) (by rw [hG.ms]; exact Nat.le_of_ble_eq_true rfl) dL_areSteps_113 ?_
            refine ⟨L, S, k, 4, rfl, hR1, hI, hkn, by decide, ?_⟩
            refine x_aload_n hG (pc := 116) 0 dL_areSteps_116 rfl rfl ?_
            refine x_iconst hG (pc := 117) 0 dL_areSteps_117 (by decide) ?_
            refine x_callV hG hO (pc := 118) [_] v_X6_many lk_L_28 hR1.main rfl rfl ⟨by decide, by decide⟩ (Nat.le_of_ble_eq_true rfl) (by rw [hG.mc]; exact Nat.le_of_ble_eq_true rfl) (by rw [hG.ms]; exact Nat.le_of_ble_eq_true rfl) dL_areSteps_118 ?_
            refine ⟨L, S, 0, rfl, hR1, hI, by decide, ?_⟩
            refine x_icmp_ne hG (pc := 121) 135 dL_areSteps_121 (by decide) (fun h121 => ?_) (fun h121 => ?_)
            · exact absurd (s4 h107).1 h121
            · refine x_aload_n hG (pc := 124) 0 dL_areSteps_124 rfl rfl ?_
              refine x_iload_n hG (pc := 125) 3 dL_areSteps_125 rfl rfl ?_
              refine x_bipush hG (pc := 126) 8 dL_areSteps_126 (by decide) ?_
              refine x_callV hG hO (pc := 128) [_, _] v_X6_ofPossession lk_L_58 hR1.main rfl rfl ⟨by decide, by decide⟩ (Nat.le_of_ble_eq_true rfl) (by rw [hG.mc]; exact Nat.le_of_ble_eq_true rfl) (by rw [hG.ms]; exact Nat.le_of_ble_eq_true rfl) dL_areSteps_128 ?_
              refine ⟨L, S, k, 8, rfl, hR1, hI, hkn, by decide, ?_⟩
              refine x_iconst hG (pc := 131) 2 dL_areSteps_131 (by decide) ?_
              refine x_icmp_eq hG (pc := 132) 137 dL_areSteps_132 (by decide) (fun h132 => ?_) (fun h132 => ?_)
              · refine x_aload_n hG (pc := 137) 1 dL_areSteps_137 rfl rfl ?_
                refine x_iload_n hG (pc := 138) 3 dL_areSteps_138 rfl rfl ?_
                refine x_iload hG (pc := 139) dL_areSteps_139 rfl ?_
                refine x_iast hG (pc := 141) hq (vp_in_nI (show k < 16 by omega) (by decide)) dL_areSteps_141 ?_
                rw [nI_clamp (by omega), show ofN S k 0 = gS S k 0 from rfl, stG_s hg]
                refine x_gen (fun w2 e2 => ?_)
                refine x_iinc hG (pc := 142) (nI (k + 1)) dL_areSteps_142 rfl (Nat.le_of_ble_eq_true rfl) rfl (nI_1' k) (by dsimp only [List.set]) ?_
                refine x_goto hG (pc := 145) 2 dL_areSteps_145 (by decide) ?_
                exact ih (k + 1) (by omega) (by omega) w2 _ _ _ (by rw [e2]; exact wup_s) rfl (fun b x hb hx => by rw [e2]; exact wup_t (tb := x.1) (eb := x.2) hq (hF b x hb hx) (fun z => hx (by rw [z])))
              · exact absurd (s4 h107).2 h132
        · refine x_aload_n hG (pc := 90) 0 dL_areSteps_90 rfl rfl ?_
          refine x_iload_n hG (pc := 91) 3 dL_areSteps_91 rfl rfl ?_
          refine x_iconst hG (pc := 92) 4 dL_areSteps_92 (by decide) ?_
          refine x_callV hG hO (pc := 93) [_, _] v_X6_ofPossession lk_L_58 hR1.main rfl rfl ⟨by decide, by decide⟩ (Nat.le_of_ble_eq_true rfl) (by rw [hG.mc]; exact Nat.le_of_ble_eq_true rfl) (by rw [hG.ms]; exact Nat.le_of_ble_eq_true rfl) dL_areSteps_93 ?_
          refine ⟨L, S, k, 4, rfl, hR1, hI, hkn, by decide, ?_⟩
          refine x_aload_n hG (pc := 96) 0 dL_areSteps_96 rfl rfl ?_
          refine x_iconst hG (pc := 97) 0 dL_areSteps_97 (by decide) ?_
          refine x_callV hG hO (pc := 98) [_] v_X6_many lk_L_28 hR1.main rfl rfl ⟨by decide, by decide⟩ (Nat.le_of_ble_eq_true rfl) (by rw [hG.mc]; exact Nat.le_of_ble_eq_true rfl) (by rw [hG.ms]; exact Nat.le_of_ble_eq_true rfl) dL_areSteps_98 ?_
          refine ⟨L, S, 0, rfl, hR1, hI, by decide, ?_⟩
          refine x_icmp_lt hG (pc := 101) 135 dL_areSteps_101 (by decide) (fun h101 => ?_) (fun h101 => ?_)
          · exact absurd h101 (s3 (Int32.not_le.mp h87))
          · refine x_iload hG (pc := 104) dL_areSteps_104 rfl ?_
            refine x_iconst hG (pc := 106) 1 dL_areSteps_106 (by decide) ?_
            refine x_icmp_ne hG (pc := 107) 137 dL_areSteps_107 (by decide) (fun h107 => ?_) (fun h107 => ?_)
            · refine x_aload_n hG (pc := 137) 1 dL_areSteps_137 rfl rfl ?_
              refine x_iload_n hG (pc := 138) 3 dL_areSteps_138 rfl rfl ?_
              refine x_iload hG (pc := 139) dL_areSteps_139 rfl ?_
              refine x_iast hG (pc := 141) hq (vp_in_nI (show k < 16 by omega) (by decide)) dL_areSteps_141 ?_
              rw [nI_clamp (by omega), show ofN S k 0 = gS S k 0 from rfl, stG_s hg]
              refine x_gen (fun w2 e2 => ?_)
              refine x_iinc hG (pc := 142) (nI (k + 1)) dL_areSteps_142 rfl (Nat.le_of_ble_eq_true rfl) rfl (nI_1' k) (by dsimp only [List.set]) ?_
              refine x_goto hG (pc := 145) 2 dL_areSteps_145 (by decide) ?_
              exact ih (k + 1) (by omega) (by omega) w2 _ _ _ (by rw [e2]; exact wup_s) rfl (fun b x hb hx => by rw [e2]; exact wup_t (tb := x.1) (eb := x.2) hq (hF b x hb hx) (fun z => hx (by rw [z])))
            · refine x_aload_n hG (pc := 110) 0 dL_areSteps_110 rfl rfl ?_
              refine x_iload_n hG (pc := 111) 3 dL_areSteps_111 rfl rfl ?_
              refine x_iconst hG (pc := 112) 4 dL_areSteps_112 (by decide) ?_
              refine x_callV hG hO (pc := 113) [_, _] v_X6_ofPossession lk_L_58 hR1.main rfl rfl ⟨by decide, by decide⟩ (Nat.le_of_ble_eq_true rfl) (by rw [hG.mc]; exact Nat.le_of_ble_eq_true rfl) (by rw [hG.ms]; exact Nat.le_of_ble_eq_true rfl) dL_areSteps_113 ?_
              refine ⟨L, S, k, 4, rfl, hR1, hI, hkn, by decide, ?_⟩
              refine x_aload_n hG (pc := 116) 0 dL_areSteps_116 rfl rfl ?_
              refine x_iconst hG (pc := 117) 0 dL_areSteps_117 (by decide) ?_
              refine x_callV hG hO (pc := 118) [_] v_X6_many lk_L_28 hR1.main rfl rfl ⟨by decide, by decide⟩ (Nat.le_of_ble_eq_true rfl) (by rw [hG.mc]; exact Nat.le_of_ble_eq_true rfl) (by rw [hG.ms]; exact Nat.le_of_ble_eq_true rfl) dL_areSteps_118 ?_
              refine ⟨L, S, 0, rfl, hR1, hI, by decide, ?_⟩
              refine x_icmp_ne hG (pc := 121) 135 dL_areSteps_121 (by decide) (fun h121 => ?_) (fun h121 => ?_)
              · exact absurd (s4 h107).1 h121
              · refine x_aload_n hG (pc := 124) 0 dL_areSteps_124 rfl rfl ?_
                refine x_iload_n hG (pc := 125) 3 dL_areSteps_125 rfl rfl ?_
                refine x_bipush hG (pc := 126) 8 dL_areSteps_126 (by decide) ?_
                refine x_callV hG hO (pc := 128) [_, _] v_X6_ofPossession lk_L_58 hR1.main rfl rfl ⟨by decide, by decide⟩ (Nat.le_of_ble_eq_true rfl) (by rw [hG.mc]; exact Nat.le_of_ble_eq_true rfl) (by rw [hG.ms]; exact Nat.le_of_ble_eq_true rfl) dL_areSteps_128 ?_
                refine ⟨L, S, k, 8, rfl, hR1, hI, hkn, by decide, ?_⟩
                refine x_iconst hG (pc := 131) 2 dL_areSteps_131 (by decide) ?_
                refine x_icmp_eq hG (pc := 132) 137 dL_areSteps_132 (by decide) (fun h132 => ?_) (fun h132 => ?_)
                · refine x_aload_n hG (pc := 137) 1 dL_areSteps_137 rfl rfl ?_
                  refine x_iload_n hG (pc := 138) 3 dL_areSteps_138 rfl rfl ?_
                  refine x_iload hG (pc := 139) dL_areSteps_139 rfl ?_
                  refine x_iast hG (pc := 141) hq (vp_in_nI (show k < 16 by omega) (by decide)) dL_areSteps_141 ?_
                  rw [nI_clamp (by omega), show ofN S k 0 = gS S k 0 from rfl, stG_s hg]
                  refine x_gen (fun w2 e2 => ?_)
                  refine x_iinc hG (pc := 142) (nI (k + 1)) dL_areSteps_142 rfl (Nat.le_of_ble_eq_true rfl) rfl (nI_1' k) (by dsimp only [List.set]) ?_
                  refine x_goto hG (pc := 145) 2 dL_areSteps_145 (by decide) ?_
                  exact ih (k + 1) (by omega) (by omega) w2 _ _ _ (by rw [e2]; exact wup_s) rfl (fun b x hb hx => by rw [e2]; exact wup_t (tb := x.1) (eb := x.2) hq (hF b x hb hx) (fun z => hx (by rw [z])))
                · exact absurd (s4 h107).2 h132
      · refine x_aload_n hG (pc := 70) 0 dL_areSteps_70 rfl rfl ?_
        refine x_iload_n hG (pc := 71) 3 dL_areSteps_71 rfl rfl ?_
        refine x_iconst hG (pc := 72) 4 dL_areSteps_72 (by decide) ?_
        refine x_callV hG hO (pc := 73) [_, _] v_X6_ofPossession lk_L_58 hR1.main rfl rfl ⟨by decide, by decide⟩ (Nat.le_of_ble_eq_true rfl) (by rw [hG.mc]; exact Nat.le_of_ble_eq_true rfl) (by rw [hG.ms]; exact Nat.le_of_ble_eq_true rfl) dL_areSteps_73 ?_
        refine ⟨L, S, k, 4, rfl, hR1, hI, hkn, by decide, ?_⟩
        refine x_aload_n hG (pc := 76) 0 dL_areSteps_76 rfl rfl ?_
        refine x_iconst hG (pc := 77) 0 dL_areSteps_77 (by decide) ?_
        refine x_callV hG hO (pc := 78) [_] v_X6_many lk_L_28 hR1.main rfl rfl ⟨by decide, by decide⟩ (Nat.le_of_ble_eq_true rfl) (by rw [hG.mc]; exact Nat.le_of_ble_eq_true rfl) (by rw [hG.ms]; exact Nat.le_of_ble_eq_true rfl) dL_areSteps_78 ?_
        refine ⟨L, S, 0, rfl, hR1, hI, by decide, ?_⟩
        refine x_icmp_ge hG (pc := 81) 135 dL_areSteps_81 (by decide) (fun h81 => ?_) (fun h81 => ?_)
        · exact absurd h81 (s2 h67)
        · refine x_iload hG (pc := 84) dL_areSteps_84 rfl ?_
          refine x_iconst hG (pc := 86) 2 dL_areSteps_86 (by decide) ?_
          refine x_icmp_ge hG (pc := 87) 104 dL_areSteps_87 (by decide) (fun h87 => ?_) (fun h87 => ?_)
          · refine x_iload hG (pc := 104) dL_areSteps_104 rfl ?_
            refine x_iconst hG (pc := 106) 1 dL_areSteps_106 (by decide) ?_
            refine x_icmp_ne hG (pc := 107) 137 dL_areSteps_107 (by decide) (fun h107 => ?_) (fun h107 => ?_)
            · refine x_aload_n hG (pc := 137) 1 dL_areSteps_137 rfl rfl ?_
              refine x_iload_n hG (pc := 138) 3 dL_areSteps_138 rfl rfl ?_
              refine x_iload hG (pc := 139) dL_areSteps_139 rfl ?_
              refine x_iast hG (pc := 141) hq (vp_in_nI (show k < 16 by omega) (by decide)) dL_areSteps_141 ?_
              rw [nI_clamp (by omega), show ofN S k 0 = gS S k 0 from rfl, stG_s hg]
              refine x_gen (fun w2 e2 => ?_)
              refine x_iinc hG (pc := 142) (nI (k + 1)) dL_areSteps_142 rfl (Nat.le_of_ble_eq_true rfl) rfl (nI_1' k) (by dsimp only [List.set]) ?_
              refine x_goto hG (pc := 145) 2 dL_areSteps_145 (by decide) ?_
              exact ih (k + 1) (by omega) (by omega) w2 _ _ _ (by rw [e2]; exact wup_s) rfl (fun b x hb hx => by rw [e2]; exact wup_t (tb := x.1) (eb := x.2) hq (hF b x hb hx) (fun z => hx (by rw [z])))
            · refine x_aload_n hG (pc := 110) 0 dL_areSteps_110 rfl rfl ?_
              refine x_iload_n hG (pc := 111) 3 dL_areSteps_111 rfl rfl ?_
              refine x_iconst hG (pc := 112) 4 dL_areSteps_112 (by decide) ?_
              refine x_callV hG hO (pc := 113) [_, _] v_X6_ofPossession lk_L_58 hR1.main rfl rfl ⟨by decide, by decide⟩ (Nat.le_of_ble_eq_true rfl) (by rw [hG.mc]; exact Nat.le_of_ble_eq_true rfl) (by rw [hG.ms]; exact Nat.le_of_ble_eq_true rfl) dL_areSteps_113 ?_
              refine ⟨L, S, k, 4, rfl, hR1, hI, hkn, by decide, ?_⟩
              refine x_aload_n hG (pc := 116) 0 dL_areSteps_116 rfl rfl ?_
              refine x_iconst hG (pc := 117) 0 dL_areSteps_117 (by decide) ?_
              refine x_callV hG hO (pc := 118) [_] v_X6_many lk_L_28 hR1.main rfl rfl ⟨by decide, by decide⟩ (Nat.le_of_ble_eq_true rfl) (by rw [hG.mc]; exact Nat.le_of_ble_eq_true rfl) (by rw [hG.ms]; exact Nat.le_of_ble_eq_true rfl) dL_areSteps_118 ?_
              refine ⟨L, S, 0, rfl, hR1, hI, by decide, ?_⟩
              refine x_icmp_ne hG (pc := 121) 135 dL_areSteps_121 (by decide) (fun h121 => ?_) (fun h121 => ?_)
              · exact absurd (s4 h107).1 h121
              · refine x_aload_n hG (pc := 124) 0 dL_areSteps_124 rfl rfl ?_
                refine x_iload_n hG (pc := 125) 3 dL_areSteps_125 rfl rfl ?_
                refine x_bipush hG (pc := 126) 8 dL_areSteps_126 (by decide) ?_
                refine x_callV hG hO (pc := 128) [_, _] v_X6_ofPossession lk_L_58 hR1.main rfl rfl ⟨by decide, by decide⟩ (Nat.le_of_ble_eq_true rfl) (by rw [hG.mc]; exact Nat.le_of_ble_eq_true rfl) (by rw [hG.ms]; exact Nat.le_of_ble_eq_true rfl) dL_areSteps_128 ?_
                refine ⟨L, S, k, 8, rfl, hR1, hI, hkn, by decide, ?_⟩
                refine x_iconst hG (pc := 131) 2 dL_areSteps_131 (by decide) ?_
                refine x_icmp_eq hG (pc := 132) 137 dL_areSteps_132 (by decide) (fun h132 => ?_) (fun h132 => ?_)
                · refine x_aload_n hG (pc := 137) 1 dL_areSteps_137 rfl rfl ?_
                  refine x_iload_n hG (pc := 138) 3 dL_areSteps_138 rfl rfl ?_
                  refine x_iload hG (pc := 139) dL_areSteps_139 rfl ?_
                  refine x_iast hG (pc := 141) hq (vp_in_nI (show k < 16 by omega) (by decide)) dL_areSteps_141 ?_
                  rw [nI_clamp (by omega), show ofN S k 0 = gS S k 0 from rfl, stG_s hg]
                  refine x_gen (fun w2 e2 => ?_)
                  refine x_iinc hG (pc := 142) (nI (k + 1)) dL_areSteps_142 rfl (Nat.le_of_ble_eq_true rfl) rfl (nI_1' k) (by dsimp only [List.set]) ?_
                  refine x_goto hG (pc := 145) 2 dL_areSteps_145 (by decide) ?_
                  exact ih (k + 1) (by omega) (by omega) w2 _ _ _ (by rw [e2]; exact wup_s) rfl (fun b x hb hx => by rw [e2]; exact wup_t (tb := x.1) (eb := x.2) hq (hF b x hb hx) (fun z => hx (by rw [z])))
                · exact absurd (s4 h107).2 h132
          · refine x_aload_n hG (pc := 90) 0 dL_areSteps_90 rfl rfl ?_
            refine x_iload_n hG (pc := 91) 3 dL_areSteps_91 rfl rfl ?_
            refine x_iconst hG (pc := 92) 4 dL_areSteps_92 (by decide) ?_
            refine x_callV hG hO (pc := 93) [_, _] v_X6_ofPossession lk_L_58 hR1.main rfl rfl ⟨by decide, by decide⟩ (Nat.le_of_ble_eq_true rfl) (by rw [hG.mc]; exact Nat.le_of_ble_eq_true rfl) (by rw [hG.ms]; exact Nat.le_of_ble_eq_true rfl) dL_areSteps_93 ?_
            refine ⟨L, S, k, 4, rfl, hR1, hI, hkn, by decide, ?_⟩
            refine x_aload_n hG (pc := 96) 0 dL_areSteps_96 rfl rfl ?_
            refine x_iconst hG (pc := 97) 0 dL_areSteps_97 (by decide) ?_
            refine x_callV hG hO (pc := 98) [_] v_X6_many lk_L_28 hR1.main rfl rfl ⟨by decide, by decide⟩ (Nat.le_of_ble_eq_true rfl) (by rw [hG.mc]; exact Nat.le_of_ble_eq_true rfl) (by rw [hG.ms]; exact Nat.le_of_ble_eq_true rfl) dL_areSteps_98 ?_
            refine ⟨L, S, 0, rfl, hR1, hI, by decide, ?_⟩
            refine x_icmp_lt hG (pc := 101) 135 dL_areSteps_101 (by decide) (fun h101 => ?_) (fun h101 => ?_)
            · exact absurd h101 (s3 (Int32.not_le.mp h87))
            · refine x_iload hG (pc := 104) dL_areSteps_104 rfl ?_
              refine x_iconst hG (pc := 106) 1 dL_areSteps_106 (by decide) ?_
              refine x_icmp_ne hG (pc := 107) 137 dL_areSteps_107 (by decide) (fun h107 => ?_) (fun h107 => ?_)
              · refine x_aload_n hG (pc := 137) 1 dL_areSteps_137 rfl rfl ?_
                refine x_iload_n hG (pc := 138) 3 dL_areSteps_138 rfl rfl ?_
                refine x_iload hG (pc := 139) dL_areSteps_139 rfl ?_
                refine x_iast hG (pc := 141) hq (vp_in_nI (show k < 16 by omega) (by decide)) dL_areSteps_141 ?_
                rw [nI_clamp (by omega), show ofN S k 0 = gS S k 0 from rfl, stG_s hg]
                refine x_gen (fun w2 e2 => ?_)
                refine x_iinc hG (pc := 142) (nI (k + 1)) dL_areSteps_142 rfl (Nat.le_of_ble_eq_true rfl) rfl (nI_1' k) (by dsimp only [List.set]) ?_
                refine x_goto hG (pc := 145) 2 dL_areSteps_145 (by decide) ?_
                exact ih (k + 1) (by omega) (by omega) w2 _ _ _ (by rw [e2]; exact wup_s) rfl (fun b x hb hx => by rw [e2]; exact wup_t (tb := x.1) (eb := x.2) hq (hF b x hb hx) (fun z => hx (by rw [z])))
              · refine x_aload_n hG (pc := 110) 0 dL_areSteps_110 rfl rfl ?_
                refine x_iload_n hG (pc := 111) 3 dL_areSteps_111 rfl rfl ?_
                refine x_iconst hG (pc := 112) 4 dL_areSteps_112 (by decide) ?_
                refine x_callV hG hO (pc := 113) [_, _] v_X6_ofPossession lk_L_58 hR1.main rfl rfl ⟨by decide, by decide⟩ (Nat.le_of_ble_eq_true rfl) (by rw [hG.mc]; exact Nat.le_of_ble_eq_true rfl) (by rw [hG.ms]; exact Nat.le_of_ble_eq_true rfl) dL_areSteps_113 ?_
                refine ⟨L, S, k, 4, rfl, hR1, hI, hkn, by decide, ?_⟩
                refine x_aload_n hG (pc := 116) 0 dL_areSteps_116 rfl rfl ?_
                refine x_iconst hG (pc := 117) 0 dL_areSteps_117 (by decide) ?_
                refine x_callV hG hO (pc := 118) [_] v_X6_many lk_L_28 hR1.main rfl rfl ⟨by decide, by decide⟩ (Nat.le_of_ble_eq_true rfl) (by rw [hG.mc]; exact Nat.le_of_ble_eq_true rfl) (by rw [hG.ms]; exact Nat.le_of_ble_eq_true rfl) dL_areSteps_118 ?_
                refine ⟨L, S, 0, rfl, hR1, hI, by decide, ?_⟩
                refine x_icmp_ne hG (pc := 121) 135 dL_areSteps_121 (by decide) (fun h121 => ?_) (fun h121 => ?_)
                · exact absurd (s4 h107).1 h121
                · refine x_aload_n hG (pc := 124) 0 dL_areSteps_124 rfl rfl ?_
                  refine x_iload_n hG (pc := 125) 3 dL_areSteps_125 rfl rfl ?_
                  refine x_bipush hG (pc := 126) 8 dL_areSteps_126 (by decide) ?_
                  refine x_callV hG hO (pc := 128) [_, _] v_X6_ofPossession lk_L_58 hR1.main rfl rfl ⟨by decide, by decide⟩ (Nat.le_of_ble_eq_true rfl) (by rw [hG.mc]; exact Nat.le_of_ble_eq_true rfl) (by rw [hG.ms]; exact Nat.le_of_ble_eq_true rfl) dL_areSteps_128 ?_
                  refine ⟨L, S, k, 8, rfl, hR1, hI, hkn, by decide, ?_⟩
                  refine x_iconst hG (pc := 131) 2 dL_areSteps_131 (by decide) ?_
                  refine x_icmp_eq hG (pc := 132) 137 dL_areSteps_132 (by decide) (fun h132 => ?_) (fun h132 => ?_)
                  · refine x_aload_n hG (pc := 137) 1 dL_areSteps_137 rfl rfl ?_
                    refine x_iload_n hG (pc := 138) 3 dL_areSteps_138 rfl rfl ?_
                    refine x_iload hG (pc := 139) dL_areSteps_139 rfl ?_
                    refine x_iast hG (pc := 141) hq (vp_in_nI (show k < 16 by omega) (by decide)) dL_areSteps_141 ?_
                    rw [nI_clamp (by omega), show ofN S k 0 = gS S k 0 from rfl, stG_s hg]
                    refine x_gen (fun w2 e2 => ?_)
                    refine x_iinc hG (pc := 142) (nI (k + 1)) dL_areSteps_142 rfl (Nat.le_of_ble_eq_true rfl) rfl (nI_1' k) (by dsimp only [List.set]) ?_
                    refine x_goto hG (pc := 145) 2 dL_areSteps_145 (by decide) ?_
                    exact ih (k + 1) (by omega) (by omega) w2 _ _ _ (by rw [e2]; exact wup_s) rfl (fun b x hb hx => by rw [e2]; exact wup_t (tb := x.1) (eb := x.2) hq (hF b x hb hx) (fun z => hx (by rw [z])))
                  · exact absurd (s4 h107).2 h132
    refine x_iload hG (pc := 20) dL_areSteps_20 rfl ?_
    refine x_iload hG (pc := 22) dL_areSteps_22 rfl ?_
    refine x_icmp_eq hG (pc := 24) 64 dL_areSteps_24 (by decide) (fun h24 => ?_) (fun h24 => ?_)
    · exact K64
    · refine x_iload hG (pc := 27) dL_areSteps_27 rfl ?_
      refine x_if_ne hG (pc := 29) 50 dL_areSteps_29 (by decide) (fun h29 => ?_) (fun h29 => ?_)
      · refine x_iload hG (pc := 50) dL_areSteps_50 rfl ?_
        refine x_iconst hG (pc := 52) 1 dL_areSteps_52 (by decide) ?_
        refine x_icmp_ne hG (pc := 53) 62 dL_areSteps_53 (by decide) (fun h53 => ?_) (fun h53 => ?_)
        · exfalso
          rcases s1 with a | ⟨a, b | b | b⟩ | ⟨a, b⟩
          · exact h24 a
          · first | exact h35 b | exact h29 a
          · first | exact h41 b | exact h29 a
          · first | exact h47 b | exact h29 a
          · first | exact h59 b | exact h53 a | (rw [a] at h29; exact absurd h29 (by decide))
        · refine x_iload hG (pc := 56) dL_areSteps_56 rfl ?_
          refine x_iconst hG (pc := 58) 2 dL_areSteps_58 (by decide) ?_
          refine x_icmp_eq hG (pc := 59) 64 dL_areSteps_59 (by decide) (fun h59 => ?_) (fun h59 => ?_)
          · exact K64
          · exfalso
            rcases s1 with a | ⟨a, b | b | b⟩ | ⟨a, b⟩
            · exact h24 a
            · first | exact h35 b | exact h29 a
            · first | exact h41 b | exact h29 a
            · first | exact h47 b | exact h29 a
            · first | exact h59 b | exact h53 a | (rw [a] at h29; exact absurd h29 (by decide))
      · refine x_iload hG (pc := 32) dL_areSteps_32 rfl ?_
        refine x_iconst hG (pc := 34) 1 dL_areSteps_34 (by decide) ?_
        refine x_icmp_eq hG (pc := 35) 64 dL_areSteps_35 (by decide) (fun h35 => ?_) (fun h35 => ?_)
        · exact K64
        · refine x_iload hG (pc := 38) dL_areSteps_38 rfl ?_
          refine x_iconst hG (pc := 40) 3 dL_areSteps_40 (by decide) ?_
          refine x_icmp_eq hG (pc := 41) 64 dL_areSteps_41 (by decide) (fun h41 => ?_) (fun h41 => ?_)
          · exact K64
          · refine x_iload hG (pc := 44) dL_areSteps_44 rfl ?_
            refine x_iconst hG (pc := 46) 4 dL_areSteps_46 (by decide) ?_
            refine x_icmp_eq hG (pc := 47) 64 dL_areSteps_47 (by decide) (fun h47 => ?_) (fun h47 => ?_)
            · exact K64
            · refine x_iload hG (pc := 50) dL_areSteps_50 rfl ?_
              refine x_iconst hG (pc := 52) 1 dL_areSteps_52 (by decide) ?_
              refine x_icmp_ne hG (pc := 53) 62 dL_areSteps_53 (by decide) (fun h53 => ?_) (fun h53 => ?_)
              · exfalso
                rcases s1 with a | ⟨a, b | b | b⟩ | ⟨a, b⟩
                · exact h24 a
                · first | exact h35 b | exact h29 a
                · first | exact h41 b | exact h29 a
                · first | exact h47 b | exact h29 a
                · first | exact h59 b | exact h53 a | (rw [a] at h29; exact absurd h29 (by decide))
              · refine x_iload hG (pc := 56) dL_areSteps_56 rfl ?_
                refine x_iconst hG (pc := 58) 2 dL_areSteps_58 (by decide) ?_
                refine x_icmp_eq hG (pc := 59) 64 dL_areSteps_59 (by decide) (fun h59 => ?_) (fun h59 => ?_)
                · exact K64
                · exfalso
                  rcases s1 with a | ⟨a, b | b | b⟩ | ⟨a, b⟩
                  · exact h24 a
                  · first | exact h35 b | exact h29 a
                  · first | exact h41 b | exact h29 a
                  · first | exact h47 b | exact h29 a
                  · first | exact h59 b | exact h53 a | (rw [a] at h29; exact absurd h29 (by decide))
