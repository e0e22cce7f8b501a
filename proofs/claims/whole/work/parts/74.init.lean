/-! The reference: a new object -/
theorem va_D.two {A : Nat → Prop} {P Q : va_W} {a : Nat} {e d : va_E} (hD : va_D A (P ++ Q)) (h1 : (a, e) ∈ P) (h2 : (a, d) ∈ Q) : False := by
  obtain ⟨i, hi⟩ := List.getElem?_of_mem h1
  obtain ⟨j, hj⟩ := List.getElem?_of_mem h2
  have hl := (List.getElem?_eq_some_iff.mp hi).1
  have := hD.1 i (P.length + j) (a, e) (a, d) (by rw [List.getElem?_append_left hl]; exact hi) (by rw [List.getElem?_append_right (by omega), Nat.add_sub_cancel_left]; exact hj) rfl
  omega
def wupL (w : Wd) (r : Nat → Nat) (x : Nat → Tg × va_E) : Nat → Wd
  | 0 => w
  | i + 1 => wup (wupL w r x i) (r i) (x i)
theorem wupL_o {w : Wd} {r : Nat → Nat} {x : Nat → Tg × va_E} {b : Nat} : ∀ {n : Nat}, (∀ i, i < n → r i ≠ b) → wupL w r x n b = w b
  | 0, _ => rfl
  | n + 1, h => (wup_n (fun z => h n (by omega) z.symm)).trans (wupL_o (fun i hi => h i (by omega)))
theorem wupL_i {w : Wd} {r : Nat → Nat} {x : Nat → Tg × va_E} : ∀ {n : Nat}, (∀ i j, i < n → j < n → r i = r j → i = j) → ∀ i, i < n → wupL w r x n (r i) = some (x i)
  | 0, _, i, hi => absurd hi (Nat.not_lt_zero _)
  | n + 1, h, i, hi => by
    by_cases q : i = n
    · subst q
      exact wup_s
    · have hne : r i ≠ r n := fun z => q (h i n hi (by omega) z)
      exact (wup_n hne).trans (wupL_i (fun a b ha hb z => h a b (by omega) (by omega) z) i (by omega))
theorem x_newII {g : Cxt} {cc : ByteArray} {own nm : String} {rt : Option FieldType} {rm : Room} (hG : Cx g cc own nm rt rm) {w : Wd} {kc ks pc : Nat} {lv : List (Option Value)} {st : List Value} {N K idx : Nat} {n k : Int32} (t : Tg) (tr : Nat → Tg) (hL : Cond.classLink own idx "[[I" ∈ TB) (hn : ¬ n < 0) (hk : ¬ k < 0) (hN : n.toNatClampNeg = N) (hK : k.toNatClampNeg = K) (hbN : N ≤ 1000) (hbK : K ≤ 1000) (hd : decode cc pc = .ok (.multianewarray idx 2, 4)) (hkc : kc + (1 + N) ≤ gM g) (hks : ks + (N + N * K) ≤ gN g)
    (kk : ∀ (q : Nat) (r : Nat → Nat) (w1 : Wd), (∀ (b : Nat) (x : Tg × va_E), w b = some x → w1 b = some x) → w1 q = some (t, .inl (gK g 4, N, .inr (.inr (.inr (.inr (fun i => if i < N then some (r i) else none)))))) → (∀ i, i < N → w1 (r i) = some (tr i, .inl (gK g 0, K, .inl (fun _ => 0)))) → X g w1 (kc + 1 + N) (ks + N + N * K) (pc + 4) lv (.ref q :: st)) : X g w kc ks pc lv (.int k :: .int n :: st) := by
  obtain ⟨p, l, e, R, s, m, args, below, meth, c, Γ, nL, mc, ms, post, xpost⟩ := g
  obtain ⟨hF, hr, hlk, hE, hsl, rfl, hmc, hms, hnm⟩ := hG
  intro H locs ls hP hS hv
  have hP0 : va_P Γ.1 vwCl (wls w H.size ++ va_pl [] (fun _ => .inl (Γ.2.1 0, K, .inl (fun _ => 0)))) H := by
    rw [show va_pl [] (fun _ => (.inl (Γ.2.1 0, K, .inl (fun _ => 0)) : va_E)) = [] from rfl, List.append_nil]
    exact wls_P hP
  have hD0 : va_D (n0A Γ) (wls w H.size ++ va_pl [] (fun _ => .inl (Γ.2.1 0, K, .inl (fun _ => 0)))) := by
    rw [show va_pl [] (fun _ => (.inl (Γ.2.1 0, K, .inl (fun _ => 0)) : va_E)) = [] from rfl, List.append_nil]
    exact wls_D hP
  refine va_mna (ty := .int) (cy := Γ.2.1 0) (z := (K, .inl (fun _ => 0))) hF.1 hF.2.1 hF.2.2.2.1 (hF.2.2.2.2 _ hL) hE.2.2.2.2.2.2.2.2.2.2.2.1 (hF.2.2.2.2 _ ac_int) (hE.1.2 0 _ rfl).2 hE.1 hP0 hD0 hS (fun q hq => Nat.le_trans hE.2.2.2.2.2.2.2.1 hq) hn hk hN hK (by omega) (by show K * 4 ≤ _; omega) (by omega) rfl rfl (by rw [hmc]; exact hkc) (by rw [hms]; exact hks) (fun cA => by show ({ cls := cA, slots := Array.replicate K (.int 0), vm := .none } : Cell) = _; rw [arrV_new]; rfl) hd (fun q r cA H1 hinj hnl hK1 p1 d1 s1 => ?_)
  have hcA : cA = Γ.2.1 4 := Option.some.inj ((hK1.2 7 _ rfl).2.symm.trans (hE.1.2 4 _ rfl).2)
  subst hcA
  have hin : ∀ (a : Nat) (y : va_E), (a, y) ∈ (wls w H.size ++ [(q, .inl (Γ.2.1 4, N, .inr (.inr (.inr (.inr (fun i => if i < N then some (r i) else none))))))]) ++ va_pl ([] ++ (List.range N).map r) (vr_up (fun _ => .inl (Γ.2.1 0, K, .inl (fun _ => 0))) ((List.range N).map r) (.inl (Γ.2.1 0, K, .inl (fun _ => 0)))) → n0A Γ a ∧ va_at Γ.1 vwCl (a, y) H1 := by
    intro a y h
    obtain ⟨i, hi⟩ := List.getElem?_of_mem h
    exact ⟨d1.2 i _ hi, p1 i _ hi⟩
  have hrow : ∀ i, i < N → (r i, (.inl (Γ.2.1 0, K, .inl (fun _ => 0)) : va_E)) ∈ va_pl ([] ++ (List.range N).map r) (vr_up (fun _ => .inl (Γ.2.1 0, K, .inl (fun _ => 0))) ((List.range N).map r) (.inl (Γ.2.1 0, K, .inl (fun _ => 0)))) := by
    intro i hi
    have h1 : r i ∈ (List.range N).map r := List.mem_map.mpr ⟨i, List.mem_range.mpr hi, rfl⟩
    unfold va_pl
    rw [List.nil_append]
    refine List.mem_map.mpr ⟨r i, h1, ?_⟩
    rw [vr_up_in h1]
  have hq0 : w q = none := by
    cases hw : w q with
    | none => rfl
    | some x =>
      exfalso
      have hD1 : va_D (n0A Γ) (wls w H.size ++ ([(q, .inl (Γ.2.1 4, N, .inr (.inr (.inr (.inr (fun i => if i < N then some (r i) else none))))))] ++ va_pl ([] ++ (List.range N).map r) (vr_up (fun _ => .inl (Γ.2.1 0, K, .inl (fun _ => 0))) ((List.range N).map r) (.inl (Γ.2.1 0, K, .inl (fun _ => 0)))))) := by
        rw [← List.append_assoc]
        exact d1
      exact va_D.two hD1 (wls_mem.mpr ⟨hP.lt hw, x.1, hw⟩) (List.mem_append_left _ List.mem_cons_self)
  have hrq : ∀ i, i < N → r i ≠ q := by
    intro i hi z
    exact va_D.two d1 (List.mem_append_right _ (by rw [z]; exact List.mem_cons_self)) (hrow i hi)
  have hr0 : ∀ i, i < N → w (r i) = none := by
    intro i hi
    cases hw : w (r i) with
    | none => rfl
    | some x => exact (va_D.two d1 (List.mem_append_left _ (wls_mem.mpr ⟨hP.lt hw, x.1, hw⟩)) (hrow i hi)).elim
  have key := kk q r (wupL (wup w q (t, .inl (Γ.2.1 4, N, .inr (.inr (.inr (.inr (fun i => if i < N then some (r i) else none))))))) r (fun i => (tr i, .inl (Γ.2.1 0, K, .inl (fun _ => 0)))) N) (fun b x hb => ?_) ((wupL_o hrq).trans wup_s) (fun i hi => wupL_i hinj i hi)
  · refine key H1 locs ls (fun b x hb => ?_) s1 hv
    by_cases h1 : ∃ i, i < N ∧ r i = b
    · obtain ⟨i, hi, rfl⟩ := h1
      rw [wupL_i hinj i hi] at hb
      cases hb
      exact hin _ _ (List.mem_append_right _ (hrow i hi))
    · rw [wupL_o (fun i hi z => h1 ⟨i, hi, z⟩)] at hb
      by_cases h2 : b = q
      · subst h2
        rw [wup_s] at hb
        cases hb
        exact hin _ _ (List.mem_append_left _ (List.mem_append_right _ List.mem_cons_self))
      · rw [wup_n h2] at hb
        exact hin _ _ (List.mem_append_left _ (List.mem_append_left _ (wls_mem.mpr ⟨hP.lt hb, x.1, hb⟩)))
  · refine (wupL_o (fun i hi z => ?_)).trans (wup_f hq0 hb)
    have h0 := hr0 i hi
    rw [z, hb] at h0
    cases h0
theorem sec0_e : rset (rset (fun _ => (0 : Int32)) 4 27) 6 160 = sec0 := by
  funext j
  unfold rset sec0
  by_cases a : j = 6
  · rw [if_pos a, if_neg (by omega), if_pos a]
  · rw [if_neg a]
    by_cases b : j = 4
    · rw [if_pos b, if_pos b]
    · rw [if_neg b, if_neg b, if_neg a]
/-- the sections of a new object, i of them told -/
def InM (Γ : Gw) (wS w : Wd) (r : Nat → Nat) (i : Nat) : Prop := (∀ j, j < i → w (r j) = some ((52, j, 0), aI Γ.2.1 7 sec0)) ∧ (∀ j, i ≤ j → j < 20 → w (r j) = some ((52, j, 0), aI Γ.2.1 7 (fun _ => 0))) ∧ ∀ (b : Nat) (x : Tg × va_E), wS b = some x → x.1.1 ≠ 52 → w b = some x
theorem InM.st {Γ : Gw} {wS w w2 : Wd} {r : Nat → Nat} {i : Nat} (h : InM Γ wS w r i) (hi : i < 20) (e : w2 = wup w (r i) ((52, i, 0), aI Γ.2.1 7 sec0)) : InM Γ wS w2 r (i + 1) := by
  obtain ⟨h1, h2, h3⟩ := h
  have hc := h2 i (Nat.le_refl _) hi
  refine ⟨fun j hj => ?_, fun j hj hj2 => ?_, fun b x hb hx => ?_⟩
  · by_cases q : j = i
    · subst q
      exact (congrFun e _).trans wup_s
    · exact (congrFun e _).trans (wup_t hc (h1 j (by omega)) (fun z => q (congrArg (fun y : Tg => y.2.1) z)))
  · exact (congrFun e _).trans (wup_t hc (h2 j (by omega) hj2) (fun z => by have := congrArg (fun y : Tg => y.2.1) z; dsimp only at this; omega))
  · exact (congrFun e _).trans (wup_t (tb := x.1) (eb := x.2) hc (h3 b x hb hx) (fun z => hx (by rw [z])))
set_option maxHeartbeats 1000000 in
set_option maxRecDepth 100000 in
theorem c_X7_init : CtrA yX7_init cX7_init 5 none (rmk 4 24 169 80) (fun Γ av w post _ => ∃ a, av = [.ref a] ∧ w a = some ((50, 0, 0), .inr (9, [.int 0, .null, .null, .null, .null, .int 0, .int 0, .int 0, .int 0, .int 0, .int 0, .long 0])) ∧ ∀ (L : LayM) (w1 : Wd), thM L = a → RepM Γ L S0 w1 → FrC w w1 → post none w1) := by
  refine ctr_of (by decide) ?_
  rintro g av w hG hO ⟨a, rfl, ha, hk⟩
  refine ⟨Nat.le_of_ble_eq_true rfl, ?_⟩
  show X g w 0 0 0 [some (.ref a), none, none, none, none] []
  refine x_aload_n hG (pc := 0) 0 dX7_init_0 rfl rfl ?_
  refine x_objInit hG (pc := 1) oi_X7_3 oi_i oi_c dX7_init_1 (by decide) (Nat.le_of_ble_eq_true rfl) (Nat.le_of_ble_eq_true rfl) ?_
  refine x_aload_n hG (pc := 4) 0 dX7_init_4 rfl rfl ?_
  refine x_bipush hG (pc := 5) 20 dX7_init_5 (by decide) ?_
  refine x_bipush hG (pc := 7) 7 dX7_init_7 (by decide) ?_
  refine x_newII hG (pc := 9) (51, 0, 0) (fun i => (52, i, 0)) ckl_X7_9 (by decide) (by decide) (N := 20) (K := 7) (by decide) (by decide) (by decide) (by decide) dX7_init_9 (by rw [hG.mc]; dsimp only [rmk]; omega) (by rw [hG.ms]; dsimp only [rmk]; omega) (fun q2 r w1 hext hs_1 hrow_1 => ?_)
  have ha_1 := hext _ _ ha
  have hfr_1 : ∀ (b : Nat) (x : Tg × va_E), w b = some x → ¬ (50 ≤ x.1.1 ∧ x.1.1 < 80) → w1 b = some x := fun b x hb _ => hext b x hb
  refine x_putfF hG (pc := 13) flp_X7_11 fw_9 ft_9_1 ha_1 (Nat.le_of_ble_eq_true rfl) rfl rfl (by dsimp only [List.set]) dX7_init_13 rfl ?_
  refine x_gen (fun w2 e2 => ?_)
  have hs_2 := (congrFun e2 q2).trans (wup_t ha_1 hs_1 (by intro z; cases z))
  have ha_2 := (congrFun e2 a).trans wup_s
  have hrow_2 : ∀ i, i < 20 → w2 (r i) = some ((52, i, 0), .inl (gK g 0, 7, .inl (fun _ => 0))) := fun i hi => (congrFun e2 _).trans (wup_t ha_1 (hrow_1 i hi) (by intro z; cases z))
  have hfr_2 : ∀ (b : Nat) (x : Tg × va_E), w b = some x → ¬ (50 ≤ x.1.1 ∧ x.1.1 < 80) → w2 b = some x := fun b x hb hx => (congrFun e2 b).trans (wup_t (tb := x.1) (eb := x.2) ha_1 (hfr_1 b x hb hx) (fun z => hx (by rw [z]; exact ⟨Nat.le_of_ble_eq_true rfl, Nat.le_of_ble_eq_true rfl⟩)))
  refine x_aload_n hG (pc := 16) 0 dX7_init_16 rfl rfl ?_
  refine x_new hG (pc := 17) (53, 1, 0) nw_X7_14 dX7_init_17 (by rw [hG.mc]; dsimp only [rmk]; omega) (by rw [hG.ms]; dsimp only [rmk]; omega) (fun l1 hfl1 hnl1 => ?_)
  refine x_gen (fun w3 e3 => ?_)
  have ha_3 := (congrFun e3 a).trans (wup_f hfl1 ha_2)
  have hs_3 := (congrFun e3 q2).trans (wup_f hfl1 hs_2)
  have hl1_3 := (congrFun e3 l1).trans wup_s
  have hrow_3 : ∀ i, i < 20 → w3 (r i) = some ((52, i, 0), .inl (gK g 0, 7, .inl (fun _ => 0))) := fun i hi => (congrFun e3 _).trans (wup_f hfl1 (hrow_2 i hi))
  have hfr_3 : ∀ (b : Nat) (x : Tg × va_E), w b = some x → ¬ (50 ≤ x.1.1 ∧ x.1.1 < 80) → w3 b = some x := fun b x hb hx => (congrFun e3 b).trans (wup_f hfl1 (hfr_2 b x hb hx))
  refine x_dup hG (pc := 20) dX7_init_20 rfl ?_
  refine x_callI hG hO (pc := 21) [] c_Jx4a65c_init_da8c8 lk_X7_16 rfl rfl ⟨by decide, by decide⟩ (Nat.le_of_ble_eq_true rfl) (by rw [hG.mc]; dsimp only [rmk]; omega) (by rw [hG.ms]; dsimp only [rmk]; omega) dX7_init_21 ?_
  refine ⟨l1, _, _, rfl, hl1_3, ?_⟩
  refine x_gen (fun w4 e4 => ?_)
  have ha_4 := (congrFun e4 a).trans (wup_t hl1_3 ha_3 (by intro z; cases z))
  have hs_4 := (congrFun e4 q2).trans (wup_t hl1_3 hs_3 (by intro z; cases z))
  have hl1_4 := (congrFun e4 l1).trans wup_s
  have hrow_4 : ∀ i, i < 20 → w4 (r i) = some ((52, i, 0), .inl (gK g 0, 7, .inl (fun _ => 0))) := fun i hi => (congrFun e4 _).trans (wup_t hl1_3 (hrow_3 i hi) (by intro z; cases z))
  have hfr_4 : ∀ (b : Nat) (x : Tg × va_E), w b = some x → ¬ (50 ≤ x.1.1 ∧ x.1.1 < 80) → w4 b = some x := fun b x hb hx => (congrFun e4 b).trans (wup_t (tb := x.1) (eb := x.2) hl1_3 (hfr_3 b x hb hx) (fun z => hx (by rw [z]; exact ⟨Nat.le_of_ble_eq_true rfl, Nat.le_of_ble_eq_true rfl⟩)))
  refine x_putfF hG (pc := 24) flp_X7_17 fw_9 ft_9_2 ha_4 (Nat.le_of_ble_eq_true rfl) rfl rfl (by dsimp only [List.set]) dX7_init_24 rfl ?_
  refine x_gen (fun w5 e5 => ?_)
  have hs_5 := (congrFun e5 q2).trans (wup_t ha_4 hs_4 (by intro z; cases z))
  have hl1_5 := (congrFun e5 l1).trans (wup_t ha_4 hl1_4 (by intro z; cases z))
  have ha_5 := (congrFun e5 a).trans wup_s
  have hrow_5 : ∀ i, i < 20 → w5 (r i) = some ((52, i, 0), .inl (gK g 0, 7, .inl (fun _ => 0))) := fun i hi => (congrFun e5 _).trans (wup_t ha_4 (hrow_4 i hi) (by intro z; cases z))
  have hfr_5 : ∀ (b : Nat) (x : Tg × va_E), w b = some x → ¬ (50 ≤ x.1.1 ∧ x.1.1 < 80) → w5 b = some x := fun b x hb hx => (congrFun e5 b).trans (wup_t (tb := x.1) (eb := x.2) ha_4 (hfr_4 b x hb hx) (fun z => hx (by rw [z]; exact ⟨Nat.le_of_ble_eq_true rfl, Nat.le_of_ble_eq_true rfl⟩)))
  refine x_aload_n hG (pc := 27) 0 dX7_init_27 rfl rfl ?_
  refine x_new hG (pc := 28) (53, 2, 0) nw_X7_14 dX7_init_28 (by rw [hG.mc]; dsimp only [rmk]; omega) (by rw [hG.ms]; dsimp only [rmk]; omega) (fun l2 hfl2 hnl2 => ?_)
  refine x_gen (fun w6 e6 => ?_)
  have ha_6 := (congrFun e6 a).trans (wup_f hfl2 ha_5)
  have hs_6 := (congrFun e6 q2).trans (wup_f hfl2 hs_5)
  have hl1_6 := (congrFun e6 l1).trans (wup_f hfl2 hl1_5)
  have hl2_6 := (congrFun e6 l2).trans wup_s
  have hrow_6 : ∀ i, i < 20 → w6 (r i) = some ((52, i, 0), .inl (gK g 0, 7, .inl (fun _ => 0))) := fun i hi => (congrFun e6 _).trans (wup_f hfl2 (hrow_5 i hi))
  have hfr_6 : ∀ (b : Nat) (x : Tg × va_E), w b = some x → ¬ (50 ≤ x.1.1 ∧ x.1.1 < 80) → w6 b = some x := fun b x hb hx => (congrFun e6 b).trans (wup_f hfl2 (hfr_5 b x hb hx))
  refine x_dup hG (pc := 31) dX7_init_31 rfl ?_
  refine x_callI hG hO (pc := 32) [] c_Jx4a65c_init_da8c8 lk_X7_16 rfl rfl ⟨by decide, by decide⟩ (Nat.le_of_ble_eq_true rfl) (by rw [hG.mc]; dsimp only [rmk]; omega) (by rw [hG.ms]; dsimp only [rmk]; omega) dX7_init_32 ?_
  refine ⟨l2, _, _, rfl, hl2_6, ?_⟩
  refine x_gen (fun w7 e7 => ?_)
  have ha_7 := (congrFun e7 a).trans (wup_t hl2_6 ha_6 (by intro z; cases z))
  have hs_7 := (congrFun e7 q2).trans (wup_t hl2_6 hs_6 (by intro z; cases z))
  have hl1_7 := (congrFun e7 l1).trans (wup_t hl2_6 hl1_6 (by intro z; cases z))
  have hl2_7 := (congrFun e7 l2).trans wup_s
  have hrow_7 : ∀ i, i < 20 → w7 (r i) = some ((52, i, 0), .inl (gK g 0, 7, .inl (fun _ => 0))) := fun i hi => (congrFun e7 _).trans (wup_t hl2_6 (hrow_6 i hi) (by intro z; cases z))
  have hfr_7 : ∀ (b : Nat) (x : Tg × va_E), w b = some x → ¬ (50 ≤ x.1.1 ∧ x.1.1 < 80) → w7 b = some x := fun b x hb hx => (congrFun e7 b).trans (wup_t (tb := x.1) (eb := x.2) hl2_6 (hfr_6 b x hb hx) (fun z => hx (by rw [z]; exact ⟨Nat.le_of_ble_eq_true rfl, Nat.le_of_ble_eq_true rfl⟩)))
  refine x_putfF hG (pc := 35) flp_X7_21 fw_9 ft_9_3 ha_7 (Nat.le_of_ble_eq_true rfl) rfl rfl (by dsimp only [List.set]) dX7_init_35 rfl ?_
  refine x_gen (fun w8 e8 => ?_)
  have hs_8 := (congrFun e8 q2).trans (wup_t ha_7 hs_7 (by intro z; cases z))
  have hl1_8 := (congrFun e8 l1).trans (wup_t ha_7 hl1_7 (by intro z; cases z))
  have hl2_8 := (congrFun e8 l2).trans (wup_t ha_7 hl2_7 (by intro z; cases z))
  have ha_8 := (congrFun e8 a).trans wup_s
  have hrow_8 : ∀ i, i < 20 → w8 (r i) = some ((52, i, 0), .inl (gK g 0, 7, .inl (fun _ => 0))) := fun i hi => (congrFun e8 _).trans (wup_t ha_7 (hrow_7 i hi) (by intro z; cases z))
  have hfr_8 : ∀ (b : Nat) (x : Tg × va_E), w b = some x → ¬ (50 ≤ x.1.1 ∧ x.1.1 < 80) → w8 b = some x := fun b x hb hx => (congrFun e8 b).trans (wup_t (tb := x.1) (eb := x.2) ha_7 (hfr_7 b x hb hx) (fun z => hx (by rw [z]; exact ⟨Nat.le_of_ble_eq_true rfl, Nat.le_of_ble_eq_true rfl⟩)))
  refine x_aload_n hG (pc := 38) 0 dX7_init_38 rfl rfl ?_
  refine x_new hG (pc := 39) (53, 0, 0) nw_X7_14 dX7_init_39 (by rw [hG.mc]; dsimp only [rmk]; omega) (by rw [hG.ms]; dsimp only [rmk]; omega) (fun l0 hfl0 hnl0 => ?_)
  refine x_gen (fun w9 e9 => ?_)
  have ha_9 := (congrFun e9 a).trans (wup_f hfl0 ha_8)
  have hs_9 := (congrFun e9 q2).trans (wup_f hfl0 hs_8)
  have hl1_9 := (congrFun e9 l1).trans (wup_f hfl0 hl1_8)
  have hl2_9 := (congrFun e9 l2).trans (wup_f hfl0 hl2_8)
  have hl0_9 := (congrFun e9 l0).trans wup_s
  have hrow_9 : ∀ i, i < 20 → w9 (r i) = some ((52, i, 0), .inl (gK g 0, 7, .inl (fun _ => 0))) := fun i hi => (congrFun e9 _).trans (wup_f hfl0 (hrow_8 i hi))
  have hfr_9 : ∀ (b : Nat) (x : Tg × va_E), w b = some x → ¬ (50 ≤ x.1.1 ∧ x.1.1 < 80) → w9 b = some x := fun b x hb hx => (congrFun e9 b).trans (wup_f hfl0 (hfr_8 b x hb hx))
  refine x_dup hG (pc := 42) dX7_init_42 rfl ?_
  refine x_callI hG hO (pc := 43) [] c_Jx4a65c_init_da8c8 lk_X7_16 rfl rfl ⟨by decide, by decide⟩ (Nat.le_of_ble_eq_true rfl) (by rw [hG.mc]; dsimp only [rmk]; omega) (by rw [hG.ms]; dsimp only [rmk]; omega) dX7_init_43 ?_
  refine ⟨l0, _, _, rfl, hl0_9, ?_⟩
  refine x_gen (fun w10 e10 => ?_)
  have ha_10 := (congrFun e10 a).trans (wup_t hl0_9 ha_9 (by intro z; cases z))
  have hs_10 := (congrFun e10 q2).trans (wup_t hl0_9 hs_9 (by intro z; cases z))
  have hl1_10 := (congrFun e10 l1).trans (wup_t hl0_9 hl1_9 (by intro z; cases z))
  have hl2_10 := (congrFun e10 l2).trans (wup_t hl0_9 hl2_9 (by intro z; cases z))
  have hl0_10 := (congrFun e10 l0).trans wup_s
  have hrow_10 : ∀ i, i < 20 → w10 (r i) = some ((52, i, 0), .inl (gK g 0, 7, .inl (fun _ => 0))) := fun i hi => (congrFun e10 _).trans (wup_t hl0_9 (hrow_9 i hi) (by intro z; cases z))
  have hfr_10 : ∀ (b : Nat) (x : Tg × va_E), w b = some x → ¬ (50 ≤ x.1.1 ∧ x.1.1 < 80) → w10 b = some x := fun b x hb hx => (congrFun e10 b).trans (wup_t (tb := x.1) (eb := x.2) hl0_9 (hfr_9 b x hb hx) (fun z => hx (by rw [z]; exact ⟨Nat.le_of_ble_eq_true rfl, Nat.le_of_ble_eq_true rfl⟩)))
  refine x_putfF hG (pc := 46) flp_X7_24 fw_9 ft_9_4 ha_10 (Nat.le_of_ble_eq_true rfl) rfl rfl (by dsimp only [List.set]) dX7_init_46 rfl ?_
  refine x_gen (fun w11 e11 => ?_)
  have hs_11 := (congrFun e11 q2).trans (wup_t ha_10 hs_10 (by intro z; cases z))
  have hl1_11 := (congrFun e11 l1).trans (wup_t ha_10 hl1_10 (by intro z; cases z))
  have hl2_11 := (congrFun e11 l2).trans (wup_t ha_10 hl2_10 (by intro z; cases z))
  have hl0_11 := (congrFun e11 l0).trans (wup_t ha_10 hl0_10 (by intro z; cases z))
  have ha_11 := (congrFun e11 a).trans wup_s
  have hrow_11 : ∀ i, i < 20 → w11 (r i) = some ((52, i, 0), .inl (gK g 0, 7, .inl (fun _ => 0))) := fun i hi => (congrFun e11 _).trans (wup_t ha_10 (hrow_10 i hi) (by intro z; cases z))
  have hfr_11 : ∀ (b : Nat) (x : Tg × va_E), w b = some x → ¬ (50 ≤ x.1.1 ∧ x.1.1 < 80) → w11 b = some x := fun b x hb hx => (congrFun e11 b).trans (wup_t (tb := x.1) (eb := x.2) ha_10 (hfr_10 b x hb hx) (fun z => hx (by rw [z]; exact ⟨Nat.le_of_ble_eq_true rfl, Nat.le_of_ble_eq_true rfl⟩)))
  refine x_aload_n hG (pc := 49) 0 dX7_init_49 rfl rfl ?_
  refine x_bipush hG (pc := 50) 20 dX7_init_50 (by decide) ?_
  refine x_putf hG (pc := 52) fl_X7_27 fw_9 ft_9_6 ha_11 (Nat.le_of_ble_eq_true rfl) rfl rfl (by dsimp only [List.set]) dX7_init_52 ?_
  refine x_gen (fun w12 e12 => ?_)
  have hs_12 := (congrFun e12 q2).trans (wup_t ha_11 hs_11 (by intro z; cases z))
  have hl1_12 := (congrFun e12 l1).trans (wup_t ha_11 hl1_11 (by intro z; cases z))
  have hl2_12 := (congrFun e12 l2).trans (wup_t ha_11 hl2_11 (by intro z; cases z))
  have hl0_12 := (congrFun e12 l0).trans (wup_t ha_11 hl0_11 (by intro z; cases z))
  have ha_12 := (congrFun e12 a).trans wup_s
  have hrow_12 : ∀ i, i < 20 → w12 (r i) = some ((52, i, 0), .inl (gK g 0, 7, .inl (fun _ => 0))) := fun i hi => (congrFun e12 _).trans (wup_t ha_11 (hrow_11 i hi) (by intro z; cases z))
  have hfr_12 : ∀ (b : Nat) (x : Tg × va_E), w b = some x → ¬ (50 ≤ x.1.1 ∧ x.1.1 < 80) → w12 b = some x := fun b x hb hx => (congrFun e12 b).trans (wup_t (tb := x.1) (eb := x.2) ha_11 (hfr_11 b x hb hx) (fun z => hx (by rw [z]; exact ⟨Nat.le_of_ble_eq_true rfl, Nat.le_of_ble_eq_true rfl⟩)))
  refine x_aload_n hG (pc := 55) 0 dX7_init_55 rfl rfl ?_
  refine x_getf hG (pc := 56) fl_X7_11 ha_12 rfl dX7_init_56 ?_
  refine x_astore_n hG (pc := 59) 1 dX7_init_59 rfl (Nat.le_of_ble_eq_true rfl) rfl (by dsimp only [List.set]) ?_
  refine x_aload_n hG (pc := 60) 1 dX7_init_60 rfl rfl ?_
  refine x_alenII hG (pc := 61) hs_12 dX7_init_61 ?_
  refine x_istore_n hG (pc := 62) 2 dX7_init_62 rfl (Nat.le_of_ble_eq_true rfl) rfl (by dsimp only [List.set]) ?_
  refine x_iconst hG (pc := 63) 0 dX7_init_63 (by decide) ?_
  refine x_istore_n hG (pc := 64) 3 dX7_init_64 rfl (Nat.le_of_ble_eq_true rfl) rfl (by dsimp only [List.set]) ?_
  have hI0 : InM (gΓ g) w12 w12 r 0 := ⟨fun j hj => absurd hj (Nat.not_lt_zero _), fun j _ hj => hrow_12 j hj, fun b x hb _ => hb⟩
  refine nat_down (P := fun i => ∀ (w9 : Wd) (z : Option Value), InM (gΓ g) w12 w9 r i → X g w9 24 169 65 [some (.ref a), some (.ref q2), some (.int (nI 20)), some (.int (nI i)), z] []) 20 (fun i hi20 ih w9 z hI => ?_) 0 (Nat.zero_le _) w12 none hI0
  have hs9 := hI.2.2 _ _ hs_12 (by show 51 ≠ 52; decide)
  refine x_iload_n hG (pc := 65) 3 dX7_init_65 rfl rfl ?_
  refine x_iload_n hG (pc := 66) 2 dX7_init_66 rfl rfl ?_
  refine x_icmp_ge hG (pc := 67) 95 dX7_init_67 (by decide) (fun h67 => ?_) (fun h67 => ?_)
  · have hie : i = 20 := by
      rcases Nat.lt_or_ge i 20 with q | q
      · exact absurd h67 (nI_ge (b := 20) q (by decide))
      · omega
    refine x_return hG (pc := 95) dX7_init_95 rfl (by rw [hG.mc]; dsimp only [rmk]; omega) (by rw [hG.ms]; dsimp only [rmk]; omega) ?_
    subst hie
    have hL : ∃ L : LayM, thM L = a ∧ RepM (gΓ g) L S0 w9 := by
      refine ⟨((fun t => if t.1 = 50 then a else if t.1 = 51 then q2 else if t.1 = 52 then r t.2.1 else if t.1 = 53 then (if t.2.1 = 0 then l0 else if t.2.1 = 1 then l1 else l2) else 0), fun _ => (gΓ g).2.2.2.1, fun _ => 0, fun _ => 0, 0, 0), rfl, ?_⟩
      refine ⟨(hI.2.2 _ _ ha_12 (by show 50 ≠ 52; decide)), ?_, fun i hi => hI.1 i hi, fun id hid => ?_, fun k hk => absurd hk (Nat.not_lt_zero _), fun k hk => absurd hk (Nat.not_lt_zero _), fun k hk => absurd hk (Nat.not_lt_zero _)⟩
      · exact hs9
      · rcases (show id = 0 ∨ id = 1 ∨ id = 2 by omega) with rfl | rfl | rfl
        · exact ⟨(hI.2.2 _ _ hl0_12 (by show 53 ≠ 52; decide)), Or.inr ⟨rfl, rfl, rfl⟩⟩
        · exact ⟨(hI.2.2 _ _ hl1_12 (by show 53 ≠ 52; decide)), Or.inr ⟨rfl, rfl, rfl⟩⟩
        · exact ⟨(hI.2.2 _ _ hl2_12 (by show 53 ≠ 52; decide)), Or.inr ⟨rfl, rfl, rfl⟩⟩
    obtain ⟨L, hth, hR⟩ := hL
    exact hk L w9 hth hR (fun b x hb hx => hI.2.2 b x (hfr_12 b x hb hx) (fun z => hx (by omega)))
  · have hin : i < 20 := by
      rcases Nat.lt_or_ge i 20 with q | q
      · exact q
      · exact absurd (nI_le (a := 20) q (by omega)) h67
    refine x_aload_n hG (pc := 70) 1 dX7_init_70 rfl rfl ?_
    refine x_iload_n hG (pc := 71) 3 dX7_init_71 rfl rfl ?_
    refine x_aaldI hG (pc := 72) hs9 (vp_in_nI hin (by decide)) dX7_init_72 ?_
    rw [nI_clamp (by omega), if_pos hin]
    show X g w9 _ _ _ _ [.ref (r i)]
    have hc9 := hI.2.1 i (Nat.le_refl _) hin
    refine x_astore hG (pc := 73) dX7_init_73 (Nat.le_of_ble_eq_true rfl) rfl (by dsimp only [List.set]) ?_
    refine x_aload hG (pc := 75) dX7_init_75 rfl ?_
    refine x_iconst hG (pc := 77) 4 dX7_init_77 (by decide) ?_
    refine x_bipush hG (pc := 78) 27 dX7_init_78 (by decide) ?_
    refine x_iastN hG (pc := 80) (c := 4) hc9 (by decide) dX7_init_80 ?_
    refine x_gen (fun v1 z1 => ?_)
    have hc10 := (congrFun z1 _).trans wup_s
    refine x_aload hG (pc := 81) dX7_init_81 rfl ?_
    refine x_bipush hG (pc := 83) 6 dX7_init_83 (by decide) ?_
    refine x_sipush hG (pc := 85) 160 dX7_init_85 (by decide) ?_
    refine x_iastN hG (pc := 88) (c := 6) hc10 (by decide) dX7_init_88 ?_
    rw [sec0_e]
    refine x_gen (fun v2 z2 => ?_)
    have z3 : v2 = wup w9 (r i) ((52, i, 0), aI (gK g) 7 sec0) := by rw [z2, z1, wup_w]
    refine x_iinc hG (pc := 89) (nI (i + 1)) dX7_init_89 rfl (Nat.le_of_ble_eq_true rfl) rfl (nI_1' i) (by dsimp only [List.set]) ?_
    refine x_goto hG (pc := 92) 65 dX7_init_92 (by decide) ?_
    exact ih (i + 1) (by omega) (by omega) v2 _ (hI.st hin z3)
