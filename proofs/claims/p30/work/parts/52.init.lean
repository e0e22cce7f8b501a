/-! TrackNights: a new object -/
def sec0 : Nat → Int32 := fun x => if x = 4 then 27 else if x = 6 then 160 else 0
def S0 : St := (fun _ => sec0, (0, fun _ _ => 0), (0, fun _ _ => 0), (0, fun _ _ => 0), fun x => if x = 1 then 20 else 0)
def InI (Γ : Gw) (wS w : Wd) (q2 : Nat) (i : Nat) (q3 q4 : Nat → Nat) : Prop :=
  w q2 = some ((2, 0, 0), .inl (Γ.2.1 2, 20, .inr (.inr (.inr (.inr (lE i q3)))))) ∧ (∀ j, j < i → w (q3 j) = some ((3, j, 0), oS (q4 j) 0 27 0 160) ∧ w (q4 j) = some ((4, j, 0), oV 0 0 0)) ∧
  (∀ (b : Nat) (x : Tg × va_E), wS b = some x → x.1 ≠ (2, 0, 0) → ¬ ((x.1.1 = 3 ∨ x.1.1 = 4) ∧ x.1.2.1 < 20) → w b = some x)
theorem InI.st {Γ : Gw} {wS w : Wd} {q2 i q v : Nat} {q3 q4 : Nat → Nat} {x : Tg × va_E} {w3 : Wd} (h : InI Γ wS w q2 i q3 q4) (hi : i < 20) (hq : w q = none) (hv : (wup w q x) v = none) (hx : x.1 = (3, i, 0))
    (e : w3 = wup (wup (wup (wup w q x) v ((4, i, 0), oV 0 0 0)) q ((3, i, 0), oS v 0 27 0 160)) q2 ((2, 0, 0), .inl (Γ.2.1 2, 20, .inr (.inr (.inr (.inr (va_up (lE i q3) i (some q)))))))) : InI Γ wS w3 q2 (i + 1) (fun j => if j = i then q else q3 j) (rset q4 i v) := by
  obtain ⟨h1, h2, h3⟩ := h
  subst e
  have hvq : v ≠ q := fun z => by subst z; rw [wup_s] at hv; cases hv
  have a1 : (wup w q x) q = some x := wup_s
  have a2 : (wup (wup w q x) v ((4, i, 0), oV 0 0 0)) q = some x := wup_f hv a1
  have b0 : ∀ (b : Nat) (u : Tg × va_E), w b = some u → u.1 ≠ (3, i, 0) → (wup (wup (wup w q x) v ((4, i, 0), oV 0 0 0)) q ((3, i, 0), oS v 0 27 0 160)) b = some u := by
    intro b u hb hu
    have hb2 : (wup (wup w q x) v ((4, i, 0), oV 0 0 0)) b = some u := wup_f hv (wup_f hq hb)
    exact wup_t (ta := x.1) (ea := x.2) (tb := u.1) (eb := u.2) a2 hb2 (by rw [hx]; exact hu)
  have c2 := b0 q2 _ h1 (by intro z; cases z)
  have old : ∀ (b : Nat) (u : Tg × va_E), w b = some u → u.1 ≠ (3, i, 0) → u.1 ≠ (2, 0, 0) → _ := fun b u hb hu hu2 => wup_t (x := ((2, 0, 0), .inl (Γ.2.1 2, 20, .inr (.inr (.inr (.inr (va_up (lE i q3) i (some q)))))))) (tb := u.1) (eb := u.2) c2 (b0 b u hb hu) hu2
  refine ⟨?_, ?_, ?_⟩
  · rw [← lE_put]
    exact wup_s
  · intro j hj
    dsimp only
    by_cases g : j = i
    · subst g
      rw [if_pos rfl, rset_s]
      have d1 : (wup (wup (wup w q x) v ((4, j, 0), oV 0 0 0)) q ((3, j, 0), oS v 0 27 0 160)) q = some ((3, j, 0), oS v 0 27 0 160) := wup_s
      have d2 : (wup (wup (wup w q x) v ((4, j, 0), oV 0 0 0)) q ((3, j, 0), oS v 0 27 0 160)) v = some ((4, j, 0), oV 0 0 0) := (wup_n hvq).trans wup_s
      exact ⟨wup_t c2 d1 (by intro z; cases z), wup_t c2 d2 (by intro z; cases z)⟩
    · rw [if_neg g, rset_n g]
      obtain ⟨f1, f2⟩ := h2 j (by omega)
      exact ⟨old _ _ f1 (fun z => g (congrArg (fun y : Tg => y.2.1) z)) (by intro z; cases z), old _ _ f2 (by intro z; cases z) (by intro z; cases z)⟩
  · intro b u hb hu hu2
    exact old b u (h3 b u hb hu hu2) (fun z => hu2 (by rw [z]; exact ⟨Or.inl rfl, hi⟩)) hu
theorem rep0 {Γ : Gw} {wS w : Wd} {a q2 l0 l1 l2 qu qt qv : Nat} {q3 q4 : Nat → Nat} (h : InI Γ wS w q2 20 q3 q4) (h1 : wS a = some ((1, 0, 0), .inr (8, [.ref q2, .ref l0, .ref l1, .ref l2, .ref qu, .ref qt, .int 0, .int 20, .int 0, .int 0, .int 0, .int 0, .int 0])))
    (h5 : wS l0 = some ((5, 0, 0), oL 0 Γ.2.2.2.1 0)) (h6 : wS l1 = some ((5, 1, 0), oL 0 Γ.2.2.2.1 0)) (h7 : wS l2 = some ((5, 2, 0), oL 0 Γ.2.2.2.1 0)) (hu : wS qu = some ((4, 21, 0), oV 0 0 0)) (ht : wS qt = some ((3, 20, 0), oS qv 0 27 0 160)) (hv : wS qv = some ((4, 20, 0), oV 0 0 0)) : ∃ L : LayC, thC L = a ∧ RepC Γ L S0 w := by
  obtain ⟨g1, g2, g3⟩ := h
  refine ⟨(fun t => if t.1 = 1 then a else if t.1 = 2 then q2 else if t.1 = 3 then (if t.2.1 = 20 then qt else q3 t.2.1) else if t.1 = 4 then (if t.2.1 = 20 then qv else if t.2.1 = 21 then qu else q4 t.2.1) else if t.1 = 5 then (if t.2.1 = 0 then l0 else if t.2.1 = 1 then l1 else l2) else 0, fun _ => 0, fun _ => 0, sec0), rfl, ?_, fun id hid => Or.inr ⟨rfl, ?_⟩⟩
  · rintro ⟨k, i, j⟩ e zt hce
    revert k
    refine kcase ?_ ?_ ?_ ?_ ?_ ?_ ?_ ?_ ?_ ?_ ?_ ?_ ?_ ?_
    · intro zt hce
      rw [cC_z] at hce
      cases hce
    · intro zt hce
      have hj := zT0 zt (by decide) (by decide)
      subst hj
      simp only [cC] at hce
      split at hce
      · rename_i z
        subst z
        cases hce
        exact g3 _ _ h1 (by intro z; cases z) (by rintro ⟨z | z, -⟩ <;> cases z)
      · cases hce
    · intro zt hce
      have hj := zT0 zt (by decide) (by decide)
      subst hj
      simp only [cC] at hce
      split at hce
      · rename_i z
        subst z
        cases hce
        have e : lE 20 (fun j => if j = 20 then qt else q3 j) = lE 20 q3 := by
          funext x
          unfold lE
          by_cases z : x < 20
          · rw [if_pos z, if_pos z]
            dsimp only
            rw [if_neg (show ¬ x = 20 by omega)]
          · rw [if_neg z, if_neg z]
        show w q2 = some ((2, 0, 0), .inl (Γ.2.1 2, 20, .inr (.inr (.inr (.inr (lE 20 (fun j => if j = 20 then qt else q3 j)))))))
        rw [e]
        exact g1
      · cases hce
    · intro zt hce
      have hj := zT0 zt (by decide) (by decide)
      subst hj
      simp only [cC] at hce
      split at hce
      · rename_i z
        cases hce
        have z2 : ¬ i = 20 := by omega
        have z3 : ¬ i = 21 := by omega
        show w (if i = 20 then qt else q3 i) = some ((3, i, 0), oS (if i = 20 then qv else if i = 21 then qu else q4 i) 0 27 0 160)
        rw [if_neg z2, if_neg z2, if_neg z3]
        exact (g2 i z).1
      · split at hce
        · rename_i z
          subst z
          cases hce
          exact g3 _ _ ht (by intro z; cases z) (by rintro ⟨-, z⟩; exact absurd (show 20 < 20 from z) (by decide))
        · cases hce
    · intro zt hce
      have hj := zT0 zt (by decide) (by decide)
      subst hj
      simp only [cC] at hce
      split at hce
      · rename_i z
        cases hce
        have z2 : ¬ i = 20 := by omega
        have z3 : ¬ i = 21 := by omega
        show w (if i = 20 then qv else if i = 21 then qu else q4 i) = some ((4, i, 0), oV 0 0 0)
        rw [if_neg z2, if_neg z3]
        exact (g2 i z).2
      · split at hce
        · rename_i z
          subst z
          cases hce
          exact g3 _ _ hv (by intro z; cases z) (by rintro ⟨-, z⟩; exact absurd z (by decide))
        · split at hce
          · rename_i z
            subst z
            cases hce
            exact g3 _ _ hu (by intro z; cases z) (by rintro ⟨-, z⟩; exact absurd z (by decide))
          · cases hce
    · intro zt hce
      have hj := zT0 zt (by decide) (by decide)
      subst hj
      simp only [cC] at hce
      split at hce
      · rename_i z
        rcases (show i = 0 ∨ i = 1 ∨ i = 2 by have : i < 3 + 0 := z; omega) with rfl | rfl | rfl
        · cases hce
          exact g3 _ _ h5 (by intro z; cases z) (by rintro ⟨z | z, -⟩ <;> cases z)
        · cases hce
          exact g3 _ _ h6 (by intro z; cases z) (by rintro ⟨z | z, -⟩ <;> cases z)
        · cases hce
          exact g3 _ _ h7 (by intro z; cases z) (by rintro ⟨z | z, -⟩ <;> cases z)
      · cases hce
    · intro zt hce
      simp only [cC, if_pos] at hce
      split at hce <;> cases hce
    · intro zt hce
      have z : ¬ i < nE S0 := Nat.not_lt_zero _
      simp only [cC, if_neg z] at hce
      cases hce
    · intro zt hce
      have z : ¬ i < nE S0 := Nat.not_lt_zero _
      simp only [cC, if_neg z] at hce
      cases hce
    · intro zt hce
      have z : ¬ i < nE S0 := Nat.not_lt_zero _
      simp only [cC, if_neg z] at hce
      cases hce
    · intro zt hce
      have z : ¬ i < nM S0 := Nat.not_lt_zero _
      simp only [cC, if_neg z] at hce
      cases hce
    · intro zt hce
      have z : ¬ i < nN S0 := Nat.not_lt_zero _
      simp only [cC, if_neg z] at hce
      cases hce
    · intro zt hce
      have z : ¬ i < nN S0 := Nat.not_lt_zero _
      simp only [cC, if_neg z] at hce
      cases hce
    · intro n zt hce
      rw [cC_n] at hce
      cases hce
  · rcases (show id = 0 ∨ id = 1 ∨ id = 2 by have : id < 3 + 0 := hid; omega) with rfl | rfl | rfl <;> rfl
set_option maxHeartbeats 1000000 in
set_option maxRecDepth 100000 in
theorem c_X6_init : CtrA yX6_init cX6_init 2 none (rmk 4 48 210 80) (fun Γ av w post _ => ∃ a, av = [.ref a] ∧ w a = some ((1, 0, 0), .inr (8, [.null, .null, .null, .null, .null, .null, .int 0, .int 0, .int 0, .int 0, .int 0, .int 0, .int 0])) ∧ ∀ (L : LayC) (w1 : Wd), thC L = a → RepC Γ L S0 w1 → FrM w w1 → post none w1) := by
  refine ctr_of (by decide) ?_
  rintro g av w hG hO ⟨a, rfl, ha, hk⟩
  refine ⟨Nat.le_of_ble_eq_true rfl, ?_⟩
  show X g w 0 0 0 [some (.ref a), none] []
  refine x_aload_n hG (pc := 0) 0 dX6_init_0 rfl rfl ?_
  refine x_objInit hG (pc := 1) oi_X6_3 oi_i oi_c dX6_init_1 (by decide) (Nat.le_of_ble_eq_true rfl) (Nat.le_of_ble_eq_true rfl) ?_
  refine x_aload_n hG (pc := 4) 0 dX6_init_4 rfl rfl ?_
  refine x_bipush hG (pc := 5) 20 dX6_init_5 (by decide) ?_
  refine x_newS hG (pc := 7) (2, 0, 0) ckl_X6_9 (by decide) (n := 20) (by decide) (by decide) dX6_init_7 (by rw [hG.mc]; exact Nat.le_of_ble_eq_true rfl) (by rw [hG.ms]; exact Nat.le_of_ble_eq_true rfl) (fun q2 hf2 hn2 => ?_)
  refine x_gen (fun w1 e1 => ?_)
  have ha_1 := (congrFun e1 a).trans (wup_f hf2 ha)
  have hs_1 := (congrFun e1 q2).trans wup_s
  refine x_putfF hG (pc := 10) flp_X6_11 fw_8 ft_8_0 ha_1 (Nat.le_of_ble_eq_true rfl) rfl rfl (by dsimp only [List.set]) dX6_init_10 rfl ?_
  refine x_gen (fun w2 e2 => ?_)
  have hs_2 := (congrFun e2 q2).trans (wup_t ha_1 hs_1 (by intro z; cases z))
  have ha_2 := (congrFun e2 a).trans wup_s
  refine x_aload_n hG (pc := 13) 0 dX6_init_13 rfl rfl ?_
  refine x_new hG (pc := 14) (5, 0, 0) nw_X6_15 dX6_init_14 (by rw [hG.mc]; dsimp only [rmk]; omega) (by rw [hG.ms]; dsimp only [rmk]; omega) (fun l0 hfl0 hnl0 => ?_)
  refine x_gen (fun w3 e3 => ?_)
  have ha_3 := (congrFun e3 a).trans (wup_f hfl0 ha_2)
  have hs_3 := (congrFun e3 q2).trans (wup_f hfl0 hs_2)
  have hl0_3 := (congrFun e3 l0).trans wup_s
  refine x_dup hG (pc := 17) dX6_init_17 rfl ?_
  refine x_callI hG hO (pc := 18) [] c_Jx4a65c_init_da8c8 lk_X6_17 rfl rfl ⟨by decide, by decide⟩ (Nat.le_of_ble_eq_true rfl) (by rw [hG.mc]; dsimp only [rmk]; omega) (by rw [hG.ms]; dsimp only [rmk]; omega) dX6_init_18 ?_
  refine ⟨l0, _, _, rfl, hl0_3, ?_⟩
  refine x_gen (fun w4 e4 => ?_)
  have ha_4 := (congrFun e4 a).trans (wup_t hl0_3 ha_3 (by intro z; cases z))
  have hs_4 := (congrFun e4 q2).trans (wup_t hl0_3 hs_3 (by intro z; cases z))
  have hl0_4 := (congrFun e4 l0).trans wup_s
  refine x_putfF hG (pc := 21) flp_X6_18 fw_8 ft_8_1 ha_4 (Nat.le_of_ble_eq_true rfl) rfl rfl (by dsimp only [List.set]) dX6_init_21 rfl ?_
  refine x_gen (fun w5 e5 => ?_)
  have hs_5 := (congrFun e5 q2).trans (wup_t ha_4 hs_4 (by intro z; cases z))
  have hl0_5 := (congrFun e5 l0).trans (wup_t ha_4 hl0_4 (by intro z; cases z))
  have ha_5 := (congrFun e5 a).trans wup_s
  refine x_aload_n hG (pc := 24) 0 dX6_init_24 rfl rfl ?_
  refine x_new hG (pc := 25) (5, 1, 0) nw_X6_15 dX6_init_25 (by rw [hG.mc]; dsimp only [rmk]; omega) (by rw [hG.ms]; dsimp only [rmk]; omega) (fun l1 hfl1 hnl1 => ?_)
  refine x_gen (fun w6 e6 => ?_)
  have ha_6 := (congrFun e6 a).trans (wup_f hfl1 ha_5)
  have hs_6 := (congrFun e6 q2).trans (wup_f hfl1 hs_5)
  have hl0_6 := (congrFun e6 l0).trans (wup_f hfl1 hl0_5)
  have hl1_6 := (congrFun e6 l1).trans wup_s
  refine x_dup hG (pc := 28) dX6_init_28 rfl ?_
  refine x_callI hG hO (pc := 29) [] c_Jx4a65c_init_da8c8 lk_X6_17 rfl rfl ⟨by decide, by decide⟩ (Nat.le_of_ble_eq_true rfl) (by rw [hG.mc]; dsimp only [rmk]; omega) (by rw [hG.ms]; dsimp only [rmk]; omega) dX6_init_29 ?_
  refine ⟨l1, _, _, rfl, hl1_6, ?_⟩
  refine x_gen (fun w7 e7 => ?_)
  have ha_7 := (congrFun e7 a).trans (wup_t hl1_6 ha_6 (by intro z; cases z))
  have hs_7 := (congrFun e7 q2).trans (wup_t hl1_6 hs_6 (by intro z; cases z))
  have hl0_7 := (congrFun e7 l0).trans (wup_t hl1_6 hl0_6 (by intro z; cases z))
  have hl1_7 := (congrFun e7 l1).trans wup_s
  refine x_putfF hG (pc := 32) flp_X6_22 fw_8 ft_8_2 ha_7 (Nat.le_of_ble_eq_true rfl) rfl rfl (by dsimp only [List.set]) dX6_init_32 rfl ?_
  refine x_gen (fun w8 e8 => ?_)
  have hs_8 := (congrFun e8 q2).trans (wup_t ha_7 hs_7 (by intro z; cases z))
  have hl0_8 := (congrFun e8 l0).trans (wup_t ha_7 hl0_7 (by intro z; cases z))
  have hl1_8 := (congrFun e8 l1).trans (wup_t ha_7 hl1_7 (by intro z; cases z))
  have ha_8 := (congrFun e8 a).trans wup_s
  refine x_aload_n hG (pc := 35) 0 dX6_init_35 rfl rfl ?_
  refine x_new hG (pc := 36) (5, 2, 0) nw_X6_15 dX6_init_36 (by rw [hG.mc]; dsimp only [rmk]; omega) (by rw [hG.ms]; dsimp only [rmk]; omega) (fun l2 hfl2 hnl2 => ?_)
  refine x_gen (fun w9 e9 => ?_)
  have ha_9 := (congrFun e9 a).trans (wup_f hfl2 ha_8)
  have hs_9 := (congrFun e9 q2).trans (wup_f hfl2 hs_8)
  have hl0_9 := (congrFun e9 l0).trans (wup_f hfl2 hl0_8)
  have hl1_9 := (congrFun e9 l1).trans (wup_f hfl2 hl1_8)
  have hl2_9 := (congrFun e9 l2).trans wup_s
  refine x_dup hG (pc := 39) dX6_init_39 rfl ?_
  refine x_callI hG hO (pc := 40) [] c_Jx4a65c_init_da8c8 lk_X6_17 rfl rfl ⟨by decide, by decide⟩ (Nat.le_of_ble_eq_true rfl) (by rw [hG.mc]; dsimp only [rmk]; omega) (by rw [hG.ms]; dsimp only [rmk]; omega) dX6_init_40 ?_
  refine ⟨l2, _, _, rfl, hl2_9, ?_⟩
  refine x_gen (fun w10 e10 => ?_)
  have ha_10 := (congrFun e10 a).trans (wup_t hl2_9 ha_9 (by intro z; cases z))
  have hs_10 := (congrFun e10 q2).trans (wup_t hl2_9 hs_9 (by intro z; cases z))
  have hl0_10 := (congrFun e10 l0).trans (wup_t hl2_9 hl0_9 (by intro z; cases z))
  have hl1_10 := (congrFun e10 l1).trans (wup_t hl2_9 hl1_9 (by intro z; cases z))
  have hl2_10 := (congrFun e10 l2).trans wup_s
  refine x_putfF hG (pc := 43) flp_X6_25 fw_8 ft_8_3 ha_10 (Nat.le_of_ble_eq_true rfl) rfl rfl (by dsimp only [List.set]) dX6_init_43 rfl ?_
  refine x_gen (fun w11 e11 => ?_)
  have hs_11 := (congrFun e11 q2).trans (wup_t ha_10 hs_10 (by intro z; cases z))
  have hl0_11 := (congrFun e11 l0).trans (wup_t ha_10 hl0_10 (by intro z; cases z))
  have hl1_11 := (congrFun e11 l1).trans (wup_t ha_10 hl1_10 (by intro z; cases z))
  have hl2_11 := (congrFun e11 l2).trans (wup_t ha_10 hl2_10 (by intro z; cases z))
  have ha_11 := (congrFun e11 a).trans wup_s
  refine x_aload_n hG (pc := 46) 0 dX6_init_46 rfl rfl ?_
  refine x_new hG (pc := 47) (4, 21, 0) nw_X6_28 dX6_init_47 (by rw [hG.mc]; dsimp only [rmk]; omega) (by rw [hG.ms]; dsimp only [rmk]; omega) (fun qu hfqu hnqu => ?_)
  refine x_gen (fun w12 e12 => ?_)
  have ha_12 := (congrFun e12 a).trans (wup_f hfqu ha_11)
  have hs_12 := (congrFun e12 q2).trans (wup_f hfqu hs_11)
  have hl0_12 := (congrFun e12 l0).trans (wup_f hfqu hl0_11)
  have hl1_12 := (congrFun e12 l1).trans (wup_f hfqu hl1_11)
  have hl2_12 := (congrFun e12 l2).trans (wup_f hfqu hl2_11)
  have hu_12 := (congrFun e12 qu).trans wup_s
  refine x_dup hG (pc := 50) dX6_init_50 rfl ?_
  refine x_iconst hG (pc := 51) 0 dX6_init_51 (by decide) ?_
  refine x_iconst hG (pc := 52) 0 dX6_init_52 (by decide) ?_
  refine x_iconst hG (pc := 53) 0 dX6_init_53 (by decide) ?_
  refine x_callI hG hO (pc := 54) [_, _, _] c_X4_init lk_X6_30 rfl rfl ⟨by decide, by decide⟩ (Nat.le_of_ble_eq_true rfl) (by rw [hG.mc]; dsimp only [rmk]; omega) (by rw [hG.ms]; dsimp only [rmk]; omega) dX6_init_54 ?_
  refine ⟨qu, _, _, _, _, _, _, _, rfl, hu_12, ?_⟩
  refine x_gen (fun w13 e13 => ?_)
  have ha_13 := (congrFun e13 a).trans (wup_t hu_12 ha_12 (by intro z; cases z))
  have hs_13 := (congrFun e13 q2).trans (wup_t hu_12 hs_12 (by intro z; cases z))
  have hl0_13 := (congrFun e13 l0).trans (wup_t hu_12 hl0_12 (by intro z; cases z))
  have hl1_13 := (congrFun e13 l1).trans (wup_t hu_12 hl1_12 (by intro z; cases z))
  have hl2_13 := (congrFun e13 l2).trans (wup_t hu_12 hl2_12 (by intro z; cases z))
  have hu_13 := (congrFun e13 qu).trans wup_s
  refine x_putfF hG (pc := 57) flp_X6_33 fw_8 ft_8_4 ha_13 (Nat.le_of_ble_eq_true rfl) rfl rfl (by dsimp only [List.set]) dX6_init_57 rfl ?_
  refine x_gen (fun w14 e14 => ?_)
  have hs_14 := (congrFun e14 q2).trans (wup_t ha_13 hs_13 (by intro z; cases z))
  have hl0_14 := (congrFun e14 l0).trans (wup_t ha_13 hl0_13 (by intro z; cases z))
  have hl1_14 := (congrFun e14 l1).trans (wup_t ha_13 hl1_13 (by intro z; cases z))
  have hl2_14 := (congrFun e14 l2).trans (wup_t ha_13 hl2_13 (by intro z; cases z))
  have hu_14 := (congrFun e14 qu).trans (wup_t ha_13 hu_13 (by intro z; cases z))
  have ha_14 := (congrFun e14 a).trans wup_s
  refine x_aload_n hG (pc := 60) 0 dX6_init_60 rfl rfl ?_
  refine x_new hG (pc := 61) (3, 20, 0) nw_X6_9 dX6_init_61 (by rw [hG.mc]; dsimp only [rmk]; omega) (by rw [hG.ms]; dsimp only [rmk]; omega) (fun qt hfqt hnqt => ?_)
  refine x_gen (fun w15 e15 => ?_)
  have ha_15 := (congrFun e15 a).trans (wup_f hfqt ha_14)
  have hs_15 := (congrFun e15 q2).trans (wup_f hfqt hs_14)
  have hl0_15 := (congrFun e15 l0).trans (wup_f hfqt hl0_14)
  have hl1_15 := (congrFun e15 l1).trans (wup_f hfqt hl1_14)
  have hl2_15 := (congrFun e15 l2).trans (wup_f hfqt hl2_14)
  have hu_15 := (congrFun e15 qu).trans (wup_f hfqt hu_14)
  have ht_15 := (congrFun e15 qt).trans wup_s
  refine x_dup hG (pc := 64) dX6_init_64 rfl ?_
  refine x_callN hG hO (pc := 65) [] c_X3_init lk_X6_37 rfl rfl ⟨by decide, by decide⟩ (Nat.le_of_ble_eq_true rfl) (by rw [hG.mc]; dsimp only [rmk]; omega) (by rw [hG.ms]; dsimp only [rmk]; omega) dX6_init_65 ?_
  refine ⟨qt, _, (4, 20, 0), _, rfl, ht_15, fun qv hfv hnv => ?_⟩
  refine x_gen (fun w16 e16 => ?_)
  have ha_16 := (congrFun e16 a).trans (wup_t (wup_f hfv ht_15) (wup_f hfv ha_15) (by intro z; cases z))
  have hs_16 := (congrFun e16 q2).trans (wup_t (wup_f hfv ht_15) (wup_f hfv hs_15) (by intro z; cases z))
  have hl0_16 := (congrFun e16 l0).trans (wup_t (wup_f hfv ht_15) (wup_f hfv hl0_15) (by intro z; cases z))
  have hl1_16 := (congrFun e16 l1).trans (wup_t (wup_f hfv ht_15) (wup_f hfv hl1_15) (by intro z; cases z))
  have hl2_16 := (congrFun e16 l2).trans (wup_t (wup_f hfv ht_15) (wup_f hfv hl2_15) (by intro z; cases z))
  have hu_16 := (congrFun e16 qu).trans (wup_t (wup_f hfv ht_15) (wup_f hfv hu_15) (by intro z; cases z))
  have hv_16 := (congrFun e16 qv).trans (wup_t (wup_f hfv ht_15) wup_s (by intro z; cases z))
  have ht_16 := (congrFun e16 qt).trans wup_s
  refine x_putfF hG (pc := 68) flp_X6_38 fw_8 ft_8_5 ha_16 (Nat.le_of_ble_eq_true rfl) rfl rfl (by dsimp only [List.set]) dX6_init_68 rfl ?_
  refine x_gen (fun w17 e17 => ?_)
  have hs_17 := (congrFun e17 q2).trans (wup_t ha_16 hs_16 (by intro z; cases z))
  have hl0_17 := (congrFun e17 l0).trans (wup_t ha_16 hl0_16 (by intro z; cases z))
  have hl1_17 := (congrFun e17 l1).trans (wup_t ha_16 hl1_16 (by intro z; cases z))
  have hl2_17 := (congrFun e17 l2).trans (wup_t ha_16 hl2_16 (by intro z; cases z))
  have hu_17 := (congrFun e17 qu).trans (wup_t ha_16 hu_16 (by intro z; cases z))
  have ht_17 := (congrFun e17 qt).trans (wup_t ha_16 ht_16 (by intro z; cases z))
  have hv_17 := (congrFun e17 qv).trans (wup_t ha_16 hv_16 (by intro z; cases z))
  have ha_17 := (congrFun e17 a).trans wup_s
  refine x_aload_n hG (pc := 71) 0 dX6_init_71 rfl rfl ?_
  refine x_iconst hG (pc := 72) 0 dX6_init_72 (by decide) ?_
  refine x_putf hG (pc := 73) fl_X6_42 fw_8 ft_8_6 ha_17 (Nat.le_of_ble_eq_true rfl) rfl rfl (by dsimp only [List.set]) dX6_init_73 ?_
  refine x_gen (fun w18 e18 => ?_)
  have hs_18 := (congrFun e18 q2).trans (wup_t ha_17 hs_17 (by intro z; cases z))
  have hl0_18 := (congrFun e18 l0).trans (wup_t ha_17 hl0_17 (by intro z; cases z))
  have hl1_18 := (congrFun e18 l1).trans (wup_t ha_17 hl1_17 (by intro z; cases z))
  have hl2_18 := (congrFun e18 l2).trans (wup_t ha_17 hl2_17 (by intro z; cases z))
  have hu_18 := (congrFun e18 qu).trans (wup_t ha_17 hu_17 (by intro z; cases z))
  have ht_18 := (congrFun e18 qt).trans (wup_t ha_17 ht_17 (by intro z; cases z))
  have hv_18 := (congrFun e18 qv).trans (wup_t ha_17 hv_17 (by intro z; cases z))
  have ha_18 := (congrFun e18 a).trans wup_s
  refine x_aload_n hG (pc := 76) 0 dX6_init_76 rfl rfl ?_
  refine x_bipush hG (pc := 77) 20 dX6_init_77 (by decide) ?_
  refine x_putf hG (pc := 79) fl_X6_46 fw_8 ft_8_7 ha_18 (Nat.le_of_ble_eq_true rfl) rfl rfl (by dsimp only [List.set]) dX6_init_79 ?_
  refine x_gen (fun w19 e19 => ?_)
  have hs_19 := (congrFun e19 q2).trans (wup_t ha_18 hs_18 (by intro z; cases z))
  have hl0_19 := (congrFun e19 l0).trans (wup_t ha_18 hl0_18 (by intro z; cases z))
  have hl1_19 := (congrFun e19 l1).trans (wup_t ha_18 hl1_18 (by intro z; cases z))
  have hl2_19 := (congrFun e19 l2).trans (wup_t ha_18 hl2_18 (by intro z; cases z))
  have hu_19 := (congrFun e19 qu).trans (wup_t ha_18 hu_18 (by intro z; cases z))
  have ht_19 := (congrFun e19 qt).trans (wup_t ha_18 ht_18 (by intro z; cases z))
  have hv_19 := (congrFun e19 qv).trans (wup_t ha_18 hv_18 (by intro z; cases z))
  have ha_19 := (congrFun e19 a).trans wup_s
  refine x_aload_n hG (pc := 82) 0 dX6_init_82 rfl rfl ?_
  refine x_iconst hG (pc := 83) 0 dX6_init_83 (by decide) ?_
  refine x_putf hG (pc := 84) fl_X6_49 fw_8 ft_8_8 ha_19 (Nat.le_of_ble_eq_true rfl) rfl rfl (by dsimp only [List.set]) dX6_init_84 ?_
  refine x_gen (fun w20 e20 => ?_)
  have hs_20 := (congrFun e20 q2).trans (wup_t ha_19 hs_19 (by intro z; cases z))
  have hl0_20 := (congrFun e20 l0).trans (wup_t ha_19 hl0_19 (by intro z; cases z))
  have hl1_20 := (congrFun e20 l1).trans (wup_t ha_19 hl1_19 (by intro z; cases z))
  have hl2_20 := (congrFun e20 l2).trans (wup_t ha_19 hl2_19 (by intro z; cases z))
  have hu_20 := (congrFun e20 qu).trans (wup_t ha_19 hu_19 (by intro z; cases z))
  have ht_20 := (congrFun e20 qt).trans (wup_t ha_19 ht_19 (by intro z; cases z))
  have hv_20 := (congrFun e20 qv).trans (wup_t ha_19 hv_19 (by intro z; cases z))
  have ha_20 := (congrFun e20 a).trans wup_s
  refine x_aload_n hG (pc := 87) 0 dX6_init_87 rfl rfl ?_
  refine x_iconst hG (pc := 88) 0 dX6_init_88 (by decide) ?_
  refine x_putf hG (pc := 89) fl_X6_52 fw_8 ft_8_9 ha_20 (Nat.le_of_ble_eq_true rfl) rfl rfl (by dsimp only [List.set]) dX6_init_89 ?_
  refine x_gen (fun w21 e21 => ?_)
  have hs_21 := (congrFun e21 q2).trans (wup_t ha_20 hs_20 (by intro z; cases z))
  have hl0_21 := (congrFun e21 l0).trans (wup_t ha_20 hl0_20 (by intro z; cases z))
  have hl1_21 := (congrFun e21 l1).trans (wup_t ha_20 hl1_20 (by intro z; cases z))
  have hl2_21 := (congrFun e21 l2).trans (wup_t ha_20 hl2_20 (by intro z; cases z))
  have hu_21 := (congrFun e21 qu).trans (wup_t ha_20 hu_20 (by intro z; cases z))
  have ht_21 := (congrFun e21 qt).trans (wup_t ha_20 ht_20 (by intro z; cases z))
  have hv_21 := (congrFun e21 qv).trans (wup_t ha_20 hv_20 (by intro z; cases z))
  have ha_21 := (congrFun e21 a).trans wup_s
  refine x_aload_n hG (pc := 92) 0 dX6_init_92 rfl rfl ?_
  refine x_iconst hG (pc := 93) 0 dX6_init_93 (by decide) ?_
  refine x_putf hG (pc := 94) fl_X6_55 fw_8 ft_8_10 ha_21 (Nat.le_of_ble_eq_true rfl) rfl rfl (by dsimp only [List.set]) dX6_init_94 ?_
  refine x_gen (fun w22 e22 => ?_)
  have hs_22 := (congrFun e22 q2).trans (wup_t ha_21 hs_21 (by intro z; cases z))
  have hl0_22 := (congrFun e22 l0).trans (wup_t ha_21 hl0_21 (by intro z; cases z))
  have hl1_22 := (congrFun e22 l1).trans (wup_t ha_21 hl1_21 (by intro z; cases z))
  have hl2_22 := (congrFun e22 l2).trans (wup_t ha_21 hl2_21 (by intro z; cases z))
  have hu_22 := (congrFun e22 qu).trans (wup_t ha_21 hu_21 (by intro z; cases z))
  have ht_22 := (congrFun e22 qt).trans (wup_t ha_21 ht_21 (by intro z; cases z))
  have hv_22 := (congrFun e22 qv).trans (wup_t ha_21 hv_21 (by intro z; cases z))
  have ha_22 := (congrFun e22 a).trans wup_s
  refine x_aload_n hG (pc := 97) 0 dX6_init_97 rfl rfl ?_
  refine x_iconst hG (pc := 98) 0 dX6_init_98 (by decide) ?_
  refine x_putf hG (pc := 99) fl_X6_58 fw_8 ft_8_11 ha_22 (Nat.le_of_ble_eq_true rfl) rfl rfl (by dsimp only [List.set]) dX6_init_99 ?_
  refine x_gen (fun w23 e23 => ?_)
  have hs_23 := (congrFun e23 q2).trans (wup_t ha_22 hs_22 (by intro z; cases z))
  have hl0_23 := (congrFun e23 l0).trans (wup_t ha_22 hl0_22 (by intro z; cases z))
  have hl1_23 := (congrFun e23 l1).trans (wup_t ha_22 hl1_22 (by intro z; cases z))
  have hl2_23 := (congrFun e23 l2).trans (wup_t ha_22 hl2_22 (by intro z; cases z))
  have hu_23 := (congrFun e23 qu).trans (wup_t ha_22 hu_22 (by intro z; cases z))
  have ht_23 := (congrFun e23 qt).trans (wup_t ha_22 ht_22 (by intro z; cases z))
  have hv_23 := (congrFun e23 qv).trans (wup_t ha_22 hv_22 (by intro z; cases z))
  have ha_23 := (congrFun e23 a).trans wup_s
  refine x_aload_n hG (pc := 102) 0 dX6_init_102 rfl rfl ?_
  refine x_iconst hG (pc := 103) 0 dX6_init_103 (by decide) ?_
  refine x_putf hG (pc := 104) fl_X6_61 fw_8 ft_8_12 ha_23 (Nat.le_of_ble_eq_true rfl) rfl rfl (by dsimp only [List.set]) dX6_init_104 ?_
  refine x_gen (fun w24 e24 => ?_)
  have hs_24 := (congrFun e24 q2).trans (wup_t ha_23 hs_23 (by intro z; cases z))
  have hl0_24 := (congrFun e24 l0).trans (wup_t ha_23 hl0_23 (by intro z; cases z))
  have hl1_24 := (congrFun e24 l1).trans (wup_t ha_23 hl1_23 (by intro z; cases z))
  have hl2_24 := (congrFun e24 l2).trans (wup_t ha_23 hl2_23 (by intro z; cases z))
  have hu_24 := (congrFun e24 qu).trans (wup_t ha_23 hu_23 (by intro z; cases z))
  have ht_24 := (congrFun e24 qt).trans (wup_t ha_23 ht_23 (by intro z; cases z))
  have hv_24 := (congrFun e24 qv).trans (wup_t ha_23 hv_23 (by intro z; cases z))
  have ha_24 := (congrFun e24 a).trans wup_s
  refine x_iconst hG (pc := 107) 0 dX6_init_107 (by decide) ?_
  refine x_istore_n hG (pc := 108) 1 dX6_init_108 rfl (Nat.le_of_ble_eq_true rfl) rfl (by dsimp only [List.set]) ?_
  have hFr : ∀ (b : Nat) (x : Tg × va_E), w b = some x → 50 ≤ x.1.1 → w24 b = some x := by
    intro b x hb hx
    have k0 := hb
    have k1 := (congrFun e1 b).trans (wup_f hf2 k0)
    have k2 := (congrFun e2 b).trans (wup_t (tb := x.1) (eb := x.2) ha_1 k1 (fun z => by rw [z] at hx; exact absurd hx (by decide)))
    have k3 := (congrFun e3 b).trans (wup_f hfl0 k2)
    have k4 := (congrFun e4 b).trans (wup_t (tb := x.1) (eb := x.2) hl0_3 k3 (fun z => by rw [z] at hx; exact absurd hx (by decide)))
    have k5 := (congrFun e5 b).trans (wup_t (tb := x.1) (eb := x.2) ha_4 k4 (fun z => by rw [z] at hx; exact absurd hx (by decide)))
    have k6 := (congrFun e6 b).trans (wup_f hfl1 k5)
    have k7 := (congrFun e7 b).trans (wup_t (tb := x.1) (eb := x.2) hl1_6 k6 (fun z => by rw [z] at hx; exact absurd hx (by decide)))
    have k8 := (congrFun e8 b).trans (wup_t (tb := x.1) (eb := x.2) ha_7 k7 (fun z => by rw [z] at hx; exact absurd hx (by decide)))
    have k9 := (congrFun e9 b).trans (wup_f hfl2 k8)
    have k10 := (congrFun e10 b).trans (wup_t (tb := x.1) (eb := x.2) hl2_9 k9 (fun z => by rw [z] at hx; exact absurd hx (by decide)))
    have k11 := (congrFun e11 b).trans (wup_t (tb := x.1) (eb := x.2) ha_10 k10 (fun z => by rw [z] at hx; exact absurd hx (by decide)))
    have k12 := (congrFun e12 b).trans (wup_f hfqu k11)
    have k13 := (congrFun e13 b).trans (wup_t (tb := x.1) (eb := x.2) hu_12 k12 (fun z => by rw [z] at hx; exact absurd hx (by decide)))
    have k14 := (congrFun e14 b).trans (wup_t (tb := x.1) (eb := x.2) ha_13 k13 (fun z => by rw [z] at hx; exact absurd hx (by decide)))
    have k15 := (congrFun e15 b).trans (wup_f hfqt k14)
    have k16 := (congrFun e16 b).trans (wup_t (tb := x.1) (eb := x.2) (wup_f hfv ht_15) (wup_f hfv k15) (fun z => by rw [z] at hx; exact absurd hx (by decide)))
    have k17 := (congrFun e17 b).trans (wup_t (tb := x.1) (eb := x.2) ha_16 k16 (fun z => by rw [z] at hx; exact absurd hx (by decide)))
    have k18 := (congrFun e18 b).trans (wup_t (tb := x.1) (eb := x.2) ha_17 k17 (fun z => by rw [z] at hx; exact absurd hx (by decide)))
    have k19 := (congrFun e19 b).trans (wup_t (tb := x.1) (eb := x.2) ha_18 k18 (fun z => by rw [z] at hx; exact absurd hx (by decide)))
    have k20 := (congrFun e20 b).trans (wup_t (tb := x.1) (eb := x.2) ha_19 k19 (fun z => by rw [z] at hx; exact absurd hx (by decide)))
    have k21 := (congrFun e21 b).trans (wup_t (tb := x.1) (eb := x.2) ha_20 k20 (fun z => by rw [z] at hx; exact absurd hx (by decide)))
    have k22 := (congrFun e22 b).trans (wup_t (tb := x.1) (eb := x.2) ha_21 k21 (fun z => by rw [z] at hx; exact absurd hx (by decide)))
    have k23 := (congrFun e23 b).trans (wup_t (tb := x.1) (eb := x.2) ha_22 k22 (fun z => by rw [z] at hx; exact absurd hx (by decide)))
    have k24 := (congrFun e24 b).trans (wup_t (tb := x.1) (eb := x.2) ha_23 k23 (fun z => by rw [z] at hx; exact absurd hx (by decide)))
    exact k24
  have hI0 : InI (gΓ g) w24 w24 q2 0 (fun _ => 0) (fun _ => 0) := ⟨by rw [← lE_0]; exact hs_24, fun j hj => absurd hj (Nat.not_lt_zero _), fun b x hb _ _ => hb⟩
  refine nat_down (P := fun i => ∀ (q3 q4 : Nat → Nat) (w9 : Wd), InI (gΓ g) w24 w9 q2 i q3 q4 → X g w9 (7 + 2 * i) (40 + 8 * i) 109 [some (.ref a), some (.int (nI i))] []) 20 (fun i hi20 ih q3 q4 w9 hI => ?_) 0 (Nat.zero_le _) (fun _ => 0) (fun _ => 0) w24 hI0
  have hm := hI.2.2 _ _ ha_24 (by intro z; cases z) (by rintro ⟨z | z, -⟩ <;> cases z)
  refine x_iload_n hG (pc := 109) 1 dX6_init_109 rfl rfl ?_
  refine x_bipush hG (pc := 110) 20 dX6_init_110 (by decide) ?_
  refine x_icmp_ge hG (pc := 112) 134 dX6_init_112 (by decide) (fun h112 => ?_) (fun h112 => ?_)
  · have hie : i = 20 := by
      rcases Nat.lt_or_ge i 20 with q | q
      · exact absurd h112 (nI_ge (b := 20) q (by decide))
      · omega
    refine x_return hG (pc := 134) dX6_init_134 rfl (by rw [hG.mc]; dsimp only [rmk]; omega) (by rw [hG.ms]; dsimp only [rmk]; omega) ?_
    subst hie
    obtain ⟨L, hth, hR⟩ := rep0 hI ha_24 hl0_24 hl1_24 hl2_24 hu_24 ht_24 hv_24
    exact hk L w9 hth hR (fun b x hb hx => hI.2.2 b x (hFr b x hb hx) (fun z => by rw [z] at hx; exact absurd hx (by decide)) (fun z => by omega))
  · have hin : i < 20 := by
      rcases Nat.lt_or_ge i 20 with q | q
      · exact q
      · exact absurd (nI_le (a := 20) q (by omega)) h112
    refine x_aload_n hG (pc := 115) 0 dX6_init_115 rfl rfl ?_
    refine x_getf hG (pc := 116) fl_X6_11 hm rfl dX6_init_116 ?_
    refine x_iload_n hG (pc := 119) 1 dX6_init_119 rfl rfl ?_
    refine x_new hG (pc := 120) (3, i, 0) nw_X6_9 dX6_init_120 (by rw [hG.mc]; dsimp only [rmk]; omega) (by rw [hG.ms]; dsimp only [rmk]; omega) (fun q hfq hnq => ?_)
    refine x_gen (fun v1 z1 => ?_)
    have hq1 := (congrFun z1 q).trans wup_s
    refine x_dup hG (pc := 123) dX6_init_123 rfl ?_
    refine x_callN hG hO (pc := 124) [] c_X3_init lk_X6_37 rfl rfl ⟨by decide, by decide⟩ (Nat.le_of_ble_eq_true rfl) (by rw [hG.mc]; dsimp only [rmk]; omega) (by rw [hG.ms]; dsimp only [rmk]; omega) dX6_init_124 ?_
    refine ⟨q, _, (4, i, 0), _, rfl, hq1, fun qx hfx hnx => ?_⟩
    refine x_gen (fun v2 z2 => ?_)
    have hq2 := (congrFun z2 q).trans wup_s
    have hs2 : v2 q2 = _ := (congrFun z2 q2).trans (wup_t (wup_f hfx hq1) (wup_f hfx ((congrFun z1 q2).trans (wup_f hfq hI.1))) (by intro z; cases z))
    refine x_aastS hG (pc := 127) hs2 hq2 (vp_in_nI hin (by decide)) dX6_init_127 ?_
    rw [nI_clamp (by omega)]
    refine x_gen (fun v3 z3 => ?_)
    have hI3 : InI (gΓ g) w24 v3 q2 (i + 1) (fun j => if j = i then q else q3 j) (rset q4 i qx) := hI.st hin hfq (by rw [← z1]; exact hfx) rfl (by rw [z3, z2, z1])
    refine x_iinc hG (pc := 128) (nI (i + 1)) dX6_init_128 rfl (Nat.le_of_ble_eq_true rfl) rfl (nI_1' i) (by dsimp only [List.set]) ?_
    refine x_goto hG (pc := 131) 109 dX6_init_131 (by decide) ?_
    exact ih (i + 1) (by omega) (by omega) _ _ v3 hI3
