/-! ArrayList.grow(), add; the iterator -/
theorem c_Jx4a65c_grow_92f84 : CtrA yJx4a65c_grow_92f84 cJx4a65c_grow_92f84 4 (some (.array (.object "java/lang/Object"))) (rmk 4 1 30 200) (fun Γ av w post _ => ∃ a t te e cap md n el, av = [.ref a, .int (nI (n + 1))] ∧ w a = some (t, oL md e n) ∧ (((cap = 0 ∧ n = 0 ∧ e = Γ.2.2.2.1)) ∨ (10 ≤ cap ∧ n = cap ∧ cap < 20 ∧ w e = some (te, aQ Γ.2.1 cap (lE n el)) ∧ (∀ i : Nat, i < n → ∃ (ty : Tg) (ey : va_E), w (el i) = some (ty, ey) ∧ OkE Γ.2.1 ey))) ∧ te ≠ t ∧ ∀ w1 e1 cap1, n < cap1 → AL Γ w1 a t te e1 cap1 md n el → Fr2 t te w w1 → post (some (.ref e1)) w1) := ctr_imp (ctr_or c_Jx4a65c_grow_92f84_0 c_Jx4a65c_grow_92f84_1) (by
  rintro Γ av w post xpost ⟨a, t, te, e, cap, md, n, el, h1, h2, h3 | h3, h4⟩
  · exact Or.inl ⟨a, t, te, e, cap, md, n, el, h1, h2, h3, h4⟩
  · exact Or.inr ⟨a, t, te, e, cap, md, n, el, h1, h2, h3, h4⟩)
set_option maxHeartbeats 400000 in
set_option maxRecDepth 100000 in
theorem c_Jx4a65c_grow_d5877 : CtrA yJx4a65c_grow_d5877 cJx4a65c_grow_d5877 1 (some (.array (.object "java/lang/Object"))) (rmk 5 1 30 223) (fun Γ av w post _ => ∃ a t te e cap md n el, av = [.ref a] ∧ w a = some (t, oL md e n) ∧ (((cap = 0 ∧ n = 0 ∧ e = Γ.2.2.2.1)) ∨ (10 ≤ cap ∧ n = cap ∧ cap < 20 ∧ w e = some (te, aQ Γ.2.1 cap (lE n el)) ∧ (∀ i : Nat, i < n → ∃ (ty : Tg) (ey : va_E), w (el i) = some (ty, ey) ∧ OkE Γ.2.1 ey))) ∧ te ≠ t ∧ ∀ w1 e1 cap1, n < cap1 → AL Γ w1 a t te e1 cap1 md n el → Fr2 t te w w1 → post (some (.ref e1)) w1) := by
  refine ctr_of (by decide) ?_
  rintro g av w hG hO ⟨a, t, te, e, cap, md, n, el, rfl, ha, hc, hne, hk⟩
  refine ⟨Nat.le_of_ble_eq_true rfl, ?_⟩
  show X g w 0 0 0 [some (.ref a)] []
  refine x_aload_n hG (pc := 0) 0 dJx4a65c_grow_d5877_0 rfl rfl ?_
  refine x_aload_n hG (pc := 1) 0 dJx4a65c_grow_d5877_1 rfl rfl ?_
  refine x_getf hG (pc := 2) fl_Jx4a65c_48 (by assumption) rfl dJx4a65c_grow_d5877_2 ?_
  refine x_iconst hG (pc := 5) 1 dJx4a65c_grow_d5877_5 (by decide) ?_
  refine x_iadd hG (pc := 6) dJx4a65c_grow_d5877_6 ?_
  rw [nI_1]
  refine x_callV hG hO (pc := 7) [_] c_Jx4a65c_grow_92f84 lk_Jx4a65c_69 (by assumption) rfl rfl ⟨by decide, by decide⟩ (Nat.le_of_ble_eq_true rfl) (by rw [hG.mc]; exact Nat.le_of_ble_eq_true rfl) (by rw [hG.ms]; exact Nat.le_of_ble_eq_true rfl) dJx4a65c_grow_d5877_7 ?_
  refine ⟨a, t, te, e, cap, md, n, el, rfl, ha, hc, hne, fun w1 e1 cap1 h1 h2 h3 => ?_⟩
  refine x_areturn hG (pc := 10) dJx4a65c_grow_d5877_10 rfl (Or.inr ⟨_, rfl⟩) (by rw [hG.mc]; exact Nat.le_of_ble_eq_true rfl) (by rw [hG.ms]; exact Nat.le_of_ble_eq_true rfl) ?_
  exact hk w1 e1 cap1 h1 h2 h3
set_option maxHeartbeats 400000 in
set_option maxRecDepth 100000 in
theorem c_Jx4a65c_add_72be8_a : CtrA yJx4a65c_add_72be8 cJx4a65c_add_72be8 4 none (rmk 6 1 30 280) (fun Γ av w post _ => ∃ a t te e cap md n, ∃ (el : Nat → Nat), ∃ v tv ev, av = [.ref a, .ref v, .ref e, .int (nI n)] ∧ w a = some (t, oL md e n) ∧ w v = some (tv, ev) ∧ OkE Γ.2.1 ev ∧ te ≠ t ∧ tv ≠ t ∧ tv ≠ te ∧ (∀ w1 e1 cap1, AL Γ w1 a t te e1 cap1 md (n + 1) (fun j => if j = n then v else el j) → Fr2 t te w w1 → post none w1) ∧ 10 ≤ cap ∧ n < cap ∧ cap ≤ 30 ∧ w e = some (te, aQ Γ.2.1 cap (lE n el))) := by
  refine ctr_of (by decide) ?_
  rintro g av w hG hO ⟨a, t, te, e, cap, md, n, el, v, tv, ev, rfl, ha, hv, hok, hne, hn1, hn2, hk, p1, p2, p3, he⟩
  refine ⟨Nat.le_of_ble_eq_true rfl, ?_⟩
  show X g w 0 0 0 [some (.ref a), some (.ref v), some (.ref e), some (.int (nI n))] []
  refine x_iload_n hG (pc := 0) 3 dJx4a65c_add_72be8_0 rfl rfl ?_
  refine x_aload_n hG (pc := 1) 2 dJx4a65c_add_72be8_1 rfl rfl ?_
  refine x_alenO hG (pc := 2) he dJx4a65c_add_72be8_2 ?_
  refine x_icmp_ne hG (pc := 3) 11 dJx4a65c_add_72be8_3 (by decide) (fun h3 => ?_) (fun h3 => ?_)
  · refine x_aload_n hG (pc := 11) 2 dJx4a65c_add_72be8_11 rfl rfl ?_
    refine x_iload_n hG (pc := 12) 3 dJx4a65c_add_72be8_12 rfl rfl ?_
    refine x_aload_n hG (pc := 13) 1 dJx4a65c_add_72be8_13 rfl rfl ?_
    refine x_aastQ hG (pc := 14) he hv hok (vp_in_nI (by omega) (by omega)) dJx4a65c_add_72be8_14 ?_
    rw [nI_clamp (by omega), lE_put]
    refine x_gen (fun w1 e1 => ?_)
    have he1 := (congrFun e1 e).trans wup_s
    have ha1 := (congrFun e1 a).trans (wup_t he ha (Ne.symm hne))
    refine x_aload_n hG (pc := 15) 0 dJx4a65c_add_72be8_15 rfl rfl ?_
    refine x_iload_n hG (pc := 16) 3 dJx4a65c_add_72be8_16 rfl rfl ?_
    refine x_iconst hG (pc := 17) 1 dJx4a65c_add_72be8_17 (by decide) ?_
    refine x_iadd hG (pc := 18) dJx4a65c_add_72be8_18 ?_
    rw [nI_1]
    refine x_putf hG (pc := 19) fl_Jx4a65c_48 fw_1 ft_1_2 ha1 (Nat.le_of_ble_eq_true rfl) rfl rfl (by dsimp only [List.set]) dJx4a65c_add_72be8_19 ?_
    refine x_gen (fun w2 e2 => ?_)
    have ha2 := (congrFun e2 a).trans wup_s
    have he2 := (congrFun e2 e).trans (wup_t ha1 he1 hne)
    refine x_return hG (pc := 22) dJx4a65c_add_72be8_22 rfl (by rw [hG.mc]; exact Nat.le_of_ble_eq_true rfl) (by rw [hG.ms]; exact Nat.le_of_ble_eq_true rfl) ?_
    refine hk w2 e cap ⟨ha2, Or.inl ⟨by omega, by omega, by omega, he2⟩⟩ ?_
    subst e2 e1
    exact (Fr2.rf.up he (Or.inr rfl)).up ha1 (Or.inl rfl)
  · exact absurd ((nI_eq (by omega) (by omega)).mp h3) (by omega)
set_option maxHeartbeats 400000 in
set_option maxRecDepth 100000 in
theorem c_Jx4a65c_add_72be8_b : CtrA yJx4a65c_add_72be8 cJx4a65c_add_72be8 4 none (rmk 6 1 30 280) (fun Γ av w post _ => ∃ a t te e cap md n, ∃ (el : Nat → Nat), ∃ v tv ev, av = [.ref a, .ref v, .ref e, .int (nI n)] ∧ w a = some (t, oL md e n) ∧ w v = some (tv, ev) ∧ OkE Γ.2.1 ev ∧ te ≠ t ∧ tv ≠ t ∧ tv ≠ te ∧ (∀ w1 e1 cap1, AL Γ w1 a t te e1 cap1 md (n + 1) (fun j => if j = n then v else el j) → Fr2 t te w w1 → post none w1) ∧ 10 ≤ cap ∧ n = cap ∧ cap < 20 ∧ w e = some (te, aQ Γ.2.1 cap (lE n el)) ∧ (∀ i : Nat, i < n → ∃ (ty : Tg) (ey : va_E), w (el i) = some (ty, ey) ∧ OkE Γ.2.1 ey)) := by
  refine ctr_of (by decide) ?_
  rintro g av w hG hO ⟨a, t, te, e, cap, md, n, el, v, tv, ev, rfl, ha, hv, hok, hne, hn1, hn2, hk, p1, rfl, p3, he, hel⟩
  refine ⟨Nat.le_of_ble_eq_true rfl, ?_⟩
  show X g w 0 0 0 [some (.ref a), some (.ref v), some (.ref e), some (.int (nI n))] []
  refine x_iload_n hG (pc := 0) 3 dJx4a65c_add_72be8_0 rfl rfl ?_
  refine x_aload_n hG (pc := 1) 2 dJx4a65c_add_72be8_1 rfl rfl ?_
  refine x_alenO hG (pc := 2) he dJx4a65c_add_72be8_2 ?_
  refine x_icmp_ne hG (pc := 3) 11 dJx4a65c_add_72be8_3 (by decide) (fun h3 => ?_) (fun h3 => ?_)
  · exact absurd rfl h3
  · refine x_aload_n hG (pc := 6) 0 dJx4a65c_add_72be8_6 rfl rfl ?_
    refine x_callV hG hO (pc := 7) [] c_Jx4a65c_grow_d5877 lk_Jx4a65c_129 (by assumption) rfl rfl ⟨by decide, by decide⟩ (Nat.le_of_ble_eq_true rfl) (by rw [hG.mc]; exact Nat.le_of_ble_eq_true rfl) (by rw [hG.ms]; exact Nat.le_of_ble_eq_true rfl) dJx4a65c_add_72be8_7 ?_
    refine ⟨a, t, te, e, n, md, n, el, rfl, ha, Or.inr ⟨by omega, rfl, by omega, he, hel⟩, hne, fun w1 e1 cap1 q1 q2 q3 => ?_⟩
    have ha1 := q2.1
    have hv1 := q3 v _ hv hn1 hn2
    obtain ⟨r1, r2, r3, he1⟩ : 10 ≤ cap1 ∧ n ≤ cap1 ∧ cap1 ≤ 30 ∧ w1 e1 = some (te, aQ (gK g) cap1 (lE n el)) := by
      rcases q2.2 with h | ⟨h1, h2, h3⟩
      · exact h
      · omega
    refine x_astore_n hG (pc := 10) 2 dJx4a65c_add_72be8_10 rfl (Nat.le_of_ble_eq_true rfl) rfl (by dsimp only [List.set]) ?_
    refine x_aload_n hG (pc := 11) 2 dJx4a65c_add_72be8_11 rfl rfl ?_
    refine x_iload_n hG (pc := 12) 3 dJx4a65c_add_72be8_12 rfl rfl ?_
    refine x_aload_n hG (pc := 13) 1 dJx4a65c_add_72be8_13 rfl rfl ?_
    refine x_aastQ hG (pc := 14) he1 hv1 hok (vp_in_nI (by omega) (by omega)) dJx4a65c_add_72be8_14 ?_
    rw [nI_clamp (by omega), lE_put]
    refine x_gen (fun w2 z2 => ?_)
    have he2 := (congrFun z2 e1).trans wup_s
    have ha2 := (congrFun z2 a).trans (wup_t he1 ha1 (Ne.symm hne))
    refine x_aload_n hG (pc := 15) 0 dJx4a65c_add_72be8_15 rfl rfl ?_
    refine x_iload_n hG (pc := 16) 3 dJx4a65c_add_72be8_16 rfl rfl ?_
    refine x_iconst hG (pc := 17) 1 dJx4a65c_add_72be8_17 (by decide) ?_
    refine x_iadd hG (pc := 18) dJx4a65c_add_72be8_18 ?_
    rw [nI_1]
    refine x_putf hG (pc := 19) fl_Jx4a65c_48 fw_1 ft_1_2 ha2 (Nat.le_of_ble_eq_true rfl) rfl rfl (by dsimp only [List.set]) dJx4a65c_add_72be8_19 ?_
    refine x_gen (fun w3 z3 => ?_)
    have ha3 := (congrFun z3 a).trans wup_s
    have he3 := (congrFun z3 e1).trans (wup_t ha2 he2 hne)
    refine x_return hG (pc := 22) dJx4a65c_add_72be8_22 rfl (by rw [hG.mc]; exact Nat.le_of_ble_eq_true rfl) (by rw [hG.ms]; exact Nat.le_of_ble_eq_true rfl) ?_
    refine hk w3 e1 cap1 ⟨ha3, Or.inl ⟨by omega, by omega, by omega, he3⟩⟩ ?_
    subst z3 z2
    exact (q3.up he1 (Or.inr rfl)).up ha2 (Or.inl rfl)
set_option maxHeartbeats 400000 in
set_option maxRecDepth 100000 in
theorem c_Jx4a65c_add_72be8_c : CtrA yJx4a65c_add_72be8 cJx4a65c_add_72be8 4 none (rmk 6 1 30 280) (fun Γ av w post _ => ∃ a t te e cap md n, ∃ (el : Nat → Nat), ∃ v tv ev, av = [.ref a, .ref v, .ref e, .int (nI n)] ∧ w a = some (t, oL md e n) ∧ w v = some (tv, ev) ∧ OkE Γ.2.1 ev ∧ te ≠ t ∧ tv ≠ t ∧ tv ≠ te ∧ (∀ w1 e1 cap1, AL Γ w1 a t te e1 cap1 md (n + 1) (fun j => if j = n then v else el j) → Fr2 t te w w1 → post none w1) ∧ cap = 0 ∧ n = 0 ∧ e = Γ.2.2.2.1) := by
  refine ctr_of (by decide) ?_
  rintro g av w hG hO ⟨a, t, te, e, cap, md, n, el, v, tv, ev, rfl, ha, hv, hok, hne, hn1, hn2, hk, rfl, rfl, rfl⟩
  refine ⟨Nat.le_of_ble_eq_true rfl, ?_⟩
  show X g w 0 0 0 [some (.ref a), some (.ref v), some (.ref (gΓ g).2.2.2.1), some (.int (nI 0))] []
  refine x_iload_n hG (pc := 0) 3 dJx4a65c_add_72be8_0 rfl rfl ?_
  refine x_aload_n hG (pc := 1) 2 dJx4a65c_add_72be8_1 rfl rfl ?_
  refine x_len0 hG (pc := 2) dJx4a65c_add_72be8_2 ?_
  refine x_icmp_ne hG (pc := 3) 11 dJx4a65c_add_72be8_3 (by decide) (fun h3 => ?_) (fun h3 => ?_)
  · exact absurd rfl h3
  · refine x_aload_n hG (pc := 6) 0 dJx4a65c_add_72be8_6 rfl rfl ?_
    refine x_callV hG hO (pc := 7) [] c_Jx4a65c_grow_d5877 lk_Jx4a65c_129 (by assumption) rfl rfl ⟨by decide, by decide⟩ (Nat.le_of_ble_eq_true rfl) (by rw [hG.mc]; exact Nat.le_of_ble_eq_true rfl) (by rw [hG.ms]; exact Nat.le_of_ble_eq_true rfl) dJx4a65c_add_72be8_7 ?_
    refine ⟨a, t, te, _, 0, md, 0, el, rfl, ha, Or.inl ⟨rfl, rfl, rfl⟩, hne, fun w1 e1 cap1 q1 q2 q3 => ?_⟩
    have ha1 := q2.1
    have hv1 := q3 v _ hv hn1 hn2
    obtain ⟨r1, r2, r3, he1⟩ : 10 ≤ cap1 ∧ 0 ≤ cap1 ∧ cap1 ≤ 30 ∧ w1 e1 = some (te, aQ (gK g) cap1 (lE 0 el)) := by
      rcases q2.2 with h | ⟨h1, h2, h3⟩
      · exact h
      · omega
    refine x_astore_n hG (pc := 10) 2 dJx4a65c_add_72be8_10 rfl (Nat.le_of_ble_eq_true rfl) rfl (by dsimp only [List.set]) ?_
    refine x_aload_n hG (pc := 11) 2 dJx4a65c_add_72be8_11 rfl rfl ?_
    refine x_iload_n hG (pc := 12) 3 dJx4a65c_add_72be8_12 rfl rfl ?_
    refine x_aload_n hG (pc := 13) 1 dJx4a65c_add_72be8_13 rfl rfl ?_
    refine x_aastQ hG (pc := 14) he1 hv1 hok (vp_in_nI (by omega) (by omega)) dJx4a65c_add_72be8_14 ?_
    rw [nI_clamp (by omega), lE_put]
    refine x_gen (fun w2 z2 => ?_)
    have he2 := (congrFun z2 e1).trans wup_s
    have ha2 := (congrFun z2 a).trans (wup_t he1 ha1 (Ne.symm hne))
    refine x_aload_n hG (pc := 15) 0 dJx4a65c_add_72be8_15 rfl rfl ?_
    refine x_iload_n hG (pc := 16) 3 dJx4a65c_add_72be8_16 rfl rfl ?_
    refine x_iconst hG (pc := 17) 1 dJx4a65c_add_72be8_17 (by decide) ?_
    refine x_iadd hG (pc := 18) dJx4a65c_add_72be8_18 ?_
    rw [nI_1]
    refine x_putf hG (pc := 19) fl_Jx4a65c_48 fw_1 ft_1_2 ha2 (Nat.le_of_ble_eq_true rfl) rfl rfl (by dsimp only [List.set]) dJx4a65c_add_72be8_19 ?_
    refine x_gen (fun w3 z3 => ?_)
    have ha3 := (congrFun z3 a).trans wup_s
    have he3 := (congrFun z3 e1).trans (wup_t ha2 he2 hne)
    refine x_return hG (pc := 22) dJx4a65c_add_72be8_22 rfl (by rw [hG.mc]; exact Nat.le_of_ble_eq_true rfl) (by rw [hG.ms]; exact Nat.le_of_ble_eq_true rfl) ?_
    refine hk w3 e1 cap1 ⟨ha3, Or.inl ⟨by omega, by omega, by omega, he3⟩⟩ ?_
    subst z3 z2
    exact (q3.up he1 (Or.inr rfl)).up ha2 (Or.inl rfl)
theorem c_Jx4a65c_add_72be8 : CtrA yJx4a65c_add_72be8 cJx4a65c_add_72be8 4 none (rmk 6 1 30 280) (fun Γ av w post _ => ∃ a t te e cap md n, ∃ (el : Nat → Nat), ∃ v tv ev, av = [.ref a, .ref v, .ref e, .int (nI n)] ∧ w a = some (t, oL md e n) ∧ w v = some (tv, ev) ∧ OkE Γ.2.1 ev ∧ te ≠ t ∧ tv ≠ t ∧ tv ≠ te ∧ (∀ w1 e1 cap1, AL Γ w1 a t te e1 cap1 md (n + 1) (fun j => if j = n then v else el j) → Fr2 t te w w1 → post none w1) ∧ n < 20 ∧ ((10 ≤ cap ∧ n ≤ cap ∧ cap ≤ 30 ∧ w e = some (te, aQ Γ.2.1 cap (lE n el))) ∨ (cap = 0 ∧ n = 0 ∧ e = Γ.2.2.2.1)) ∧ (∀ i : Nat, i < n → ∃ (ty : Tg) (ey : va_E), w (el i) = some (ty, ey) ∧ OkE Γ.2.1 ey)) := ctr_imp (ctr_or c_Jx4a65c_add_72be8_a (ctr_or c_Jx4a65c_add_72be8_b c_Jx4a65c_add_72be8_c)) (by
  rintro Γ av w post xpost ⟨a, t, te, e, cap, md, n, el, v, tv, ev, h1, h2, h3, h4, h5, h6, h7, h8, h9, ⟨p1, p2, p3, p4⟩ | p, h11⟩
  · by_cases h : n < cap
    · exact Or.inl ⟨a, t, te, e, cap, md, n, el, v, tv, ev, h1, h2, h3, h4, h5, h6, h7, h8, p1, h, p3, p4⟩
    · exact Or.inr (Or.inl ⟨a, t, te, e, cap, md, n, el, v, tv, ev, h1, h2, h3, h4, h5, h6, h7, h8, p1, by omega, by omega, p4, h11⟩)
  · exact Or.inr (Or.inr ⟨a, t, te, e, cap, md, n, el, v, tv, ev, h1, h2, h3, h4, h5, h6, h7, h8, p⟩))
set_option maxHeartbeats 400000 in
set_option maxRecDepth 100000 in
theorem c_Jx4a65c_add_9ea2d : CtrA yJx4a65c_add_9ea2d cJx4a65c_add_9ea2d 2 (some .boolean) (rmk 7 1 30 303) (fun Γ av w post _ => ∃ a t te e cap md n el v tv ev, av = [.ref a, .ref v] ∧ AL Γ w a t te e cap md n el ∧ n < 20 ∧ w v = some (tv, ev) ∧ OkE Γ.2.1 ev ∧ te ≠ t ∧ tv ≠ t ∧ tv ≠ te ∧ (∀ i : Nat, i < n → ∃ (ty : Tg) (ey : va_E), w (el i) = some (ty, ey) ∧ OkE Γ.2.1 ey ∧ ty ≠ t) ∧ ∀ w1 e1 cap1, AL Γ w1 a t te e1 cap1 (md + 1) (n + 1) (fun j => if j = n then v else el j) → Fr2 t te w w1 → post (some (.int 1)) w1) := by
  refine ctr_of (by decide) ?_
  rintro g av w hG hO ⟨a, t, te, e, cap, md, n, el, v, tv, ev, rfl, ⟨ha, hc⟩, hn, hv, hok, hne, hn1, hn2, hel, hk⟩
  refine ⟨Nat.le_of_ble_eq_true rfl, ?_⟩
  show X g w 0 0 0 [some (.ref a), some (.ref v)] []
  refine x_aload_n hG (pc := 0) 0 dJx4a65c_add_9ea2d_0 rfl rfl ?_
  refine x_dup hG (pc := 1) dJx4a65c_add_9ea2d_1 rfl ?_
  refine x_getf hG (pc := 2) fl_Jx4a65c_63 (by assumption) rfl dJx4a65c_add_9ea2d_2 ?_
  refine x_iconst hG (pc := 5) 1 dJx4a65c_add_9ea2d_5 (by decide) ?_
  refine x_iadd hG (pc := 6) dJx4a65c_add_9ea2d_6 ?_
  refine x_putf hG (pc := 7) fl_Jx4a65c_63 fw_1 ft_1_0 ha (Nat.le_of_ble_eq_true rfl) rfl rfl (by dsimp only [List.set]) dJx4a65c_add_9ea2d_7 ?_
  refine x_gen (fun w1 e1 => ?_)
  have ha1 := (congrFun e1 a).trans wup_s
  have hv1 := (congrFun e1 v).trans (wup_t ha hv hn1)
  refine x_aload_n hG (pc := 10) 0 dJx4a65c_add_9ea2d_10 rfl rfl ?_
  refine x_aload_n hG (pc := 11) 1 dJx4a65c_add_9ea2d_11 rfl rfl ?_
  refine x_aload_n hG (pc := 12) 0 dJx4a65c_add_9ea2d_12 rfl rfl ?_
  refine x_getf hG (pc := 13) fl_Jx4a65c_9 ha1 rfl dJx4a65c_add_9ea2d_13 ?_
  refine x_aload_n hG (pc := 16) 0 dJx4a65c_add_9ea2d_16 rfl rfl ?_
  refine x_getf hG (pc := 17) fl_Jx4a65c_48 ha1 rfl dJx4a65c_add_9ea2d_17 ?_
  refine x_callV hG hO (pc := 20) [_, _, _] c_Jx4a65c_add_72be8 lk_Jx4a65c_131 ha1 rfl rfl ⟨by decide, by decide⟩ (Nat.le_of_ble_eq_true rfl) (by rw [hG.mc]; exact Nat.le_of_ble_eq_true rfl) (by rw [hG.ms]; exact Nat.le_of_ble_eq_true rfl) dJx4a65c_add_9ea2d_20 ?_
  refine ⟨a, t, te, e, cap, _, n, el, v, tv, ev, rfl, ha1, hv1, hok, hne, hn1, hn2, fun w2 e2 cap2 q1 q2 => ?_, hn, ?_, ?_⟩
  rotate_left
  · rcases hc with ⟨p1, p2, p3, p4⟩ | p
    · exact Or.inl ⟨p1, p2, p3, (congrFun e1 e).trans (wup_t ha p4 hne)⟩
    · exact Or.inr p
  · intro i hi
    obtain ⟨ty, ey, z1, z2, z3⟩ := hel i hi
    exact ⟨ty, ey, (congrFun e1 _).trans (wup_t ha z1 z3), z2⟩
  refine x_iconst hG (pc := 23) 1 dJx4a65c_add_9ea2d_23 (by decide) ?_
  refine x_ireturn hG (pc := 24) dJx4a65c_add_9ea2d_24 rfl rfl (by rw [hG.mc]; exact Nat.le_of_ble_eq_true rfl) (by rw [hG.ms]; exact Nat.le_of_ble_eq_true rfl) ?_
  refine hk w2 e2 cap2 q1 ?_
  intro b z hb z1 z2
  refine q2 b z ?_ z1 z2
  subst e1
  exact (wup_n (fun q => by subst q; rw [ha] at hb; cases hb; exact z1 rfl)).trans hb
abbrev oI (cur lst md : Int32) (a : Nat) : va_E := .inr (0, [.int cur, .int lst, .int md, .ref a])
set_option maxHeartbeats 400000 in
set_option maxRecDepth 100000 in
theorem c_Jx35411_init_45d68 : CtrA yJx35411_init_45d68 cJx35411_init_45d68 2 none (rmk 1 0 0 20) (fun Γ av w post _ => ∃ i ti l tl md e n, av = [.ref i, .ref l] ∧ w i = some (ti, .inr (0, [.int 0, .int 0, .int 0, .null])) ∧ w l = some (tl, oL md e n) ∧ post none (wup w i (ti, oI 0 (-1) md l))) := by
  refine ctr_of (by decide) ?_
  rintro g av w hG hO ⟨i, ti, l, tl, md, e, n, rfl, hi, hl, hk⟩
  refine ⟨Nat.le_of_ble_eq_true rfl, ?_⟩
  show X g w 0 0 0 [some (.ref i), some (.ref l)] []
  refine x_aload_n hG (pc := 0) 0 dJx35411_init_45d68_0 rfl rfl ?_
  refine x_aload_n hG (pc := 1) 1 dJx35411_init_45d68_1 rfl rfl ?_
  refine x_putfF hG (pc := 2) flp_Jx35411_1 fw_0 ft_0_3 hi (Nat.le_of_ble_eq_true rfl) rfl rfl (by dsimp only [List.set]) dJx35411_init_45d68_2 rfl ?_
  refine x_gen (fun w1 e1 => ?_)
  have hi1 := (congrFun e1 i).trans wup_s
  have hl1 := (congrFun e1 l).trans (wup_e hi hl (by intro q; cases q))
  refine x_aload_n hG (pc := 5) 0 dJx35411_init_45d68_5 rfl rfl ?_
  refine x_objInit hG (pc := 6) oi_Jx35411_7 oi_i oi_c dJx35411_init_45d68_6 (by decide) (Nat.le_of_ble_eq_true rfl) (Nat.le_of_ble_eq_true rfl) ?_
  refine x_aload_n hG (pc := 9) 0 dJx35411_init_45d68_9 rfl rfl ?_
  refine x_iconst hG (pc := 10) (-1) dJx35411_init_45d68_10 (by decide) ?_
  refine x_putf hG (pc := 11) fl_Jx35411_13 fw_0 ft_0_1 hi1 (Nat.le_of_ble_eq_true rfl) rfl rfl (by dsimp only [List.set]) dJx35411_init_45d68_11 ?_
  refine x_gen (fun w2 e2 => ?_)
  have hi2 := (congrFun e2 i).trans wup_s
  have hl2 := (congrFun e2 l).trans (wup_e hi1 hl1 (by intro q; cases q))
  refine x_aload_n hG (pc := 14) 0 dJx35411_init_45d68_14 rfl rfl ?_
  refine x_aload_n hG (pc := 15) 0 dJx35411_init_45d68_15 rfl rfl ?_
  refine x_getf hG (pc := 16) fl_Jx35411_1 hi2 rfl dJx35411_init_45d68_16 ?_
  refine x_getf hG (pc := 19) fl_Jx35411_17 hl2 rfl dJx35411_init_45d68_19 ?_
  refine x_putf hG (pc := 22) fl_Jx35411_22 fw_0 ft_0_2 hi2 (Nat.le_of_ble_eq_true rfl) rfl rfl (by dsimp only [List.set]) dJx35411_init_45d68_22 ?_
  refine x_return hG (pc := 25) dJx35411_init_45d68_25 rfl (by rw [hG.mc]; exact Nat.le_of_ble_eq_true rfl) (by rw [hG.ms]; exact Nat.le_of_ble_eq_true rfl) ?_
  subst e2 e1
  rw [wup_w, wup_w]
  exact hk
set_option maxHeartbeats 400000 in
set_option maxRecDepth 100000 in
theorem c_Jx4a65c_iterator_32c93 : CtrA yJx4a65c_iterator_32c93 cJx4a65c_iterator_32c93 1 (some (.object "java/util/Iterator")) (rmk 2 1 4 41) (fun Γ av w post _ => ∃ l tl md e n ti, av = [.ref l] ∧ w l = some (tl, oL md e n) ∧ ∀ i, w i = none → n0A Γ i → post (some (.ref i)) (wup w i (ti, oI 0 (-1) md l))) := by
  refine ctr_of (by decide) ?_
  rintro g av w hG hO ⟨l, tl, md, e, n, ti, rfl, hl, hk⟩
  refine ⟨Nat.le_of_ble_eq_true rfl, ?_⟩
  show X g w 0 0 0 [some (.ref l)] []
  refine x_new hG (pc := 0) ti nw_Jx4a65c_267 dJx4a65c_iterator_32c93_0 (by rw [hG.mc]; exact Nat.le_of_ble_eq_true rfl) (by rw [hG.ms]; exact Nat.le_of_ble_eq_true rfl) (fun i hfi hni => ?_)
  refine x_gen (fun w1 e1 => ?_)
  have hi1 := (congrFun e1 i).trans wup_s
  have hl1 := (congrFun e1 l).trans (wup_f hfi hl)
  refine x_dup hG (pc := 3) dJx4a65c_iterator_32c93_3 rfl ?_
  refine x_aload_n hG (pc := 4) 0 dJx4a65c_iterator_32c93_4 rfl rfl ?_
  refine x_callI hG hO (pc := 5) [_] c_Jx35411_init_45d68 lk_Jx4a65c_269 rfl rfl ⟨by decide, by decide⟩ (Nat.le_of_ble_eq_true rfl) (by rw [hG.mc]; exact Nat.le_of_ble_eq_true rfl) (by rw [hG.ms]; exact Nat.le_of_ble_eq_true rfl) dJx4a65c_iterator_32c93_5 ?_
  refine ⟨i, ti, l, tl, md, e, n, rfl, hi1, hl1, ?_⟩
  refine x_areturn hG (pc := 8) dJx4a65c_iterator_32c93_8 rfl (Or.inl ⟨_, rfl⟩) (by rw [hG.mc]; exact Nat.le_of_ble_eq_true rfl) (by rw [hG.ms]; exact Nat.le_of_ble_eq_true rfl) ?_
  subst e1
  rw [wup_w]
  exact hk i hfi hni
set_option maxHeartbeats 400000 in
set_option maxRecDepth 100000 in
theorem c_Jx35411_hasNext_aae02 : CtrA yJx35411_hasNext_aae02 cJx35411_hasNext_aae02 1 (some .boolean) (rmk 0 0 0 0) (fun Γ av w post _ => ∃ i ti c ls md l tl e n, av = [.ref i] ∧ w i = some (ti, oI c ls md l) ∧ w l = some (tl, oL md e n) ∧ post (some (.int (if c = nI n then 0 else 1))) w) := by
  refine ctr_of (by decide) ?_
  rintro g av w hG hO ⟨i, ti, c, ls, md, l, tl, e, n, rfl, hi, hl, hk⟩
  refine ⟨Nat.le_of_ble_eq_true rfl, ?_⟩
  show X g w 0 0 0 [some (.ref i)] []
  refine x_aload_n hG (pc := 0) 0 dJx35411_hasNext_aae02_0 rfl rfl ?_
  refine x_getf hG (pc := 1) fl_Jx35411_25 (by assumption) rfl dJx35411_hasNext_aae02_1 ?_
  refine x_aload_n hG (pc := 4) 0 dJx35411_hasNext_aae02_4 rfl rfl ?_
  refine x_getf hG (pc := 5) fl_Jx35411_1 (by assumption) rfl dJx35411_hasNext_aae02_5 ?_
  refine x_getf hG (pc := 8) fl_Jx35411_28 (by assumption) rfl dJx35411_hasNext_aae02_8 ?_
  refine x_icmp_eq hG (pc := 11) 18 dJx35411_hasNext_aae02_11 (by decide) (fun h11 => ?_) (fun h11 => ?_)
  · refine x_iconst hG (pc := 18) 0 dJx35411_hasNext_aae02_18 (by decide) ?_
    refine x_ireturn hG (pc := 19) dJx35411_hasNext_aae02_19 rfl rfl (by rw [hG.mc]; exact Nat.le_of_ble_eq_true rfl) (by rw [hG.ms]; exact Nat.le_of_ble_eq_true rfl) ?_
    exact fin_i (by simp [h11]) hk
  · refine x_iconst hG (pc := 14) 1 dJx35411_hasNext_aae02_14 (by decide) ?_
    refine x_goto hG (pc := 15) 19 dJx35411_hasNext_aae02_15 (by decide) ?_
    refine x_ireturn hG (pc := 19) dJx35411_hasNext_aae02_19 rfl rfl (by rw [hG.mc]; exact Nat.le_of_ble_eq_true rfl) (by rw [hG.ms]; exact Nat.le_of_ble_eq_true rfl) ?_
    exact fin_i (by simp [h11]) hk
set_option maxHeartbeats 400000 in
set_option maxRecDepth 100000 in
theorem c_Jx35411_checkForComodification_da8c8 : CtrA yJx35411_checkForComodification_da8c8 cJx35411_checkForComodification_da8c8 1 none (rmk 0 0 0 0) (fun Γ av w post _ => ∃ i ti c ls md l tl e n, av = [.ref i] ∧ w i = some (ti, oI c ls md l) ∧ w l = some (tl, oL md e n) ∧ post none w) := by
  refine ctr_of (by decide) ?_
  rintro g av w hG hO ⟨i, ti, c, ls, md, l, tl, e, n, rfl, hi, hl, hk⟩
  refine ⟨Nat.le_of_ble_eq_true rfl, ?_⟩
  show X g w 0 0 0 [some (.ref i)] []
  refine x_aload_n hG (pc := 0) 0 dJx35411_checkForComodification_da8c8_0 rfl rfl ?_
  refine x_getf hG (pc := 1) fl_Jx35411_1 (by assumption) rfl dJx35411_checkForComodification_da8c8_1 ?_
  refine x_getf hG (pc := 4) fl_Jx35411_17 (by assumption) rfl dJx35411_checkForComodification_da8c8_4 ?_
  refine x_aload_n hG (pc := 7) 0 dJx35411_checkForComodification_da8c8_7 rfl rfl ?_
  refine x_getf hG (pc := 8) fl_Jx35411_22 (by assumption) rfl dJx35411_checkForComodification_da8c8_8 ?_
  refine x_icmp_eq hG (pc := 11) 22 dJx35411_checkForComodification_da8c8_11 (by decide) (fun h11 => ?_) (fun h11 => ?_)
  · refine x_return hG (pc := 22) dJx35411_checkForComodification_da8c8_22 rfl (by rw [hG.mc]; exact Nat.le_of_ble_eq_true rfl) (by rw [hG.ms]; exact Nat.le_of_ble_eq_true rfl) ?_
    exact hk
  · exact absurd rfl h11
set_option maxHeartbeats 400000 in
set_option maxRecDepth 100000 in
theorem c_Jx35411_next_0502b : CtrA yJx35411_next_0502b cJx35411_next_0502b 3 (some (.object "java/lang/Object")) (rmk 1 0 0 20) (fun Γ av w post _ => ∃ i ti c ls md l tl e n cap el te, av = [.ref i] ∧ w i = some (ti, oI (nI c) ls md l) ∧ AL Γ w l tl te e cap md n el ∧ c < n ∧ ti ≠ te ∧ post (some (.ref (el c))) (wup w i (ti, oI (nI (c + 1)) (nI c) md l))) := by
  refine ctr_of (by decide) ?_
  rintro g av w hG hO ⟨i, ti, c, ls, md, l, tl, e, n, cap, el, te, rfl, hi, ⟨hl, hc⟩, hcn, hne, hk⟩
  refine ⟨Nat.le_of_ble_eq_true rfl, ?_⟩
  show X g w 0 0 0 [some (.ref i), none, none] []
  obtain ⟨r1, r2, r3, he⟩ : 10 ≤ cap ∧ n ≤ cap ∧ cap ≤ 30 ∧ w e = some (te, aQ (gK g) cap (lE n el)) := by
    rcases hc with h | ⟨h1, h2, h3⟩
    · exact h
    · omega
  refine x_aload_n hG (pc := 0) 0 dJx35411_next_0502b_0 rfl rfl ?_
  refine x_callV hG hO (pc := 1) [] c_Jx35411_checkForComodification_da8c8 lk_Jx35411_31 (by assumption) rfl rfl ⟨by decide, by decide⟩ (Nat.le_of_ble_eq_true rfl) (by rw [hG.mc]; exact Nat.le_of_ble_eq_true rfl) (by rw [hG.ms]; exact Nat.le_of_ble_eq_true rfl) dJx35411_next_0502b_1 ?_
  refine ⟨i, ti, _, ls, md, l, tl, e, n, rfl, hi, hl, ?_⟩
  refine x_aload_n hG (pc := 4) 0 dJx35411_next_0502b_4 rfl rfl ?_
  refine x_getf hG (pc := 5) fl_Jx35411_25 (by assumption) rfl dJx35411_next_0502b_5 ?_
  refine x_istore_n hG (pc := 8) 1 dJx35411_next_0502b_8 rfl (Nat.le_of_ble_eq_true rfl) rfl (by dsimp only [List.set]) ?_
  refine x_iload_n hG (pc := 9) 1 dJx35411_next_0502b_9 rfl rfl ?_
  refine x_aload_n hG (pc := 10) 0 dJx35411_next_0502b_10 rfl rfl ?_
  refine x_getf hG (pc := 11) fl_Jx35411_1 (by assumption) rfl dJx35411_next_0502b_11 ?_
  refine x_getf hG (pc := 14) fl_Jx35411_28 (by assumption) rfl dJx35411_next_0502b_14 ?_
  refine x_icmp_lt hG (pc := 17) 28 dJx35411_next_0502b_17 (by decide) (fun h17 => ?_) (fun h17 => ?_)
  · refine x_aload_n hG (pc := 28) 0 dJx35411_next_0502b_28 rfl rfl ?_
    refine x_getf hG (pc := 29) fl_Jx35411_1 (by assumption) rfl dJx35411_next_0502b_29 ?_
    refine x_getf hG (pc := 32) fl_Jx35411_37 (by assumption) rfl dJx35411_next_0502b_32 ?_
    refine x_astore_n hG (pc := 35) 2 dJx35411_next_0502b_35 rfl (Nat.le_of_ble_eq_true rfl) rfl (by dsimp only [List.set]) ?_
    refine x_iload_n hG (pc := 36) 1 dJx35411_next_0502b_36 rfl rfl ?_
    refine x_aload_n hG (pc := 37) 2 dJx35411_next_0502b_37 rfl rfl ?_
    refine x_alenO hG (pc := 38) he dJx35411_next_0502b_38 ?_
    refine x_icmp_lt hG (pc := 39) 50 dJx35411_next_0502b_39 (by decide) (fun h39 => ?_) (fun h39 => ?_)
    · refine x_aload_n hG (pc := 50) 0 dJx35411_next_0502b_50 rfl rfl ?_
      refine x_iload_n hG (pc := 51) 1 dJx35411_next_0502b_51 rfl rfl ?_
      refine x_iconst hG (pc := 52) 1 dJx35411_next_0502b_52 (by decide) ?_
      refine x_iadd hG (pc := 53) dJx35411_next_0502b_53 ?_
      rw [nI_1]
      refine x_putf hG (pc := 54) fl_Jx35411_25 fw_0 ft_0_0 hi (Nat.le_of_ble_eq_true rfl) rfl rfl (by dsimp only [List.set]) dJx35411_next_0502b_54 ?_
      refine x_gen (fun w1 e1 => ?_)
      have hi1 := (congrFun e1 i).trans wup_s
      have he1 := (congrFun e1 e).trans (wup_t hi he (Ne.symm hne))
      refine x_aload_n hG (pc := 57) 2 dJx35411_next_0502b_57 rfl rfl ?_
      refine x_aload_n hG (pc := 58) 0 dJx35411_next_0502b_58 rfl rfl ?_
      refine x_iload_n hG (pc := 59) 1 dJx35411_next_0502b_59 rfl rfl ?_
      refine x_dup_x1 hG (pc := 60) dJx35411_next_0502b_60 rfl rfl ?_
      refine x_putf hG (pc := 61) fl_Jx35411_13 fw_0 ft_0_1 hi1 (Nat.le_of_ble_eq_true rfl) rfl rfl (by dsimp only [List.set]) dJx35411_next_0502b_61 ?_
      refine x_gen (fun w2 e2 => ?_)
      have hi2 := (congrFun e2 i).trans wup_s
      have he2 := (congrFun e2 e).trans (wup_t hi1 he1 (Ne.symm hne))
      refine x_aaldO hG (pc := 64) he2 (vp_in_nI (by omega) (by omega)) dJx35411_next_0502b_64 ?_
      rw [nI_clamp (by omega), lE_at hcn]
      show X g w2 _ _ _ _ [.ref (el c)]
      refine x_areturn hG (pc := 65) dJx35411_next_0502b_65 rfl (Or.inl ⟨_, rfl⟩) (by rw [hG.mc]; exact Nat.le_of_ble_eq_true rfl) (by rw [hG.ms]; exact Nat.le_of_ble_eq_true rfl) ?_
      subst e2 e1
      rw [wup_w]
      exact hk
    · exact absurd (nI_lt (by omega) (by omega)) h39
  · exact absurd (nI_lt hcn (by omega)) h17
