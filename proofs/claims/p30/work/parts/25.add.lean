/-! ArrayList.grow(), add; the iterator -/
theorem c_Jx4a65c_grow_92f84 : CtrA yJx4a65c_grow_92f84 cJx4a65c_grow_92f84 4 (some (.array (.object "java/lang/Object"))) (rmk 4 1 30 200) (fun Γ av w post _ => ∃ a t te e cap md n el, av = [.ref a, .int (nI (n + 1))] ∧ w a = some (t, oL md e n) ∧ (((cap = 0 ∧ n = 0 ∧ e = Γ.2.2.2.1)) ∨ (10 ≤ cap ∧ n = cap ∧ cap < 20 ∧ w e = some (te, aQ Γ.2.1 cap (lE n el)) ∧ (∀ i : Nat, i < n → ∃ (ty : Tg) (ey : va_E), w (el i) = some (ty, ey) ∧ OkE Γ.2.1 ey))) ∧ te ≠ t ∧ ∀ w1 e1 cap1, n < cap1 → AL Γ w1 a t te e1 cap1 md n el → Fr2 t te w w1 → post (some (.ref e1)) w1) := ctr_imp (ctr_or c_Jx4a65c_grow_92f84_0 c_Jx4a65c_grow_92f84_1) (by
  rintro Γ av w post xpost ⟨a, t, te, e, cap, md, n, el, h1, h2, h3 | h3, h4⟩
  · exact Or.inl ⟨a, t, te, e, cap, md, n, el, h1, h2, h3, h4⟩
  · exact Or.inr ⟨a, t, te, e, cap, md, n, el, h1, h2, h3, h4⟩)
set_option maxHeartbeats 400000 in
set_option maxRecDepth 100000 in
theorem c_Jx4a65c_grow_d5877 : CtrA yJx4a65c_grow_d5877 cJx4a65c_grow_d5877 1 (some (.array (.object "java/lang/Object"))) (rmk 5 1 30 223) (fun Γ av w post _ => ∃ a t te e cap md n el, av = [.ref a] ∧ w a = some (t, oL md e n) ∧ (((cap = 0 ∧ n = 0 ∧ e = Γ.2.2.2.1)) ∨ (10 ≤ cap ∧ n = cap ∧ cap < 20 ∧ w e = some (te, aQ Γ.2.1 cap (lE n el)) ∧ (∀ i : Nat, i < n → ∃ (ty : Tg) (ey : va_E), w (el i) = some (ty, ey) ∧ OkE Γ.2.1 ey))) ∧ te ≠ t ∧ ∀ w1 e1 cap1, n < cap1 → AL Γ w1 a t te e1 cap1 md n el → Fr2 t te w w1 → post (some (.ref e1)) w1) := by
  refine ctr_of (by decide) ?_
  rintro g av w hG hO ⟨a, t, te, e, cap, md, n, el, rfl, ha, hc, hne, hk⟩
  refine ⟨Nat.le_of_ble_eq_true rfl, ?_⟩
  show X g w 0 0 0 [some (.ref a)] []
  refine x_aload_n hG (pc := 0) 0 dJx4a65c_grow_d5877_0 rfl rfl ?_
  refine x_aload_n hG (pc := 1) 0 dJx4a65c_grow_d5877_1 rfl rfl ?_
  refine x_getf hG (pc := 2) fl_Jx4a65c_48 (by first | assumption | exact hR.main) rfl dJx4a65c_grow_d5877_2 ?_
  refine x_iconst hG (pc := 5) 1 dJx4a65c_grow_d5877_5 (by decide) ?_
  refine x_iadd hG (pc := 6) dJx4a65c_grow_d5877_6 ?_
  rw [nI_1]
  refine x_callV hG hO (pc := 7) [_] c_Jx4a65c_grow_92f84 lk_Jx4a65c_69 (by first | assumption | exact hR.main) rfl rfl ⟨by decide, by decide⟩ (Nat.le_of_ble_eq_true rfl) (by rw [hG.mc]; exact Nat.le_of_ble_eq_true rfl) (by rw [hG.ms]; exact Nat.le_of_ble_eq_true rfl) dJx4a65c_grow_d5877_7 ?_
  refine ⟨a, t, te, e, cap, md, n, el, rfl, ha, hc, hne, fun w1 e1 cap1 h1 h2 h3 => ?_⟩
  refine x_areturn hG (pc := 10) dJx4a65c_grow_d5877_10 rfl (Or.inr ⟨_, rfl⟩) (by rw [hG.mc]; exact Nat.le_of_ble_eq_true rfl) (by rw [hG.ms]; exact Nat.le_of_ble_eq_true rfl) ?_
  exact hk w1 e1 cap1 h1 h2 h3
set_option maxHeartbeats 400000 in
set_option maxRecDepth 100000 in
theorem c_Jx4a65c_add_72be8_a : CtrA yJx4a65c_add_72be8 cJx4a65c_add_72be8 4 none (rmk 6 1 30 280) (fun Γ av w post _ => ∃ a t te e cap md n, ∃ (el : Nat → Nat), ∃ v tv ev, av = [.ref a, .ref v, .ref e, .int (nI n)] ∧ w a = some (t, oL md e n) ∧ w v = some (tv, ev) ∧ OkE Γ.2.1 ev ∧ te ≠ t ∧ tv ≠ t ∧ tv ≠ te ∧ (∀ w1 e1 cap1, AL Γ w1 a t te e1 cap1 md (n + 1) (fun j => if j = n then v else el j) → Fr2 t te w w1 → post none w1) ∧ 10 ≤ cap ∧ n < cap ∧ cap ≤ 30 ∧ w e = some (te, aQ Γ.2.1 cap (lE n el))) := by
  refine ctr_of (by decide) ?_
  rintro g av w hG hO ⟨a, t, te, e, cap, md, n, el, v, tv, ev, rfl, ha, hv, hok, hne, hn1, hn2, hk, p1, p2, p3, he⟩
  refine ⟨Nat.le_of_ble_eq_true rfl, ?_⟩
  show X g w 0 0 0 [some (.ref a), some (.ref v), some (.ref e), some (.int (nI n))] []
  refine x_iload_n hG (pc := 0) 3 dJx4a65c_add_72be8_0 rfl rfl ?_
  refine x_aload_n hG (pc := 1) 2 dJx4a65c_add_72be8_1 rfl rfl ?_
  refine x_alenO hG (pc := 2) he dJx4a65c_add_72be8_2 ?_
  refine x_icmp_ne hG (pc := 3) 11 dJx4a65c_add_72be8_3 (by decide) (fun h3 => ?_) (fun h3 => ?_)
  · refine x_aload_n hG (pc := 11) 2 dJx4a65c_add_72be8_11 rfl rfl ?_
    refine x_iload_n hG (pc := 12) 3 dJx4a65c_add_72be8_12 rfl rfl ?_
    refine x_aload_n hG (pc := 13) 1 dJx4a65c_add_72be8_13 rfl rfl ?_
    refine x_aastQ hG (pc := 14) he hv hok (vp_in_nI (by omega) (by omega)) dJx4a65c_add_72be8_14 ?_
    rw [nI_clamp (by omega), lE_put]
    refine x_gen (fun w1 e1 => ?_)
    have he1 := (congrFun e1 e).trans wup_s
    have ha1 := (congrFun e1 a).trans (wup_t he ha (Ne.symm hne))
    refine x_aload_n hG (pc := 15) 0 dJx4a65c_add_72be8_15 rfl rfl ?_
    refine x_iload_n hG (pc := 16) 3 dJx4a65c_add_72be8_16 rfl rfl ?_
    refine x_iconst hG (pc := 17) 1 dJx4a65c_add_72be8_17 (by decide) ?_
    refine x_iadd hG (pc := 18) dJx4a65c_add_72be8_18 ?_
    rw [nI_1]
    refine x_putf hG (pc := 19) fl_Jx4a65c_48 fw_1 ft_1_2 ha1 (Nat.le_of_ble_eq_true rfl) rfl rfl (by dsimp only [List.set]) dJx4a65c_add_72be8_19 ?_
    refine x_gen (fun w2 e2 => ?_)
    have ha2 := (congrFun e2 a).trans wup_s
    have he2 := (congrFun e2 e).trans (wup_t ha1 he1 hne)
    refine x_return hG (pc := 22) dJx4a65c_add_72be8_22 rfl (by rw [hG.mc]; exact Nat.le_of_ble_eq_true rfl) (by rw [hG.ms]; exact Nat.le_of_ble_eq_true rfl) ?_
    refine hk w2 e cap ⟨ha2, Or.inl ⟨by omega, by omega, by omega, he2⟩⟩ ?_
    subst e2 e1
    exact (Fr2.rf.up he (Or.inr rfl)).up ha1 (Or.inl rfl)
  · exact absurd ((nI_eq (by omega) (by omega)).mp h3) (by omega)
set_option maxHeartbeats 400000 in
set_option maxRecDepth 100000 in
theorem c_Jx4a65c_add_72be8_b : CtrA yJx4a65c_add_72be8 cJx4a65c_add_72be8 4 none (rmk 6 1 30 280) (fun Γ av w post _ => ∃ a t te e cap md n, ∃ (el : Nat → Nat), ∃ v tv ev, av = [.ref a, .ref v, .ref e, .int (nI n)] ∧ w a = some (t, oL md e n) ∧ w v = some (tv, ev) ∧ OkE Γ.2.1 ev ∧ te ≠ t ∧ tv ≠ t ∧ tv ≠ te ∧ (∀ w1 e1 cap1, AL Γ w1 a t te e1 cap1 md (n + 1) (fun j => if j = n then v else el j) → Fr2 t te w w1 → post none w1) ∧ 10 ≤ cap ∧ n = cap ∧ cap < 20 ∧ w e = some (te, aQ Γ.2.1 cap (lE n el)) ∧ (∀ i : Nat, i < n → ∃ (ty : Tg) (ey : va_E), w (el i) = some (ty, ey) ∧ OkE Γ.2.1 ey)) := by
  refine ctr_of (by decide) ?_
  rintro g av w hG hO ⟨a, t, te, e, cap, md, n, el, v, tv, ev, rfl, ha, hv, hok, hne, hn1, hn2, hk, p1, rfl, p3, he, hel⟩
  refine ⟨Nat.le_of_ble_eq_true rfl, ?_⟩
  show X g w 0 0 0 [some (.ref a), some (.ref v), some (.ref e), some (.int (nI n))] []
  refine x_iload_n hG (pc := 0) 3 dJx4a65c_add_72be8_0 rfl rfl ?_
  refine x_aload_n hG (pc := 1) 2 dJx4a65c_add_72be8_1 rfl rfl ?_
  refine x_alenO hG (pc := 2) he dJx4a65c_add_72be8_2 ?_
  refine x_icmp_ne hG (pc := 3) 11 dJx4a65c_add_72be8_3 (by decide) (fun h3 => ?_) (fun h3 => ?_)
  · exact absurd rfl h3
  · refine x_aload_n hG (pc := 6) 0 dJx4a65c_add_72be8_6 rfl rfl ?_
    refine x_callV hG hO (pc := 7) [] c_Jx4a65c_grow_d5877 lk_Jx4a65c_129 (by first | assumption | exact hR.main) rfl rfl ⟨by decide, by decide⟩ (Nat.le_of_ble_eq_true rfl) (by rw [hG.mc]; exact Nat.le_of_ble_eq_true rfl) (by rw [hG.ms]; exact Nat.le_of_ble_eq_true rfl) dJx4a65c_add_72be8_7 ?_
    refine ⟨a, t, te, e, n, md, n, el, rfl, ha, Or.inr ⟨by omega, rfl, by omega, he, hel⟩, hne, fun w1 e1 cap1 q1 q2 q3 => ?_⟩
    have ha1 := q2.1
    have hv1 := q3 v _ hv hn1 hn2
    obtain ⟨r1, r2, r3, he1⟩ : 10 ≤ cap1 ∧ n ≤ cap1 ∧ cap1 ≤ 30 ∧ w1 e1 = some (te, aQ (gK g) cap1 (lE n el)) := by
      rcases q2.2 with h | ⟨h1, h2, h3⟩
      · exact h
      · omega
    refine x_astore_n hG (pc := 10) 2 dJx4a65c_add_72be8_10 rfl (Nat.le_of_ble_eq_true rfl) rfl (by dsimp only [List.set]) ?_
    refine x_aload_n hG (pc := 11) 2 dJx4a65c_add_72be8_11 rfl rfl ?_
    refine x_iload_n hG (pc := 12) 3 dJx4a65c_add_72be8_12 rfl rfl ?_
    refine x_aload_n hG (pc := 13) 1 dJx4a65c_add_72be8_13 rfl rfl ?_
    refine x_aastQ hG (pc := 14) he1 hv1 hok (vp_in_nI (by omega) (by omega)) dJx4a65c_add_72be8_14 ?_
    rw [nI_clamp (by omega), lE_put]
    refine x_gen (fun w2 z2 => ?_)
    have he2 := (congrFun z2 e1).trans wup_s
    have ha2 := (congrFun z2 a).trans (wup_t he1 ha1 (Ne.symm hne))
    refine x_aload_n hG (pc := 15) 0 dJx4a65c_add_72be8_15 rfl rfl ?_
    refine x_iload_n hG (pc := 16) 3 dJx4a65c_add_72be8_16 rfl rfl ?_
    refine x_iconst hG (pc := 17) 1 dJx4a65c_add_72be8_17 (by decide) ?_
    refine x_iadd hG (pc := 18) dJx4a65c_add_72be8_18 ?_
    rw [nI_1]
    refine x_putf hG (pc := 19) fl_Jx4a65c_48 fw_1 ft_1_2 ha2 (Nat.le_of_ble_eq_true rfl) rfl rfl (by dsimp only [List.set]) dJx4a65c_add_72be8_19 ?_
    refine x_gen (fun w3 z3 => ?_)
    have ha3 := (congrFun z3 a).trans wup_s
    have he3 := (congrFun z3 e1).trans (wup_t ha2 he2 hne)
    refine x_return hG (pc := 22) dJx4a65c_add_72be8_22 rfl (by rw [hG.mc]; exact Nat.le_of_ble_eq_true rfl) (by rw [hG.ms]; exact Nat.le_of_ble_eq_true rfl) ?_
    refine hk w3 e1 cap1 ⟨ha3, Or.inl ⟨by omega, by omega, by omega, he3⟩⟩ ?_
    subst z3 z2
    exact (q3.up he1 (Or.inr rfl)).up ha2 (Or.inl rfl)
set_option maxHeartbeats 400000 in
set_option maxRecDepth 100000 in
theorem c_Jx4a65c_add_72be8_c : CtrA yJx4a65c_add_72be8 cJx4a65c_add_72be8 4 none (rmk 6 1 30 280) (fun Γ av w post _ => ∃ a t te e cap md n, ∃ (el : Nat → Nat), ∃ v tv ev, av = [.ref a, .ref v, .ref e, .int (nI n)] ∧ w a = some (t, oL md e n) ∧ w v = some (tv, ev) ∧ OkE Γ.2.1 ev ∧ te ≠ t ∧ tv ≠ t ∧ tv ≠ te ∧ (∀ w1 e1 cap1, AL Γ w1 a t te e1 cap1 md (n + 1) (fun j => if j = n then v else el j) → Fr2 t te w w1 → post none w1) ∧ cap = 0 ∧ n = 0 ∧ e = Γ.2.2.2.1) := by
  refine ctr_of (by decide) ?_
  rintro g av w hG hO ⟨a, t, te, e, cap, md, n, el, v, tv, ev, rfl, ha, hv, hok, hne, hn1, hn2, hk, rfl, rfl, rfl⟩
  refine ⟨Nat.le_of_ble_eq_true rfl, ?_⟩
  show X g w 0 0 0 [some (.ref a), some (.ref v), some (.ref (gΓ g).2.2.2.1), some (.int (nI 0))] []
  refine x_iload_n hG (pc := 0) 3 dJx4a65c_add_72be8_0 rfl rfl ?_
  refine x_aload_n hG (pc := 1) 2 dJx4a65c_add_72be8_1 rfl rfl ?_
  refine x_len0 hG (pc := 2) dJx4a65c_add_72be8_2 ?_
  refine x_icmp_ne hG (pc := 3) 11 dJx4a65c_add_72be8_3 (by decide) (fun h3 => ?_) (fun h3 => ?_)
  · exact absurd rfl h3
  · refine x_aload_n hG (pc := 6) 0 dJx4a65c_add_72be8_6 rfl rfl ?_
    refine x_callV hG hO (pc := 7) [] c_Jx4a65c_grow_d5877 lk_Jx4a65c_129 (by first | assumption | exact hR.main) rfl rfl ⟨by decide, by decide⟩ (Nat.le_of_ble_eq_true rfl) (by rw [hG.mc]; exact Nat.le_of_ble_eq_true rfl) (by rw [hG.ms]; exact Nat.le_of_ble_eq_true rfl) dJx4a65c_add_72be8_7 ?_
    refine ⟨a, t, te, _, 0, md, 0, el, rfl, ha, Or.inl ⟨rfl, rfl, rfl⟩, hne, fun w1 e1 cap1 q1 q2 q3 => ?_⟩
    have ha1 := q2.1
    have hv1 := q3 v _ hv hn1 hn2
    obtain ⟨r1, r2, r3, he1⟩ : 10 ≤ cap1 ∧ 0 ≤ cap1 ∧ cap1 ≤ 30 ∧ w1 e1 = some (te, aQ (gK g) cap1 (lE 0 el)) := by
      rcases q2.2 with h | ⟨h1, h2, h3⟩
      · exact h
      · omega
    refine x_astore_n hG (pc := 10) 2 dJx4a65c_add_72be8_10 rfl (Nat.le_of_ble_eq_true rfl) rfl (by dsimp only [List.set]) ?_
    refine x_aload_n hG (pc := 11) 2 dJx4a65c_add_72be8_11 rfl rfl ?_
    refine x_iload_n hG (pc := 12) 3 dJx4a65c_add_72be8_12 rfl rfl ?_
    refine x_aload_n hG (pc := 13) 1 dJx4a65c_add_72be8_13 rfl rfl ?_
    refine x_aastQ hG (pc := 14) he1 hv1 hok (vp_in_nI (by omega) (by omega)) dJx4a65c_add_72be8_14 ?_
    rw [nI_clamp (by omega), lE_put]
    refine x_gen (fun w2 z2 => ?_)
    have he2 := (congrFun z2 e1).trans wup_s
    have ha2 := (congrFun z2 a).trans (wup_t he1 ha1 (Ne.symm hne))
    refine x_aload_n hG (pc := 15) 0 dJx4a65c_add_72be8_15 rfl rfl ?_
    refine x_iload_n hG (pc := 16) 3 dJx4a65c_add_72be8_16 rfl rfl ?_
    refine x_iconst hG (pc := 17) 1 dJx4a65c_add_72be8_17 (by decide) ?_
    refine x_iadd hG (pc := 18) dJx4a65c_add_72be8_18 ?_
    rw [nI_1]
    refine x_putf hG (pc := 19) fl_Jx4a65c_48 fw_1 ft_1_2 ha2 (Nat.le_of_ble_eq_true rfl) rfl rfl (by dsimp only [List.set]) dJx4a65c_add_72be8_19 ?_
    refine x_gen (fun w3 z3 => ?_)
    have ha3 := (congrFun z3 a).trans wup_s
    have he3 := (congrFun z3 e1).trans (wup_t ha2 he2 hne)
    refine x_return hG (pc := 22) dJx4a65c_add_72be8_22 rfl (by rw [hG.mc]; exact Nat.le_of_ble_eq_true rfl) (by rw [hG.ms]; exact Nat.le_of_ble_eq_true rfl) ?_
    refine hk w3 e1 cap1 ⟨ha3, Or.inl ⟨by omega, by omega, by omega, he3⟩⟩ ?_
    subst z3 z2
    exact (q3.up he1 (Or.inr rfl)).up ha2 (Or.inl rfl)
theorem c_Jx4a65c_add_72be8 : CtrA yJx4a65c_add_72be8 cJx4a65c_add_72be8 4 none (rmk 6 1 30 280) (fun Γ av w post _ => ∃ a t te e cap md n, ∃ (el : Nat → Nat), ∃ v tv ev, av = [.ref a, .ref v, .ref e, .int (nI n)] ∧ w a = some (t, oL md e n) ∧ w v = some (tv, ev) ∧ OkE Γ.2.1 ev ∧ te ≠ t ∧ tv ≠ t ∧ tv ≠ te ∧ (∀ w1 e1 cap1, AL Γ w1 a t te e1 cap1 md (n + 1) (fun j => if j = n then v else el j) → Fr2 t te w w1 → post none w1) ∧ n < 20 ∧ ((10 ≤ cap ∧ n ≤ cap ∧ cap ≤ 30 ∧ w e = some (te, aQ Γ.2.1 cap (lE n el))) ∨ (cap = 0 ∧ n = 0 ∧ e = Γ.2.2.2.1)) ∧ (∀ i : Nat, i < n → ∃ (ty : Tg) (ey : va_E), w (el i) = some (ty, ey) ∧ OkE Γ.2.1 ey)) := ctr_imp (ctr_or c_Jx4a65c_add_72be8_a (ctr_or c_Jx4a65c_add_72be8_b c_Jx4a65c_add_72be8_c)) (by
  rintro Γ av w post xpost ⟨a, t, te, e, cap, md, n, el, v, tv, ev, h1, h2, h3, h4, h5, h6, h7, h8, h9, ⟨p1, p2, p3, p4⟩ | p, h11⟩
  · by_cases h : n < cap
    · exact Or.inl ⟨a, t, te, e, cap, md, n, el, v, tv, ev, h1, h2, h3, h4, h5, h6, h7, h8, p1, h, p3, p4⟩
    · exact Or.inr (Or.inl ⟨a, t, te, e, cap, md, n, el, v, tv, ev, h1, h2, h3, h4, h5, h6, h7, h8, p1, by omega, by omega, p4, h11⟩)
  · exact Or.inr (Or.inr ⟨a, t, te, e, cap, md, n, el, v, tv, ev, h1, h2, h3, h4, h5, h6, h7, h8, p⟩))
set_option maxHeartbeats 400000 in
set_option maxRecDepth 100000 in
theorem c_Jx4a65c_add_9ea2d : CtrA yJx4a65c_add_9ea2d cJx4a65c_add_9ea2d 2 (some .boolean) (rmk 7 1 30 303) (fun Γ av w post _ => ∃ a t te e cap md n el v tv ev, av = [.ref a, .ref v] ∧ AL Γ w a t te e cap md n el ∧ n < 20 ∧ w v = some (tv, ev) ∧ OkE Γ.2.1 ev ∧ te ≠ t ∧ tv ≠ t ∧ tv ≠ te ∧ (∀ i : Nat, i < n → ∃ (ty : Tg) (ey : va_E), w (el i) = some (ty, ey) ∧ OkE Γ.2.1 ey ∧ ty ≠ t) ∧ ∀ w1 e1 cap1, AL Γ w1 a t te e1 cap1 (md + 1) (n + 1) (fun j => if j = n then v else el j) → Fr2 t te w w1 → post (some (.int 1)) w1) := by
  refine ctr_of (by decide) ?_
  rintro g av w hG hO ⟨a, t, te, e, cap, md, n, el, v, tv, ev, rfl, ⟨ha, hc⟩, hn, hv, hok, hne, hn1, hn2, hel, hk⟩
  refine ⟨Nat.le_of_ble_eq_true rfl, ?_⟩
  show X g w 0 0 0 [some (.ref a), some (.ref v)] []
  refine x_aload_n hG (pc := 0) 0 dJx4a65c_add_9ea2d_0 rfl rfl ?_
  refine x_dup hG (pc := 1) dJx4a65c_add_9ea2d_1 rfl ?_
  refine x_getf hG (pc := 2) fl_Jx4a65c_63 (by first | assumption | exact hR.main) rfl dJx4a65c_add_9ea2d_2 ?_
  refine x_iconst hG (pc := 5) 1 dJx4a65c_add_9ea2d_5 (by decide) ?_
  refine x_iadd hG (pc := 6) dJx4a65c_add_9ea2d_6 ?_
  refine x_putf hG (pc := 7) fl_Jx4a65c_63 fw_1 ft_1_0 ha (Nat.le_of_ble_eq_true rfl) rfl rfl (by dsimp only [List.set]) dJx4a65c_add_9ea2d_7 ?_
  refine x_gen (fun w1 e1 => ?_)
  have ha1 := (congrFun e1 a).trans wup_s
  have hv1 := (congrFun e1 v).trans (wup_t ha hv hn1)
  refine x_aload_n hG (pc := 10) 0 dJx4a65c_add_9ea2d_10 rfl rfl ?_
  refine x_aload_n hG (pc := 11) 1 dJx4a65c_add_9ea2d_11 rfl rfl ?_
  refine x_aload_n hG (pc := 12) 0 dJx4a65c_add_9ea2d_12 rfl rfl ?_
  refine x_getf hG (pc := 13) fl_Jx4a65c_9 ha1 rfl dJx4a65c_add_9ea2d_13 ?_
  refine x_aload_n hG (pc := 16) 0 dJx4a65c_add_9ea2d_16 rfl rfl ?_
  refine x_getf hG (pc := 17) fl_Jx4a65c_48 ha1 rfl dJx4a65c_add_9ea2d_17 ?_
  refine x_callV hG hO (pc := 20) [_, _, _] c_Jx4a65c_add_72be8 lk_Jx4a65c_131 ha1 rfl rfl ⟨by decide, by decide⟩ (Nat.le_of_ble_eq_true rfl) (by rw [hG.mc]; exact Nat.le_of_ble_eq_true rfl) (by rw [hG.ms]; exact Nat.le_of_ble_eq_true rfl) dJx4a65c_add_9ea2d_20 ?_
  refine ⟨a, t, te, e, cap, _, n, el, v, tv, ev, rfl, ha1, hv1, hok, hne, hn1, hn2, fun w2 e2 cap2 q1 q2 => ?_, hn, ?_, ?_⟩
  rotate_left
  · rcases hc with ⟨p1, p2, p3, p4⟩ | p
    · exact Or.inl ⟨p1, p2, p3, (congrFun e1 e).trans (wup_t ha p4 hne)⟩
    · exact Or.inr p
  · intro i hi
    obtain ⟨ty, ey, z1, z2, z3⟩ := hel i hi
    exact ⟨ty, ey, (congrFun e1 _).trans (wup_t ha z1 z3), z2⟩
  refine x_iconst hG (pc := 23) 1 dJx4a65c_add_9ea2d_23 (by decide) ?_
  refine x_ireturn hG (pc := 24) dJx4a65c_add_9ea2d_24 rfl rfl (by rw [hG.mc]; exact Nat.le_of_ble_eq_true rfl) (by rw [hG.ms]; exact Nat.le_of_ble_eq_true rfl) ?_
  refine hk w2 e2 cap2 q1 ?_
  intro b z hb z1 z2
  refine q2 b z ?_ z1 z2
  subst e1
  exact (wup_n (fun q => by subst q; rw [ha] at hb; cases hb; exact z1 rfl)).trans hb
