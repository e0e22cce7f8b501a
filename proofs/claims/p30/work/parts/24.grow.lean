/-! ArrayList grows and adds; its iterator -/
theorem x_widen {g : Cxt} {w : Wd} {kc ks kc2 ks2 pc : Nat} {lv : List (Option Value)} {st : List Value} (h1 : kc ≤ kc2) (h2 : ks ≤ ks2) (h : X g w kc2 ks2 pc lv st) : X g w kc ks pc lv st := by
  obtain ⟨p, l, e, R, s, m, args, below, meth, c, Γ, nL, mc, ms, post, xpost⟩ := g
  intro H locs ls hP hS hv
  exact W.widen h1 h2 (h H locs ls hP hS hv)
theorem ctr_imp {y : MethodName} {cc : ByteArray} {maxL : Nat} {ret : Option FieldType} {rm : Room} {S S2 : SpT} (hC : CtrA y cc maxL ret rm S) (h : ∀ Γ av w post xpost, S2 Γ av w post xpost → S Γ av w post xpost) : CtrA y cc maxL ret rm S2 := fun l hl Γ av w post xpost hS => hC l hl Γ av w post xpost (h _ _ _ _ _ hS)
theorem ctr_or {y : MethodName} {cc : ByteArray} {maxL : Nat} {ret : Option FieldType} {rm : Room} {S S2 : SpT} (hC : CtrA y cc maxL ret rm S) (hC2 : CtrA y cc maxL ret rm S2) : CtrA y cc maxL ret rm (fun Γ av w post xpost => S Γ av w post xpost ∨ S2 Γ av w post xpost) := fun l hl Γ av w post xpost hS => hS.elim (fun h => hC l hl Γ av w post xpost h) (fun h => hC2 l hl Γ av w post xpost h)
theorem Fr2.rf {t te : Tg} {w : Wd} : Fr2 t te w w := fun _ _ h _ _ => h
theorem Fr2.up {t te : Tg} {w w1 : Wd} {a : Nat} {x y : Tg × va_E} (h : Fr2 t te w w1) (ha : w1 a = some x) (hx : x.1 = t ∨ x.1 = te) : Fr2 t te w (wup w1 a y) := by
  intro b z hb h1 h2
  have hz := h b z hb h1 h2
  refine (wup_n fun q => ?_).trans hz
  subst q
  rw [hz] at ha
  cases ha
  rcases hx with q | q
  · exact h1 q
  · exact h2 q
theorem Fr2.nw {t te : Tg} {w w1 : Wd} {a : Nat} {y : Tg × va_E} (h : Fr2 t te w w1) (ha : w1 a = none) : Fr2 t te w (wup w1 a y) := fun b z hb h1 h2 => wup_f ha (h b z hb h1 h2)
theorem mx10 : mx 10 (nI 1) = nI 10 := by decide
set_option maxHeartbeats 400000 in
set_option maxRecDepth 100000 in
theorem c_J7_copyOf_6403c : CtrA yJ7_copyOf_6403c cJ7_copyOf_6403c 4 (some (.array (.object "java/lang/Object"))) (rmk 1 1 30 60) (fun Γ av w post _ => ∃ e te cap f m tq, av = [.ref e, .int (nI m), .ref Γ.2.2.2.2] ∧ w e = some (te, aQ Γ.2.1 cap f) ∧ cap ≤ m ∧ m ≤ 30 ∧ (∀ i : Nat, i < cap → ∀ y : Nat, f i = some y → ∃ (ty : Tg) (ey : va_E), w y = some (ty, ey) ∧ OkE Γ.2.1 ey) ∧ ∀ q, w q = none → n0A Γ q → post (some (.ref q)) (wup w q (tq, aQ Γ.2.1 m (va_cpy f (fun _ => none) 0 0 cap)))) := by
  refine ctr_of (by decide) ?_
  rintro g av w hG hO ⟨e, te, cap, f, m, tq, rfl, he, p2, p3, hel, hk⟩
  refine ⟨Nat.le_of_ble_eq_true rfl, ?_⟩
  show X g w 0 0 0 [some (.ref e), some (.int (nI m)), some (.ref (gΓ g).2.2.2.2), none] []
  refine x_aload_n hG (pc := 0) 2 dJ7_copyOf_6403c_0 rfl rfl ?_
  refine x_ldcM hG (pc := 1) ckl_J7_110 dJ7_copyOf_6403c_1 ?_
  refine x_acmp_ne hG (pc := 3) (rx := some _) (ry := some _) 13 dJ7_copyOf_6403c_3 (by decide) (fun h3 => ?_) (fun h3 => ?_)
  · exact absurd rfl h3
  · refine x_iload_n hG (pc := 6) 1 dJ7_copyOf_6403c_6 rfl rfl ?_
    refine x_newO hG (pc := 7) tq ckl_J7_2 (nI_pos (by omega)) (nI_clamp (by omega)) (by omega) dJ7_copyOf_6403c_7 (by rw [hG.mc]; exact Nat.le_of_ble_eq_true rfl) (by rw [hG.ms]; show 0 + m ≤ 30; omega) (fun q hfq hnq => ?_)
    refine x_widen (kc2 := 1) (ks2 := 30) (by omega) (by omega) ?_
    refine x_gen (fun w1 e1 => ?_)
    have hq1 := (congrFun e1 q).trans wup_s
    have he1 := (congrFun e1 e).trans (wup_f hfq he)
    refine x_goto hG (pc := 10) 24 dJ7_copyOf_6403c_10 (by decide) ?_
    refine x_astore_n hG (pc := 24) 3 dJ7_copyOf_6403c_24 rfl (Nat.le_of_ble_eq_true rfl) rfl (by dsimp only [List.set]) ?_
    refine x_aload_n hG (pc := 25) 0 dJ7_copyOf_6403c_25 rfl rfl ?_
    refine x_iconst hG (pc := 26) 0 dJ7_copyOf_6403c_26 (by decide) ?_
    refine x_aload_n hG (pc := 27) 3 dJ7_copyOf_6403c_27 rfl rfl ?_
    refine x_iconst hG (pc := 28) 0 dJ7_copyOf_6403c_28 (by decide) ?_
    refine x_aload_n hG (pc := 29) 0 dJ7_copyOf_6403c_29 rfl rfl ?_
    refine x_alenO hG (pc := 30) he1 dJ7_copyOf_6403c_30 ?_
    refine x_iload_n hG (pc := 31) 1 dJ7_copyOf_6403c_31 rfl rfl ?_
    refine x_mmin hG (pc := 32) lk_J7_304 dJ7_copyOf_6403c_32 (by decide) (Nat.le_of_ble_eq_true rfl) (by rw [hG.mc]; exact Nat.le_of_ble_eq_true rfl) (by rw [hG.ms]; exact Nat.le_of_ble_eq_true rfl) ?_
    rw [mn_nI (by omega) (by omega), Nat.min_eq_left p2]
    refine x_copyO hG (pc := 35) ml_J7_150 he1 hq1 (by decide) (by decide) (nI_pos (by omega)) (by rw [nI_clamp (by omega), sb_cl0]; omega) (by rw [nI_clamp (by omega), sb_cl0]; omega) (fun i hi y hy => ?_) dJ7_copyOf_6403c_35 (by decide) (Nat.le_of_ble_eq_true rfl) ?_
    · rw [nI_clamp (by omega)] at hi
      rw [sb_cl0, Nat.zero_add] at hy
      obtain ⟨ty, ey, g1, g2⟩ := hel i hi y hy
      exact ⟨ty, ey, (congrFun e1 y).trans (wup_f hfq g1), g2⟩
    rw [nI_clamp (by omega), sb_cl0]
    refine x_aload_n hG (pc := 38) 3 dJ7_copyOf_6403c_38 rfl rfl ?_
    refine x_areturn hG (pc := 39) dJ7_copyOf_6403c_39 rfl (Or.inr ⟨_, rfl⟩) (by rw [hG.mc]; exact Nat.le_of_ble_eq_true rfl) (by rw [hG.ms]; exact Nat.le_of_ble_eq_true rfl) ?_
    subst e1
    rw [wup_w]
    exact hk q hfq hnq
set_option maxHeartbeats 400000 in
set_option maxRecDepth 100000 in
theorem c_J7_copyOf_1904c : CtrA yJ7_copyOf_1904c cJ7_copyOf_1904c 2 (some (.array (.object "java/lang/Object"))) (rmk 2 1 30 83) (fun Γ av w post _ => ∃ e te cap f m tq, av = [.ref e, .int (nI m)] ∧ w e = some (te, aQ Γ.2.1 cap f) ∧ cap ≤ m ∧ m ≤ 30 ∧ (∀ i : Nat, i < cap → ∀ y : Nat, f i = some y → ∃ (ty : Tg) (ey : va_E), w y = some (ty, ey) ∧ OkE Γ.2.1 ey) ∧ ∀ q, w q = none → n0A Γ q → post (some (.ref q)) (wup w q (tq, aQ Γ.2.1 m (va_cpy f (fun _ => none) 0 0 cap)))) := by
  refine ctr_of (by decide) ?_
  rintro g av w hG hO ⟨e, te, cap, f, m, tq, rfl, he, p2, p3, hel, hk⟩
  refine ⟨Nat.le_of_ble_eq_true rfl, ?_⟩
  show X g w 0 0 0 [some (.ref e), some (.int (nI m))] []
  refine x_aload_n hG (pc := 0) 0 dJ7_copyOf_1904c_0 rfl rfl ?_
  refine x_iload_n hG (pc := 1) 1 dJ7_copyOf_1904c_1 rfl rfl ?_
  refine x_aload_n hG (pc := 2) 0 dJ7_copyOf_1904c_2 rfl rfl ?_
  refine x_getC hG (pc := 3) ml_J7_86 he dJ7_copyOf_1904c_3 (by decide) (Nat.le_of_ble_eq_true rfl) ?_
  refine x_callS hG hO (pc := 6) [_, _, _] c_J7_copyOf_6403c lk_J7_300 rfl rfl ⟨by decide, by decide⟩ (Nat.le_of_ble_eq_true rfl) (by rw [hG.mc]; exact Nat.le_of_ble_eq_true rfl) (by rw [hG.ms]; exact Nat.le_of_ble_eq_true rfl) dJ7_copyOf_1904c_6 ?_
  refine ⟨e, te, cap, f, m, tq, rfl, he, p2, p3, hel, fun q hfq hnq => ?_⟩
  refine x_areturn hG (pc := 9) dJ7_copyOf_1904c_9 rfl (Or.inr ⟨_, rfl⟩) (by rw [hG.mc]; exact Nat.le_of_ble_eq_true rfl) (by rw [hG.ms]; exact Nat.le_of_ble_eq_true rfl) ?_
  exact hk q hfq hnq
set_option maxHeartbeats 400000 in
set_option maxRecDepth 100000 in
theorem c_Jx4a65c_grow_92f84_0 : CtrA yJx4a65c_grow_92f84 cJx4a65c_grow_92f84 4 (some (.array (.object "java/lang/Object"))) (rmk 4 1 30 200) (fun Γ av w post _ => ∃ a t te e cap md n el, av = [.ref a, .int (nI (n + 1))] ∧ w a = some (t, oL md e n) ∧ (cap = 0 ∧ n = 0 ∧ e = Γ.2.2.2.1) ∧ te ≠ t ∧ ∀ w1 e1 cap1, n < cap1 → AL Γ w1 a t te e1 cap1 md n el → Fr2 t te w w1 → post (some (.ref e1)) w1) := by
  refine ctr_of (by decide) ?_
  rintro g av w hG hO ⟨a, t, te, e, cap, md, n, el, rfl, ha, ⟨rfl, rfl, rfl⟩, hne, hk⟩
  refine ⟨Nat.le_of_ble_eq_true rfl, ?_⟩
  show X g w 0 0 0 [some (.ref a), some (.int (nI (0 + 1))), none, none] []
  refine x_aload_n hG (pc := 0) 0 dJx4a65c_grow_92f84_0 rfl rfl ?_
  refine x_getf hG (pc := 1) fl_Jx4a65c_9 (by first | assumption | exact hR.main) rfl dJx4a65c_grow_92f84_1 ?_
  refine x_len0 hG (pc := 4) dJx4a65c_grow_92f84_4 ?_
  refine x_istore_n hG (pc := 5) 2 dJx4a65c_grow_92f84_5 rfl (Nat.le_of_ble_eq_true rfl) rfl (by dsimp only [List.set]) ?_
  refine x_iload_n hG (pc := 6) 2 dJx4a65c_grow_92f84_6 rfl rfl ?_
  refine x_if_gt hG (pc := 7) 20 dJx4a65c_grow_92f84_7 (by decide) (fun h7 => ?_) (fun h7 => ?_)
  · exact absurd h7 (by decide)
  · refine x_aload_n hG (pc := 10) 0 dJx4a65c_grow_92f84_10 rfl rfl ?_
    refine x_getf hG (pc := 11) fl_Jx4a65c_9 (by first | assumption | exact hR.main) rfl dJx4a65c_grow_92f84_11 ?_
    refine x_gete0 hG (pc := 14) ge_Jx4a65c_39 dJx4a65c_grow_92f84_14 ?_
    refine x_acmp_eq hG (pc := 17) (rx := some _) (ry := some _) 45 dJx4a65c_grow_92f84_17 (by decide) (fun h17 => ?_) (fun h17 => ?_)
    · refine x_aload_n hG (pc := 45) 0 dJx4a65c_grow_92f84_45 rfl rfl ?_
      refine x_bipush hG (pc := 46) 10 dJx4a65c_grow_92f84_46 (by decide) ?_
      refine x_iload_n hG (pc := 48) 1 dJx4a65c_grow_92f84_48 rfl rfl ?_
      refine x_mmax hG (pc := 49) lk_Jx4a65c_79 dJx4a65c_grow_92f84_49 (by decide) (Nat.le_of_ble_eq_true rfl) (by rw [hG.mc]; exact Nat.le_of_ble_eq_true rfl) (by rw [hG.ms]; exact Nat.le_of_ble_eq_true rfl) ?_
      rw [mx10]
      refine x_newO hG (pc := 52) te ckl_Jx4a65c_7 (nI_pos (by omega)) (nI_clamp (by omega)) (by omega) dJx4a65c_grow_92f84_52 (by rw [hG.mc]; exact Nat.le_of_ble_eq_true rfl) (by rw [hG.ms]; exact Nat.le_of_ble_eq_true rfl) (fun q hfq hnq => ?_)
      refine x_gen (fun w1 e1 => ?_)
      have hq1 := (congrFun e1 q).trans wup_s
      have ha1 := (congrFun e1 a).trans (wup_f hfq ha)
      refine x_dup_x1 hG (pc := 55) dJx4a65c_grow_92f84_55 rfl rfl ?_
      refine x_putf hG (pc := 56) fl_Jx4a65c_9 fw_1 ft_1_1 ha1 (Nat.le_of_ble_eq_true rfl) rfl rfl (by dsimp only [List.set]) dJx4a65c_grow_92f84_56 ?_
      refine x_gen (fun w2 e2 => ?_)
      have ha2 := (congrFun e2 a).trans wup_s
      have hq2 := (congrFun e2 q).trans (wup_t ha1 hq1 hne)
      refine x_areturn hG (pc := 59) dJx4a65c_grow_92f84_59 rfl (Or.inr ⟨_, rfl⟩) (by rw [hG.mc]; exact Nat.le_of_ble_eq_true rfl) (by rw [hG.ms]; exact Nat.le_of_ble_eq_true rfl) ?_
      refine hk w2 q 10 (by omega) ⟨ha2, Or.inl ⟨by omega, by omega, by omega, ?_⟩⟩ ?_
      · rw [← lE_0]
        exact hq2
      · subst e2 e1
        exact (Fr2.rf.nw hfq).up ha1 (Or.inl rfl)
    · exact absurd rfl h17
set_option maxHeartbeats 400000 in
set_option maxRecDepth 100000 in
theorem c_Jx4a65c_grow_92f84_1 : CtrA yJx4a65c_grow_92f84 cJx4a65c_grow_92f84 4 (some (.array (.object "java/lang/Object"))) (rmk 4 1 30 200) (fun Γ av w post _ => ∃ a t te e cap md n el, av = [.ref a, .int (nI (n + 1))] ∧ w a = some (t, oL md e n) ∧ (10 ≤ cap ∧ n = cap ∧ cap < 20 ∧ w e = some (te, aQ Γ.2.1 cap (lE n el)) ∧ (∀ i : Nat, i < n → ∃ (ty : Tg) (ey : va_E), w (el i) = some (ty, ey) ∧ OkE Γ.2.1 ey)) ∧ te ≠ t ∧ ∀ w1 e1 cap1, n < cap1 → AL Γ w1 a t te e1 cap1 md n el → Fr2 t te w w1 → post (some (.ref e1)) w1) := by
  refine ctr_of (by decide) ?_
  rintro g av w hG hO ⟨a, t, te, e, cap, md, n, el, rfl, ha, ⟨p1, rfl, p3, he, hel⟩, hne, hk⟩
  refine ⟨Nat.le_of_ble_eq_true rfl, ?_⟩
  show X g w 0 0 0 [some (.ref a), some (.int (nI (n + 1))), none, none] []
  refine x_aload_n hG (pc := 0) 0 dJx4a65c_grow_92f84_0 rfl rfl ?_
  refine x_getf hG (pc := 1) fl_Jx4a65c_9 (by first | assumption | exact hR.main) rfl dJx4a65c_grow_92f84_1 ?_
  refine x_alenO hG (pc := 4) he dJx4a65c_grow_92f84_4 ?_
  refine x_istore_n hG (pc := 5) 2 dJx4a65c_grow_92f84_5 rfl (Nat.le_of_ble_eq_true rfl) rfl (by dsimp only [List.set]) ?_
  refine x_iload_n hG (pc := 6) 2 dJx4a65c_grow_92f84_6 rfl rfl ?_
  refine x_if_gt hG (pc := 7) 20 dJx4a65c_grow_92f84_7 (by decide) (fun h7 => ?_) (fun h7 => ?_)
  · refine x_iload_n hG (pc := 20) 2 dJx4a65c_grow_92f84_20 rfl rfl ?_
    refine x_iload_n hG (pc := 21) 1 dJx4a65c_grow_92f84_21 rfl rfl ?_
    refine x_iload_n hG (pc := 22) 2 dJx4a65c_grow_92f84_22 rfl rfl ?_
    refine x_isub hG (pc := 23) dJx4a65c_grow_92f84_23 ?_
    rw [pk_sub (by omega), Nat.add_sub_cancel_left]
    refine x_iload_n hG (pc := 24) 2 dJx4a65c_grow_92f84_24 rfl rfl ?_
    refine x_iconst hG (pc := 25) 1 dJx4a65c_grow_92f84_25 (by decide) ?_
    refine x_ishr hG (pc := 26) dJx4a65c_grow_92f84_26 ?_
    rw [shr1 (by omega)]
    refine x_callS hG hO (pc := 27) [_, _, _] c_J8_newLength_cabcc lk_Jx4a65c_73 rfl rfl ⟨by decide, by decide⟩ (Nat.le_of_ble_eq_true rfl) (by rw [hG.mc]; exact Nat.le_of_ble_eq_true rfl) (by rw [hG.ms]; exact Nat.le_of_ble_eq_true rfl) dJx4a65c_grow_92f84_27 ?_
    refine ⟨n, 1, n / 2, rfl, by omega, by omega, by omega, by omega, ?_⟩
    rw [Nat.max_eq_right (by omega)]
    refine x_istore_n hG (pc := 30) 3 dJx4a65c_grow_92f84_30 rfl (Nat.le_of_ble_eq_true rfl) rfl (by dsimp only [List.set]) ?_
    refine x_aload_n hG (pc := 31) 0 dJx4a65c_grow_92f84_31 rfl rfl ?_
    refine x_aload_n hG (pc := 32) 0 dJx4a65c_grow_92f84_32 rfl rfl ?_
    refine x_getf hG (pc := 33) fl_Jx4a65c_9 (by first | assumption | exact hR.main) rfl dJx4a65c_grow_92f84_33 ?_
    refine x_iload_n hG (pc := 36) 3 dJx4a65c_grow_92f84_36 rfl rfl ?_
    refine x_callS hG hO (pc := 37) [_, _] c_J7_copyOf_1904c lk_Jx4a65c_66 rfl rfl ⟨by decide, by decide⟩ (Nat.le_of_ble_eq_true rfl) (by rw [hG.mc]; exact Nat.le_of_ble_eq_true rfl) (by rw [hG.ms]; exact Nat.le_of_ble_eq_true rfl) dJx4a65c_grow_92f84_37 ?_
    refine ⟨e, te, n, lE n el, n + n / 2, te, rfl, he, by omega, by omega, ?_, fun q hfq hnq => ?_⟩
    · intro i hi y hy
      rw [lE_at hi] at hy
      cases hy
      exact hel i hi
    rw [lE_cpy (Nat.le_refl n)]
    refine x_gen (fun w1 e1 => ?_)
    have hq1 := (congrFun e1 q).trans wup_s
    have ha1 := (congrFun e1 a).trans (wup_f hfq ha)
    refine x_dup_x1 hG (pc := 40) dJx4a65c_grow_92f84_40 rfl rfl ?_
    refine x_putf hG (pc := 41) fl_Jx4a65c_9 fw_1 ft_1_1 ha1 (Nat.le_of_ble_eq_true rfl) rfl rfl (by dsimp only [List.set]) dJx4a65c_grow_92f84_41 ?_
    refine x_gen (fun w2 e2 => ?_)
    have ha2 := (congrFun e2 a).trans wup_s
    have hq2 := (congrFun e2 q).trans (wup_t ha1 hq1 hne)
    refine x_areturn hG (pc := 44) dJx4a65c_grow_92f84_44 rfl (Or.inr ⟨_, rfl⟩) (by rw [hG.mc]; exact Nat.le_of_ble_eq_true rfl) (by rw [hG.ms]; exact Nat.le_of_ble_eq_true rfl) ?_
    refine hk w2 q (n + n / 2) (by omega) ⟨ha2, Or.inl ⟨by omega, by omega, by omega, hq2⟩⟩ ?_
    subst e2 e1
    exact (Fr2.rf.nw hfq).up ha1 (Or.inl rfl)
  · exact absurd (show nI 0 < nI n from nI_lt (by omega) (by omega)) h7
