/-! the wrappers: what the law's own methods make of a call of the class -/
theorem RepC.tg {Γ : Gw} {L : LayC} {S : St} {w w1 : Wd} (h : RepC Γ L S w) (hF : ∀ (b : Nat) (x : Tg × va_E), w b = some x → x.1.1 < 50 → w1 b = some x) : RepC Γ L S w1 :=
  h.but (fun t => 50 ≤ t.1) (fun b x hb hx => hF b x hb (Nat.lt_of_not_le hx)) (fun t ht => by
    obtain ⟨k, i, j⟩ := t
    obtain ⟨n, rfl⟩ : ∃ n, k = n + 50 := ⟨k - 50, by have : 50 ≤ k := ht; omega⟩
    rfl)
def FrQ (T : Tg) (w w2 : Wd) : Prop := ∀ (b : Nat) (x : Tg × va_E), w b = some x → 50 ≤ x.1.1 → x.1 ≠ T → w2 b = some x
abbrev oLo (Γ : Gw) (f : Nat → Int64) : Tg × va_E := ((80, 0, 0), .inl (Γ.2.1 5, 1, .inr (.inl f)))
abbrev oDo (Γ : Gw) (f : Nat → UInt64) : Tg × va_E := ((81, 0, 0), .inl (Γ.2.1 6, 1, .inr (.inr (.inr (.inl f)))))
def tB (x : Int32) : Int64 := if x = 0 then 0 else 1
/-- the number that a wrapper gives, and what lies in its cell -/
def WOut (Γ : Gw) (q : Nat) (w : Wd) (L : LayC) (post : Option Value → Wd → Prop) (tl : Int32 → Int64) (o : Oc) : Prop := ∀ (L1 : LayC) (w2 : Wd) (f : Nat → Int64), thC L1 = thC L → RepC Γ L1 o.2.2 w2 → FrQ (80, 0, 0) w w2 → w2 q = some (oLo Γ f) → (o.1 = 0 → f 0 = tl o.2.1) → post (some (.int (nI o.1))) w2
def Fin (S : St) (o : Oc) : Prop := (o.1 = 0 ∨ o.2.2 = S) ∧ o.1 ≤ 3
theorem WOut.bad {Γ : Gw} {q : Nat} {w : Wd} {L : LayC} {S : St} {post : Option Value → Wd → Prop} {tl : Int32 → Int64} {o : Oc} (h : WOut Γ q w L post tl o) {f0 : Nat → Int64} (hR : RepC Γ L S w) (hq : w q = some (oLo Γ f0)) {k : Nat} (e : o.1 = k + 1) (hf : Fin S o) : post (some (.int (nI (k + 1)))) w := by
  have hs : o.2.2 = S := hf.1.elim (fun z => absurd (z.symm.trans e) (by omega)) id
  have := h L w f0 rfl (by rw [hs]; exact hR) (fun _ _ h _ _ => h) hq (fun z => absurd (z.symm.trans e) (by omega))
  rw [e] at this
  exact this
theorem WOut.ok {Γ : Gw} {q : Nat} {w w1 w2 : Wd} {L L1 : LayC} {post : Option Value → Wd → Prop} {tl : Int32 → Int64} {o : Oc} (h : WOut Γ q w L post tl o) {f0 f : Nat → Int64} (h0 : o.1 = 0) (hth : thC L1 = thC L) (hR : RepC Γ L1 o.2.2 w1) (hF : FrM w w1) (hq : w1 q = some (oLo Γ f0)) (e : w2 = wup w1 q (oLo Γ f)) (hf : f 0 = tl o.2.1) : post (some (.int 0)) w2 := by
  subst e
  have := h L1 (wup w1 q (oLo Γ f)) f hth (hR.tg fun b x hb hx => wup_t (tb := x.1) (eb := x.2) hq hb (fun z => by rw [z] at hx; exact absurd hx (by show ¬ 80 < 50; decide))) (fun b x hb h5 hx => wup_t (tb := x.1) (eb := x.2) hq (hF b x hb h5) hx) wup_s (fun _ => hf)
  rw [h0] at this
  exact this
theorem updL0 {f : Nat → Int64} {x : Int64} : vp_updL f (0 : Int32).toNatClampNeg x 0 = x := if_pos rfl
theorem updD0 {f : Nat → UInt64} {x : UInt64} : vf_upd f (0 : Int32).toNatClampNeg x 0 = x := if_pos rfl
theorem vin1 : vp_in 0 1 := vp_in_nI (n := 0) (N := 1) (by decide) (by decide)
set_option maxHeartbeats 1000000 in
theorem fin_Cur {S : St} {i b : Int32} : Fin S (oCur S i b) := by
  unfold oCur
  repeat' split
  all_goals first | exact ⟨Or.inl rfl, Nat.le_of_ble_eq_true rfl⟩ | exact ⟨Or.inr rfl, Nat.le_of_ble_eq_true rfl⟩
set_option maxHeartbeats 1000000 in
theorem fin_Sig {S : St} {i v : Int32} : Fin S (oSig S i v) := by
  unfold oSig
  repeat' split
  all_goals first | exact ⟨Or.inl rfl, Nat.le_of_ble_eq_true rfl⟩ | exact ⟨Or.inr rfl, Nat.le_of_ble_eq_true rfl⟩
set_option maxHeartbeats 1000000 in
theorem fin_Pas {S : St} {t h d : Int32} : Fin S (oPas S t h d) := by
  unfold oPas
  repeat' split
  all_goals first | exact ⟨Or.inl rfl, Nat.le_of_ble_eq_true rfl⟩ | exact ⟨Or.inr rfl, Nat.le_of_ble_eq_true rfl⟩
set_option maxHeartbeats 1000000 in
theorem fin_Mea {S : St} {t f o d : Int32} : Fin S (oMea S t f o d) := by
  unfold oMea
  repeat' split
  all_goals first | exact ⟨Or.inl rfl, Nat.le_of_ble_eq_true rfl⟩ | exact ⟨Or.inr rfl, Nat.le_of_ble_eq_true rfl⟩
set_option maxHeartbeats 1000000 in
theorem fin_Ali {S : St} {m : Int32} : Fin S (oAli S m) := by
  unfold oAli
  repeat' split
  all_goals first | exact ⟨Or.inl rfl, Nat.le_of_ble_eq_true rfl⟩ | exact ⟨Or.inr rfl, Nat.le_of_ble_eq_true rfl⟩
set_option maxHeartbeats 1000000 in
theorem fin_Mac {S : St} {kd lf : Int32} : Fin S (oMac S kd lf) := by
  unfold oMac
  repeat' split
  all_goals first | exact ⟨Or.inl rfl, Nat.le_of_ble_eq_true rfl⟩ | exact ⟨Or.inr rfl, Nat.le_of_ble_eq_true rfl⟩
set_option maxHeartbeats 1000000 in
theorem fin_Ser {S : St} {m : Int32} : Fin S (oSer S m) := by
  unfold oSer
  repeat' split
  all_goals first | exact ⟨Or.inl rfl, Nat.le_of_ble_eq_true rfl⟩ | exact ⟨Or.inr rfl, Nat.le_of_ble_eq_true rfl⟩
set_option maxHeartbeats 1000000 in
theorem fin_Boo {S : St} {t f o d h : Int32} : Fin S (oBoo S t f o d h) := by
  unfold oBoo
  repeat' split
  all_goals first | exact ⟨Or.inl rfl, Nat.le_of_ble_eq_true rfl⟩ | exact ⟨Or.inr rfl, Nat.le_of_ble_eq_true rfl⟩
set_option maxHeartbeats 1000000 in
theorem fin_Wor {S : St} {p i m : Int32} : Fin S (oWor S p i m) := by
  unfold oWor
  repeat' split
  all_goals first | exact ⟨Or.inl rfl, Nat.le_of_ble_eq_true rfl⟩ | exact ⟨Or.inr rfl, Nat.le_of_ble_eq_true rfl⟩
set_option maxHeartbeats 1000000 in
theorem fin_Can {S : St} {p : Int32} : Fin S (oCan S p) := by
  unfold oCan
  repeat' split
  all_goals first | exact ⟨Or.inl rfl, Nat.le_of_ble_eq_true rfl⟩ | exact ⟨Or.inr rfl, Nat.le_of_ble_eq_true rfl⟩
set_option maxHeartbeats 1000000 in
theorem fin_Mrk {S : St} {p e : Int32} : Fin S (oMrk S p e) := by
  unfold oMrk
  repeat' split
  all_goals first | exact ⟨Or.inl rfl, Nat.le_of_ble_eq_true rfl⟩ | exact ⟨Or.inr rfl, Nat.le_of_ble_eq_true rfl⟩
set_option maxHeartbeats 1000000 in
theorem fin_Tak {S : St} {p : Int32} : Fin S (oTak S p) := by
  unfold oTak
  repeat' split
  all_goals first | exact ⟨Or.inl rfl, Nat.le_of_ble_eq_true rfl⟩ | exact ⟨Or.inr rfl, Nat.le_of_ble_eq_true rfl⟩
set_option maxHeartbeats 1000000 in
theorem fin_Giv {S : St} {p : Int32} : Fin S (oGiv S p) := by
  unfold oGiv
  repeat' split
  all_goals first | exact ⟨Or.inl rfl, Nat.le_of_ble_eq_true rfl⟩ | exact ⟨Or.inr rfl, Nat.le_of_ble_eq_true rfl⟩
set_option maxHeartbeats 1000000 in
theorem fin_Wal {S : St} {i s : Int32} : Fin S (oWal S i s) := by
  unfold oWal
  repeat' split
  all_goals first | exact ⟨Or.inl rfl, Nat.le_of_ble_eq_true rfl⟩ | exact ⟨Or.inr rfl, Nat.le_of_ble_eq_true rfl⟩
set_option maxHeartbeats 1000000 in
theorem fin_OfS {S : St} {i u : Int32} : Fin S (oOfS S i u) := by
  unfold oOfS
  repeat' split
  all_goals first | exact ⟨Or.inl rfl, Nat.le_of_ble_eq_true rfl⟩ | exact ⟨Or.inr rfl, Nat.le_of_ble_eq_true rfl⟩
set_option maxHeartbeats 1000000 in
theorem fin_Kno {S : St} {i u : Int32} : Fin S (oKno S i u) := by
  unfold oKno
  repeat' split
  all_goals first | exact ⟨Or.inl rfl, Nat.le_of_ble_eq_true rfl⟩ | exact ⟨Or.inr rfl, Nat.le_of_ble_eq_true rfl⟩
set_option maxHeartbeats 1000000 in
theorem fin_Why {S : St} {i b : Int32} : Fin S (oWhy S i b) := by
  unfold oWhy
  repeat' split
  all_goals first | exact ⟨Or.inl rfl, Nat.le_of_ble_eq_true rfl⟩ | exact ⟨Or.inr rfl, Nat.le_of_ble_eq_true rfl⟩
set_option maxHeartbeats 1000000 in
theorem fin_OfM {S : St} {i u : Int32} : Fin S (oOfM S i u) := by
  unfold oOfM
  repeat' split
  all_goals first | exact ⟨Or.inl rfl, Nat.le_of_ble_eq_true rfl⟩ | exact ⟨Or.inr rfl, Nat.le_of_ble_eq_true rfl⟩
set_option maxHeartbeats 1000000 in
theorem fin_OfN {S : St} {i u : Int32} : Fin S (oOfN S i u) := by
  unfold oOfN
  repeat' split
  all_goals first | exact ⟨Or.inl rfl, Nat.le_of_ble_eq_true rfl⟩ | exact ⟨Or.inr rfl, Nat.le_of_ble_eq_true rfl⟩
set_option maxHeartbeats 1000000 in
theorem fin_Man {S : St} {u : Int32} : Fin S (oMan S u) := by
  unfold oMan
  repeat' split
  all_goals first | exact ⟨Or.inl rfl, Nat.le_of_ble_eq_true rfl⟩ | exact ⟨Or.inr rfl, Nat.le_of_ble_eq_true rfl⟩
set_option maxHeartbeats 1000000 in
theorem fin_See {S : St} {i : Int32} : Fin S (oSee S i) := by
  unfold oSee
  repeat' split
  all_goals first | exact ⟨Or.inl rfl, Nat.le_of_ble_eq_true rfl⟩ | exact ⟨Or.inr rfl, Nat.le_of_ble_eq_true rfl⟩
set_option maxHeartbeats 1000000 in
theorem fin_Ris {S : St} {i t : Int32} : Fin S (oRis S i t) := by
  unfold oRis
  repeat' split
  all_goals first | exact ⟨Or.inl rfl, Nat.le_of_ble_eq_true rfl⟩ | exact ⟨Or.inr rfl, Nat.le_of_ble_eq_true rfl⟩
set_option maxHeartbeats 1000000 in
theorem fin_Bst {S : St} {i t d : Int32} : Fin S (oBst S i t d) := by
  unfold oBst
  repeat' split
  all_goals first | exact ⟨Or.inl rfl, Nat.le_of_ble_eq_true rfl⟩ | exact ⟨Or.inr rfl, Nat.le_of_ble_eq_true rfl⟩
set_option maxHeartbeats 1000000 in
theorem fin_Fre {S : St} {t f o : Int32} : Fin S (oFre S t f o) := by
  unfold oFre
  repeat' split
  all_goals first | exact ⟨Or.inl rfl, Nat.le_of_ble_eq_true rfl⟩ | exact ⟨Or.inr rfl, Nat.le_of_ble_eq_true rfl⟩
set_option maxHeartbeats 1000000 in
theorem fin_Ovr {S : St} {p : Int32} : Fin S (oOvr S p) := by
  unfold oOvr
  repeat' split
  all_goals first | exact ⟨Or.inl rfl, Nat.le_of_ble_eq_true rfl⟩ | exact ⟨Or.inr rfl, Nat.le_of_ble_eq_true rfl⟩
abbrev hL_curve : List (Nat × Nat × Nat × Nat) := [(0, 17, 20, 13)]
set_option maxHeartbeats 400000 in
set_option maxRecDepth 100000 in
theorem c_L_curve : CtrHA yL_curve cL_curve 5 (some .int) hL_curve (rmk 9 4 24 164) (fun Γ av w post xpost => ∃ (L : LayC) (S : St) (q : Nat) (f0 : Nat → Int64), ∃ i b, av = [.ref (thC L), .int i, .int b, .ref q] ∧ w q = some (oLo Γ f0) ∧ RepC Γ L S w ∧ Inv S ∧ (b = 0 ∨ b = 1) ∧ WOut Γ q w L post tB (oCur S i b)) := by
  refine ctr_ofH (by decide) ?_
  rintro g av w hG hH ⟨L, S, q, f0, i, b, rfl, hq, hR, hI, hb, hk⟩
  refine ⟨Nat.le_of_ble_eq_true rfl, ?_⟩
  show X g w 0 0 0 [some (.ref (thC L)), some (.int i), some (.int b), some (.ref q), none] []
  refine x_aload_n hG (pc := 0) 3 dL_curve_0 rfl rfl ?_
  refine x_iconst hG (pc := 1) 0 dL_curve_1 (by decide) ?_
  refine x_aload_n hG (pc := 2) 0 dL_curve_2 rfl rfl ?_
  refine x_iload_n hG (pc := 3) 1 dL_curve_3 rfl rfl ?_
  refine x_iload_n hG (pc := 4) 2 dL_curve_4 rfl rfl ?_
  refine x_callVH hG hH (pc := 5) [_, _] c_X6_curve lk_L_7 hR.main rfl rfl ⟨Nat.le_of_ble_eq_true rfl, Nat.le_of_ble_eq_true rfl⟩ (Nat.le_of_ble_eq_true rfl) (by rw [hG.mc]; exact Nat.le_of_ble_eq_true rfl) (by rw [hG.ms]; exact Nat.le_of_ble_eq_true rfl) dL_curve_5 ?_
  refine ⟨L, S, i, b, rfl, hR, hI, hb, ⟨fun h0 L1 w1 hth hR1 hF1 => ?_, fun k E hk1 hE => ?_⟩⟩
  · have hq1 := hF1 _ _ hq (by show 50 ≤ 80; decide)
    show X g w1 _ _ 8 _ [.int (oCur S i b).2.1, .int 0, .ref q]
    refine x_if_eq hG (pc := 8) 15 dL_curve_8 (by decide) (fun h8 => ?_) (fun h8 => ?_)
    · refine x_lconst hG (pc := 15) 0 dL_curve_15 (by decide) ?_
      refine x_last hG (pc := 16) hq1 vin1 dL_curve_16 ?_
      refine x_gen (fun w2 e2 => ?_)
      refine x_goto hG (pc := 17) 24 dL_curve_17 (by decide) ?_
      refine x_iconst hG (pc := 24) 0 dL_curve_24 (by decide) ?_
      refine x_ireturn hG (pc := 25) dL_curve_25 rfl rfl (by rw [hG.mc]; exact Nat.le_of_ble_eq_true rfl) (by rw [hG.ms]; exact Nat.le_of_ble_eq_true rfl) ?_
      exact hk.ok h0 hth hR1 hF1 hq1 e2 (updL0.trans (if_pos h8).symm)
    · refine x_lconst hG (pc := 11) 1 dL_curve_11 (by decide) ?_
      refine x_goto hG (pc := 12) 16 dL_curve_12 (by decide) ?_
      refine x_last hG (pc := 16) hq1 vin1 dL_curve_16 ?_
      refine x_gen (fun w2 e2 => ?_)
      refine x_goto hG (pc := 17) 24 dL_curve_17 (by decide) ?_
      refine x_iconst hG (pc := 24) 0 dL_curve_24 (by decide) ?_
      refine x_ireturn hG (pc := 25) dL_curve_25 rfl rfl (by rw [hG.mc]; exact Nat.le_of_ble_eq_true rfl) (by rw [hG.ms]; exact Nat.le_of_ble_eq_true rfl) ?_
      exact hk.ok h0 hth hR1 hF1 hq1 e2 (updL0.trans (if_neg h8).symm)
  · rcases k with _ | k
    · obtain rfl : xI = E := Option.some.inj hE
      refine ⟨[], (0, 17, 20, 13), [], rfl, ⟨⟨by decide, by decide, by decide, ckl_L_13⟩, fun z hz => ?_⟩, fun q9 => ?_⟩
      · exact absurd hz List.not_mem_nil
      · refine x_astore hG (pc := 20) dL_curve_20 (Nat.le_of_ble_eq_true rfl) rfl (by dsimp only [List.set]) ?_
        refine x_iconst hG (pc := 22) 1 dL_curve_22 (by decide) ?_
        refine x_ireturn hG (pc := 23) dL_curve_23 rfl rfl (by rw [hG.mc]; exact Nat.le_of_ble_eq_true rfl) (by rw [hG.ms]; exact Nat.le_of_ble_eq_true rfl) ?_
        exact hk.bad hR hq hk1 fin_Cur
    · exact absurd hE (by simp)
abbrev hL_sign : List (Nat × Nat × Nat × Nat) := [(0, 10, 13, 13), (0, 10, 17, 19)]
set_option maxHeartbeats 400000 in
set_option maxRecDepth 100000 in
theorem c_L_sign : CtrHA yL_sign cL_sign 5 (some .int) hL_sign (rmk 9 4 24 164) (fun Γ av w post xpost => ∃ (L : LayC) (S : St) (q : Nat) (f0 : Nat → Int64), ∃ i v, av = [.ref (thC L), .int i, .int v, .ref q] ∧ w q = some (oLo Γ f0) ∧ RepC Γ L S w ∧ Inv S ∧ WOut Γ q w L post Int32.toInt64 (oSig S i v)) := by
  refine ctr_ofH (by decide) ?_
  rintro g av w hG hH ⟨L, S, q, f0, i, v, rfl, hq, hR, hI, hk⟩
  refine ⟨Nat.le_of_ble_eq_true rfl, ?_⟩
  show X g w 0 0 0 [some (.ref (thC L)), some (.int i), some (.int v), some (.ref q), none] []
  refine x_aload_n hG (pc := 0) 3 dL_sign_0 rfl rfl ?_
  refine x_iconst hG (pc := 1) 0 dL_sign_1 (by decide) ?_
  refine x_aload_n hG (pc := 2) 0 dL_sign_2 rfl rfl ?_
  refine x_iload_n hG (pc := 3) 1 dL_sign_3 rfl rfl ?_
  refine x_iload_n hG (pc := 4) 2 dL_sign_4 rfl rfl ?_
  refine x_callVH hG hH (pc := 5) [_, _] c_X6_sign lk_L_15 hR.main rfl rfl ⟨Nat.le_of_ble_eq_true rfl, Nat.le_of_ble_eq_true rfl⟩ (Nat.le_of_ble_eq_true rfl) (by rw [hG.mc]; exact Nat.le_of_ble_eq_true rfl) (by rw [hG.ms]; exact Nat.le_of_ble_eq_true rfl) dL_sign_5 ?_
  refine ⟨L, S, i, v, rfl, hR, hI, ⟨fun h0 L1 w1 hth hR1 hF1 => ?_, fun k E hk1 hE => ?_⟩⟩
  · have hq1 := hF1 _ _ hq (by show 50 ≤ 80; decide)
    show X g w1 _ _ 8 _ [.int (oSig S i v).2.1, .int 0, .ref q]
    refine x_i2l hG (pc := 8) dL_sign_8 ?_
    refine x_last hG (pc := 9) hq1 vin1 dL_sign_9 ?_
    refine x_gen (fun w2 e2 => ?_)
    refine x_goto hG (pc := 10) 21 dL_sign_10 (by decide) ?_
    refine x_iconst hG (pc := 21) 0 dL_sign_21 (by decide) ?_
    refine x_ireturn hG (pc := 22) dL_sign_22 rfl rfl (by rw [hG.mc]; exact Nat.le_of_ble_eq_true rfl) (by rw [hG.ms]; exact Nat.le_of_ble_eq_true rfl) ?_
    exact hk.ok h0 hth hR1 hF1 hq1 e2 updL0
  · rcases k with _ | k
    · obtain rfl : xI = E := Option.some.inj hE
      refine ⟨[], (0, 10, 13, 13), [(0, 10, 17, 19)], rfl, ⟨⟨by decide, by decide, by decide, ckl_L_13⟩, fun z hz => ?_⟩, fun q9 => ?_⟩
      · exact absurd hz List.not_mem_nil
      · refine x_astore hG (pc := 13) dL_sign_13 (Nat.le_of_ble_eq_true rfl) rfl (by dsimp only [List.set]) ?_
        refine x_iconst hG (pc := 15) 1 dL_sign_15 (by decide) ?_
        refine x_ireturn hG (pc := 16) dL_sign_16 rfl rfl (by rw [hG.mc]; exact Nat.le_of_ble_eq_true rfl) (by rw [hG.ms]; exact Nat.le_of_ble_eq_true rfl) ?_
        exact hk.bad hR hq hk1 fin_Sig
    · rcases k with _ | k
      · obtain rfl : xA = E := Option.some.inj hE
        refine ⟨[(0, 10, 13, 13)], (0, 10, 17, 19), [], rfl, ⟨⟨by decide, by decide, by decide, ckl_L_19⟩, fun z hz => ?_⟩, fun q9 => ?_⟩
        · rcases List.mem_cons.mp hz with z1 | hz
          · subst z1; exact ⟨by decide, _, ckl_L_13, List.mem_of_getElem? (i := 0) rfl⟩
          · exact absurd hz List.not_mem_nil
        · refine x_astore hG (pc := 17) dL_sign_17 (Nat.le_of_ble_eq_true rfl) rfl (by dsimp only [List.set]) ?_
          refine x_iconst hG (pc := 19) 2 dL_sign_19 (by decide) ?_
          refine x_ireturn hG (pc := 20) dL_sign_20 rfl rfl (by rw [hG.mc]; exact Nat.le_of_ble_eq_true rfl) (by rw [hG.ms]; exact Nat.le_of_ble_eq_true rfl) ?_
          exact hk.bad hR hq hk1 fin_Sig
      · exact absurd hE (by simp)
abbrev hL_pass : List (Nat × Nat × Nat × Nat) := [(0, 12, 15, 19), (0, 12, 19, 25)]
set_option maxHeartbeats 400000 in
set_option maxRecDepth 100000 in
theorem c_L_pass : CtrHA yL_pass cL_pass 6 (some .int) hL_pass (rmk 9 4 24 208) (fun Γ av w post xpost => ∃ (L : LayC) (S : St) (q : Nat) (f0 : Nat → Int64), ∃ t h d, av = [.ref (thC L), .int t, .int h, .int d, .ref q] ∧ w q = some (oLo Γ f0) ∧ RepC Γ L S w ∧ Inv S ∧ WOut Γ q w L post Int32.toInt64 (oPas S t h d)) := by
  refine ctr_ofH (by decide) ?_
  rintro g av w hG hH ⟨L, S, q, f0, t, h, d, rfl, hq, hR, hI, hk⟩
  refine ⟨Nat.le_of_ble_eq_true rfl, ?_⟩
  show X g w 0 0 0 [some (.ref (thC L)), some (.int t), some (.int h), some (.int d), some (.ref q), none] []
  refine x_aload hG (pc := 0) dL_pass_0 rfl ?_
  refine x_iconst hG (pc := 2) 0 dL_pass_2 (by decide) ?_
  refine x_aload_n hG (pc := 3) 0 dL_pass_3 rfl rfl ?_
  refine x_iload_n hG (pc := 4) 1 dL_pass_4 rfl rfl ?_
  refine x_iload_n hG (pc := 5) 2 dL_pass_5 rfl rfl ?_
  refine x_iload_n hG (pc := 6) 3 dL_pass_6 rfl rfl ?_
  refine x_callVH hG hH (pc := 7) [_, _, _] c_X6_pass lk_L_21 hR.main rfl rfl ⟨Nat.le_of_ble_eq_true rfl, Nat.le_of_ble_eq_true rfl⟩ (Nat.le_of_ble_eq_true rfl) (by rw [hG.mc]; exact Nat.le_of_ble_eq_true rfl) (by rw [hG.ms]; exact Nat.le_of_ble_eq_true rfl) dL_pass_7 ?_
  refine ⟨L, S, t, h, d, rfl, hR, hI, ⟨fun h0 L1 w1 hth hR1 hF1 => ?_, fun k E hk1 hE => ?_⟩⟩
  · have hq1 := hF1 _ _ hq (by show 50 ≤ 80; decide)
    show X g w1 _ _ 10 _ [.int (oPas S t h d).2.1, .int 0, .ref q]
    refine x_i2l hG (pc := 10) dL_pass_10 ?_
    refine x_last hG (pc := 11) hq1 vin1 dL_pass_11 ?_
    refine x_gen (fun w2 e2 => ?_)
    refine x_goto hG (pc := 12) 23 dL_pass_12 (by decide) ?_
    refine x_iconst hG (pc := 23) 0 dL_pass_23 (by decide) ?_
    refine x_ireturn hG (pc := 24) dL_pass_24 rfl rfl (by rw [hG.mc]; exact Nat.le_of_ble_eq_true rfl) (by rw [hG.ms]; exact Nat.le_of_ble_eq_true rfl) ?_
    exact hk.ok h0 hth hR1 hF1 hq1 e2 updL0
  · rcases k with _ | k
    · obtain rfl : xA = E := Option.some.inj hE
      refine ⟨[], (0, 12, 15, 19), [(0, 12, 19, 25)], rfl, ⟨⟨by decide, by decide, by decide, ckl_L_19⟩, fun z hz => ?_⟩, fun q9 => ?_⟩
      · exact absurd hz List.not_mem_nil
      · refine x_astore hG (pc := 15) dL_pass_15 (Nat.le_of_ble_eq_true rfl) rfl (by dsimp only [List.set]) ?_
        refine x_iconst hG (pc := 17) 1 dL_pass_17 (by decide) ?_
        refine x_ireturn hG (pc := 18) dL_pass_18 rfl rfl (by rw [hG.mc]; exact Nat.le_of_ble_eq_true rfl) (by rw [hG.ms]; exact Nat.le_of_ble_eq_true rfl) ?_
        exact hk.bad hR hq hk1 fin_Pas
    · rcases k with _ | k
      · obtain rfl : xS = E := Option.some.inj hE
        refine ⟨[(0, 12, 15, 19)], (0, 12, 19, 25), [], rfl, ⟨⟨by decide, by decide, by decide, ckl_L_25⟩, fun z hz => ?_⟩, fun q9 => ?_⟩
        · rcases List.mem_cons.mp hz with z1 | hz
          · subst z1; exact ⟨by decide, _, ckl_L_19, List.mem_of_getElem? (i := 2) rfl⟩
          · exact absurd hz List.not_mem_nil
        · refine x_astore hG (pc := 19) dL_pass_19 (Nat.le_of_ble_eq_true rfl) rfl (by dsimp only [List.set]) ?_
          refine x_iconst hG (pc := 21) 2 dL_pass_21 (by decide) ?_
          refine x_ireturn hG (pc := 22) dL_pass_22 rfl rfl (by rw [hG.mc]; exact Nat.le_of_ble_eq_true rfl) (by rw [hG.ms]; exact Nat.le_of_ble_eq_true rfl) ?_
          exact hk.bad hR hq hk1 fin_Pas
      · exact absurd hE (by simp)
abbrev hL_measure : List (Nat × Nat × Nat × Nat) := [(0, 14, 17, 13), (0, 14, 21, 19), (0, 14, 25, 25)]
set_option maxHeartbeats 400000 in
set_option maxRecDepth 100000 in
theorem c_L_measure : CtrHA yL_measure cL_measure 7 (some .int) hL_measure (rmk 9 20 100 351) (fun Γ av w post xpost => ∃ (L : LayC) (S : St) (q : Nat) (f0 : Nat → Int64), ∃ t f o d, av = [.ref (thC L), .int t, .int f, .int o, .int d, .ref q] ∧ w q = some (oLo Γ f0) ∧ RepC Γ L S w ∧ Inv S ∧ WOut Γ q w L post Int32.toInt64 (oMea S t f o d)) := by
  refine ctr_ofH (by decide) ?_
  rintro g av w hG hH ⟨L, S, q, f0, t, f, o, d, rfl, hq, hR, hI, hk⟩
  refine ⟨Nat.le_of_ble_eq_true rfl, ?_⟩
  show X g w 0 0 0 [some (.ref (thC L)), some (.int t), some (.int f), some (.int o), some (.int d), some (.ref q), none] []
  refine x_aload hG (pc := 0) dL_measure_0 rfl ?_
  refine x_iconst hG (pc := 2) 0 dL_measure_2 (by decide) ?_
  refine x_aload_n hG (pc := 3) 0 dL_measure_3 rfl rfl ?_
  refine x_iload_n hG (pc := 4) 1 dL_measure_4 rfl rfl ?_
  refine x_iload_n hG (pc := 5) 2 dL_measure_5 rfl rfl ?_
  refine x_iload_n hG (pc := 6) 3 dL_measure_6 rfl rfl ?_
  refine x_iload hG (pc := 7) dL_measure_7 rfl ?_
  refine x_callVH hG hH (pc := 9) [_, _, _, _] c_X6_measure lk_L_27 hR.main rfl rfl ⟨Nat.le_of_ble_eq_true rfl, Nat.le_of_ble_eq_true rfl⟩ (Nat.le_of_ble_eq_true rfl) (by rw [hG.mc]; exact Nat.le_of_ble_eq_true rfl) (by rw [hG.ms]; exact Nat.le_of_ble_eq_true rfl) dL_measure_9 ?_
  refine ⟨L, S, t, f, o, d, rfl, hR, hI, ⟨fun h0 L1 w1 hth hR1 hF1 => ?_, fun k E hk1 hE => ?_⟩⟩
  · have hq1 := hF1 _ _ hq (by show 50 ≤ 80; decide)
    show X g w1 _ _ 12 _ [.int (oMea S t f o d).2.1, .int 0, .ref q]
    refine x_i2l hG (pc := 12) dL_measure_12 ?_
    refine x_last hG (pc := 13) hq1 vin1 dL_measure_13 ?_
    refine x_gen (fun w2 e2 => ?_)
    refine x_goto hG (pc := 14) 29 dL_measure_14 (by decide) ?_
    refine x_iconst hG (pc := 29) 0 dL_measure_29 (by decide) ?_
    refine x_ireturn hG (pc := 30) dL_measure_30 rfl rfl (by rw [hG.mc]; exact Nat.le_of_ble_eq_true rfl) (by rw [hG.ms]; exact Nat.le_of_ble_eq_true rfl) ?_
    exact hk.ok h0 hth hR1 hF1 hq1 e2 updL0
  · rcases k with _ | k
    · obtain rfl : xI = E := Option.some.inj hE
      refine ⟨[], (0, 14, 17, 13), [(0, 14, 21, 19), (0, 14, 25, 25)], rfl, ⟨⟨by decide, by decide, by decide, ckl_L_13⟩, fun z hz => ?_⟩, fun q9 => ?_⟩
      · exact absurd hz List.not_mem_nil
      · refine x_astore hG (pc := 17) dL_measure_17 (Nat.le_of_ble_eq_true rfl) rfl (by dsimp only [List.set]) ?_
        refine x_iconst hG (pc := 19) 1 dL_measure_19 (by decide) ?_
        refine x_ireturn hG (pc := 20) dL_measure_20 rfl rfl (by rw [hG.mc]; exact Nat.le_of_ble_eq_true rfl) (by rw [hG.ms]; exact Nat.le_of_ble_eq_true rfl) ?_
        exact hk.bad hR hq hk1 fin_Mea
    · rcases k with _ | k
      · obtain rfl : xA = E := Option.some.inj hE
        refine ⟨[(0, 14, 17, 13)], (0, 14, 21, 19), [(0, 14, 25, 25)], rfl, ⟨⟨by decide, by decide, by decide, ckl_L_19⟩, fun z hz => ?_⟩, fun q9 => ?_⟩
        · rcases List.mem_cons.mp hz with z1 | hz
          · subst z1; exact ⟨by decide, _, ckl_L_13, List.mem_of_getElem? (i := 0) rfl⟩
          · exact absurd hz List.not_mem_nil
        · refine x_astore hG (pc := 21) dL_measure_21 (Nat.le_of_ble_eq_true rfl) rfl (by dsimp only [List.set]) ?_
          refine x_iconst hG (pc := 23) 2 dL_measure_23 (by decide) ?_
          refine x_ireturn hG (pc := 24) dL_measure_24 rfl rfl (by rw [hG.mc]; exact Nat.le_of_ble_eq_true rfl) (by rw [hG.ms]; exact Nat.le_of_ble_eq_true rfl) ?_
          exact hk.bad hR hq hk1 fin_Mea
      · rcases k with _ | k
        · obtain rfl : xS = E := Option.some.inj hE
          refine ⟨[(0, 14, 17, 13), (0, 14, 21, 19)], (0, 14, 25, 25), [], rfl, ⟨⟨by decide, by decide, by decide, ckl_L_25⟩, fun z hz => ?_⟩, fun q9 => ?_⟩
          · rcases List.mem_cons.mp hz with z1 | hz
            · subst z1; exact ⟨by decide, _, ckl_L_13, List.mem_of_getElem? (i := 1) rfl⟩
            · rcases List.mem_cons.mp hz with z1 | hz
              · subst z1; exact ⟨by decide, _, ckl_L_19, List.mem_of_getElem? (i := 2) rfl⟩
              · exact absurd hz List.not_mem_nil
          · refine x_astore hG (pc := 25) dL_measure_25 (Nat.le_of_ble_eq_true rfl) rfl (by dsimp only [List.set]) ?_
            refine x_iconst hG (pc := 27) 3 dL_measure_27 (by decide) ?_
            refine x_ireturn hG (pc := 28) dL_measure_28 rfl rfl (by rw [hG.mc]; exact Nat.le_of_ble_eq_true rfl) (by rw [hG.ms]; exact Nat.le_of_ble_eq_true rfl) ?_
            exact hk.bad hR hq hk1 fin_Mea
        · exact absurd hE (by simp)
abbrev hL_align : List (Nat × Nat × Nat × Nat) := [(0, 9, 12, 13), (0, 9, 15, 25)]
set_option maxHeartbeats 400000 in
set_option maxRecDepth 100000 in
theorem c_L_align : CtrHA yL_align cL_align 4 (some .int) hL_align (rmk 7 4 24 120) (fun Γ av w post xpost => ∃ (L : LayC) (S : St) (q : Nat) (f0 : Nat → Int64), ∃ m, av = [.ref (thC L), .int m, .ref q] ∧ w q = some (oLo Γ f0) ∧ RepC Γ L S w ∧ Inv S ∧ WOut Γ q w L post Int32.toInt64 (oAli S m)) := by
  refine ctr_ofH (by decide) ?_
  rintro g av w hG hH ⟨L, S, q, f0, m, rfl, hq, hR, hI, hk⟩
  refine ⟨Nat.le_of_ble_eq_true rfl, ?_⟩
  show X g w 0 0 0 [some (.ref (thC L)), some (.int m), some (.ref q), none] []
  refine x_aload_n hG (pc := 0) 2 dL_align_0 rfl rfl ?_
  refine x_iconst hG (pc := 1) 0 dL_align_1 (by decide) ?_
  refine x_aload_n hG (pc := 2) 0 dL_align_2 rfl rfl ?_
  refine x_iload_n hG (pc := 3) 1 dL_align_3 rfl rfl ?_
  refine x_callVH hG hH (pc := 4) [_] c_X6_align lk_L_31 hR.main rfl rfl ⟨Nat.le_of_ble_eq_true rfl, Nat.le_of_ble_eq_true rfl⟩ (Nat.le_of_ble_eq_true rfl) (by rw [hG.mc]; exact Nat.le_of_ble_eq_true rfl) (by rw [hG.ms]; exact Nat.le_of_ble_eq_true rfl) dL_align_4 ?_
  refine ⟨L, S, m, rfl, hR, hI, ⟨fun h0 L1 w1 hth hR1 hF1 => ?_, fun k E hk1 hE => ?_⟩⟩
  · have hq1 := hF1 _ _ hq (by show 50 ≤ 80; decide)
    show X g w1 _ _ 7 _ [.int (oAli S m).2.1, .int 0, .ref q]
    refine x_i2l hG (pc := 7) dL_align_7 ?_
    refine x_last hG (pc := 8) hq1 vin1 dL_align_8 ?_
    refine x_gen (fun w2 e2 => ?_)
    refine x_goto hG (pc := 9) 18 dL_align_9 (by decide) ?_
    refine x_iconst hG (pc := 18) 0 dL_align_18 (by decide) ?_
    refine x_ireturn hG (pc := 19) dL_align_19 rfl rfl (by rw [hG.mc]; exact Nat.le_of_ble_eq_true rfl) (by rw [hG.ms]; exact Nat.le_of_ble_eq_true rfl) ?_
    exact hk.ok h0 hth hR1 hF1 hq1 e2 updL0
  · rcases k with _ | k
    · obtain rfl : xI = E := Option.some.inj hE
      refine ⟨[], (0, 9, 12, 13), [(0, 9, 15, 25)], rfl, ⟨⟨by decide, by decide, by decide, ckl_L_13⟩, fun z hz => ?_⟩, fun q9 => ?_⟩
      · exact absurd hz List.not_mem_nil
      · refine x_astore_n hG (pc := 12) 3 dL_align_12 rfl (Nat.le_of_ble_eq_true rfl) rfl (by dsimp only [List.set]) ?_
        refine x_iconst hG (pc := 13) 1 dL_align_13 (by decide) ?_
        refine x_ireturn hG (pc := 14) dL_align_14 rfl rfl (by rw [hG.mc]; exact Nat.le_of_ble_eq_true rfl) (by rw [hG.ms]; exact Nat.le_of_ble_eq_true rfl) ?_
        exact hk.bad hR hq hk1 fin_Ali
    · rcases k with _ | k
      · obtain rfl : xS = E := Option.some.inj hE
        refine ⟨[(0, 9, 12, 13)], (0, 9, 15, 25), [], rfl, ⟨⟨by decide, by decide, by decide, ckl_L_25⟩, fun z hz => ?_⟩, fun q9 => ?_⟩
        · rcases List.mem_cons.mp hz with z1 | hz
          · subst z1; exact ⟨by decide, _, ckl_L_13, List.mem_of_getElem? (i := 1) rfl⟩
          · exact absurd hz List.not_mem_nil
        · refine x_astore_n hG (pc := 15) 3 dL_align_15 rfl (Nat.le_of_ble_eq_true rfl) rfl (by dsimp only [List.set]) ?_
          refine x_iconst hG (pc := 16) 2 dL_align_16 (by decide) ?_
          refine x_ireturn hG (pc := 17) dL_align_17 rfl rfl (by rw [hG.mc]; exact Nat.le_of_ble_eq_true rfl) (by rw [hG.ms]; exact Nat.le_of_ble_eq_true rfl) ?_
          exact hk.bad hR hq hk1 fin_Ali
      · exact absurd hE (by simp)
abbrev hL_machine : List (Nat × Nat × Nat × Nat) := [(0, 10, 13, 19), (0, 10, 17, 25)]
set_option maxHeartbeats 400000 in
set_option maxRecDepth 100000 in
theorem c_L_machine : CtrHA yL_machine cL_machine 5 (some .int) hL_machine (rmk 9 4 50 346) (fun Γ av w post xpost => ∃ (L : LayC) (S : St) (q : Nat) (f0 : Nat → Int64), ∃ kd lf, av = [.ref (thC L), .int kd, .int lf, .ref q] ∧ w q = some (oLo Γ f0) ∧ RepC Γ L S w ∧ Inv S ∧ WOut Γ q w L post Int32.toInt64 (oMac S kd lf)) := by
  refine ctr_ofH (by decide) ?_
  rintro g av w hG hH ⟨L, S, q, f0, kd, lf, rfl, hq, hR, hI, hk⟩
  refine ⟨Nat.le_of_ble_eq_true rfl, ?_⟩
  show X g w 0 0 0 [some (.ref (thC L)), some (.int kd), some (.int lf), some (.ref q), none] []
  refine x_aload_n hG (pc := 0) 3 dL_machine_0 rfl rfl ?_
  refine x_iconst hG (pc := 1) 0 dL_machine_1 (by decide) ?_
  refine x_aload_n hG (pc := 2) 0 dL_machine_2 rfl rfl ?_
  refine x_iload_n hG (pc := 3) 1 dL_machine_3 rfl rfl ?_
  refine x_iload_n hG (pc := 4) 2 dL_machine_4 rfl rfl ?_
  refine x_callVH hG hH (pc := 5) [_, _] c_X6_machine lk_L_35 hR.main rfl rfl ⟨Nat.le_of_ble_eq_true rfl, Nat.le_of_ble_eq_true rfl⟩ (Nat.le_of_ble_eq_true rfl) (by rw [hG.mc]; exact Nat.le_of_ble_eq_true rfl) (by rw [hG.ms]; exact Nat.le_of_ble_eq_true rfl) dL_machine_5 ?_
  refine ⟨L, S, kd, lf, rfl, hR, hI, ⟨fun h0 L1 w1 hth hR1 hF1 => ?_, fun k E hk1 hE => ?_⟩⟩
  · have hq1 := hF1 _ _ hq (by show 50 ≤ 80; decide)
    show X g w1 _ _ 8 _ [.int (oMac S kd lf).2.1, .int 0, .ref q]
    refine x_i2l hG (pc := 8) dL_machine_8 ?_
    refine x_last hG (pc := 9) hq1 vin1 dL_machine_9 ?_
    refine x_gen (fun w2 e2 => ?_)
    refine x_goto hG (pc := 10) 21 dL_machine_10 (by decide) ?_
    refine x_iconst hG (pc := 21) 0 dL_machine_21 (by decide) ?_
    refine x_ireturn hG (pc := 22) dL_machine_22 rfl rfl (by rw [hG.mc]; exact Nat.le_of_ble_eq_true rfl) (by rw [hG.ms]; exact Nat.le_of_ble_eq_true rfl) ?_
    exact hk.ok h0 hth hR1 hF1 hq1 e2 updL0
  · rcases k with _ | k
    · obtain rfl : xA = E := Option.some.inj hE
      refine ⟨[], (0, 10, 13, 19), [(0, 10, 17, 25)], rfl, ⟨⟨by decide, by decide, by decide, ckl_L_19⟩, fun z hz => ?_⟩, fun q9 => ?_⟩
      · exact absurd hz List.not_mem_nil
      · refine x_astore hG (pc := 13) dL_machine_13 (Nat.le_of_ble_eq_true rfl) rfl (by dsimp only [List.set]) ?_
        refine x_iconst hG (pc := 15) 1 dL_machine_15 (by decide) ?_
        refine x_ireturn hG (pc := 16) dL_machine_16 rfl rfl (by rw [hG.mc]; exact Nat.le_of_ble_eq_true rfl) (by rw [hG.ms]; exact Nat.le_of_ble_eq_true rfl) ?_
        exact hk.bad hR hq hk1 fin_Mac
    · rcases k with _ | k
      · obtain rfl : xS = E := Option.some.inj hE
        refine ⟨[(0, 10, 13, 19)], (0, 10, 17, 25), [], rfl, ⟨⟨by decide, by decide, by decide, ckl_L_25⟩, fun z hz => ?_⟩, fun q9 => ?_⟩
        · rcases List.mem_cons.mp hz with z1 | hz
          · subst z1; exact ⟨by decide, _, ckl_L_19, List.mem_of_getElem? (i := 2) rfl⟩
          · exact absurd hz List.not_mem_nil
        · refine x_astore hG (pc := 17) dL_machine_17 (Nat.le_of_ble_eq_true rfl) rfl (by dsimp only [List.set]) ?_
          refine x_iconst hG (pc := 19) 2 dL_machine_19 (by decide) ?_
          refine x_ireturn hG (pc := 20) dL_machine_20 rfl rfl (by rw [hG.mc]; exact Nat.le_of_ble_eq_true rfl) (by rw [hG.ms]; exact Nat.le_of_ble_eq_true rfl) ?_
          exact hk.bad hR hq hk1 fin_Mac
      · exact absurd hE (by simp)
abbrev hL_service : List (Nat × Nat × Nat × Nat) := [(0, 9, 12, 13), (0, 9, 15, 25)]
set_option maxHeartbeats 400000 in
set_option maxRecDepth 100000 in
theorem c_L_service : CtrHA yL_service cL_service 4 (some .int) hL_service (rmk 8 4 24 142) (fun Γ av w post xpost => ∃ (L : LayC) (S : St) (q : Nat) (f0 : Nat → Int64), ∃ m, av = [.ref (thC L), .int m, .ref q] ∧ w q = some (oLo Γ f0) ∧ RepC Γ L S w ∧ Inv S ∧ WOut Γ q w L post Int32.toInt64 (oSer S m)) := by
  refine ctr_ofH (by decide) ?_
  rintro g av w hG hH ⟨L, S, q, f0, m, rfl, hq, hR, hI, hk⟩
  refine ⟨Nat.le_of_ble_eq_true rfl, ?_⟩
  show X g w 0 0 0 [some (.ref (thC L)), some (.int m), some (.ref q), none] []
  refine x_aload_n hG (pc := 0) 2 dL_service_0 rfl rfl ?_
  refine x_iconst hG (pc := 1) 0 dL_service_1 (by decide) ?_
  refine x_aload_n hG (pc := 2) 0 dL_service_2 rfl rfl ?_
  refine x_iload_n hG (pc := 3) 1 dL_service_3 rfl rfl ?_
  refine x_callVH hG hH (pc := 4) [_] c_X6_service lk_L_38 hR.main rfl rfl ⟨Nat.le_of_ble_eq_true rfl, Nat.le_of_ble_eq_true rfl⟩ (Nat.le_of_ble_eq_true rfl) (by rw [hG.mc]; exact Nat.le_of_ble_eq_true rfl) (by rw [hG.ms]; exact Nat.le_of_ble_eq_true rfl) dL_service_4 ?_
  refine ⟨L, S, m, rfl, hR, hI, ⟨fun h0 L1 w1 hth hR1 hF1 => ?_, fun k E hk1 hE => ?_⟩⟩
  · have hq1 := hF1 _ _ hq (by show 50 ≤ 80; decide)
    show X g w1 _ _ 7 _ [.int (oSer S m).2.1, .int 0, .ref q]
    refine x_i2l hG (pc := 7) dL_service_7 ?_
    refine x_last hG (pc := 8) hq1 vin1 dL_service_8 ?_
    refine x_gen (fun w2 e2 => ?_)
    refine x_goto hG (pc := 9) 18 dL_service_9 (by decide) ?_
    refine x_iconst hG (pc := 18) 0 dL_service_18 (by decide) ?_
    refine x_ireturn hG (pc := 19) dL_service_19 rfl rfl (by rw [hG.mc]; exact Nat.le_of_ble_eq_true rfl) (by rw [hG.ms]; exact Nat.le_of_ble_eq_true rfl) ?_
    exact hk.ok h0 hth hR1 hF1 hq1 e2 updL0
  · rcases k with _ | k
    · obtain rfl : xI = E := Option.some.inj hE
      refine ⟨[], (0, 9, 12, 13), [(0, 9, 15, 25)], rfl, ⟨⟨by decide, by decide, by decide, ckl_L_13⟩, fun z hz => ?_⟩, fun q9 => ?_⟩
      · exact absurd hz List.not_mem_nil
      · refine x_astore_n hG (pc := 12) 3 dL_service_12 rfl (Nat.le_of_ble_eq_true rfl) rfl (by dsimp only [List.set]) ?_
        refine x_iconst hG (pc := 13) 1 dL_service_13 (by decide) ?_
        refine x_ireturn hG (pc := 14) dL_service_14 rfl rfl (by rw [hG.mc]; exact Nat.le_of_ble_eq_true rfl) (by rw [hG.ms]; exact Nat.le_of_ble_eq_true rfl) ?_
        exact hk.bad hR hq hk1 fin_Ser
    · rcases k with _ | k
      · obtain rfl : xS = E := Option.some.inj hE
        refine ⟨[(0, 9, 12, 13)], (0, 9, 15, 25), [], rfl, ⟨⟨by decide, by decide, by decide, ckl_L_25⟩, fun z hz => ?_⟩, fun q9 => ?_⟩
        · rcases List.mem_cons.mp hz with z1 | hz
          · subst z1; exact ⟨by decide, _, ckl_L_13, List.mem_of_getElem? (i := 1) rfl⟩
          · exact absurd hz List.not_mem_nil
        · refine x_astore_n hG (pc := 15) 3 dL_service_15 rfl (Nat.le_of_ble_eq_true rfl) rfl (by dsimp only [List.set]) ?_
          refine x_iconst hG (pc := 16) 2 dL_service_16 (by decide) ?_
          refine x_ireturn hG (pc := 17) dL_service_17 rfl rfl (by rw [hG.mc]; exact Nat.le_of_ble_eq_true rfl) (by rw [hG.ms]; exact Nat.le_of_ble_eq_true rfl) ?_
          exact hk.bad hR hq hk1 fin_Ser
      · exact absurd hE (by simp)
abbrev hL_book : List (Nat × Nat × Nat × Nat) := [(0, 16, 19, 13), (0, 16, 23, 19), (0, 16, 27, 25)]
set_option maxHeartbeats 400000 in
set_option maxRecDepth 100000 in
theorem c_L_book : CtrHA yL_book cL_book 8 (some .int) hL_book (rmk 9 5 60 349) (fun Γ av w post xpost => ∃ (L : LayC) (S : St) (q : Nat) (f0 : Nat → Int64), ∃ t f o d h, av = [.ref (thC L), .int t, .int f, .int o, .int d, .int h, .ref q] ∧ w q = some (oLo Γ f0) ∧ RepC Γ L S w ∧ Inv S ∧ WOut Γ q w L post Int32.toInt64 (oBoo S t f o d h)) := by
  refine ctr_ofH (by decide) ?_
  rintro g av w hG hH ⟨L, S, q, f0, t, f, o, d, h, rfl, hq, hR, hI, hk⟩
  refine ⟨Nat.le_of_ble_eq_true rfl, ?_⟩
  show X g w 0 0 0 [some (.ref (thC L)), some (.int t), some (.int f), some (.int o), some (.int d), some (.int h), some (.ref q), none] []
  refine x_aload hG (pc := 0) dL_book_0 rfl ?_
  refine x_iconst hG (pc := 2) 0 dL_book_2 (by decide) ?_
  refine x_aload_n hG (pc := 3) 0 dL_book_3 rfl rfl ?_
  refine x_iload_n hG (pc := 4) 1 dL_book_4 rfl rfl ?_
  refine x_iload_n hG (pc := 5) 2 dL_book_5 rfl rfl ?_
  refine x_iload_n hG (pc := 6) 3 dL_book_6 rfl rfl ?_
  refine x_iload hG (pc := 7) dL_book_7 rfl ?_
  refine x_iload hG (pc := 9) dL_book_9 rfl ?_
  refine x_callVH hG hH (pc := 11) [_, _, _, _, _] c_X6_book lk_L_41 hR.main rfl rfl ⟨Nat.le_of_ble_eq_true rfl, Nat.le_of_ble_eq_true rfl⟩ (Nat.le_of_ble_eq_true rfl) (by rw [hG.mc]; exact Nat.le_of_ble_eq_true rfl) (by rw [hG.ms]; exact Nat.le_of_ble_eq_true rfl) dL_book_11 ?_
  refine ⟨L, S, t, f, o, d, h, rfl, hR, hI, ⟨fun h0 L1 w1 hth hR1 hF1 => ?_, fun k E hk1 hE => ?_⟩⟩
  · have hq1 := hF1 _ _ hq (by show 50 ≤ 80; decide)
    show X g w1 _ _ 14 _ [.int (oBoo S t f o d h).2.1, .int 0, .ref q]
    refine x_i2l hG (pc := 14) dL_book_14 ?_
    refine x_last hG (pc := 15) hq1 vin1 dL_book_15 ?_
    refine x_gen (fun w2 e2 => ?_)
    refine x_goto hG (pc := 16) 31 dL_book_16 (by decide) ?_
    refine x_iconst hG (pc := 31) 0 dL_book_31 (by decide) ?_
    refine x_ireturn hG (pc := 32) dL_book_32 rfl rfl (by rw [hG.mc]; exact Nat.le_of_ble_eq_true rfl) (by rw [hG.ms]; exact Nat.le_of_ble_eq_true rfl) ?_
    exact hk.ok h0 hth hR1 hF1 hq1 e2 updL0
  · rcases k with _ | k
    · obtain rfl : xI = E := Option.some.inj hE
      refine ⟨[], (0, 16, 19, 13), [(0, 16, 23, 19), (0, 16, 27, 25)], rfl, ⟨⟨by decide, by decide, by decide, ckl_L_13⟩, fun z hz => ?_⟩, fun q9 => ?_⟩
      · exact absurd hz List.not_mem_nil
      · refine x_astore hG (pc := 19) dL_book_19 (Nat.le_of_ble_eq_true rfl) rfl (by dsimp only [List.set]) ?_
        refine x_iconst hG (pc := 21) 1 dL_book_21 (by decide) ?_
        refine x_ireturn hG (pc := 22) dL_book_22 rfl rfl (by rw [hG.mc]; exact Nat.le_of_ble_eq_true rfl) (by rw [hG.ms]; exact Nat.le_of_ble_eq_true rfl) ?_
        exact hk.bad hR hq hk1 fin_Boo
    · rcases k with _ | k
      · obtain rfl : xA = E := Option.some.inj hE
        refine ⟨[(0, 16, 19, 13)], (0, 16, 23, 19), [(0, 16, 27, 25)], rfl, ⟨⟨by decide, by decide, by decide, ckl_L_19⟩, fun z hz => ?_⟩, fun q9 => ?_⟩
        · rcases List.mem_cons.mp hz with z1 | hz
          · subst z1; exact ⟨by decide, _, ckl_L_13, List.mem_of_getElem? (i := 0) rfl⟩
          · exact absurd hz List.not_mem_nil
        · refine x_astore hG (pc := 23) dL_book_23 (Nat.le_of_ble_eq_true rfl) rfl (by dsimp only [List.set]) ?_
          refine x_iconst hG (pc := 25) 2 dL_book_25 (by decide) ?_
          refine x_ireturn hG (pc := 26) dL_book_26 rfl rfl (by rw [hG.mc]; exact Nat.le_of_ble_eq_true rfl) (by rw [hG.ms]; exact Nat.le_of_ble_eq_true rfl) ?_
          exact hk.bad hR hq hk1 fin_Boo
      · rcases k with _ | k
        · obtain rfl : xS = E := Option.some.inj hE
          refine ⟨[(0, 16, 19, 13), (0, 16, 23, 19)], (0, 16, 27, 25), [], rfl, ⟨⟨by decide, by decide, by decide, ckl_L_25⟩, fun z hz => ?_⟩, fun q9 => ?_⟩
          · rcases List.mem_cons.mp hz with z1 | hz
            · subst z1; exact ⟨by decide, _, ckl_L_13, List.mem_of_getElem? (i := 1) rfl⟩
            · rcases List.mem_cons.mp hz with z1 | hz
              · subst z1; exact ⟨by decide, _, ckl_L_19, List.mem_of_getElem? (i := 2) rfl⟩
              · exact absurd hz List.not_mem_nil
          · refine x_astore hG (pc := 27) dL_book_27 (Nat.le_of_ble_eq_true rfl) rfl (by dsimp only [List.set]) ?_
            refine x_iconst hG (pc := 29) 3 dL_book_29 (by decide) ?_
            refine x_ireturn hG (pc := 30) dL_book_30 rfl rfl (by rw [hG.mc]; exact Nat.le_of_ble_eq_true rfl) (by rw [hG.ms]; exact Nat.le_of_ble_eq_true rfl) ?_
            exact hk.bad hR hq hk1 fin_Boo
        · exact absurd hE (by simp)
abbrev hL_work : List (Nat × Nat × Nat × Nat) := [(0, 12, 15, 13), (0, 12, 19, 19), (0, 12, 23, 25)]
set_option maxHeartbeats 400000 in
set_option maxRecDepth 100000 in
theorem c_L_work : CtrHA yL_work cL_work 6 (some .int) hL_work (rmk 9 6 60 351) (fun Γ av w post xpost => ∃ (L : LayC) (S : St) (q : Nat) (f0 : Nat → Int64), ∃ p i m, av = [.ref (thC L), .int p, .int i, .int m, .ref q] ∧ w q = some (oLo Γ f0) ∧ RepC Γ L S w ∧ Inv S ∧ WOut Γ q w L post Int32.toInt64 (oWor S p i m)) := by
  refine ctr_ofH (by decide) ?_
  rintro g av w hG hH ⟨L, S, q, f0, p, i, m, rfl, hq, hR, hI, hk⟩
  refine ⟨Nat.le_of_ble_eq_true rfl, ?_⟩
  show X g w 0 0 0 [some (.ref (thC L)), some (.int p), some (.int i), some (.int m), some (.ref q), none] []
  refine x_aload hG (pc := 0) dL_work_0 rfl ?_
  refine x_iconst hG (pc := 2) 0 dL_work_2 (by decide) ?_
  refine x_aload_n hG (pc := 3) 0 dL_work_3 rfl rfl ?_
  refine x_iload_n hG (pc := 4) 1 dL_work_4 rfl rfl ?_
  refine x_iload_n hG (pc := 5) 2 dL_work_5 rfl rfl ?_
  refine x_iload_n hG (pc := 6) 3 dL_work_6 rfl rfl ?_
  refine x_callVH hG hH (pc := 7) [_, _, _] c_X6_work lk_L_45 hR.main rfl rfl ⟨Nat.le_of_ble_eq_true rfl, Nat.le_of_ble_eq_true rfl⟩ (Nat.le_of_ble_eq_true rfl) (by rw [hG.mc]; exact Nat.le_of_ble_eq_true rfl) (by rw [hG.ms]; exact Nat.le_of_ble_eq_true rfl) dL_work_7 ?_
  refine ⟨L, S, p, i, m, rfl, hR, hI, ⟨fun h0 L1 w1 hth hR1 hF1 => ?_, fun k E hk1 hE => ?_⟩⟩
  · have hq1 := hF1 _ _ hq (by show 50 ≤ 80; decide)
    show X g w1 _ _ 10 _ [.int (oWor S p i m).2.1, .int 0, .ref q]
    refine x_i2l hG (pc := 10) dL_work_10 ?_
    refine x_last hG (pc := 11) hq1 vin1 dL_work_11 ?_
    refine x_gen (fun w2 e2 => ?_)
    refine x_goto hG (pc := 12) 27 dL_work_12 (by decide) ?_
    refine x_iconst hG (pc := 27) 0 dL_work_27 (by decide) ?_
    refine x_ireturn hG (pc := 28) dL_work_28 rfl rfl (by rw [hG.mc]; exact Nat.le_of_ble_eq_true rfl) (by rw [hG.ms]; exact Nat.le_of_ble_eq_true rfl) ?_
    exact hk.ok h0 hth hR1 hF1 hq1 e2 updL0
  · rcases k with _ | k
    · obtain rfl : xI = E := Option.some.inj hE
      refine ⟨[], (0, 12, 15, 13), [(0, 12, 19, 19), (0, 12, 23, 25)], rfl, ⟨⟨by decide, by decide, by decide, ckl_L_13⟩, fun z hz => ?_⟩, fun q9 => ?_⟩
      · exact absurd hz List.not_mem_nil
      · refine x_astore hG (pc := 15) dL_work_15 (Nat.le_of_ble_eq_true rfl) rfl (by dsimp only [List.set]) ?_
        refine x_iconst hG (pc := 17) 1 dL_work_17 (by decide) ?_
        refine x_ireturn hG (pc := 18) dL_work_18 rfl rfl (by rw [hG.mc]; exact Nat.le_of_ble_eq_true rfl) (by rw [hG.ms]; exact Nat.le_of_ble_eq_true rfl) ?_
        exact hk.bad hR hq hk1 fin_Wor
    · rcases k with _ | k
      · obtain rfl : xA = E := Option.some.inj hE
        refine ⟨[(0, 12, 15, 13)], (0, 12, 19, 19), [(0, 12, 23, 25)], rfl, ⟨⟨by decide, by decide, by decide, ckl_L_19⟩, fun z hz => ?_⟩, fun q9 => ?_⟩
        · rcases List.mem_cons.mp hz with z1 | hz
          · subst z1; exact ⟨by decide, _, ckl_L_13, List.mem_of_getElem? (i := 0) rfl⟩
          · exact absurd hz List.not_mem_nil
        · refine x_astore hG (pc := 19) dL_work_19 (Nat.le_of_ble_eq_true rfl) rfl (by dsimp only [List.set]) ?_
          refine x_iconst hG (pc := 21) 2 dL_work_21 (by decide) ?_
          refine x_ireturn hG (pc := 22) dL_work_22 rfl rfl (by rw [hG.mc]; exact Nat.le_of_ble_eq_true rfl) (by rw [hG.ms]; exact Nat.le_of_ble_eq_true rfl) ?_
          exact hk.bad hR hq hk1 fin_Wor
      · rcases k with _ | k
        · obtain rfl : xS = E := Option.some.inj hE
          refine ⟨[(0, 12, 15, 13), (0, 12, 19, 19)], (0, 12, 23, 25), [], rfl, ⟨⟨by decide, by decide, by decide, ckl_L_25⟩, fun z hz => ?_⟩, fun q9 => ?_⟩
          · rcases List.mem_cons.mp hz with z1 | hz
            · subst z1; exact ⟨by decide, _, ckl_L_13, List.mem_of_getElem? (i := 1) rfl⟩
            · rcases List.mem_cons.mp hz with z1 | hz
              · subst z1; exact ⟨by decide, _, ckl_L_19, List.mem_of_getElem? (i := 2) rfl⟩
              · exact absurd hz List.not_mem_nil
          · refine x_astore hG (pc := 23) dL_work_23 (Nat.le_of_ble_eq_true rfl) rfl (by dsimp only [List.set]) ?_
            refine x_iconst hG (pc := 25) 3 dL_work_25 (by decide) ?_
            refine x_ireturn hG (pc := 26) dL_work_26 rfl rfl (by rw [hG.mc]; exact Nat.le_of_ble_eq_true rfl) (by rw [hG.ms]; exact Nat.le_of_ble_eq_true rfl) ?_
            exact hk.bad hR hq hk1 fin_Wor
        · exact absurd hE (by simp)
abbrev hL_cancel : List (Nat × Nat × Nat × Nat) := [(0, 9, 12, 13), (0, 9, 15, 25)]
set_option maxHeartbeats 400000 in
set_option maxRecDepth 100000 in
theorem c_L_cancel : CtrHA yL_cancel cL_cancel 4 (some .int) hL_cancel (rmk 8 4 24 142) (fun Γ av w post xpost => ∃ (L : LayC) (S : St) (q : Nat) (f0 : Nat → Int64), ∃ p, av = [.ref (thC L), .int p, .ref q] ∧ w q = some (oLo Γ f0) ∧ RepC Γ L S w ∧ Inv S ∧ WOut Γ q w L post Int32.toInt64 (oCan S p)) := by
  refine ctr_ofH (by decide) ?_
  rintro g av w hG hH ⟨L, S, q, f0, p, rfl, hq, hR, hI, hk⟩
  refine ⟨Nat.le_of_ble_eq_true rfl, ?_⟩
  show X g w 0 0 0 [some (.ref (thC L)), some (.int p), some (.ref q), none] []
  refine x_aload_n hG (pc := 0) 2 dL_cancel_0 rfl rfl ?_
  refine x_iconst hG (pc := 1) 0 dL_cancel_1 (by decide) ?_
  refine x_aload_n hG (pc := 2) 0 dL_cancel_2 rfl rfl ?_
  refine x_iload_n hG (pc := 3) 1 dL_cancel_3 rfl rfl ?_
  refine x_callVH hG hH (pc := 4) [_] c_X6_cancel lk_L_48 hR.main rfl rfl ⟨Nat.le_of_ble_eq_true rfl, Nat.le_of_ble_eq_true rfl⟩ (Nat.le_of_ble_eq_true rfl) (by rw [hG.mc]; exact Nat.le_of_ble_eq_true rfl) (by rw [hG.ms]; exact Nat.le_of_ble_eq_true rfl) dL_cancel_4 ?_
  refine ⟨L, S, p, rfl, hR, hI, ⟨fun h0 L1 w1 hth hR1 hF1 => ?_, fun k E hk1 hE => ?_⟩⟩
  · have hq1 := hF1 _ _ hq (by show 50 ≤ 80; decide)
    show X g w1 _ _ 7 _ [.int (oCan S p).2.1, .int 0, .ref q]
    refine x_i2l hG (pc := 7) dL_cancel_7 ?_
    refine x_last hG (pc := 8) hq1 vin1 dL_cancel_8 ?_
    refine x_gen (fun w2 e2 => ?_)
    refine x_goto hG (pc := 9) 18 dL_cancel_9 (by decide) ?_
    refine x_iconst hG (pc := 18) 0 dL_cancel_18 (by decide) ?_
    refine x_ireturn hG (pc := 19) dL_cancel_19 rfl rfl (by rw [hG.mc]; exact Nat.le_of_ble_eq_true rfl) (by rw [hG.ms]; exact Nat.le_of_ble_eq_true rfl) ?_
    exact hk.ok h0 hth hR1 hF1 hq1 e2 updL0
  · rcases k with _ | k
    · obtain rfl : xI = E := Option.some.inj hE
      refine ⟨[], (0, 9, 12, 13), [(0, 9, 15, 25)], rfl, ⟨⟨by decide, by decide, by decide, ckl_L_13⟩, fun z hz => ?_⟩, fun q9 => ?_⟩
      · exact absurd hz List.not_mem_nil
      · refine x_astore_n hG (pc := 12) 3 dL_cancel_12 rfl (Nat.le_of_ble_eq_true rfl) rfl (by dsimp only [List.set]) ?_
        refine x_iconst hG (pc := 13) 1 dL_cancel_13 (by decide) ?_
        refine x_ireturn hG (pc := 14) dL_cancel_14 rfl rfl (by rw [hG.mc]; exact Nat.le_of_ble_eq_true rfl) (by rw [hG.ms]; exact Nat.le_of_ble_eq_true rfl) ?_
        exact hk.bad hR hq hk1 fin_Can
    · rcases k with _ | k
      · obtain rfl : xS = E := Option.some.inj hE
        refine ⟨[(0, 9, 12, 13)], (0, 9, 15, 25), [], rfl, ⟨⟨by decide, by decide, by decide, ckl_L_25⟩, fun z hz => ?_⟩, fun q9 => ?_⟩
        · rcases List.mem_cons.mp hz with z1 | hz
          · subst z1; exact ⟨by decide, _, ckl_L_13, List.mem_of_getElem? (i := 1) rfl⟩
          · exact absurd hz List.not_mem_nil
        · refine x_astore_n hG (pc := 15) 3 dL_cancel_15 rfl (Nat.le_of_ble_eq_true rfl) rfl (by dsimp only [List.set]) ?_
          refine x_iconst hG (pc := 16) 2 dL_cancel_16 (by decide) ?_
          refine x_ireturn hG (pc := 17) dL_cancel_17 rfl rfl (by rw [hG.mc]; exact Nat.le_of_ble_eq_true rfl) (by rw [hG.ms]; exact Nat.le_of_ble_eq_true rfl) ?_
          exact hk.bad hR hq hk1 fin_Can
      · exact absurd hE (by simp)
abbrev hL_mark : List (Nat × Nat × Nat × Nat) := [(0, 10, 13, 13), (0, 10, 17, 25)]
set_option maxHeartbeats 400000 in
set_option maxRecDepth 100000 in
theorem c_L_mark : CtrHA yL_mark cL_mark 5 (some .int) hL_mark (rmk 8 4 24 142) (fun Γ av w post xpost => ∃ (L : LayC) (S : St) (q : Nat) (f0 : Nat → Int64), ∃ p e, av = [.ref (thC L), .int p, .int e, .ref q] ∧ w q = some (oLo Γ f0) ∧ RepC Γ L S w ∧ Inv S ∧ WOut Γ q w L post Int32.toInt64 (oMrk S p e)) := by
  refine ctr_ofH (by decide) ?_
  rintro g av w hG hH ⟨L, S, q, f0, p, e, rfl, hq, hR, hI, hk⟩
  refine ⟨Nat.le_of_ble_eq_true rfl, ?_⟩
  show X g w 0 0 0 [some (.ref (thC L)), some (.int p), some (.int e), some (.ref q), none] []
  refine x_aload_n hG (pc := 0) 3 dL_mark_0 rfl rfl ?_
  refine x_iconst hG (pc := 1) 0 dL_mark_1 (by decide) ?_
  refine x_aload_n hG (pc := 2) 0 dL_mark_2 rfl rfl ?_
  refine x_iload_n hG (pc := 3) 1 dL_mark_3 rfl rfl ?_
  refine x_iload_n hG (pc := 4) 2 dL_mark_4 rfl rfl ?_
  refine x_callVH hG hH (pc := 5) [_, _] c_X6_mark lk_L_51 hR.main rfl rfl ⟨Nat.le_of_ble_eq_true rfl, Nat.le_of_ble_eq_true rfl⟩ (Nat.le_of_ble_eq_true rfl) (by rw [hG.mc]; exact Nat.le_of_ble_eq_true rfl) (by rw [hG.ms]; exact Nat.le_of_ble_eq_true rfl) dL_mark_5 ?_
  refine ⟨L, S, p, e, rfl, hR, hI, ⟨fun h0 L1 w1 hth hR1 hF1 => ?_, fun k E hk1 hE => ?_⟩⟩
  · have hq1 := hF1 _ _ hq (by show 50 ≤ 80; decide)
    show X g w1 _ _ 8 _ [.int (oMrk S p e).2.1, .int 0, .ref q]
    refine x_i2l hG (pc := 8) dL_mark_8 ?_
    refine x_last hG (pc := 9) hq1 vin1 dL_mark_9 ?_
    refine x_gen (fun w2 e2 => ?_)
    refine x_goto hG (pc := 10) 21 dL_mark_10 (by decide) ?_
    refine x_iconst hG (pc := 21) 0 dL_mark_21 (by decide) ?_
    refine x_ireturn hG (pc := 22) dL_mark_22 rfl rfl (by rw [hG.mc]; exact Nat.le_of_ble_eq_true rfl) (by rw [hG.ms]; exact Nat.le_of_ble_eq_true rfl) ?_
    exact hk.ok h0 hth hR1 hF1 hq1 e2 updL0
  · rcases k with _ | k
    · obtain rfl : xI = E := Option.some.inj hE
      refine ⟨[], (0, 10, 13, 13), [(0, 10, 17, 25)], rfl, ⟨⟨by decide, by decide, by decide, ckl_L_13⟩, fun z hz => ?_⟩, fun q9 => ?_⟩
      · exact absurd hz List.not_mem_nil
      · refine x_astore hG (pc := 13) dL_mark_13 (Nat.le_of_ble_eq_true rfl) rfl (by dsimp only [List.set]) ?_
        refine x_iconst hG (pc := 15) 1 dL_mark_15 (by decide) ?_
        refine x_ireturn hG (pc := 16) dL_mark_16 rfl rfl (by rw [hG.mc]; exact Nat.le_of_ble_eq_true rfl) (by rw [hG.ms]; exact Nat.le_of_ble_eq_true rfl) ?_
        exact hk.bad hR hq hk1 fin_Mrk
    · rcases k with _ | k
      · obtain rfl : xS = E := Option.some.inj hE
        refine ⟨[(0, 10, 13, 13)], (0, 10, 17, 25), [], rfl, ⟨⟨by decide, by decide, by decide, ckl_L_25⟩, fun z hz => ?_⟩, fun q9 => ?_⟩
        · rcases List.mem_cons.mp hz with z1 | hz
          · subst z1; exact ⟨by decide, _, ckl_L_13, List.mem_of_getElem? (i := 1) rfl⟩
          · exact absurd hz List.not_mem_nil
        · refine x_astore hG (pc := 17) dL_mark_17 (Nat.le_of_ble_eq_true rfl) rfl (by dsimp only [List.set]) ?_
          refine x_iconst hG (pc := 19) 2 dL_mark_19 (by decide) ?_
          refine x_ireturn hG (pc := 20) dL_mark_20 rfl rfl (by rw [hG.mc]; exact Nat.le_of_ble_eq_true rfl) (by rw [hG.ms]; exact Nat.le_of_ble_eq_true rfl) ?_
          exact hk.bad hR hq hk1 fin_Mrk
      · exact absurd hE (by simp)
abbrev hL_take : List (Nat × Nat × Nat × Nat) := [(0, 9, 12, 13), (0, 9, 15, 25)]
set_option maxHeartbeats 400000 in
set_option maxRecDepth 100000 in
theorem c_L_take : CtrHA yL_take cL_take 4 (some .int) hL_take (rmk 8 4 24 141) (fun Γ av w post xpost => ∃ (L : LayC) (S : St) (q : Nat) (f0 : Nat → Int64), ∃ p, av = [.ref (thC L), .int p, .ref q] ∧ w q = some (oLo Γ f0) ∧ RepC Γ L S w ∧ Inv S ∧ WOut Γ q w L post Int32.toInt64 (oTak S p)) := by
  refine ctr_ofH (by decide) ?_
  rintro g av w hG hH ⟨L, S, q, f0, p, rfl, hq, hR, hI, hk⟩
  refine ⟨Nat.le_of_ble_eq_true rfl, ?_⟩
  show X g w 0 0 0 [some (.ref (thC L)), some (.int p), some (.ref q), none] []
  refine x_aload_n hG (pc := 0) 2 dL_take_0 rfl rfl ?_
  refine x_iconst hG (pc := 1) 0 dL_take_1 (by decide) ?_
  refine x_aload_n hG (pc := 2) 0 dL_take_2 rfl rfl ?_
  refine x_iload_n hG (pc := 3) 1 dL_take_3 rfl rfl ?_
  refine x_callVH hG hH (pc := 4) [_] c_X6_take lk_L_54 hR.main rfl rfl ⟨Nat.le_of_ble_eq_true rfl, Nat.le_of_ble_eq_true rfl⟩ (Nat.le_of_ble_eq_true rfl) (by rw [hG.mc]; exact Nat.le_of_ble_eq_true rfl) (by rw [hG.ms]; exact Nat.le_of_ble_eq_true rfl) dL_take_4 ?_
  refine ⟨L, S, p, rfl, hR, hI, ⟨fun h0 L1 w1 hth hR1 hF1 => ?_, fun k E hk1 hE => ?_⟩⟩
  · have hq1 := hF1 _ _ hq (by show 50 ≤ 80; decide)
    show X g w1 _ _ 7 _ [.int (oTak S p).2.1, .int 0, .ref q]
    refine x_i2l hG (pc := 7) dL_take_7 ?_
    refine x_last hG (pc := 8) hq1 vin1 dL_take_8 ?_
    refine x_gen (fun w2 e2 => ?_)
    refine x_goto hG (pc := 9) 18 dL_take_9 (by decide) ?_
    refine x_iconst hG (pc := 18) 0 dL_take_18 (by decide) ?_
    refine x_ireturn hG (pc := 19) dL_take_19 rfl rfl (by rw [hG.mc]; exact Nat.le_of_ble_eq_true rfl) (by rw [hG.ms]; exact Nat.le_of_ble_eq_true rfl) ?_
    exact hk.ok h0 hth hR1 hF1 hq1 e2 updL0
  · rcases k with _ | k
    · obtain rfl : xI = E := Option.some.inj hE
      refine ⟨[], (0, 9, 12, 13), [(0, 9, 15, 25)], rfl, ⟨⟨by decide, by decide, by decide, ckl_L_13⟩, fun z hz => ?_⟩, fun q9 => ?_⟩
      · exact absurd hz List.not_mem_nil
      · refine x_astore_n hG (pc := 12) 3 dL_take_12 rfl (Nat.le_of_ble_eq_true rfl) rfl (by dsimp only [List.set]) ?_
        refine x_iconst hG (pc := 13) 1 dL_take_13 (by decide) ?_
        refine x_ireturn hG (pc := 14) dL_take_14 rfl rfl (by rw [hG.mc]; exact Nat.le_of_ble_eq_true rfl) (by rw [hG.ms]; exact Nat.le_of_ble_eq_true rfl) ?_
        exact hk.bad hR hq hk1 fin_Tak
    · rcases k with _ | k
      · obtain rfl : xS = E := Option.some.inj hE
        refine ⟨[(0, 9, 12, 13)], (0, 9, 15, 25), [], rfl, ⟨⟨by decide, by decide, by decide, ckl_L_25⟩, fun z hz => ?_⟩, fun q9 => ?_⟩
        · rcases List.mem_cons.mp hz with z1 | hz
          · subst z1; exact ⟨by decide, _, ckl_L_13, List.mem_of_getElem? (i := 1) rfl⟩
          · exact absurd hz List.not_mem_nil
        · refine x_astore_n hG (pc := 15) 3 dL_take_15 rfl (Nat.le_of_ble_eq_true rfl) rfl (by dsimp only [List.set]) ?_
          refine x_iconst hG (pc := 16) 2 dL_take_16 (by decide) ?_
          refine x_ireturn hG (pc := 17) dL_take_17 rfl rfl (by rw [hG.mc]; exact Nat.le_of_ble_eq_true rfl) (by rw [hG.ms]; exact Nat.le_of_ble_eq_true rfl) ?_
          exact hk.bad hR hq hk1 fin_Tak
      · exact absurd hE (by simp)
abbrev hL_giveBack : List (Nat × Nat × Nat × Nat) := [(0, 9, 12, 13), (0, 9, 15, 25)]
set_option maxHeartbeats 400000 in
set_option maxRecDepth 100000 in
theorem c_L_giveBack : CtrHA yL_giveBack cL_giveBack 4 (some .int) hL_giveBack (rmk 8 4 24 159) (fun Γ av w post xpost => ∃ (L : LayC) (S : St) (q : Nat) (f0 : Nat → Int64), ∃ p, av = [.ref (thC L), .int p, .ref q] ∧ w q = some (oLo Γ f0) ∧ RepC Γ L S w ∧ Inv S ∧ WOut Γ q w L post Int32.toInt64 (oGiv S p)) := by
  refine ctr_ofH (by decide) ?_
  rintro g av w hG hH ⟨L, S, q, f0, p, rfl, hq, hR, hI, hk⟩
  refine ⟨Nat.le_of_ble_eq_true rfl, ?_⟩
  show X g w 0 0 0 [some (.ref (thC L)), some (.int p), some (.ref q), none] []
  refine x_aload_n hG (pc := 0) 2 dL_giveBack_0 rfl rfl ?_
  refine x_iconst hG (pc := 1) 0 dL_giveBack_1 (by decide) ?_
  refine x_aload_n hG (pc := 2) 0 dL_giveBack_2 rfl rfl ?_
  refine x_iload_n hG (pc := 3) 1 dL_giveBack_3 rfl rfl ?_
  refine x_callVH hG hH (pc := 4) [_] c_X6_giveBack lk_L_57 hR.main rfl rfl ⟨Nat.le_of_ble_eq_true rfl, Nat.le_of_ble_eq_true rfl⟩ (Nat.le_of_ble_eq_true rfl) (by rw [hG.mc]; exact Nat.le_of_ble_eq_true rfl) (by rw [hG.ms]; exact Nat.le_of_ble_eq_true rfl) dL_giveBack_4 ?_
  refine ⟨L, S, p, rfl, hR, hI, ⟨fun h0 L1 w1 hth hR1 hF1 => ?_, fun k E hk1 hE => ?_⟩⟩
  · have hq1 := hF1 _ _ hq (by show 50 ≤ 80; decide)
    show X g w1 _ _ 7 _ [.int (oGiv S p).2.1, .int 0, .ref q]
    refine x_i2l hG (pc := 7) dL_giveBack_7 ?_
    refine x_last hG (pc := 8) hq1 vin1 dL_giveBack_8 ?_
    refine x_gen (fun w2 e2 => ?_)
    refine x_goto hG (pc := 9) 18 dL_giveBack_9 (by decide) ?_
    refine x_iconst hG (pc := 18) 0 dL_giveBack_18 (by decide) ?_
    refine x_ireturn hG (pc := 19) dL_giveBack_19 rfl rfl (by rw [hG.mc]; exact Nat.le_of_ble_eq_true rfl) (by rw [hG.ms]; exact Nat.le_of_ble_eq_true rfl) ?_
    exact hk.ok h0 hth hR1 hF1 hq1 e2 updL0
  · rcases k with _ | k
    · obtain rfl : xI = E := Option.some.inj hE
      refine ⟨[], (0, 9, 12, 13), [(0, 9, 15, 25)], rfl, ⟨⟨by decide, by decide, by decide, ckl_L_13⟩, fun z hz => ?_⟩, fun q9 => ?_⟩
      · exact absurd hz List.not_mem_nil
      · refine x_astore_n hG (pc := 12) 3 dL_giveBack_12 rfl (Nat.le_of_ble_eq_true rfl) rfl (by dsimp only [List.set]) ?_
        refine x_iconst hG (pc := 13) 1 dL_giveBack_13 (by decide) ?_
        refine x_ireturn hG (pc := 14) dL_giveBack_14 rfl rfl (by rw [hG.mc]; exact Nat.le_of_ble_eq_true rfl) (by rw [hG.ms]; exact Nat.le_of_ble_eq_true rfl) ?_
        exact hk.bad hR hq hk1 fin_Giv
    · rcases k with _ | k
      · obtain rfl : xS = E := Option.some.inj hE
        refine ⟨[(0, 9, 12, 13)], (0, 9, 15, 25), [], rfl, ⟨⟨by decide, by decide, by decide, ckl_L_25⟩, fun z hz => ?_⟩, fun q9 => ?_⟩
        · rcases List.mem_cons.mp hz with z1 | hz
          · subst z1; exact ⟨by decide, _, ckl_L_13, List.mem_of_getElem? (i := 1) rfl⟩
          · exact absurd hz List.not_mem_nil
        · refine x_astore_n hG (pc := 15) 3 dL_giveBack_15 rfl (Nat.le_of_ble_eq_true rfl) rfl (by dsimp only [List.set]) ?_
          refine x_iconst hG (pc := 16) 2 dL_giveBack_16 (by decide) ?_
          refine x_ireturn hG (pc := 17) dL_giveBack_17 rfl rfl (by rw [hG.mc]; exact Nat.le_of_ble_eq_true rfl) (by rw [hG.ms]; exact Nat.le_of_ble_eq_true rfl) ?_
          exact hk.bad hR hq hk1 fin_Giv
      · exact absurd hE (by simp)
abbrev hL_walk : List (Nat × Nat × Nat × Nat) := [(0, 17, 20, 13), (0, 17, 24, 19)]
set_option maxHeartbeats 400000 in
set_option maxRecDepth 100000 in
theorem c_L_walk : CtrHA yL_walk cL_walk 5 (some .int) hL_walk (rmk 9 4 24 164) (fun Γ av w post xpost => ∃ (L : LayC) (S : St) (q : Nat) (f0 : Nat → Int64), ∃ i s, av = [.ref (thC L), .int i, .int s, .ref q] ∧ w q = some (oLo Γ f0) ∧ RepC Γ L S w ∧ Inv S ∧ WOut Γ q w L post tB (oWal S i s)) := by
  refine ctr_ofH (by decide) ?_
  rintro g av w hG hH ⟨L, S, q, f0, i, s, rfl, hq, hR, hI, hk⟩
  refine ⟨Nat.le_of_ble_eq_true rfl, ?_⟩
  show X g w 0 0 0 [some (.ref (thC L)), some (.int i), some (.int s), some (.ref q), none] []
  refine x_aload_n hG (pc := 0) 3 dL_walk_0 rfl rfl ?_
  refine x_iconst hG (pc := 1) 0 dL_walk_1 (by decide) ?_
  refine x_aload_n hG (pc := 2) 0 dL_walk_2 rfl rfl ?_
  refine x_iload_n hG (pc := 3) 1 dL_walk_3 rfl rfl ?_
  refine x_iload_n hG (pc := 4) 2 dL_walk_4 rfl rfl ?_
  refine x_callVH hG hH (pc := 5) [_, _] c_X6_walk lk_L_60 hR.main rfl rfl ⟨Nat.le_of_ble_eq_true rfl, Nat.le_of_ble_eq_true rfl⟩ (Nat.le_of_ble_eq_true rfl) (by rw [hG.mc]; exact Nat.le_of_ble_eq_true rfl) (by rw [hG.ms]; exact Nat.le_of_ble_eq_true rfl) dL_walk_5 ?_
  refine ⟨L, S, i, s, rfl, hR, hI, ⟨fun h0 L1 w1 hth hR1 hF1 => ?_, fun k E hk1 hE => ?_⟩⟩
  · have hq1 := hF1 _ _ hq (by show 50 ≤ 80; decide)
    show X g w1 _ _ 8 _ [.int (oWal S i s).2.1, .int 0, .ref q]
    refine x_if_eq hG (pc := 8) 15 dL_walk_8 (by decide) (fun h8 => ?_) (fun h8 => ?_)
    · refine x_lconst hG (pc := 15) 0 dL_walk_15 (by decide) ?_
      refine x_last hG (pc := 16) hq1 vin1 dL_walk_16 ?_
      refine x_gen (fun w2 e2 => ?_)
      refine x_goto hG (pc := 17) 28 dL_walk_17 (by decide) ?_
      refine x_iconst hG (pc := 28) 0 dL_walk_28 (by decide) ?_
      refine x_ireturn hG (pc := 29) dL_walk_29 rfl rfl (by rw [hG.mc]; exact Nat.le_of_ble_eq_true rfl) (by rw [hG.ms]; exact Nat.le_of_ble_eq_true rfl) ?_
      exact hk.ok h0 hth hR1 hF1 hq1 e2 (updL0.trans (if_pos h8).symm)
    · refine x_lconst hG (pc := 11) 1 dL_walk_11 (by decide) ?_
      refine x_goto hG (pc := 12) 16 dL_walk_12 (by decide) ?_
      refine x_last hG (pc := 16) hq1 vin1 dL_walk_16 ?_
      refine x_gen (fun w2 e2 => ?_)
      refine x_goto hG (pc := 17) 28 dL_walk_17 (by decide) ?_
      refine x_iconst hG (pc := 28) 0 dL_walk_28 (by decide) ?_
      refine x_ireturn hG (pc := 29) dL_walk_29 rfl rfl (by rw [hG.mc]; exact Nat.le_of_ble_eq_true rfl) (by rw [hG.ms]; exact Nat.le_of_ble_eq_true rfl) ?_
      exact hk.ok h0 hth hR1 hF1 hq1 e2 (updL0.trans (if_neg h8).symm)
  · rcases k with _ | k
    · obtain rfl : xI = E := Option.some.inj hE
      refine ⟨[], (0, 17, 20, 13), [(0, 17, 24, 19)], rfl, ⟨⟨by decide, by decide, by decide, ckl_L_13⟩, fun z hz => ?_⟩, fun q9 => ?_⟩
      · exact absurd hz List.not_mem_nil
      · refine x_astore hG (pc := 20) dL_walk_20 (Nat.le_of_ble_eq_true rfl) rfl (by dsimp only [List.set]) ?_
        refine x_iconst hG (pc := 22) 1 dL_walk_22 (by decide) ?_
        refine x_ireturn hG (pc := 23) dL_walk_23 rfl rfl (by rw [hG.mc]; exact Nat.le_of_ble_eq_true rfl) (by rw [hG.ms]; exact Nat.le_of_ble_eq_true rfl) ?_
        exact hk.bad hR hq hk1 fin_Wal
    · rcases k with _ | k
      · obtain rfl : xA = E := Option.some.inj hE
        refine ⟨[(0, 17, 20, 13)], (0, 17, 24, 19), [], rfl, ⟨⟨by decide, by decide, by decide, ckl_L_19⟩, fun z hz => ?_⟩, fun q9 => ?_⟩
        · rcases List.mem_cons.mp hz with z1 | hz
          · subst z1; exact ⟨by decide, _, ckl_L_13, List.mem_of_getElem? (i := 0) rfl⟩
          · exact absurd hz List.not_mem_nil
        · refine x_astore hG (pc := 24) dL_walk_24 (Nat.le_of_ble_eq_true rfl) rfl (by dsimp only [List.set]) ?_
          refine x_iconst hG (pc := 26) 2 dL_walk_26 (by decide) ?_
          refine x_ireturn hG (pc := 27) dL_walk_27 rfl rfl (by rw [hG.mc]; exact Nat.le_of_ble_eq_true rfl) (by rw [hG.ms]; exact Nat.le_of_ble_eq_true rfl) ?_
          exact hk.bad hR hq hk1 fin_Wal
      · exact absurd hE (by simp)
abbrev hL_ofSection : List (Nat × Nat × Nat × Nat) := [(0, 10, 13, 13), (0, 10, 17, 19)]
set_option maxHeartbeats 400000 in
set_option maxRecDepth 100000 in
theorem c_L_ofSection : CtrHA yL_ofSection cL_ofSection 5 (some .int) hL_ofSection (rmk 9 4 24 163) (fun Γ av w post xpost => ∃ (L : LayC) (S : St) (q : Nat) (f0 : Nat → Int64), ∃ i u, av = [.ref (thC L), .int i, .int u, .ref q] ∧ w q = some (oLo Γ f0) ∧ RepC Γ L S w ∧ Inv S ∧ WOut Γ q w L post Int32.toInt64 (oOfS S i u)) := by
  refine ctr_ofH (by decide) ?_
  rintro g av w hG hH ⟨L, S, q, f0, i, u, rfl, hq, hR, hI, hk⟩
  refine ⟨Nat.le_of_ble_eq_true rfl, ?_⟩
  show X g w 0 0 0 [some (.ref (thC L)), some (.int i), some (.int u), some (.ref q), none] []
  refine x_aload_n hG (pc := 0) 3 dL_ofSection_0 rfl rfl ?_
  refine x_iconst hG (pc := 1) 0 dL_ofSection_1 (by decide) ?_
  refine x_aload_n hG (pc := 2) 0 dL_ofSection_2 rfl rfl ?_
  refine x_iload_n hG (pc := 3) 1 dL_ofSection_3 rfl rfl ?_
  refine x_iload_n hG (pc := 4) 2 dL_ofSection_4 rfl rfl ?_
  refine x_callVH hG hH (pc := 5) [_, _] c_X6_ofSection lk_L_64 hR.main rfl rfl ⟨Nat.le_of_ble_eq_true rfl, Nat.le_of_ble_eq_true rfl⟩ (Nat.le_of_ble_eq_true rfl) (by rw [hG.mc]; exact Nat.le_of_ble_eq_true rfl) (by rw [hG.ms]; exact Nat.le_of_ble_eq_true rfl) dL_ofSection_5 ?_
  refine ⟨L, S, i, u, rfl, hR, hI, ⟨fun h0 L1 w1 hth hR1 hF1 => ?_, fun k E hk1 hE => ?_⟩⟩
  · have hq1 := hF1 _ _ hq (by show 50 ≤ 80; decide)
    show X g w1 _ _ 8 _ [.int (oOfS S i u).2.1, .int 0, .ref q]
    refine x_i2l hG (pc := 8) dL_ofSection_8 ?_
    refine x_last hG (pc := 9) hq1 vin1 dL_ofSection_9 ?_
    refine x_gen (fun w2 e2 => ?_)
    refine x_goto hG (pc := 10) 21 dL_ofSection_10 (by decide) ?_
    refine x_iconst hG (pc := 21) 0 dL_ofSection_21 (by decide) ?_
    refine x_ireturn hG (pc := 22) dL_ofSection_22 rfl rfl (by rw [hG.mc]; exact Nat.le_of_ble_eq_true rfl) (by rw [hG.ms]; exact Nat.le_of_ble_eq_true rfl) ?_
    exact hk.ok h0 hth hR1 hF1 hq1 e2 updL0
  · rcases k with _ | k
    · obtain rfl : xI = E := Option.some.inj hE
      refine ⟨[], (0, 10, 13, 13), [(0, 10, 17, 19)], rfl, ⟨⟨by decide, by decide, by decide, ckl_L_13⟩, fun z hz => ?_⟩, fun q9 => ?_⟩
      · exact absurd hz List.not_mem_nil
      · refine x_astore hG (pc := 13) dL_ofSection_13 (Nat.le_of_ble_eq_true rfl) rfl (by dsimp only [List.set]) ?_
        refine x_iconst hG (pc := 15) 1 dL_ofSection_15 (by decide) ?_
        refine x_ireturn hG (pc := 16) dL_ofSection_16 rfl rfl (by rw [hG.mc]; exact Nat.le_of_ble_eq_true rfl) (by rw [hG.ms]; exact Nat.le_of_ble_eq_true rfl) ?_
        exact hk.bad hR hq hk1 fin_OfS
    · rcases k with _ | k
      · obtain rfl : xA = E := Option.some.inj hE
        refine ⟨[(0, 10, 13, 13)], (0, 10, 17, 19), [], rfl, ⟨⟨by decide, by decide, by decide, ckl_L_19⟩, fun z hz => ?_⟩, fun q9 => ?_⟩
        · rcases List.mem_cons.mp hz with z1 | hz
          · subst z1; exact ⟨by decide, _, ckl_L_13, List.mem_of_getElem? (i := 0) rfl⟩
          · exact absurd hz List.not_mem_nil
        · refine x_astore hG (pc := 17) dL_ofSection_17 (Nat.le_of_ble_eq_true rfl) rfl (by dsimp only [List.set]) ?_
          refine x_iconst hG (pc := 19) 2 dL_ofSection_19 (by decide) ?_
          refine x_ireturn hG (pc := 20) dL_ofSection_20 rfl rfl (by rw [hG.mc]; exact Nat.le_of_ble_eq_true rfl) (by rw [hG.ms]; exact Nat.le_of_ble_eq_true rfl) ?_
          exact hk.bad hR hq hk1 fin_OfS
      · exact absurd hE (by simp)
abbrev hL_known : List (Nat × Nat × Nat × Nat) := [(0, 10, 13, 13), (0, 10, 17, 19)]
set_option maxHeartbeats 400000 in
set_option maxRecDepth 100000 in
theorem c_L_known : CtrHA yL_known cL_known 5 (some .int) hL_known (rmk 9 4 24 164) (fun Γ av w post xpost => ∃ (L : LayC) (S : St) (q : Nat) (f0 : Nat → Int64), ∃ i u, av = [.ref (thC L), .int i, .int u, .ref q] ∧ w q = some (oLo Γ f0) ∧ RepC Γ L S w ∧ Inv S ∧ WOut Γ q w L post Int32.toInt64 (oKno S i u)) := by
  refine ctr_ofH (by decide) ?_
  rintro g av w hG hH ⟨L, S, q, f0, i, u, rfl, hq, hR, hI, hk⟩
  refine ⟨Nat.le_of_ble_eq_true rfl, ?_⟩
  show X g w 0 0 0 [some (.ref (thC L)), some (.int i), some (.int u), some (.ref q), none] []
  refine x_aload_n hG (pc := 0) 3 dL_known_0 rfl rfl ?_
  refine x_iconst hG (pc := 1) 0 dL_known_1 (by decide) ?_
  refine x_aload_n hG (pc := 2) 0 dL_known_2 rfl rfl ?_
  refine x_iload_n hG (pc := 3) 1 dL_known_3 rfl rfl ?_
  refine x_iload_n hG (pc := 4) 2 dL_known_4 rfl rfl ?_
  refine x_callVH hG hH (pc := 5) [_, _] c_X6_known lk_L_67 hR.main rfl rfl ⟨Nat.le_of_ble_eq_true rfl, Nat.le_of_ble_eq_true rfl⟩ (Nat.le_of_ble_eq_true rfl) (by rw [hG.mc]; exact Nat.le_of_ble_eq_true rfl) (by rw [hG.ms]; exact Nat.le_of_ble_eq_true rfl) dL_known_5 ?_
  refine ⟨L, S, i, u, rfl, hR, hI, ⟨fun h0 L1 w1 hth hR1 hF1 => ?_, fun k E hk1 hE => ?_⟩⟩
  · have hq1 := hF1 _ _ hq (by show 50 ≤ 80; decide)
    show X g w1 _ _ 8 _ [.int (oKno S i u).2.1, .int 0, .ref q]
    refine x_i2l hG (pc := 8) dL_known_8 ?_
    refine x_last hG (pc := 9) hq1 vin1 dL_known_9 ?_
    refine x_gen (fun w2 e2 => ?_)
    refine x_goto hG (pc := 10) 21 dL_known_10 (by decide) ?_
    refine x_iconst hG (pc := 21) 0 dL_known_21 (by decide) ?_
    refine x_ireturn hG (pc := 22) dL_known_22 rfl rfl (by rw [hG.mc]; exact Nat.le_of_ble_eq_true rfl) (by rw [hG.ms]; exact Nat.le_of_ble_eq_true rfl) ?_
    exact hk.ok h0 hth hR1 hF1 hq1 e2 updL0
  · rcases k with _ | k
    · obtain rfl : xI = E := Option.some.inj hE
      refine ⟨[], (0, 10, 13, 13), [(0, 10, 17, 19)], rfl, ⟨⟨by decide, by decide, by decide, ckl_L_13⟩, fun z hz => ?_⟩, fun q9 => ?_⟩
      · exact absurd hz List.not_mem_nil
      · refine x_astore hG (pc := 13) dL_known_13 (Nat.le_of_ble_eq_true rfl) rfl (by dsimp only [List.set]) ?_
        refine x_iconst hG (pc := 15) 1 dL_known_15 (by decide) ?_
        refine x_ireturn hG (pc := 16) dL_known_16 rfl rfl (by rw [hG.mc]; exact Nat.le_of_ble_eq_true rfl) (by rw [hG.ms]; exact Nat.le_of_ble_eq_true rfl) ?_
        exact hk.bad hR hq hk1 fin_Kno
    · rcases k with _ | k
      · obtain rfl : xA = E := Option.some.inj hE
        refine ⟨[(0, 10, 13, 13)], (0, 10, 17, 19), [], rfl, ⟨⟨by decide, by decide, by decide, ckl_L_19⟩, fun z hz => ?_⟩, fun q9 => ?_⟩
        · rcases List.mem_cons.mp hz with z1 | hz
          · subst z1; exact ⟨by decide, _, ckl_L_13, List.mem_of_getElem? (i := 0) rfl⟩
          · exact absurd hz List.not_mem_nil
        · refine x_astore hG (pc := 17) dL_known_17 (Nat.le_of_ble_eq_true rfl) rfl (by dsimp only [List.set]) ?_
          refine x_iconst hG (pc := 19) 2 dL_known_19 (by decide) ?_
          refine x_ireturn hG (pc := 20) dL_known_20 rfl rfl (by rw [hG.mc]; exact Nat.le_of_ble_eq_true rfl) (by rw [hG.ms]; exact Nat.le_of_ble_eq_true rfl) ?_
          exact hk.bad hR hq hk1 fin_Kno
      · exact absurd hE (by simp)
abbrev hL_why : List (Nat × Nat × Nat × Nat) := [(0, 10, 13, 13)]
set_option maxHeartbeats 400000 in
set_option maxRecDepth 100000 in
theorem c_L_why : CtrHA yL_why cL_why 5 (some .int) hL_why (rmk 9 4 24 164) (fun Γ av w post xpost => ∃ (L : LayC) (S : St) (q : Nat) (f0 : Nat → Int64), ∃ i b, av = [.ref (thC L), .int i, .int b, .ref q] ∧ w q = some (oLo Γ f0) ∧ RepC Γ L S w ∧ Inv S ∧ WOut Γ q w L post Int32.toInt64 (oWhy S i b)) := by
  refine ctr_ofH (by decide) ?_
  rintro g av w hG hH ⟨L, S, q, f0, i, b, rfl, hq, hR, hI, hk⟩
  refine ⟨Nat.le_of_ble_eq_true rfl, ?_⟩
  show X g w 0 0 0 [some (.ref (thC L)), some (.int i), some (.int b), some (.ref q), none] []
  refine x_aload_n hG (pc := 0) 3 dL_why_0 rfl rfl ?_
  refine x_iconst hG (pc := 1) 0 dL_why_1 (by decide) ?_
  refine x_aload_n hG (pc := 2) 0 dL_why_2 rfl rfl ?_
  refine x_iload_n hG (pc := 3) 1 dL_why_3 rfl rfl ?_
  refine x_iload_n hG (pc := 4) 2 dL_why_4 rfl rfl ?_
  refine x_callVH hG hH (pc := 5) [_, _] c_X6_why lk_L_70 hR.main rfl rfl ⟨Nat.le_of_ble_eq_true rfl, Nat.le_of_ble_eq_true rfl⟩ (Nat.le_of_ble_eq_true rfl) (by rw [hG.mc]; exact Nat.le_of_ble_eq_true rfl) (by rw [hG.ms]; exact Nat.le_of_ble_eq_true rfl) dL_why_5 ?_
  refine ⟨L, S, i, b, rfl, hR, hI, ⟨fun h0 L1 w1 hth hR1 hF1 => ?_, fun k E hk1 hE => ?_⟩⟩
  · have hq1 := hF1 _ _ hq (by show 50 ≤ 80; decide)
    show X g w1 _ _ 8 _ [.int (oWhy S i b).2.1, .int 0, .ref q]
    refine x_i2l hG (pc := 8) dL_why_8 ?_
    refine x_last hG (pc := 9) hq1 vin1 dL_why_9 ?_
    refine x_gen (fun w2 e2 => ?_)
    refine x_goto hG (pc := 10) 17 dL_why_10 (by decide) ?_
    refine x_iconst hG (pc := 17) 0 dL_why_17 (by decide) ?_
    refine x_ireturn hG (pc := 18) dL_why_18 rfl rfl (by rw [hG.mc]; exact Nat.le_of_ble_eq_true rfl) (by rw [hG.ms]; exact Nat.le_of_ble_eq_true rfl) ?_
    exact hk.ok h0 hth hR1 hF1 hq1 e2 updL0
  · rcases k with _ | k
    · obtain rfl : xI = E := Option.some.inj hE
      refine ⟨[], (0, 10, 13, 13), [], rfl, ⟨⟨by decide, by decide, by decide, ckl_L_13⟩, fun z hz => ?_⟩, fun q9 => ?_⟩
      · exact absurd hz List.not_mem_nil
      · refine x_astore hG (pc := 13) dL_why_13 (Nat.le_of_ble_eq_true rfl) rfl (by dsimp only [List.set]) ?_
        refine x_iconst hG (pc := 15) 1 dL_why_15 (by decide) ?_
        refine x_ireturn hG (pc := 16) dL_why_16 rfl rfl (by rw [hG.mc]; exact Nat.le_of_ble_eq_true rfl) (by rw [hG.ms]; exact Nat.le_of_ble_eq_true rfl) ?_
        exact hk.bad hR hq hk1 fin_Why
    · exact absurd hE (by simp)
abbrev hL_ofMachine : List (Nat × Nat × Nat × Nat) := [(0, 10, 13, 13), (0, 10, 17, 19)]
set_option maxHeartbeats 400000 in
set_option maxRecDepth 100000 in
theorem c_L_ofMachine : CtrHA yL_ofMachine cL_ofMachine 5 (some .int) hL_ofMachine (rmk 8 4 24 142) (fun Γ av w post xpost => ∃ (L : LayC) (S : St) (q : Nat) (f0 : Nat → Int64), ∃ i u, av = [.ref (thC L), .int i, .int u, .ref q] ∧ w q = some (oLo Γ f0) ∧ RepC Γ L S w ∧ Inv S ∧ WOut Γ q w L post Int32.toInt64 (oOfM S i u)) := by
  refine ctr_ofH (by decide) ?_
  rintro g av w hG hH ⟨L, S, q, f0, i, u, rfl, hq, hR, hI, hk⟩
  refine ⟨Nat.le_of_ble_eq_true rfl, ?_⟩
  show X g w 0 0 0 [some (.ref (thC L)), some (.int i), some (.int u), some (.ref q), none] []
  refine x_aload_n hG (pc := 0) 3 dL_ofMachine_0 rfl rfl ?_
  refine x_iconst hG (pc := 1) 0 dL_ofMachine_1 (by decide) ?_
  refine x_aload_n hG (pc := 2) 0 dL_ofMachine_2 rfl rfl ?_
  refine x_iload_n hG (pc := 3) 1 dL_ofMachine_3 rfl rfl ?_
  refine x_iload_n hG (pc := 4) 2 dL_ofMachine_4 rfl rfl ?_
  refine x_callVH hG hH (pc := 5) [_, _] c_X6_ofMachine lk_L_74 hR.main rfl rfl ⟨Nat.le_of_ble_eq_true rfl, Nat.le_of_ble_eq_true rfl⟩ (Nat.le_of_ble_eq_true rfl) (by rw [hG.mc]; exact Nat.le_of_ble_eq_true rfl) (by rw [hG.ms]; exact Nat.le_of_ble_eq_true rfl) dL_ofMachine_5 ?_
  refine ⟨L, S, i, u, rfl, hR, hI, ⟨fun h0 L1 w1 hth hR1 hF1 => ?_, fun k E hk1 hE => ?_⟩⟩
  · have hq1 := hF1 _ _ hq (by show 50 ≤ 80; decide)
    show X g w1 _ _ 8 _ [.int (oOfM S i u).2.1, .int 0, .ref q]
    refine x_i2l hG (pc := 8) dL_ofMachine_8 ?_
    refine x_last hG (pc := 9) hq1 vin1 dL_ofMachine_9 ?_
    refine x_gen (fun w2 e2 => ?_)
    refine x_goto hG (pc := 10) 21 dL_ofMachine_10 (by decide) ?_
    refine x_iconst hG (pc := 21) 0 dL_ofMachine_21 (by decide) ?_
    refine x_ireturn hG (pc := 22) dL_ofMachine_22 rfl rfl (by rw [hG.mc]; exact Nat.le_of_ble_eq_true rfl) (by rw [hG.ms]; exact Nat.le_of_ble_eq_true rfl) ?_
    exact hk.ok h0 hth hR1 hF1 hq1 e2 updL0
  · rcases k with _ | k
    · obtain rfl : xI = E := Option.some.inj hE
      refine ⟨[], (0, 10, 13, 13), [(0, 10, 17, 19)], rfl, ⟨⟨by decide, by decide, by decide, ckl_L_13⟩, fun z hz => ?_⟩, fun q9 => ?_⟩
      · exact absurd hz List.not_mem_nil
      · refine x_astore hG (pc := 13) dL_ofMachine_13 (Nat.le_of_ble_eq_true rfl) rfl (by dsimp only [List.set]) ?_
        refine x_iconst hG (pc := 15) 1 dL_ofMachine_15 (by decide) ?_
        refine x_ireturn hG (pc := 16) dL_ofMachine_16 rfl rfl (by rw [hG.mc]; exact Nat.le_of_ble_eq_true rfl) (by rw [hG.ms]; exact Nat.le_of_ble_eq_true rfl) ?_
        exact hk.bad hR hq hk1 fin_OfM
    · rcases k with _ | k
      · obtain rfl : xA = E := Option.some.inj hE
        refine ⟨[(0, 10, 13, 13)], (0, 10, 17, 19), [], rfl, ⟨⟨by decide, by decide, by decide, ckl_L_19⟩, fun z hz => ?_⟩, fun q9 => ?_⟩
        · rcases List.mem_cons.mp hz with z1 | hz
          · subst z1; exact ⟨by decide, _, ckl_L_13, List.mem_of_getElem? (i := 0) rfl⟩
          · exact absurd hz List.not_mem_nil
        · refine x_astore hG (pc := 17) dL_ofMachine_17 (Nat.le_of_ble_eq_true rfl) rfl (by dsimp only [List.set]) ?_
          refine x_iconst hG (pc := 19) 2 dL_ofMachine_19 (by decide) ?_
          refine x_ireturn hG (pc := 20) dL_ofMachine_20 rfl rfl (by rw [hG.mc]; exact Nat.le_of_ble_eq_true rfl) (by rw [hG.ms]; exact Nat.le_of_ble_eq_true rfl) ?_
          exact hk.bad hR hq hk1 fin_OfM
      · exact absurd hE (by simp)
abbrev hL_ofPossession : List (Nat × Nat × Nat × Nat) := [(0, 10, 13, 13), (0, 10, 17, 19)]
set_option maxHeartbeats 400000 in
set_option maxRecDepth 100000 in
theorem c_L_ofPossession : CtrHA yL_ofPossession cL_ofPossession 5 (some .int) hL_ofPossession (rmk 8 4 24 142) (fun Γ av w post xpost => ∃ (L : LayC) (S : St) (q : Nat) (f0 : Nat → Int64), ∃ i u, av = [.ref (thC L), .int i, .int u, .ref q] ∧ w q = some (oLo Γ f0) ∧ RepC Γ L S w ∧ Inv S ∧ WOut Γ q w L post Int32.toInt64 (oOfN S i u)) := by
  refine ctr_ofH (by decide) ?_
  rintro g av w hG hH ⟨L, S, q, f0, i, u, rfl, hq, hR, hI, hk⟩
  refine ⟨Nat.le_of_ble_eq_true rfl, ?_⟩
  show X g w 0 0 0 [some (.ref (thC L)), some (.int i), some (.int u), some (.ref q), none] []
  refine x_aload_n hG (pc := 0) 3 dL_ofPossession_0 rfl rfl ?_
  refine x_iconst hG (pc := 1) 0 dL_ofPossession_1 (by decide) ?_
  refine x_aload_n hG (pc := 2) 0 dL_ofPossession_2 rfl rfl ?_
  refine x_iload_n hG (pc := 3) 1 dL_ofPossession_3 rfl rfl ?_
  refine x_iload_n hG (pc := 4) 2 dL_ofPossession_4 rfl rfl ?_
  refine x_callVH hG hH (pc := 5) [_, _] c_X6_ofPossession lk_L_77 hR.main rfl rfl ⟨Nat.le_of_ble_eq_true rfl, Nat.le_of_ble_eq_true rfl⟩ (Nat.le_of_ble_eq_true rfl) (by rw [hG.mc]; exact Nat.le_of_ble_eq_true rfl) (by rw [hG.ms]; exact Nat.le_of_ble_eq_true rfl) dL_ofPossession_5 ?_
  refine ⟨L, S, i, u, rfl, hR, hI, ⟨fun h0 L1 w1 hth hR1 hF1 => ?_, fun k E hk1 hE => ?_⟩⟩
  · have hq1 := hF1 _ _ hq (by show 50 ≤ 80; decide)
    show X g w1 _ _ 8 _ [.int (oOfN S i u).2.1, .int 0, .ref q]
    refine x_i2l hG (pc := 8) dL_ofPossession_8 ?_
    refine x_last hG (pc := 9) hq1 vin1 dL_ofPossession_9 ?_
    refine x_gen (fun w2 e2 => ?_)
    refine x_goto hG (pc := 10) 21 dL_ofPossession_10 (by decide) ?_
    refine x_iconst hG (pc := 21) 0 dL_ofPossession_21 (by decide) ?_
    refine x_ireturn hG (pc := 22) dL_ofPossession_22 rfl rfl (by rw [hG.mc]; exact Nat.le_of_ble_eq_true rfl) (by rw [hG.ms]; exact Nat.le_of_ble_eq_true rfl) ?_
    exact hk.ok h0 hth hR1 hF1 hq1 e2 updL0
  · rcases k with _ | k
    · obtain rfl : xI = E := Option.some.inj hE
      refine ⟨[], (0, 10, 13, 13), [(0, 10, 17, 19)], rfl, ⟨⟨by decide, by decide, by decide, ckl_L_13⟩, fun z hz => ?_⟩, fun q9 => ?_⟩
      · exact absurd hz List.not_mem_nil
      · refine x_astore hG (pc := 13) dL_ofPossession_13 (Nat.le_of_ble_eq_true rfl) rfl (by dsimp only [List.set]) ?_
        refine x_iconst hG (pc := 15) 1 dL_ofPossession_15 (by decide) ?_
        refine x_ireturn hG (pc := 16) dL_ofPossession_16 rfl rfl (by rw [hG.mc]; exact Nat.le_of_ble_eq_true rfl) (by rw [hG.ms]; exact Nat.le_of_ble_eq_true rfl) ?_
        exact hk.bad hR hq hk1 fin_OfN
    · rcases k with _ | k
      · obtain rfl : xA = E := Option.some.inj hE
        refine ⟨[(0, 10, 13, 13)], (0, 10, 17, 19), [], rfl, ⟨⟨by decide, by decide, by decide, ckl_L_19⟩, fun z hz => ?_⟩, fun q9 => ?_⟩
        · rcases List.mem_cons.mp hz with z1 | hz
          · subst z1; exact ⟨by decide, _, ckl_L_13, List.mem_of_getElem? (i := 0) rfl⟩
          · exact absurd hz List.not_mem_nil
        · refine x_astore hG (pc := 17) dL_ofPossession_17 (Nat.le_of_ble_eq_true rfl) rfl (by dsimp only [List.set]) ?_
          refine x_iconst hG (pc := 19) 2 dL_ofPossession_19 (by decide) ?_
          refine x_ireturn hG (pc := 20) dL_ofPossession_20 rfl rfl (by rw [hG.mc]; exact Nat.le_of_ble_eq_true rfl) (by rw [hG.ms]; exact Nat.le_of_ble_eq_true rfl) ?_
          exact hk.bad hR hq hk1 fin_OfN
      · exact absurd hE (by simp)
abbrev hL_many : List (Nat × Nat × Nat × Nat) := [(0, 9, 12, 19)]
set_option maxHeartbeats 400000 in
set_option maxRecDepth 100000 in
theorem c_L_many : CtrHA yL_many cL_many 4 (some .int) hL_many (rmk 7 4 24 154) (fun Γ av w post xpost => ∃ (L : LayC) (S : St) (q : Nat) (f0 : Nat → Int64), ∃ u, av = [.ref (thC L), .int u, .ref q] ∧ w q = some (oLo Γ f0) ∧ RepC Γ L S w ∧ Inv S ∧ WOut Γ q w L post Int32.toInt64 (oMan S u)) := by
  refine ctr_ofH (by decide) ?_
  rintro g av w hG hH ⟨L, S, q, f0, u, rfl, hq, hR, hI, hk⟩
  refine ⟨Nat.le_of_ble_eq_true rfl, ?_⟩
  show X g w 0 0 0 [some (.ref (thC L)), some (.int u), some (.ref q), none] []
  refine x_aload_n hG (pc := 0) 2 dL_many_0 rfl rfl ?_
  refine x_iconst hG (pc := 1) 0 dL_many_1 (by decide) ?_
  refine x_aload_n hG (pc := 2) 0 dL_many_2 rfl rfl ?_
  refine x_iload_n hG (pc := 3) 1 dL_many_3 rfl rfl ?_
  refine x_callVH hG hH (pc := 4) [_] c_X6_many lk_L_80 hR.main rfl rfl ⟨Nat.le_of_ble_eq_true rfl, Nat.le_of_ble_eq_true rfl⟩ (Nat.le_of_ble_eq_true rfl) (by rw [hG.mc]; exact Nat.le_of_ble_eq_true rfl) (by rw [hG.ms]; exact Nat.le_of_ble_eq_true rfl) dL_many_4 ?_
  refine ⟨L, S, u, rfl, hR, hI, ⟨fun h0 L1 w1 hth hR1 hF1 => ?_, fun k E hk1 hE => ?_⟩⟩
  · have hq1 := hF1 _ _ hq (by show 50 ≤ 80; decide)
    show X g w1 _ _ 7 _ [.int (oMan S u).2.1, .int 0, .ref q]
    refine x_i2l hG (pc := 7) dL_many_7 ?_
    refine x_last hG (pc := 8) hq1 vin1 dL_many_8 ?_
    refine x_gen (fun w2 e2 => ?_)
    refine x_goto hG (pc := 9) 15 dL_many_9 (by decide) ?_
    refine x_iconst hG (pc := 15) 0 dL_many_15 (by decide) ?_
    refine x_ireturn hG (pc := 16) dL_many_16 rfl rfl (by rw [hG.mc]; exact Nat.le_of_ble_eq_true rfl) (by rw [hG.ms]; exact Nat.le_of_ble_eq_true rfl) ?_
    exact hk.ok h0 hth hR1 hF1 hq1 e2 updL0
  · rcases k with _ | k
    · obtain rfl : xA = E := Option.some.inj hE
      refine ⟨[], (0, 9, 12, 19), [], rfl, ⟨⟨by decide, by decide, by decide, ckl_L_19⟩, fun z hz => ?_⟩, fun q9 => ?_⟩
      · exact absurd hz List.not_mem_nil
      · refine x_astore_n hG (pc := 12) 3 dL_many_12 rfl (Nat.le_of_ble_eq_true rfl) rfl (by dsimp only [List.set]) ?_
        refine x_iconst hG (pc := 13) 1 dL_many_13 (by decide) ?_
        refine x_ireturn hG (pc := 14) dL_many_14 rfl rfl (by rw [hG.mc]; exact Nat.le_of_ble_eq_true rfl) (by rw [hG.ms]; exact Nat.le_of_ble_eq_true rfl) ?_
        exact hk.bad hR hq hk1 fin_Man
    · exact absurd hE (by simp)
abbrev hL_meanWear : List (Nat × Nat × Nat × Nat) := [(0, 8, 11, 13)]
set_option maxHeartbeats 400000 in
set_option maxRecDepth 100000 in
theorem c_L_meanWear : CtrHA yL_meanWear cL_meanWear 4 (some .int) hL_meanWear (rmk 7 1 6 121) (fun Γ av w post xpost => ∃ (L : LayC) (S : St) (q : Nat) (f0 : Nat → UInt64), ∃ t, av = [.ref (thC L), .int t, .ref q] ∧ w q = some (oDo Γ f0) ∧ RepC Γ L S w ∧ Inv S ∧ (∀ k, k < 2 → t = nI k → ∀ (w2 : Wd) (f : Nat → UInt64), RepC Γ L S w2 → FrQ (81, 0, 0) w w2 → w2 q = some (oDo Γ f) → f 0 = FP.ddiv (FP.i2d (mwS S k)) 0x4024000000000000 → post (some (.int 0)) w2) ∧ ((t < 0 ∨ ¬ t < 2) → post (some (.int 1)) w)) := by
  refine ctr_ofH (by decide) ?_
  rintro g av w hG hH ⟨L, S, q, f0, t, rfl, hq, hR, hI, hk, hx⟩
  refine ⟨Nat.le_of_ble_eq_true rfl, ?_⟩
  show X g w 0 0 0 [some (.ref (thC L)), some (.int t), some (.ref q), none] []
  refine x_aload_n hG (pc := 0) 2 dL_meanWear_0 rfl rfl ?_
  refine x_iconst hG (pc := 1) 0 dL_meanWear_1 (by decide) ?_
  refine x_aload_n hG (pc := 2) 0 dL_meanWear_2 rfl rfl ?_
  refine x_iload_n hG (pc := 3) 1 dL_meanWear_3 rfl rfl ?_
  refine x_callVH hG hH (pc := 4) [_] c_X6_meanWear lk_L_83 hR.main rfl rfl ⟨Nat.le_of_ble_eq_true rfl, Nat.le_of_ble_eq_true rfl⟩ (Nat.le_of_ble_eq_true rfl) (by rw [hG.mc]; exact Nat.le_of_ble_eq_true rfl) (by rw [hG.ms]; exact Nat.le_of_ble_eq_true rfl) dL_meanWear_4 ?_
  refine ⟨L, S, t, rfl, hR, hI, fun k hk2 et => ?_, fun ht => ?_⟩
  · have hq1 := hq
    show X g w _ _ 7 _ [.double _, .int 0, .ref q]
    refine x_dast hG (pc := 7) hq1 vin1 dL_meanWear_7 ?_
    refine x_gen (fun w2 e2 => ?_)
    refine x_goto hG (pc := 8) 14 dL_meanWear_8 (by decide) ?_
    refine x_iconst hG (pc := 14) 0 dL_meanWear_14 (by decide) ?_
    refine x_ireturn hG (pc := 15) dL_meanWear_15 rfl rfl (by rw [hG.mc]; exact Nat.le_of_ble_eq_true rfl) (by rw [hG.ms]; exact Nat.le_of_ble_eq_true rfl) ?_
    subst e2; exact hk k hk2 et _ _ (hR.tg fun b x hb hx => wup_t (tb := x.1) (eb := x.2) hq hb (fun z => by rw [z] at hx; exact absurd hx (by show ¬ 81 < 50; decide))) (fun b x hb h5 hx => wup_t (tb := x.1) (eb := x.2) hq hb hx) wup_s updD0
  · refine ⟨[], (0, 8, 11, 13), [], rfl, ⟨⟨by decide, by decide, by decide, ckl_L_13⟩, fun z hz => ?_⟩, fun q9 => ?_⟩
    · exact absurd hz List.not_mem_nil
    · refine x_astore_n hG (pc := 11) 3 dL_meanWear_11 rfl (Nat.le_of_ble_eq_true rfl) rfl (by dsimp only [List.set]) ?_
      refine x_iconst hG (pc := 12) 1 dL_meanWear_12 (by decide) ?_
      refine x_ireturn hG (pc := 13) dL_meanWear_13 rfl rfl (by rw [hG.mc]; exact Nat.le_of_ble_eq_true rfl) (by rw [hG.ms]; exact Nat.le_of_ble_eq_true rfl) ?_
      exact hx ht
abbrev hL_couldSee : List (Nat × Nat × Nat × Nat) := [(0, 9, 12, 13)]
set_option maxHeartbeats 400000 in
set_option maxRecDepth 100000 in
theorem c_L_couldSee : CtrHA yL_couldSee cL_couldSee 4 (some .int) hL_couldSee (rmk 8 4 24 142) (fun Γ av w post xpost => ∃ (L : LayC) (S : St) (q : Nat) (f0 : Nat → Int64), ∃ i, av = [.ref (thC L), .int i, .ref q] ∧ w q = some (oLo Γ f0) ∧ RepC Γ L S w ∧ Inv S ∧ WOut Γ q w L post Int32.toInt64 (oSee S i)) := by
  refine ctr_ofH (by decide) ?_
  rintro g av w hG hH ⟨L, S, q, f0, i, rfl, hq, hR, hI, hk⟩
  refine ⟨Nat.le_of_ble_eq_true rfl, ?_⟩
  show X g w 0 0 0 [some (.ref (thC L)), some (.int i), some (.ref q), none] []
  refine x_aload_n hG (pc := 0) 2 dL_couldSee_0 rfl rfl ?_
  refine x_iconst hG (pc := 1) 0 dL_couldSee_1 (by decide) ?_
  refine x_aload_n hG (pc := 2) 0 dL_couldSee_2 rfl rfl ?_
  refine x_iload_n hG (pc := 3) 1 dL_couldSee_3 rfl rfl ?_
  refine x_callVH hG hH (pc := 4) [_] c_X6_couldSee lk_L_87 hR.main rfl rfl ⟨Nat.le_of_ble_eq_true rfl, Nat.le_of_ble_eq_true rfl⟩ (Nat.le_of_ble_eq_true rfl) (by rw [hG.mc]; exact Nat.le_of_ble_eq_true rfl) (by rw [hG.ms]; exact Nat.le_of_ble_eq_true rfl) dL_couldSee_4 ?_
  refine ⟨L, S, i, rfl, hR, hI, ⟨fun h0 L1 w1 hth hR1 hF1 => ?_, fun k E hk1 hE => ?_⟩⟩
  · have hq1 := hF1 _ _ hq (by show 50 ≤ 80; decide)
    show X g w1 _ _ 7 _ [.int (oSee S i).2.1, .int 0, .ref q]
    refine x_i2l hG (pc := 7) dL_couldSee_7 ?_
    refine x_last hG (pc := 8) hq1 vin1 dL_couldSee_8 ?_
    refine x_gen (fun w2 e2 => ?_)
    refine x_goto hG (pc := 9) 15 dL_couldSee_9 (by decide) ?_
    refine x_iconst hG (pc := 15) 0 dL_couldSee_15 (by decide) ?_
    refine x_ireturn hG (pc := 16) dL_couldSee_16 rfl rfl (by rw [hG.mc]; exact Nat.le_of_ble_eq_true rfl) (by rw [hG.ms]; exact Nat.le_of_ble_eq_true rfl) ?_
    exact hk.ok h0 hth hR1 hF1 hq1 e2 updL0
  · rcases k with _ | k
    · obtain rfl : xI = E := Option.some.inj hE
      refine ⟨[], (0, 9, 12, 13), [], rfl, ⟨⟨by decide, by decide, by decide, ckl_L_13⟩, fun z hz => ?_⟩, fun q9 => ?_⟩
      · exact absurd hz List.not_mem_nil
      · refine x_astore_n hG (pc := 12) 3 dL_couldSee_12 rfl (Nat.le_of_ble_eq_true rfl) rfl (by dsimp only [List.set]) ?_
        refine x_iconst hG (pc := 13) 1 dL_couldSee_13 (by decide) ?_
        refine x_ireturn hG (pc := 14) dL_couldSee_14 rfl rfl (by rw [hG.mc]; exact Nat.le_of_ble_eq_true rfl) (by rw [hG.ms]; exact Nat.le_of_ble_eq_true rfl) ?_
        exact hk.bad hR hq hk1 fin_See
    · exact absurd hE (by simp)
abbrev hL_firstRisk : List (Nat × Nat × Nat × Nat) := [(0, 10, 13, 13), (0, 10, 17, 19)]
set_option maxHeartbeats 400000 in
set_option maxRecDepth 100000 in
theorem c_L_firstRisk : CtrHA yL_firstRisk cL_firstRisk 5 (some .int) hL_firstRisk (rmk 9 4 24 164) (fun Γ av w post xpost => ∃ (L : LayC) (S : St) (q : Nat) (f0 : Nat → Int64), ∃ i t, av = [.ref (thC L), .int i, .int t, .ref q] ∧ w q = some (oLo Γ f0) ∧ RepC Γ L S w ∧ Inv S ∧ WOut Γ q w L post Int32.toInt64 (oRis S i t)) := by
  refine ctr_ofH (by decide) ?_
  rintro g av w hG hH ⟨L, S, q, f0, i, t, rfl, hq, hR, hI, hk⟩
  refine ⟨Nat.le_of_ble_eq_true rfl, ?_⟩
  show X g w 0 0 0 [some (.ref (thC L)), some (.int i), some (.int t), some (.ref q), none] []
  refine x_aload_n hG (pc := 0) 3 dL_firstRisk_0 rfl rfl ?_
  refine x_iconst hG (pc := 1) 0 dL_firstRisk_1 (by decide) ?_
  refine x_aload_n hG (pc := 2) 0 dL_firstRisk_2 rfl rfl ?_
  refine x_iload_n hG (pc := 3) 1 dL_firstRisk_3 rfl rfl ?_
  refine x_iload_n hG (pc := 4) 2 dL_firstRisk_4 rfl rfl ?_
  refine x_callVH hG hH (pc := 5) [_, _] c_X6_firstRisk lk_L_90 hR.main rfl rfl ⟨Nat.le_of_ble_eq_true rfl, Nat.le_of_ble_eq_true rfl⟩ (Nat.le_of_ble_eq_true rfl) (by rw [hG.mc]; exact Nat.le_of_ble_eq_true rfl) (by rw [hG.ms]; exact Nat.le_of_ble_eq_true rfl) dL_firstRisk_5 ?_
  refine ⟨L, S, i, t, rfl, hR, hI, ⟨fun h0 L1 w1 hth hR1 hF1 => ?_, fun k E hk1 hE => ?_⟩⟩
  · have hq1 := hF1 _ _ hq (by show 50 ≤ 80; decide)
    show X g w1 _ _ 8 _ [.int (oRis S i t).2.1, .int 0, .ref q]
    refine x_i2l hG (pc := 8) dL_firstRisk_8 ?_
    refine x_last hG (pc := 9) hq1 vin1 dL_firstRisk_9 ?_
    refine x_gen (fun w2 e2 => ?_)
    refine x_goto hG (pc := 10) 21 dL_firstRisk_10 (by decide) ?_
    refine x_iconst hG (pc := 21) 0 dL_firstRisk_21 (by decide) ?_
    refine x_ireturn hG (pc := 22) dL_firstRisk_22 rfl rfl (by rw [hG.mc]; exact Nat.le_of_ble_eq_true rfl) (by rw [hG.ms]; exact Nat.le_of_ble_eq_true rfl) ?_
    exact hk.ok h0 hth hR1 hF1 hq1 e2 updL0
  · rcases k with _ | k
    · obtain rfl : xI = E := Option.some.inj hE
      refine ⟨[], (0, 10, 13, 13), [(0, 10, 17, 19)], rfl, ⟨⟨by decide, by decide, by decide, ckl_L_13⟩, fun z hz => ?_⟩, fun q9 => ?_⟩
      · exact absurd hz List.not_mem_nil
      · refine x_astore hG (pc := 13) dL_firstRisk_13 (Nat.le_of_ble_eq_true rfl) rfl (by dsimp only [List.set]) ?_
        refine x_iconst hG (pc := 15) 1 dL_firstRisk_15 (by decide) ?_
        refine x_ireturn hG (pc := 16) dL_firstRisk_16 rfl rfl (by rw [hG.mc]; exact Nat.le_of_ble_eq_true rfl) (by rw [hG.ms]; exact Nat.le_of_ble_eq_true rfl) ?_
        exact hk.bad hR hq hk1 fin_Ris
    · rcases k with _ | k
      · obtain rfl : xA = E := Option.some.inj hE
        refine ⟨[(0, 10, 13, 13)], (0, 10, 17, 19), [], rfl, ⟨⟨by decide, by decide, by decide, ckl_L_19⟩, fun z hz => ?_⟩, fun q9 => ?_⟩
        · rcases List.mem_cons.mp hz with z1 | hz
          · subst z1; exact ⟨by decide, _, ckl_L_13, List.mem_of_getElem? (i := 0) rfl⟩
          · exact absurd hz List.not_mem_nil
        · refine x_astore hG (pc := 17) dL_firstRisk_17 (Nat.le_of_ble_eq_true rfl) rfl (by dsimp only [List.set]) ?_
          refine x_iconst hG (pc := 19) 2 dL_firstRisk_19 (by decide) ?_
          refine x_ireturn hG (pc := 20) dL_firstRisk_20 rfl rfl (by rw [hG.mc]; exact Nat.le_of_ble_eq_true rfl) (by rw [hG.ms]; exact Nat.le_of_ble_eq_true rfl) ?_
          exact hk.bad hR hq hk1 fin_Ris
      · exact absurd hE (by simp)
abbrev hL_bestWork : List (Nat × Nat × Nat × Nat) := [(0, 12, 15, 13), (0, 12, 19, 19)]
set_option maxHeartbeats 400000 in
set_option maxRecDepth 100000 in
theorem c_L_bestWork : CtrHA yL_bestWork cL_bestWork 6 (some .int) hL_bestWork (rmk 9 4 24 168) (fun Γ av w post xpost => ∃ (L : LayC) (S : St) (q : Nat) (f0 : Nat → Int64), ∃ i t d, av = [.ref (thC L), .int i, .int t, .int d, .ref q] ∧ w q = some (oLo Γ f0) ∧ RepC Γ L S w ∧ Inv S ∧ WOut Γ q w L post Int32.toInt64 (oBst S i t d)) := by
  refine ctr_ofH (by decide) ?_
  rintro g av w hG hH ⟨L, S, q, f0, i, t, d, rfl, hq, hR, hI, hk⟩
  refine ⟨Nat.le_of_ble_eq_true rfl, ?_⟩
  show X g w 0 0 0 [some (.ref (thC L)), some (.int i), some (.int t), some (.int d), some (.ref q), none] []
  refine x_aload hG (pc := 0) dL_bestWork_0 rfl ?_
  refine x_iconst hG (pc := 2) 0 dL_bestWork_2 (by decide) ?_
  refine x_aload_n hG (pc := 3) 0 dL_bestWork_3 rfl rfl ?_
  refine x_iload_n hG (pc := 4) 1 dL_bestWork_4 rfl rfl ?_
  refine x_iload_n hG (pc := 5) 2 dL_bestWork_5 rfl rfl ?_
  refine x_iload_n hG (pc := 6) 3 dL_bestWork_6 rfl rfl ?_
  refine x_callVH hG hH (pc := 7) [_, _, _] c_X6_bestWork lk_L_93 hR.main rfl rfl ⟨Nat.le_of_ble_eq_true rfl, Nat.le_of_ble_eq_true rfl⟩ (Nat.le_of_ble_eq_true rfl) (by rw [hG.mc]; exact Nat.le_of_ble_eq_true rfl) (by rw [hG.ms]; exact Nat.le_of_ble_eq_true rfl) dL_bestWork_7 ?_
  refine ⟨L, S, i, t, d, rfl, hR, hI, ⟨fun h0 L1 w1 hth hR1 hF1 => ?_, fun k E hk1 hE => ?_⟩⟩
  · have hq1 := hF1 _ _ hq (by show 50 ≤ 80; decide)
    show X g w1 _ _ 10 _ [.int (oBst S i t d).2.1, .int 0, .ref q]
    refine x_i2l hG (pc := 10) dL_bestWork_10 ?_
    refine x_last hG (pc := 11) hq1 vin1 dL_bestWork_11 ?_
    refine x_gen (fun w2 e2 => ?_)
    refine x_goto hG (pc := 12) 23 dL_bestWork_12 (by decide) ?_
    refine x_iconst hG (pc := 23) 0 dL_bestWork_23 (by decide) ?_
    refine x_ireturn hG (pc := 24) dL_bestWork_24 rfl rfl (by rw [hG.mc]; exact Nat.le_of_ble_eq_true rfl) (by rw [hG.ms]; exact Nat.le_of_ble_eq_true rfl) ?_
    exact hk.ok h0 hth hR1 hF1 hq1 e2 updL0
  · rcases k with _ | k
    · obtain rfl : xI = E := Option.some.inj hE
      refine ⟨[], (0, 12, 15, 13), [(0, 12, 19, 19)], rfl, ⟨⟨by decide, by decide, by decide, ckl_L_13⟩, fun z hz => ?_⟩, fun q9 => ?_⟩
      · exact absurd hz List.not_mem_nil
      · refine x_astore hG (pc := 15) dL_bestWork_15 (Nat.le_of_ble_eq_true rfl) rfl (by dsimp only [List.set]) ?_
        refine x_iconst hG (pc := 17) 1 dL_bestWork_17 (by decide) ?_
        refine x_ireturn hG (pc := 18) dL_bestWork_18 rfl rfl (by rw [hG.mc]; exact Nat.le_of_ble_eq_true rfl) (by rw [hG.ms]; exact Nat.le_of_ble_eq_true rfl) ?_
        exact hk.bad hR hq hk1 fin_Bst
    · rcases k with _ | k
      · obtain rfl : xA = E := Option.some.inj hE
        refine ⟨[(0, 12, 15, 13)], (0, 12, 19, 19), [], rfl, ⟨⟨by decide, by decide, by decide, ckl_L_19⟩, fun z hz => ?_⟩, fun q9 => ?_⟩
        · rcases List.mem_cons.mp hz with z1 | hz
          · subst z1; exact ⟨by decide, _, ckl_L_13, List.mem_of_getElem? (i := 0) rfl⟩
          · exact absurd hz List.not_mem_nil
        · refine x_astore hG (pc := 19) dL_bestWork_19 (Nat.le_of_ble_eq_true rfl) rfl (by dsimp only [List.set]) ?_
          refine x_iconst hG (pc := 21) 2 dL_bestWork_21 (by decide) ?_
          refine x_ireturn hG (pc := 22) dL_bestWork_22 rfl rfl (by rw [hG.mc]; exact Nat.le_of_ble_eq_true rfl) (by rw [hG.ms]; exact Nat.le_of_ble_eq_true rfl) ?_
          exact hk.bad hR hq hk1 fin_Bst
      · exact absurd hE (by simp)
abbrev hL_freeDay : List (Nat × Nat × Nat × Nat) := [(0, 12, 15, 13), (0, 12, 19, 19)]
set_option maxHeartbeats 400000 in
set_option maxRecDepth 100000 in
theorem c_L_freeDay : CtrHA yL_freeDay cL_freeDay 6 (some .int) hL_freeDay (rmk 8 4 24 145) (fun Γ av w post xpost => ∃ (L : LayC) (S : St) (q : Nat) (f0 : Nat → Int64), ∃ t f o, av = [.ref (thC L), .int t, .int f, .int o, .ref q] ∧ w q = some (oLo Γ f0) ∧ RepC Γ L S w ∧ Inv S ∧ WOut Γ q w L post Int32.toInt64 (oFre S t f o)) := by
  refine ctr_ofH (by decide) ?_
  rintro g av w hG hH ⟨L, S, q, f0, t, f, o, rfl, hq, hR, hI, hk⟩
  refine ⟨Nat.le_of_ble_eq_true rfl, ?_⟩
  show X g w 0 0 0 [some (.ref (thC L)), some (.int t), some (.int f), some (.int o), some (.ref q), none] []
  refine x_aload hG (pc := 0) dL_freeDay_0 rfl ?_
  refine x_iconst hG (pc := 2) 0 dL_freeDay_2 (by decide) ?_
  refine x_aload_n hG (pc := 3) 0 dL_freeDay_3 rfl rfl ?_
  refine x_iload_n hG (pc := 4) 1 dL_freeDay_4 rfl rfl ?_
  refine x_iload_n hG (pc := 5) 2 dL_freeDay_5 rfl rfl ?_
  refine x_iload_n hG (pc := 6) 3 dL_freeDay_6 rfl rfl ?_
  refine x_callVH hG hH (pc := 7) [_, _, _] c_X6_freeDay lk_L_96 hR.main rfl rfl ⟨Nat.le_of_ble_eq_true rfl, Nat.le_of_ble_eq_true rfl⟩ (Nat.le_of_ble_eq_true rfl) (by rw [hG.mc]; exact Nat.le_of_ble_eq_true rfl) (by rw [hG.ms]; exact Nat.le_of_ble_eq_true rfl) dL_freeDay_7 ?_
  refine ⟨L, S, t, f, o, rfl, hR, hI, ⟨fun h0 L1 w1 hth hR1 hF1 => ?_, fun k E hk1 hE => ?_⟩⟩
  · have hq1 := hF1 _ _ hq (by show 50 ≤ 80; decide)
    show X g w1 _ _ 10 _ [.int (oFre S t f o).2.1, .int 0, .ref q]
    refine x_i2l hG (pc := 10) dL_freeDay_10 ?_
    refine x_last hG (pc := 11) hq1 vin1 dL_freeDay_11 ?_
    refine x_gen (fun w2 e2 => ?_)
    refine x_goto hG (pc := 12) 23 dL_freeDay_12 (by decide) ?_
    refine x_iconst hG (pc := 23) 0 dL_freeDay_23 (by decide) ?_
    refine x_ireturn hG (pc := 24) dL_freeDay_24 rfl rfl (by rw [hG.mc]; exact Nat.le_of_ble_eq_true rfl) (by rw [hG.ms]; exact Nat.le_of_ble_eq_true rfl) ?_
    exact hk.ok h0 hth hR1 hF1 hq1 e2 updL0
  · rcases k with _ | k
    · obtain rfl : xI = E := Option.some.inj hE
      refine ⟨[], (0, 12, 15, 13), [(0, 12, 19, 19)], rfl, ⟨⟨by decide, by decide, by decide, ckl_L_13⟩, fun z hz => ?_⟩, fun q9 => ?_⟩
      · exact absurd hz List.not_mem_nil
      · refine x_astore hG (pc := 15) dL_freeDay_15 (Nat.le_of_ble_eq_true rfl) rfl (by dsimp only [List.set]) ?_
        refine x_iconst hG (pc := 17) 1 dL_freeDay_17 (by decide) ?_
        refine x_ireturn hG (pc := 18) dL_freeDay_18 rfl rfl (by rw [hG.mc]; exact Nat.le_of_ble_eq_true rfl) (by rw [hG.ms]; exact Nat.le_of_ble_eq_true rfl) ?_
        exact hk.bad hR hq hk1 fin_Fre
    · rcases k with _ | k
      · obtain rfl : xA = E := Option.some.inj hE
        refine ⟨[(0, 12, 15, 13)], (0, 12, 19, 19), [], rfl, ⟨⟨by decide, by decide, by decide, ckl_L_19⟩, fun z hz => ?_⟩, fun q9 => ?_⟩
        · rcases List.mem_cons.mp hz with z1 | hz
          · subst z1; exact ⟨by decide, _, ckl_L_13, List.mem_of_getElem? (i := 0) rfl⟩
          · exact absurd hz List.not_mem_nil
        · refine x_astore hG (pc := 19) dL_freeDay_19 (Nat.le_of_ble_eq_true rfl) rfl (by dsimp only [List.set]) ?_
          refine x_iconst hG (pc := 21) 2 dL_freeDay_21 (by decide) ?_
          refine x_ireturn hG (pc := 22) dL_freeDay_22 rfl rfl (by rw [hG.mc]; exact Nat.le_of_ble_eq_true rfl) (by rw [hG.ms]; exact Nat.le_of_ble_eq_true rfl) ?_
          exact hk.bad hR hq hk1 fin_Fre
      · exact absurd hE (by simp)
abbrev hL_wouldOverrun : List (Nat × Nat × Nat × Nat) := [(0, 9, 12, 13), (0, 9, 15, 25)]
set_option maxHeartbeats 400000 in
set_option maxRecDepth 100000 in
theorem c_L_wouldOverrun : CtrHA yL_wouldOverrun cL_wouldOverrun 4 (some .int) hL_wouldOverrun (rmk 8 4 24 141) (fun Γ av w post xpost => ∃ (L : LayC) (S : St) (q : Nat) (f0 : Nat → Int64), ∃ p, av = [.ref (thC L), .int p, .ref q] ∧ w q = some (oLo Γ f0) ∧ RepC Γ L S w ∧ Inv S ∧ WOut Γ q w L post Int32.toInt64 (oOvr S p)) := by
  refine ctr_ofH (by decide) ?_
  rintro g av w hG hH ⟨L, S, q, f0, p, rfl, hq, hR, hI, hk⟩
  refine ⟨Nat.le_of_ble_eq_true rfl, ?_⟩
  show X g w 0 0 0 [some (.ref (thC L)), some (.int p), some (.ref q), none] []
  refine x_aload_n hG (pc := 0) 2 dL_wouldOverrun_0 rfl rfl ?_
  refine x_iconst hG (pc := 1) 0 dL_wouldOverrun_1 (by decide) ?_
  refine x_aload_n hG (pc := 2) 0 dL_wouldOverrun_2 rfl rfl ?_
  refine x_iload_n hG (pc := 3) 1 dL_wouldOverrun_3 rfl rfl ?_
  refine x_callVH hG hH (pc := 4) [_] c_X6_wouldOverrun lk_L_99 hR.main rfl rfl ⟨Nat.le_of_ble_eq_true rfl, Nat.le_of_ble_eq_true rfl⟩ (Nat.le_of_ble_eq_true rfl) (by rw [hG.mc]; exact Nat.le_of_ble_eq_true rfl) (by rw [hG.ms]; exact Nat.le_of_ble_eq_true rfl) dL_wouldOverrun_4 ?_
  refine ⟨L, S, p, rfl, hR, hI, ⟨fun h0 L1 w1 hth hR1 hF1 => ?_, fun k E hk1 hE => ?_⟩⟩
  · have hq1 := hF1 _ _ hq (by show 50 ≤ 80; decide)
    show X g w1 _ _ 7 _ [.int (oOvr S p).2.1, .int 0, .ref q]
    refine x_i2l hG (pc := 7) dL_wouldOverrun_7 ?_
    refine x_last hG (pc := 8) hq1 vin1 dL_wouldOverrun_8 ?_
    refine x_gen (fun w2 e2 => ?_)
    refine x_goto hG (pc := 9) 18 dL_wouldOverrun_9 (by decide) ?_
    refine x_iconst hG (pc := 18) 0 dL_wouldOverrun_18 (by decide) ?_
    refine x_ireturn hG (pc := 19) dL_wouldOverrun_19 rfl rfl (by rw [hG.mc]; exact Nat.le_of_ble_eq_true rfl) (by rw [hG.ms]; exact Nat.le_of_ble_eq_true rfl) ?_
    exact hk.ok h0 hth hR1 hF1 hq1 e2 updL0
  · rcases k with _ | k
    · obtain rfl : xI = E := Option.some.inj hE
      refine ⟨[], (0, 9, 12, 13), [(0, 9, 15, 25)], rfl, ⟨⟨by decide, by decide, by decide, ckl_L_13⟩, fun z hz => ?_⟩, fun q9 => ?_⟩
      · exact absurd hz List.not_mem_nil
      · refine x_astore_n hG (pc := 12) 3 dL_wouldOverrun_12 rfl (Nat.le_of_ble_eq_true rfl) rfl (by dsimp only [List.set]) ?_
        refine x_iconst hG (pc := 13) 1 dL_wouldOverrun_13 (by decide) ?_
        refine x_ireturn hG (pc := 14) dL_wouldOverrun_14 rfl rfl (by rw [hG.mc]; exact Nat.le_of_ble_eq_true rfl) (by rw [hG.ms]; exact Nat.le_of_ble_eq_true rfl) ?_
        exact hk.bad hR hq hk1 fin_Ovr
    · rcases k with _ | k
      · obtain rfl : xS = E := Option.some.inj hE
        refine ⟨[(0, 9, 12, 13)], (0, 9, 15, 25), [], rfl, ⟨⟨by decide, by decide, by decide, ckl_L_25⟩, fun z hz => ?_⟩, fun q9 => ?_⟩
        · rcases List.mem_cons.mp hz with z1 | hz
          · subst z1; exact ⟨by decide, _, ckl_L_13, List.mem_of_getElem? (i := 1) rfl⟩
          · exact absurd hz List.not_mem_nil
        · refine x_astore_n hG (pc := 15) 3 dL_wouldOverrun_15 rfl (Nat.le_of_ble_eq_true rfl) rfl (by dsimp only [List.set]) ?_
          refine x_iconst hG (pc := 16) 2 dL_wouldOverrun_16 (by decide) ?_
          refine x_ireturn hG (pc := 17) dL_wouldOverrun_17 rfl rfl (by rw [hG.mc]; exact Nat.le_of_ble_eq_true rfl) (by rw [hG.ms]; exact Nat.le_of_ble_eq_true rfl) ?_
          exact hk.bad hR hq hk1 fin_Ovr
      · exact absurd hE (by simp)
set_option maxRecDepth 100000 in
theorem lk_L_106 : LkSH RL 106 yL_curve cL_curve 5 (some .int) hL_curve 4 := ⟨(TB_2 232 rfl rfl), (TB_2 233 rfl rfl), (TB_1 0 rfl rfl), (TB_2 234 rfl rfl), ⟨⟨by decide, by decide⟩, by decide +kernel⟩⟩
set_option maxRecDepth 100000 in
theorem lk_L_116 : LkSH RL 116 yL_sign cL_sign 5 (some .int) hL_sign 4 := ⟨(TB_3 0 rfl rfl), (TB_3 1 rfl rfl), (TB_1 0 rfl rfl), (TB_3 2 rfl rfl), ⟨⟨by decide, by decide⟩, by decide +kernel⟩⟩
set_option maxRecDepth 100000 in
theorem lk_L_120 : LkSH RL 120 yL_pass cL_pass 6 (some .int) hL_pass 5 := ⟨(TB_3 9 rfl rfl), (TB_3 10 rfl rfl), (TB_1 0 rfl rfl), (TB_3 11 rfl rfl), ⟨⟨by decide, by decide⟩, by decide +kernel⟩⟩
set_option maxRecDepth 100000 in
theorem lk_L_124 : LkSH RL 124 yL_measure cL_measure 7 (some .int) hL_measure 6 := ⟨(TB_3 65 rfl rfl), (TB_3 66 rfl rfl), (TB_1 0 rfl rfl), (TB_3 67 rfl rfl), ⟨⟨by decide, by decide⟩, by decide +kernel⟩⟩
set_option maxRecDepth 100000 in
theorem lk_L_128 : LkSH RL 128 yL_align cL_align 4 (some .int) hL_align 3 := ⟨(TB_3 156 rfl rfl), (TB_3 157 rfl rfl), (TB_1 0 rfl rfl), (TB_3 158 rfl rfl), ⟨⟨by decide, by decide⟩, by decide +kernel⟩⟩
set_option maxRecDepth 100000 in
theorem lk_L_132 : LkSH RL 132 yL_machine cL_machine 5 (some .int) hL_machine 4 := ⟨(TB_3 165 rfl rfl), (TB_3 166 rfl rfl), (TB_1 0 rfl rfl), (TB_3 167 rfl rfl), ⟨⟨by decide, by decide⟩, by decide +kernel⟩⟩
set_option maxRecDepth 100000 in
theorem lk_L_135 : LkSH RL 135 yL_service cL_service 4 (some .int) hL_service 3 := ⟨(TB_3 198 rfl rfl), (TB_3 199 rfl rfl), (TB_1 0 rfl rfl), (TB_3 200 rfl rfl), ⟨⟨by decide, by decide⟩, by decide +kernel⟩⟩
set_option maxRecDepth 100000 in
theorem lk_L_138 : LkSH RL 138 yL_book cL_book 8 (some .int) hL_book 7 := ⟨(TB_3 214 rfl rfl), (TB_3 215 rfl rfl), (TB_1 0 rfl rfl), (TB_3 216 rfl rfl), ⟨⟨by decide, by decide⟩, by decide +kernel⟩⟩
set_option maxRecDepth 100000 in
theorem lk_L_142 : LkSH RL 142 yL_work cL_work 6 (some .int) hL_work 5 := ⟨(TB_4 31 rfl rfl), (TB_4 32 rfl rfl), (TB_1 0 rfl rfl), (TB_4 33 rfl rfl), ⟨⟨by decide, by decide⟩, by decide +kernel⟩⟩
set_option maxRecDepth 100000 in
theorem lk_L_145 : LkSH RL 145 yL_cancel cL_cancel 4 (some .int) hL_cancel 3 := ⟨(TB_4 75 rfl rfl), (TB_4 76 rfl rfl), (TB_1 0 rfl rfl), (TB_4 77 rfl rfl), ⟨⟨by decide, by decide⟩, by decide +kernel⟩⟩
set_option maxRecDepth 100000 in
theorem lk_L_148 : LkSH RL 148 yL_mark cL_mark 5 (some .int) hL_mark 4 := ⟨(TB_4 82 rfl rfl), (TB_4 83 rfl rfl), (TB_1 0 rfl rfl), (TB_4 84 rfl rfl), ⟨⟨by decide, by decide⟩, by decide +kernel⟩⟩
set_option maxRecDepth 100000 in
theorem lk_L_151 : LkSH RL 151 yL_take cL_take 4 (some .int) hL_take 3 := ⟨(TB_4 100 rfl rfl), (TB_4 101 rfl rfl), (TB_1 0 rfl rfl), (TB_4 102 rfl rfl), ⟨⟨by decide, by decide⟩, by decide +kernel⟩⟩
set_option maxRecDepth 100000 in
theorem lk_L_154 : LkSH RL 154 yL_giveBack cL_giveBack 4 (some .int) hL_giveBack 3 := ⟨(TB_4 108 rfl rfl), (TB_4 109 rfl rfl), (TB_1 0 rfl rfl), (TB_4 110 rfl rfl), ⟨⟨by decide, by decide⟩, by decide +kernel⟩⟩
set_option maxRecDepth 100000 in
theorem lk_L_157 : LkSH RL 157 yL_walk cL_walk 5 (some .int) hL_walk 4 := ⟨(TB_4 116 rfl rfl), (TB_4 117 rfl rfl), (TB_1 0 rfl rfl), (TB_4 118 rfl rfl), ⟨⟨by decide, by decide⟩, by decide +kernel⟩⟩
set_option maxRecDepth 100000 in
theorem lk_L_160 : LkSH RL 160 yL_ofSection cL_ofSection 5 (some .int) hL_ofSection 4 := ⟨(TB_4 135 rfl rfl), (TB_4 136 rfl rfl), (TB_1 0 rfl rfl), (TB_4 137 rfl rfl), ⟨⟨by decide, by decide⟩, by decide +kernel⟩⟩
set_option maxRecDepth 100000 in
theorem lk_L_163 : LkSH RL 163 yL_known cL_known 5 (some .int) hL_known 4 := ⟨(TB_4 139 rfl rfl), (TB_4 140 rfl rfl), (TB_1 0 rfl rfl), (TB_4 141 rfl rfl), ⟨⟨by decide, by decide⟩, by decide +kernel⟩⟩
set_option maxRecDepth 100000 in
theorem lk_L_166 : LkSH RL 166 yL_why cL_why 5 (some .int) hL_why 4 := ⟨(TB_4 143 rfl rfl), (TB_4 144 rfl rfl), (TB_1 0 rfl rfl), (TB_4 145 rfl rfl), ⟨⟨by decide, by decide⟩, by decide +kernel⟩⟩
set_option maxRecDepth 100000 in
theorem lk_L_169 : LkSH RL 169 yL_ofMachine cL_ofMachine 5 (some .int) hL_ofMachine 4 := ⟨(TB_4 147 rfl rfl), (TB_4 148 rfl rfl), (TB_1 0 rfl rfl), (TB_4 149 rfl rfl), ⟨⟨by decide, by decide⟩, by decide +kernel⟩⟩
set_option maxRecDepth 100000 in
theorem lk_L_172 : LkSH RL 172 yL_ofPossession cL_ofPossession 5 (some .int) hL_ofPossession 4 := ⟨(TB_4 151 rfl rfl), (TB_4 152 rfl rfl), (TB_1 0 rfl rfl), (TB_4 153 rfl rfl), ⟨⟨by decide, by decide⟩, by decide +kernel⟩⟩
set_option maxRecDepth 100000 in
theorem lk_L_175 : LkSH RL 175 yL_many cL_many 4 (some .int) hL_many 3 := ⟨(TB_4 155 rfl rfl), (TB_4 156 rfl rfl), (TB_1 0 rfl rfl), (TB_4 157 rfl rfl), ⟨⟨by decide, by decide⟩, by decide +kernel⟩⟩
set_option maxRecDepth 100000 in
theorem lk_L_178 : LkSH RL 178 yL_meanWear cL_meanWear 4 (some .int) hL_meanWear 3 := ⟨(TB_4 159 rfl rfl), (TB_4 160 rfl rfl), (TB_1 0 rfl rfl), (TB_4 161 rfl rfl), ⟨⟨by decide, by decide⟩, by decide +kernel⟩⟩
set_option maxRecDepth 100000 in
theorem lk_L_182 : LkSH RL 182 yL_couldSee cL_couldSee 4 (some .int) hL_couldSee 3 := ⟨(TB_4 167 rfl rfl), (TB_4 168 rfl rfl), (TB_1 0 rfl rfl), (TB_4 169 rfl rfl), ⟨⟨by decide, by decide⟩, by decide +kernel⟩⟩
set_option maxRecDepth 100000 in
theorem lk_L_185 : LkSH RL 185 yL_firstRisk cL_firstRisk 5 (some .int) hL_firstRisk 4 := ⟨(TB_4 171 rfl rfl), (TB_4 172 rfl rfl), (TB_1 0 rfl rfl), (TB_4 173 rfl rfl), ⟨⟨by decide, by decide⟩, by decide +kernel⟩⟩
set_option maxRecDepth 100000 in
theorem lk_L_188 : LkSH RL 188 yL_bestWork cL_bestWork 6 (some .int) hL_bestWork 5 := ⟨(TB_4 175 rfl rfl), (TB_4 176 rfl rfl), (TB_1 0 rfl rfl), (TB_4 177 rfl rfl), ⟨⟨by decide, by decide⟩, by decide +kernel⟩⟩
set_option maxRecDepth 100000 in
theorem lk_L_191 : LkSH RL 191 yL_freeDay cL_freeDay 6 (some .int) hL_freeDay 5 := ⟨(TB_4 179 rfl rfl), (TB_4 180 rfl rfl), (TB_1 0 rfl rfl), (TB_4 181 rfl rfl), ⟨⟨by decide, by decide⟩, by decide +kernel⟩⟩
set_option maxRecDepth 100000 in
theorem lk_L_194 : LkSH RL 194 yL_wouldOverrun cL_wouldOverrun 4 (some .int) hL_wouldOverrun 3 := ⟨(TB_4 183 rfl rfl), (TB_4 184 rfl rfl), (TB_1 0 rfl rfl), (TB_4 185 rfl rfl), ⟨⟨by decide, by decide⟩, by decide +kernel⟩⟩
