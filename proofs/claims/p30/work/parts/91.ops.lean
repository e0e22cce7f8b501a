/-! the calls of p30's law, with the state behind them left abstract -/
theorem Out.of0 {Γ : Gw} {L : LayC} {w : Wd} {post : Option Value → Wd → Prop} {xpost : String → Wd → Prop} {names : List String} {o : Oc} {v : Int32} {S1 : St} (e : o = (0, v, S1)) (k : ∀ (L1 : LayC) (w1 : Wd), thC L1 = thC L → RepC Γ L1 S1 w1 → FrM w w1 → post (some (.int v)) w1) : Out Γ L w post xpost names o := by
  subst e
  exact ⟨fun _ => k, fun k9 E h => absurd h (by show ¬ (0 : Nat) = k9 + 1; omega)⟩
theorem BEF.frm {Γ : Gw} {w w1 : Wd} {q : Nat} {r : Nat → Nat} {bf : Nat → Nat → Int32} (h : BEF Γ w q r bf) (hF : FrM w w1) : BEF Γ w1 q r bf :=
  ⟨hF _ _ h.1 (by show 50 ≤ 80; decide), fun i hi => (h.2 i hi).elim fun f g => ⟨f, hF _ _ g.1 (by show 50 ≤ 81; decide), g.2⟩⟩
theorem BEF.frk {Γ : Gw} {w w1 : Wd} {q n : Nat} {r : Nat → Nat} {bf : Nat → Nat → Int32} (h : BEF Γ w q r bf) (hF : FrK n w w1) (hn : 82 ≤ n) : BEF Γ w1 q r bf :=
  ⟨hF _ _ h.1 (by show (80 : Nat) ≠ n; omega), fun i hi => (h.2 i hi).elim fun f g => ⟨f, hF _ _ g.1 (by show (81 : Nat) ≠ n; omega), g.2⟩⟩
theorem BEF.mono {Γ : Gw} {w w1 : Wd} {q : Nat} {r : Nat → Nat} {bf : Nat → Nat → Int32} (h : BEF Γ w q r bf) (hF : ∀ b x, w b = some x → w1 b = some x) : BEF Γ w1 q r bf :=
  ⟨hF _ _ h.1, fun i hi => (h.2 i hi).elim fun f g => ⟨f, hF _ _ g.1, g.2⟩⟩
theorem stG_F {S T : St} (h : nN S ≤ nN T) : stG T (stF S) (nN T) = stF T := by
  funext i
  unfold stG stF
  by_cases c : i < nN T
  · rw [if_pos c, if_pos c]
  · rw [if_neg c, if_neg c, if_neg (by omega)]
theorem b01 {y : Int32} (h : y = 0 ∨ y = 1) : y = if y = 1 then 1 else 0 := by
  rcases h with rfl | rfl <;> decide
theorem b10 {y : Int32} (h : y = 0 ∨ y = 1) : y = if y = 0 then 0 else 1 := by
  rcases h with rfl | rfl <;> decide
theorem cur_x {S : St} {t k : Nat} {b : Int32} (h : P3 S t) (hk : k < 20) (hb : b = 0 ∨ b = 1) : ∃ T, oCur S (nI k) b = (0, sS S k 5, T) ∧ Ste S T t 0 0 (-1) ∧ sS T k 5 = b ∧ nM T = nM S ∧ nN T = nN S ∧ nE T = nE S ∧ gl T 5 = gl S 5 :=
  ⟨_, (op_cur h hk hb).1, (op_cur h hk hb).2, by rw [sS_setS, rset_s], rfl, rfl, rfl, rfl⟩
theorem sig_x {S : St} {t k m : Nat} (h : P3 S t) (hk : k < 20) (hm : m ≤ 160) : ∃ T, oSig S (nI k) (nI m) = (0, sS S k 6, T) ∧ Ste S T t 0 0 (nI k) ∧ sS T k 6 = nI m ∧ nM T = nM S ∧ nN T = nN S ∧ nE T = nE S ∧ gl T 5 = gl S 5 :=
  ⟨_, (op_sig h hk hm).1, (op_sig h hk hm).2, by rw [sS_setS, rset_s], rfl, rfl, rfl, rfl⟩
theorem mac_x {S : St} {t kd lf : Nat} (h : P3 S t) (hk : kd ≤ 2) (hl : lf ≤ 99) (hM : nM S < 4) : ∃ T, oMac S (nI kd) (nI lf) = (0, nI (nM S), T) ∧ Ste S T t 0 0 (-1) ∧ nM T = nM S + 1 ∧ nN T = nN S ∧ nE T = nE S ∧ gl T 5 = gl S 5 :=
  ⟨_, (op_mac h hk hl hM).1, (op_mac h hk hl hM).2, rfl, rfl, rfl, rfl⟩
theorem boo_x {S : St} {t a p q hr : Nat} (h : P3 S t) (ht : t ≤ 70) (ha : a < 2) (hpq : p ≤ q) (hq : q < 10) (h1 : 2 ≤ hr) (h2 : hr ≤ 8) (hN : nN S < 16) : ∃ T, oBoo S (nI a) (nI p) (nI q) (fre S (nI a) (nI p) (nI q)) (nI hr) = (0, nI (nN S), T) ∧ Ste S T t 0 0 (-1) ∧ ofN T (nN S) 4 = fre S (nI a) (nI p) (nI q) ∧ ofN T (nN S) 6 = 0 ∧ nM T = nM S ∧ nN T = nN S + 1 ∧ nE T = nE S ∧ gl T 5 = gl S 5 := by
  have e : ∀ f, gS (addN S f) (nN S) = f := fun f => rset_s
  refine ⟨_, (op_boo h ht ha hpq hq h1 h2 hN).1, (op_boo h ht ha hpq hq h1 h2 hN).2, ?_, ?_, rfl, rfl, rfl, rfl⟩
  · show gS (addN S _) (nN S) 4 = _
    rw [e]
    rfl
  · show gS (addN S _) (nN S) 6 = _
    rw [e]
    rfl
theorem can_x {S : St} {t n : Nat} (h : P3 S t) (ht : t ≤ 70) (hn : n < nN S) (h0 : gS S n 0 = 0) : ∃ T, oCan S (nI n) = (0, gl T 2 - gl S 2, T) ∧ Ste S T t 0 0 (-1) ∧ ofN T n 0 = 4 ∧ nM T = nM S ∧ nN T = nN S ∧ nE T = nE S ∧ gl T 5 = gl S 5 := by
  have g2 : gl (setG (setN S n (rset (gS S n) 0 4)) (rset (gl S) 2 (gl S 2 + cFee S n))) 2 - gl S 2 = cFee S n := by
    rw [glG_s, add_sub']
  refine ⟨setG (setN S n (rset (gS S n) 0 4)) (rset (gl S) 2 (gl S 2 + cFee S n)), ?_, (op_can h ht hn h0).2, ?_, rfl, rfl, rfl, glG_n (by decide)⟩
  · rw [g2]
    exact (op_can h ht hn h0).1
  · show gS (setN S n (rset (gS S n) 0 4)) n 0 = 4
    rw [gS_setN, rset_s]
theorem giv_x {S : St} {t n : Nat} (h : P3 S t) (ht : t ≤ 70) (hn : n < nN S) (h1 : gS S n 0 = 1) : ∃ v T, oOvr S (nI n) = (0, v, S) ∧ oGiv S (nI n) = (0, v, T) ∧ ofN T n 9 = v ∧ Ste S T t 0 1 (-1) ∧ nM T = nM S ∧ nN T = nN S ∧ nE T = nE S ∧ gl T 5 = gl S 5 :=
  ⟨_, _, (op_giv h ht hn h1).1, (op_giv h ht hn h1).2.1, (op_giv h ht hn h1).2.2.1, (op_giv h ht hn h1).2.2.2⟩
theorem mea_x {S : St} {t a : Nat} {d : Int32} (h : P3 S t) (ha : a < 2) (hd : -2 ≤ d.toInt ∧ d.toInt ≤ 2) (hE : nE S < 12) : ∃ T, oMea S (nI a) 0 9 d = (0, nI (nE S), T) ∧ Ste S T t 0 0 (-1) ∧ nM T = nM S ∧ nN T = nN S ∧ nE T = nE S + 1 ∧ gl T 5 = gl S 5 :=
  ⟨_, (op_mea h ha hd hE).1, (op_mea h ha hd hE).2, rfl, rfl, rfl, rfl⟩
theorem day_x {S : St} {τ a c : Nat} (h : P3 S τ) (hτ : τ < 70) (ha : a ≤ 40) (hc : c ≤ 80) : ∃ T, oPas S (nI a) (nI c - 20) 1 = (0, gl T 3 - gl S 3, T) ∧ Ste S T τ 1 0 (-1) ∧ gl T 3 - gl S 3 = nTru T ∧ nM T = nM S ∧ nN T = nN S ∧ nE T = nE S ∧ gl T 5 = gl S 5 := by
  have hg := h.1.1.2.2.2.2.2.1
  have hgt := h.2.2.2.2.2
  have e1 : (1 : Int32).toInt = 1 := rfl
  have e20 : (20 : Int32).toInt = 20 := rfl
  have h0 : ¬ nI a < 0 := nI_nn (by omega)
  have h1 : nI a ≤ 40 := tLe.mpr (by rw [nI_toInt (by omega)]; show (a : Int) ≤ 40; omega)
  have hc1 : (nI c - 20).toInt = c - 20 := by
    rw [tSub (by rw [e20, nI_toInt (by omega)]; omega) (by rw [e20, nI_toInt (by omega)]; omega), e20, nI_toInt (by omega)]
  have hd := op_day (hh := nI c - 20) h hτ h0 h1
  refine ⟨oDay S (nI a) (nI c - 20), ?_, hd⟩
  unfold oPas
  rw [if_neg h0, if_pos h1, if_neg (fun z => by have := tLt.mp z; have e : (-20 : Int32).toInt = -20 := rfl; omega), if_pos (tLe.mpr (by rw [hc1]; show (c : Int) - 20 ≤ 60; omega)), if_neg (by decide), if_pos (by decide), if_pos (tLe.mpr (by rw [tAdd (by rw [e1]; omega) (by rw [e1]; omega), e1]; show (gl S 0).toInt + 1 ≤ 2000; omega))]
  have e : pas S (nI a) (nI c - 20) (1 : Int32).toNatClampNeg = oDay S (nI a) (nI c - 20) := by
    rw [show (1 : Int32).toNatClampNeg = 0 + 1 from rfl]
    simp only [pas]
  rw [e]
theorem ng_nI {S : St} {t n : Nat} (h : P3 S t) (hn : n < nN S) : ∃ a p q : Nat, a < 2 ∧ p ≤ q ∧ q < 10 ∧ ofN S n 1 = nI a ∧ ofN S n 2 = nI p ∧ ofN S n 3 = nI q := by
  obtain ⟨⟨h1, h2⟩, ⟨h3, h4, h5⟩, -⟩ := (h.2.2.1.1 n hn).1
  have e : ∀ x : Int32, 0 ≤ x.toInt → x = nI x.toInt.toNat := fun x hx => Int32.toInt_inj.mp (by rw [nI_toInt (by have := x.toInt_lt; omega)]; omega)
  exact ⟨(gS S n 1).toInt.toNat, (gS S n 2).toInt.toNat, (gS S n 3).toInt.toNat, by omega, by omega, by omega, e _ h1, e _ h3, e (gS S n 3) (by omega)⟩
theorem nI_rem {a b : Nat} (ha : a < 2 ^ 31) (hb : b < 2 ^ 31) (h0 : 0 < b) : nI a - nI a / nI b * nI b = nI (a % b) := by
  rw [nI_div ha hb h0, nI_mul, nI_sub (Nat.div_mul_le_self a b)]
  congr 1
  have := Nat.mod_add_div' a b
  omega
theorem ad_sb (a b : Int32) : a + (b - a) = b := by
  rw [Int32.add_comm, Int32.sub_add_cancel]
theorem lgA {x y : Int64} (e : x = y) : lg_cmp x y = 0 := by
  subst e
  unfold lg_cmp
  rw [if_neg (Int64.lt_irrefl), if_pos rfl]
/-- what holds at the loop's head -/
def LwI (g : Cxt) (q : Nat) (r : Nat → Nat) (qs : Nat) (L : LayC) (S : St) (τ : Nat) (w : Wd) : Prop := RepC (gΓ g) L S w ∧ P3 S τ ∧ BEF (gΓ g) w q r (ofS S) ∧ w qs = some ((82, 0, 0), aI (gK g) 16 (stF S))
/-- from the loop's head, after τ steps, the law comes to its good end -/
def Hd (g : Cxt) (b tc q : Nat) (r : Nat → Nat) (qs τ : Nat) : Prop := ∀ (L : LayC) (S : St) (w : Wd) (kc ks : Nat) (z9 z10 z11 z12 z13 z14 z15 z16 z17 z18 z19 z20 : Option Value), thC L = tc → LwI g q r qs L S τ w → kc ≤ 200 + 400 * τ → ks ≤ 2000 + 3000 * τ →
  X g w kc ks 42 [some (.ref b), some (.ref tc), some (.ref q), some (.ref qs), some (.int (nI (nM S))), some (.int (nI (nN S))), some (.int (nI (nE S))), some (.int (gl S 5)), some (.int (nI τ)), z9, z10, z11, z12, z13, z14, z15, z16, z17, z18, z19, z20] []
def Cas (tgt : Nat) : Prop := ∀ (nm : String) (g : Cxt) (b q qs : Nat) (r : Nat → Nat) (τ k : Nat) (L : LayC) (S : St) (w : Wd) (kc ks : Nat) (x nt : Int32) (z17 z18 z19 z20 : Option Value), Cx g cL_law RL nm (some .boolean) (rmk 13 631088 7208434 490) → No g → τ < 70 → k < 20 → ((nN S = 0 ∧ nt = -1) ∨ ∃ n, n < nN S ∧ nt = nI n) → Hd g b (thC L) q r qs (τ + 1) → LwI g q r qs L S τ w → kc ≤ 200 + 400 * τ → ks ≤ 2000 + 3000 * τ →
  X g w kc ks tgt [some (.ref b), some (.ref (thC L)), some (.ref q), some (.ref qs), some (.int (nI (nM S))), some (.int (nI (nN S))), some (.int (nI (nE S))), some (.int (gl S 5)), some (.int (nI τ)), some (.int x), some (.int (nI k)), some (.int nt), some (.int (gl S 2)), some (.int (gl S 4)), some (.int 0), some (.int 0), some (.int (-1)), z17, z18, z19, z20] []
