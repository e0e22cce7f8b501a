/-! the law's loop: the script, what holds at its head, the room -/
def Scr (g : Cxt) (b L : Nat) (xs : Nat → Int32) : Prop := match g with
  | (_, _, _, _, s, _, _, _, _, _, Γ, _, _, _, _, _) => va_X b L xs s s.heap ∧ b < s.heap.size ∧ ¬ n0A Γ b
theorem x_sld {g : Cxt} {cc : ByteArray} {own nm : String} {rt : Option FieldType} {rm : Room} (hG : Cx g cc own nm rt rm) {w : Wd} {kc ks pc : Nat} {lv : List (Option Value)} {st : List Value} {b L : Nat} {xs : Nat → Int32} (hX : Scr g b L xs) {i v : Int32} (hin : vp_in i L) (hv : xs i.toNatClampNeg = v) (hd : decode cc pc = .ok (.iaload, 1)) (k : X g w kc ks (pc + 1) lv (.int v :: st)) : X g w kc ks pc lv (.int i :: .ref b :: st) := by
  obtain ⟨p, l, e, R, s, m, args, below, meth, c, Γ, nL, mc, ms, post, xpost⟩ := g
  obtain ⟨hF, hr, hlk, hE, hsl, rfl, hmc, hms, hnm⟩ := hG
  obtain ⟨h1, h2, h3⟩ := hX
  subst hv
  intro H locs ls hP hS hv
  exact va_sld hF.1 hF.2.1 h1 h2 h3 hS hin hd (k H locs ls hP hS hv)
theorem x_slen {g : Cxt} {cc : ByteArray} {own nm : String} {rt : Option FieldType} {rm : Room} (hG : Cx g cc own nm rt rm) {w : Wd} {kc ks pc : Nat} {lv : List (Option Value)} {st : List Value} {b L : Nat} {xs : Nat → Int32} (hX : Scr g b L xs) (hd : decode cc pc = .ok (.arraylength, 1)) (k : X g w kc ks (pc + 1) lv (.int (nI L) :: st)) : X g w kc ks pc lv (.ref b :: st) := by
  obtain ⟨p, l, e, R, s, m, args, below, meth, c, Γ, nL, mc, ms, post, xpost⟩ := g
  obtain ⟨hF, hr, hlk, hE, hsl, rfl, hmc, hms, hnm⟩ := hG
  obtain ⟨h1, h2, h3⟩ := hX
  intro H locs ls hP hS hv
  exact va_slen hF.1 hF.2.1 h1 h2 h3 hS hd (k H locs ls hP hS hv)
theorem sc_in {j L : Nat} (c : Nat) {y : Int32} (e : y = nI c) (h : j + c < L) (hL : L ≤ 3072) : vp_in (nI j + y) L := by
  rw [e, nI_add]
  exact vp_in_nI h (by omega)
theorem and31 (y : Int32) : ∃ n : Nat, n < 32 ∧ y &&& 31 = nI n := by
  refine ⟨y.toBitVec.toNat % 32, Nat.mod_lt _ (by decide), ?_⟩
  refine Int32.toBitVec_inj.mp (BitVec.eq_of_toNat_eq ?_)
  rw [Int32.toBitVec_and, BitVec.toNat_and]
  have e : (31 : Int32).toBitVec.toNat = 2 ^ 5 - 1 := by decide
  rw [e, Nat.and_two_pow_sub_one_eq_mod]
  show _ = (BitVec.ofNat 32 _).toNat
  rw [BitVec.toNat_ofNat]
  omega
theorem hd_lt {j L : Nat} (hj : j ≤ 3072) (hL : L ≤ 3072) (h : ¬ nI L - 6 < nI j) : j + 6 ≤ L := by
  have a := mt Int32.lt_iff_toInt_lt.mpr h
  have e6 : (6 : Int32).toInt = 6 := rfl
  rw [Int32.toInt_sub, Int.bmod_eq_of_le (by rw [nI_toInt (by omega)]; simp; omega) (by rw [nI_toInt (by omega)]; simp; omega), nI_toInt (by omega), nI_toInt (by omega)] at a
  omega
theorem nI_6 (j : Nat) : nI j + Int32.ofInt 6 = nI (j + 6) := nI_add j 6
theorem nI_z {n : Nat} (h : nI n = 0) (hn : n ≤ 3) : n = 0 := by
  rcases (show n = 0 ∨ n = 1 ∨ n = 2 ∨ n = 3 by omega) with rfl | rfl | rfl | rfl <;> first | rfl | exact absurd h (by decide)
theorem lgA {x y : Int64} (e : x = y) : lg_cmp x y = 0 := by
  subst e
  unfold lg_cmp
  rw [if_neg (Int64.lt_irrefl), if_pos rfl]
theorem RepM.frq {Γ : Gw} {L : LayM} {S : St} {w w1 : Wd} {T : Tg} (h : RepM Γ L S w) (hF : FrQ T w w1) (hT : 60 ≤ T.1) : RepM Γ L S w1 := by
  have ne : ∀ {t : Tg}, t.1 < 60 → t ≠ T := fun ht z => by rw [z] at ht; omega
  refine ⟨hF _ _ h.1 (by show 50 ≤ 50; decide) (ne (by show 50 < 60; decide)), hF _ _ h.2.1 (by show 50 ≤ 51; decide) (ne (by show 51 < 60; decide)), fun i hi => hF _ _ (h.sec hi) (by show 50 ≤ 52; decide) (ne (by show 52 < 60; decide)), fun id hi => (h.lst hi).fr (fun b x hb hx => hF b x hb ?_ ?_), fun k hk => hF _ _ (h.mea hk) (by show 50 ≤ 55; decide) (ne (by show 55 < 60; decide)), fun k hk => hF _ _ (h.mac hk) (by show 50 ≤ 56; decide) (ne (by show 56 < 60; decide)), fun k hk => hF _ _ (h.ngt hk) (by show 50 ≤ 57; decide) (ne (by show 57 < 60; decide))⟩
  · rcases hx with q | q <;> rw [q] <;> (first | (show 50 ≤ 53; decide) | (show 50 ≤ 54; decide))
  · rcases hx with q | q <;> rw [q] <;> refine ne ?_ <;> (first | (show 53 < 60; decide) | (show 54 < 60; decide))
theorem RepC.frc {Γ : Gw} {L : LayC} {S : St} {w w1 : Wd} (h : RepC Γ L S w) (hF : FrC w w1) : RepC Γ L S w1 := h.tg fun b x hb hx => hF b x hb (fun z => by omega)
theorem FrC.lo {Γ : Gw} {w w1 : Wd} (hF : FrC w w1) {q : Nat} {f : Nat → Int64} (h : w q = some (oLo Γ f)) : w1 q = some (oLo Γ f) := hF _ _ h (by show ¬ (50 ≤ 80 ∧ 80 < 80); decide)
theorem FrC.dO {Γ : Gw} {w w1 : Wd} (hF : FrC w w1) {q : Nat} {f : Nat → UInt64} (h : w q = some (oDo Γ f)) : w1 q = some (oDo Γ f) := hF _ _ h (by show ¬ (50 ≤ 81 ∧ 81 < 80); decide)
theorem FrQ.dO {Γ : Gw} {w w1 : Wd} (hF : FrQ (80, 0, 0) w w1) {q : Nat} {f : Nat → UInt64} (h : w q = some (oDo Γ f)) : w1 q = some (oDo Γ f) := hF _ _ h (by show 50 ≤ 81; decide) (by intro z; cases z)
theorem FrQ.lo {Γ : Gw} {w w1 : Wd} (hF : FrQ (81, 0, 0) w w1) {q : Nat} {f : Nat → Int64} (h : w q = some (oLo Γ f)) : w1 q = some (oLo Γ f) := hF _ _ h (by show 50 ≤ 80; decide) (by intro z; cases z)
/-- nothing is thrown out of the law -/
def No (g : Cxt) : Prop := ∀ (E : String) (w : Wd), gX g E w → False
section RDN
variable {p : Program} {l : Launch} {e : Env} {R : Room} {s : State} {m : MethodId} {args : Array Value} {below : List Frame} {meth : Method} {c : Code} {H : Heap} {locs : List Loc} {ls : Array Slot}
theorem run_doneN {Γ : Gw} {nL mc ms kc ks mc1 ms1 pc : Nat} {post post1 : Option Value → Wd → Prop} {xpost xpost1 : String → Wd → Prop} {lv : List (Option Value)} {st0 rest : List Value} {a : Array Value}
    (hr : vx_Run p l e R s m args below meth c H locs kc ks mc1 ms1 (F0 m pc ls st0) rest (Qn Γ post1 a) (Qx Γ xpost1) (n0A Γ)) (hS : va_S (n0A Γ) s.heap H locs) (hv : lh ls nL lv) (hc : kc + mc1 ≤ mc) (hs : ks + ms1 ≤ ms)
    (kx : ∀ (E : String) (w1 : Wd), xpost1 E w1 → False) (kk : ∀ (r : Option Value) (w1 : Wd), post1 r w1 → X (p, l, e, R, s, m, args, below, meth, c, Γ, nL, mc, ms, post, xpost) w1 (kc + mc1) (ks + ms1) (pc + 3) lv (r.toList ++ rest)) :
    W p l e R s m args below meth c H locs kc ks (vx_MQ below (Qn Γ post) (Qx Γ xpost) args s mc ms (n0A Γ)) (F0 m pc ls st0) := by
  intro T hT X0
  rcases hr T hT X0 with ⟨v, st₀, t, T', L, h0, X', hL, e1, e2, ⟨⟨r, w1, hrv, hp, hpo⟩, hFr⟩, st⟩ | ⟨q, st₀, t, T', L, E, ce, h0, X', hL, e1, e2, ⟨⟨w1, hp, hpo⟩, hFr⟩, hce, hcv, hcl, st⟩
  · cases hrv
    obtain ⟨k1, k2, k3⟩ := vx_keep h0 e1 hS (fun q _ h => h) (fun q h => h) hL hFr
    obtain ⟨t2, a1, b1⟩ := kk _ w1 hpo T'.heap (locs ++ L) ls (by rw [e1]; exact hp) k3 hv T' rfl X'
    exact ⟨t2, st t2 a1, b1⟩
  · exact (kx E w1 hpo).elim
end RDN
theorem x_callVN {g : Cxt} {cc : ByteArray} {own nm : String} {rt : Option FieldType} {rm : Room} (hG : Cx g cc own nm rt rm) {w : Wd} {kc ks pc : Nat} {lv : List (Option Value)} {st : List Value} (hO : No g) {idx n ci b maxL : Nat} {t : Tg} {fs : List Value} {y : MethodName} {yc : ByteArray} {ret : Option FieldType} {rm2 : Room} {S : SpT} {st0 : List Value} (As : List Value) (hC : CtrA y yc maxL ret rm2 S) (hL : LkV own idx y yc maxL ret n ci) (he : w b = some (t, .inr (ci, fs))) (hn : As.length = n) (hst : st0 = As.reverse ++ .ref b :: st) (hRm : rm2.frames + 1 ≤ rm.frames ∧ 8 + (maxL + 11) + rm2.locals ≤ rm.locals) (hW : (st.map fun v => v.category).sum ≤ 8) (hkc : kc + rm2.cells ≤ gM g) (hks : ks + rm2.slots ≤ gN g) (hd : decode cc pc = .ok (.invokevirtual idx, 3)) (k : S (gΓ g) (.ref b :: As) w (fun r w1 => X g w1 (kc + rm2.cells) (ks + rm2.slots) (pc + 3) lv (r.toList ++ st)) (gX g)) : X g w kc ks pc lv st0 := by
  obtain ⟨p, l, e, R, s, m, args, below, meth, c, Γ, nL, mc, ms, post, xpost⟩ := g
  obtain ⟨hF, hr, hlk, hE, hsl, rfl, hmc, hms, hnm⟩ := hG
  intro H locs ls hP hS hv
  subst hst
  obtain ⟨h1, h2, h3, h4, h5, hy, T2, N2, hc2⟩ := hL
  exact run_doneN (vx_runV (As := As) (rest := st) hF (hC l hsl Γ _ w _ _ k) ⟨⟨rfl, rfl, hRm.1, hRm.2, pay_in hF.2.2.2.2 (code_good h5), List.mem_cons_self, hF.2.2.2.2 _ h5, hF.2.2.2.2 _ h4, hy.1, par_n hy.2, hF.2.2.2.2 _ h1⟩, hF.2.2.2.2 _ h2, hF.2.2.2.2 _ h3⟩ ⟨pcw_blind, va_recv hE.1 (hP.one he) hc2 (q0 := 0) rfl, fun U hU hWa => ⟨rfl, by rw [hU]; exact (hE.kept hS.1 hS.2.1).warm hWa, by rw [hU]; exact hP⟩⟩ rfl hn hv.1.1 rfl (lv_room (pc := pc) (ls := ls) (rest := As.reverse ++ .ref b :: st) hW) hd ⟨by rw [hmc]; exact hkc, by rw [hms]; exact hks⟩) hS hv hkc hks hO (fun _ _ h => h)
theorem x_callIN {g : Cxt} {cc : ByteArray} {own nm : String} {rt : Option FieldType} {rm : Room} (hG : Cx g cc own nm rt rm) {w : Wd} {kc ks pc : Nat} {lv : List (Option Value)} {st : List Value} (hO : No g) {idx n b maxL : Nat} {y : MethodName} {yc : ByteArray} {rm2 : Room} {S : SpT} {st0 : List Value} (As : List Value) (hC : CtrA y yc maxL none rm2 S) (hL : LkI own idx y yc maxL n) (hn : As.length = n) (hst : st0 = As.reverse ++ .ref b :: st) (hRm : rm2.frames + 1 ≤ rm.frames ∧ 8 + (maxL + 11) + rm2.locals ≤ rm.locals) (hW : (st.map fun v => v.category).sum ≤ 8) (hkc : kc + rm2.cells ≤ gM g) (hks : ks + rm2.slots ≤ gN g) (hd : decode cc pc = .ok (.invokespecial idx, 3)) (k : S (gΓ g) (.ref b :: As) w (fun r w1 => X g w1 (kc + rm2.cells) (ks + rm2.slots) (pc + 3) lv (r.toList ++ st)) (gX g)) : X g w kc ks pc lv st0 := by
  obtain ⟨p, l, e, R, s, m, args, below, meth, c, Γ, nL, mc, ms, post, xpost⟩ := g
  obtain ⟨hF, hr, hlk, hE, hsl, rfl, hmc, hms, hnm⟩ := hG
  intro H locs ls hP hS hv
  subst hst
  obtain ⟨h1, h2, h4, h5, hy, h9⟩ := hL
  exact run_doneN (vx_runI (As := As) (rest := st) hF (hC l hsl Γ _ w _ _ k) ⟨⟨rfl, rfl, hRm.1, hRm.2, pay_in hF.2.2.2.2 (code_good h5), List.mem_cons_self, hF.2.2.2.2 _ h5, hF.2.2.2.2 _ h4, hy.1, par_n hy.2, hF.2.2.2.2 _ h1⟩, h9, hF.2.2.2.2 _ h2⟩ ⟨pcw_blind, fun U hU hWa => ⟨rfl, by rw [hU]; exact (hE.kept hS.1 hS.2.1).warm hWa, by rw [hU]; exact hP⟩⟩ rfl hn hv.1.1 rfl (lv_room (pc := pc) (ls := ls) (rest := As.reverse ++ .ref b :: st) hW) hd ⟨by rw [hmc]; exact hkc, by rw [hms]; exact hks⟩) hS hv hkc hks hO (fun _ _ h => h)
theorem x_callSHN {g : Cxt} {cc : ByteArray} {own nm : String} {rt : Option FieldType} {rm : Room} (hG : Cx g cc own nm rt rm) {w : Wd} {kc ks pc : Nat} {lv : List (Option Value)} {st : List Value} (hO : No g) {idx n maxL : Nat} {y : MethodName} {yc : ByteArray} {ret : Option FieldType} {hh : List (Nat × Nat × Nat × Nat)} {rm2 : Room} {S : SpT} {st0 : List Value} (As : List Value) (hC : CtrHA y yc maxL ret hh rm2 S) (hL : LkSH own idx y yc maxL ret hh n) (hn : As.length = n) (hst : st0 = As.reverse ++ st) (hRm : rm2.frames + 1 ≤ rm.frames ∧ 8 + (maxL + 11) + rm2.locals ≤ rm.locals) (hW : (st.map fun v => v.category).sum ≤ 8) (hkc : kc + rm2.cells ≤ gM g) (hks : ks + rm2.slots ≤ gN g) (hd : decode cc pc = .ok (.invokestatic idx, 3)) (k : S (gΓ g) As w (fun r w1 => X g w1 (kc + rm2.cells) (ks + rm2.slots) (pc + 3) lv (r.toList ++ st)) (gX g)) : X g w kc ks pc lv st0 := by
  obtain ⟨p, l, e, R, s, m, args, below, meth, c, Γ, nL, mc, ms, post, xpost⟩ := g
  obtain ⟨hF, hr, hlk, hE, hsl, rfl, hmc, hms, hnm⟩ := hG
  intro H locs ls hP hS hv
  subst hst
  obtain ⟨h1, h2, h4, h5, hy⟩ := hL
  exact run_doneN (vx_runSX (hh := hh) (As := As) (rest := st) hF (hC l hsl Γ _ w _ _ k) ⟨⟨rfl, rfl, hRm.1, hRm.2, pay_in hF.2.2.2.2 (codeW_good h5), List.mem_cons_self⟩, hF.2.2.2.2 _ h5, hF.2.2.2.2 _ h4, hy.1, par_n hy.2, hF.2.2.2.2 _ h1, hF.2.2.2.2 _ h2⟩ ⟨pcw_blind, fun U hU hWa => ⟨rfl, by rw [hU]; exact (hE.kept hS.1 hS.2.1).warm hWa, by rw [hU]; exact hP⟩⟩ rfl hn hv.1.1 rfl (lv_room (pc := pc) (ls := ls) (rest := As.reverse ++ st) hW) hd ⟨by rw [hmc]; exact hkc, by rw [hms]; exact hks⟩) hS hv hkc hks hO (fun _ _ h => h)

def LwI (g : Cxt) (qo qd : Nat) (Lc : LayC) (Lm : LayM) (S : St) (w : Wd) : Prop := RepC (gΓ g) Lc S w ∧ RepM (gΓ g) Lm S w ∧ Inv2 S ∧ (∃ fo, w qo = some (oLo (gΓ g) fo)) ∧ ∃ fd, w qd = some (oDo (gΓ g) fd)
/-- from the loop's head, with j ints read in N calls, the law comes to its good end -/
def Go (g : Cxt) (b tc tm qo qd j N : Nat) : Prop := ∀ (Lc : LayC) (Lm : LayM) (S : St) (w : Wd) (kc ks : Nat) (z6 z7 z8 : Option Value), thC Lc = tc → thM Lm = tm → LwI g qo qd Lc Lm S w → (kc : Int) ≤ 100 + 664 * (N : Int) + 7 * (gl S 0).toInt → ks ≤ 1000 + 5000 * N →
  X g w kc ks 28 [some (.ref b), some (.ref tc), some (.ref tm), some (.ref qo), some (.ref qd), some (.int (nI j)), z6, z7, z8] []
def Lcs (tgt : Nat) : Prop := ∀ (nm : String) (g : Cxt) (b L : Nat) (xs : Nat → Int32) (qo qd j N : Nat) (Lc : LayC) (Lm : LayM) (S : St) (w : Wd) (kc ks : Nat) (z6 z7 z8 : Option Value), Cx g cL_law RL nm (some .boolean) (rmk 13 601024 7293034 490) → No g → Scr g b L xs → j + 6 ≤ L → L ≤ 3072 → N < 512 → Go g b (thC Lc) (thM Lm) qo qd (j + 6) (N + 1) → LwI g qo qd Lc Lm S w → (kc : Int) ≤ 100 + 664 * (N : Int) + 7 * (gl S 0).toInt → ks ≤ 1000 + 5000 * N →
  X g w kc ks tgt [some (.ref b), some (.ref (thC Lc)), some (.ref (thM Lm)), some (.ref qo), some (.ref qd), some (.int (nI j)), z6, z7, z8] []
theorem mw_abs {k : Nat} {t : Int32} (hk : k < 2) (et : t = nI k) (ht : t < 0 ∨ ¬ t < 2) : False := by
  subst et
  rcases (show k = 0 ∨ k = 1 by omega) with rfl | rfl <;> revert ht <;> decide
theorem mw_eq {k k2 : Nat} {t : Int32} (hk : k < 2) (et : t = nI k) (hk2 : k2 < 2) (et2 : t = nI k2) : k2 = k := by
  subst et
  have := congrArg Int32.toInt et2
  rw [nI_toInt (by omega), nI_toInt (by omega)] at this
  omega
theorem mw_ex {t : Int32} (h1 : ¬ t < 0) (h2 : t < 2) : ∃ k, k < 2 ∧ t = nI k := t_nI (n := 1) h1 (by have := Int32.lt_iff_toInt_lt.mp h2; have e : (2 : Int32).toInt = 2 := rfl; omega)
theorem pas_D {S : St} {t h d : Int32} (hI : Inv2 S) : ∃ D : Nat, D ≤ 60 ∧ (∀ n : Nat, d = nI n → n ≤ 60 → ¬ t < 0 → t ≤ 40 → ¬ h < -20 → h ≤ 60 → ¬ d < 1 → gl S 0 + d ≤ 2000 → n ≤ D) ∧ (gl (oPas S t h d).2.2 0).toInt = (gl S 0).toInt + D := by
  by_cases c : ¬ t < 0 ∧ t ≤ 40 ∧ ¬ h < -20 ∧ h ≤ 60 ∧ ¬ d < 1 ∧ d ≤ 60 ∧ gl S 0 + d ≤ 2000
  · obtain ⟨a1, a2, a3, a4, a5, a6, a7⟩ := c
    have e : oPas S t h d = (0, gl (pas S t h d.toNatClampNeg) 3 - gl S 3, pas S t h d.toNatClampNeg) := by
      unfold oPas
      rw [if_neg a1, if_pos a2, if_neg a3, if_pos a4, if_neg a5, if_pos a6, if_pos a7]
    have x1 := le_ti a6
    have x2 := nlt a5
    have x3 := le_ti a7
    have e0 := hI.1.2.2.2.2.2.1
    have e1 : (1 : Int32).toInt = 1 := rfl
    have e2 : (60 : Int32).toInt = 60 := rfl
    have e3 : (2000 : Int32).toInt = 2000 := rfl
    have e4 : d.toNatClampNeg = d.toInt.toNat := rfl
    rw [Int32.toInt_add, Int.bmod_eq_of_le (by simp; omega) (by simp; omega)] at x3
    refine ⟨d.toNatClampNeg, by omega, fun n hn _ _ _ _ _ _ _ => ?_, ?_⟩
    · rw [hn, nI_clamp (by omega)]
      exact Nat.le_refl _
    · rw [e]
      exact (pas_iv hI a1 a2 d.toNatClampNeg (by omega)).2
  · refine ⟨0, by omega, fun n hn h60 b1 b2 b3 b4 b5 b7 => absurd ⟨b1, b2, b3, b4, b5, by
      rw [hn]
      exact Int32.le_iff_toInt_le.mpr (by rw [nI_toInt (by omega)]; have e2 : (60 : Int32).toInt = 60 := rfl; omega), b7⟩ c, ?_⟩
    unfold oPas
    repeat' split
    all_goals first | exact (Int.add_zero _).symm | exact absurd ⟨by assumption, by assumption, by assumption, by assumption, by assumption, by assumption, by assumption⟩ c
set_option maxHeartbeats 1000000 in
theorem day_Cur {S : St} {i b : Int32} : gl (oCur S i b).2.2 0 = gl S 0 := by
  unfold oCur
  repeat' split
  all_goals first | rfl | exact end_q.2 0 (by decide) (by decide)
set_option maxHeartbeats 1000000 in
theorem day_Sig {S : St} {i v : Int32} : gl (oSig S i v).2.2 0 = gl S 0 := by
  unfold oSig
  repeat' split
  all_goals first | rfl | exact end_q.2 0 (by decide) (by decide)
set_option maxHeartbeats 1000000 in
theorem day_Mea {S : St} {t f o d : Int32} : gl (oMea S t f o d).2.2 0 = gl S 0 := by
  unfold oMea
  repeat' split
  all_goals first | rfl | exact end_q.2 0 (by decide) (by decide)
set_option maxHeartbeats 1000000 in
theorem day_Ali {S : St} {m : Int32} : gl (oAli S m).2.2 0 = gl S 0 := by
  unfold oAli
  repeat' split
  all_goals first | rfl | exact end_q.2 0 (by decide) (by decide)
set_option maxHeartbeats 1000000 in
theorem day_Mac {S : St} {kd lf : Int32} : gl (oMac S kd lf).2.2 0 = gl S 0 := by
  unfold oMac
  repeat' split
  all_goals first | rfl | exact end_q.2 0 (by decide) (by decide)
set_option maxHeartbeats 1000000 in
theorem day_Ser {S : St} {m : Int32} : gl (oSer S m).2.2 0 = gl S 0 := by
  unfold oSer
  repeat' split
  all_goals first | rfl | exact end_q.2 0 (by decide) (by decide)
set_option maxHeartbeats 1000000 in
theorem day_Boo {S : St} {t f o d h : Int32} : gl (oBoo S t f o d h).2.2 0 = gl S 0 := by
  unfold oBoo
  repeat' split
  all_goals first | rfl | exact end_q.2 0 (by decide) (by decide)
set_option maxHeartbeats 1000000 in
theorem day_Wor {S : St} {p i m : Int32} : gl (oWor S p i m).2.2 0 = gl S 0 := by
  unfold oWor
  repeat' split
  all_goals first | rfl | exact end_q.2 0 (by decide) (by decide)
set_option maxHeartbeats 1000000 in
theorem day_Can {S : St} {p : Int32} : gl (oCan S p).2.2 0 = gl S 0 := by
  unfold oCan
  repeat' split
  all_goals first | rfl | exact end_q.2 0 (by decide) (by decide)
set_option maxHeartbeats 1000000 in
theorem day_Mrk {S : St} {p e : Int32} : gl (oMrk S p e).2.2 0 = gl S 0 := by
  unfold oMrk
  repeat' split
  all_goals first | rfl | exact end_q.2 0 (by decide) (by decide)
set_option maxHeartbeats 1000000 in
theorem day_Tak {S : St} {p : Int32} : gl (oTak S p).2.2 0 = gl S 0 := by
  unfold oTak
  repeat' split
  all_goals first | rfl | exact end_q.2 0 (by decide) (by decide)
set_option maxHeartbeats 1000000 in
theorem day_Giv {S : St} {p : Int32} : gl (oGiv S p).2.2 0 = gl S 0 := by
  unfold oGiv
  repeat' split
  all_goals first | rfl | exact end_q.2 0 (by decide) (by decide)
set_option maxHeartbeats 1000000 in
theorem day_Wal {S : St} {i s : Int32} : gl (oWal S i s).2.2 0 = gl S 0 := by
  unfold oWal
  repeat' split
  all_goals first | rfl | exact end_q.2 0 (by decide) (by decide)
set_option maxHeartbeats 1000000 in
theorem iv_OfS {S : St} {i u : Int32} (h0 : Inv2 S) : Inv2 (oOfS S i u).2.2 := by
  unfold oOfS
  repeat' split
  all_goals exact h0
set_option maxHeartbeats 1000000 in
theorem day_OfS {S : St} {i u : Int32} : gl (oOfS S i u).2.2 0 = gl S 0 := by
  unfold oOfS
  repeat' split
  all_goals first | rfl | exact end_q.2 0 (by decide) (by decide)
set_option maxHeartbeats 1000000 in
theorem iv_Kno {S : St} {i u : Int32} (h0 : Inv2 S) : Inv2 (oKno S i u).2.2 := by
  unfold oKno
  repeat' split
  all_goals exact h0
set_option maxHeartbeats 1000000 in
theorem day_Kno {S : St} {i u : Int32} : gl (oKno S i u).2.2 0 = gl S 0 := by
  unfold oKno
  repeat' split
  all_goals first | rfl | exact end_q.2 0 (by decide) (by decide)
set_option maxHeartbeats 1000000 in
theorem iv_Why {S : St} {i b : Int32} (h0 : Inv2 S) : Inv2 (oWhy S i b).2.2 := by
  unfold oWhy
  repeat' split
  all_goals exact h0
set_option maxHeartbeats 1000000 in
theorem day_Why {S : St} {i b : Int32} : gl (oWhy S i b).2.2 0 = gl S 0 := by
  unfold oWhy
  repeat' split
  all_goals first | rfl | exact end_q.2 0 (by decide) (by decide)
set_option maxHeartbeats 1000000 in
theorem iv_OfM {S : St} {i u : Int32} (h0 : Inv2 S) : Inv2 (oOfM S i u).2.2 := by
  unfold oOfM
  repeat' split
  all_goals exact h0
set_option maxHeartbeats 1000000 in
theorem day_OfM {S : St} {i u : Int32} : gl (oOfM S i u).2.2 0 = gl S 0 := by
  unfold oOfM
  repeat' split
  all_goals first | rfl | exact end_q.2 0 (by decide) (by decide)
set_option maxHeartbeats 1000000 in
theorem iv_OfN {S : St} {i u : Int32} (h0 : Inv2 S) : Inv2 (oOfN S i u).2.2 := by
  unfold oOfN
  repeat' split
  all_goals exact h0
set_option maxHeartbeats 1000000 in
theorem day_OfN {S : St} {i u : Int32} : gl (oOfN S i u).2.2 0 = gl S 0 := by
  unfold oOfN
  repeat' split
  all_goals first | rfl | exact end_q.2 0 (by decide) (by decide)
set_option maxHeartbeats 1000000 in
theorem iv_Man {S : St} {u : Int32} (h0 : Inv2 S) : Inv2 (oMan S u).2.2 := by
  unfold oMan
  repeat' split
  all_goals exact h0
set_option maxHeartbeats 1000000 in
theorem day_Man {S : St} {u : Int32} : gl (oMan S u).2.2 0 = gl S 0 := by
  unfold oMan
  repeat' split
  all_goals first | rfl | exact end_q.2 0 (by decide) (by decide)
set_option maxHeartbeats 1000000 in
theorem iv_See {S : St} {i : Int32} (h0 : Inv2 S) : Inv2 (oSee S i).2.2 := by
  unfold oSee
  repeat' split
  all_goals exact h0
set_option maxHeartbeats 1000000 in
theorem day_See {S : St} {i : Int32} : gl (oSee S i).2.2 0 = gl S 0 := by
  unfold oSee
  repeat' split
  all_goals first | rfl | exact end_q.2 0 (by decide) (by decide)
set_option maxHeartbeats 1000000 in
theorem iv_Ris {S : St} {i t : Int32} (h0 : Inv2 S) : Inv2 (oRis S i t).2.2 := by
  unfold oRis
  repeat' split
  all_goals exact h0
set_option maxHeartbeats 1000000 in
theorem day_Ris {S : St} {i t : Int32} : gl (oRis S i t).2.2 0 = gl S 0 := by
  unfold oRis
  repeat' split
  all_goals first | rfl | exact end_q.2 0 (by decide) (by decide)
set_option maxHeartbeats 1000000 in
theorem iv_Bst {S : St} {i t d : Int32} (h0 : Inv2 S) : Inv2 (oBst S i t d).2.2 := by
  unfold oBst
  repeat' split
  all_goals exact h0
set_option maxHeartbeats 1000000 in
theorem day_Bst {S : St} {i t d : Int32} : gl (oBst S i t d).2.2 0 = gl S 0 := by
  unfold oBst
  repeat' split
  all_goals first | rfl | exact end_q.2 0 (by decide) (by decide)
set_option maxHeartbeats 1000000 in
theorem iv_Fre {S : St} {t f o : Int32} (h0 : Inv2 S) : Inv2 (oFre S t f o).2.2 := by
  unfold oFre
  repeat' split
  all_goals exact h0
set_option maxHeartbeats 1000000 in
theorem day_Fre {S : St} {t f o : Int32} : gl (oFre S t f o).2.2 0 = gl S 0 := by
  unfold oFre
  repeat' split
  all_goals first | rfl | exact end_q.2 0 (by decide) (by decide)
set_option maxHeartbeats 1000000 in
theorem iv_Ovr {S : St} {p : Int32} (h0 : Inv2 S) : Inv2 (oOvr S p).2.2 := by
  unfold oOvr
  repeat' split
  all_goals exact h0
set_option maxHeartbeats 1000000 in
theorem day_Ovr {S : St} {p : Int32} : gl (oOvr S p).2.2 0 = gl S 0 := by
  unfold oOvr
  repeat' split
  all_goals first | rfl | exact end_q.2 0 (by decide) (by decide)
set_option maxHeartbeats 1000000 in
set_option maxRecDepth 100000 in
theorem law_0 : Lcs 168 := by
  intro nm g b L xs qo qd j N Lc Lm S w kc ks z6 z7 z8 hG hO hX hj hL hN nx hI hkc hks
  obtain ⟨hRC, hRM, hI2, ⟨fo, hqo⟩, fd, hqd⟩ := hI
  have hdd := hI2.1.2.2.2.2.2.1
  obtain ⟨A1, hA1⟩ : ∃ y, xs (nI j + 1).toNatClampNeg = y := ⟨_, rfl⟩
  obtain ⟨A2, hA2⟩ : ∃ y, xs (nI j + 2).toNatClampNeg = y := ⟨_, rfl⟩
  obtain ⟨A3, hA3⟩ : ∃ y, xs (nI j + 3).toNatClampNeg = y := ⟨_, rfl⟩
  obtain ⟨A4, hA4⟩ : ∃ y, xs (nI j + 4).toNatClampNeg = y := ⟨_, rfl⟩
  obtain ⟨A5, hA5⟩ : ∃ y, xs (nI j + 5).toNatClampNeg = y := ⟨_, rfl⟩
  refine x_aload_n hG (pc := 168) 1 dL_law_168 rfl rfl ?_
  refine x_aload_n hG (pc := 169) 0 dL_law_169 rfl rfl ?_
  refine x_iload hG (pc := 170) dL_law_170 rfl ?_
  refine x_iconst hG (pc := 172) 1 dL_law_172 (by decide) ?_
  refine x_iadd hG (pc := 173) dL_law_173 ?_
  refine x_sld hG (pc := 174) hX (sc_in 1 rfl (by omega) hL) hA1 dL_law_174 ?_
  refine x_aload_n hG (pc := 175) 0 dL_law_175 rfl rfl ?_
  refine x_iload hG (pc := 176) dL_law_176 rfl ?_
  refine x_iconst hG (pc := 178) 2 dL_law_178 (by decide) ?_
  refine x_iadd hG (pc := 179) dL_law_179 ?_
  refine x_sld hG (pc := 180) hX (sc_in 2 rfl (by omega) hL) hA2 dL_law_180 ?_
  refine x_if_eq hG (pc := 181) 188 dL_law_181 (by decide) (fun hb2 => ?_) (fun hb2 => ?_)
  · refine x_iconst hG (pc := 188) 0 dL_law_188 (by decide) ?_
    refine x_aload_n hG (pc := 189) 3 dL_law_189 rfl rfl ?_
    refine x_callSHN hG hO (pc := 190) [_, _, _, _] c_L_curve lk_L_106 rfl rfl ⟨Nat.le_of_ble_eq_true rfl, Nat.le_of_ble_eq_true rfl⟩ (Nat.le_of_ble_eq_true rfl) (by rw [hG.mc]; dsimp only [rmk]; omega) (by rw [hG.ms]; dsimp only [rmk]; omega) dL_law_190 ?_
    refine ⟨Lc, S, qo, fo, A1, 0, rfl, hqo, hRC, hI2.1, (Or.inl rfl), fun L1 w2 f1 hth hR1 hF2 hq2 hv2 => ?_⟩
    have hRM2 := hRM.frq hF2 (Nat.le_of_ble_eq_true rfl)
    have hqd2 := hF2.dO hqd
    have hfin := fin_Cur (S := S) (i := A1) (b := 0)
    have hdy := congrArg Int32.toInt (day_Cur (S := S) (i := A1) (b := 0))
    show X g w2 _ _ 193 _ [.int (nI (oCur S A1 0).1)]
    refine x_istore hG (pc := 193) dL_law_193 (Nat.le_of_ble_eq_true rfl) rfl (by dsimp only [List.set]) ?_
    refine x_aload_n hG (pc := 195) 2 dL_law_195 rfl rfl ?_
    refine x_aload_n hG (pc := 196) 0 dL_law_196 rfl rfl ?_
    refine x_iload hG (pc := 197) dL_law_197 rfl ?_
    refine x_iconst hG (pc := 199) 1 dL_law_199 (by decide) ?_
    refine x_iadd hG (pc := 200) dL_law_200 ?_
    refine x_sld hG (pc := 201) hX (sc_in 1 rfl (by omega) hL) hA1 dL_law_201 ?_
    refine x_aload_n hG (pc := 202) 0 dL_law_202 rfl rfl ?_
    refine x_iload hG (pc := 203) dL_law_203 rfl ?_
    refine x_iconst hG (pc := 205) 2 dL_law_205 (by decide) ?_
    refine x_iadd hG (pc := 206) dL_law_206 ?_
    refine x_sld hG (pc := 207) hX (sc_in 2 rfl (by omega) hL) hA2 dL_law_207 ?_
    refine x_if_eq hG (pc := 208) 215 dL_law_208 (by decide) (fun _ => ?_) (fun z => absurd hb2 z)
    refine x_iconst hG (pc := 215) 0 dL_law_215 (by decide) ?_
    refine x_callVN hG hO (pc := 216) [_, _] c_X7_curve lk_L_111 hRM2.main rfl rfl ⟨Nat.le_of_ble_eq_true rfl, Nat.le_of_ble_eq_true rfl⟩ (Nat.le_of_ble_eq_true rfl) (by rw [hG.mc]; dsimp only [rmk]; omega) (by rw [hG.ms]; dsimp only [rmk]; omega) dL_law_216 ?_
    refine ⟨Lm, S, A1, 0, rfl, hRM2, hI2, (Or.inl rfl), fun L2 w3 hth2 hthr hRM3 hF3 => ?_⟩
    show X g w3 _ _ 219 _ [.int (oCur S A1 0).2.1]
    have hm3 := hRM3.main
    rw [show L2.1 (50, 0, 0) = Lm.1 (50, 0, 0) from hth2] at hm3
    have hq3 := hF3.lo hq2
    refine x_istore hG (pc := 219) dL_law_219 (Nat.le_of_ble_eq_true rfl) rfl (by dsimp only [List.set]) ?_
    refine x_aload_n hG (pc := 221) 2 dL_law_221 rfl rfl ?_
    refine x_callVN hG hO (pc := 222) [] c_X7_thrown lk_L_112 hm3 rfl rfl ⟨Nat.le_of_ble_eq_true rfl, Nat.le_of_ble_eq_true rfl⟩ (Nat.le_of_ble_eq_true rfl) (by rw [hG.mc]; dsimp only [rmk]; omega) (by rw [hG.ms]; dsimp only [rmk]; omega) dL_law_222 ?_
    refine ⟨L2, _, congrArg (fun z => [Value.ref z]) hth2.symm, hRM3, ?_⟩
    show X g w3 _ _ 225 _ [.int (thr L2)]
    refine x_iload hG (pc := 225) dL_law_225 rfl ?_
    refine x_icmp_eq hG (pc := 227) 232 dL_law_227 (by decide) (fun _ => ?_) (fun z => absurd hthr z)
    refine x_iload hG (pc := 232) dL_law_232 rfl ?_
    refine x_if_ne hG (pc := 234) 256 dL_law_234 (by decide) (fun _ => ?_) (fun hz => ?_)
    · refine x_goto hG (pc := 256) 2017 dL_law_256 (by decide) ?_
      refine x_iinc hG (pc := 2017) (nI (j + 6)) dL_law_2017 rfl (Nat.le_of_ble_eq_true rfl) rfl (nI_6 j) (by dsimp only [List.set]) ?_
      refine x_goto hG (pc := 2020) 28 dL_law_2020 (by decide) ?_
      exact nx L1 L2 _ w3 _ _ _ _ _ hth hth2 ⟨hR1.frc hF3, hRM3, iv_Cur hI2 (Or.inl rfl), ⟨_, hq3⟩, _, hF3.dO hqd2⟩ (by dsimp only [rmk]; omega) (by dsimp only [rmk]; omega)
    · have h0 := nI_z hz hfin.2
      refine x_aload_n hG (pc := 237) 3 dL_law_237 rfl rfl ?_
      refine x_iconst hG (pc := 238) 0 dL_law_238 (by decide) ?_
      refine x_lald hG (pc := 239) hq3 vin1 dL_law_239 ?_
      refine x_iload hG (pc := 240) dL_law_240 rfl ?_
      refine x_if_eq hG (pc := 242) 249 dL_law_242 (by decide) (fun hb3 => ?_) (fun hb3 => ?_)
      · refine x_lconst hG (pc := 249) 0 dL_law_249 (by decide) ?_
        refine x_lcmp hG (pc := 250) dL_law_250 ?_
        refine x_if_eq hG (pc := 251) 256 dL_law_251 (by decide) (fun _ => ?_) (fun z => absurd (lgA ((hv2 h0).trans (if_pos hb3))) z)
        refine x_goto hG (pc := 256) 2017 dL_law_256 (by decide) ?_
        refine x_iinc hG (pc := 2017) (nI (j + 6)) dL_law_2017 rfl (Nat.le_of_ble_eq_true rfl) rfl (nI_6 j) (by dsimp only [List.set]) ?_
        refine x_goto hG (pc := 2020) 28 dL_law_2020 (by decide) ?_
        exact nx L1 L2 _ w3 _ _ _ _ _ hth hth2 ⟨hR1.frc hF3, hRM3, iv_Cur hI2 (Or.inl rfl), ⟨_, hq3⟩, _, hF3.dO hqd2⟩ (by dsimp only [rmk]; omega) (by dsimp only [rmk]; omega)
      · refine x_lconst hG (pc := 245) 1 dL_law_245 (by decide) ?_
        refine x_goto hG (pc := 246) 250 dL_law_246 (by decide) ?_
        refine x_lcmp hG (pc := 250) dL_law_250 ?_
        refine x_if_eq hG (pc := 251) 256 dL_law_251 (by decide) (fun _ => ?_) (fun z => absurd (lgA ((hv2 h0).trans (if_neg hb3))) z)
        refine x_goto hG (pc := 256) 2017 dL_law_256 (by decide) ?_
        refine x_iinc hG (pc := 2017) (nI (j + 6)) dL_law_2017 rfl (Nat.le_of_ble_eq_true rfl) rfl (nI_6 j) (by dsimp only [List.set]) ?_
        refine x_goto hG (pc := 2020) 28 dL_law_2020 (by decide) ?_
        exact nx L1 L2 _ w3 _ _ _ _ _ hth hth2 ⟨hR1.frc hF3, hRM3, iv_Cur hI2 (Or.inl rfl), ⟨_, hq3⟩, _, hF3.dO hqd2⟩ (by dsimp only [rmk]; omega) (by dsimp only [rmk]; omega)
  · refine x_iconst hG (pc := 184) 1 dL_law_184 (by decide) ?_
    refine x_goto hG (pc := 185) 189 dL_law_185 (by decide) ?_
    refine x_aload_n hG (pc := 189) 3 dL_law_189 rfl rfl ?_
    refine x_callSHN hG hO (pc := 190) [_, _, _, _] c_L_curve lk_L_106 rfl rfl ⟨Nat.le_of_ble_eq_true rfl, Nat.le_of_ble_eq_true rfl⟩ (Nat.le_of_ble_eq_true rfl) (by rw [hG.mc]; dsimp only [rmk]; omega) (by rw [hG.ms]; dsimp only [rmk]; omega) dL_law_190 ?_
    refine ⟨Lc, S, qo, fo, A1, 1, rfl, hqo, hRC, hI2.1, (Or.inr rfl), fun L1 w2 f1 hth hR1 hF2 hq2 hv2 => ?_⟩
    have hRM2 := hRM.frq hF2 (Nat.le_of_ble_eq_true rfl)
    have hqd2 := hF2.dO hqd
    have hfin := fin_Cur (S := S) (i := A1) (b := 1)
    have hdy := congrArg Int32.toInt (day_Cur (S := S) (i := A1) (b := 1))
    show X g w2 _ _ 193 _ [.int (nI (oCur S A1 1).1)]
    refine x_istore hG (pc := 193) dL_law_193 (Nat.le_of_ble_eq_true rfl) rfl (by dsimp only [List.set]) ?_
    refine x_aload_n hG (pc := 195) 2 dL_law_195 rfl rfl ?_
    refine x_aload_n hG (pc := 196) 0 dL_law_196 rfl rfl ?_
    refine x_iload hG (pc := 197) dL_law_197 rfl ?_
    refine x_iconst hG (pc := 199) 1 dL_law_199 (by decide) ?_
    refine x_iadd hG (pc := 200) dL_law_200 ?_
    refine x_sld hG (pc := 201) hX (sc_in 1 rfl (by omega) hL) hA1 dL_law_201 ?_
    refine x_aload_n hG (pc := 202) 0 dL_law_202 rfl rfl ?_
    refine x_iload hG (pc := 203) dL_law_203 rfl ?_
    refine x_iconst hG (pc := 205) 2 dL_law_205 (by decide) ?_
    refine x_iadd hG (pc := 206) dL_law_206 ?_
    refine x_sld hG (pc := 207) hX (sc_in 2 rfl (by omega) hL) hA2 dL_law_207 ?_
    refine x_if_eq hG (pc := 208) 215 dL_law_208 (by decide) (fun z => absurd z hb2) (fun _ => ?_)
    refine x_iconst hG (pc := 211) 1 dL_law_211 (by decide) ?_
    refine x_goto hG (pc := 212) 216 dL_law_212 (by decide) ?_
    refine x_callVN hG hO (pc := 216) [_, _] c_X7_curve lk_L_111 hRM2.main rfl rfl ⟨Nat.le_of_ble_eq_true rfl, Nat.le_of_ble_eq_true rfl⟩ (Nat.le_of_ble_eq_true rfl) (by rw [hG.mc]; dsimp only [rmk]; omega) (by rw [hG.ms]; dsimp only [rmk]; omega) dL_law_216 ?_
    refine ⟨Lm, S, A1, 1, rfl, hRM2, hI2, (Or.inr rfl), fun L2 w3 hth2 hthr hRM3 hF3 => ?_⟩
    show X g w3 _ _ 219 _ [.int (oCur S A1 1).2.1]
    have hm3 := hRM3.main
    rw [show L2.1 (50, 0, 0) = Lm.1 (50, 0, 0) from hth2] at hm3
    have hq3 := hF3.lo hq2
    refine x_istore hG (pc := 219) dL_law_219 (Nat.le_of_ble_eq_true rfl) rfl (by dsimp only [List.set]) ?_
    refine x_aload_n hG (pc := 221) 2 dL_law_221 rfl rfl ?_
    refine x_callVN hG hO (pc := 222) [] c_X7_thrown lk_L_112 hm3 rfl rfl ⟨Nat.le_of_ble_eq_true rfl, Nat.le_of_ble_eq_true rfl⟩ (Nat.le_of_ble_eq_true rfl) (by rw [hG.mc]; dsimp only [rmk]; omega) (by rw [hG.ms]; dsimp only [rmk]; omega) dL_law_222 ?_
    refine ⟨L2, _, congrArg (fun z => [Value.ref z]) hth2.symm, hRM3, ?_⟩
    show X g w3 _ _ 225 _ [.int (thr L2)]
    refine x_iload hG (pc := 225) dL_law_225 rfl ?_
    refine x_icmp_eq hG (pc := 227) 232 dL_law_227 (by decide) (fun _ => ?_) (fun z => absurd hthr z)
    refine x_iload hG (pc := 232) dL_law_232 rfl ?_
    refine x_if_ne hG (pc := 234) 256 dL_law_234 (by decide) (fun _ => ?_) (fun hz => ?_)
    · refine x_goto hG (pc := 256) 2017 dL_law_256 (by decide) ?_
      refine x_iinc hG (pc := 2017) (nI (j + 6)) dL_law_2017 rfl (Nat.le_of_ble_eq_true rfl) rfl (nI_6 j) (by dsimp only [List.set]) ?_
      refine x_goto hG (pc := 2020) 28 dL_law_2020 (by decide) ?_
      exact nx L1 L2 _ w3 _ _ _ _ _ hth hth2 ⟨hR1.frc hF3, hRM3, iv_Cur hI2 (Or.inr rfl), ⟨_, hq3⟩, _, hF3.dO hqd2⟩ (by dsimp only [rmk]; omega) (by dsimp only [rmk]; omega)
    · have h0 := nI_z hz hfin.2
      refine x_aload_n hG (pc := 237) 3 dL_law_237 rfl rfl ?_
      refine x_iconst hG (pc := 238) 0 dL_law_238 (by decide) ?_
      refine x_lald hG (pc := 239) hq3 vin1 dL_law_239 ?_
      refine x_iload hG (pc := 240) dL_law_240 rfl ?_
      refine x_if_eq hG (pc := 242) 249 dL_law_242 (by decide) (fun hb3 => ?_) (fun hb3 => ?_)
      · refine x_lconst hG (pc := 249) 0 dL_law_249 (by decide) ?_
        refine x_lcmp hG (pc := 250) dL_law_250 ?_
        refine x_if_eq hG (pc := 251) 256 dL_law_251 (by decide) (fun _ => ?_) (fun z => absurd (lgA ((hv2 h0).trans (if_pos hb3))) z)
        refine x_goto hG (pc := 256) 2017 dL_law_256 (by decide) ?_
        refine x_iinc hG (pc := 2017) (nI (j + 6)) dL_law_2017 rfl (Nat.le_of_ble_eq_true rfl) rfl (nI_6 j) (by dsimp only [List.set]) ?_
        refine x_goto hG (pc := 2020) 28 dL_law_2020 (by decide) ?_
        exact nx L1 L2 _ w3 _ _ _ _ _ hth hth2 ⟨hR1.frc hF3, hRM3, iv_Cur hI2 (Or.inr rfl), ⟨_, hq3⟩, _, hF3.dO hqd2⟩ (by dsimp only [rmk]; omega) (by dsimp only [rmk]; omega)
      · refine x_lconst hG (pc := 245) 1 dL_law_245 (by decide) ?_
        refine x_goto hG (pc := 246) 250 dL_law_246 (by decide) ?_
        refine x_lcmp hG (pc := 250) dL_law_250 ?_
        refine x_if_eq hG (pc := 251) 256 dL_law_251 (by decide) (fun _ => ?_) (fun z => absurd (lgA ((hv2 h0).trans (if_neg hb3))) z)
        refine x_goto hG (pc := 256) 2017 dL_law_256 (by decide) ?_
        refine x_iinc hG (pc := 2017) (nI (j + 6)) dL_law_2017 rfl (Nat.le_of_ble_eq_true rfl) rfl (nI_6 j) (by dsimp only [List.set]) ?_
        refine x_goto hG (pc := 2020) 28 dL_law_2020 (by decide) ?_
        exact nx L1 L2 _ w3 _ _ _ _ _ hth hth2 ⟨hR1.frc hF3, hRM3, iv_Cur hI2 (Or.inr rfl), ⟨_, hq3⟩, _, hF3.dO hqd2⟩ (by dsimp only [rmk]; omega) (by dsimp only [rmk]; omega)
set_option maxHeartbeats 1000000 in
set_option maxRecDepth 100000 in
theorem law_1 : Lcs 259 := by
  intro nm g b L xs qo qd j N Lc Lm S w kc ks z6 z7 z8 hG hO hX hj hL hN nx hI hkc hks
  obtain ⟨hRC, hRM, hI2, ⟨fo, hqo⟩, fd, hqd⟩ := hI
  have hdd := hI2.1.2.2.2.2.2.1
  obtain ⟨A1, hA1⟩ : ∃ y, xs (nI j + 1).toNatClampNeg = y := ⟨_, rfl⟩
  obtain ⟨A2, hA2⟩ : ∃ y, xs (nI j + 2).toNatClampNeg = y := ⟨_, rfl⟩
  obtain ⟨A3, hA3⟩ : ∃ y, xs (nI j + 3).toNatClampNeg = y := ⟨_, rfl⟩
  obtain ⟨A4, hA4⟩ : ∃ y, xs (nI j + 4).toNatClampNeg = y := ⟨_, rfl⟩
  obtain ⟨A5, hA5⟩ : ∃ y, xs (nI j + 5).toNatClampNeg = y := ⟨_, rfl⟩
  refine x_aload_n hG (pc := 259) 1 dL_law_259 rfl rfl ?_
  refine x_aload_n hG (pc := 260) 0 dL_law_260 rfl rfl ?_
  refine x_iload hG (pc := 261) dL_law_261 rfl ?_
  refine x_iconst hG (pc := 263) 1 dL_law_263 (by decide) ?_
  refine x_iadd hG (pc := 264) dL_law_264 ?_
  refine x_sld hG (pc := 265) hX (sc_in 1 rfl (by omega) hL) hA1 dL_law_265 ?_
  refine x_aload_n hG (pc := 266) 0 dL_law_266 rfl rfl ?_
  refine x_iload hG (pc := 267) dL_law_267 rfl ?_
  refine x_iconst hG (pc := 269) 2 dL_law_269 (by decide) ?_
  refine x_iadd hG (pc := 270) dL_law_270 ?_
  refine x_sld hG (pc := 271) hX (sc_in 2 rfl (by omega) hL) hA2 dL_law_271 ?_
  refine x_aload_n hG (pc := 272) 3 dL_law_272 rfl rfl ?_
  refine x_callSHN hG hO (pc := 273) [_, _, _, _] c_L_sign lk_L_116 rfl rfl ⟨Nat.le_of_ble_eq_true rfl, Nat.le_of_ble_eq_true rfl⟩ (Nat.le_of_ble_eq_true rfl) (by rw [hG.mc]; dsimp only [rmk]; omega) (by rw [hG.ms]; dsimp only [rmk]; omega) dL_law_273 ?_
  refine ⟨Lc, S, qo, fo, A1, A2, rfl, hqo, hRC, hI2.1, fun L1 w2 f1 hth hR1 hF2 hq2 hv2 => ?_⟩
  have hRM2 := hRM.frq hF2 (Nat.le_of_ble_eq_true rfl)
  have hqd2 := hF2.dO hqd
  have hfin := fin_Sig (S := S) (i := A1) (v := A2)
  have hdy := congrArg Int32.toInt (day_Sig (S := S) (i := A1) (v := A2))
  show X g w2 _ _ 276 _ [.int (nI (oSig S A1 A2).1)]
  refine x_istore hG (pc := 276) dL_law_276 (Nat.le_of_ble_eq_true rfl) rfl (by dsimp only [List.set]) ?_
  refine x_aload_n hG (pc := 278) 2 dL_law_278 rfl rfl ?_
  refine x_aload_n hG (pc := 279) 0 dL_law_279 rfl rfl ?_
  refine x_iload hG (pc := 280) dL_law_280 rfl ?_
  refine x_iconst hG (pc := 282) 1 dL_law_282 (by decide) ?_
  refine x_iadd hG (pc := 283) dL_law_283 ?_
  refine x_sld hG (pc := 284) hX (sc_in 1 rfl (by omega) hL) hA1 dL_law_284 ?_
  refine x_aload_n hG (pc := 285) 0 dL_law_285 rfl rfl ?_
  refine x_iload hG (pc := 286) dL_law_286 rfl ?_
  refine x_iconst hG (pc := 288) 2 dL_law_288 (by decide) ?_
  refine x_iadd hG (pc := 289) dL_law_289 ?_
  refine x_sld hG (pc := 290) hX (sc_in 2 rfl (by omega) hL) hA2 dL_law_290 ?_
  refine x_callVN hG hO (pc := 291) [_, _] c_X7_sign lk_L_119 hRM2.main rfl rfl ⟨Nat.le_of_ble_eq_true rfl, Nat.le_of_ble_eq_true rfl⟩ (Nat.le_of_ble_eq_true rfl) (by rw [hG.mc]; dsimp only [rmk]; omega) (by rw [hG.ms]; dsimp only [rmk]; omega) dL_law_291 ?_
  refine ⟨Lm, S, A1, A2, rfl, hRM2, hI2, fun L2 w3 hth2 hthr hRM3 hF3 => ?_⟩
  show X g w3 _ _ 294 _ [.int (oSig S A1 A2).2.1]
  have hm3 := hRM3.main
  rw [show L2.1 (50, 0, 0) = Lm.1 (50, 0, 0) from hth2] at hm3
  have hq3 := hF3.lo hq2
  refine x_istore hG (pc := 294) dL_law_294 (Nat.le_of_ble_eq_true rfl) rfl (by dsimp only [List.set]) ?_
  refine x_aload_n hG (pc := 296) 2 dL_law_296 rfl rfl ?_
  refine x_callVN hG hO (pc := 297) [] c_X7_thrown lk_L_112 hm3 rfl rfl ⟨Nat.le_of_ble_eq_true rfl, Nat.le_of_ble_eq_true rfl⟩ (Nat.le_of_ble_eq_true rfl) (by rw [hG.mc]; dsimp only [rmk]; omega) (by rw [hG.ms]; dsimp only [rmk]; omega) dL_law_297 ?_
  refine ⟨L2, _, congrArg (fun z => [Value.ref z]) hth2.symm, hRM3, ?_⟩
  show X g w3 _ _ 300 _ [.int (thr L2)]
  refine x_iload hG (pc := 300) dL_law_300 rfl ?_
  refine x_icmp_eq hG (pc := 302) 307 dL_law_302 (by decide) (fun _ => ?_) (fun z => absurd hthr z)
  refine x_iload hG (pc := 307) dL_law_307 rfl ?_
  refine x_if_ne hG (pc := 309) 324 dL_law_309 (by decide) (fun _ => ?_) (fun hz => ?_)
  · refine x_goto hG (pc := 324) 2017 dL_law_324 (by decide) ?_
    refine x_iinc hG (pc := 2017) (nI (j + 6)) dL_law_2017 rfl (Nat.le_of_ble_eq_true rfl) rfl (nI_6 j) (by dsimp only [List.set]) ?_
    refine x_goto hG (pc := 2020) 28 dL_law_2020 (by decide) ?_
    exact nx L1 L2 _ w3 _ _ _ _ _ hth hth2 ⟨hR1.frc hF3, hRM3, iv_Sig hI2, ⟨_, hq3⟩, _, hF3.dO hqd2⟩ (by dsimp only [rmk]; omega) (by dsimp only [rmk]; omega)
  · have h0 := nI_z hz hfin.2
    refine x_aload_n hG (pc := 312) 3 dL_law_312 rfl rfl ?_
    refine x_iconst hG (pc := 313) 0 dL_law_313 (by decide) ?_
    refine x_lald hG (pc := 314) hq3 vin1 dL_law_314 ?_
    refine x_iload hG (pc := 315) dL_law_315 rfl ?_
    refine x_i2l hG (pc := 317) dL_law_317 ?_
    refine x_lcmp hG (pc := 318) dL_law_318 ?_
    refine x_if_eq hG (pc := 319) 324 dL_law_319 (by decide) (fun _ => ?_) (fun z => absurd (lgA (hv2 h0)) z)
    refine x_goto hG (pc := 324) 2017 dL_law_324 (by decide) ?_
    refine x_iinc hG (pc := 2017) (nI (j + 6)) dL_law_2017 rfl (Nat.le_of_ble_eq_true rfl) rfl (nI_6 j) (by dsimp only [List.set]) ?_
    refine x_goto hG (pc := 2020) 28 dL_law_2020 (by decide) ?_
    exact nx L1 L2 _ w3 _ _ _ _ _ hth hth2 ⟨hR1.frc hF3, hRM3, iv_Sig hI2, ⟨_, hq3⟩, _, hF3.dO hqd2⟩ (by dsimp only [rmk]; omega) (by dsimp only [rmk]; omega)
set_option maxHeartbeats 1000000 in
set_option maxRecDepth 100000 in
theorem law_2 : Lcs 327 := by
  intro nm g b L xs qo qd j N Lc Lm S w kc ks z6 z7 z8 hG hO hX hj hL hN nx hI hkc hks
  obtain ⟨hRC, hRM, hI2, ⟨fo, hqo⟩, fd, hqd⟩ := hI
  have hdd := hI2.1.2.2.2.2.2.1
  obtain ⟨A1, hA1⟩ : ∃ y, xs (nI j + 1).toNatClampNeg = y := ⟨_, rfl⟩
  obtain ⟨A2, hA2⟩ : ∃ y, xs (nI j + 2).toNatClampNeg = y := ⟨_, rfl⟩
  obtain ⟨A3, hA3⟩ : ∃ y, xs (nI j + 3).toNatClampNeg = y := ⟨_, rfl⟩
  obtain ⟨A4, hA4⟩ : ∃ y, xs (nI j + 4).toNatClampNeg = y := ⟨_, rfl⟩
  obtain ⟨A5, hA5⟩ : ∃ y, xs (nI j + 5).toNatClampNeg = y := ⟨_, rfl⟩
  refine x_aload_n hG (pc := 327) 1 dL_law_327 rfl rfl ?_
  refine x_aload_n hG (pc := 328) 0 dL_law_328 rfl rfl ?_
  refine x_iload hG (pc := 329) dL_law_329 rfl ?_
  refine x_iconst hG (pc := 331) 1 dL_law_331 (by decide) ?_
  refine x_iadd hG (pc := 332) dL_law_332 ?_
  refine x_sld hG (pc := 333) hX (sc_in 1 rfl (by omega) hL) hA1 dL_law_333 ?_
  refine x_aload_n hG (pc := 334) 0 dL_law_334 rfl rfl ?_
  refine x_iload hG (pc := 335) dL_law_335 rfl ?_
  refine x_iconst hG (pc := 337) 2 dL_law_337 (by decide) ?_
  refine x_iadd hG (pc := 338) dL_law_338 ?_
  refine x_sld hG (pc := 339) hX (sc_in 2 rfl (by omega) hL) hA2 dL_law_339 ?_
  refine x_aload_n hG (pc := 340) 0 dL_law_340 rfl rfl ?_
  refine x_iload hG (pc := 341) dL_law_341 rfl ?_
  refine x_iconst hG (pc := 343) 3 dL_law_343 (by decide) ?_
  refine x_iadd hG (pc := 344) dL_law_344 ?_
  refine x_sld hG (pc := 345) hX (sc_in 3 rfl (by omega) hL) hA3 dL_law_345 ?_
  refine x_aload_n hG (pc := 346) 3 dL_law_346 rfl rfl ?_
  refine x_callSHN hG hO (pc := 347) [_, _, _, _, _] c_L_pass lk_L_120 rfl rfl ⟨Nat.le_of_ble_eq_true rfl, Nat.le_of_ble_eq_true rfl⟩ (Nat.le_of_ble_eq_true rfl) (by rw [hG.mc]; dsimp only [rmk]; omega) (by rw [hG.ms]; dsimp only [rmk]; omega) dL_law_347 ?_
  refine ⟨Lc, S, qo, fo, A1, A2, A3, rfl, hqo, hRC, hI2.1, fun L1 w2 f1 hth hR1 hF2 hq2 hv2 => ?_⟩
  have hRM2 := hRM.frq hF2 (Nat.le_of_ble_eq_true rfl)
  have hqd2 := hF2.dO hqd
  have hfin := fin_Pas (S := S) (t := A1) (h := A2) (d := A3)
  obtain ⟨DD, hD60, hDn, hdy⟩ := pas_D (t := A1) (h := A2) (d := A3) hI2
  show X g w2 _ _ 350 _ [.int (nI (oPas S A1 A2 A3).1)]
  refine x_istore hG (pc := 350) dL_law_350 (Nat.le_of_ble_eq_true rfl) rfl (by dsimp only [List.set]) ?_
  refine x_aload_n hG (pc := 352) 2 dL_law_352 rfl rfl ?_
  refine x_aload_n hG (pc := 353) 0 dL_law_353 rfl rfl ?_
  refine x_iload hG (pc := 354) dL_law_354 rfl ?_
  refine x_iconst hG (pc := 356) 1 dL_law_356 (by decide) ?_
  refine x_iadd hG (pc := 357) dL_law_357 ?_
  refine x_sld hG (pc := 358) hX (sc_in 1 rfl (by omega) hL) hA1 dL_law_358 ?_
  refine x_aload_n hG (pc := 359) 0 dL_law_359 rfl rfl ?_
  refine x_iload hG (pc := 360) dL_law_360 rfl ?_
  refine x_iconst hG (pc := 362) 2 dL_law_362 (by decide) ?_
  refine x_iadd hG (pc := 363) dL_law_363 ?_
  refine x_sld hG (pc := 364) hX (sc_in 2 rfl (by omega) hL) hA2 dL_law_364 ?_
  refine x_aload_n hG (pc := 365) 0 dL_law_365 rfl rfl ?_
  refine x_iload hG (pc := 366) dL_law_366 rfl ?_
  refine x_iconst hG (pc := 368) 3 dL_law_368 (by decide) ?_
  refine x_iadd hG (pc := 369) dL_law_369 ?_
  refine x_sld hG (pc := 370) hX (sc_in 3 rfl (by omega) hL) hA3 dL_law_370 ?_
  refine x_callVN hG hO (pc := 371) [_, _, _] (c_X7_pass_ DD) lk_L_123 hRM2.main rfl rfl ⟨Nat.le_of_ble_eq_true rfl, Nat.le_of_ble_eq_true rfl⟩ (Nat.le_of_ble_eq_true rfl) (by rw [hG.mc]; dsimp only [rmk]; omega) (by rw [hG.ms]; dsimp only [rmk]; omega) dL_law_371 ?_
  refine ⟨Lm, S, A1, A2, A3, rfl, hRM2, hI2, hDn, fun L2 w3 hth2 hthr hRM3 hF3 => ?_⟩
  show X g w3 _ _ 374 _ [.int (oPas S A1 A2 A3).2.1]
  have hm3 := hRM3.main
  rw [show L2.1 (50, 0, 0) = Lm.1 (50, 0, 0) from hth2] at hm3
  have hq3 := hF3.lo hq2
  refine x_istore hG (pc := 374) dL_law_374 (Nat.le_of_ble_eq_true rfl) rfl (by dsimp only [List.set]) ?_
  refine x_aload_n hG (pc := 376) 2 dL_law_376 rfl rfl ?_
  refine x_callVN hG hO (pc := 377) [] c_X7_thrown lk_L_112 hm3 rfl rfl ⟨Nat.le_of_ble_eq_true rfl, Nat.le_of_ble_eq_true rfl⟩ (Nat.le_of_ble_eq_true rfl) (by rw [hG.mc]; dsimp only [rmk]; omega) (by rw [hG.ms]; dsimp only [rmk]; omega) dL_law_377 ?_
  refine ⟨L2, _, congrArg (fun z => [Value.ref z]) hth2.symm, hRM3, ?_⟩
  show X g w3 _ _ 380 _ [.int (thr L2)]
  refine x_iload hG (pc := 380) dL_law_380 rfl ?_
  refine x_icmp_eq hG (pc := 382) 387 dL_law_382 (by decide) (fun _ => ?_) (fun z => absurd hthr z)
  refine x_iload hG (pc := 387) dL_law_387 rfl ?_
  refine x_if_ne hG (pc := 389) 404 dL_law_389 (by decide) (fun _ => ?_) (fun hz => ?_)
  · refine x_goto hG (pc := 404) 2017 dL_law_404 (by decide) ?_
    refine x_iinc hG (pc := 2017) (nI (j + 6)) dL_law_2017 rfl (Nat.le_of_ble_eq_true rfl) rfl (nI_6 j) (by dsimp only [List.set]) ?_
    refine x_goto hG (pc := 2020) 28 dL_law_2020 (by decide) ?_
    exact nx L1 L2 _ w3 _ _ _ _ _ hth hth2 ⟨hR1.frc hF3, hRM3, iv_Pas hI2, ⟨_, hq3⟩, _, hF3.dO hqd2⟩ (by dsimp only [rmk]; omega) (by dsimp only [rmk]; omega)
  · have h0 := nI_z hz hfin.2
    refine x_aload_n hG (pc := 392) 3 dL_law_392 rfl rfl ?_
    refine x_iconst hG (pc := 393) 0 dL_law_393 (by decide) ?_
    refine x_lald hG (pc := 394) hq3 vin1 dL_law_394 ?_
    refine x_iload hG (pc := 395) dL_law_395 rfl ?_
    refine x_i2l hG (pc := 397) dL_law_397 ?_
    refine x_lcmp hG (pc := 398) dL_law_398 ?_
    refine x_if_eq hG (pc := 399) 404 dL_law_399 (by decide) (fun _ => ?_) (fun z => absurd (lgA (hv2 h0)) z)
    refine x_goto hG (pc := 404) 2017 dL_law_404 (by decide) ?_
    refine x_iinc hG (pc := 2017) (nI (j + 6)) dL_law_2017 rfl (Nat.le_of_ble_eq_true rfl) rfl (nI_6 j) (by dsimp only [List.set]) ?_
    refine x_goto hG (pc := 2020) 28 dL_law_2020 (by decide) ?_
    exact nx L1 L2 _ w3 _ _ _ _ _ hth hth2 ⟨hR1.frc hF3, hRM3, iv_Pas hI2, ⟨_, hq3⟩, _, hF3.dO hqd2⟩ (by dsimp only [rmk]; omega) (by dsimp only [rmk]; omega)
set_option maxHeartbeats 1000000 in
set_option maxRecDepth 100000 in
theorem law_3 : Lcs 407 := by
  intro nm g b L xs qo qd j N Lc Lm S w kc ks z6 z7 z8 hG hO hX hj hL hN nx hI hkc hks
  obtain ⟨hRC, hRM, hI2, ⟨fo, hqo⟩, fd, hqd⟩ := hI
  have hdd := hI2.1.2.2.2.2.2.1
  obtain ⟨A1, hA1⟩ : ∃ y, xs (nI j + 1).toNatClampNeg = y := ⟨_, rfl⟩
  obtain ⟨A2, hA2⟩ : ∃ y, xs (nI j + 2).toNatClampNeg = y := ⟨_, rfl⟩
  obtain ⟨A3, hA3⟩ : ∃ y, xs (nI j + 3).toNatClampNeg = y := ⟨_, rfl⟩
  obtain ⟨A4, hA4⟩ : ∃ y, xs (nI j + 4).toNatClampNeg = y := ⟨_, rfl⟩
  obtain ⟨A5, hA5⟩ : ∃ y, xs (nI j + 5).toNatClampNeg = y := ⟨_, rfl⟩
  refine x_aload_n hG (pc := 407) 1 dL_law_407 rfl rfl ?_
  refine x_aload_n hG (pc := 408) 0 dL_law_408 rfl rfl ?_
  refine x_iload hG (pc := 409) dL_law_409 rfl ?_
  refine x_iconst hG (pc := 411) 1 dL_law_411 (by decide) ?_
  refine x_iadd hG (pc := 412) dL_law_412 ?_
  refine x_sld hG (pc := 413) hX (sc_in 1 rfl (by omega) hL) hA1 dL_law_413 ?_
  refine x_aload_n hG (pc := 414) 0 dL_law_414 rfl rfl ?_
  refine x_iload hG (pc := 415) dL_law_415 rfl ?_
  refine x_iconst hG (pc := 417) 2 dL_law_417 (by decide) ?_
  refine x_iadd hG (pc := 418) dL_law_418 ?_
  refine x_sld hG (pc := 419) hX (sc_in 2 rfl (by omega) hL) hA2 dL_law_419 ?_
  refine x_aload_n hG (pc := 420) 0 dL_law_420 rfl rfl ?_
  refine x_iload hG (pc := 421) dL_law_421 rfl ?_
  refine x_iconst hG (pc := 423) 3 dL_law_423 (by decide) ?_
  refine x_iadd hG (pc := 424) dL_law_424 ?_
  refine x_sld hG (pc := 425) hX (sc_in 3 rfl (by omega) hL) hA3 dL_law_425 ?_
  refine x_aload_n hG (pc := 426) 0 dL_law_426 rfl rfl ?_
  refine x_iload hG (pc := 427) dL_law_427 rfl ?_
  refine x_iconst hG (pc := 429) 4 dL_law_429 (by decide) ?_
  refine x_iadd hG (pc := 430) dL_law_430 ?_
  refine x_sld hG (pc := 431) hX (sc_in 4 rfl (by omega) hL) hA4 dL_law_431 ?_
  refine x_aload_n hG (pc := 432) 3 dL_law_432 rfl rfl ?_
  refine x_callSHN hG hO (pc := 433) [_, _, _, _, _, _] c_L_measure lk_L_124 rfl rfl ⟨Nat.le_of_ble_eq_true rfl, Nat.le_of_ble_eq_true rfl⟩ (Nat.le_of_ble_eq_true rfl) (by rw [hG.mc]; dsimp only [rmk]; omega) (by rw [hG.ms]; dsimp only [rmk]; omega) dL_law_433 ?_
  refine ⟨Lc, S, qo, fo, A1, A2, A3, A4, rfl, hqo, hRC, hI2.1, fun L1 w2 f1 hth hR1 hF2 hq2 hv2 => ?_⟩
  have hRM2 := hRM.frq hF2 (Nat.le_of_ble_eq_true rfl)
  have hqd2 := hF2.dO hqd
  have hfin := fin_Mea (S := S) (t := A1) (f := A2) (o := A3) (d := A4)
  have hdy := congrArg Int32.toInt (day_Mea (S := S) (t := A1) (f := A2) (o := A3) (d := A4))
  show X g w2 _ _ 436 _ [.int (nI (oMea S A1 A2 A3 A4).1)]
  refine x_istore hG (pc := 436) dL_law_436 (Nat.le_of_ble_eq_true rfl) rfl (by dsimp only [List.set]) ?_
  refine x_aload_n hG (pc := 438) 2 dL_law_438 rfl rfl ?_
  refine x_aload_n hG (pc := 439) 0 dL_law_439 rfl rfl ?_
  refine x_iload hG (pc := 440) dL_law_440 rfl ?_
  refine x_iconst hG (pc := 442) 1 dL_law_442 (by decide) ?_
  refine x_iadd hG (pc := 443) dL_law_443 ?_
  refine x_sld hG (pc := 444) hX (sc_in 1 rfl (by omega) hL) hA1 dL_law_444 ?_
  refine x_aload_n hG (pc := 445) 0 dL_law_445 rfl rfl ?_
  refine x_iload hG (pc := 446) dL_law_446 rfl ?_
  refine x_iconst hG (pc := 448) 2 dL_law_448 (by decide) ?_
  refine x_iadd hG (pc := 449) dL_law_449 ?_
  refine x_sld hG (pc := 450) hX (sc_in 2 rfl (by omega) hL) hA2 dL_law_450 ?_
  refine x_aload_n hG (pc := 451) 0 dL_law_451 rfl rfl ?_
  refine x_iload hG (pc := 452) dL_law_452 rfl ?_
  refine x_iconst hG (pc := 454) 3 dL_law_454 (by decide) ?_
  refine x_iadd hG (pc := 455) dL_law_455 ?_
  refine x_sld hG (pc := 456) hX (sc_in 3 rfl (by omega) hL) hA3 dL_law_456 ?_
  refine x_aload_n hG (pc := 457) 0 dL_law_457 rfl rfl ?_
  refine x_iload hG (pc := 458) dL_law_458 rfl ?_
  refine x_iconst hG (pc := 460) 4 dL_law_460 (by decide) ?_
  refine x_iadd hG (pc := 461) dL_law_461 ?_
  refine x_sld hG (pc := 462) hX (sc_in 4 rfl (by omega) hL) hA4 dL_law_462 ?_
  refine x_callVN hG hO (pc := 463) [_, _, _, _] c_X7_measure lk_L_127 hRM2.main rfl rfl ⟨Nat.le_of_ble_eq_true rfl, Nat.le_of_ble_eq_true rfl⟩ (Nat.le_of_ble_eq_true rfl) (by rw [hG.mc]; dsimp only [rmk]; omega) (by rw [hG.ms]; dsimp only [rmk]; omega) dL_law_463 ?_
  refine ⟨Lm, S, A1, A2, A3, A4, rfl, hRM2, hI2, fun L2 w3 hth2 hthr hRM3 hF3 => ?_⟩
  show X g w3 _ _ 466 _ [.int (oMea S A1 A2 A3 A4).2.1]
  have hm3 := hRM3.main
  rw [show L2.1 (50, 0, 0) = Lm.1 (50, 0, 0) from hth2] at hm3
  have hq3 := hF3.lo hq2
  refine x_istore hG (pc := 466) dL_law_466 (Nat.le_of_ble_eq_true rfl) rfl (by dsimp only [List.set]) ?_
  refine x_aload_n hG (pc := 468) 2 dL_law_468 rfl rfl ?_
  refine x_callVN hG hO (pc := 469) [] c_X7_thrown lk_L_112 hm3 rfl rfl ⟨Nat.le_of_ble_eq_true rfl, Nat.le_of_ble_eq_true rfl⟩ (Nat.le_of_ble_eq_true rfl) (by rw [hG.mc]; dsimp only [rmk]; omega) (by rw [hG.ms]; dsimp only [rmk]; omega) dL_law_469 ?_
  refine ⟨L2, _, congrArg (fun z => [Value.ref z]) hth2.symm, hRM3, ?_⟩
  show X g w3 _ _ 472 _ [.int (thr L2)]
  refine x_iload hG (pc := 472) dL_law_472 rfl ?_
  refine x_icmp_eq hG (pc := 474) 479 dL_law_474 (by decide) (fun _ => ?_) (fun z => absurd hthr z)
  refine x_iload hG (pc := 479) dL_law_479 rfl ?_
  refine x_if_ne hG (pc := 481) 496 dL_law_481 (by decide) (fun _ => ?_) (fun hz => ?_)
  · refine x_goto hG (pc := 496) 2017 dL_law_496 (by decide) ?_
    refine x_iinc hG (pc := 2017) (nI (j + 6)) dL_law_2017 rfl (Nat.le_of_ble_eq_true rfl) rfl (nI_6 j) (by dsimp only [List.set]) ?_
    refine x_goto hG (pc := 2020) 28 dL_law_2020 (by decide) ?_
    exact nx L1 L2 _ w3 _ _ _ _ _ hth hth2 ⟨hR1.frc hF3, hRM3, iv_Mea hI2, ⟨_, hq3⟩, _, hF3.dO hqd2⟩ (by dsimp only [rmk]; omega) (by dsimp only [rmk]; omega)
  · have h0 := nI_z hz hfin.2
    refine x_aload_n hG (pc := 484) 3 dL_law_484 rfl rfl ?_
    refine x_iconst hG (pc := 485) 0 dL_law_485 (by decide) ?_
    refine x_lald hG (pc := 486) hq3 vin1 dL_law_486 ?_
    refine x_iload hG (pc := 487) dL_law_487 rfl ?_
    refine x_i2l hG (pc := 489) dL_law_489 ?_
    refine x_lcmp hG (pc := 490) dL_law_490 ?_
    refine x_if_eq hG (pc := 491) 496 dL_law_491 (by decide) (fun _ => ?_) (fun z => absurd (lgA (hv2 h0)) z)
    refine x_goto hG (pc := 496) 2017 dL_law_496 (by decide) ?_
    refine x_iinc hG (pc := 2017) (nI (j + 6)) dL_law_2017 rfl (Nat.le_of_ble_eq_true rfl) rfl (nI_6 j) (by dsimp only [List.set]) ?_
    refine x_goto hG (pc := 2020) 28 dL_law_2020 (by decide) ?_
    exact nx L1 L2 _ w3 _ _ _ _ _ hth hth2 ⟨hR1.frc hF3, hRM3, iv_Mea hI2, ⟨_, hq3⟩, _, hF3.dO hqd2⟩ (by dsimp only [rmk]; omega) (by dsimp only [rmk]; omega)
set_option maxHeartbeats 1000000 in
set_option maxRecDepth 100000 in
theorem law_4 : Lcs 499 := by
  intro nm g b L xs qo qd j N Lc Lm S w kc ks z6 z7 z8 hG hO hX hj hL hN nx hI hkc hks
  obtain ⟨hRC, hRM, hI2, ⟨fo, hqo⟩, fd, hqd⟩ := hI
  have hdd := hI2.1.2.2.2.2.2.1
  obtain ⟨A1, hA1⟩ : ∃ y, xs (nI j + 1).toNatClampNeg = y := ⟨_, rfl⟩
  obtain ⟨A2, hA2⟩ : ∃ y, xs (nI j + 2).toNatClampNeg = y := ⟨_, rfl⟩
  obtain ⟨A3, hA3⟩ : ∃ y, xs (nI j + 3).toNatClampNeg = y := ⟨_, rfl⟩
  obtain ⟨A4, hA4⟩ : ∃ y, xs (nI j + 4).toNatClampNeg = y := ⟨_, rfl⟩
  obtain ⟨A5, hA5⟩ : ∃ y, xs (nI j + 5).toNatClampNeg = y := ⟨_, rfl⟩
  refine x_aload_n hG (pc := 499) 1 dL_law_499 rfl rfl ?_
  refine x_aload_n hG (pc := 500) 0 dL_law_500 rfl rfl ?_
  refine x_iload hG (pc := 501) dL_law_501 rfl ?_
  refine x_iconst hG (pc := 503) 1 dL_law_503 (by decide) ?_
  refine x_iadd hG (pc := 504) dL_law_504 ?_
  refine x_sld hG (pc := 505) hX (sc_in 1 rfl (by omega) hL) hA1 dL_law_505 ?_
  refine x_aload_n hG (pc := 506) 3 dL_law_506 rfl rfl ?_
  refine x_callSHN hG hO (pc := 507) [_, _, _] c_L_align lk_L_128 rfl rfl ⟨Nat.le_of_ble_eq_true rfl, Nat.le_of_ble_eq_true rfl⟩ (Nat.le_of_ble_eq_true rfl) (by rw [hG.mc]; dsimp only [rmk]; omega) (by rw [hG.ms]; dsimp only [rmk]; omega) dL_law_507 ?_
  refine ⟨Lc, S, qo, fo, A1, rfl, hqo, hRC, hI2.1, fun L1 w2 f1 hth hR1 hF2 hq2 hv2 => ?_⟩
  have hRM2 := hRM.frq hF2 (Nat.le_of_ble_eq_true rfl)
  have hqd2 := hF2.dO hqd
  have hfin := fin_Ali (S := S) (m := A1)
  have hdy := congrArg Int32.toInt (day_Ali (S := S) (m := A1))
  show X g w2 _ _ 510 _ [.int (nI (oAli S A1).1)]
  refine x_istore hG (pc := 510) dL_law_510 (Nat.le_of_ble_eq_true rfl) rfl (by dsimp only [List.set]) ?_
  refine x_aload_n hG (pc := 512) 2 dL_law_512 rfl rfl ?_
  refine x_aload_n hG (pc := 513) 0 dL_law_513 rfl rfl ?_
  refine x_iload hG (pc := 514) dL_law_514 rfl ?_
  refine x_iconst hG (pc := 516) 1 dL_law_516 (by decide) ?_
  refine x_iadd hG (pc := 517) dL_law_517 ?_
  refine x_sld hG (pc := 518) hX (sc_in 1 rfl (by omega) hL) hA1 dL_law_518 ?_
  refine x_callVN hG hO (pc := 519) [_] c_X7_align lk_L_131 hRM2.main rfl rfl ⟨Nat.le_of_ble_eq_true rfl, Nat.le_of_ble_eq_true rfl⟩ (Nat.le_of_ble_eq_true rfl) (by rw [hG.mc]; dsimp only [rmk]; omega) (by rw [hG.ms]; dsimp only [rmk]; omega) dL_law_519 ?_
  refine ⟨Lm, S, A1, rfl, hRM2, hI2, fun L2 w3 hth2 hthr hRM3 hF3 => ?_⟩
  show X g w3 _ _ 522 _ [.int (oAli S A1).2.1]
  have hm3 := hRM3.main
  rw [show L2.1 (50, 0, 0) = Lm.1 (50, 0, 0) from hth2] at hm3
  have hq3 := hF3.lo hq2
  refine x_istore hG (pc := 522) dL_law_522 (Nat.le_of_ble_eq_true rfl) rfl (by dsimp only [List.set]) ?_
  refine x_aload_n hG (pc := 524) 2 dL_law_524 rfl rfl ?_
  refine x_callVN hG hO (pc := 525) [] c_X7_thrown lk_L_112 hm3 rfl rfl ⟨Nat.le_of_ble_eq_true rfl, Nat.le_of_ble_eq_true rfl⟩ (Nat.le_of_ble_eq_true rfl) (by rw [hG.mc]; dsimp only [rmk]; omega) (by rw [hG.ms]; dsimp only [rmk]; omega) dL_law_525 ?_
  refine ⟨L2, _, congrArg (fun z => [Value.ref z]) hth2.symm, hRM3, ?_⟩
  show X g w3 _ _ 528 _ [.int (thr L2)]
  refine x_iload hG (pc := 528) dL_law_528 rfl ?_
  refine x_icmp_eq hG (pc := 530) 535 dL_law_530 (by decide) (fun _ => ?_) (fun z => absurd hthr z)
  refine x_iload hG (pc := 535) dL_law_535 rfl ?_
  refine x_if_ne hG (pc := 537) 552 dL_law_537 (by decide) (fun _ => ?_) (fun hz => ?_)
  · refine x_goto hG (pc := 552) 2017 dL_law_552 (by decide) ?_
    refine x_iinc hG (pc := 2017) (nI (j + 6)) dL_law_2017 rfl (Nat.le_of_ble_eq_true rfl) rfl (nI_6 j) (by dsimp only [List.set]) ?_
    refine x_goto hG (pc := 2020) 28 dL_law_2020 (by decide) ?_
    exact nx L1 L2 _ w3 _ _ _ _ _ hth hth2 ⟨hR1.frc hF3, hRM3, iv_Ali hI2, ⟨_, hq3⟩, _, hF3.dO hqd2⟩ (by dsimp only [rmk]; omega) (by dsimp only [rmk]; omega)
  · have h0 := nI_z hz hfin.2
    refine x_aload_n hG (pc := 540) 3 dL_law_540 rfl rfl ?_
    refine x_iconst hG (pc := 541) 0 dL_law_541 (by decide) ?_
    refine x_lald hG (pc := 542) hq3 vin1 dL_law_542 ?_
    refine x_iload hG (pc := 543) dL_law_543 rfl ?_
    refine x_i2l hG (pc := 545) dL_law_545 ?_
    refine x_lcmp hG (pc := 546) dL_law_546 ?_
    refine x_if_eq hG (pc := 547) 552 dL_law_547 (by decide) (fun _ => ?_) (fun z => absurd (lgA (hv2 h0)) z)
    refine x_goto hG (pc := 552) 2017 dL_law_552 (by decide) ?_
    refine x_iinc hG (pc := 2017) (nI (j + 6)) dL_law_2017 rfl (Nat.le_of_ble_eq_true rfl) rfl (nI_6 j) (by dsimp only [List.set]) ?_
    refine x_goto hG (pc := 2020) 28 dL_law_2020 (by decide) ?_
    exact nx L1 L2 _ w3 _ _ _ _ _ hth hth2 ⟨hR1.frc hF3, hRM3, iv_Ali hI2, ⟨_, hq3⟩, _, hF3.dO hqd2⟩ (by dsimp only [rmk]; omega) (by dsimp only [rmk]; omega)
set_option maxHeartbeats 1000000 in
set_option maxRecDepth 100000 in
theorem law_5 : Lcs 555 := by
  intro nm g b L xs qo qd j N Lc Lm S w kc ks z6 z7 z8 hG hO hX hj hL hN nx hI hkc hks
  obtain ⟨hRC, hRM, hI2, ⟨fo, hqo⟩, fd, hqd⟩ := hI
  have hdd := hI2.1.2.2.2.2.2.1
  obtain ⟨A1, hA1⟩ : ∃ y, xs (nI j + 1).toNatClampNeg = y := ⟨_, rfl⟩
  obtain ⟨A2, hA2⟩ : ∃ y, xs (nI j + 2).toNatClampNeg = y := ⟨_, rfl⟩
  obtain ⟨A3, hA3⟩ : ∃ y, xs (nI j + 3).toNatClampNeg = y := ⟨_, rfl⟩
  obtain ⟨A4, hA4⟩ : ∃ y, xs (nI j + 4).toNatClampNeg = y := ⟨_, rfl⟩
  obtain ⟨A5, hA5⟩ : ∃ y, xs (nI j + 5).toNatClampNeg = y := ⟨_, rfl⟩
  refine x_aload_n hG (pc := 555) 1 dL_law_555 rfl rfl ?_
  refine x_aload_n hG (pc := 556) 0 dL_law_556 rfl rfl ?_
  refine x_iload hG (pc := 557) dL_law_557 rfl ?_
  refine x_iconst hG (pc := 559) 1 dL_law_559 (by decide) ?_
  refine x_iadd hG (pc := 560) dL_law_560 ?_
  refine x_sld hG (pc := 561) hX (sc_in 1 rfl (by omega) hL) hA1 dL_law_561 ?_
  refine x_aload_n hG (pc := 562) 0 dL_law_562 rfl rfl ?_
  refine x_iload hG (pc := 563) dL_law_563 rfl ?_
  refine x_iconst hG (pc := 565) 2 dL_law_565 (by decide) ?_
  refine x_iadd hG (pc := 566) dL_law_566 ?_
  refine x_sld hG (pc := 567) hX (sc_in 2 rfl (by omega) hL) hA2 dL_law_567 ?_
  refine x_aload_n hG (pc := 568) 3 dL_law_568 rfl rfl ?_
  refine x_callSHN hG hO (pc := 569) [_, _, _, _] c_L_machine lk_L_132 rfl rfl ⟨Nat.le_of_ble_eq_true rfl, Nat.le_of_ble_eq_true rfl⟩ (Nat.le_of_ble_eq_true rfl) (by rw [hG.mc]; dsimp only [rmk]; omega) (by rw [hG.ms]; dsimp only [rmk]; omega) dL_law_569 ?_
  refine ⟨Lc, S, qo, fo, A1, A2, rfl, hqo, hRC, hI2.1, fun L1 w2 f1 hth hR1 hF2 hq2 hv2 => ?_⟩
  have hRM2 := hRM.frq hF2 (Nat.le_of_ble_eq_true rfl)
  have hqd2 := hF2.dO hqd
  have hfin := fin_Mac (S := S) (kd := A1) (lf := A2)
  have hdy := congrArg Int32.toInt (day_Mac (S := S) (kd := A1) (lf := A2))
  show X g w2 _ _ 572 _ [.int (nI (oMac S A1 A2).1)]
  refine x_istore hG (pc := 572) dL_law_572 (Nat.le_of_ble_eq_true rfl) rfl (by dsimp only [List.set]) ?_
  refine x_aload_n hG (pc := 574) 2 dL_law_574 rfl rfl ?_
  refine x_aload_n hG (pc := 575) 0 dL_law_575 rfl rfl ?_
  refine x_iload hG (pc := 576) dL_law_576 rfl ?_
  refine x_iconst hG (pc := 578) 1 dL_law_578 (by decide) ?_
  refine x_iadd hG (pc := 579) dL_law_579 ?_
  refine x_sld hG (pc := 580) hX (sc_in 1 rfl (by omega) hL) hA1 dL_law_580 ?_
  refine x_aload_n hG (pc := 581) 0 dL_law_581 rfl rfl ?_
  refine x_iload hG (pc := 582) dL_law_582 rfl ?_
  refine x_iconst hG (pc := 584) 2 dL_law_584 (by decide) ?_
  refine x_iadd hG (pc := 585) dL_law_585 ?_
  refine x_sld hG (pc := 586) hX (sc_in 2 rfl (by omega) hL) hA2 dL_law_586 ?_
  refine x_callVN hG hO (pc := 587) [_, _] c_X7_machine lk_L_134 hRM2.main rfl rfl ⟨Nat.le_of_ble_eq_true rfl, Nat.le_of_ble_eq_true rfl⟩ (Nat.le_of_ble_eq_true rfl) (by rw [hG.mc]; dsimp only [rmk]; omega) (by rw [hG.ms]; dsimp only [rmk]; omega) dL_law_587 ?_
  refine ⟨Lm, S, A1, A2, rfl, hRM2, hI2, fun L2 w3 hth2 hthr hRM3 hF3 => ?_⟩
  show X g w3 _ _ 590 _ [.int (oMac S A1 A2).2.1]
  have hm3 := hRM3.main
  rw [show L2.1 (50, 0, 0) = Lm.1 (50, 0, 0) from hth2] at hm3
  have hq3 := hF3.lo hq2
  refine x_istore hG (pc := 590) dL_law_590 (Nat.le_of_ble_eq_true rfl) rfl (by dsimp only [List.set]) ?_
  refine x_aload_n hG (pc := 592) 2 dL_law_592 rfl rfl ?_
  refine x_callVN hG hO (pc := 593) [] c_X7_thrown lk_L_112 hm3 rfl rfl ⟨Nat.le_of_ble_eq_true rfl, Nat.le_of_ble_eq_true rfl⟩ (Nat.le_of_ble_eq_true rfl) (by rw [hG.mc]; dsimp only [rmk]; omega) (by rw [hG.ms]; dsimp only [rmk]; omega) dL_law_593 ?_
  refine ⟨L2, _, congrArg (fun z => [Value.ref z]) hth2.symm, hRM3, ?_⟩
  show X g w3 _ _ 596 _ [.int (thr L2)]
  refine x_iload hG (pc := 596) dL_law_596 rfl ?_
  refine x_icmp_eq hG (pc := 598) 603 dL_law_598 (by decide) (fun _ => ?_) (fun z => absurd hthr z)
  refine x_iload hG (pc := 603) dL_law_603 rfl ?_
  refine x_if_ne hG (pc := 605) 620 dL_law_605 (by decide) (fun _ => ?_) (fun hz => ?_)
  · refine x_goto hG (pc := 620) 2017 dL_law_620 (by decide) ?_
    refine x_iinc hG (pc := 2017) (nI (j + 6)) dL_law_2017 rfl (Nat.le_of_ble_eq_true rfl) rfl (nI_6 j) (by dsimp only [List.set]) ?_
    refine x_goto hG (pc := 2020) 28 dL_law_2020 (by decide) ?_
    exact nx L1 L2 _ w3 _ _ _ _ _ hth hth2 ⟨hR1.frc hF3, hRM3, iv_Mac hI2, ⟨_, hq3⟩, _, hF3.dO hqd2⟩ (by dsimp only [rmk]; omega) (by dsimp only [rmk]; omega)
  · have h0 := nI_z hz hfin.2
    refine x_aload_n hG (pc := 608) 3 dL_law_608 rfl rfl ?_
    refine x_iconst hG (pc := 609) 0 dL_law_609 (by decide) ?_
    refine x_lald hG (pc := 610) hq3 vin1 dL_law_610 ?_
    refine x_iload hG (pc := 611) dL_law_611 rfl ?_
    refine x_i2l hG (pc := 613) dL_law_613 ?_
    refine x_lcmp hG (pc := 614) dL_law_614 ?_
    refine x_if_eq hG (pc := 615) 620 dL_law_615 (by decide) (fun _ => ?_) (fun z => absurd (lgA (hv2 h0)) z)
    refine x_goto hG (pc := 620) 2017 dL_law_620 (by decide) ?_
    refine x_iinc hG (pc := 2017) (nI (j + 6)) dL_law_2017 rfl (Nat.le_of_ble_eq_true rfl) rfl (nI_6 j) (by dsimp only [List.set]) ?_
    refine x_goto hG (pc := 2020) 28 dL_law_2020 (by decide) ?_
    exact nx L1 L2 _ w3 _ _ _ _ _ hth hth2 ⟨hR1.frc hF3, hRM3, iv_Mac hI2, ⟨_, hq3⟩, _, hF3.dO hqd2⟩ (by dsimp only [rmk]; omega) (by dsimp only [rmk]; omega)
set_option maxHeartbeats 1000000 in
set_option maxRecDepth 100000 in
theorem law_6 : Lcs 623 := by
  intro nm g b L xs qo qd j N Lc Lm S w kc ks z6 z7 z8 hG hO hX hj hL hN nx hI hkc hks
  obtain ⟨hRC, hRM, hI2, ⟨fo, hqo⟩, fd, hqd⟩ := hI
  have hdd := hI2.1.2.2.2.2.2.1
  obtain ⟨A1, hA1⟩ : ∃ y, xs (nI j + 1).toNatClampNeg = y := ⟨_, rfl⟩
  obtain ⟨A2, hA2⟩ : ∃ y, xs (nI j + 2).toNatClampNeg = y := ⟨_, rfl⟩
  obtain ⟨A3, hA3⟩ : ∃ y, xs (nI j + 3).toNatClampNeg = y := ⟨_, rfl⟩
  obtain ⟨A4, hA4⟩ : ∃ y, xs (nI j + 4).toNatClampNeg = y := ⟨_, rfl⟩
  obtain ⟨A5, hA5⟩ : ∃ y, xs (nI j + 5).toNatClampNeg = y := ⟨_, rfl⟩
  refine x_aload_n hG (pc := 623) 1 dL_law_623 rfl rfl ?_
  refine x_aload_n hG (pc := 624) 0 dL_law_624 rfl rfl ?_
  refine x_iload hG (pc := 625) dL_law_625 rfl ?_
  refine x_iconst hG (pc := 627) 1 dL_law_627 (by decide) ?_
  refine x_iadd hG (pc := 628) dL_law_628 ?_
  refine x_sld hG (pc := 629) hX (sc_in 1 rfl (by omega) hL) hA1 dL_law_629 ?_
  refine x_aload_n hG (pc := 630) 3 dL_law_630 rfl rfl ?_
  refine x_callSHN hG hO (pc := 631) [_, _, _] c_L_service lk_L_135 rfl rfl ⟨Nat.le_of_ble_eq_true rfl, Nat.le_of_ble_eq_true rfl⟩ (Nat.le_of_ble_eq_true rfl) (by rw [hG.mc]; dsimp only [rmk]; omega) (by rw [hG.ms]; dsimp only [rmk]; omega) dL_law_631 ?_
  refine ⟨Lc, S, qo, fo, A1, rfl, hqo, hRC, hI2.1, fun L1 w2 f1 hth hR1 hF2 hq2 hv2 => ?_⟩
  have hRM2 := hRM.frq hF2 (Nat.le_of_ble_eq_true rfl)
  have hqd2 := hF2.dO hqd
  have hfin := fin_Ser (S := S) (m := A1)
  have hdy := congrArg Int32.toInt (day_Ser (S := S) (m := A1))
  show X g w2 _ _ 634 _ [.int (nI (oSer S A1).1)]
  refine x_istore hG (pc := 634) dL_law_634 (Nat.le_of_ble_eq_true rfl) rfl (by dsimp only [List.set]) ?_
  refine x_aload_n hG (pc := 636) 2 dL_law_636 rfl rfl ?_
  refine x_aload_n hG (pc := 637) 0 dL_law_637 rfl rfl ?_
  refine x_iload hG (pc := 638) dL_law_638 rfl ?_
  refine x_iconst hG (pc := 640) 1 dL_law_640 (by decide) ?_
  refine x_iadd hG (pc := 641) dL_law_641 ?_
  refine x_sld hG (pc := 642) hX (sc_in 1 rfl (by omega) hL) hA1 dL_law_642 ?_
  refine x_callVN hG hO (pc := 643) [_] c_X7_service lk_L_137 hRM2.main rfl rfl ⟨Nat.le_of_ble_eq_true rfl, Nat.le_of_ble_eq_true rfl⟩ (Nat.le_of_ble_eq_true rfl) (by rw [hG.mc]; dsimp only [rmk]; omega) (by rw [hG.ms]; dsimp only [rmk]; omega) dL_law_643 ?_
  refine ⟨Lm, S, A1, rfl, hRM2, hI2, fun L2 w3 hth2 hthr hRM3 hF3 => ?_⟩
  show X g w3 _ _ 646 _ [.int (oSer S A1).2.1]
  have hm3 := hRM3.main
  rw [show L2.1 (50, 0, 0) = Lm.1 (50, 0, 0) from hth2] at hm3
  have hq3 := hF3.lo hq2
  refine x_istore hG (pc := 646) dL_law_646 (Nat.le_of_ble_eq_true rfl) rfl (by dsimp only [List.set]) ?_
  refine x_aload_n hG (pc := 648) 2 dL_law_648 rfl rfl ?_
  refine x_callVN hG hO (pc := 649) [] c_X7_thrown lk_L_112 hm3 rfl rfl ⟨Nat.le_of_ble_eq_true rfl, Nat.le_of_ble_eq_true rfl⟩ (Nat.le_of_ble_eq_true rfl) (by rw [hG.mc]; dsimp only [rmk]; omega) (by rw [hG.ms]; dsimp only [rmk]; omega) dL_law_649 ?_
  refine ⟨L2, _, congrArg (fun z => [Value.ref z]) hth2.symm, hRM3, ?_⟩
  show X g w3 _ _ 652 _ [.int (thr L2)]
  refine x_iload hG (pc := 652) dL_law_652 rfl ?_
  refine x_icmp_eq hG (pc := 654) 659 dL_law_654 (by decide) (fun _ => ?_) (fun z => absurd hthr z)
  refine x_iload hG (pc := 659) dL_law_659 rfl ?_
  refine x_if_ne hG (pc := 661) 676 dL_law_661 (by decide) (fun _ => ?_) (fun hz => ?_)
  · refine x_goto hG (pc := 676) 2017 dL_law_676 (by decide) ?_
    refine x_iinc hG (pc := 2017) (nI (j + 6)) dL_law_2017 rfl (Nat.le_of_ble_eq_true rfl) rfl (nI_6 j) (by dsimp only [List.set]) ?_
    refine x_goto hG (pc := 2020) 28 dL_law_2020 (by decide) ?_
    exact nx L1 L2 _ w3 _ _ _ _ _ hth hth2 ⟨hR1.frc hF3, hRM3, iv_Ser hI2, ⟨_, hq3⟩, _, hF3.dO hqd2⟩ (by dsimp only [rmk]; omega) (by dsimp only [rmk]; omega)
  · have h0 := nI_z hz hfin.2
    refine x_aload_n hG (pc := 664) 3 dL_law_664 rfl rfl ?_
    refine x_iconst hG (pc := 665) 0 dL_law_665 (by decide) ?_
    refine x_lald hG (pc := 666) hq3 vin1 dL_law_666 ?_
    refine x_iload hG (pc := 667) dL_law_667 rfl ?_
    refine x_i2l hG (pc := 669) dL_law_669 ?_
    refine x_lcmp hG (pc := 670) dL_law_670 ?_
    refine x_if_eq hG (pc := 671) 676 dL_law_671 (by decide) (fun _ => ?_) (fun z => absurd (lgA (hv2 h0)) z)
    refine x_goto hG (pc := 676) 2017 dL_law_676 (by decide) ?_
    refine x_iinc hG (pc := 2017) (nI (j + 6)) dL_law_2017 rfl (Nat.le_of_ble_eq_true rfl) rfl (nI_6 j) (by dsimp only [List.set]) ?_
    refine x_goto hG (pc := 2020) 28 dL_law_2020 (by decide) ?_
    exact nx L1 L2 _ w3 _ _ _ _ _ hth hth2 ⟨hR1.frc hF3, hRM3, iv_Ser hI2, ⟨_, hq3⟩, _, hF3.dO hqd2⟩ (by dsimp only [rmk]; omega) (by dsimp only [rmk]; omega)
set_option maxHeartbeats 1000000 in
set_option maxRecDepth 100000 in
theorem law_7 : Lcs 679 := by
  intro nm g b L xs qo qd j N Lc Lm S w kc ks z6 z7 z8 hG hO hX hj hL hN nx hI hkc hks
  obtain ⟨hRC, hRM, hI2, ⟨fo, hqo⟩, fd, hqd⟩ := hI
  have hdd := hI2.1.2.2.2.2.2.1
  obtain ⟨A1, hA1⟩ : ∃ y, xs (nI j + 1).toNatClampNeg = y := ⟨_, rfl⟩
  obtain ⟨A2, hA2⟩ : ∃ y, xs (nI j + 2).toNatClampNeg = y := ⟨_, rfl⟩
  obtain ⟨A3, hA3⟩ : ∃ y, xs (nI j + 3).toNatClampNeg = y := ⟨_, rfl⟩
  obtain ⟨A4, hA4⟩ : ∃ y, xs (nI j + 4).toNatClampNeg = y := ⟨_, rfl⟩
  obtain ⟨A5, hA5⟩ : ∃ y, xs (nI j + 5).toNatClampNeg = y := ⟨_, rfl⟩
  refine x_aload_n hG (pc := 679) 1 dL_law_679 rfl rfl ?_
  refine x_aload_n hG (pc := 680) 0 dL_law_680 rfl rfl ?_
  refine x_iload hG (pc := 681) dL_law_681 rfl ?_
  refine x_iconst hG (pc := 683) 1 dL_law_683 (by decide) ?_
  refine x_iadd hG (pc := 684) dL_law_684 ?_
  refine x_sld hG (pc := 685) hX (sc_in 1 rfl (by omega) hL) hA1 dL_law_685 ?_
  refine x_aload_n hG (pc := 686) 0 dL_law_686 rfl rfl ?_
  refine x_iload hG (pc := 687) dL_law_687 rfl ?_
  refine x_iconst hG (pc := 689) 2 dL_law_689 (by decide) ?_
  refine x_iadd hG (pc := 690) dL_law_690 ?_
  refine x_sld hG (pc := 691) hX (sc_in 2 rfl (by omega) hL) hA2 dL_law_691 ?_
  refine x_aload_n hG (pc := 692) 0 dL_law_692 rfl rfl ?_
  refine x_iload hG (pc := 693) dL_law_693 rfl ?_
  refine x_iconst hG (pc := 695) 3 dL_law_695 (by decide) ?_
  refine x_iadd hG (pc := 696) dL_law_696 ?_
  refine x_sld hG (pc := 697) hX (sc_in 3 rfl (by omega) hL) hA3 dL_law_697 ?_
  refine x_aload_n hG (pc := 698) 0 dL_law_698 rfl rfl ?_
  refine x_iload hG (pc := 699) dL_law_699 rfl ?_
  refine x_iconst hG (pc := 701) 4 dL_law_701 (by decide) ?_
  refine x_iadd hG (pc := 702) dL_law_702 ?_
  refine x_sld hG (pc := 703) hX (sc_in 4 rfl (by omega) hL) hA4 dL_law_703 ?_
  refine x_aload_n hG (pc := 704) 0 dL_law_704 rfl rfl ?_
  refine x_iload hG (pc := 705) dL_law_705 rfl ?_
  refine x_iconst hG (pc := 707) 5 dL_law_707 (by decide) ?_
  refine x_iadd hG (pc := 708) dL_law_708 ?_
  refine x_sld hG (pc := 709) hX (sc_in 5 rfl (by omega) hL) hA5 dL_law_709 ?_
  refine x_aload_n hG (pc := 710) 3 dL_law_710 rfl rfl ?_
  refine x_callSHN hG hO (pc := 711) [_, _, _, _, _, _, _] c_L_book lk_L_138 rfl rfl ⟨Nat.le_of_ble_eq_true rfl, Nat.le_of_ble_eq_true rfl⟩ (Nat.le_of_ble_eq_true rfl) (by rw [hG.mc]; dsimp only [rmk]; omega) (by rw [hG.ms]; dsimp only [rmk]; omega) dL_law_711 ?_
  refine ⟨Lc, S, qo, fo, A1, A2, A3, A4, A5, rfl, hqo, hRC, hI2.1, fun L1 w2 f1 hth hR1 hF2 hq2 hv2 => ?_⟩
  have hRM2 := hRM.frq hF2 (Nat.le_of_ble_eq_true rfl)
  have hqd2 := hF2.dO hqd
  have hfin := fin_Boo (S := S) (t := A1) (f := A2) (o := A3) (d := A4) (h := A5)
  have hdy := congrArg Int32.toInt (day_Boo (S := S) (t := A1) (f := A2) (o := A3) (d := A4) (h := A5))
  show X g w2 _ _ 714 _ [.int (nI (oBoo S A1 A2 A3 A4 A5).1)]
  refine x_istore hG (pc := 714) dL_law_714 (Nat.le_of_ble_eq_true rfl) rfl (by dsimp only [List.set]) ?_
  refine x_aload_n hG (pc := 716) 2 dL_law_716 rfl rfl ?_
  refine x_aload_n hG (pc := 717) 0 dL_law_717 rfl rfl ?_
  refine x_iload hG (pc := 718) dL_law_718 rfl ?_
  refine x_iconst hG (pc := 720) 1 dL_law_720 (by decide) ?_
  refine x_iadd hG (pc := 721) dL_law_721 ?_
  refine x_sld hG (pc := 722) hX (sc_in 1 rfl (by omega) hL) hA1 dL_law_722 ?_
  refine x_aload_n hG (pc := 723) 0 dL_law_723 rfl rfl ?_
  refine x_iload hG (pc := 724) dL_law_724 rfl ?_
  refine x_iconst hG (pc := 726) 2 dL_law_726 (by decide) ?_
  refine x_iadd hG (pc := 727) dL_law_727 ?_
  refine x_sld hG (pc := 728) hX (sc_in 2 rfl (by omega) hL) hA2 dL_law_728 ?_
  refine x_aload_n hG (pc := 729) 0 dL_law_729 rfl rfl ?_
  refine x_iload hG (pc := 730) dL_law_730 rfl ?_
  refine x_iconst hG (pc := 732) 3 dL_law_732 (by decide) ?_
  refine x_iadd hG (pc := 733) dL_law_733 ?_
  refine x_sld hG (pc := 734) hX (sc_in 3 rfl (by omega) hL) hA3 dL_law_734 ?_
  refine x_aload_n hG (pc := 735) 0 dL_law_735 rfl rfl ?_
  refine x_iload hG (pc := 736) dL_law_736 rfl ?_
  refine x_iconst hG (pc := 738) 4 dL_law_738 (by decide) ?_
  refine x_iadd hG (pc := 739) dL_law_739 ?_
  refine x_sld hG (pc := 740) hX (sc_in 4 rfl (by omega) hL) hA4 dL_law_740 ?_
  refine x_aload_n hG (pc := 741) 0 dL_law_741 rfl rfl ?_
  refine x_iload hG (pc := 742) dL_law_742 rfl ?_
  refine x_iconst hG (pc := 744) 5 dL_law_744 (by decide) ?_
  refine x_iadd hG (pc := 745) dL_law_745 ?_
  refine x_sld hG (pc := 746) hX (sc_in 5 rfl (by omega) hL) hA5 dL_law_746 ?_
  refine x_callVN hG hO (pc := 747) [_, _, _, _, _] c_X7_book lk_L_141 hRM2.main rfl rfl ⟨Nat.le_of_ble_eq_true rfl, Nat.le_of_ble_eq_true rfl⟩ (Nat.le_of_ble_eq_true rfl) (by rw [hG.mc]; dsimp only [rmk]; omega) (by rw [hG.ms]; dsimp only [rmk]; omega) dL_law_747 ?_
  refine ⟨Lm, S, A1, A2, A3, A4, A5, rfl, hRM2, hI2, fun L2 w3 hth2 hthr hRM3 hF3 => ?_⟩
  show X g w3 _ _ 750 _ [.int (oBoo S A1 A2 A3 A4 A5).2.1]
  have hm3 := hRM3.main
  rw [show L2.1 (50, 0, 0) = Lm.1 (50, 0, 0) from hth2] at hm3
  have hq3 := hF3.lo hq2
  refine x_istore hG (pc := 750) dL_law_750 (Nat.le_of_ble_eq_true rfl) rfl (by dsimp only [List.set]) ?_
  refine x_aload_n hG (pc := 752) 2 dL_law_752 rfl rfl ?_
  refine x_callVN hG hO (pc := 753) [] c_X7_thrown lk_L_112 hm3 rfl rfl ⟨Nat.le_of_ble_eq_true rfl, Nat.le_of_ble_eq_true rfl⟩ (Nat.le_of_ble_eq_true rfl) (by rw [hG.mc]; dsimp only [rmk]; omega) (by rw [hG.ms]; dsimp only [rmk]; omega) dL_law_753 ?_
  refine ⟨L2, _, congrArg (fun z => [Value.ref z]) hth2.symm, hRM3, ?_⟩
  show X g w3 _ _ 756 _ [.int (thr L2)]
  refine x_iload hG (pc := 756) dL_law_756 rfl ?_
  refine x_icmp_eq hG (pc := 758) 763 dL_law_758 (by decide) (fun _ => ?_) (fun z => absurd hthr z)
  refine x_iload hG (pc := 763) dL_law_763 rfl ?_
  refine x_if_ne hG (pc := 765) 780 dL_law_765 (by decide) (fun _ => ?_) (fun hz => ?_)
  · refine x_goto hG (pc := 780) 2017 dL_law_780 (by decide) ?_
    refine x_iinc hG (pc := 2017) (nI (j + 6)) dL_law_2017 rfl (Nat.le_of_ble_eq_true rfl) rfl (nI_6 j) (by dsimp only [List.set]) ?_
    refine x_goto hG (pc := 2020) 28 dL_law_2020 (by decide) ?_
    exact nx L1 L2 _ w3 _ _ _ _ _ hth hth2 ⟨hR1.frc hF3, hRM3, iv_Boo hI2, ⟨_, hq3⟩, _, hF3.dO hqd2⟩ (by dsimp only [rmk]; omega) (by dsimp only [rmk]; omega)
  · have h0 := nI_z hz hfin.2
    refine x_aload_n hG (pc := 768) 3 dL_law_768 rfl rfl ?_
    refine x_iconst hG (pc := 769) 0 dL_law_769 (by decide) ?_
    refine x_lald hG (pc := 770) hq3 vin1 dL_law_770 ?_
    refine x_iload hG (pc := 771) dL_law_771 rfl ?_
    refine x_i2l hG (pc := 773) dL_law_773 ?_
    refine x_lcmp hG (pc := 774) dL_law_774 ?_
    refine x_if_eq hG (pc := 775) 780 dL_law_775 (by decide) (fun _ => ?_) (fun z => absurd (lgA (hv2 h0)) z)
    refine x_goto hG (pc := 780) 2017 dL_law_780 (by decide) ?_
    refine x_iinc hG (pc := 2017) (nI (j + 6)) dL_law_2017 rfl (Nat.le_of_ble_eq_true rfl) rfl (nI_6 j) (by dsimp only [List.set]) ?_
    refine x_goto hG (pc := 2020) 28 dL_law_2020 (by decide) ?_
    exact nx L1 L2 _ w3 _ _ _ _ _ hth hth2 ⟨hR1.frc hF3, hRM3, iv_Boo hI2, ⟨_, hq3⟩, _, hF3.dO hqd2⟩ (by dsimp only [rmk]; omega) (by dsimp only [rmk]; omega)
set_option maxHeartbeats 1000000 in
set_option maxRecDepth 100000 in
theorem law_8 : Lcs 783 := by
  intro nm g b L xs qo qd j N Lc Lm S w kc ks z6 z7 z8 hG hO hX hj hL hN nx hI hkc hks
  obtain ⟨hRC, hRM, hI2, ⟨fo, hqo⟩, fd, hqd⟩ := hI
  have hdd := hI2.1.2.2.2.2.2.1
  obtain ⟨A1, hA1⟩ : ∃ y, xs (nI j + 1).toNatClampNeg = y := ⟨_, rfl⟩
  obtain ⟨A2, hA2⟩ : ∃ y, xs (nI j + 2).toNatClampNeg = y := ⟨_, rfl⟩
  obtain ⟨A3, hA3⟩ : ∃ y, xs (nI j + 3).toNatClampNeg = y := ⟨_, rfl⟩
  obtain ⟨A4, hA4⟩ : ∃ y, xs (nI j + 4).toNatClampNeg = y := ⟨_, rfl⟩
  obtain ⟨A5, hA5⟩ : ∃ y, xs (nI j + 5).toNatClampNeg = y := ⟨_, rfl⟩
  refine x_aload_n hG (pc := 783) 1 dL_law_783 rfl rfl ?_
  refine x_aload_n hG (pc := 784) 0 dL_law_784 rfl rfl ?_
  refine x_iload hG (pc := 785) dL_law_785 rfl ?_
  refine x_iconst hG (pc := 787) 1 dL_law_787 (by decide) ?_
  refine x_iadd hG (pc := 788) dL_law_788 ?_
  refine x_sld hG (pc := 789) hX (sc_in 1 rfl (by omega) hL) hA1 dL_law_789 ?_
  refine x_aload_n hG (pc := 790) 0 dL_law_790 rfl rfl ?_
  refine x_iload hG (pc := 791) dL_law_791 rfl ?_
  refine x_iconst hG (pc := 793) 2 dL_law_793 (by decide) ?_
  refine x_iadd hG (pc := 794) dL_law_794 ?_
  refine x_sld hG (pc := 795) hX (sc_in 2 rfl (by omega) hL) hA2 dL_law_795 ?_
  refine x_aload_n hG (pc := 796) 0 dL_law_796 rfl rfl ?_
  refine x_iload hG (pc := 797) dL_law_797 rfl ?_
  refine x_iconst hG (pc := 799) 3 dL_law_799 (by decide) ?_
  refine x_iadd hG (pc := 800) dL_law_800 ?_
  refine x_sld hG (pc := 801) hX (sc_in 3 rfl (by omega) hL) hA3 dL_law_801 ?_
  refine x_aload_n hG (pc := 802) 3 dL_law_802 rfl rfl ?_
  refine x_callSHN hG hO (pc := 803) [_, _, _, _, _] c_L_work lk_L_142 rfl rfl ⟨Nat.le_of_ble_eq_true rfl, Nat.le_of_ble_eq_true rfl⟩ (Nat.le_of_ble_eq_true rfl) (by rw [hG.mc]; dsimp only [rmk]; omega) (by rw [hG.ms]; dsimp only [rmk]; omega) dL_law_803 ?_
  refine ⟨Lc, S, qo, fo, A1, A2, A3, rfl, hqo, hRC, hI2.1, fun L1 w2 f1 hth hR1 hF2 hq2 hv2 => ?_⟩
  have hRM2 := hRM.frq hF2 (Nat.le_of_ble_eq_true rfl)
  have hqd2 := hF2.dO hqd
  have hfin := fin_Wor (S := S) (p := A1) (i := A2) (m := A3)
  have hdy := congrArg Int32.toInt (day_Wor (S := S) (p := A1) (i := A2) (m := A3))
  show X g w2 _ _ 806 _ [.int (nI (oWor S A1 A2 A3).1)]
  refine x_istore hG (pc := 806) dL_law_806 (Nat.le_of_ble_eq_true rfl) rfl (by dsimp only [List.set]) ?_
  refine x_aload_n hG (pc := 808) 2 dL_law_808 rfl rfl ?_
  refine x_aload_n hG (pc := 809) 0 dL_law_809 rfl rfl ?_
  refine x_iload hG (pc := 810) dL_law_810 rfl ?_
  refine x_iconst hG (pc := 812) 1 dL_law_812 (by decide) ?_
  refine x_iadd hG (pc := 813) dL_law_813 ?_
  refine x_sld hG (pc := 814) hX (sc_in 1 rfl (by omega) hL) hA1 dL_law_814 ?_
  refine x_aload_n hG (pc := 815) 0 dL_law_815 rfl rfl ?_
  refine x_iload hG (pc := 816) dL_law_816 rfl ?_
  refine x_iconst hG (pc := 818) 2 dL_law_818 (by decide) ?_
  refine x_iadd hG (pc := 819) dL_law_819 ?_
  refine x_sld hG (pc := 820) hX (sc_in 2 rfl (by omega) hL) hA2 dL_law_820 ?_
  refine x_aload_n hG (pc := 821) 0 dL_law_821 rfl rfl ?_
  refine x_iload hG (pc := 822) dL_law_822 rfl ?_
  refine x_iconst hG (pc := 824) 3 dL_law_824 (by decide) ?_
  refine x_iadd hG (pc := 825) dL_law_825 ?_
  refine x_sld hG (pc := 826) hX (sc_in 3 rfl (by omega) hL) hA3 dL_law_826 ?_
  refine x_callVN hG hO (pc := 827) [_, _, _] c_X7_work lk_L_144 hRM2.main rfl rfl ⟨Nat.le_of_ble_eq_true rfl, Nat.le_of_ble_eq_true rfl⟩ (Nat.le_of_ble_eq_true rfl) (by rw [hG.mc]; dsimp only [rmk]; omega) (by rw [hG.ms]; dsimp only [rmk]; omega) dL_law_827 ?_
  refine ⟨Lm, S, A1, A2, A3, rfl, hRM2, hI2, fun L2 w3 hth2 hthr hRM3 hF3 => ?_⟩
  show X g w3 _ _ 830 _ [.int (oWor S A1 A2 A3).2.1]
  have hm3 := hRM3.main
  rw [show L2.1 (50, 0, 0) = Lm.1 (50, 0, 0) from hth2] at hm3
  have hq3 := hF3.lo hq2
  refine x_istore hG (pc := 830) dL_law_830 (Nat.le_of_ble_eq_true rfl) rfl (by dsimp only [List.set]) ?_
  refine x_aload_n hG (pc := 832) 2 dL_law_832 rfl rfl ?_
  refine x_callVN hG hO (pc := 833) [] c_X7_thrown lk_L_112 hm3 rfl rfl ⟨Nat.le_of_ble_eq_true rfl, Nat.le_of_ble_eq_true rfl⟩ (Nat.le_of_ble_eq_true rfl) (by rw [hG.mc]; dsimp only [rmk]; omega) (by rw [hG.ms]; dsimp only [rmk]; omega) dL_law_833 ?_
  refine ⟨L2, _, congrArg (fun z => [Value.ref z]) hth2.symm, hRM3, ?_⟩
  show X g w3 _ _ 836 _ [.int (thr L2)]
  refine x_iload hG (pc := 836) dL_law_836 rfl ?_
  refine x_icmp_eq hG (pc := 838) 843 dL_law_838 (by decide) (fun _ => ?_) (fun z => absurd hthr z)
  refine x_iload hG (pc := 843) dL_law_843 rfl ?_
  refine x_if_ne hG (pc := 845) 860 dL_law_845 (by decide) (fun _ => ?_) (fun hz => ?_)
  · refine x_goto hG (pc := 860) 2017 dL_law_860 (by decide) ?_
    refine x_iinc hG (pc := 2017) (nI (j + 6)) dL_law_2017 rfl (Nat.le_of_ble_eq_true rfl) rfl (nI_6 j) (by dsimp only [List.set]) ?_
    refine x_goto hG (pc := 2020) 28 dL_law_2020 (by decide) ?_
    exact nx L1 L2 _ w3 _ _ _ _ _ hth hth2 ⟨hR1.frc hF3, hRM3, iv_Wor hI2, ⟨_, hq3⟩, _, hF3.dO hqd2⟩ (by dsimp only [rmk]; omega) (by dsimp only [rmk]; omega)
  · have h0 := nI_z hz hfin.2
    refine x_aload_n hG (pc := 848) 3 dL_law_848 rfl rfl ?_
    refine x_iconst hG (pc := 849) 0 dL_law_849 (by decide) ?_
    refine x_lald hG (pc := 850) hq3 vin1 dL_law_850 ?_
    refine x_iload hG (pc := 851) dL_law_851 rfl ?_
    refine x_i2l hG (pc := 853) dL_law_853 ?_
    refine x_lcmp hG (pc := 854) dL_law_854 ?_
    refine x_if_eq hG (pc := 855) 860 dL_law_855 (by decide) (fun _ => ?_) (fun z => absurd (lgA (hv2 h0)) z)
    refine x_goto hG (pc := 860) 2017 dL_law_860 (by decide) ?_
    refine x_iinc hG (pc := 2017) (nI (j + 6)) dL_law_2017 rfl (Nat.le_of_ble_eq_true rfl) rfl (nI_6 j) (by dsimp only [List.set]) ?_
    refine x_goto hG (pc := 2020) 28 dL_law_2020 (by decide) ?_
    exact nx L1 L2 _ w3 _ _ _ _ _ hth hth2 ⟨hR1.frc hF3, hRM3, iv_Wor hI2, ⟨_, hq3⟩, _, hF3.dO hqd2⟩ (by dsimp only [rmk]; omega) (by dsimp only [rmk]; omega)
set_option maxHeartbeats 1000000 in
set_option maxRecDepth 100000 in
theorem law_9 : Lcs 863 := by
  intro nm g b L xs qo qd j N Lc Lm S w kc ks z6 z7 z8 hG hO hX hj hL hN nx hI hkc hks
  obtain ⟨hRC, hRM, hI2, ⟨fo, hqo⟩, fd, hqd⟩ := hI
  have hdd := hI2.1.2.2.2.2.2.1
  obtain ⟨A1, hA1⟩ : ∃ y, xs (nI j + 1).toNatClampNeg = y := ⟨_, rfl⟩
  obtain ⟨A2, hA2⟩ : ∃ y, xs (nI j + 2).toNatClampNeg = y := ⟨_, rfl⟩
  obtain ⟨A3, hA3⟩ : ∃ y, xs (nI j + 3).toNatClampNeg = y := ⟨_, rfl⟩
  obtain ⟨A4, hA4⟩ : ∃ y, xs (nI j + 4).toNatClampNeg = y := ⟨_, rfl⟩
  obtain ⟨A5, hA5⟩ : ∃ y, xs (nI j + 5).toNatClampNeg = y := ⟨_, rfl⟩
  refine x_aload_n hG (pc := 863) 1 dL_law_863 rfl rfl ?_
  refine x_aload_n hG (pc := 864) 0 dL_law_864 rfl rfl ?_
  refine x_iload hG (pc := 865) dL_law_865 rfl ?_
  refine x_iconst hG (pc := 867) 1 dL_law_867 (by decide) ?_
  refine x_iadd hG (pc := 868) dL_law_868 ?_
  refine x_sld hG (pc := 869) hX (sc_in 1 rfl (by omega) hL) hA1 dL_law_869 ?_
  refine x_aload_n hG (pc := 870) 3 dL_law_870 rfl rfl ?_
  refine x_callSHN hG hO (pc := 871) [_, _, _] c_L_cancel lk_L_145 rfl rfl ⟨Nat.le_of_ble_eq_true rfl, Nat.le_of_ble_eq_true rfl⟩ (Nat.le_of_ble_eq_true rfl) (by rw [hG.mc]; dsimp only [rmk]; omega) (by rw [hG.ms]; dsimp only [rmk]; omega) dL_law_871 ?_
  refine ⟨Lc, S, qo, fo, A1, rfl, hqo, hRC, hI2.1, fun L1 w2 f1 hth hR1 hF2 hq2 hv2 => ?_⟩
  have hRM2 := hRM.frq hF2 (Nat.le_of_ble_eq_true rfl)
  have hqd2 := hF2.dO hqd
  have hfin := fin_Can (S := S) (p := A1)
  have hdy := congrArg Int32.toInt (day_Can (S := S) (p := A1))
  show X g w2 _ _ 874 _ [.int (nI (oCan S A1).1)]
  refine x_istore hG (pc := 874) dL_law_874 (Nat.le_of_ble_eq_true rfl) rfl (by dsimp only [List.set]) ?_
  refine x_aload_n hG (pc := 876) 2 dL_law_876 rfl rfl ?_
  refine x_aload_n hG (pc := 877) 0 dL_law_877 rfl rfl ?_
  refine x_iload hG (pc := 878) dL_law_878 rfl ?_
  refine x_iconst hG (pc := 880) 1 dL_law_880 (by decide) ?_
  refine x_iadd hG (pc := 881) dL_law_881 ?_
  refine x_sld hG (pc := 882) hX (sc_in 1 rfl (by omega) hL) hA1 dL_law_882 ?_
  refine x_callVN hG hO (pc := 883) [_] c_X7_cancel lk_L_147 hRM2.main rfl rfl ⟨Nat.le_of_ble_eq_true rfl, Nat.le_of_ble_eq_true rfl⟩ (Nat.le_of_ble_eq_true rfl) (by rw [hG.mc]; dsimp only [rmk]; omega) (by rw [hG.ms]; dsimp only [rmk]; omega) dL_law_883 ?_
  refine ⟨Lm, S, A1, rfl, hRM2, hI2, fun L2 w3 hth2 hthr hRM3 hF3 => ?_⟩
  show X g w3 _ _ 886 _ [.int (oCan S A1).2.1]
  have hm3 := hRM3.main
  rw [show L2.1 (50, 0, 0) = Lm.1 (50, 0, 0) from hth2] at hm3
  have hq3 := hF3.lo hq2
  refine x_istore hG (pc := 886) dL_law_886 (Nat.le_of_ble_eq_true rfl) rfl (by dsimp only [List.set]) ?_
  refine x_aload_n hG (pc := 888) 2 dL_law_888 rfl rfl ?_
  refine x_callVN hG hO (pc := 889) [] c_X7_thrown lk_L_112 hm3 rfl rfl ⟨Nat.le_of_ble_eq_true rfl, Nat.le_of_ble_eq_true rfl⟩ (Nat.le_of_ble_eq_true rfl) (by rw [hG.mc]; dsimp only [rmk]; omega) (by rw [hG.ms]; dsimp only [rmk]; omega) dL_law_889 ?_
  refine ⟨L2, _, congrArg (fun z => [Value.ref z]) hth2.symm, hRM3, ?_⟩
  show X g w3 _ _ 892 _ [.int (thr L2)]
  refine x_iload hG (pc := 892) dL_law_892 rfl ?_
  refine x_icmp_eq hG (pc := 894) 899 dL_law_894 (by decide) (fun _ => ?_) (fun z => absurd hthr z)
  refine x_iload hG (pc := 899) dL_law_899 rfl ?_
  refine x_if_ne hG (pc := 901) 916 dL_law_901 (by decide) (fun _ => ?_) (fun hz => ?_)
  · refine x_goto hG (pc := 916) 2017 dL_law_916 (by decide) ?_
    refine x_iinc hG (pc := 2017) (nI (j + 6)) dL_law_2017 rfl (Nat.le_of_ble_eq_true rfl) rfl (nI_6 j) (by dsimp only [List.set]) ?_
    refine x_goto hG (pc := 2020) 28 dL_law_2020 (by decide) ?_
    exact nx L1 L2 _ w3 _ _ _ _ _ hth hth2 ⟨hR1.frc hF3, hRM3, iv_Can hI2, ⟨_, hq3⟩, _, hF3.dO hqd2⟩ (by dsimp only [rmk]; omega) (by dsimp only [rmk]; omega)
  · have h0 := nI_z hz hfin.2
    refine x_aload_n hG (pc := 904) 3 dL_law_904 rfl rfl ?_
    refine x_iconst hG (pc := 905) 0 dL_law_905 (by decide) ?_
    refine x_lald hG (pc := 906) hq3 vin1 dL_law_906 ?_
    refine x_iload hG (pc := 907) dL_law_907 rfl ?_
    refine x_i2l hG (pc := 909) dL_law_909 ?_
    refine x_lcmp hG (pc := 910) dL_law_910 ?_
    refine x_if_eq hG (pc := 911) 916 dL_law_911 (by decide) (fun _ => ?_) (fun z => absurd (lgA (hv2 h0)) z)
    refine x_goto hG (pc := 916) 2017 dL_law_916 (by decide) ?_
    refine x_iinc hG (pc := 2017) (nI (j + 6)) dL_law_2017 rfl (Nat.le_of_ble_eq_true rfl) rfl (nI_6 j) (by dsimp only [List.set]) ?_
    refine x_goto hG (pc := 2020) 28 dL_law_2020 (by decide) ?_
    exact nx L1 L2 _ w3 _ _ _ _ _ hth hth2 ⟨hR1.frc hF3, hRM3, iv_Can hI2, ⟨_, hq3⟩, _, hF3.dO hqd2⟩ (by dsimp only [rmk]; omega) (by dsimp only [rmk]; omega)
set_option maxHeartbeats 1000000 in
set_option maxRecDepth 100000 in
theorem law_10 : Lcs 919 := by
  intro nm g b L xs qo qd j N Lc Lm S w kc ks z6 z7 z8 hG hO hX hj hL hN nx hI hkc hks
  obtain ⟨hRC, hRM, hI2, ⟨fo, hqo⟩, fd, hqd⟩ := hI
  have hdd := hI2.1.2.2.2.2.2.1
  obtain ⟨A1, hA1⟩ : ∃ y, xs (nI j + 1).toNatClampNeg = y := ⟨_, rfl⟩
  obtain ⟨A2, hA2⟩ : ∃ y, xs (nI j + 2).toNatClampNeg = y := ⟨_, rfl⟩
  obtain ⟨A3, hA3⟩ : ∃ y, xs (nI j + 3).toNatClampNeg = y := ⟨_, rfl⟩
  obtain ⟨A4, hA4⟩ : ∃ y, xs (nI j + 4).toNatClampNeg = y := ⟨_, rfl⟩
  obtain ⟨A5, hA5⟩ : ∃ y, xs (nI j + 5).toNatClampNeg = y := ⟨_, rfl⟩
  refine x_aload_n hG (pc := 919) 1 dL_law_919 rfl rfl ?_
  refine x_aload_n hG (pc := 920) 0 dL_law_920 rfl rfl ?_
  refine x_iload hG (pc := 921) dL_law_921 rfl ?_
  refine x_iconst hG (pc := 923) 1 dL_law_923 (by decide) ?_
  refine x_iadd hG (pc := 924) dL_law_924 ?_
  refine x_sld hG (pc := 925) hX (sc_in 1 rfl (by omega) hL) hA1 dL_law_925 ?_
  refine x_aload_n hG (pc := 926) 0 dL_law_926 rfl rfl ?_
  refine x_iload hG (pc := 927) dL_law_927 rfl ?_
  refine x_iconst hG (pc := 929) 2 dL_law_929 (by decide) ?_
  refine x_iadd hG (pc := 930) dL_law_930 ?_
  refine x_sld hG (pc := 931) hX (sc_in 2 rfl (by omega) hL) hA2 dL_law_931 ?_
  refine x_aload_n hG (pc := 932) 3 dL_law_932 rfl rfl ?_
  refine x_callSHN hG hO (pc := 933) [_, _, _, _] c_L_mark lk_L_148 rfl rfl ⟨Nat.le_of_ble_eq_true rfl, Nat.le_of_ble_eq_true rfl⟩ (Nat.le_of_ble_eq_true rfl) (by rw [hG.mc]; dsimp only [rmk]; omega) (by rw [hG.ms]; dsimp only [rmk]; omega) dL_law_933 ?_
  refine ⟨Lc, S, qo, fo, A1, A2, rfl, hqo, hRC, hI2.1, fun L1 w2 f1 hth hR1 hF2 hq2 hv2 => ?_⟩
  have hRM2 := hRM.frq hF2 (Nat.le_of_ble_eq_true rfl)
  have hqd2 := hF2.dO hqd
  have hfin := fin_Mrk (S := S) (p := A1) (e := A2)
  have hdy := congrArg Int32.toInt (day_Mrk (S := S) (p := A1) (e := A2))
  show X g w2 _ _ 936 _ [.int (nI (oMrk S A1 A2).1)]
  refine x_istore hG (pc := 936) dL_law_936 (Nat.le_of_ble_eq_true rfl) rfl (by dsimp only [List.set]) ?_
  refine x_aload_n hG (pc := 938) 2 dL_law_938 rfl rfl ?_
  refine x_aload_n hG (pc := 939) 0 dL_law_939 rfl rfl ?_
  refine x_iload hG (pc := 940) dL_law_940 rfl ?_
  refine x_iconst hG (pc := 942) 1 dL_law_942 (by decide) ?_
  refine x_iadd hG (pc := 943) dL_law_943 ?_
  refine x_sld hG (pc := 944) hX (sc_in 1 rfl (by omega) hL) hA1 dL_law_944 ?_
  refine x_aload_n hG (pc := 945) 0 dL_law_945 rfl rfl ?_
  refine x_iload hG (pc := 946) dL_law_946 rfl ?_
  refine x_iconst hG (pc := 948) 2 dL_law_948 (by decide) ?_
  refine x_iadd hG (pc := 949) dL_law_949 ?_
  refine x_sld hG (pc := 950) hX (sc_in 2 rfl (by omega) hL) hA2 dL_law_950 ?_
  refine x_callVN hG hO (pc := 951) [_, _] c_X7_mark lk_L_150 hRM2.main rfl rfl ⟨Nat.le_of_ble_eq_true rfl, Nat.le_of_ble_eq_true rfl⟩ (Nat.le_of_ble_eq_true rfl) (by rw [hG.mc]; dsimp only [rmk]; omega) (by rw [hG.ms]; dsimp only [rmk]; omega) dL_law_951 ?_
  refine ⟨Lm, S, A1, A2, rfl, hRM2, hI2, fun L2 w3 hth2 hthr hRM3 hF3 => ?_⟩
  show X g w3 _ _ 954 _ [.int (oMrk S A1 A2).2.1]
  have hm3 := hRM3.main
  rw [show L2.1 (50, 0, 0) = Lm.1 (50, 0, 0) from hth2] at hm3
  have hq3 := hF3.lo hq2
  refine x_istore hG (pc := 954) dL_law_954 (Nat.le_of_ble_eq_true rfl) rfl (by dsimp only [List.set]) ?_
  refine x_aload_n hG (pc := 956) 2 dL_law_956 rfl rfl ?_
  refine x_callVN hG hO (pc := 957) [] c_X7_thrown lk_L_112 hm3 rfl rfl ⟨Nat.le_of_ble_eq_true rfl, Nat.le_of_ble_eq_true rfl⟩ (Nat.le_of_ble_eq_true rfl) (by rw [hG.mc]; dsimp only [rmk]; omega) (by rw [hG.ms]; dsimp only [rmk]; omega) dL_law_957 ?_
  refine ⟨L2, _, congrArg (fun z => [Value.ref z]) hth2.symm, hRM3, ?_⟩
  show X g w3 _ _ 960 _ [.int (thr L2)]
  refine x_iload hG (pc := 960) dL_law_960 rfl ?_
  refine x_icmp_eq hG (pc := 962) 967 dL_law_962 (by decide) (fun _ => ?_) (fun z => absurd hthr z)
  refine x_iload hG (pc := 967) dL_law_967 rfl ?_
  refine x_if_ne hG (pc := 969) 984 dL_law_969 (by decide) (fun _ => ?_) (fun hz => ?_)
  · refine x_goto hG (pc := 984) 2017 dL_law_984 (by decide) ?_
    refine x_iinc hG (pc := 2017) (nI (j + 6)) dL_law_2017 rfl (Nat.le_of_ble_eq_true rfl) rfl (nI_6 j) (by dsimp only [List.set]) ?_
    refine x_goto hG (pc := 2020) 28 dL_law_2020 (by decide) ?_
    exact nx L1 L2 _ w3 _ _ _ _ _ hth hth2 ⟨hR1.frc hF3, hRM3, iv_Mrk hI2, ⟨_, hq3⟩, _, hF3.dO hqd2⟩ (by dsimp only [rmk]; omega) (by dsimp only [rmk]; omega)
  · have h0 := nI_z hz hfin.2
    refine x_aload_n hG (pc := 972) 3 dL_law_972 rfl rfl ?_
    refine x_iconst hG (pc := 973) 0 dL_law_973 (by decide) ?_
    refine x_lald hG (pc := 974) hq3 vin1 dL_law_974 ?_
    refine x_iload hG (pc := 975) dL_law_975 rfl ?_
    refine x_i2l hG (pc := 977) dL_law_977 ?_
    refine x_lcmp hG (pc := 978) dL_law_978 ?_
    refine x_if_eq hG (pc := 979) 984 dL_law_979 (by decide) (fun _ => ?_) (fun z => absurd (lgA (hv2 h0)) z)
    refine x_goto hG (pc := 984) 2017 dL_law_984 (by decide) ?_
    refine x_iinc hG (pc := 2017) (nI (j + 6)) dL_law_2017 rfl (Nat.le_of_ble_eq_true rfl) rfl (nI_6 j) (by dsimp only [List.set]) ?_
    refine x_goto hG (pc := 2020) 28 dL_law_2020 (by decide) ?_
    exact nx L1 L2 _ w3 _ _ _ _ _ hth hth2 ⟨hR1.frc hF3, hRM3, iv_Mrk hI2, ⟨_, hq3⟩, _, hF3.dO hqd2⟩ (by dsimp only [rmk]; omega) (by dsimp only [rmk]; omega)
set_option maxHeartbeats 1000000 in
set_option maxRecDepth 100000 in
theorem law_11 : Lcs 987 := by
  intro nm g b L xs qo qd j N Lc Lm S w kc ks z6 z7 z8 hG hO hX hj hL hN nx hI hkc hks
  obtain ⟨hRC, hRM, hI2, ⟨fo, hqo⟩, fd, hqd⟩ := hI
  have hdd := hI2.1.2.2.2.2.2.1
  obtain ⟨A1, hA1⟩ : ∃ y, xs (nI j + 1).toNatClampNeg = y := ⟨_, rfl⟩
  obtain ⟨A2, hA2⟩ : ∃ y, xs (nI j + 2).toNatClampNeg = y := ⟨_, rfl⟩
  obtain ⟨A3, hA3⟩ : ∃ y, xs (nI j + 3).toNatClampNeg = y := ⟨_, rfl⟩
  obtain ⟨A4, hA4⟩ : ∃ y, xs (nI j + 4).toNatClampNeg = y := ⟨_, rfl⟩
  obtain ⟨A5, hA5⟩ : ∃ y, xs (nI j + 5).toNatClampNeg = y := ⟨_, rfl⟩
  refine x_aload_n hG (pc := 987) 1 dL_law_987 rfl rfl ?_
  refine x_aload_n hG (pc := 988) 0 dL_law_988 rfl rfl ?_
  refine x_iload hG (pc := 989) dL_law_989 rfl ?_
  refine x_iconst hG (pc := 991) 1 dL_law_991 (by decide) ?_
  refine x_iadd hG (pc := 992) dL_law_992 ?_
  refine x_sld hG (pc := 993) hX (sc_in 1 rfl (by omega) hL) hA1 dL_law_993 ?_
  refine x_aload_n hG (pc := 994) 3 dL_law_994 rfl rfl ?_
  refine x_callSHN hG hO (pc := 995) [_, _, _] c_L_take lk_L_151 rfl rfl ⟨Nat.le_of_ble_eq_true rfl, Nat.le_of_ble_eq_true rfl⟩ (Nat.le_of_ble_eq_true rfl) (by rw [hG.mc]; dsimp only [rmk]; omega) (by rw [hG.ms]; dsimp only [rmk]; omega) dL_law_995 ?_
  refine ⟨Lc, S, qo, fo, A1, rfl, hqo, hRC, hI2.1, fun L1 w2 f1 hth hR1 hF2 hq2 hv2 => ?_⟩
  have hRM2 := hRM.frq hF2 (Nat.le_of_ble_eq_true rfl)
  have hqd2 := hF2.dO hqd
  have hfin := fin_Tak (S := S) (p := A1)
  have hdy := congrArg Int32.toInt (day_Tak (S := S) (p := A1))
  show X g w2 _ _ 998 _ [.int (nI (oTak S A1).1)]
  refine x_istore hG (pc := 998) dL_law_998 (Nat.le_of_ble_eq_true rfl) rfl (by dsimp only [List.set]) ?_
  refine x_aload_n hG (pc := 1000) 2 dL_law_1000 rfl rfl ?_
  refine x_aload_n hG (pc := 1001) 0 dL_law_1001 rfl rfl ?_
  refine x_iload hG (pc := 1002) dL_law_1002 rfl ?_
  refine x_iconst hG (pc := 1004) 1 dL_law_1004 (by decide) ?_
  refine x_iadd hG (pc := 1005) dL_law_1005 ?_
  refine x_sld hG (pc := 1006) hX (sc_in 1 rfl (by omega) hL) hA1 dL_law_1006 ?_
  refine x_callVN hG hO (pc := 1007) [_] c_X7_take lk_L_153 hRM2.main rfl rfl ⟨Nat.le_of_ble_eq_true rfl, Nat.le_of_ble_eq_true rfl⟩ (Nat.le_of_ble_eq_true rfl) (by rw [hG.mc]; dsimp only [rmk]; omega) (by rw [hG.ms]; dsimp only [rmk]; omega) dL_law_1007 ?_
  refine ⟨Lm, S, A1, rfl, hRM2, hI2, fun L2 w3 hth2 hthr hRM3 hF3 => ?_⟩
  show X g w3 _ _ 1010 _ [.int (oTak S A1).2.1]
  have hm3 := hRM3.main
  rw [show L2.1 (50, 0, 0) = Lm.1 (50, 0, 0) from hth2] at hm3
  have hq3 := hF3.lo hq2
  refine x_istore hG (pc := 1010) dL_law_1010 (Nat.le_of_ble_eq_true rfl) rfl (by dsimp only [List.set]) ?_
  refine x_aload_n hG (pc := 1012) 2 dL_law_1012 rfl rfl ?_
  refine x_callVN hG hO (pc := 1013) [] c_X7_thrown lk_L_112 hm3 rfl rfl ⟨Nat.le_of_ble_eq_true rfl, Nat.le_of_ble_eq_true rfl⟩ (Nat.le_of_ble_eq_true rfl) (by rw [hG.mc]; dsimp only [rmk]; omega) (by rw [hG.ms]; dsimp only [rmk]; omega) dL_law_1013 ?_
  refine ⟨L2, _, congrArg (fun z => [Value.ref z]) hth2.symm, hRM3, ?_⟩
  show X g w3 _ _ 1016 _ [.int (thr L2)]
  refine x_iload hG (pc := 1016) dL_law_1016 rfl ?_
  refine x_icmp_eq hG (pc := 1018) 1023 dL_law_1018 (by decide) (fun _ => ?_) (fun z => absurd hthr z)
  refine x_iload hG (pc := 1023) dL_law_1023 rfl ?_
  refine x_if_ne hG (pc := 1025) 1040 dL_law_1025 (by decide) (fun _ => ?_) (fun hz => ?_)
  · refine x_goto hG (pc := 1040) 2017 dL_law_1040 (by decide) ?_
    refine x_iinc hG (pc := 2017) (nI (j + 6)) dL_law_2017 rfl (Nat.le_of_ble_eq_true rfl) rfl (nI_6 j) (by dsimp only [List.set]) ?_
    refine x_goto hG (pc := 2020) 28 dL_law_2020 (by decide) ?_
    exact nx L1 L2 _ w3 _ _ _ _ _ hth hth2 ⟨hR1.frc hF3, hRM3, iv_Tak hI2, ⟨_, hq3⟩, _, hF3.dO hqd2⟩ (by dsimp only [rmk]; omega) (by dsimp only [rmk]; omega)
  · have h0 := nI_z hz hfin.2
    refine x_aload_n hG (pc := 1028) 3 dL_law_1028 rfl rfl ?_
    refine x_iconst hG (pc := 1029) 0 dL_law_1029 (by decide) ?_
    refine x_lald hG (pc := 1030) hq3 vin1 dL_law_1030 ?_
    refine x_iload hG (pc := 1031) dL_law_1031 rfl ?_
    refine x_i2l hG (pc := 1033) dL_law_1033 ?_
    refine x_lcmp hG (pc := 1034) dL_law_1034 ?_
    refine x_if_eq hG (pc := 1035) 1040 dL_law_1035 (by decide) (fun _ => ?_) (fun z => absurd (lgA (hv2 h0)) z)
    refine x_goto hG (pc := 1040) 2017 dL_law_1040 (by decide) ?_
    refine x_iinc hG (pc := 2017) (nI (j + 6)) dL_law_2017 rfl (Nat.le_of_ble_eq_true rfl) rfl (nI_6 j) (by dsimp only [List.set]) ?_
    refine x_goto hG (pc := 2020) 28 dL_law_2020 (by decide) ?_
    exact nx L1 L2 _ w3 _ _ _ _ _ hth hth2 ⟨hR1.frc hF3, hRM3, iv_Tak hI2, ⟨_, hq3⟩, _, hF3.dO hqd2⟩ (by dsimp only [rmk]; omega) (by dsimp only [rmk]; omega)
set_option maxHeartbeats 1000000 in
set_option maxRecDepth 100000 in
theorem law_12 : Lcs 1043 := by
  intro nm g b L xs qo qd j N Lc Lm S w kc ks z6 z7 z8 hG hO hX hj hL hN nx hI hkc hks
  obtain ⟨hRC, hRM, hI2, ⟨fo, hqo⟩, fd, hqd⟩ := hI
  have hdd := hI2.1.2.2.2.2.2.1
  obtain ⟨A1, hA1⟩ : ∃ y, xs (nI j + 1).toNatClampNeg = y := ⟨_, rfl⟩
  obtain ⟨A2, hA2⟩ : ∃ y, xs (nI j + 2).toNatClampNeg = y := ⟨_, rfl⟩
  obtain ⟨A3, hA3⟩ : ∃ y, xs (nI j + 3).toNatClampNeg = y := ⟨_, rfl⟩
  obtain ⟨A4, hA4⟩ : ∃ y, xs (nI j + 4).toNatClampNeg = y := ⟨_, rfl⟩
  obtain ⟨A5, hA5⟩ : ∃ y, xs (nI j + 5).toNatClampNeg = y := ⟨_, rfl⟩
  refine x_aload_n hG (pc := 1043) 1 dL_law_1043 rfl rfl ?_
  refine x_aload_n hG (pc := 1044) 0 dL_law_1044 rfl rfl ?_
  refine x_iload hG (pc := 1045) dL_law_1045 rfl ?_
  refine x_iconst hG (pc := 1047) 1 dL_law_1047 (by decide) ?_
  refine x_iadd hG (pc := 1048) dL_law_1048 ?_
  refine x_sld hG (pc := 1049) hX (sc_in 1 rfl (by omega) hL) hA1 dL_law_1049 ?_
  refine x_aload_n hG (pc := 1050) 3 dL_law_1050 rfl rfl ?_
  refine x_callSHN hG hO (pc := 1051) [_, _, _] c_L_giveBack lk_L_154 rfl rfl ⟨Nat.le_of_ble_eq_true rfl, Nat.le_of_ble_eq_true rfl⟩ (Nat.le_of_ble_eq_true rfl) (by rw [hG.mc]; dsimp only [rmk]; omega) (by rw [hG.ms]; dsimp only [rmk]; omega) dL_law_1051 ?_
  refine ⟨Lc, S, qo, fo, A1, rfl, hqo, hRC, hI2.1, fun L1 w2 f1 hth hR1 hF2 hq2 hv2 => ?_⟩
  have hRM2 := hRM.frq hF2 (Nat.le_of_ble_eq_true rfl)
  have hqd2 := hF2.dO hqd
  have hfin := fin_Giv (S := S) (p := A1)
  have hdy := congrArg Int32.toInt (day_Giv (S := S) (p := A1))
  show X g w2 _ _ 1054 _ [.int (nI (oGiv S A1).1)]
  refine x_istore hG (pc := 1054) dL_law_1054 (Nat.le_of_ble_eq_true rfl) rfl (by dsimp only [List.set]) ?_
  refine x_aload_n hG (pc := 1056) 2 dL_law_1056 rfl rfl ?_
  refine x_aload_n hG (pc := 1057) 0 dL_law_1057 rfl rfl ?_
  refine x_iload hG (pc := 1058) dL_law_1058 rfl ?_
  refine x_iconst hG (pc := 1060) 1 dL_law_1060 (by decide) ?_
  refine x_iadd hG (pc := 1061) dL_law_1061 ?_
  refine x_sld hG (pc := 1062) hX (sc_in 1 rfl (by omega) hL) hA1 dL_law_1062 ?_
  refine x_callVN hG hO (pc := 1063) [_] c_X7_giveBack lk_L_156 hRM2.main rfl rfl ⟨Nat.le_of_ble_eq_true rfl, Nat.le_of_ble_eq_true rfl⟩ (Nat.le_of_ble_eq_true rfl) (by rw [hG.mc]; dsimp only [rmk]; omega) (by rw [hG.ms]; dsimp only [rmk]; omega) dL_law_1063 ?_
  refine ⟨Lm, S, A1, rfl, hRM2, hI2, fun L2 w3 hth2 hthr hRM3 hF3 => ?_⟩
  show X g w3 _ _ 1066 _ [.int (oGiv S A1).2.1]
  have hm3 := hRM3.main
  rw [show L2.1 (50, 0, 0) = Lm.1 (50, 0, 0) from hth2] at hm3
  have hq3 := hF3.lo hq2
  refine x_istore hG (pc := 1066) dL_law_1066 (Nat.le_of_ble_eq_true rfl) rfl (by dsimp only [List.set]) ?_
  refine x_aload_n hG (pc := 1068) 2 dL_law_1068 rfl rfl ?_
  refine x_callVN hG hO (pc := 1069) [] c_X7_thrown lk_L_112 hm3 rfl rfl ⟨Nat.le_of_ble_eq_true rfl, Nat.le_of_ble_eq_true rfl⟩ (Nat.le_of_ble_eq_true rfl) (by rw [hG.mc]; dsimp only [rmk]; omega) (by rw [hG.ms]; dsimp only [rmk]; omega) dL_law_1069 ?_
  refine ⟨L2, _, congrArg (fun z => [Value.ref z]) hth2.symm, hRM3, ?_⟩
  show X g w3 _ _ 1072 _ [.int (thr L2)]
  refine x_iload hG (pc := 1072) dL_law_1072 rfl ?_
  refine x_icmp_eq hG (pc := 1074) 1079 dL_law_1074 (by decide) (fun _ => ?_) (fun z => absurd hthr z)
  refine x_iload hG (pc := 1079) dL_law_1079 rfl ?_
  refine x_if_ne hG (pc := 1081) 1096 dL_law_1081 (by decide) (fun _ => ?_) (fun hz => ?_)
  · refine x_goto hG (pc := 1096) 2017 dL_law_1096 (by decide) ?_
    refine x_iinc hG (pc := 2017) (nI (j + 6)) dL_law_2017 rfl (Nat.le_of_ble_eq_true rfl) rfl (nI_6 j) (by dsimp only [List.set]) ?_
    refine x_goto hG (pc := 2020) 28 dL_law_2020 (by decide) ?_
    exact nx L1 L2 _ w3 _ _ _ _ _ hth hth2 ⟨hR1.frc hF3, hRM3, iv_Giv hI2, ⟨_, hq3⟩, _, hF3.dO hqd2⟩ (by dsimp only [rmk]; omega) (by dsimp only [rmk]; omega)
  · have h0 := nI_z hz hfin.2
    refine x_aload_n hG (pc := 1084) 3 dL_law_1084 rfl rfl ?_
    refine x_iconst hG (pc := 1085) 0 dL_law_1085 (by decide) ?_
    refine x_lald hG (pc := 1086) hq3 vin1 dL_law_1086 ?_
    refine x_iload hG (pc := 1087) dL_law_1087 rfl ?_
    refine x_i2l hG (pc := 1089) dL_law_1089 ?_
    refine x_lcmp hG (pc := 1090) dL_law_1090 ?_
    refine x_if_eq hG (pc := 1091) 1096 dL_law_1091 (by decide) (fun _ => ?_) (fun z => absurd (lgA (hv2 h0)) z)
    refine x_goto hG (pc := 1096) 2017 dL_law_1096 (by decide) ?_
    refine x_iinc hG (pc := 2017) (nI (j + 6)) dL_law_2017 rfl (Nat.le_of_ble_eq_true rfl) rfl (nI_6 j) (by dsimp only [List.set]) ?_
    refine x_goto hG (pc := 2020) 28 dL_law_2020 (by decide) ?_
    exact nx L1 L2 _ w3 _ _ _ _ _ hth hth2 ⟨hR1.frc hF3, hRM3, iv_Giv hI2, ⟨_, hq3⟩, _, hF3.dO hqd2⟩ (by dsimp only [rmk]; omega) (by dsimp only [rmk]; omega)
set_option maxHeartbeats 1000000 in
set_option maxRecDepth 100000 in
theorem law_13 : Lcs 1099 := by
  intro nm g b L xs qo qd j N Lc Lm S w kc ks z6 z7 z8 hG hO hX hj hL hN nx hI hkc hks
  obtain ⟨hRC, hRM, hI2, ⟨fo, hqo⟩, fd, hqd⟩ := hI
  have hdd := hI2.1.2.2.2.2.2.1
  obtain ⟨A1, hA1⟩ : ∃ y, xs (nI j + 1).toNatClampNeg = y := ⟨_, rfl⟩
  obtain ⟨A2, hA2⟩ : ∃ y, xs (nI j + 2).toNatClampNeg = y := ⟨_, rfl⟩
  obtain ⟨A3, hA3⟩ : ∃ y, xs (nI j + 3).toNatClampNeg = y := ⟨_, rfl⟩
  obtain ⟨A4, hA4⟩ : ∃ y, xs (nI j + 4).toNatClampNeg = y := ⟨_, rfl⟩
  obtain ⟨A5, hA5⟩ : ∃ y, xs (nI j + 5).toNatClampNeg = y := ⟨_, rfl⟩
  refine x_aload_n hG (pc := 1099) 1 dL_law_1099 rfl rfl ?_
  refine x_aload_n hG (pc := 1100) 0 dL_law_1100 rfl rfl ?_
  refine x_iload hG (pc := 1101) dL_law_1101 rfl ?_
  refine x_iconst hG (pc := 1103) 1 dL_law_1103 (by decide) ?_
  refine x_iadd hG (pc := 1104) dL_law_1104 ?_
  refine x_sld hG (pc := 1105) hX (sc_in 1 rfl (by omega) hL) hA1 dL_law_1105 ?_
  refine x_aload_n hG (pc := 1106) 0 dL_law_1106 rfl rfl ?_
  refine x_iload hG (pc := 1107) dL_law_1107 rfl ?_
  refine x_iconst hG (pc := 1109) 2 dL_law_1109 (by decide) ?_
  refine x_iadd hG (pc := 1110) dL_law_1110 ?_
  refine x_sld hG (pc := 1111) hX (sc_in 2 rfl (by omega) hL) hA2 dL_law_1111 ?_
  refine x_aload_n hG (pc := 1112) 3 dL_law_1112 rfl rfl ?_
  refine x_callSHN hG hO (pc := 1113) [_, _, _, _] c_L_walk lk_L_157 rfl rfl ⟨Nat.le_of_ble_eq_true rfl, Nat.le_of_ble_eq_true rfl⟩ (Nat.le_of_ble_eq_true rfl) (by rw [hG.mc]; dsimp only [rmk]; omega) (by rw [hG.ms]; dsimp only [rmk]; omega) dL_law_1113 ?_
  refine ⟨Lc, S, qo, fo, A1, A2, rfl, hqo, hRC, hI2.1, fun L1 w2 f1 hth hR1 hF2 hq2 hv2 => ?_⟩
  have hRM2 := hRM.frq hF2 (Nat.le_of_ble_eq_true rfl)
  have hqd2 := hF2.dO hqd
  have hfin := fin_Wal (S := S) (i := A1) (s := A2)
  have hdy := congrArg Int32.toInt (day_Wal (S := S) (i := A1) (s := A2))
  show X g w2 _ _ 1116 _ [.int (nI (oWal S A1 A2).1)]
  refine x_istore hG (pc := 1116) dL_law_1116 (Nat.le_of_ble_eq_true rfl) rfl (by dsimp only [List.set]) ?_
  refine x_aload_n hG (pc := 1118) 2 dL_law_1118 rfl rfl ?_
  refine x_aload_n hG (pc := 1119) 0 dL_law_1119 rfl rfl ?_
  refine x_iload hG (pc := 1120) dL_law_1120 rfl ?_
  refine x_iconst hG (pc := 1122) 1 dL_law_1122 (by decide) ?_
  refine x_iadd hG (pc := 1123) dL_law_1123 ?_
  refine x_sld hG (pc := 1124) hX (sc_in 1 rfl (by omega) hL) hA1 dL_law_1124 ?_
  refine x_aload_n hG (pc := 1125) 0 dL_law_1125 rfl rfl ?_
  refine x_iload hG (pc := 1126) dL_law_1126 rfl ?_
  refine x_iconst hG (pc := 1128) 2 dL_law_1128 (by decide) ?_
  refine x_iadd hG (pc := 1129) dL_law_1129 ?_
  refine x_sld hG (pc := 1130) hX (sc_in 2 rfl (by omega) hL) hA2 dL_law_1130 ?_
  refine x_callVN hG hO (pc := 1131) [_, _] c_X7_walk lk_L_159 hRM2.main rfl rfl ⟨Nat.le_of_ble_eq_true rfl, Nat.le_of_ble_eq_true rfl⟩ (Nat.le_of_ble_eq_true rfl) (by rw [hG.mc]; dsimp only [rmk]; omega) (by rw [hG.ms]; dsimp only [rmk]; omega) dL_law_1131 ?_
  refine ⟨Lm, S, A1, A2, rfl, hRM2, hI2, fun L2 w3 hth2 hthr hRM3 hF3 => ?_⟩
  show X g w3 _ _ 1134 _ [.int (oWal S A1 A2).2.1]
  have hm3 := hRM3.main
  rw [show L2.1 (50, 0, 0) = Lm.1 (50, 0, 0) from hth2] at hm3
  have hq3 := hF3.lo hq2
  refine x_istore hG (pc := 1134) dL_law_1134 (Nat.le_of_ble_eq_true rfl) rfl (by dsimp only [List.set]) ?_
  refine x_aload_n hG (pc := 1136) 2 dL_law_1136 rfl rfl ?_
  refine x_callVN hG hO (pc := 1137) [] c_X7_thrown lk_L_112 hm3 rfl rfl ⟨Nat.le_of_ble_eq_true rfl, Nat.le_of_ble_eq_true rfl⟩ (Nat.le_of_ble_eq_true rfl) (by rw [hG.mc]; dsimp only [rmk]; omega) (by rw [hG.ms]; dsimp only [rmk]; omega) dL_law_1137 ?_
  refine ⟨L2, _, congrArg (fun z => [Value.ref z]) hth2.symm, hRM3, ?_⟩
  show X g w3 _ _ 1140 _ [.int (thr L2)]
  refine x_iload hG (pc := 1140) dL_law_1140 rfl ?_
  refine x_icmp_eq hG (pc := 1142) 1147 dL_law_1142 (by decide) (fun _ => ?_) (fun z => absurd hthr z)
  refine x_iload hG (pc := 1147) dL_law_1147 rfl ?_
  refine x_if_ne hG (pc := 1149) 1171 dL_law_1149 (by decide) (fun _ => ?_) (fun hz => ?_)
  · refine x_goto hG (pc := 1171) 2017 dL_law_1171 (by decide) ?_
    refine x_iinc hG (pc := 2017) (nI (j + 6)) dL_law_2017 rfl (Nat.le_of_ble_eq_true rfl) rfl (nI_6 j) (by dsimp only [List.set]) ?_
    refine x_goto hG (pc := 2020) 28 dL_law_2020 (by decide) ?_
    exact nx L1 L2 _ w3 _ _ _ _ _ hth hth2 ⟨hR1.frc hF3, hRM3, iv_Wal hI2, ⟨_, hq3⟩, _, hF3.dO hqd2⟩ (by dsimp only [rmk]; omega) (by dsimp only [rmk]; omega)
  · have h0 := nI_z hz hfin.2
    refine x_aload_n hG (pc := 1152) 3 dL_law_1152 rfl rfl ?_
    refine x_iconst hG (pc := 1153) 0 dL_law_1153 (by decide) ?_
    refine x_lald hG (pc := 1154) hq3 vin1 dL_law_1154 ?_
    refine x_iload hG (pc := 1155) dL_law_1155 rfl ?_
    refine x_if_eq hG (pc := 1157) 1164 dL_law_1157 (by decide) (fun hb3 => ?_) (fun hb3 => ?_)
    · refine x_lconst hG (pc := 1164) 0 dL_law_1164 (by decide) ?_
      refine x_lcmp hG (pc := 1165) dL_law_1165 ?_
      refine x_if_eq hG (pc := 1166) 1171 dL_law_1166 (by decide) (fun _ => ?_) (fun z => absurd (lgA ((hv2 h0).trans (if_pos hb3))) z)
      refine x_goto hG (pc := 1171) 2017 dL_law_1171 (by decide) ?_
      refine x_iinc hG (pc := 2017) (nI (j + 6)) dL_law_2017 rfl (Nat.le_of_ble_eq_true rfl) rfl (nI_6 j) (by dsimp only [List.set]) ?_
      refine x_goto hG (pc := 2020) 28 dL_law_2020 (by decide) ?_
      exact nx L1 L2 _ w3 _ _ _ _ _ hth hth2 ⟨hR1.frc hF3, hRM3, iv_Wal hI2, ⟨_, hq3⟩, _, hF3.dO hqd2⟩ (by dsimp only [rmk]; omega) (by dsimp only [rmk]; omega)
    · refine x_lconst hG (pc := 1160) 1 dL_law_1160 (by decide) ?_
      refine x_goto hG (pc := 1161) 1165 dL_law_1161 (by decide) ?_
      refine x_lcmp hG (pc := 1165) dL_law_1165 ?_
      refine x_if_eq hG (pc := 1166) 1171 dL_law_1166 (by decide) (fun _ => ?_) (fun z => absurd (lgA ((hv2 h0).trans (if_neg hb3))) z)
      refine x_goto hG (pc := 1171) 2017 dL_law_1171 (by decide) ?_
      refine x_iinc hG (pc := 2017) (nI (j + 6)) dL_law_2017 rfl (Nat.le_of_ble_eq_true rfl) rfl (nI_6 j) (by dsimp only [List.set]) ?_
      refine x_goto hG (pc := 2020) 28 dL_law_2020 (by decide) ?_
      exact nx L1 L2 _ w3 _ _ _ _ _ hth hth2 ⟨hR1.frc hF3, hRM3, iv_Wal hI2, ⟨_, hq3⟩, _, hF3.dO hqd2⟩ (by dsimp only [rmk]; omega) (by dsimp only [rmk]; omega)
set_option maxHeartbeats 1000000 in
set_option maxRecDepth 100000 in
theorem law_14 : Lcs 1174 := by
  intro nm g b L xs qo qd j N Lc Lm S w kc ks z6 z7 z8 hG hO hX hj hL hN nx hI hkc hks
  obtain ⟨hRC, hRM, hI2, ⟨fo, hqo⟩, fd, hqd⟩ := hI
  have hdd := hI2.1.2.2.2.2.2.1
  obtain ⟨A1, hA1⟩ : ∃ y, xs (nI j + 1).toNatClampNeg = y := ⟨_, rfl⟩
  obtain ⟨A2, hA2⟩ : ∃ y, xs (nI j + 2).toNatClampNeg = y := ⟨_, rfl⟩
  obtain ⟨A3, hA3⟩ : ∃ y, xs (nI j + 3).toNatClampNeg = y := ⟨_, rfl⟩
  obtain ⟨A4, hA4⟩ : ∃ y, xs (nI j + 4).toNatClampNeg = y := ⟨_, rfl⟩
  obtain ⟨A5, hA5⟩ : ∃ y, xs (nI j + 5).toNatClampNeg = y := ⟨_, rfl⟩
  refine x_aload_n hG (pc := 1174) 1 dL_law_1174 rfl rfl ?_
  refine x_aload_n hG (pc := 1175) 0 dL_law_1175 rfl rfl ?_
  refine x_iload hG (pc := 1176) dL_law_1176 rfl ?_
  refine x_iconst hG (pc := 1178) 1 dL_law_1178 (by decide) ?_
  refine x_iadd hG (pc := 1179) dL_law_1179 ?_
  refine x_sld hG (pc := 1180) hX (sc_in 1 rfl (by omega) hL) hA1 dL_law_1180 ?_
  refine x_aload_n hG (pc := 1181) 0 dL_law_1181 rfl rfl ?_
  refine x_iload hG (pc := 1182) dL_law_1182 rfl ?_
  refine x_iconst hG (pc := 1184) 2 dL_law_1184 (by decide) ?_
  refine x_iadd hG (pc := 1185) dL_law_1185 ?_
  refine x_sld hG (pc := 1186) hX (sc_in 2 rfl (by omega) hL) hA2 dL_law_1186 ?_
  refine x_aload_n hG (pc := 1187) 3 dL_law_1187 rfl rfl ?_
  refine x_callSHN hG hO (pc := 1188) [_, _, _, _] c_L_ofSection lk_L_160 rfl rfl ⟨Nat.le_of_ble_eq_true rfl, Nat.le_of_ble_eq_true rfl⟩ (Nat.le_of_ble_eq_true rfl) (by rw [hG.mc]; dsimp only [rmk]; omega) (by rw [hG.ms]; dsimp only [rmk]; omega) dL_law_1188 ?_
  refine ⟨Lc, S, qo, fo, A1, A2, rfl, hqo, hRC, hI2.1, fun L1 w2 f1 hth hR1 hF2 hq2 hv2 => ?_⟩
  have hRM2 := hRM.frq hF2 (Nat.le_of_ble_eq_true rfl)
  have hqd2 := hF2.dO hqd
  have hfin := fin_OfS (S := S) (i := A1) (u := A2)
  have hdy := congrArg Int32.toInt (day_OfS (S := S) (i := A1) (u := A2))
  show X g w2 _ _ 1191 _ [.int (nI (oOfS S A1 A2).1)]
  refine x_istore hG (pc := 1191) dL_law_1191 (Nat.le_of_ble_eq_true rfl) rfl (by dsimp only [List.set]) ?_
  refine x_aload_n hG (pc := 1193) 2 dL_law_1193 rfl rfl ?_
  refine x_aload_n hG (pc := 1194) 0 dL_law_1194 rfl rfl ?_
  refine x_iload hG (pc := 1195) dL_law_1195 rfl ?_
  refine x_iconst hG (pc := 1197) 1 dL_law_1197 (by decide) ?_
  refine x_iadd hG (pc := 1198) dL_law_1198 ?_
  refine x_sld hG (pc := 1199) hX (sc_in 1 rfl (by omega) hL) hA1 dL_law_1199 ?_
  refine x_aload_n hG (pc := 1200) 0 dL_law_1200 rfl rfl ?_
  refine x_iload hG (pc := 1201) dL_law_1201 rfl ?_
  refine x_iconst hG (pc := 1203) 2 dL_law_1203 (by decide) ?_
  refine x_iadd hG (pc := 1204) dL_law_1204 ?_
  refine x_sld hG (pc := 1205) hX (sc_in 2 rfl (by omega) hL) hA2 dL_law_1205 ?_
  refine x_callVN hG hO (pc := 1206) [_, _] c_X7_ofSection lk_L_162 hRM2.main rfl rfl ⟨Nat.le_of_ble_eq_true rfl, Nat.le_of_ble_eq_true rfl⟩ (Nat.le_of_ble_eq_true rfl) (by rw [hG.mc]; dsimp only [rmk]; omega) (by rw [hG.ms]; dsimp only [rmk]; omega) dL_law_1206 ?_
  refine ⟨Lm, S, A1, A2, rfl, hRM2, hI2, fun L2 w3 hth2 hthr hRM3 hF3 => ?_⟩
  show X g w3 _ _ 1209 _ [.int (oOfS S A1 A2).2.1]
  have hm3 := hRM3.main
  rw [show L2.1 (50, 0, 0) = Lm.1 (50, 0, 0) from hth2] at hm3
  have hq3 := hF3.lo hq2
  refine x_istore hG (pc := 1209) dL_law_1209 (Nat.le_of_ble_eq_true rfl) rfl (by dsimp only [List.set]) ?_
  refine x_aload_n hG (pc := 1211) 2 dL_law_1211 rfl rfl ?_
  refine x_callVN hG hO (pc := 1212) [] c_X7_thrown lk_L_112 hm3 rfl rfl ⟨Nat.le_of_ble_eq_true rfl, Nat.le_of_ble_eq_true rfl⟩ (Nat.le_of_ble_eq_true rfl) (by rw [hG.mc]; dsimp only [rmk]; omega) (by rw [hG.ms]; dsimp only [rmk]; omega) dL_law_1212 ?_
  refine ⟨L2, _, congrArg (fun z => [Value.ref z]) hth2.symm, hRM3, ?_⟩
  show X g w3 _ _ 1215 _ [.int (thr L2)]
  refine x_iload hG (pc := 1215) dL_law_1215 rfl ?_
  refine x_icmp_eq hG (pc := 1217) 1222 dL_law_1217 (by decide) (fun _ => ?_) (fun z => absurd hthr z)
  refine x_iload hG (pc := 1222) dL_law_1222 rfl ?_
  refine x_if_ne hG (pc := 1224) 1239 dL_law_1224 (by decide) (fun _ => ?_) (fun hz => ?_)
  · refine x_goto hG (pc := 1239) 2017 dL_law_1239 (by decide) ?_
    refine x_iinc hG (pc := 2017) (nI (j + 6)) dL_law_2017 rfl (Nat.le_of_ble_eq_true rfl) rfl (nI_6 j) (by dsimp only [List.set]) ?_
    refine x_goto hG (pc := 2020) 28 dL_law_2020 (by decide) ?_
    exact nx L1 L2 _ w3 _ _ _ _ _ hth hth2 ⟨hR1.frc hF3, hRM3, iv_OfS hI2, ⟨_, hq3⟩, _, hF3.dO hqd2⟩ (by dsimp only [rmk]; omega) (by dsimp only [rmk]; omega)
  · have h0 := nI_z hz hfin.2
    refine x_aload_n hG (pc := 1227) 3 dL_law_1227 rfl rfl ?_
    refine x_iconst hG (pc := 1228) 0 dL_law_1228 (by decide) ?_
    refine x_lald hG (pc := 1229) hq3 vin1 dL_law_1229 ?_
    refine x_iload hG (pc := 1230) dL_law_1230 rfl ?_
    refine x_i2l hG (pc := 1232) dL_law_1232 ?_
    refine x_lcmp hG (pc := 1233) dL_law_1233 ?_
    refine x_if_eq hG (pc := 1234) 1239 dL_law_1234 (by decide) (fun _ => ?_) (fun z => absurd (lgA (hv2 h0)) z)
    refine x_goto hG (pc := 1239) 2017 dL_law_1239 (by decide) ?_
    refine x_iinc hG (pc := 2017) (nI (j + 6)) dL_law_2017 rfl (Nat.le_of_ble_eq_true rfl) rfl (nI_6 j) (by dsimp only [List.set]) ?_
    refine x_goto hG (pc := 2020) 28 dL_law_2020 (by decide) ?_
    exact nx L1 L2 _ w3 _ _ _ _ _ hth hth2 ⟨hR1.frc hF3, hRM3, iv_OfS hI2, ⟨_, hq3⟩, _, hF3.dO hqd2⟩ (by dsimp only [rmk]; omega) (by dsimp only [rmk]; omega)
set_option maxHeartbeats 1000000 in
set_option maxRecDepth 100000 in
theorem law_15 : Lcs 1242 := by
  intro nm g b L xs qo qd j N Lc Lm S w kc ks z6 z7 z8 hG hO hX hj hL hN nx hI hkc hks
  obtain ⟨hRC, hRM, hI2, ⟨fo, hqo⟩, fd, hqd⟩ := hI
  have hdd := hI2.1.2.2.2.2.2.1
  obtain ⟨A1, hA1⟩ : ∃ y, xs (nI j + 1).toNatClampNeg = y := ⟨_, rfl⟩
  obtain ⟨A2, hA2⟩ : ∃ y, xs (nI j + 2).toNatClampNeg = y := ⟨_, rfl⟩
  obtain ⟨A3, hA3⟩ : ∃ y, xs (nI j + 3).toNatClampNeg = y := ⟨_, rfl⟩
  obtain ⟨A4, hA4⟩ : ∃ y, xs (nI j + 4).toNatClampNeg = y := ⟨_, rfl⟩
  obtain ⟨A5, hA5⟩ : ∃ y, xs (nI j + 5).toNatClampNeg = y := ⟨_, rfl⟩
  refine x_aload_n hG (pc := 1242) 1 dL_law_1242 rfl rfl ?_
  refine x_aload_n hG (pc := 1243) 0 dL_law_1243 rfl rfl ?_
  refine x_iload hG (pc := 1244) dL_law_1244 rfl ?_
  refine x_iconst hG (pc := 1246) 1 dL_law_1246 (by decide) ?_
  refine x_iadd hG (pc := 1247) dL_law_1247 ?_
  refine x_sld hG (pc := 1248) hX (sc_in 1 rfl (by omega) hL) hA1 dL_law_1248 ?_
  refine x_aload_n hG (pc := 1249) 0 dL_law_1249 rfl rfl ?_
  refine x_iload hG (pc := 1250) dL_law_1250 rfl ?_
  refine x_iconst hG (pc := 1252) 2 dL_law_1252 (by decide) ?_
  refine x_iadd hG (pc := 1253) dL_law_1253 ?_
  refine x_sld hG (pc := 1254) hX (sc_in 2 rfl (by omega) hL) hA2 dL_law_1254 ?_
  refine x_aload_n hG (pc := 1255) 3 dL_law_1255 rfl rfl ?_
  refine x_callSHN hG hO (pc := 1256) [_, _, _, _] c_L_known lk_L_163 rfl rfl ⟨Nat.le_of_ble_eq_true rfl, Nat.le_of_ble_eq_true rfl⟩ (Nat.le_of_ble_eq_true rfl) (by rw [hG.mc]; dsimp only [rmk]; omega) (by rw [hG.ms]; dsimp only [rmk]; omega) dL_law_1256 ?_
  refine ⟨Lc, S, qo, fo, A1, A2, rfl, hqo, hRC, hI2.1, fun L1 w2 f1 hth hR1 hF2 hq2 hv2 => ?_⟩
  have hRM2 := hRM.frq hF2 (Nat.le_of_ble_eq_true rfl)
  have hqd2 := hF2.dO hqd
  have hfin := fin_Kno (S := S) (i := A1) (u := A2)
  have hdy := congrArg Int32.toInt (day_Kno (S := S) (i := A1) (u := A2))
  show X g w2 _ _ 1259 _ [.int (nI (oKno S A1 A2).1)]
  refine x_istore hG (pc := 1259) dL_law_1259 (Nat.le_of_ble_eq_true rfl) rfl (by dsimp only [List.set]) ?_
  refine x_aload_n hG (pc := 1261) 2 dL_law_1261 rfl rfl ?_
  refine x_aload_n hG (pc := 1262) 0 dL_law_1262 rfl rfl ?_
  refine x_iload hG (pc := 1263) dL_law_1263 rfl ?_
  refine x_iconst hG (pc := 1265) 1 dL_law_1265 (by decide) ?_
  refine x_iadd hG (pc := 1266) dL_law_1266 ?_
  refine x_sld hG (pc := 1267) hX (sc_in 1 rfl (by omega) hL) hA1 dL_law_1267 ?_
  refine x_aload_n hG (pc := 1268) 0 dL_law_1268 rfl rfl ?_
  refine x_iload hG (pc := 1269) dL_law_1269 rfl ?_
  refine x_iconst hG (pc := 1271) 2 dL_law_1271 (by decide) ?_
  refine x_iadd hG (pc := 1272) dL_law_1272 ?_
  refine x_sld hG (pc := 1273) hX (sc_in 2 rfl (by omega) hL) hA2 dL_law_1273 ?_
  refine x_callVN hG hO (pc := 1274) [_, _] c_X7_known lk_L_165 hRM2.main rfl rfl ⟨Nat.le_of_ble_eq_true rfl, Nat.le_of_ble_eq_true rfl⟩ (Nat.le_of_ble_eq_true rfl) (by rw [hG.mc]; dsimp only [rmk]; omega) (by rw [hG.ms]; dsimp only [rmk]; omega) dL_law_1274 ?_
  refine ⟨Lm, S, A1, A2, rfl, hRM2, hI2, fun L2 w3 hth2 hthr hRM3 hF3 => ?_⟩
  show X g w3 _ _ 1277 _ [.int (oKno S A1 A2).2.1]
  have hm3 := hRM3.main
  rw [show L2.1 (50, 0, 0) = Lm.1 (50, 0, 0) from hth2] at hm3
  have hq3 := hF3.lo hq2
  refine x_istore hG (pc := 1277) dL_law_1277 (Nat.le_of_ble_eq_true rfl) rfl (by dsimp only [List.set]) ?_
  refine x_aload_n hG (pc := 1279) 2 dL_law_1279 rfl rfl ?_
  refine x_callVN hG hO (pc := 1280) [] c_X7_thrown lk_L_112 hm3 rfl rfl ⟨Nat.le_of_ble_eq_true rfl, Nat.le_of_ble_eq_true rfl⟩ (Nat.le_of_ble_eq_true rfl) (by rw [hG.mc]; dsimp only [rmk]; omega) (by rw [hG.ms]; dsimp only [rmk]; omega) dL_law_1280 ?_
  refine ⟨L2, _, congrArg (fun z => [Value.ref z]) hth2.symm, hRM3, ?_⟩
  show X g w3 _ _ 1283 _ [.int (thr L2)]
  refine x_iload hG (pc := 1283) dL_law_1283 rfl ?_
  refine x_icmp_eq hG (pc := 1285) 1290 dL_law_1285 (by decide) (fun _ => ?_) (fun z => absurd hthr z)
  refine x_iload hG (pc := 1290) dL_law_1290 rfl ?_
  refine x_if_ne hG (pc := 1292) 1307 dL_law_1292 (by decide) (fun _ => ?_) (fun hz => ?_)
  · refine x_goto hG (pc := 1307) 2017 dL_law_1307 (by decide) ?_
    refine x_iinc hG (pc := 2017) (nI (j + 6)) dL_law_2017 rfl (Nat.le_of_ble_eq_true rfl) rfl (nI_6 j) (by dsimp only [List.set]) ?_
    refine x_goto hG (pc := 2020) 28 dL_law_2020 (by decide) ?_
    exact nx L1 L2 _ w3 _ _ _ _ _ hth hth2 ⟨hR1.frc hF3, hRM3, iv_Kno hI2, ⟨_, hq3⟩, _, hF3.dO hqd2⟩ (by dsimp only [rmk]; omega) (by dsimp only [rmk]; omega)
  · have h0 := nI_z hz hfin.2
    refine x_aload_n hG (pc := 1295) 3 dL_law_1295 rfl rfl ?_
    refine x_iconst hG (pc := 1296) 0 dL_law_1296 (by decide) ?_
    refine x_lald hG (pc := 1297) hq3 vin1 dL_law_1297 ?_
    refine x_iload hG (pc := 1298) dL_law_1298 rfl ?_
    refine x_i2l hG (pc := 1300) dL_law_1300 ?_
    refine x_lcmp hG (pc := 1301) dL_law_1301 ?_
    refine x_if_eq hG (pc := 1302) 1307 dL_law_1302 (by decide) (fun _ => ?_) (fun z => absurd (lgA (hv2 h0)) z)
    refine x_goto hG (pc := 1307) 2017 dL_law_1307 (by decide) ?_
    refine x_iinc hG (pc := 2017) (nI (j + 6)) dL_law_2017 rfl (Nat.le_of_ble_eq_true rfl) rfl (nI_6 j) (by dsimp only [List.set]) ?_
    refine x_goto hG (pc := 2020) 28 dL_law_2020 (by decide) ?_
    exact nx L1 L2 _ w3 _ _ _ _ _ hth hth2 ⟨hR1.frc hF3, hRM3, iv_Kno hI2, ⟨_, hq3⟩, _, hF3.dO hqd2⟩ (by dsimp only [rmk]; omega) (by dsimp only [rmk]; omega)
set_option maxHeartbeats 1000000 in
set_option maxRecDepth 100000 in
theorem law_16 : Lcs 1310 := by
  intro nm g b L xs qo qd j N Lc Lm S w kc ks z6 z7 z8 hG hO hX hj hL hN nx hI hkc hks
  obtain ⟨hRC, hRM, hI2, ⟨fo, hqo⟩, fd, hqd⟩ := hI
  have hdd := hI2.1.2.2.2.2.2.1
  obtain ⟨A1, hA1⟩ : ∃ y, xs (nI j + 1).toNatClampNeg = y := ⟨_, rfl⟩
  obtain ⟨A2, hA2⟩ : ∃ y, xs (nI j + 2).toNatClampNeg = y := ⟨_, rfl⟩
  obtain ⟨A3, hA3⟩ : ∃ y, xs (nI j + 3).toNatClampNeg = y := ⟨_, rfl⟩
  obtain ⟨A4, hA4⟩ : ∃ y, xs (nI j + 4).toNatClampNeg = y := ⟨_, rfl⟩
  obtain ⟨A5, hA5⟩ : ∃ y, xs (nI j + 5).toNatClampNeg = y := ⟨_, rfl⟩
  refine x_aload_n hG (pc := 1310) 1 dL_law_1310 rfl rfl ?_
  refine x_aload_n hG (pc := 1311) 0 dL_law_1311 rfl rfl ?_
  refine x_iload hG (pc := 1312) dL_law_1312 rfl ?_
  refine x_iconst hG (pc := 1314) 1 dL_law_1314 (by decide) ?_
  refine x_iadd hG (pc := 1315) dL_law_1315 ?_
  refine x_sld hG (pc := 1316) hX (sc_in 1 rfl (by omega) hL) hA1 dL_law_1316 ?_
  refine x_aload_n hG (pc := 1317) 0 dL_law_1317 rfl rfl ?_
  refine x_iload hG (pc := 1318) dL_law_1318 rfl ?_
  refine x_iconst hG (pc := 1320) 2 dL_law_1320 (by decide) ?_
  refine x_iadd hG (pc := 1321) dL_law_1321 ?_
  refine x_sld hG (pc := 1322) hX (sc_in 2 rfl (by omega) hL) hA2 dL_law_1322 ?_
  refine x_if_eq hG (pc := 1323) 1330 dL_law_1323 (by decide) (fun hb2 => ?_) (fun hb2 => ?_)
  · refine x_iconst hG (pc := 1330) 0 dL_law_1330 (by decide) ?_
    refine x_aload_n hG (pc := 1331) 3 dL_law_1331 rfl rfl ?_
    refine x_callSHN hG hO (pc := 1332) [_, _, _, _] c_L_why lk_L_166 rfl rfl ⟨Nat.le_of_ble_eq_true rfl, Nat.le_of_ble_eq_true rfl⟩ (Nat.le_of_ble_eq_true rfl) (by rw [hG.mc]; dsimp only [rmk]; omega) (by rw [hG.ms]; dsimp only [rmk]; omega) dL_law_1332 ?_
    refine ⟨Lc, S, qo, fo, A1, 0, rfl, hqo, hRC, hI2.1, fun L1 w2 f1 hth hR1 hF2 hq2 hv2 => ?_⟩
    have hRM2 := hRM.frq hF2 (Nat.le_of_ble_eq_true rfl)
    have hqd2 := hF2.dO hqd
    have hfin := fin_Why (S := S) (i := A1) (b := 0)
    have hdy := congrArg Int32.toInt (day_Why (S := S) (i := A1) (b := 0))
    show X g w2 _ _ 1335 _ [.int (nI (oWhy S A1 0).1)]
    refine x_istore hG (pc := 1335) dL_law_1335 (Nat.le_of_ble_eq_true rfl) rfl (by dsimp only [List.set]) ?_
    refine x_aload_n hG (pc := 1337) 2 dL_law_1337 rfl rfl ?_
    refine x_aload_n hG (pc := 1338) 0 dL_law_1338 rfl rfl ?_
    refine x_iload hG (pc := 1339) dL_law_1339 rfl ?_
    refine x_iconst hG (pc := 1341) 1 dL_law_1341 (by decide) ?_
    refine x_iadd hG (pc := 1342) dL_law_1342 ?_
    refine x_sld hG (pc := 1343) hX (sc_in 1 rfl (by omega) hL) hA1 dL_law_1343 ?_
    refine x_aload_n hG (pc := 1344) 0 dL_law_1344 rfl rfl ?_
    refine x_iload hG (pc := 1345) dL_law_1345 rfl ?_
    refine x_iconst hG (pc := 1347) 2 dL_law_1347 (by decide) ?_
    refine x_iadd hG (pc := 1348) dL_law_1348 ?_
    refine x_sld hG (pc := 1349) hX (sc_in 2 rfl (by omega) hL) hA2 dL_law_1349 ?_
    refine x_if_eq hG (pc := 1350) 1357 dL_law_1350 (by decide) (fun _ => ?_) (fun z => absurd hb2 z)
    refine x_iconst hG (pc := 1357) 0 dL_law_1357 (by decide) ?_
    refine x_callVN hG hO (pc := 1358) [_, _] c_X7_why lk_L_168 hRM2.main rfl rfl ⟨Nat.le_of_ble_eq_true rfl, Nat.le_of_ble_eq_true rfl⟩ (Nat.le_of_ble_eq_true rfl) (by rw [hG.mc]; dsimp only [rmk]; omega) (by rw [hG.ms]; dsimp only [rmk]; omega) dL_law_1358 ?_
    refine ⟨Lm, S, A1, 0, rfl, hRM2, hI2, fun L2 w3 hth2 hthr hRM3 hF3 => ?_⟩
    show X g w3 _ _ 1361 _ [.int (oWhy S A1 0).2.1]
    have hm3 := hRM3.main
    rw [show L2.1 (50, 0, 0) = Lm.1 (50, 0, 0) from hth2] at hm3
    have hq3 := hF3.lo hq2
    refine x_istore hG (pc := 1361) dL_law_1361 (Nat.le_of_ble_eq_true rfl) rfl (by dsimp only [List.set]) ?_
    refine x_aload_n hG (pc := 1363) 2 dL_law_1363 rfl rfl ?_
    refine x_callVN hG hO (pc := 1364) [] c_X7_thrown lk_L_112 hm3 rfl rfl ⟨Nat.le_of_ble_eq_true rfl, Nat.le_of_ble_eq_true rfl⟩ (Nat.le_of_ble_eq_true rfl) (by rw [hG.mc]; dsimp only [rmk]; omega) (by rw [hG.ms]; dsimp only [rmk]; omega) dL_law_1364 ?_
    refine ⟨L2, _, congrArg (fun z => [Value.ref z]) hth2.symm, hRM3, ?_⟩
    show X g w3 _ _ 1367 _ [.int (thr L2)]
    refine x_iload hG (pc := 1367) dL_law_1367 rfl ?_
    refine x_icmp_eq hG (pc := 1369) 1374 dL_law_1369 (by decide) (fun _ => ?_) (fun z => absurd hthr z)
    refine x_iload hG (pc := 1374) dL_law_1374 rfl ?_
    refine x_if_ne hG (pc := 1376) 1391 dL_law_1376 (by decide) (fun _ => ?_) (fun hz => ?_)
    · refine x_goto hG (pc := 1391) 2017 dL_law_1391 (by decide) ?_
      refine x_iinc hG (pc := 2017) (nI (j + 6)) dL_law_2017 rfl (Nat.le_of_ble_eq_true rfl) rfl (nI_6 j) (by dsimp only [List.set]) ?_
      refine x_goto hG (pc := 2020) 28 dL_law_2020 (by decide) ?_
      exact nx L1 L2 _ w3 _ _ _ _ _ hth hth2 ⟨hR1.frc hF3, hRM3, iv_Why hI2, ⟨_, hq3⟩, _, hF3.dO hqd2⟩ (by dsimp only [rmk]; omega) (by dsimp only [rmk]; omega)
    · have h0 := nI_z hz hfin.2
      refine x_aload_n hG (pc := 1379) 3 dL_law_1379 rfl rfl ?_
      refine x_iconst hG (pc := 1380) 0 dL_law_1380 (by decide) ?_
      refine x_lald hG (pc := 1381) hq3 vin1 dL_law_1381 ?_
      refine x_iload hG (pc := 1382) dL_law_1382 rfl ?_
      refine x_i2l hG (pc := 1384) dL_law_1384 ?_
      refine x_lcmp hG (pc := 1385) dL_law_1385 ?_
      refine x_if_eq hG (pc := 1386) 1391 dL_law_1386 (by decide) (fun _ => ?_) (fun z => absurd (lgA (hv2 h0)) z)
      refine x_goto hG (pc := 1391) 2017 dL_law_1391 (by decide) ?_
      refine x_iinc hG (pc := 2017) (nI (j + 6)) dL_law_2017 rfl (Nat.le_of_ble_eq_true rfl) rfl (nI_6 j) (by dsimp only [List.set]) ?_
      refine x_goto hG (pc := 2020) 28 dL_law_2020 (by decide) ?_
      exact nx L1 L2 _ w3 _ _ _ _ _ hth hth2 ⟨hR1.frc hF3, hRM3, iv_Why hI2, ⟨_, hq3⟩, _, hF3.dO hqd2⟩ (by dsimp only [rmk]; omega) (by dsimp only [rmk]; omega)
  · refine x_iconst hG (pc := 1326) 1 dL_law_1326 (by decide) ?_
    refine x_goto hG (pc := 1327) 1331 dL_law_1327 (by decide) ?_
    refine x_aload_n hG (pc := 1331) 3 dL_law_1331 rfl rfl ?_
    refine x_callSHN hG hO (pc := 1332) [_, _, _, _] c_L_why lk_L_166 rfl rfl ⟨Nat.le_of_ble_eq_true rfl, Nat.le_of_ble_eq_true rfl⟩ (Nat.le_of_ble_eq_true rfl) (by rw [hG.mc]; dsimp only [rmk]; omega) (by rw [hG.ms]; dsimp only [rmk]; omega) dL_law_1332 ?_
    refine ⟨Lc, S, qo, fo, A1, 1, rfl, hqo, hRC, hI2.1, fun L1 w2 f1 hth hR1 hF2 hq2 hv2 => ?_⟩
    have hRM2 := hRM.frq hF2 (Nat.le_of_ble_eq_true rfl)
    have hqd2 := hF2.dO hqd
    have hfin := fin_Why (S := S) (i := A1) (b := 1)
    have hdy := congrArg Int32.toInt (day_Why (S := S) (i := A1) (b := 1))
    show X g w2 _ _ 1335 _ [.int (nI (oWhy S A1 1).1)]
    refine x_istore hG (pc := 1335) dL_law_1335 (Nat.le_of_ble_eq_true rfl) rfl (by dsimp only [List.set]) ?_
    refine x_aload_n hG (pc := 1337) 2 dL_law_1337 rfl rfl ?_
    refine x_aload_n hG (pc := 1338) 0 dL_law_1338 rfl rfl ?_
    refine x_iload hG (pc := 1339) dL_law_1339 rfl ?_
    refine x_iconst hG (pc := 1341) 1 dL_law_1341 (by decide) ?_
    refine x_iadd hG (pc := 1342) dL_law_1342 ?_
    refine x_sld hG (pc := 1343) hX (sc_in 1 rfl (by omega) hL) hA1 dL_law_1343 ?_
    refine x_aload_n hG (pc := 1344) 0 dL_law_1344 rfl rfl ?_
    refine x_iload hG (pc := 1345) dL_law_1345 rfl ?_
    refine x_iconst hG (pc := 1347) 2 dL_law_1347 (by decide) ?_
    refine x_iadd hG (pc := 1348) dL_law_1348 ?_
    refine x_sld hG (pc := 1349) hX (sc_in 2 rfl (by omega) hL) hA2 dL_law_1349 ?_
    refine x_if_eq hG (pc := 1350) 1357 dL_law_1350 (by decide) (fun z => absurd z hb2) (fun _ => ?_)
    refine x_iconst hG (pc := 1353) 1 dL_law_1353 (by decide) ?_
    refine x_goto hG (pc := 1354) 1358 dL_law_1354 (by decide) ?_
    refine x_callVN hG hO (pc := 1358) [_, _] c_X7_why lk_L_168 hRM2.main rfl rfl ⟨Nat.le_of_ble_eq_true rfl, Nat.le_of_ble_eq_true rfl⟩ (Nat.le_of_ble_eq_true rfl) (by rw [hG.mc]; dsimp only [rmk]; omega) (by rw [hG.ms]; dsimp only [rmk]; omega) dL_law_1358 ?_
    refine ⟨Lm, S, A1, 1, rfl, hRM2, hI2, fun L2 w3 hth2 hthr hRM3 hF3 => ?_⟩
    show X g w3 _ _ 1361 _ [.int (oWhy S A1 1).2.1]
    have hm3 := hRM3.main
    rw [show L2.1 (50, 0, 0) = Lm.1 (50, 0, 0) from hth2] at hm3
    have hq3 := hF3.lo hq2
    refine x_istore hG (pc := 1361) dL_law_1361 (Nat.le_of_ble_eq_true rfl) rfl (by dsimp only [List.set]) ?_
    refine x_aload_n hG (pc := 1363) 2 dL_law_1363 rfl rfl ?_
    refine x_callVN hG hO (pc := 1364) [] c_X7_thrown lk_L_112 hm3 rfl rfl ⟨Nat.le_of_ble_eq_true rfl, Nat.le_of_ble_eq_true rfl⟩ (Nat.le_of_ble_eq_true rfl) (by rw [hG.mc]; dsimp only [rmk]; omega) (by rw [hG.ms]; dsimp only [rmk]; omega) dL_law_1364 ?_
    refine ⟨L2, _, congrArg (fun z => [Value.ref z]) hth2.symm, hRM3, ?_⟩
    show X g w3 _ _ 1367 _ [.int (thr L2)]
    refine x_iload hG (pc := 1367) dL_law_1367 rfl ?_
    refine x_icmp_eq hG (pc := 1369) 1374 dL_law_1369 (by decide) (fun _ => ?_) (fun z => absurd hthr z)
    refine x_iload hG (pc := 1374) dL_law_1374 rfl ?_
    refine x_if_ne hG (pc := 1376) 1391 dL_law_1376 (by decide) (fun _ => ?_) (fun hz => ?_)
    · refine x_goto hG (pc := 1391) 2017 dL_law_1391 (by decide) ?_
      refine x_iinc hG (pc := 2017) (nI (j + 6)) dL_law_2017 rfl (Nat.le_of_ble_eq_true rfl) rfl (nI_6 j) (by dsimp only [List.set]) ?_
      refine x_goto hG (pc := 2020) 28 dL_law_2020 (by decide) ?_
      exact nx L1 L2 _ w3 _ _ _ _ _ hth hth2 ⟨hR1.frc hF3, hRM3, iv_Why hI2, ⟨_, hq3⟩, _, hF3.dO hqd2⟩ (by dsimp only [rmk]; omega) (by dsimp only [rmk]; omega)
    · have h0 := nI_z hz hfin.2
      refine x_aload_n hG (pc := 1379) 3 dL_law_1379 rfl rfl ?_
      refine x_iconst hG (pc := 1380) 0 dL_law_1380 (by decide) ?_
      refine x_lald hG (pc := 1381) hq3 vin1 dL_law_1381 ?_
      refine x_iload hG (pc := 1382) dL_law_1382 rfl ?_
      refine x_i2l hG (pc := 1384) dL_law_1384 ?_
      refine x_lcmp hG (pc := 1385) dL_law_1385 ?_
      refine x_if_eq hG (pc := 1386) 1391 dL_law_1386 (by decide) (fun _ => ?_) (fun z => absurd (lgA (hv2 h0)) z)
      refine x_goto hG (pc := 1391) 2017 dL_law_1391 (by decide) ?_
      refine x_iinc hG (pc := 2017) (nI (j + 6)) dL_law_2017 rfl (Nat.le_of_ble_eq_true rfl) rfl (nI_6 j) (by dsimp only [List.set]) ?_
      refine x_goto hG (pc := 2020) 28 dL_law_2020 (by decide) ?_
      exact nx L1 L2 _ w3 _ _ _ _ _ hth hth2 ⟨hR1.frc hF3, hRM3, iv_Why hI2, ⟨_, hq3⟩, _, hF3.dO hqd2⟩ (by dsimp only [rmk]; omega) (by dsimp only [rmk]; omega)
set_option maxHeartbeats 1000000 in
set_option maxRecDepth 100000 in
theorem law_17 : Lcs 1394 := by
  intro nm g b L xs qo qd j N Lc Lm S w kc ks z6 z7 z8 hG hO hX hj hL hN nx hI hkc hks
  obtain ⟨hRC, hRM, hI2, ⟨fo, hqo⟩, fd, hqd⟩ := hI
  have hdd := hI2.1.2.2.2.2.2.1
  obtain ⟨A1, hA1⟩ : ∃ y, xs (nI j + 1).toNatClampNeg = y := ⟨_, rfl⟩
  obtain ⟨A2, hA2⟩ : ∃ y, xs (nI j + 2).toNatClampNeg = y := ⟨_, rfl⟩
  obtain ⟨A3, hA3⟩ : ∃ y, xs (nI j + 3).toNatClampNeg = y := ⟨_, rfl⟩
  obtain ⟨A4, hA4⟩ : ∃ y, xs (nI j + 4).toNatClampNeg = y := ⟨_, rfl⟩
  obtain ⟨A5, hA5⟩ : ∃ y, xs (nI j + 5).toNatClampNeg = y := ⟨_, rfl⟩
  refine x_aload_n hG (pc := 1394) 1 dL_law_1394 rfl rfl ?_
  refine x_aload_n hG (pc := 1395) 0 dL_law_1395 rfl rfl ?_
  refine x_iload hG (pc := 1396) dL_law_1396 rfl ?_
  refine x_iconst hG (pc := 1398) 1 dL_law_1398 (by decide) ?_
  refine x_iadd hG (pc := 1399) dL_law_1399 ?_
  refine x_sld hG (pc := 1400) hX (sc_in 1 rfl (by omega) hL) hA1 dL_law_1400 ?_
  refine x_aload_n hG (pc := 1401) 0 dL_law_1401 rfl rfl ?_
  refine x_iload hG (pc := 1402) dL_law_1402 rfl ?_
  refine x_iconst hG (pc := 1404) 2 dL_law_1404 (by decide) ?_
  refine x_iadd hG (pc := 1405) dL_law_1405 ?_
  refine x_sld hG (pc := 1406) hX (sc_in 2 rfl (by omega) hL) hA2 dL_law_1406 ?_
  refine x_aload_n hG (pc := 1407) 3 dL_law_1407 rfl rfl ?_
  refine x_callSHN hG hO (pc := 1408) [_, _, _, _] c_L_ofMachine lk_L_169 rfl rfl ⟨Nat.le_of_ble_eq_true rfl, Nat.le_of_ble_eq_true rfl⟩ (Nat.le_of_ble_eq_true rfl) (by rw [hG.mc]; dsimp only [rmk]; omega) (by rw [hG.ms]; dsimp only [rmk]; omega) dL_law_1408 ?_
  refine ⟨Lc, S, qo, fo, A1, A2, rfl, hqo, hRC, hI2.1, fun L1 w2 f1 hth hR1 hF2 hq2 hv2 => ?_⟩
  have hRM2 := hRM.frq hF2 (Nat.le_of_ble_eq_true rfl)
  have hqd2 := hF2.dO hqd
  have hfin := fin_OfM (S := S) (i := A1) (u := A2)
  have hdy := congrArg Int32.toInt (day_OfM (S := S) (i := A1) (u := A2))
  show X g w2 _ _ 1411 _ [.int (nI (oOfM S A1 A2).1)]
  refine x_istore hG (pc := 1411) dL_law_1411 (Nat.le_of_ble_eq_true rfl) rfl (by dsimp only [List.set]) ?_
  refine x_aload_n hG (pc := 1413) 2 dL_law_1413 rfl rfl ?_
  refine x_aload_n hG (pc := 1414) 0 dL_law_1414 rfl rfl ?_
  refine x_iload hG (pc := 1415) dL_law_1415 rfl ?_
  refine x_iconst hG (pc := 1417) 1 dL_law_1417 (by decide) ?_
  refine x_iadd hG (pc := 1418) dL_law_1418 ?_
  refine x_sld hG (pc := 1419) hX (sc_in 1 rfl (by omega) hL) hA1 dL_law_1419 ?_
  refine x_aload_n hG (pc := 1420) 0 dL_law_1420 rfl rfl ?_
  refine x_iload hG (pc := 1421) dL_law_1421 rfl ?_
  refine x_iconst hG (pc := 1423) 2 dL_law_1423 (by decide) ?_
  refine x_iadd hG (pc := 1424) dL_law_1424 ?_
  refine x_sld hG (pc := 1425) hX (sc_in 2 rfl (by omega) hL) hA2 dL_law_1425 ?_
  refine x_callVN hG hO (pc := 1426) [_, _] c_X7_ofMachine lk_L_171 hRM2.main rfl rfl ⟨Nat.le_of_ble_eq_true rfl, Nat.le_of_ble_eq_true rfl⟩ (Nat.le_of_ble_eq_true rfl) (by rw [hG.mc]; dsimp only [rmk]; omega) (by rw [hG.ms]; dsimp only [rmk]; omega) dL_law_1426 ?_
  refine ⟨Lm, S, A1, A2, rfl, hRM2, hI2, fun L2 w3 hth2 hthr hRM3 hF3 => ?_⟩
  show X g w3 _ _ 1429 _ [.int (oOfM S A1 A2).2.1]
  have hm3 := hRM3.main
  rw [show L2.1 (50, 0, 0) = Lm.1 (50, 0, 0) from hth2] at hm3
  have hq3 := hF3.lo hq2
  refine x_istore hG (pc := 1429) dL_law_1429 (Nat.le_of_ble_eq_true rfl) rfl (by dsimp only [List.set]) ?_
  refine x_aload_n hG (pc := 1431) 2 dL_law_1431 rfl rfl ?_
  refine x_callVN hG hO (pc := 1432) [] c_X7_thrown lk_L_112 hm3 rfl rfl ⟨Nat.le_of_ble_eq_true rfl, Nat.le_of_ble_eq_true rfl⟩ (Nat.le_of_ble_eq_true rfl) (by rw [hG.mc]; dsimp only [rmk]; omega) (by rw [hG.ms]; dsimp only [rmk]; omega) dL_law_1432 ?_
  refine ⟨L2, _, congrArg (fun z => [Value.ref z]) hth2.symm, hRM3, ?_⟩
  show X g w3 _ _ 1435 _ [.int (thr L2)]
  refine x_iload hG (pc := 1435) dL_law_1435 rfl ?_
  refine x_icmp_eq hG (pc := 1437) 1442 dL_law_1437 (by decide) (fun _ => ?_) (fun z => absurd hthr z)
  refine x_iload hG (pc := 1442) dL_law_1442 rfl ?_
  refine x_if_ne hG (pc := 1444) 1459 dL_law_1444 (by decide) (fun _ => ?_) (fun hz => ?_)
  · refine x_goto hG (pc := 1459) 2017 dL_law_1459 (by decide) ?_
    refine x_iinc hG (pc := 2017) (nI (j + 6)) dL_law_2017 rfl (Nat.le_of_ble_eq_true rfl) rfl (nI_6 j) (by dsimp only [List.set]) ?_
    refine x_goto hG (pc := 2020) 28 dL_law_2020 (by decide) ?_
    exact nx L1 L2 _ w3 _ _ _ _ _ hth hth2 ⟨hR1.frc hF3, hRM3, iv_OfM hI2, ⟨_, hq3⟩, _, hF3.dO hqd2⟩ (by dsimp only [rmk]; omega) (by dsimp only [rmk]; omega)
  · have h0 := nI_z hz hfin.2
    refine x_aload_n hG (pc := 1447) 3 dL_law_1447 rfl rfl ?_
    refine x_iconst hG (pc := 1448) 0 dL_law_1448 (by decide) ?_
    refine x_lald hG (pc := 1449) hq3 vin1 dL_law_1449 ?_
    refine x_iload hG (pc := 1450) dL_law_1450 rfl ?_
    refine x_i2l hG (pc := 1452) dL_law_1452 ?_
    refine x_lcmp hG (pc := 1453) dL_law_1453 ?_
    refine x_if_eq hG (pc := 1454) 1459 dL_law_1454 (by decide) (fun _ => ?_) (fun z => absurd (lgA (hv2 h0)) z)
    refine x_goto hG (pc := 1459) 2017 dL_law_1459 (by decide) ?_
    refine x_iinc hG (pc := 2017) (nI (j + 6)) dL_law_2017 rfl (Nat.le_of_ble_eq_true rfl) rfl (nI_6 j) (by dsimp only [List.set]) ?_
    refine x_goto hG (pc := 2020) 28 dL_law_2020 (by decide) ?_
    exact nx L1 L2 _ w3 _ _ _ _ _ hth hth2 ⟨hR1.frc hF3, hRM3, iv_OfM hI2, ⟨_, hq3⟩, _, hF3.dO hqd2⟩ (by dsimp only [rmk]; omega) (by dsimp only [rmk]; omega)
set_option maxHeartbeats 1000000 in
set_option maxRecDepth 100000 in
theorem law_18 : Lcs 1462 := by
  intro nm g b L xs qo qd j N Lc Lm S w kc ks z6 z7 z8 hG hO hX hj hL hN nx hI hkc hks
  obtain ⟨hRC, hRM, hI2, ⟨fo, hqo⟩, fd, hqd⟩ := hI
  have hdd := hI2.1.2.2.2.2.2.1
  obtain ⟨A1, hA1⟩ : ∃ y, xs (nI j + 1).toNatClampNeg = y := ⟨_, rfl⟩
  obtain ⟨A2, hA2⟩ : ∃ y, xs (nI j + 2).toNatClampNeg = y := ⟨_, rfl⟩
  obtain ⟨A3, hA3⟩ : ∃ y, xs (nI j + 3).toNatClampNeg = y := ⟨_, rfl⟩
  obtain ⟨A4, hA4⟩ : ∃ y, xs (nI j + 4).toNatClampNeg = y := ⟨_, rfl⟩
  obtain ⟨A5, hA5⟩ : ∃ y, xs (nI j + 5).toNatClampNeg = y := ⟨_, rfl⟩
  refine x_aload_n hG (pc := 1462) 1 dL_law_1462 rfl rfl ?_
  refine x_aload_n hG (pc := 1463) 0 dL_law_1463 rfl rfl ?_
  refine x_iload hG (pc := 1464) dL_law_1464 rfl ?_
  refine x_iconst hG (pc := 1466) 1 dL_law_1466 (by decide) ?_
  refine x_iadd hG (pc := 1467) dL_law_1467 ?_
  refine x_sld hG (pc := 1468) hX (sc_in 1 rfl (by omega) hL) hA1 dL_law_1468 ?_
  refine x_aload_n hG (pc := 1469) 0 dL_law_1469 rfl rfl ?_
  refine x_iload hG (pc := 1470) dL_law_1470 rfl ?_
  refine x_iconst hG (pc := 1472) 2 dL_law_1472 (by decide) ?_
  refine x_iadd hG (pc := 1473) dL_law_1473 ?_
  refine x_sld hG (pc := 1474) hX (sc_in 2 rfl (by omega) hL) hA2 dL_law_1474 ?_
  refine x_aload_n hG (pc := 1475) 3 dL_law_1475 rfl rfl ?_
  refine x_callSHN hG hO (pc := 1476) [_, _, _, _] c_L_ofPossession lk_L_172 rfl rfl ⟨Nat.le_of_ble_eq_true rfl, Nat.le_of_ble_eq_true rfl⟩ (Nat.le_of_ble_eq_true rfl) (by rw [hG.mc]; dsimp only [rmk]; omega) (by rw [hG.ms]; dsimp only [rmk]; omega) dL_law_1476 ?_
  refine ⟨Lc, S, qo, fo, A1, A2, rfl, hqo, hRC, hI2.1, fun L1 w2 f1 hth hR1 hF2 hq2 hv2 => ?_⟩
  have hRM2 := hRM.frq hF2 (Nat.le_of_ble_eq_true rfl)
  have hqd2 := hF2.dO hqd
  have hfin := fin_OfN (S := S) (i := A1) (u := A2)
  have hdy := congrArg Int32.toInt (day_OfN (S := S) (i := A1) (u := A2))
  show X g w2 _ _ 1479 _ [.int (nI (oOfN S A1 A2).1)]
  refine x_istore hG (pc := 1479) dL_law_1479 (Nat.le_of_ble_eq_true rfl) rfl (by dsimp only [List.set]) ?_
  refine x_aload_n hG (pc := 1481) 2 dL_law_1481 rfl rfl ?_
  refine x_aload_n hG (pc := 1482) 0 dL_law_1482 rfl rfl ?_
  refine x_iload hG (pc := 1483) dL_law_1483 rfl ?_
  refine x_iconst hG (pc := 1485) 1 dL_law_1485 (by decide) ?_
  refine x_iadd hG (pc := 1486) dL_law_1486 ?_
  refine x_sld hG (pc := 1487) hX (sc_in 1 rfl (by omega) hL) hA1 dL_law_1487 ?_
  refine x_aload_n hG (pc := 1488) 0 dL_law_1488 rfl rfl ?_
  refine x_iload hG (pc := 1489) dL_law_1489 rfl ?_
  refine x_iconst hG (pc := 1491) 2 dL_law_1491 (by decide) ?_
  refine x_iadd hG (pc := 1492) dL_law_1492 ?_
  refine x_sld hG (pc := 1493) hX (sc_in 2 rfl (by omega) hL) hA2 dL_law_1493 ?_
  refine x_callVN hG hO (pc := 1494) [_, _] c_X7_ofPossession lk_L_174 hRM2.main rfl rfl ⟨Nat.le_of_ble_eq_true rfl, Nat.le_of_ble_eq_true rfl⟩ (Nat.le_of_ble_eq_true rfl) (by rw [hG.mc]; dsimp only [rmk]; omega) (by rw [hG.ms]; dsimp only [rmk]; omega) dL_law_1494 ?_
  refine ⟨Lm, S, A1, A2, rfl, hRM2, hI2, fun L2 w3 hth2 hthr hRM3 hF3 => ?_⟩
  show X g w3 _ _ 1497 _ [.int (oOfN S A1 A2).2.1]
  have hm3 := hRM3.main
  rw [show L2.1 (50, 0, 0) = Lm.1 (50, 0, 0) from hth2] at hm3
  have hq3 := hF3.lo hq2
  refine x_istore hG (pc := 1497) dL_law_1497 (Nat.le_of_ble_eq_true rfl) rfl (by dsimp only [List.set]) ?_
  refine x_aload_n hG (pc := 1499) 2 dL_law_1499 rfl rfl ?_
  refine x_callVN hG hO (pc := 1500) [] c_X7_thrown lk_L_112 hm3 rfl rfl ⟨Nat.le_of_ble_eq_true rfl, Nat.le_of_ble_eq_true rfl⟩ (Nat.le_of_ble_eq_true rfl) (by rw [hG.mc]; dsimp only [rmk]; omega) (by rw [hG.ms]; dsimp only [rmk]; omega) dL_law_1500 ?_
  refine ⟨L2, _, congrArg (fun z => [Value.ref z]) hth2.symm, hRM3, ?_⟩
  show X g w3 _ _ 1503 _ [.int (thr L2)]
  refine x_iload hG (pc := 1503) dL_law_1503 rfl ?_
  refine x_icmp_eq hG (pc := 1505) 1510 dL_law_1505 (by decide) (fun _ => ?_) (fun z => absurd hthr z)
  refine x_iload hG (pc := 1510) dL_law_1510 rfl ?_
  refine x_if_ne hG (pc := 1512) 1527 dL_law_1512 (by decide) (fun _ => ?_) (fun hz => ?_)
  · refine x_goto hG (pc := 1527) 2017 dL_law_1527 (by decide) ?_
    refine x_iinc hG (pc := 2017) (nI (j + 6)) dL_law_2017 rfl (Nat.le_of_ble_eq_true rfl) rfl (nI_6 j) (by dsimp only [List.set]) ?_
    refine x_goto hG (pc := 2020) 28 dL_law_2020 (by decide) ?_
    exact nx L1 L2 _ w3 _ _ _ _ _ hth hth2 ⟨hR1.frc hF3, hRM3, iv_OfN hI2, ⟨_, hq3⟩, _, hF3.dO hqd2⟩ (by dsimp only [rmk]; omega) (by dsimp only [rmk]; omega)
  · have h0 := nI_z hz hfin.2
    refine x_aload_n hG (pc := 1515) 3 dL_law_1515 rfl rfl ?_
    refine x_iconst hG (pc := 1516) 0 dL_law_1516 (by decide) ?_
    refine x_lald hG (pc := 1517) hq3 vin1 dL_law_1517 ?_
    refine x_iload hG (pc := 1518) dL_law_1518 rfl ?_
    refine x_i2l hG (pc := 1520) dL_law_1520 ?_
    refine x_lcmp hG (pc := 1521) dL_law_1521 ?_
    refine x_if_eq hG (pc := 1522) 1527 dL_law_1522 (by decide) (fun _ => ?_) (fun z => absurd (lgA (hv2 h0)) z)
    refine x_goto hG (pc := 1527) 2017 dL_law_1527 (by decide) ?_
    refine x_iinc hG (pc := 2017) (nI (j + 6)) dL_law_2017 rfl (Nat.le_of_ble_eq_true rfl) rfl (nI_6 j) (by dsimp only [List.set]) ?_
    refine x_goto hG (pc := 2020) 28 dL_law_2020 (by decide) ?_
    exact nx L1 L2 _ w3 _ _ _ _ _ hth hth2 ⟨hR1.frc hF3, hRM3, iv_OfN hI2, ⟨_, hq3⟩, _, hF3.dO hqd2⟩ (by dsimp only [rmk]; omega) (by dsimp only [rmk]; omega)
set_option maxHeartbeats 1000000 in
set_option maxRecDepth 100000 in
theorem law_19 : Lcs 1530 := by
  intro nm g b L xs qo qd j N Lc Lm S w kc ks z6 z7 z8 hG hO hX hj hL hN nx hI hkc hks
  obtain ⟨hRC, hRM, hI2, ⟨fo, hqo⟩, fd, hqd⟩ := hI
  have hdd := hI2.1.2.2.2.2.2.1
  obtain ⟨A1, hA1⟩ : ∃ y, xs (nI j + 1).toNatClampNeg = y := ⟨_, rfl⟩
  obtain ⟨A2, hA2⟩ : ∃ y, xs (nI j + 2).toNatClampNeg = y := ⟨_, rfl⟩
  obtain ⟨A3, hA3⟩ : ∃ y, xs (nI j + 3).toNatClampNeg = y := ⟨_, rfl⟩
  obtain ⟨A4, hA4⟩ : ∃ y, xs (nI j + 4).toNatClampNeg = y := ⟨_, rfl⟩
  obtain ⟨A5, hA5⟩ : ∃ y, xs (nI j + 5).toNatClampNeg = y := ⟨_, rfl⟩
  refine x_aload_n hG (pc := 1530) 1 dL_law_1530 rfl rfl ?_
  refine x_aload_n hG (pc := 1531) 0 dL_law_1531 rfl rfl ?_
  refine x_iload hG (pc := 1532) dL_law_1532 rfl ?_
  refine x_iconst hG (pc := 1534) 1 dL_law_1534 (by decide) ?_
  refine x_iadd hG (pc := 1535) dL_law_1535 ?_
  refine x_sld hG (pc := 1536) hX (sc_in 1 rfl (by omega) hL) hA1 dL_law_1536 ?_
  refine x_aload_n hG (pc := 1537) 3 dL_law_1537 rfl rfl ?_
  refine x_callSHN hG hO (pc := 1538) [_, _, _] c_L_many lk_L_175 rfl rfl ⟨Nat.le_of_ble_eq_true rfl, Nat.le_of_ble_eq_true rfl⟩ (Nat.le_of_ble_eq_true rfl) (by rw [hG.mc]; dsimp only [rmk]; omega) (by rw [hG.ms]; dsimp only [rmk]; omega) dL_law_1538 ?_
  refine ⟨Lc, S, qo, fo, A1, rfl, hqo, hRC, hI2.1, fun L1 w2 f1 hth hR1 hF2 hq2 hv2 => ?_⟩
  have hRM2 := hRM.frq hF2 (Nat.le_of_ble_eq_true rfl)
  have hqd2 := hF2.dO hqd
  have hfin := fin_Man (S := S) (u := A1)
  have hdy := congrArg Int32.toInt (day_Man (S := S) (u := A1))
  show X g w2 _ _ 1541 _ [.int (nI (oMan S A1).1)]
  refine x_istore hG (pc := 1541) dL_law_1541 (Nat.le_of_ble_eq_true rfl) rfl (by dsimp only [List.set]) ?_
  refine x_aload_n hG (pc := 1543) 2 dL_law_1543 rfl rfl ?_
  refine x_aload_n hG (pc := 1544) 0 dL_law_1544 rfl rfl ?_
  refine x_iload hG (pc := 1545) dL_law_1545 rfl ?_
  refine x_iconst hG (pc := 1547) 1 dL_law_1547 (by decide) ?_
  refine x_iadd hG (pc := 1548) dL_law_1548 ?_
  refine x_sld hG (pc := 1549) hX (sc_in 1 rfl (by omega) hL) hA1 dL_law_1549 ?_
  refine x_callVN hG hO (pc := 1550) [_] c_X7_many lk_L_177 hRM2.main rfl rfl ⟨Nat.le_of_ble_eq_true rfl, Nat.le_of_ble_eq_true rfl⟩ (Nat.le_of_ble_eq_true rfl) (by rw [hG.mc]; dsimp only [rmk]; omega) (by rw [hG.ms]; dsimp only [rmk]; omega) dL_law_1550 ?_
  refine ⟨Lm, S, A1, rfl, hRM2, hI2, fun L2 w3 hth2 hthr hRM3 hF3 => ?_⟩
  show X g w3 _ _ 1553 _ [.int (oMan S A1).2.1]
  have hm3 := hRM3.main
  rw [show L2.1 (50, 0, 0) = Lm.1 (50, 0, 0) from hth2] at hm3
  have hq3 := hF3.lo hq2
  refine x_istore hG (pc := 1553) dL_law_1553 (Nat.le_of_ble_eq_true rfl) rfl (by dsimp only [List.set]) ?_
  refine x_aload_n hG (pc := 1555) 2 dL_law_1555 rfl rfl ?_
  refine x_callVN hG hO (pc := 1556) [] c_X7_thrown lk_L_112 hm3 rfl rfl ⟨Nat.le_of_ble_eq_true rfl, Nat.le_of_ble_eq_true rfl⟩ (Nat.le_of_ble_eq_true rfl) (by rw [hG.mc]; dsimp only [rmk]; omega) (by rw [hG.ms]; dsimp only [rmk]; omega) dL_law_1556 ?_
  refine ⟨L2, _, congrArg (fun z => [Value.ref z]) hth2.symm, hRM3, ?_⟩
  show X g w3 _ _ 1559 _ [.int (thr L2)]
  refine x_iload hG (pc := 1559) dL_law_1559 rfl ?_
  refine x_icmp_eq hG (pc := 1561) 1566 dL_law_1561 (by decide) (fun _ => ?_) (fun z => absurd hthr z)
  refine x_iload hG (pc := 1566) dL_law_1566 rfl ?_
  refine x_if_ne hG (pc := 1568) 1583 dL_law_1568 (by decide) (fun _ => ?_) (fun hz => ?_)
  · refine x_goto hG (pc := 1583) 2017 dL_law_1583 (by decide) ?_
    refine x_iinc hG (pc := 2017) (nI (j + 6)) dL_law_2017 rfl (Nat.le_of_ble_eq_true rfl) rfl (nI_6 j) (by dsimp only [List.set]) ?_
    refine x_goto hG (pc := 2020) 28 dL_law_2020 (by decide) ?_
    exact nx L1 L2 _ w3 _ _ _ _ _ hth hth2 ⟨hR1.frc hF3, hRM3, iv_Man hI2, ⟨_, hq3⟩, _, hF3.dO hqd2⟩ (by dsimp only [rmk]; omega) (by dsimp only [rmk]; omega)
  · have h0 := nI_z hz hfin.2
    refine x_aload_n hG (pc := 1571) 3 dL_law_1571 rfl rfl ?_
    refine x_iconst hG (pc := 1572) 0 dL_law_1572 (by decide) ?_
    refine x_lald hG (pc := 1573) hq3 vin1 dL_law_1573 ?_
    refine x_iload hG (pc := 1574) dL_law_1574 rfl ?_
    refine x_i2l hG (pc := 1576) dL_law_1576 ?_
    refine x_lcmp hG (pc := 1577) dL_law_1577 ?_
    refine x_if_eq hG (pc := 1578) 1583 dL_law_1578 (by decide) (fun _ => ?_) (fun z => absurd (lgA (hv2 h0)) z)
    refine x_goto hG (pc := 1583) 2017 dL_law_1583 (by decide) ?_
    refine x_iinc hG (pc := 2017) (nI (j + 6)) dL_law_2017 rfl (Nat.le_of_ble_eq_true rfl) rfl (nI_6 j) (by dsimp only [List.set]) ?_
    refine x_goto hG (pc := 2020) 28 dL_law_2020 (by decide) ?_
    exact nx L1 L2 _ w3 _ _ _ _ _ hth hth2 ⟨hR1.frc hF3, hRM3, iv_Man hI2, ⟨_, hq3⟩, _, hF3.dO hqd2⟩ (by dsimp only [rmk]; omega) (by dsimp only [rmk]; omega)
set_option maxHeartbeats 1000000 in
set_option maxRecDepth 100000 in
theorem law_20 : Lcs 1586 := by
  intro nm g b L xs qo qd j N Lc Lm S w kc ks z6 z7 z8 hG hO hX hj hL hN nx hI hkc hks
  obtain ⟨hRC, hRM, hI2, ⟨fo, hqo⟩, fd, hqd⟩ := hI
  have hdd := hI2.1.2.2.2.2.2.1
  obtain ⟨A1, hA1⟩ : ∃ y, xs (nI j + 1).toNatClampNeg = y := ⟨_, rfl⟩
  obtain ⟨A2, hA2⟩ : ∃ y, xs (nI j + 2).toNatClampNeg = y := ⟨_, rfl⟩
  obtain ⟨A3, hA3⟩ : ∃ y, xs (nI j + 3).toNatClampNeg = y := ⟨_, rfl⟩
  obtain ⟨A4, hA4⟩ : ∃ y, xs (nI j + 4).toNatClampNeg = y := ⟨_, rfl⟩
  obtain ⟨A5, hA5⟩ : ∃ y, xs (nI j + 5).toNatClampNeg = y := ⟨_, rfl⟩
  refine x_aload_n hG (pc := 1586) 1 dL_law_1586 rfl rfl ?_
  refine x_aload_n hG (pc := 1587) 0 dL_law_1587 rfl rfl ?_
  refine x_iload hG (pc := 1588) dL_law_1588 rfl ?_
  refine x_iconst hG (pc := 1590) 1 dL_law_1590 (by decide) ?_
  refine x_iadd hG (pc := 1591) dL_law_1591 ?_
  refine x_sld hG (pc := 1592) hX (sc_in 1 rfl (by omega) hL) hA1 dL_law_1592 ?_
  refine x_aload hG (pc := 1593) dL_law_1593 rfl ?_
  refine x_callSHN hG hO (pc := 1595) [_, _, _] c_L_meanWear lk_L_178 rfl rfl ⟨Nat.le_of_ble_eq_true rfl, Nat.le_of_ble_eq_true rfl⟩ (Nat.le_of_ble_eq_true rfl) (by rw [hG.mc]; dsimp only [rmk]; omega) (by rw [hG.ms]; dsimp only [rmk]; omega) dL_law_1595 ?_
  refine ⟨Lc, S, qd, fd, A1, rfl, hqd, hRC, hI2.1, fun k hk et w2 f1 hR1 hF2 hq2 hv2 => ?_, fun ht => ?_⟩
  · show X g w2 _ _ 1598 _ [.int 0]
    have hRM2 := hRM.frq hF2 (Nat.le_of_ble_eq_true rfl)
    have hqo2 := hF2.lo hqo
    refine x_istore hG (pc := 1598) dL_law_1598 (Nat.le_of_ble_eq_true rfl) rfl (by dsimp only [List.set]) ?_
    refine x_aload_n hG (pc := 1600) 2 dL_law_1600 rfl rfl ?_
    refine x_aload_n hG (pc := 1601) 0 dL_law_1601 rfl rfl ?_
    refine x_iload hG (pc := 1602) dL_law_1602 rfl ?_
    refine x_iconst hG (pc := 1604) 1 dL_law_1604 (by decide) ?_
    refine x_iadd hG (pc := 1605) dL_law_1605 ?_
    refine x_sld hG (pc := 1606) hX (sc_in 1 rfl (by omega) hL) hA1 dL_law_1606 ?_
    refine x_callVN hG hO (pc := 1607) [_] c_X7_meanWear lk_L_181 hRM2.main rfl rfl ⟨Nat.le_of_ble_eq_true rfl, Nat.le_of_ble_eq_true rfl⟩ (Nat.le_of_ble_eq_true rfl) (by rw [hG.mc]; dsimp only [rmk]; omega) (by rw [hG.ms]; dsimp only [rmk]; omega) dL_law_1607 ?_
    refine ⟨Lm, S, A1, rfl, hRM2, hI2, fun k2 hk2 et2 w3 hRM3 hF3 => ?_, fun ht => (mw_abs hk et ht).elim⟩
    obtain rfl := mw_eq hk et hk2 et2
    show X g w3 _ _ 1610 _ [.double (FP.ddiv (FP.i2d (mwS S k2)) 0x4024000000000000)]
    have hq3 := hF3.dO hq2
    refine x_dstore hG (pc := 1610) dL_law_1610 (Nat.le_of_ble_eq_true rfl) rfl (by dsimp only [List.set]) ?_
    refine x_aload_n hG (pc := 1612) 2 dL_law_1612 rfl rfl ?_
    refine x_callVN hG hO (pc := 1613) [] c_X7_thrown lk_L_112 hRM3.main rfl rfl ⟨Nat.le_of_ble_eq_true rfl, Nat.le_of_ble_eq_true rfl⟩ (Nat.le_of_ble_eq_true rfl) (by rw [hG.mc]; dsimp only [rmk]; omega) (by rw [hG.ms]; dsimp only [rmk]; omega) dL_law_1613 ?_
    refine ⟨_, _, rfl, hRM3, ?_⟩
    show X g w3 _ _ 1616 _ [.int 0]
    refine x_iload hG (pc := 1616) dL_law_1616 rfl ?_
    refine x_icmp_eq hG (pc := 1618) 1623 dL_law_1618 (by decide) (fun _ => ?_) (fun z => absurd rfl z)
    refine x_iload hG (pc := 1623) dL_law_1623 rfl ?_
    refine x_if_ne hG (pc := 1625) 1660 dL_law_1625 (by decide) (fun z => absurd rfl z) (fun _ => ?_)
    have hv3 : f1 (0 : Int32).toNatClampNeg = FP.ddiv (FP.i2d (mwS S k2)) 0x4024000000000000 := hv2
    refine x_aload hG (pc := 1628) dL_law_1628 rfl ?_
    refine x_iconst hG (pc := 1630) 0 dL_law_1630 (by decide) ?_
    refine x_dald hG (pc := 1631) hq3 vin1 dL_law_1631 ?_
    rw [hv3]
    refine x_dload hG (pc := 1632) dL_law_1632 rfl ?_
    refine x_dcmp hG (pc := 1634) dL_law_1634 ?_
    refine x_if_eq hG (pc := 1635) 1660 dL_law_1635 (by decide) (fun hc => ?_) (fun hc => ?_)
    · refine x_goto hG (pc := 1660) 2017 dL_law_1660 (by decide) ?_
      refine x_iinc hG (pc := 2017) (nI (j + 6)) dL_law_2017 rfl (Nat.le_of_ble_eq_true rfl) rfl (nI_6 j) (by dsimp only [List.set]) ?_
      refine x_goto hG (pc := 2020) 28 dL_law_2020 (by decide) ?_
      exact nx Lc (lthr Lm 0) _ w3 _ _ _ _ _ rfl rfl ⟨hR1.frc hF3, hRM3, hI2, ⟨_, hF3.lo hqo2⟩, _, hq3⟩ (by dsimp only [rmk]; omega) (by dsimp only [rmk]; omega)
    · refine x_aload hG (pc := 1638) dL_law_1638 rfl ?_
      refine x_iconst hG (pc := 1640) 0 dL_law_1640 (by decide) ?_
      refine x_dald hG (pc := 1641) hq3 vin1 dL_law_1641 ?_
      rw [hv3]
      refine x_aload hG (pc := 1642) dL_law_1642 rfl ?_
      refine x_iconst hG (pc := 1644) 0 dL_law_1644 (by decide) ?_
      refine x_dald hG (pc := 1645) hq3 vin1 dL_law_1645 ?_
      rw [hv3]
      refine x_dcmp hG (pc := 1646) dL_law_1646 ?_
      refine x_if_eq hG (pc := 1647) 1658 dL_law_1647 (by decide) (fun z => absurd z hc) (fun _ => ?_)
      refine x_dload hG (pc := 1650) dL_law_1650 rfl ?_
      refine x_dload hG (pc := 1652) dL_law_1652 rfl ?_
      refine x_dcmp hG (pc := 1654) dL_law_1654 ?_
      refine x_if_ne hG (pc := 1655) 1660 dL_law_1655 (by decide) (fun _ => ?_) (fun z => absurd z hc)
      refine x_goto hG (pc := 1660) 2017 dL_law_1660 (by decide) ?_
      refine x_iinc hG (pc := 2017) (nI (j + 6)) dL_law_2017 rfl (Nat.le_of_ble_eq_true rfl) rfl (nI_6 j) (by dsimp only [List.set]) ?_
      refine x_goto hG (pc := 2020) 28 dL_law_2020 (by decide) ?_
      exact nx Lc (lthr Lm 0) _ w3 _ _ _ _ _ rfl rfl ⟨hR1.frc hF3, hRM3, hI2, ⟨_, hF3.lo hqo2⟩, _, hq3⟩ (by dsimp only [rmk]; omega) (by dsimp only [rmk]; omega)
  · show X g w _ _ 1598 _ [.int 1]
    have hRM2 := hRM
    have hqo2 := hqo
    have hq2 := hqd
    have hR1 := hRC
    refine x_istore hG (pc := 1598) dL_law_1598 (Nat.le_of_ble_eq_true rfl) rfl (by dsimp only [List.set]) ?_
    refine x_aload_n hG (pc := 1600) 2 dL_law_1600 rfl rfl ?_
    refine x_aload_n hG (pc := 1601) 0 dL_law_1601 rfl rfl ?_
    refine x_iload hG (pc := 1602) dL_law_1602 rfl ?_
    refine x_iconst hG (pc := 1604) 1 dL_law_1604 (by decide) ?_
    refine x_iadd hG (pc := 1605) dL_law_1605 ?_
    refine x_sld hG (pc := 1606) hX (sc_in 1 rfl (by omega) hL) hA1 dL_law_1606 ?_
    refine x_callVN hG hO (pc := 1607) [_] c_X7_meanWear lk_L_181 hRM2.main rfl rfl ⟨Nat.le_of_ble_eq_true rfl, Nat.le_of_ble_eq_true rfl⟩ (Nat.le_of_ble_eq_true rfl) (by rw [hG.mc]; dsimp only [rmk]; omega) (by rw [hG.ms]; dsimp only [rmk]; omega) dL_law_1607 ?_
    refine ⟨Lm, S, A1, rfl, hRM2, hI2, fun k2 hk2 et2 => (mw_abs hk2 et2 ht).elim, fun _ w3 hRM3 hF3 => ?_⟩
    show X g w3 _ _ 1610 _ [.double FP.dconst0]
    have hq3 := hF3.dO hq2
    refine x_dstore hG (pc := 1610) dL_law_1610 (Nat.le_of_ble_eq_true rfl) rfl (by dsimp only [List.set]) ?_
    refine x_aload_n hG (pc := 1612) 2 dL_law_1612 rfl rfl ?_
    refine x_callVN hG hO (pc := 1613) [] c_X7_thrown lk_L_112 hRM3.main rfl rfl ⟨Nat.le_of_ble_eq_true rfl, Nat.le_of_ble_eq_true rfl⟩ (Nat.le_of_ble_eq_true rfl) (by rw [hG.mc]; dsimp only [rmk]; omega) (by rw [hG.ms]; dsimp only [rmk]; omega) dL_law_1613 ?_
    refine ⟨_, _, rfl, hRM3, ?_⟩
    show X g w3 _ _ 1616 _ [.int 1]
    refine x_iload hG (pc := 1616) dL_law_1616 rfl ?_
    refine x_icmp_eq hG (pc := 1618) 1623 dL_law_1618 (by decide) (fun _ => ?_) (fun z => absurd rfl z)
    refine x_iload hG (pc := 1623) dL_law_1623 rfl ?_
    refine x_if_ne hG (pc := 1625) 1660 dL_law_1625 (by decide) (fun _ => ?_) (fun z => absurd z (by decide))
    refine x_goto hG (pc := 1660) 2017 dL_law_1660 (by decide) ?_
    refine x_iinc hG (pc := 2017) (nI (j + 6)) dL_law_2017 rfl (Nat.le_of_ble_eq_true rfl) rfl (nI_6 j) (by dsimp only [List.set]) ?_
    refine x_goto hG (pc := 2020) 28 dL_law_2020 (by decide) ?_
    exact nx Lc (lthr Lm 1) _ w3 _ _ _ _ _ rfl rfl ⟨hR1.frc hF3, hRM3, hI2, ⟨_, hF3.lo hqo2⟩, _, hq3⟩ (by dsimp only [rmk]; omega) (by dsimp only [rmk]; omega)
set_option maxHeartbeats 1000000 in
set_option maxRecDepth 100000 in
theorem law_21 : Lcs 1663 := by
  intro nm g b L xs qo qd j N Lc Lm S w kc ks z6 z7 z8 hG hO hX hj hL hN nx hI hkc hks
  obtain ⟨hRC, hRM, hI2, ⟨fo, hqo⟩, fd, hqd⟩ := hI
  have hdd := hI2.1.2.2.2.2.2.1
  obtain ⟨A1, hA1⟩ : ∃ y, xs (nI j + 1).toNatClampNeg = y := ⟨_, rfl⟩
  obtain ⟨A2, hA2⟩ : ∃ y, xs (nI j + 2).toNatClampNeg = y := ⟨_, rfl⟩
  obtain ⟨A3, hA3⟩ : ∃ y, xs (nI j + 3).toNatClampNeg = y := ⟨_, rfl⟩
  obtain ⟨A4, hA4⟩ : ∃ y, xs (nI j + 4).toNatClampNeg = y := ⟨_, rfl⟩
  obtain ⟨A5, hA5⟩ : ∃ y, xs (nI j + 5).toNatClampNeg = y := ⟨_, rfl⟩
  refine x_aload_n hG (pc := 1663) 1 dL_law_1663 rfl rfl ?_
  refine x_aload_n hG (pc := 1664) 0 dL_law_1664 rfl rfl ?_
  refine x_iload hG (pc := 1665) dL_law_1665 rfl ?_
  refine x_iconst hG (pc := 1667) 1 dL_law_1667 (by decide) ?_
  refine x_iadd hG (pc := 1668) dL_law_1668 ?_
  refine x_sld hG (pc := 1669) hX (sc_in 1 rfl (by omega) hL) hA1 dL_law_1669 ?_
  refine x_aload_n hG (pc := 1670) 3 dL_law_1670 rfl rfl ?_
  refine x_callSHN hG hO (pc := 1671) [_, _, _] c_L_couldSee lk_L_182 rfl rfl ⟨Nat.le_of_ble_eq_true rfl, Nat.le_of_ble_eq_true rfl⟩ (Nat.le_of_ble_eq_true rfl) (by rw [hG.mc]; dsimp only [rmk]; omega) (by rw [hG.ms]; dsimp only [rmk]; omega) dL_law_1671 ?_
  refine ⟨Lc, S, qo, fo, A1, rfl, hqo, hRC, hI2.1, fun L1 w2 f1 hth hR1 hF2 hq2 hv2 => ?_⟩
  have hRM2 := hRM.frq hF2 (Nat.le_of_ble_eq_true rfl)
  have hqd2 := hF2.dO hqd
  have hfin := fin_See (S := S) (i := A1)
  have hdy := congrArg Int32.toInt (day_See (S := S) (i := A1))
  show X g w2 _ _ 1674 _ [.int (nI (oSee S A1).1)]
  refine x_istore hG (pc := 1674) dL_law_1674 (Nat.le_of_ble_eq_true rfl) rfl (by dsimp only [List.set]) ?_
  refine x_aload_n hG (pc := 1676) 2 dL_law_1676 rfl rfl ?_
  refine x_aload_n hG (pc := 1677) 0 dL_law_1677 rfl rfl ?_
  refine x_iload hG (pc := 1678) dL_law_1678 rfl ?_
  refine x_iconst hG (pc := 1680) 1 dL_law_1680 (by decide) ?_
  refine x_iadd hG (pc := 1681) dL_law_1681 ?_
  refine x_sld hG (pc := 1682) hX (sc_in 1 rfl (by omega) hL) hA1 dL_law_1682 ?_
  refine x_callVN hG hO (pc := 1683) [_] c_X7_couldSee lk_L_184 hRM2.main rfl rfl ⟨Nat.le_of_ble_eq_true rfl, Nat.le_of_ble_eq_true rfl⟩ (Nat.le_of_ble_eq_true rfl) (by rw [hG.mc]; dsimp only [rmk]; omega) (by rw [hG.ms]; dsimp only [rmk]; omega) dL_law_1683 ?_
  refine ⟨Lm, S, A1, rfl, hRM2, hI2, fun L2 w3 hth2 hthr hRM3 hF3 => ?_⟩
  show X g w3 _ _ 1686 _ [.int (oSee S A1).2.1]
  have hm3 := hRM3.main
  rw [show L2.1 (50, 0, 0) = Lm.1 (50, 0, 0) from hth2] at hm3
  have hq3 := hF3.lo hq2
  refine x_istore hG (pc := 1686) dL_law_1686 (Nat.le_of_ble_eq_true rfl) rfl (by dsimp only [List.set]) ?_
  refine x_aload_n hG (pc := 1688) 2 dL_law_1688 rfl rfl ?_
  refine x_callVN hG hO (pc := 1689) [] c_X7_thrown lk_L_112 hm3 rfl rfl ⟨Nat.le_of_ble_eq_true rfl, Nat.le_of_ble_eq_true rfl⟩ (Nat.le_of_ble_eq_true rfl) (by rw [hG.mc]; dsimp only [rmk]; omega) (by rw [hG.ms]; dsimp only [rmk]; omega) dL_law_1689 ?_
  refine ⟨L2, _, congrArg (fun z => [Value.ref z]) hth2.symm, hRM3, ?_⟩
  show X g w3 _ _ 1692 _ [.int (thr L2)]
  refine x_iload hG (pc := 1692) dL_law_1692 rfl ?_
  refine x_icmp_eq hG (pc := 1694) 1699 dL_law_1694 (by decide) (fun _ => ?_) (fun z => absurd hthr z)
  refine x_iload hG (pc := 1699) dL_law_1699 rfl ?_
  refine x_if_ne hG (pc := 1701) 1716 dL_law_1701 (by decide) (fun _ => ?_) (fun hz => ?_)
  · refine x_goto hG (pc := 1716) 2017 dL_law_1716 (by decide) ?_
    refine x_iinc hG (pc := 2017) (nI (j + 6)) dL_law_2017 rfl (Nat.le_of_ble_eq_true rfl) rfl (nI_6 j) (by dsimp only [List.set]) ?_
    refine x_goto hG (pc := 2020) 28 dL_law_2020 (by decide) ?_
    exact nx L1 L2 _ w3 _ _ _ _ _ hth hth2 ⟨hR1.frc hF3, hRM3, iv_See hI2, ⟨_, hq3⟩, _, hF3.dO hqd2⟩ (by dsimp only [rmk]; omega) (by dsimp only [rmk]; omega)
  · have h0 := nI_z hz hfin.2
    refine x_aload_n hG (pc := 1704) 3 dL_law_1704 rfl rfl ?_
    refine x_iconst hG (pc := 1705) 0 dL_law_1705 (by decide) ?_
    refine x_lald hG (pc := 1706) hq3 vin1 dL_law_1706 ?_
    refine x_iload hG (pc := 1707) dL_law_1707 rfl ?_
    refine x_i2l hG (pc := 1709) dL_law_1709 ?_
    refine x_lcmp hG (pc := 1710) dL_law_1710 ?_
    refine x_if_eq hG (pc := 1711) 1716 dL_law_1711 (by decide) (fun _ => ?_) (fun z => absurd (lgA (hv2 h0)) z)
    refine x_goto hG (pc := 1716) 2017 dL_law_1716 (by decide) ?_
    refine x_iinc hG (pc := 2017) (nI (j + 6)) dL_law_2017 rfl (Nat.le_of_ble_eq_true rfl) rfl (nI_6 j) (by dsimp only [List.set]) ?_
    refine x_goto hG (pc := 2020) 28 dL_law_2020 (by decide) ?_
    exact nx L1 L2 _ w3 _ _ _ _ _ hth hth2 ⟨hR1.frc hF3, hRM3, iv_See hI2, ⟨_, hq3⟩, _, hF3.dO hqd2⟩ (by dsimp only [rmk]; omega) (by dsimp only [rmk]; omega)
set_option maxHeartbeats 1000000 in
set_option maxRecDepth 100000 in
theorem law_22 : Lcs 1719 := by
  intro nm g b L xs qo qd j N Lc Lm S w kc ks z6 z7 z8 hG hO hX hj hL hN nx hI hkc hks
  obtain ⟨hRC, hRM, hI2, ⟨fo, hqo⟩, fd, hqd⟩ := hI
  have hdd := hI2.1.2.2.2.2.2.1
  obtain ⟨A1, hA1⟩ : ∃ y, xs (nI j + 1).toNatClampNeg = y := ⟨_, rfl⟩
  obtain ⟨A2, hA2⟩ : ∃ y, xs (nI j + 2).toNatClampNeg = y := ⟨_, rfl⟩
  obtain ⟨A3, hA3⟩ : ∃ y, xs (nI j + 3).toNatClampNeg = y := ⟨_, rfl⟩
  obtain ⟨A4, hA4⟩ : ∃ y, xs (nI j + 4).toNatClampNeg = y := ⟨_, rfl⟩
  obtain ⟨A5, hA5⟩ : ∃ y, xs (nI j + 5).toNatClampNeg = y := ⟨_, rfl⟩
  refine x_aload_n hG (pc := 1719) 1 dL_law_1719 rfl rfl ?_
  refine x_aload_n hG (pc := 1720) 0 dL_law_1720 rfl rfl ?_
  refine x_iload hG (pc := 1721) dL_law_1721 rfl ?_
  refine x_iconst hG (pc := 1723) 1 dL_law_1723 (by decide) ?_
  refine x_iadd hG (pc := 1724) dL_law_1724 ?_
  refine x_sld hG (pc := 1725) hX (sc_in 1 rfl (by omega) hL) hA1 dL_law_1725 ?_
  refine x_aload_n hG (pc := 1726) 0 dL_law_1726 rfl rfl ?_
  refine x_iload hG (pc := 1727) dL_law_1727 rfl ?_
  refine x_iconst hG (pc := 1729) 2 dL_law_1729 (by decide) ?_
  refine x_iadd hG (pc := 1730) dL_law_1730 ?_
  refine x_sld hG (pc := 1731) hX (sc_in 2 rfl (by omega) hL) hA2 dL_law_1731 ?_
  refine x_aload_n hG (pc := 1732) 3 dL_law_1732 rfl rfl ?_
  refine x_callSHN hG hO (pc := 1733) [_, _, _, _] c_L_firstRisk lk_L_185 rfl rfl ⟨Nat.le_of_ble_eq_true rfl, Nat.le_of_ble_eq_true rfl⟩ (Nat.le_of_ble_eq_true rfl) (by rw [hG.mc]; dsimp only [rmk]; omega) (by rw [hG.ms]; dsimp only [rmk]; omega) dL_law_1733 ?_
  refine ⟨Lc, S, qo, fo, A1, A2, rfl, hqo, hRC, hI2.1, fun L1 w2 f1 hth hR1 hF2 hq2 hv2 => ?_⟩
  have hRM2 := hRM.frq hF2 (Nat.le_of_ble_eq_true rfl)
  have hqd2 := hF2.dO hqd
  have hfin := fin_Ris (S := S) (i := A1) (t := A2)
  have hdy := congrArg Int32.toInt (day_Ris (S := S) (i := A1) (t := A2))
  show X g w2 _ _ 1736 _ [.int (nI (oRis S A1 A2).1)]
  refine x_istore hG (pc := 1736) dL_law_1736 (Nat.le_of_ble_eq_true rfl) rfl (by dsimp only [List.set]) ?_
  refine x_aload_n hG (pc := 1738) 2 dL_law_1738 rfl rfl ?_
  refine x_aload_n hG (pc := 1739) 0 dL_law_1739 rfl rfl ?_
  refine x_iload hG (pc := 1740) dL_law_1740 rfl ?_
  refine x_iconst hG (pc := 1742) 1 dL_law_1742 (by decide) ?_
  refine x_iadd hG (pc := 1743) dL_law_1743 ?_
  refine x_sld hG (pc := 1744) hX (sc_in 1 rfl (by omega) hL) hA1 dL_law_1744 ?_
  refine x_aload_n hG (pc := 1745) 0 dL_law_1745 rfl rfl ?_
  refine x_iload hG (pc := 1746) dL_law_1746 rfl ?_
  refine x_iconst hG (pc := 1748) 2 dL_law_1748 (by decide) ?_
  refine x_iadd hG (pc := 1749) dL_law_1749 ?_
  refine x_sld hG (pc := 1750) hX (sc_in 2 rfl (by omega) hL) hA2 dL_law_1750 ?_
  refine x_callVN hG hO (pc := 1751) [_, _] c_X7_firstRisk lk_L_187 hRM2.main rfl rfl ⟨Nat.le_of_ble_eq_true rfl, Nat.le_of_ble_eq_true rfl⟩ (Nat.le_of_ble_eq_true rfl) (by rw [hG.mc]; dsimp only [rmk]; omega) (by rw [hG.ms]; dsimp only [rmk]; omega) dL_law_1751 ?_
  refine ⟨Lm, S, A1, A2, rfl, hRM2, hI2, fun L2 w3 hth2 hthr hRM3 hF3 => ?_⟩
  show X g w3 _ _ 1754 _ [.int (oRis S A1 A2).2.1]
  have hm3 := hRM3.main
  rw [show L2.1 (50, 0, 0) = Lm.1 (50, 0, 0) from hth2] at hm3
  have hq3 := hF3.lo hq2
  refine x_istore hG (pc := 1754) dL_law_1754 (Nat.le_of_ble_eq_true rfl) rfl (by dsimp only [List.set]) ?_
  refine x_aload_n hG (pc := 1756) 2 dL_law_1756 rfl rfl ?_
  refine x_callVN hG hO (pc := 1757) [] c_X7_thrown lk_L_112 hm3 rfl rfl ⟨Nat.le_of_ble_eq_true rfl, Nat.le_of_ble_eq_true rfl⟩ (Nat.le_of_ble_eq_true rfl) (by rw [hG.mc]; dsimp only [rmk]; omega) (by rw [hG.ms]; dsimp only [rmk]; omega) dL_law_1757 ?_
  refine ⟨L2, _, congrArg (fun z => [Value.ref z]) hth2.symm, hRM3, ?_⟩
  show X g w3 _ _ 1760 _ [.int (thr L2)]
  refine x_iload hG (pc := 1760) dL_law_1760 rfl ?_
  refine x_icmp_eq hG (pc := 1762) 1767 dL_law_1762 (by decide) (fun _ => ?_) (fun z => absurd hthr z)
  refine x_iload hG (pc := 1767) dL_law_1767 rfl ?_
  refine x_if_ne hG (pc := 1769) 1784 dL_law_1769 (by decide) (fun _ => ?_) (fun hz => ?_)
  · refine x_goto hG (pc := 1784) 2017 dL_law_1784 (by decide) ?_
    refine x_iinc hG (pc := 2017) (nI (j + 6)) dL_law_2017 rfl (Nat.le_of_ble_eq_true rfl) rfl (nI_6 j) (by dsimp only [List.set]) ?_
    refine x_goto hG (pc := 2020) 28 dL_law_2020 (by decide) ?_
    exact nx L1 L2 _ w3 _ _ _ _ _ hth hth2 ⟨hR1.frc hF3, hRM3, iv_Ris hI2, ⟨_, hq3⟩, _, hF3.dO hqd2⟩ (by dsimp only [rmk]; omega) (by dsimp only [rmk]; omega)
  · have h0 := nI_z hz hfin.2
    refine x_aload_n hG (pc := 1772) 3 dL_law_1772 rfl rfl ?_
    refine x_iconst hG (pc := 1773) 0 dL_law_1773 (by decide) ?_
    refine x_lald hG (pc := 1774) hq3 vin1 dL_law_1774 ?_
    refine x_iload hG (pc := 1775) dL_law_1775 rfl ?_
    refine x_i2l hG (pc := 1777) dL_law_1777 ?_
    refine x_lcmp hG (pc := 1778) dL_law_1778 ?_
    refine x_if_eq hG (pc := 1779) 1784 dL_law_1779 (by decide) (fun _ => ?_) (fun z => absurd (lgA (hv2 h0)) z)
    refine x_goto hG (pc := 1784) 2017 dL_law_1784 (by decide) ?_
    refine x_iinc hG (pc := 2017) (nI (j + 6)) dL_law_2017 rfl (Nat.le_of_ble_eq_true rfl) rfl (nI_6 j) (by dsimp only [List.set]) ?_
    refine x_goto hG (pc := 2020) 28 dL_law_2020 (by decide) ?_
    exact nx L1 L2 _ w3 _ _ _ _ _ hth hth2 ⟨hR1.frc hF3, hRM3, iv_Ris hI2, ⟨_, hq3⟩, _, hF3.dO hqd2⟩ (by dsimp only [rmk]; omega) (by dsimp only [rmk]; omega)
set_option maxHeartbeats 1000000 in
set_option maxRecDepth 100000 in
theorem law_23 : Lcs 1787 := by
  intro nm g b L xs qo qd j N Lc Lm S w kc ks z6 z7 z8 hG hO hX hj hL hN nx hI hkc hks
  obtain ⟨hRC, hRM, hI2, ⟨fo, hqo⟩, fd, hqd⟩ := hI
  have hdd := hI2.1.2.2.2.2.2.1
  obtain ⟨A1, hA1⟩ : ∃ y, xs (nI j + 1).toNatClampNeg = y := ⟨_, rfl⟩
  obtain ⟨A2, hA2⟩ : ∃ y, xs (nI j + 2).toNatClampNeg = y := ⟨_, rfl⟩
  obtain ⟨A3, hA3⟩ : ∃ y, xs (nI j + 3).toNatClampNeg = y := ⟨_, rfl⟩
  obtain ⟨A4, hA4⟩ : ∃ y, xs (nI j + 4).toNatClampNeg = y := ⟨_, rfl⟩
  obtain ⟨A5, hA5⟩ : ∃ y, xs (nI j + 5).toNatClampNeg = y := ⟨_, rfl⟩
  refine x_aload_n hG (pc := 1787) 1 dL_law_1787 rfl rfl ?_
  refine x_aload_n hG (pc := 1788) 0 dL_law_1788 rfl rfl ?_
  refine x_iload hG (pc := 1789) dL_law_1789 rfl ?_
  refine x_iconst hG (pc := 1791) 1 dL_law_1791 (by decide) ?_
  refine x_iadd hG (pc := 1792) dL_law_1792 ?_
  refine x_sld hG (pc := 1793) hX (sc_in 1 rfl (by omega) hL) hA1 dL_law_1793 ?_
  refine x_aload_n hG (pc := 1794) 0 dL_law_1794 rfl rfl ?_
  refine x_iload hG (pc := 1795) dL_law_1795 rfl ?_
  refine x_iconst hG (pc := 1797) 2 dL_law_1797 (by decide) ?_
  refine x_iadd hG (pc := 1798) dL_law_1798 ?_
  refine x_sld hG (pc := 1799) hX (sc_in 2 rfl (by omega) hL) hA2 dL_law_1799 ?_
  refine x_aload_n hG (pc := 1800) 0 dL_law_1800 rfl rfl ?_
  refine x_iload hG (pc := 1801) dL_law_1801 rfl ?_
  refine x_iconst hG (pc := 1803) 3 dL_law_1803 (by decide) ?_
  refine x_iadd hG (pc := 1804) dL_law_1804 ?_
  refine x_sld hG (pc := 1805) hX (sc_in 3 rfl (by omega) hL) hA3 dL_law_1805 ?_
  refine x_aload_n hG (pc := 1806) 3 dL_law_1806 rfl rfl ?_
  refine x_callSHN hG hO (pc := 1807) [_, _, _, _, _] c_L_bestWork lk_L_188 rfl rfl ⟨Nat.le_of_ble_eq_true rfl, Nat.le_of_ble_eq_true rfl⟩ (Nat.le_of_ble_eq_true rfl) (by rw [hG.mc]; dsimp only [rmk]; omega) (by rw [hG.ms]; dsimp only [rmk]; omega) dL_law_1807 ?_
  refine ⟨Lc, S, qo, fo, A1, A2, A3, rfl, hqo, hRC, hI2.1, fun L1 w2 f1 hth hR1 hF2 hq2 hv2 => ?_⟩
  have hRM2 := hRM.frq hF2 (Nat.le_of_ble_eq_true rfl)
  have hqd2 := hF2.dO hqd
  have hfin := fin_Bst (S := S) (i := A1) (t := A2) (d := A3)
  have hdy := congrArg Int32.toInt (day_Bst (S := S) (i := A1) (t := A2) (d := A3))
  show X g w2 _ _ 1810 _ [.int (nI (oBst S A1 A2 A3).1)]
  refine x_istore hG (pc := 1810) dL_law_1810 (Nat.le_of_ble_eq_true rfl) rfl (by dsimp only [List.set]) ?_
  refine x_aload_n hG (pc := 1812) 2 dL_law_1812 rfl rfl ?_
  refine x_aload_n hG (pc := 1813) 0 dL_law_1813 rfl rfl ?_
  refine x_iload hG (pc := 1814) dL_law_1814 rfl ?_
  refine x_iconst hG (pc := 1816) 1 dL_law_1816 (by decide) ?_
  refine x_iadd hG (pc := 1817) dL_law_1817 ?_
  refine x_sld hG (pc := 1818) hX (sc_in 1 rfl (by omega) hL) hA1 dL_law_1818 ?_
  refine x_aload_n hG (pc := 1819) 0 dL_law_1819 rfl rfl ?_
  refine x_iload hG (pc := 1820) dL_law_1820 rfl ?_
  refine x_iconst hG (pc := 1822) 2 dL_law_1822 (by decide) ?_
  refine x_iadd hG (pc := 1823) dL_law_1823 ?_
  refine x_sld hG (pc := 1824) hX (sc_in 2 rfl (by omega) hL) hA2 dL_law_1824 ?_
  refine x_aload_n hG (pc := 1825) 0 dL_law_1825 rfl rfl ?_
  refine x_iload hG (pc := 1826) dL_law_1826 rfl ?_
  refine x_iconst hG (pc := 1828) 3 dL_law_1828 (by decide) ?_
  refine x_iadd hG (pc := 1829) dL_law_1829 ?_
  refine x_sld hG (pc := 1830) hX (sc_in 3 rfl (by omega) hL) hA3 dL_law_1830 ?_
  refine x_callVN hG hO (pc := 1831) [_, _, _] c_X7_bestWork lk_L_190 hRM2.main rfl rfl ⟨Nat.le_of_ble_eq_true rfl, Nat.le_of_ble_eq_true rfl⟩ (Nat.le_of_ble_eq_true rfl) (by rw [hG.mc]; dsimp only [rmk]; omega) (by rw [hG.ms]; dsimp only [rmk]; omega) dL_law_1831 ?_
  refine ⟨Lm, S, A1, A2, A3, rfl, hRM2, hI2, fun L2 w3 hth2 hthr hRM3 hF3 => ?_⟩
  show X g w3 _ _ 1834 _ [.int (oBst S A1 A2 A3).2.1]
  have hm3 := hRM3.main
  rw [show L2.1 (50, 0, 0) = Lm.1 (50, 0, 0) from hth2] at hm3
  have hq3 := hF3.lo hq2
  refine x_istore hG (pc := 1834) dL_law_1834 (Nat.le_of_ble_eq_true rfl) rfl (by dsimp only [List.set]) ?_
  refine x_aload_n hG (pc := 1836) 2 dL_law_1836 rfl rfl ?_
  refine x_callVN hG hO (pc := 1837) [] c_X7_thrown lk_L_112 hm3 rfl rfl ⟨Nat.le_of_ble_eq_true rfl, Nat.le_of_ble_eq_true rfl⟩ (Nat.le_of_ble_eq_true rfl) (by rw [hG.mc]; dsimp only [rmk]; omega) (by rw [hG.ms]; dsimp only [rmk]; omega) dL_law_1837 ?_
  refine ⟨L2, _, congrArg (fun z => [Value.ref z]) hth2.symm, hRM3, ?_⟩
  show X g w3 _ _ 1840 _ [.int (thr L2)]
  refine x_iload hG (pc := 1840) dL_law_1840 rfl ?_
  refine x_icmp_eq hG (pc := 1842) 1847 dL_law_1842 (by decide) (fun _ => ?_) (fun z => absurd hthr z)
  refine x_iload hG (pc := 1847) dL_law_1847 rfl ?_
  refine x_if_ne hG (pc := 1849) 1864 dL_law_1849 (by decide) (fun _ => ?_) (fun hz => ?_)
  · refine x_goto hG (pc := 1864) 2017 dL_law_1864 (by decide) ?_
    refine x_iinc hG (pc := 2017) (nI (j + 6)) dL_law_2017 rfl (Nat.le_of_ble_eq_true rfl) rfl (nI_6 j) (by dsimp only [List.set]) ?_
    refine x_goto hG (pc := 2020) 28 dL_law_2020 (by decide) ?_
    exact nx L1 L2 _ w3 _ _ _ _ _ hth hth2 ⟨hR1.frc hF3, hRM3, iv_Bst hI2, ⟨_, hq3⟩, _, hF3.dO hqd2⟩ (by dsimp only [rmk]; omega) (by dsimp only [rmk]; omega)
  · have h0 := nI_z hz hfin.2
    refine x_aload_n hG (pc := 1852) 3 dL_law_1852 rfl rfl ?_
    refine x_iconst hG (pc := 1853) 0 dL_law_1853 (by decide) ?_
    refine x_lald hG (pc := 1854) hq3 vin1 dL_law_1854 ?_
    refine x_iload hG (pc := 1855) dL_law_1855 rfl ?_
    refine x_i2l hG (pc := 1857) dL_law_1857 ?_
    refine x_lcmp hG (pc := 1858) dL_law_1858 ?_
    refine x_if_eq hG (pc := 1859) 1864 dL_law_1859 (by decide) (fun _ => ?_) (fun z => absurd (lgA (hv2 h0)) z)
    refine x_goto hG (pc := 1864) 2017 dL_law_1864 (by decide) ?_
    refine x_iinc hG (pc := 2017) (nI (j + 6)) dL_law_2017 rfl (Nat.le_of_ble_eq_true rfl) rfl (nI_6 j) (by dsimp only [List.set]) ?_
    refine x_goto hG (pc := 2020) 28 dL_law_2020 (by decide) ?_
    exact nx L1 L2 _ w3 _ _ _ _ _ hth hth2 ⟨hR1.frc hF3, hRM3, iv_Bst hI2, ⟨_, hq3⟩, _, hF3.dO hqd2⟩ (by dsimp only [rmk]; omega) (by dsimp only [rmk]; omega)
set_option maxHeartbeats 1000000 in
set_option maxRecDepth 100000 in
theorem law_24 : Lcs 1867 := by
  intro nm g b L xs qo qd j N Lc Lm S w kc ks z6 z7 z8 hG hO hX hj hL hN nx hI hkc hks
  obtain ⟨hRC, hRM, hI2, ⟨fo, hqo⟩, fd, hqd⟩ := hI
  have hdd := hI2.1.2.2.2.2.2.1
  obtain ⟨A1, hA1⟩ : ∃ y, xs (nI j + 1).toNatClampNeg = y := ⟨_, rfl⟩
  obtain ⟨A2, hA2⟩ : ∃ y, xs (nI j + 2).toNatClampNeg = y := ⟨_, rfl⟩
  obtain ⟨A3, hA3⟩ : ∃ y, xs (nI j + 3).toNatClampNeg = y := ⟨_, rfl⟩
  obtain ⟨A4, hA4⟩ : ∃ y, xs (nI j + 4).toNatClampNeg = y := ⟨_, rfl⟩
  obtain ⟨A5, hA5⟩ : ∃ y, xs (nI j + 5).toNatClampNeg = y := ⟨_, rfl⟩
  refine x_aload_n hG (pc := 1867) 1 dL_law_1867 rfl rfl ?_
  refine x_aload_n hG (pc := 1868) 0 dL_law_1868 rfl rfl ?_
  refine x_iload hG (pc := 1869) dL_law_1869 rfl ?_
  refine x_iconst hG (pc := 1871) 1 dL_law_1871 (by decide) ?_
  refine x_iadd hG (pc := 1872) dL_law_1872 ?_
  refine x_sld hG (pc := 1873) hX (sc_in 1 rfl (by omega) hL) hA1 dL_law_1873 ?_
  refine x_aload_n hG (pc := 1874) 0 dL_law_1874 rfl rfl ?_
  refine x_iload hG (pc := 1875) dL_law_1875 rfl ?_
  refine x_iconst hG (pc := 1877) 2 dL_law_1877 (by decide) ?_
  refine x_iadd hG (pc := 1878) dL_law_1878 ?_
  refine x_sld hG (pc := 1879) hX (sc_in 2 rfl (by omega) hL) hA2 dL_law_1879 ?_
  refine x_aload_n hG (pc := 1880) 0 dL_law_1880 rfl rfl ?_
  refine x_iload hG (pc := 1881) dL_law_1881 rfl ?_
  refine x_iconst hG (pc := 1883) 3 dL_law_1883 (by decide) ?_
  refine x_iadd hG (pc := 1884) dL_law_1884 ?_
  refine x_sld hG (pc := 1885) hX (sc_in 3 rfl (by omega) hL) hA3 dL_law_1885 ?_
  refine x_aload_n hG (pc := 1886) 3 dL_law_1886 rfl rfl ?_
  refine x_callSHN hG hO (pc := 1887) [_, _, _, _, _] c_L_freeDay lk_L_191 rfl rfl ⟨Nat.le_of_ble_eq_true rfl, Nat.le_of_ble_eq_true rfl⟩ (Nat.le_of_ble_eq_true rfl) (by rw [hG.mc]; dsimp only [rmk]; omega) (by rw [hG.ms]; dsimp only [rmk]; omega) dL_law_1887 ?_
  refine ⟨Lc, S, qo, fo, A1, A2, A3, rfl, hqo, hRC, hI2.1, fun L1 w2 f1 hth hR1 hF2 hq2 hv2 => ?_⟩
  have hRM2 := hRM.frq hF2 (Nat.le_of_ble_eq_true rfl)
  have hqd2 := hF2.dO hqd
  have hfin := fin_Fre (S := S) (t := A1) (f := A2) (o := A3)
  have hdy := congrArg Int32.toInt (day_Fre (S := S) (t := A1) (f := A2) (o := A3))
  show X g w2 _ _ 1890 _ [.int (nI (oFre S A1 A2 A3).1)]
  refine x_istore hG (pc := 1890) dL_law_1890 (Nat.le_of_ble_eq_true rfl) rfl (by dsimp only [List.set]) ?_
  refine x_aload_n hG (pc := 1892) 2 dL_law_1892 rfl rfl ?_
  refine x_aload_n hG (pc := 1893) 0 dL_law_1893 rfl rfl ?_
  refine x_iload hG (pc := 1894) dL_law_1894 rfl ?_
  refine x_iconst hG (pc := 1896) 1 dL_law_1896 (by decide) ?_
  refine x_iadd hG (pc := 1897) dL_law_1897 ?_
  refine x_sld hG (pc := 1898) hX (sc_in 1 rfl (by omega) hL) hA1 dL_law_1898 ?_
  refine x_aload_n hG (pc := 1899) 0 dL_law_1899 rfl rfl ?_
  refine x_iload hG (pc := 1900) dL_law_1900 rfl ?_
  refine x_iconst hG (pc := 1902) 2 dL_law_1902 (by decide) ?_
  refine x_iadd hG (pc := 1903) dL_law_1903 ?_
  refine x_sld hG (pc := 1904) hX (sc_in 2 rfl (by omega) hL) hA2 dL_law_1904 ?_
  refine x_aload_n hG (pc := 1905) 0 dL_law_1905 rfl rfl ?_
  refine x_iload hG (pc := 1906) dL_law_1906 rfl ?_
  refine x_iconst hG (pc := 1908) 3 dL_law_1908 (by decide) ?_
  refine x_iadd hG (pc := 1909) dL_law_1909 ?_
  refine x_sld hG (pc := 1910) hX (sc_in 3 rfl (by omega) hL) hA3 dL_law_1910 ?_
  refine x_callVN hG hO (pc := 1911) [_, _, _] c_X7_freeDay lk_L_193 hRM2.main rfl rfl ⟨Nat.le_of_ble_eq_true rfl, Nat.le_of_ble_eq_true rfl⟩ (Nat.le_of_ble_eq_true rfl) (by rw [hG.mc]; dsimp only [rmk]; omega) (by rw [hG.ms]; dsimp only [rmk]; omega) dL_law_1911 ?_
  refine ⟨Lm, S, A1, A2, A3, rfl, hRM2, hI2, fun L2 w3 hth2 hthr hRM3 hF3 => ?_⟩
  show X g w3 _ _ 1914 _ [.int (oFre S A1 A2 A3).2.1]
  have hm3 := hRM3.main
  rw [show L2.1 (50, 0, 0) = Lm.1 (50, 0, 0) from hth2] at hm3
  have hq3 := hF3.lo hq2
  refine x_istore hG (pc := 1914) dL_law_1914 (Nat.le_of_ble_eq_true rfl) rfl (by dsimp only [List.set]) ?_
  refine x_aload_n hG (pc := 1916) 2 dL_law_1916 rfl rfl ?_
  refine x_callVN hG hO (pc := 1917) [] c_X7_thrown lk_L_112 hm3 rfl rfl ⟨Nat.le_of_ble_eq_true rfl, Nat.le_of_ble_eq_true rfl⟩ (Nat.le_of_ble_eq_true rfl) (by rw [hG.mc]; dsimp only [rmk]; omega) (by rw [hG.ms]; dsimp only [rmk]; omega) dL_law_1917 ?_
  refine ⟨L2, _, congrArg (fun z => [Value.ref z]) hth2.symm, hRM3, ?_⟩
  show X g w3 _ _ 1920 _ [.int (thr L2)]
  refine x_iload hG (pc := 1920) dL_law_1920 rfl ?_
  refine x_icmp_eq hG (pc := 1922) 1927 dL_law_1922 (by decide) (fun _ => ?_) (fun z => absurd hthr z)
  refine x_iload hG (pc := 1927) dL_law_1927 rfl ?_
  refine x_if_ne hG (pc := 1929) 1944 dL_law_1929 (by decide) (fun _ => ?_) (fun hz => ?_)
  · refine x_goto hG (pc := 1944) 2017 dL_law_1944 (by decide) ?_
    refine x_iinc hG (pc := 2017) (nI (j + 6)) dL_law_2017 rfl (Nat.le_of_ble_eq_true rfl) rfl (nI_6 j) (by dsimp only [List.set]) ?_
    refine x_goto hG (pc := 2020) 28 dL_law_2020 (by decide) ?_
    exact nx L1 L2 _ w3 _ _ _ _ _ hth hth2 ⟨hR1.frc hF3, hRM3, iv_Fre hI2, ⟨_, hq3⟩, _, hF3.dO hqd2⟩ (by dsimp only [rmk]; omega) (by dsimp only [rmk]; omega)
  · have h0 := nI_z hz hfin.2
    refine x_aload_n hG (pc := 1932) 3 dL_law_1932 rfl rfl ?_
    refine x_iconst hG (pc := 1933) 0 dL_law_1933 (by decide) ?_
    refine x_lald hG (pc := 1934) hq3 vin1 dL_law_1934 ?_
    refine x_iload hG (pc := 1935) dL_law_1935 rfl ?_
    refine x_i2l hG (pc := 1937) dL_law_1937 ?_
    refine x_lcmp hG (pc := 1938) dL_law_1938 ?_
    refine x_if_eq hG (pc := 1939) 1944 dL_law_1939 (by decide) (fun _ => ?_) (fun z => absurd (lgA (hv2 h0)) z)
    refine x_goto hG (pc := 1944) 2017 dL_law_1944 (by decide) ?_
    refine x_iinc hG (pc := 2017) (nI (j + 6)) dL_law_2017 rfl (Nat.le_of_ble_eq_true rfl) rfl (nI_6 j) (by dsimp only [List.set]) ?_
    refine x_goto hG (pc := 2020) 28 dL_law_2020 (by decide) ?_
    exact nx L1 L2 _ w3 _ _ _ _ _ hth hth2 ⟨hR1.frc hF3, hRM3, iv_Fre hI2, ⟨_, hq3⟩, _, hF3.dO hqd2⟩ (by dsimp only [rmk]; omega) (by dsimp only [rmk]; omega)
set_option maxHeartbeats 1000000 in
set_option maxRecDepth 100000 in
theorem law_25 : Lcs 1947 := by
  intro nm g b L xs qo qd j N Lc Lm S w kc ks z6 z7 z8 hG hO hX hj hL hN nx hI hkc hks
  obtain ⟨hRC, hRM, hI2, ⟨fo, hqo⟩, fd, hqd⟩ := hI
  have hdd := hI2.1.2.2.2.2.2.1
  obtain ⟨A1, hA1⟩ : ∃ y, xs (nI j + 1).toNatClampNeg = y := ⟨_, rfl⟩
  obtain ⟨A2, hA2⟩ : ∃ y, xs (nI j + 2).toNatClampNeg = y := ⟨_, rfl⟩
  obtain ⟨A3, hA3⟩ : ∃ y, xs (nI j + 3).toNatClampNeg = y := ⟨_, rfl⟩
  obtain ⟨A4, hA4⟩ : ∃ y, xs (nI j + 4).toNatClampNeg = y := ⟨_, rfl⟩
  obtain ⟨A5, hA5⟩ : ∃ y, xs (nI j + 5).toNatClampNeg = y := ⟨_, rfl⟩
  refine x_aload_n hG (pc := 1947) 1 dL_law_1947 rfl rfl ?_
  refine x_aload_n hG (pc := 1948) 0 dL_law_1948 rfl rfl ?_
  refine x_iload hG (pc := 1949) dL_law_1949 rfl ?_
  refine x_iconst hG (pc := 1951) 1 dL_law_1951 (by decide) ?_
  refine x_iadd hG (pc := 1952) dL_law_1952 ?_
  refine x_sld hG (pc := 1953) hX (sc_in 1 rfl (by omega) hL) hA1 dL_law_1953 ?_
  refine x_aload_n hG (pc := 1954) 3 dL_law_1954 rfl rfl ?_
  refine x_callSHN hG hO (pc := 1955) [_, _, _] c_L_wouldOverrun lk_L_194 rfl rfl ⟨Nat.le_of_ble_eq_true rfl, Nat.le_of_ble_eq_true rfl⟩ (Nat.le_of_ble_eq_true rfl) (by rw [hG.mc]; dsimp only [rmk]; omega) (by rw [hG.ms]; dsimp only [rmk]; omega) dL_law_1955 ?_
  refine ⟨Lc, S, qo, fo, A1, rfl, hqo, hRC, hI2.1, fun L1 w2 f1 hth hR1 hF2 hq2 hv2 => ?_⟩
  have hRM2 := hRM.frq hF2 (Nat.le_of_ble_eq_true rfl)
  have hqd2 := hF2.dO hqd
  have hfin := fin_Ovr (S := S) (p := A1)
  have hdy := congrArg Int32.toInt (day_Ovr (S := S) (p := A1))
  show X g w2 _ _ 1958 _ [.int (nI (oOvr S A1).1)]
  refine x_istore hG (pc := 1958) dL_law_1958 (Nat.le_of_ble_eq_true rfl) rfl (by dsimp only [List.set]) ?_
  refine x_aload_n hG (pc := 1960) 2 dL_law_1960 rfl rfl ?_
  refine x_aload_n hG (pc := 1961) 0 dL_law_1961 rfl rfl ?_
  refine x_iload hG (pc := 1962) dL_law_1962 rfl ?_
  refine x_iconst hG (pc := 1964) 1 dL_law_1964 (by decide) ?_
  refine x_iadd hG (pc := 1965) dL_law_1965 ?_
  refine x_sld hG (pc := 1966) hX (sc_in 1 rfl (by omega) hL) hA1 dL_law_1966 ?_
  refine x_callVN hG hO (pc := 1967) [_] c_X7_wouldOverrun lk_L_196 hRM2.main rfl rfl ⟨Nat.le_of_ble_eq_true rfl, Nat.le_of_ble_eq_true rfl⟩ (Nat.le_of_ble_eq_true rfl) (by rw [hG.mc]; dsimp only [rmk]; omega) (by rw [hG.ms]; dsimp only [rmk]; omega) dL_law_1967 ?_
  refine ⟨Lm, S, A1, rfl, hRM2, hI2, fun L2 w3 hth2 hthr hRM3 hF3 => ?_⟩
  show X g w3 _ _ 1970 _ [.int (oOvr S A1).2.1]
  have hm3 := hRM3.main
  rw [show L2.1 (50, 0, 0) = Lm.1 (50, 0, 0) from hth2] at hm3
  have hq3 := hF3.lo hq2
  refine x_istore hG (pc := 1970) dL_law_1970 (Nat.le_of_ble_eq_true rfl) rfl (by dsimp only [List.set]) ?_
  refine x_aload_n hG (pc := 1972) 2 dL_law_1972 rfl rfl ?_
  refine x_callVN hG hO (pc := 1973) [] c_X7_thrown lk_L_112 hm3 rfl rfl ⟨Nat.le_of_ble_eq_true rfl, Nat.le_of_ble_eq_true rfl⟩ (Nat.le_of_ble_eq_true rfl) (by rw [hG.mc]; dsimp only [rmk]; omega) (by rw [hG.ms]; dsimp only [rmk]; omega) dL_law_1973 ?_
  refine ⟨L2, _, congrArg (fun z => [Value.ref z]) hth2.symm, hRM3, ?_⟩
  show X g w3 _ _ 1976 _ [.int (thr L2)]
  refine x_iload hG (pc := 1976) dL_law_1976 rfl ?_
  refine x_icmp_eq hG (pc := 1978) 1983 dL_law_1978 (by decide) (fun _ => ?_) (fun z => absurd hthr z)
  refine x_iload hG (pc := 1983) dL_law_1983 rfl ?_
  refine x_if_ne hG (pc := 1985) 2000 dL_law_1985 (by decide) (fun _ => ?_) (fun hz => ?_)
  · refine x_goto hG (pc := 2000) 2017 dL_law_2000 (by decide) ?_
    refine x_iinc hG (pc := 2017) (nI (j + 6)) dL_law_2017 rfl (Nat.le_of_ble_eq_true rfl) rfl (nI_6 j) (by dsimp only [List.set]) ?_
    refine x_goto hG (pc := 2020) 28 dL_law_2020 (by decide) ?_
    exact nx L1 L2 _ w3 _ _ _ _ _ hth hth2 ⟨hR1.frc hF3, hRM3, iv_Ovr hI2, ⟨_, hq3⟩, _, hF3.dO hqd2⟩ (by dsimp only [rmk]; omega) (by dsimp only [rmk]; omega)
  · have h0 := nI_z hz hfin.2
    refine x_aload_n hG (pc := 1988) 3 dL_law_1988 rfl rfl ?_
    refine x_iconst hG (pc := 1989) 0 dL_law_1989 (by decide) ?_
    refine x_lald hG (pc := 1990) hq3 vin1 dL_law_1990 ?_
    refine x_iload hG (pc := 1991) dL_law_1991 rfl ?_
    refine x_i2l hG (pc := 1993) dL_law_1993 ?_
    refine x_lcmp hG (pc := 1994) dL_law_1994 ?_
    refine x_if_eq hG (pc := 1995) 2000 dL_law_1995 (by decide) (fun _ => ?_) (fun z => absurd (lgA (hv2 h0)) z)
    refine x_goto hG (pc := 2000) 2017 dL_law_2000 (by decide) ?_
    refine x_iinc hG (pc := 2017) (nI (j + 6)) dL_law_2017 rfl (Nat.le_of_ble_eq_true rfl) rfl (nI_6 j) (by dsimp only [List.set]) ?_
    refine x_goto hG (pc := 2020) 28 dL_law_2020 (by decide) ?_
    exact nx L1 L2 _ w3 _ _ _ _ _ hth hth2 ⟨hR1.frc hF3, hRM3, iv_Ovr hI2, ⟨_, hq3⟩, _, hF3.dO hqd2⟩ (by dsimp only [rmk]; omega) (by dsimp only [rmk]; omega)
set_option maxHeartbeats 1000000 in
set_option maxRecDepth 100000 in
theorem law_26 : Lcs 2003 := by
  intro nm g b L xs qo qd j N Lc Lm S w kc ks z6 z7 z8 hG hO hX hj hL hN nx hI hkc hks
  obtain ⟨hRC, hRM, hI2, ⟨fo, hqo⟩, fd, hqd⟩ := hI
  have hdd := hI2.1.2.2.2.2.2.1
  obtain ⟨A1, hA1⟩ : ∃ y, xs (nI j + 1).toNatClampNeg = y := ⟨_, rfl⟩
  obtain ⟨A2, hA2⟩ : ∃ y, xs (nI j + 2).toNatClampNeg = y := ⟨_, rfl⟩
  obtain ⟨A3, hA3⟩ : ∃ y, xs (nI j + 3).toNatClampNeg = y := ⟨_, rfl⟩
  obtain ⟨A4, hA4⟩ : ∃ y, xs (nI j + 4).toNatClampNeg = y := ⟨_, rfl⟩
  obtain ⟨A5, hA5⟩ : ∃ y, xs (nI j + 5).toNatClampNeg = y := ⟨_, rfl⟩
  refine x_aload_n hG (pc := 2003) 1 dL_law_2003 rfl rfl ?_
  refine x_callVN hG hO (pc := 2004) [] c_X6_digest lk_L_197 hRC.main rfl rfl ⟨Nat.le_of_ble_eq_true rfl, Nat.le_of_ble_eq_true rfl⟩ (Nat.le_of_ble_eq_true rfl) (by rw [hG.mc]; dsimp only [rmk]; omega) (by rw [hG.ms]; dsimp only [rmk]; omega) dL_law_2004 ?_
  refine ⟨Lc, S, rfl, hRC, hI2.1, fun f9 w2 hR2 hF2 => ?_⟩
  show X g w2 _ _ 2007 _ [.long (dgA S)]
  have hRM2 := hRM.frm hF2
  refine x_aload_n hG (pc := 2007) 2 dL_law_2007 rfl rfl ?_
  refine x_callVN hG hO (pc := 2008) [] c_X7_digest lk_L_201 hRM2.main rfl rfl ⟨Nat.le_of_ble_eq_true rfl, Nat.le_of_ble_eq_true rfl⟩ (Nat.le_of_ble_eq_true rfl) (by rw [hG.mc]; dsimp only [rmk]; omega) (by rw [hG.ms]; dsimp only [rmk]; omega) dL_law_2008 ?_
  refine ⟨Lm, S, rfl, hRM2, hI2, fun L2 w3 hth2 hRM3 hF3 => ?_⟩
  show X g w3 _ _ 2011 _ [.long (dgA S), .long (dgA S)]
  refine x_lcmp hG (pc := 2011) dL_law_2011 ?_
  refine x_if_eq hG (pc := 2012) 2017 dL_law_2012 (by decide) (fun _ => ?_) (fun z => absurd (lgA rfl) z)
  refine x_iinc hG (pc := 2017) (nI (j + 6)) dL_law_2017 rfl (Nat.le_of_ble_eq_true rfl) rfl (nI_6 j) (by dsimp only [List.set]) ?_
  refine x_goto hG (pc := 2020) 28 dL_law_2020 (by decide) ?_
  exact nx (Lc.1, Lc.2.1, Lc.2.2.1, f9) L2 S w3 _ _ _ _ _ rfl hth2 ⟨hR2.frc hF3, hRM3, hI2, ⟨_, hF3.lo (hF2 _ _ hqo (by show 50 ≤ 80; decide))⟩, _, hF3.dO (hF2 _ _ hqd (by show 50 ≤ 81; decide))⟩ (by dsimp only [rmk]; omega) (by dsimp only [rmk]; omega)
