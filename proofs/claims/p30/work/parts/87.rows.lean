/-! rows of p30's law (written by m87.py out of whole's) -/
def Scr (g : Cxt) (b L : Nat) (xs : Nat → Int32) : Prop := match g with
  | (_, _, _, _, s, _, _, _, _, _, Γ, _, _, _, _, _) => va_X b L xs s s.heap ∧ b < s.heap.size ∧ ¬ n0A Γ b
theorem x_sld {g : Cxt} {cc : ByteArray} {own nm : String} {rt : Option FieldType} {rm : Room} (hG : Cx g cc own nm rt rm) {w : Wd} {kc ks pc : Nat} {lv : List (Option Value)} {st : List Value} {b L : Nat} {xs : Nat → Int32} (hX : Scr g b L xs) {i v : Int32} (hin : vp_in i L) (hv : xs i.toNatClampNeg = v) (hd : decode cc pc = .ok (.iaload, 1)) (k : X g w kc ks (pc + 1) lv (.int v :: st)) : X g w kc ks pc lv (.int i :: .ref b :: st) := by
  obtain ⟨p, l, e, R, s, m, args, below, meth, c, Γ, nL, mc, ms, post, xpost⟩ := g
  obtain ⟨hF, hr, hlk, hE, hsl, rfl, hmc, hms, hnm⟩ := hG
  obtain ⟨h1, h2, h3⟩ := hX
  subst hv
  intro H locs ls hP hS hv
  exact va_sld hF.1 hF.2.1 h1 h2 h3 hS hin hd (k H locs ls hP hS hv)
theorem x_slen {g : Cxt} {cc : ByteArray} {own nm : String} {rt : Option FieldType} {rm : Room} (hG : Cx g cc own nm rt rm) {w : Wd} {kc ks pc : Nat} {lv : List (Option Value)} {st : List Value} {b L : Nat} {xs : Nat → Int32} (hX : Scr g b L xs) (hd : decode cc pc = .ok (.arraylength, 1)) (k : X g w kc ks (pc + 1) lv (.int (nI L) :: st)) : X g w kc ks pc lv (.ref b :: st) := by
  obtain ⟨p, l, e, R, s, m, args, below, meth, c, Γ, nL, mc, ms, post, xpost⟩ := g
  obtain ⟨hF, hr, hlk, hE, hsl, rfl, hmc, hms, hnm⟩ := hG
  obtain ⟨h1, h2, h3⟩ := hX
  intro H locs ls hP hS hv
  exact va_slen hF.1 hF.2.1 h1 h2 h3 hS hd (k H locs ls hP hS hv)
/-- nothing is thrown out of the law -/
def No (g : Cxt) : Prop := ∀ (E : String) (w : Wd), gX g E w → False
section RDN
variable {p : Program} {l : Launch} {e : Env} {R : Room} {s : State} {m : MethodId} {args : Array Value} {below : List Frame} {meth : Method} {c : Code} {H : Heap} {locs : List Loc} {ls : Array Slot}
theorem run_doneN {Γ : Gw} {nL mc ms kc ks mc1 ms1 pc : Nat} {post post1 : Option Value → Wd → Prop} {xpost xpost1 : String → Wd → Prop} {lv : List (Option Value)} {st0 rest : List Value} {a : Array Value}
    (hr : vx_Run p l e R s m args below meth c H locs kc ks mc1 ms1 (F0 m pc ls st0) rest (Qn Γ post1 a) (Qx Γ xpost1) (n0A Γ)) (hS : va_S (n0A Γ) s.heap H locs) (hv : lh ls nL lv) (hc : kc + mc1 ≤ mc) (hs : ks + ms1 ≤ ms)
    (kx : ∀ (E : String) (w1 : Wd), xpost1 E w1 → False) (kk : ∀ (r : Option Value) (w1 : Wd), post1 r w1 → X (p, l, e, R, s, m, args, below, meth, c, Γ, nL, mc, ms, post, xpost) w1 (kc + mc1) (ks + ms1) (pc + 3) lv (r.toList ++ rest)) :
    W p l e R s m args below meth c H locs kc ks (vx_MQ below (Qn Γ post) (Qx Γ xpost) args s mc ms (n0A Γ)) (F0 m pc ls st0) := by
  intro T hT X0
  rcases hr T hT X0 with ⟨v, st₀, t, T', L, h0, X', hL, e1, e2, ⟨⟨r, w1, hrv, hp, hpo⟩, hFr⟩, st⟩ | ⟨q, st₀, t, T', L, E, ce, h0, X', hL, e1, e2, ⟨⟨w1, hp, hpo⟩, hFr⟩, hce, hcv, hcl, st⟩
  · cases hrv
    obtain ⟨k1, k2, k3⟩ := vx_keep h0 e1 hS (fun q _ h => h) (fun q h => h) hL hFr
    obtain ⟨t2, a1, b1⟩ := kk _ w1 hpo T'.heap (locs ++ L) ls (by rw [e1]; exact hp) k3 hv T' rfl X'
    exact ⟨t2, st t2 a1, b1⟩
  · exact (kx E w1 hpo).elim
end RDN
theorem x_callVN {g : Cxt} {cc : ByteArray} {own nm : String} {rt : Option FieldType} {rm : Room} (hG : Cx g cc own nm rt rm) {w : Wd} {kc ks pc : Nat} {lv : List (Option Value)} {st : List Value} (hO : No g) {idx n ci b maxL : Nat} {t : Tg} {fs : List Value} {y : MethodName} {yc : ByteArray} {ret : Option FieldType} {rm2 : Room} {S : SpT} {st0 : List Value} (As : List Value) (hC : CtrA y yc maxL ret rm2 S) (hL : LkV own idx y yc maxL ret n ci) (he : w b = some (t, .inr (ci, fs))) (hn : As.length = n) (hst : st0 = As.reverse ++ .ref b :: st) (hRm : rm2.frames + 1 ≤ rm.frames ∧ 8 + (maxL + 11) + rm2.locals ≤ rm.locals) (hW : (st.map fun v => v.category).sum ≤ 8) (hkc : kc + rm2.cells ≤ gM g) (hks : ks + rm2.slots ≤ gN g) (hd : decode cc pc = .ok (.invokevirtual idx, 3)) (k : S (gΓ g) (.ref b :: As) w (fun r w1 => X g w1 (kc + rm2.cells) (ks + rm2.slots) (pc + 3) lv (r.toList ++ st)) (gX g)) : X g w kc ks pc lv st0 := by
  obtain ⟨p, l, e, R, s, m, args, below, meth, c, Γ, nL, mc, ms, post, xpost⟩ := g
  obtain ⟨hF, hr, hlk, hE, hsl, rfl, hmc, hms, hnm⟩ := hG
  intro H locs ls hP hS hv
  subst hst
  obtain ⟨h1, h2, h3, h4, h5, hy, T2, N2, hc2⟩ := hL
  exact run_doneN (vx_runV (As := As) (rest := st) hF (hC l hsl Γ _ w _ _ k) ⟨⟨rfl, rfl, hRm.1, hRm.2, pay_in hF.2.2.2.2 (code_good h5), List.mem_cons_self, hF.2.2.2.2 _ h5, hF.2.2.2.2 _ h4, hy.1, par_n hy.2, hF.2.2.2.2 _ h1⟩, hF.2.2.2.2 _ h2, hF.2.2.2.2 _ h3⟩ ⟨pcw_blind, va_recv hE.1 (hP.one he) hc2 (q0 := 0) rfl, fun U hU hWa => ⟨rfl, by rw [hU]; exact (hE.kept hS.1 hS.2.1).warm hWa, by rw [hU]; exact hP⟩⟩ rfl hn hv.1.1 rfl (lv_room (pc := pc) (ls := ls) (rest := As.reverse ++ .ref b :: st) hW) hd ⟨by rw [hmc]; exact hkc, by rw [hms]; exact hks⟩) hS hv hkc hks hO (fun _ _ h => h)
theorem x_callIN {g : Cxt} {cc : ByteArray} {own nm : String} {rt : Option FieldType} {rm : Room} (hG : Cx g cc own nm rt rm) {w : Wd} {kc ks pc : Nat} {lv : List (Option Value)} {st : List Value} (hO : No g) {idx n b maxL : Nat} {y : MethodName} {yc : ByteArray} {rm2 : Room} {S : SpT} {st0 : List Value} (As : List Value) (hC : CtrA y yc maxL none rm2 S) (hL : LkI own idx y yc maxL n) (hn : As.length = n) (hst : st0 = As.reverse ++ .ref b :: st) (hRm : rm2.frames + 1 ≤ rm.frames ∧ 8 + (maxL + 11) + rm2.locals ≤ rm.locals) (hW : (st.map fun v => v.category).sum ≤ 8) (hkc : kc + rm2.cells ≤ gM g) (hks : ks + rm2.slots ≤ gN g) (hd : decode cc pc = .ok (.invokespecial idx, 3)) (k : S (gΓ g) (.ref b :: As) w (fun r w1 => X g w1 (kc + rm2.cells) (ks + rm2.slots) (pc + 3) lv (r.toList ++ st)) (gX g)) : X g w kc ks pc lv st0 := by
  obtain ⟨p, l, e, R, s, m, args, below, meth, c, Γ, nL, mc, ms, post, xpost⟩ := g
  obtain ⟨hF, hr, hlk, hE, hsl, rfl, hmc, hms, hnm⟩ := hG
  intro H locs ls hP hS hv
  subst hst
  obtain ⟨h1, h2, h4, h5, hy, h9⟩ := hL
  exact run_doneN (vx_runI (As := As) (rest := st) hF (hC l hsl Γ _ w _ _ k) ⟨⟨rfl, rfl, hRm.1, hRm.2, pay_in hF.2.2.2.2 (code_good h5), List.mem_cons_self, hF.2.2.2.2 _ h5, hF.2.2.2.2 _ h4, hy.1, par_n hy.2, hF.2.2.2.2 _ h1⟩, h9, hF.2.2.2.2 _ h2⟩ ⟨pcw_blind, fun U hU hWa => ⟨rfl, by rw [hU]; exact (hE.kept hS.1 hS.2.1).warm hWa, by rw [hU]; exact hP⟩⟩ rfl hn hv.1.1 rfl (lv_room (pc := pc) (ls := ls) (rest := As.reverse ++ .ref b :: st) hW) hd ⟨by rw [hmc]; exact hkc, by rw [hms]; exact hks⟩) hS hv hkc hks hO (fun _ _ h => h)
theorem x_callSHN {g : Cxt} {cc : ByteArray} {own nm : String} {rt : Option FieldType} {rm : Room} (hG : Cx g cc own nm rt rm) {w : Wd} {kc ks pc : Nat} {lv : List (Option Value)} {st : List Value} (hO : No g) {idx n maxL : Nat} {y : MethodName} {yc : ByteArray} {ret : Option FieldType} {hh : List (Nat × Nat × Nat × Nat)} {rm2 : Room} {S : SpT} {st0 : List Value} (As : List Value) (hC : CtrHA y yc maxL ret hh rm2 S) (hL : LkSH own idx y yc maxL ret hh n) (hn : As.length = n) (hst : st0 = As.reverse ++ st) (hRm : rm2.frames + 1 ≤ rm.frames ∧ 8 + (maxL + 11) + rm2.locals ≤ rm.locals) (hW : (st.map fun v => v.category).sum ≤ 8) (hkc : kc + rm2.cells ≤ gM g) (hks : ks + rm2.slots ≤ gN g) (hd : decode cc pc = .ok (.invokestatic idx, 3)) (k : S (gΓ g) As w (fun r w1 => X g w1 (kc + rm2.cells) (ks + rm2.slots) (pc + 3) lv (r.toList ++ st)) (gX g)) : X g w kc ks pc lv st0 := by
  obtain ⟨p, l, e, R, s, m, args, below, meth, c, Γ, nL, mc, ms, post, xpost⟩ := g
  obtain ⟨hF, hr, hlk, hE, hsl, rfl, hmc, hms, hnm⟩ := hG
  intro H locs ls hP hS hv
  subst hst
  obtain ⟨h1, h2, h4, h5, hy⟩ := hL
  exact run_doneN (vx_runSX (hh := hh) (As := As) (rest := st) hF (hC l hsl Γ _ w _ _ k) ⟨⟨rfl, rfl, hRm.1, hRm.2, pay_in hF.2.2.2.2 (codeW_good h5), List.mem_cons_self⟩, hF.2.2.2.2 _ h5, hF.2.2.2.2 _ h4, hy.1, par_n hy.2, hF.2.2.2.2 _ h1, hF.2.2.2.2 _ h2⟩ ⟨pcw_blind, fun U hU hWa => ⟨rfl, by rw [hU]; exact (hE.kept hS.1 hS.2.1).warm hWa, by rw [hU]; exact hP⟩⟩ rfl hn hv.1.1 rfl (lv_room (pc := pc) (ls := ls) (rest := As.reverse ++ st) hW) hd ⟨by rw [hmc]; exact hkc, by rw [hms]; exact hks⟩) hS hv hkc hks hO (fun _ _ h => h)
theorem x_callSN {g : Cxt} {cc : ByteArray} {own nm : String} {rt : Option FieldType} {rm : Room} (hG : Cx g cc own nm rt rm) {w : Wd} {kc ks pc : Nat} {lv : List (Option Value)} {st : List Value} (hO : No g) {idx n maxL : Nat} {y : MethodName} {yc : ByteArray} {ret : Option FieldType} {rm2 : Room} {S : SpT} {st0 : List Value} (As : List Value) (hC : CtrA y yc maxL ret rm2 S) (hL : LkS own idx y yc maxL ret n) (hn : As.length = n) (hst : st0 = As.reverse ++ st) (hRm : rm2.frames + 1 ≤ rm.frames ∧ 8 + (maxL + 11) + rm2.locals ≤ rm.locals) (hW : (st.map fun v => v.category).sum ≤ 8) (hkc : kc + rm2.cells ≤ gM g) (hks : ks + rm2.slots ≤ gN g) (hd : decode cc pc = .ok (.invokestatic idx, 3)) (k : S (gΓ g) As w (fun r w1 => X g w1 (kc + rm2.cells) (ks + rm2.slots) (pc + 3) lv (r.toList ++ st)) (gX g)) : X g w kc ks pc lv st0 := by
  obtain ⟨p, l, e, R, s, m, args, below, meth, c, Γ, nL, mc, ms, post, xpost⟩ := g
  obtain ⟨hF, hr, hlk, hE, hsl, rfl, hmc, hms, hnm⟩ := hG
  intro H locs ls hP hS hv
  subst hst
  obtain ⟨h1, h2, h4, h5, hy⟩ := hL
  exact run_doneN (vx_runS (As := As) (rest := st) hF (hC l hsl Γ _ w _ _ k) ⟨⟨rfl, rfl, hRm.1, hRm.2, pay_in hF.2.2.2.2 (code_good h5), List.mem_cons_self, hF.2.2.2.2 _ h5, hF.2.2.2.2 _ h4, hy.1, par_n hy.2, hF.2.2.2.2 _ h1⟩, hF.2.2.2.2 _ h2⟩ ⟨pcw_blind, fun U hU hWa => ⟨rfl, by rw [hU]; exact (hE.kept hS.1 hS.2.1).warm hWa, by rw [hU]; exact hP⟩⟩ rfl hn hv.1.1 rfl (lv_room (pc := pc) (ls := ls) (rest := As.reverse ++ st) hW) hd ⟨by rw [hmc]; exact hkc, by rw [hms]; exact hks⟩) hS hv hkc hks hO (fun _ _ h => h)
/-! a method that reads the script -/
def ExS (b L : Nat) (xs : Nat → Int32) (Γ : Gw) (U : State) (H : Heap) : Prop := va_X b L xs U H ∧ b < H.size ∧ ¬ n0A Γ b
def PcS (b L : Nat) (xs : Nat → Int32) (Γ : Gw) (av : List Value) (w : Wd) : Array Value → State → Prop := va_Pc av (fun U => (EV Γ U U.heap ∧ wPic Γ w U.heap) ∧ ExS b L xs Γ U U.heap)
theorem pcs_blind {b L : Nat} {xs : Nat → Int32} {Γ : Gw} {av : List Value} {w : Wd} : FrameBlind (PcS b L xs Γ av w) := fun a U g mk h => ⟨h.1, ⟨EV.same (u := U) (U := U.calling g mk a) (H := U.heap) rfl h.2.1.1, h.2.1.2⟩, va_X.moved (u := U) (U := U.calling g mk a) (H := U.heap) (Vm.Alike.refl _) h.2.2.1, h.2.2.2.1, h.2.2.2.2⟩
def CtrS (b L : Nat) (xs : Nat → Int32) (y : MethodName) (cc : ByteArray) (maxL : Nat) (ret : Option FieldType) (rm : Room) (S : SpT) : Prop := ∀ l : Launch, l.stackTraces = false →
  ∀ (Γ : Gw) (av : List Value) (w : Wd) (post : Option Value → Wd → Prop) (xpost : String → Wd → Prop), S Γ av w post xpost →
    vx_Met l y (Cond.code y cc maxL ret :: TB) rm (PcS b L xs Γ av w) (Qn Γ post) (Qx Γ xpost) rm.cells rm.slots (n0A Γ)
theorem ctr_ofS {b L : Nat} {xs : Nat → Int32} {y : MethodName} {cc : ByteArray} {maxL : Nat} {ret : Option FieldType} {rm : Room} {S : SpT} (hy : plainName y.cls = true)
    (body : ∀ (g : Cxt) (av : List Value) (w : Wd), Cx g cc y.cls y.name ret rm → Co g → Scr g b L xs → S (gΓ g) av w (gP g) (gX g) → (lg_sl av).length ≤ maxL ∧ X g w 0 0 0 (ini av maxL) []) : CtrS b L xs y cc maxL ret rm S := by
  intro l hl Γ av w post xpost hS
  refine vx_ofW (cc := cc) (maxL := maxL) (ret := ret) hy rfl ?_
  intro p e s m args below meth c s₁ B hml hout hv
  obtain ⟨rfl, ⟨hE, hP⟩, hX⟩ := hv
  have hts := atoms_spec (ws := Cond.code y cc maxL ret :: TB) B.pre
  have hb := body (p, l, e, rm, s, m, av.toArray, below, meth, c, Γ, maxL, rm.cells, rm.slots, post, xpost) av w
    ⟨⟨B.exec, B.bytes, hml, findClass_of_methodNamed B.named, fun w hw => hts w (List.mem_cons_of_mem _ hw)⟩, B.returns, B.notSynchronized, hE, hl, rfl, rfl, rfl, (name_of_methodNamed B.named B.method).1⟩ hout hX hS
  have hl0 := lv_entry av (n := maxL) hb.1
  rw [lg_entry_eq]
  exact hb.2 s.heap [] _ hP va_S.rf ⟨⟨hl0.1, hl0.2.1, fun q hq => hl0.2.2 q (ini_in av maxL 0 q hq)⟩, ini_len av maxL hb.1⟩
theorem x_callSX {g : Cxt} {cc : ByteArray} {own nm : String} {rt : Option FieldType} {rm : Room} (hG : Cx g cc own nm rt rm) {w : Wd} {kc ks pc : Nat} {lv : List (Option Value)} {st : List Value} (hO : No g) {idx n maxL : Nat} {y : MethodName} {yc : ByteArray} {ret : Option FieldType} {rm2 : Room} {S : SpT} {st0 : List Value} (As : List Value) {bs Ls : Nat} {xs : Nat → Int32} (hX : Scr g bs Ls xs) (hC : CtrS bs Ls xs y yc maxL ret rm2 S) (hL : LkS own idx y yc maxL ret n) (hn : As.length = n) (hst : st0 = As.reverse ++ st) (hRm : rm2.frames + 1 ≤ rm.frames ∧ 8 + (maxL + 11) + rm2.locals ≤ rm.locals) (hW : (st.map fun v => v.category).sum ≤ 8) (hkc : kc + rm2.cells ≤ gM g) (hks : ks + rm2.slots ≤ gN g) (hd : decode cc pc = .ok (.invokestatic idx, 3)) (k : S (gΓ g) As w (fun r w1 => X g w1 (kc + rm2.cells) (ks + rm2.slots) (pc + 3) lv (r.toList ++ st)) (gX g)) : X g w kc ks pc lv st0 := by
  obtain ⟨p, l, e, R, s, m, args, below, meth, c, Γ, nL, mc, ms, post, xpost⟩ := g
  obtain ⟨hF, hr, hlk, hE, hsl, rfl, hmc, hms, hnm⟩ := hG
  intro H locs ls hP hS hv
  subst hst
  obtain ⟨h1, h2, h4, h5, hy⟩ := hL
  exact run_doneN (vx_runS (As := As) (rest := st) hF (hC l hsl Γ _ w _ _ k) ⟨⟨rfl, rfl, hRm.1, hRm.2, pay_in hF.2.2.2.2 (code_good h5), List.mem_cons_self, hF.2.2.2.2 _ h5, hF.2.2.2.2 _ h4, hy.1, par_n hy.2, hF.2.2.2.2 _ h1⟩, hF.2.2.2.2 _ h2⟩ ⟨pcs_blind, fun U hU hWa => ⟨rfl, ⟨by rw [hU]; exact (hE.kept hS.1 hS.2.1).warm hWa, by rw [hU]; exact hP⟩, by rw [hU]; exact ⟨(hX.1.kept (hS.2.1 bs hX.2.1 hX.2.2)).moved hWa.alike, Nat.lt_of_lt_of_le hX.2.1 hS.1, hX.2.2⟩⟩⟩ rfl hn hv.1.1 rfl (lv_room (pc := pc) (ls := ls) (rest := As.reverse ++ st) hW) hd ⟨by rw [hmc]; exact hkc, by rw [hms]; exact hks⟩) hS hv hkc hks hO (fun _ _ h => h)
theorem va_D.two {A : Nat → Prop} {P Q : va_W} {a : Nat} {e d : va_E} (hD : va_D A (P ++ Q)) (h1 : (a, e) ∈ P) (h2 : (a, d) ∈ Q) : False := by
  obtain ⟨i, hi⟩ := List.getElem?_of_mem h1
  obtain ⟨j, hj⟩ := List.getElem?_of_mem h2
  have hl := (List.getElem?_eq_some_iff.mp hi).1
  have := hD.1 i (P.length + j) (a, e) (a, d) (by rw [List.getElem?_append_left hl]; exact hi) (by rw [List.getElem?_append_right (by omega), Nat.add_sub_cancel_left]; exact hj) rfl
  omega
def wupL (w : Wd) (r : Nat → Nat) (x : Nat → Tg × va_E) : Nat → Wd
  | 0 => w
  | i + 1 => wup (wupL w r x i) (r i) (x i)
theorem wupL_o {w : Wd} {r : Nat → Nat} {x : Nat → Tg × va_E} {b : Nat} : ∀ {n : Nat}, (∀ i, i < n → r i ≠ b) → wupL w r x n b = w b
  | 0, _ => rfl
  | n + 1, h => (wup_n (fun z => h n (by omega) z.symm)).trans (wupL_o (fun i hi => h i (by omega)))
theorem wupL_i {w : Wd} {r : Nat → Nat} {x : Nat → Tg × va_E} : ∀ {n : Nat}, (∀ i j, i < n → j < n → r i = r j → i = j) → ∀ i, i < n → wupL w r x n (r i) = some (x i)
  | 0, _, i, hi => absurd hi (Nat.not_lt_zero _)
  | n + 1, h, i, hi => by
    by_cases q : i = n
    · subst q
      exact wup_s
    · have hne : r i ≠ r n := fun z => q (h i n hi (by omega) z)
      exact (wup_n hne).trans (wupL_i (fun a b ha hb z => h a b (by omega) (by omega) z) i (by omega))
theorem x_newII {g : Cxt} {cc : ByteArray} {own nm : String} {rt : Option FieldType} {rm : Room} (hG : Cx g cc own nm rt rm) {w : Wd} {kc ks pc : Nat} {lv : List (Option Value)} {st : List Value} {N K idx : Nat} {n k : Int32} (t : Tg) (tr : Nat → Tg) (hL : Cond.classLink own idx "[[I" ∈ TB) (hn : ¬ n < 0) (hk : ¬ k < 0) (hN : n.toNatClampNeg = N) (hK : k.toNatClampNeg = K) (hbN : N ≤ 1000) (hbK : K ≤ 1000) (hd : decode cc pc = .ok (.multianewarray idx 2, 4)) (hkc : kc + (1 + N) ≤ gM g) (hks : ks + (N + N * K) ≤ gN g)
    (kk : ∀ (q : Nat) (r : Nat → Nat) (w1 : Wd), (∀ (b : Nat) (x : Tg × va_E), w b = some x → w1 b = some x) → w1 q = some (t, .inl (gK g 4, N, .inr (.inr (.inr (.inr (fun i => if i < N then some (r i) else none)))))) → (∀ i, i < N → w1 (r i) = some (tr i, .inl (gK g 0, K, .inl (fun _ => 0)))) → X g w1 (kc + 1 + N) (ks + N + N * K) (pc + 4) lv (.ref q :: st)) : X g w kc ks pc lv (.int k :: .int n :: st) := by
  obtain ⟨p, l, e, R, s, m, args, below, meth, c, Γ, nL, mc, ms, post, xpost⟩ := g
  obtain ⟨hF, hr, hlk, hE, hsl, rfl, hmc, hms, hnm⟩ := hG
  intro H locs ls hP hS hv
  have hP0 : va_P Γ.1 vwCl (wls w H.size ++ va_pl [] (fun _ => .inl (Γ.2.1 0, K, .inl (fun _ => 0)))) H := by
    rw [show va_pl [] (fun _ => (.inl (Γ.2.1 0, K, .inl (fun _ => 0)) : va_E)) = [] from rfl, List.append_nil]
    exact wls_P hP
  have hD0 : va_D (n0A Γ) (wls w H.size ++ va_pl [] (fun _ => .inl (Γ.2.1 0, K, .inl (fun _ => 0)))) := by
    rw [show va_pl [] (fun _ => (.inl (Γ.2.1 0, K, .inl (fun _ => 0)) : va_E)) = [] from rfl, List.append_nil]
    exact wls_D hP
  refine va_mna (ty := .int) (cy := Γ.2.1 0) (z := (K, .inl (fun _ => 0))) hF.1 hF.2.1 hF.2.2.2.1 (hF.2.2.2.2 _ hL) hE.2.2.2.2.2.2.2.2.2.2.2.1 (hF.2.2.2.2 _ ac_int) (hE.1.2 0 _ rfl).2 hE.1 hP0 hD0 hS (fun q hq => Nat.le_trans hE.2.2.2.2.2.2.2.1 hq) hn hk hN hK (by omega) (by show K * 4 ≤ _; omega) (by omega) rfl rfl (by rw [hmc]; exact hkc) (by rw [hms]; exact hks) (fun cA => by show ({ cls := cA, slots := Array.replicate K (.int 0), vm := .none } : Cell) = _; rw [arrV_new]; rfl) hd (fun q r cA H1 hinj hnl hK1 p1 d1 s1 => ?_)
  have hcA : cA = Γ.2.1 4 := Option.some.inj ((hK1.2 5 _ rfl).2.symm.trans (hE.1.2 4 _ rfl).2)
  subst hcA
  have hin : ∀ (a : Nat) (y : va_E), (a, y) ∈ (wls w H.size ++ [(q, .inl (Γ.2.1 4, N, .inr (.inr (.inr (.inr (fun i => if i < N then some (r i) else none))))))]) ++ va_pl ([] ++ (List.range N).map r) (vr_up (fun _ => .inl (Γ.2.1 0, K, .inl (fun _ => 0))) ((List.range N).map r) (.inl (Γ.2.1 0, K, .inl (fun _ => 0)))) → n0A Γ a ∧ va_at Γ.1 vwCl (a, y) H1 := by
    intro a y h
    obtain ⟨i, hi⟩ := List.getElem?_of_mem h
    exact ⟨d1.2 i _ hi, p1 i _ hi⟩
  have hrow : ∀ i, i < N → (r i, (.inl (Γ.2.1 0, K, .inl (fun _ => 0)) : va_E)) ∈ va_pl ([] ++ (List.range N).map r) (vr_up (fun _ => .inl (Γ.2.1 0, K, .inl (fun _ => 0))) ((List.range N).map r) (.inl (Γ.2.1 0, K, .inl (fun _ => 0)))) := by
    intro i hi
    have h1 : r i ∈ (List.range N).map r := List.mem_map.mpr ⟨i, List.mem_range.mpr hi, rfl⟩
    unfold va_pl
    rw [List.nil_append]
    refine List.mem_map.mpr ⟨r i, h1, ?_⟩
    rw [vr_up_in h1]
  have hq0 : w q = none := by
    cases hw : w q with
    | none => rfl
    | some x =>
      exfalso
      have hD1 : va_D (n0A Γ) (wls w H.size ++ ([(q, .inl (Γ.2.1 4, N, .inr (.inr (.inr (.inr (fun i => if i < N then some (r i) else none))))))] ++ va_pl ([] ++ (List.range N).map r) (vr_up (fun _ => .inl (Γ.2.1 0, K, .inl (fun _ => 0))) ((List.range N).map r) (.inl (Γ.2.1 0, K, .inl (fun _ => 0)))))) := by
        rw [← List.append_assoc]
        exact d1
      exact va_D.two hD1 (wls_mem.mpr ⟨hP.lt hw, x.1, hw⟩) (List.mem_append_left _ List.mem_cons_self)
  have hrq : ∀ i, i < N → r i ≠ q := by
    intro i hi z
    exact va_D.two d1 (List.mem_append_right _ (by rw [z]; exact List.mem_cons_self)) (hrow i hi)
  have hr0 : ∀ i, i < N → w (r i) = none := by
    intro i hi
    cases hw : w (r i) with
    | none => rfl
    | some x => exact (va_D.two d1 (List.mem_append_left _ (wls_mem.mpr ⟨hP.lt hw, x.1, hw⟩)) (hrow i hi)).elim
  have key := kk q r (wupL (wup w q (t, .inl (Γ.2.1 4, N, .inr (.inr (.inr (.inr (fun i => if i < N then some (r i) else none))))))) r (fun i => (tr i, .inl (Γ.2.1 0, K, .inl (fun _ => 0)))) N) (fun b x hb => ?_) ((wupL_o hrq).trans wup_s) (fun i hi => wupL_i hinj i hi)
  · refine key H1 locs ls (fun b x hb => ?_) s1 hv
    by_cases h1 : ∃ i, i < N ∧ r i = b
    · obtain ⟨i, hi, rfl⟩ := h1
      rw [wupL_i hinj i hi] at hb
      cases hb
      exact hin _ _ (List.mem_append_right _ (hrow i hi))
    · rw [wupL_o (fun i hi z => h1 ⟨i, hi, z⟩)] at hb
      by_cases h2 : b = q
      · subst h2
        rw [wup_s] at hb
        cases hb
        exact hin _ _ (List.mem_append_left _ (List.mem_append_right _ List.mem_cons_self))
      · rw [wup_n h2] at hb
        exact hin _ _ (List.mem_append_left _ (List.mem_append_left _ (wls_mem.mpr ⟨hP.lt hb, x.1, hb⟩)))
  · refine (wupL_o (fun i hi z => ?_)).trans (wup_f hq0 hb)
    have h0 := hr0 i hi
    rw [z, hb] at h0
    cases h0
/-! a number out of a comparison -/
section DIA
variable {g : Cxt} {cc : ByteArray} {own nm : String} {rt : Option FieldType} {rm : Room} {w : Wd} {kc ks pc : Nat} {lv : List (Option Value)} {st : List Value}
theorem dia_le (hG : Cx g cc own nm rt rm) {x y : Int32} {o o2 : Int} (tgt E : Nat) (d0 : decode cc pc = .ok (.if_icmp .le o, 3)) (ht : (pc : Int) + o = (tgt : Int)) (d1 : decode cc (pc + 3) = .ok (.iconst 1, 1)) (d2 : decode cc (pc + 4) = .ok (.goto o2, 3)) (hE : ((pc + 4 : Nat) : Int) + o2 = (E : Int)) (d3 : decode cc tgt = .ok (.iconst 0, 1)) (he : tgt + 1 = E) (k : X g w kc ks E lv (.int (if x ≤ y then 0 else 1) :: st)) : X g w kc ks pc lv (.int y :: .int x :: st) := by
  refine x_icmp_le hG tgt d0 ht (fun h => ?_) (fun h => ?_)
  · refine x_iconst hG 0 d3 (by decide) ?_
    rw [he]
    rw [if_pos h] at k
    exact k
  · refine x_iconst hG 1 d1 (by decide) ?_
    refine x_goto hG E d2 hE ?_
    rw [if_neg h] at k
    exact k
theorem dia_icne (hG : Cx g cc own nm rt rm) {x y : Int32} {o o2 : Int} (tgt E : Nat) (d0 : decode cc pc = .ok (.if_icmp .ne o, 3)) (ht : (pc : Int) + o = (tgt : Int)) (d1 : decode cc (pc + 3) = .ok (.iconst 1, 1)) (d2 : decode cc (pc + 4) = .ok (.goto o2, 3)) (hE : ((pc + 4 : Nat) : Int) + o2 = (E : Int)) (d3 : decode cc tgt = .ok (.iconst 0, 1)) (he : tgt + 1 = E) (k : X g w kc ks E lv (.int (if x = y then 1 else 0) :: st)) : X g w kc ks pc lv (.int y :: .int x :: st) := by
  refine x_icmp_ne hG tgt d0 ht (fun h => ?_) (fun h => ?_)
  · refine x_iconst hG 0 d3 (by decide) ?_
    rw [he]
    rw [if_neg h] at k
    exact k
  · refine x_iconst hG 1 d1 (by decide) ?_
    refine x_goto hG E d2 hE ?_
    rw [if_pos h] at k
    exact k
theorem dia_ne (hG : Cx g cc own nm rt rm) {x : Int32} {o o2 : Int} (tgt E : Nat) (d0 : decode cc pc = .ok (.ifCond .ne o, 3)) (ht : (pc : Int) + o = (tgt : Int)) (d1 : decode cc (pc + 3) = .ok (.iconst 1, 1)) (d2 : decode cc (pc + 4) = .ok (.goto o2, 3)) (hE : ((pc + 4 : Nat) : Int) + o2 = (E : Int)) (d3 : decode cc tgt = .ok (.iconst 0, 1)) (he : tgt + 1 = E) (k : X g w kc ks E lv (.int (if x = 0 then 1 else 0) :: st)) : X g w kc ks pc lv (.int x :: st) := by
  refine x_if_ne hG tgt d0 ht (fun h => ?_) (fun h => ?_)
  · refine x_iconst hG 0 d3 (by decide) ?_
    rw [he]
    rw [if_neg h] at k
    exact k
  · refine x_iconst hG 1 d1 (by decide) ?_
    refine x_goto hG E d2 hE ?_
    rw [if_pos h] at k
    exact k
theorem dia_eq (hG : Cx g cc own nm rt rm) {x : Int32} {o o2 : Int} (tgt E : Nat) (d0 : decode cc pc = .ok (.ifCond .eq o, 3)) (ht : (pc : Int) + o = (tgt : Int)) (d1 : decode cc (pc + 3) = .ok (.iconst 1, 1)) (d2 : decode cc (pc + 4) = .ok (.goto o2, 3)) (hE : ((pc + 4 : Nat) : Int) + o2 = (E : Int)) (d3 : decode cc tgt = .ok (.iconst 0, 1)) (he : tgt + 1 = E) (k : X g w kc ks E lv (.int (if x = 0 then 0 else 1) :: st)) : X g w kc ks pc lv (.int x :: st) := by
  refine x_if_eq hG tgt d0 ht (fun h => ?_) (fun h => ?_)
  · refine x_iconst hG 0 d3 (by decide) ?_
    rw [he]
    rw [if_pos h] at k
    exact k
  · refine x_iconst hG 1 d1 (by decide) ?_
    refine x_goto hG E d2 hE ?_
    rw [if_neg h] at k
    exact k
theorem dia_eq01 (hG : Cx g cc own nm rt rm) {x : Int32} {o o2 : Int} (tgt E : Nat) (d0 : decode cc pc = .ok (.ifCond .eq o, 3)) (ht : (pc : Int) + o = (tgt : Int)) (d1 : decode cc (pc + 3) = .ok (.iconst 0, 1)) (d2 : decode cc (pc + 4) = .ok (.goto o2, 3)) (hE : ((pc + 4 : Nat) : Int) + o2 = (E : Int)) (d3 : decode cc tgt = .ok (.iconst 1, 1)) (he : tgt + 1 = E) (k : X g w kc ks E lv (.int (if x = 0 then 1 else 0) :: st)) : X g w kc ks pc lv (.int x :: st) := by
  refine x_if_eq hG tgt d0 ht (fun h => ?_) (fun h => ?_)
  · refine x_iconst hG 1 d3 (by decide) ?_
    rw [he]
    rw [if_pos h] at k
    exact k
  · refine x_iconst hG 0 d1 (by decide) ?_
    refine x_goto hG E d2 hE ?_
    rw [if_neg h] at k
    exact k
end DIA
theorem nI_nz {m : Nat} (h0 : 0 < m) (hm : m < 2 ^ 31) : ¬ nI m = 0 := fun q => by
  have h := congrArg Int32.toInt q
  rw [nI_toInt hm] at h
  have e : (0 : Int32).toInt = 0 := rfl
  omega
