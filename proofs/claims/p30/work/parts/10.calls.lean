/-! calls -/
theorem pcw_blind {Γ : Gw} {av : List Value} {w : Wd} : FrameBlind (PcW Γ av w) := fun a U g mk h => ⟨h.1, EV.same (u := U) (U := U.calling g mk a) (H := U.heap) rfl h.2.1, h.2.2⟩
theorem code_good {y : MethodName} {cc : ByteArray} {maxL : Nat} {ret : Option FieldType} (h : Cond.code y cc maxL ret ∈ TB) : ∀ w ∈ Cond.code y cc maxL ret :: TB, w ∈ TB ∧ ((w.onTables && w.keeps) = true ∨ ∃ ty, w = .arrayClass ty) :=
  fun w hw => TB_good w ((List.mem_cons.mp hw).elim (fun q => by rw [q]; exact h) id)
def LkV (own : String) (idx : Nat) (y : MethodName) (cc : ByteArray) (maxL : Nat) (ret : Option FieldType) (n ci : Nat) : Prop :=
  Cond.methodLink own idx y ∈ TB ∧ Cond.instanceMethod y ∈ TB ∧ Cond.selects y.cls y y ∈ TB ∧ Cond.initialized y.cls ∈ TB ∧ Cond.code y cc maxL ret ∈ TB ∧ ((y.cls ≠ "java/lang/invoke/MethodHandle" ∧ y.cls ≠ "java/lang/invoke/VarHandle") ∧ (parseMethodDescriptor y.desc).map (fun d => d.parameters.length) = some n) ∧ ∃ (T : u_T) (N : Nat), vwCl[ci]? = some (y.cls, T, N)
def LkS (own : String) (idx : Nat) (y : MethodName) (cc : ByteArray) (maxL : Nat) (ret : Option FieldType) (n : Nat) : Prop :=
  Cond.methodLink own idx y ∈ TB ∧ Cond.static y ∈ TB ∧ Cond.initialized y.cls ∈ TB ∧ Cond.code y cc maxL ret ∈ TB ∧ ((y.cls ≠ "java/lang/invoke/MethodHandle" ∧ y.cls ≠ "java/lang/invoke/VarHandle") ∧ (parseMethodDescriptor y.desc).map (fun d => d.parameters.length) = some n)
def LkI (own : String) (idx : Nat) (y : MethodName) (cc : ByteArray) (maxL n : Nat) : Prop :=
  Cond.methodLink own idx y ∈ TB ∧ Cond.instanceMethod y ∈ TB ∧ Cond.initialized y.cls ∈ TB ∧ Cond.code y cc maxL none ∈ TB ∧ ((y.cls ≠ "java/lang/invoke/MethodHandle" ∧ y.cls ≠ "java/lang/invoke/VarHandle") ∧ (parseMethodDescriptor y.desc).map (fun d => d.parameters.length) = some n) ∧ y.name = "<init>"
def LkN (own : String) (idx : Nat) (y : MethodName) (cc : ByteArray) (maxL n : Nat) : Prop :=
  (∃ host : String, Cond.methodLinkNest own idx y host ∈ NB) ∧ Cond.instanceMethod y ∈ TB ∧ Cond.initialized y.cls ∈ TB ∧ Cond.code y cc maxL none ∈ TB ∧ ((y.cls ≠ "java/lang/invoke/MethodHandle" ∧ y.cls ≠ "java/lang/invoke/VarHandle") ∧ (parseMethodDescriptor y.desc).map (fun d => d.parameters.length) = some n) ∧ y.name = "<init>"
theorem par_n {y : MethodName} {n : Nat} (h : (parseMethodDescriptor y.desc).map (fun d => d.parameters.length) = some n) : ∀ sig, parseMethodDescriptor y.desc = some sig → n = sig.parameters.length := by
  intro sig hs
  rw [hs] at h
  exact (Option.some.inj h).symm
section RD
variable {p : Program} {l : Launch} {e : Env} {R : Room} {s : State} {m : MethodId} {args : Array Value} {below : List Frame} {meth : Method} {c : Code} {H : Heap} {locs : List Loc} {ls : Array Slot}
theorem run_done {Γ : Gw} {nL mc ms kc ks mc1 ms1 pc : Nat} {post post1 : Option Value → Wd → Prop} {xpost xpost1 : String → Wd → Prop} {lv : List (Option Value)} {st0 rest : List Value} {a : Array Value}
    (hr : vx_Run p l e R s m args below meth c H locs kc ks mc1 ms1 (F0 m pc ls st0) rest (Qn Γ post1 a) (Qx Γ xpost1) (n0A Γ)) (hS : va_S (n0A Γ) s.heap H locs) (hv : lh ls nL lv) (hout : ∀ x ∈ c.exceptionTable.toList, False) (hlk : meth.locks = false) (hc : kc + mc1 ≤ mc) (hs : ks + ms1 ≤ ms)
    (kx : ∀ (E : String) (w1 : Wd), xpost1 E w1 → xpost E w1) (kk : ∀ (r : Option Value) (w1 : Wd), post1 r w1 → X (p, l, e, R, s, m, args, below, meth, c, Γ, nL, mc, ms, post, xpost) w1 (kc + mc1) (ks + ms1) (pc + 3) lv (r.toList ++ rest)) :
    W p l e R s m args below meth c H locs kc ks (vx_MQ below (Qn Γ post) (Qx Γ xpost) args s mc ms (n0A Γ)) (F0 m pc ls st0) := by
  intro T hT X0
  rcases hr T hT X0 with ⟨v, st₀, t, T', L, h0, X', hL, e1, e2, ⟨⟨r, w1, hrv, hp, hpo⟩, hFr⟩, st⟩ | ⟨q, st₀, t, T', L, E, ce, h0, X', hL, e1, e2, ⟨⟨w1, hp, hpo⟩, hFr⟩, hce, hcv, hcl, st⟩
  · cases hrv
    obtain ⟨k1, k2, k3⟩ := vx_keep h0 e1 hS (fun q _ h => h) (fun q h => h) hL hFr
    obtain ⟨t2, a1, b1⟩ := kk _ w1 hpo T'.heap (locs ++ L) ls (by rw [e1]; exact hp) k3 hv T' rfl X'
    exact ⟨t2, st t2 a1, b1⟩
  · obtain ⟨k1, k2, k3⟩ := vx_keep h0 e1 hS (fun q _ h => h) (fun q h => h) hL hFr
    obtain ⟨t2, a1, b1⟩ := vx_out (E := E) (ce := ce) (q := q) (pc := pc) (ls := ls) (rest := rest) (Qc := Qn Γ post) (XC := Qx Γ xpost) (free := n0A Γ) (fun x hx => (hout x hx).elim) hlk (by rw [e1]; exact hce) hcv hcl (fun t9 ht _ => ⟨⟨w1, by rw [ht, e1]; exact hp, kx E w1 hpo⟩, k3.F ht⟩) k3.2.2 hc hs T' rfl X'
    exact ⟨t2, st.trans a1, b1⟩
theorem run_done5 {Γ : Gw} {nL mc ms kc ks mc1 ms1 pc : Nat} {post post1 : Option Value → Wd → Prop} {xpost xpost1 : String → Wd → Prop} {lv : List (Option Value)} {st0 rest : List Value} {a : Array Value}
    (hr : vx_Run5 p l e R s m args below meth c H locs kc ks mc1 ms1 (F0 m pc ls st0) rest (Qn Γ post1 a) (Qx Γ xpost1) (n0A Γ)) (hS : va_S (n0A Γ) s.heap H locs) (hv : lh ls nL lv) (hout : ∀ x ∈ c.exceptionTable.toList, False) (hlk : meth.locks = false) (hc : kc + mc1 ≤ mc) (hs : ks + ms1 ≤ ms)
    (kx : ∀ (E : String) (w1 : Wd), xpost1 E w1 → xpost E w1) (kk : ∀ (r : Option Value) (w1 : Wd), post1 r w1 → X (p, l, e, R, s, m, args, below, meth, c, Γ, nL, mc, ms, post, xpost) w1 (kc + mc1) (ks + ms1) (pc + 5) lv (r.toList ++ rest)) :
    W p l e R s m args below meth c H locs kc ks (vx_MQ below (Qn Γ post) (Qx Γ xpost) args s mc ms (n0A Γ)) (F0 m pc ls st0) := by
  intro T hT X0
  rcases hr T hT X0 with ⟨v, st₀, t, T', L, h0, X', hL, e1, e2, ⟨⟨r, w1, hrv, hp, hpo⟩, hFr⟩, st⟩ | ⟨q, st₀, t, T', L, E, ce, h0, X', hL, e1, e2, ⟨⟨w1, hp, hpo⟩, hFr⟩, hce, hcv, hcl, st⟩
  · cases hrv
    obtain ⟨k1, k2, k3⟩ := vx_keep h0 e1 hS (fun q _ h => h) (fun q h => h) hL hFr
    obtain ⟨t2, a1, b1⟩ := kk _ w1 hpo T'.heap (locs ++ L) ls (by rw [e1]; exact hp) k3 hv T' rfl X'
    exact ⟨t2, st t2 a1, b1⟩
  · obtain ⟨k1, k2, k3⟩ := vx_keep h0 e1 hS (fun q _ h => h) (fun q h => h) hL hFr
    obtain ⟨t2, a1, b1⟩ := vx_out (E := E) (ce := ce) (q := q) (pc := pc) (ls := ls) (rest := rest) (Qc := Qn Γ post) (XC := Qx Γ xpost) (free := n0A Γ) (fun x hx => (hout x hx).elim) hlk (by rw [e1]; exact hce) hcv hcl (fun t9 ht _ => ⟨⟨w1, by rw [ht, e1]; exact hp, kx E w1 hpo⟩, k3.F ht⟩) k3.2.2 hc hs T' rfl X'
    exact ⟨t2, st.trans a1, b1⟩
end RD
abbrev xNm : List String := ["java/lang/RuntimeException", "java/lang/Exception"]
def LkT (own : String) (ik is ic : Nat) (cls text : String) : Prop := Cond.classLink own ik cls ∈ TB ∧ Cond.initialized cls ∈ TB ∧ (own, is, text) ∈ STR ∧ (∀ w ∈ (vx_atS own ic cls xNm).filter goodWord, w ∈ TB) ∧ (∀ w ∈ (vx_atS own ic cls xNm).filter (fun w => !goodWord w), w ∈ NB) ∧
  (∀ w ∈ Cond.classLink own ik cls :: Cond.initialized cls :: vx_atS own ic cls xNm, vx_ot w = true) ∧ Bundle.fit cls = true
theorem x_callV {g : Cxt} {cc : ByteArray} {own nm : String} {rt : Option FieldType} {rm : Room} (hG : Cx g cc own nm rt rm) {w : Wd} {kc ks pc : Nat} {lv : List (Option Value)} {st : List Value} (hO : Co g) {idx n ci b maxL : Nat} {t : Tg} {fs : List Value} {y : MethodName} {yc : ByteArray} {ret : Option FieldType} {rm2 : Room} {S : SpT} {st0 : List Value} (As : List Value) (hC : CtrA y yc maxL ret rm2 S) (hL : LkV own idx y yc maxL ret n ci) (he : w b = some (t, .inr (ci, fs))) (hn : As.length = n) (hst : st0 = As.reverse ++ .ref b :: st) (hRm : rm2.frames + 1 ≤ rm.frames ∧ 8 + (maxL + 11) + rm2.locals ≤ rm.locals) (hW : (st.map fun v => v.category).sum ≤ 8) (hkc : kc + rm2.cells ≤ gM g) (hks : ks + rm2.slots ≤ gN g) (hd : decode cc pc = .ok (.invokevirtual idx, 3)) (k : S (gΓ g) (.ref b :: As) w (fun r w1 => X g w1 (kc + rm2.cells) (ks + rm2.slots) (pc + 3) lv (r.toList ++ st)) (gX g)) : X g w kc ks pc lv st0 := by
  obtain ⟨p, l, e, R, s, m, args, below, meth, c, Γ, nL, mc, ms, post, xpost⟩ := g
  obtain ⟨hF, hr, hlk, hE, hsl, rfl, hmc, hms, hnm⟩ := hG
  intro H locs ls hP hS hv
  subst hst
  obtain ⟨h1, h2, h3, h4, h5, hy, T2, N2, hc2⟩ := hL
  exact run_done (vx_runV (As := As) (rest := st) hF (hC l hsl Γ _ w _ _ k) ⟨⟨rfl, rfl, hRm.1, hRm.2, pay_in hF.2.2.2.2 (code_good h5), List.mem_cons_self, hF.2.2.2.2 _ h5, hF.2.2.2.2 _ h4, hy.1, par_n hy.2, hF.2.2.2.2 _ h1⟩, hF.2.2.2.2 _ h2, hF.2.2.2.2 _ h3⟩ ⟨pcw_blind, va_recv hE.1 (hP.one he) hc2 (q0 := 0) rfl, fun U hU hWa => ⟨rfl, by rw [hU]; exact (hE.kept hS.1 hS.2.1).warm hWa, by rw [hU]; exact hP⟩⟩ rfl hn hv.1.1 rfl (lv_room (pc := pc) (ls := ls) (rest := As.reverse ++ .ref b :: st) hW) hd ⟨by rw [hmc]; exact hkc, by rw [hms]; exact hks⟩) hS hv hO hlk hkc hks (fun _ _ h => h) (fun _ _ h => h)
theorem x_callS {g : Cxt} {cc : ByteArray} {own nm : String} {rt : Option FieldType} {rm : Room} (hG : Cx g cc own nm rt rm) {w : Wd} {kc ks pc : Nat} {lv : List (Option Value)} {st : List Value} (hO : Co g) {idx n maxL : Nat} {y : MethodName} {yc : ByteArray} {ret : Option FieldType} {rm2 : Room} {S : SpT} {st0 : List Value} (As : List Value) (hC : CtrA y yc maxL ret rm2 S) (hL : LkS own idx y yc maxL ret n) (hn : As.length = n) (hst : st0 = As.reverse ++ st) (hRm : rm2.frames + 1 ≤ rm.frames ∧ 8 + (maxL + 11) + rm2.locals ≤ rm.locals) (hW : (st.map fun v => v.category).sum ≤ 8) (hkc : kc + rm2.cells ≤ gM g) (hks : ks + rm2.slots ≤ gN g) (hd : decode cc pc = .ok (.invokestatic idx, 3)) (k : S (gΓ g) As w (fun r w1 => X g w1 (kc + rm2.cells) (ks + rm2.slots) (pc + 3) lv (r.toList ++ st)) (gX g)) : X g w kc ks pc lv st0 := by
  obtain ⟨p, l, e, R, s, m, args, below, meth, c, Γ, nL, mc, ms, post, xpost⟩ := g
  obtain ⟨hF, hr, hlk, hE, hsl, rfl, hmc, hms, hnm⟩ := hG
  intro H locs ls hP hS hv
  subst hst
  obtain ⟨h1, h2, h4, h5, hy⟩ := hL
  exact run_done (vx_runS (As := As) (rest := st) hF (hC l hsl Γ _ w _ _ k) ⟨⟨rfl, rfl, hRm.1, hRm.2, pay_in hF.2.2.2.2 (code_good h5), List.mem_cons_self, hF.2.2.2.2 _ h5, hF.2.2.2.2 _ h4, hy.1, par_n hy.2, hF.2.2.2.2 _ h1⟩, hF.2.2.2.2 _ h2⟩ ⟨pcw_blind, fun U hU hWa => ⟨rfl, by rw [hU]; exact (hE.kept hS.1 hS.2.1).warm hWa, by rw [hU]; exact hP⟩⟩ rfl hn hv.1.1 rfl (lv_room (pc := pc) (ls := ls) (rest := As.reverse ++ st) hW) hd ⟨by rw [hmc]; exact hkc, by rw [hms]; exact hks⟩) hS hv hO hlk hkc hks (fun _ _ h => h) (fun _ _ h => h)
theorem x_callI {g : Cxt} {cc : ByteArray} {own nm : String} {rt : Option FieldType} {rm : Room} (hG : Cx g cc own nm rt rm) {w : Wd} {kc ks pc : Nat} {lv : List (Option Value)} {st : List Value} (hO : Co g) {idx n b maxL : Nat} {y : MethodName} {yc : ByteArray} {rm2 : Room} {S : SpT} {st0 : List Value} (As : List Value) (hC : CtrA y yc maxL none rm2 S) (hL : LkI own idx y yc maxL n) (hn : As.length = n) (hst : st0 = As.reverse ++ .ref b :: st) (hRm : rm2.frames + 1 ≤ rm.frames ∧ 8 + (maxL + 11) + rm2.locals ≤ rm.locals) (hW : (st.map fun v => v.category).sum ≤ 8) (hkc : kc + rm2.cells ≤ gM g) (hks : ks + rm2.slots ≤ gN g) (hd : decode cc pc = .ok (.invokespecial idx, 3)) (k : S (gΓ g) (.ref b :: As) w (fun r w1 => X g w1 (kc + rm2.cells) (ks + rm2.slots) (pc + 3) lv (r.toList ++ st)) (gX g)) : X g w kc ks pc lv st0 := by
  obtain ⟨p, l, e, R, s, m, args, below, meth, c, Γ, nL, mc, ms, post, xpost⟩ := g
  obtain ⟨hF, hr, hlk, hE, hsl, rfl, hmc, hms, hnm⟩ := hG
  intro H locs ls hP hS hv
  subst hst
  obtain ⟨h1, h2, h4, h5, hy, h9⟩ := hL
  exact run_done (vx_runI (As := As) (rest := st) hF (hC l hsl Γ _ w _ _ k) ⟨⟨rfl, rfl, hRm.1, hRm.2, pay_in hF.2.2.2.2 (code_good h5), List.mem_cons_self, hF.2.2.2.2 _ h5, hF.2.2.2.2 _ h4, hy.1, par_n hy.2, hF.2.2.2.2 _ h1⟩, h9, hF.2.2.2.2 _ h2⟩ ⟨pcw_blind, fun U hU hWa => ⟨rfl, by rw [hU]; exact (hE.kept hS.1 hS.2.1).warm hWa, by rw [hU]; exact hP⟩⟩ rfl hn hv.1.1 rfl (lv_room (pc := pc) (ls := ls) (rest := As.reverse ++ .ref b :: st) hW) hd ⟨by rw [hmc]; exact hkc, by rw [hms]; exact hks⟩) hS hv hO hlk hkc hks (fun _ _ h => h) (fun _ _ h => h)
theorem x_callN {g : Cxt} {cc : ByteArray} {own nm : String} {rt : Option FieldType} {rm : Room} (hG : Cx g cc own nm rt rm) {w : Wd} {kc ks pc : Nat} {lv : List (Option Value)} {st : List Value} (hO : Co g) {idx n b maxL : Nat} {y : MethodName} {yc : ByteArray} {rm2 : Room} {S : SpT} {st0 : List Value} (As : List Value) (hC : CtrA y yc maxL none rm2 S) (hL : LkN own idx y yc maxL n) (hn : As.length = n) (hst : st0 = As.reverse ++ .ref b :: st) (hRm : rm2.frames + 1 ≤ rm.frames ∧ 8 + (maxL + 11) + rm2.locals ≤ rm.locals) (hW : (st.map fun v => v.category).sum ≤ 8) (hkc : kc + rm2.cells ≤ gM g) (hks : ks + rm2.slots ≤ gN g) (hd : decode cc pc = .ok (.invokespecial idx, 3)) (k : S (gΓ g) (.ref b :: As) w (fun r w1 => X g w1 (kc + rm2.cells) (ks + rm2.slots) (pc + 3) lv (r.toList ++ st)) (gX g)) : X g w kc ks pc lv st0 := by
  obtain ⟨p, l, e, R, s, m, args, below, meth, c, Γ, nL, mc, ms, post, xpost⟩ := g
  obtain ⟨hF, hr, hlk, hE, hsl, rfl, hmc, hms, hnm⟩ := hG
  intro H locs ls hP hS hv
  subst hst
  obtain ⟨⟨host, h1⟩, h2, h4, h5, hy, h9⟩ := hL
  exact run_done (vx_runIN (As := As) (rest := st) hF (hC l hsl Γ _ w _ _ k) ⟨⟨⟨rfl, rfl, hRm.1, hRm.2, pay_in hF.2.2.2.2 (code_good h5), List.mem_cons_self⟩, hF.2.2.2.2 _ h5, hF.2.2.2.2 _ h4, hy.1, par_n hy.2, va_Nw.use (NB_ok _ h1) (hE.2.1 _ h1)⟩, h9, hF.2.2.2.2 _ h2⟩ ⟨pcw_blind, fun U hU hWa => ⟨rfl, by rw [hU]; exact (hE.kept hS.1 hS.2.1).warm hWa, by rw [hU]; exact hP⟩⟩ rfl hn hv.1.1 rfl (lv_room (pc := pc) (ls := ls) (rest := As.reverse ++ .ref b :: st) hW) hd ⟨by rw [hmc]; exact hkc, by rw [hms]; exact hks⟩) hS hv hO hlk hkc hks (fun _ _ h => h) (fun _ _ h => h)
theorem x_objInit {g : Cxt} {cc : ByteArray} {own nm : String} {rt : Option FieldType} {rm : Room} (hG : Cx g cc own nm rt rm) {w : Wd} {kc ks pc : Nat} {lv : List (Option Value)} {st : List Value} {idx b : Nat} (h1 : Cond.methodLink own idx objectInit ∈ TB) (h2 : Cond.instanceMethod objectInit ∈ TB) (h3 : Cond.code objectInit ⟨#[0xb1]⟩ 1 none ∈ TB) (hd : decode cc pc = .ok (.invokespecial idx, 3)) (hRf : 1 ≤ rm.frames) (hRl : 20 ≤ rm.locals) (hW : (st.map fun v => v.category).sum ≤ 8) (k : X g w kc ks (pc + 3) lv st) : X g w kc ks pc lv (.ref b :: st) := by
  obtain ⟨p, l, e, R, s, m, args, below, meth, c, Γ, nL, mc, ms, post, xpost⟩ := g
  obtain ⟨hF, hr, hlk, hE, hsl, rfl, hmc, hms, hnm⟩ := hG
  intro H locs ls hP hS hv
  have h9 := lv_room (m := m) (pc := pc) (ls := ls) (rest := .ref b :: st) hW
  exact W.objInit hF.1 hF.2.1 hF.2.2.2.1 (hF.2.2.2.2 _ h1) (hF.2.2.2.2 _ h2) (hF.2.2.2.2 _ h3) rfl (hv.1.1.trans hF.2.2.1.symm) rfl hd hRf (by omega) (k H locs ls hP hS hv)
theorem x_throw {g : Cxt} {cc : ByteArray} {own nm : String} {rt : Option FieldType} {rm : Room} (hG : Cx g cc own nm rt rm) {w : Wd} {kc ks pc : Nat} {lv : List (Option Value)} {st : List Value} (hO : Co g) {ik is ic : Nat} (cls text : String) (hL : LkT own ik is ic cls text) (d0 : decode cc pc = .ok (.new ik, 3)) (d3 : decode cc (pc + 3) = .ok (.dup, 1)) (d4 : decode cc (pc + 4) = .ok (.ldc is, 2)) (d6 : decode cc (pc + 6) = .ok (.invokespecial ic, 3)) (d9 : decode cc (pc + 9) = .ok (.athrow, 1)) (hRf : 5 < rm.frames) (hRl : (st.map fun v => v.category).sum + 82 ≤ rm.locals) (hkc : kc + 1 ≤ gM g) (hks : ks + 6 ≤ gN g) (k : gX g cls w) : X g w kc ks pc lv st := by
  obtain ⟨p, l, e, R, s, m, args, below, meth, c, Γ, nL, mc, ms, post, xpost⟩ := g
  obtain ⟨hF, hr, hlk, hE, hsl, rfl, hmc, hms, hnm⟩ := hG
  intro H locs ls hP hS hv
  obtain ⟨h1, h2, h3, h4, h5, h6, h7⟩ := hL
  obtain ⟨sa, hstr⟩ := hE.2.2.1 _ h3
  exact vx_throwS hF.1 hF.2.1 hsl hF.2.2.2.1 h7 (by decide) (hF.2.2.2.2 _ h1) (hF.2.2.2.2 _ h2) hstr (vx_hat (fun w h => hF.2.2.2.2 w (h4 w h)) h5 (fun w h => va_Nw.use (NB_ok w h) (hE.2.1 w h))) h6 hE.2.2.2.1 hE.2.2.2.2.1 hS (hv.1.1.trans hF.2.2.1.symm) d0 d3 d4 d6 d9 (fun x hx => (hO x hx).elim) hRf hRl (by rw [hmc]; exact hkc) (by rw [hms]; exact hks) hlk (fun t _ hz hq => ⟨⟨w, hP.keep hq, k⟩, Nat.le_trans hS.1 hz, fun q g1 g2 => (hq q (Nat.lt_of_lt_of_le g1 hS.1)).trans (hS.2.1 q g1 g2)⟩) hS.2.2 hkc hks
theorem x_throwW {g : Cxt} {cc : ByteArray} {own nm : String} {rt : Option FieldType} {rm : Room} (hG : Cx g cc own nm rt rm) {w : Wd} {kc ks pc : Nat} {lv : List (Option Value)} {st : List Value} (hO : Co g) {ik is ic : Nat} (cls text : String) (hL : LkT own ik is ic cls text) (d0 : decode cc pc = .ok (.new ik, 3)) (d3 : decode cc (pc + 3) = .ok (.dup, 1)) (d4 : decode cc (pc + 4) = .ok (.ldc_w is, 3)) (d7 : decode cc (pc + 7) = .ok (.invokespecial ic, 3)) (d10 : decode cc (pc + 10) = .ok (.athrow, 1)) (hRf : 5 < rm.frames) (hRl : (st.map fun v => v.category).sum + 82 ≤ rm.locals) (hkc : kc + 1 ≤ gM g) (hks : ks + 6 ≤ gN g) (k : gX g cls w) : X g w kc ks pc lv st := by
  obtain ⟨p, l, e, R, s, m, args, below, meth, c, Γ, nL, mc, ms, post, xpost⟩ := g
  obtain ⟨hF, hr, hlk, hE, hsl, rfl, hmc, hms, hnm⟩ := hG
  intro H locs ls hP hS hv
  obtain ⟨h1, h2, h3, h4, h5, h6, h7⟩ := hL
  obtain ⟨sa, hstr⟩ := hE.2.2.1 _ h3
  exact vx_throwSW hF.1 hF.2.1 hsl hF.2.2.2.1 h7 (by decide) (hF.2.2.2.2 _ h1) (hF.2.2.2.2 _ h2) hstr (vx_hat (fun w h => hF.2.2.2.2 w (h4 w h)) h5 (fun w h => va_Nw.use (NB_ok w h) (hE.2.1 w h))) h6 hE.2.2.2.1 hE.2.2.2.2.1 hS (hv.1.1.trans hF.2.2.1.symm) d0 d3 d4 d7 d10 (fun x hx => (hO x hx).elim) hRf hRl (by rw [hmc]; exact hkc) (by rw [hms]; exact hks) hlk (fun t _ hz hq => ⟨⟨w, hP.keep hq, k⟩, Nat.le_trans hS.1 hz, fun q g1 g2 => (hq q (Nat.lt_of_lt_of_le g1 hS.1)).trans (hS.2.1 q g1 g2)⟩) hS.2.2 hkc hks
