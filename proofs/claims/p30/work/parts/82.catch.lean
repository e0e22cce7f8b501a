/-! calls that are caught -/
def CtrH (l : Launch) (y : MethodName) (cc : ByteArray) (maxL : Nat) (ret : Option FieldType) (hh : List (Nat × Nat × Nat × Nat)) (rm : Room) (S : SpT) : Prop :=
  ∀ (Γ : Gw) (av : List Value) (w : Wd) (post : Option Value → Wd → Prop) (xpost : String → Wd → Prop), S Γ av w post xpost →
    vx_Met l y (Cond.codeWith y cc maxL ret hh :: TB) rm (PcW Γ av w) (Qn Γ post) (Qx Γ xpost) rm.cells rm.slots (n0A Γ)
abbrev CtrHA (y : MethodName) (cc : ByteArray) (maxL : Nat) (ret : Option FieldType) (hh : List (Nat × Nat × Nat × Nat)) (rm : Room) (S : SpT) : Prop := ∀ l : Launch, l.stackTraces = false → CtrH l y cc maxL ret hh rm S
def fH (x : ExceptionTableEntry) : Nat × Nat × Nat × Nat := (x.startPc, x.endPc, x.handlerPc, x.catchType)
/-- the method's table of handlers -/
def Ch (g : Cxt) (hh : List (Nat × Nat × Nat × Nat)) : Prop := match g with
  | (_, _, _, _, _, _, _, _, _, c, _, _, _, _, _, _) => c.exceptionTable.toList.map fH = hh
theorem ctr_ofH {y : MethodName} {cc : ByteArray} {maxL : Nat} {ret : Option FieldType} {hh : List (Nat × Nat × Nat × Nat)} {rm : Room} {S : SpT} (hy : plainName y.cls = true)
    (body : ∀ (g : Cxt) (av : List Value) (w : Wd), Cx g cc y.cls y.name ret rm → Ch g hh → S (gΓ g) av w (gP g) (gX g) → (lg_sl av).length ≤ maxL ∧ X g w 0 0 0 (ini av maxL) []) : CtrHA y cc maxL ret hh rm S := by
  intro l hl Γ av w post xpost hS
  refine vx_ofWH (cc := cc) (maxL := maxL) (ret := ret) (hh := hh) hy rfl ?_
  intro p e s m args below meth c s₁ B hml hv
  obtain ⟨rfl, hE, hP⟩ := hv
  have hts := atoms_spec (ws := Cond.codeWith y cc maxL ret hh :: TB) B.pre
  have hH : c.exceptionTable.toList.map fH = hh := by
    obtain ⟨m9, meth9, c9, h0, h1, h2, -, -, h5, -, -, -⟩ := Cond.codeWith_spec (hts _ List.mem_cons_self)
    cases Option.some.inj (h0.symm.trans B.named)
    cases Option.some.inj (h1.symm.trans B.method)
    cases Option.some.inj (h2.symm.trans (Stand.of_body B).code)
    exact h5
  have hb := body (p, l, e, rm, s, m, av.toArray, below, meth, c, Γ, maxL, rm.cells, rm.slots, post, xpost) av w
    ⟨⟨B.exec, B.bytes, hml, findClass_of_methodNamed B.named, fun w hw => hts w (List.mem_cons_of_mem _ hw)⟩, B.returns, B.notSynchronized, hE, hl, rfl, rfl, rfl, (name_of_methodNamed B.named B.method).1⟩ hH hS
  have hl0 := lv_entry av (n := maxL) hb.1
  rw [lg_entry_eq]
  exact hb.2 s.heap [] _ hP va_S.rf ⟨⟨hl0.1, hl0.2.1, fun q hq => hl0.2.2 q (ini_in av maxL 0 q hq)⟩, ini_len av maxL hb.1⟩
theorem cast_self {s : State} {args : Array Value} {E : String} {c : ClassId} (h : s.vm.findClass E = some c) : (Cond.castable E E).before args s = true := by
  have ha : s.vm.assignable c c = true := by
    show s.vm.assignableAux (255 + 1) c c = true
    rw [Vm.assignableAux]
    simp only [beq_self_eq_true, Bool.true_or]
  simp only [Cond.before, Cond.holds, Cond.value, h]
  simp [ha]
/-- the row x takes E at pc; the rows ahead of it do not -/
def Tks (own : String) (pc : Nat) (E : String) (pre : List (Nat × Nat × Nat × Nat)) (x : Nat × Nat × Nat × Nat) : Prop :=
  (x.1 ≤ pc ∧ pc < x.2.1 ∧ x.2.2.2 ≠ 0 ∧ Cond.classLink own x.2.2.2 E ∈ TB) ∧ ∀ z ∈ pre, z.2.2.2 ≠ 0 ∧ ∃ nm : String, Cond.classLink own z.2.2.2 nm ∈ TB ∧ (E, nm) ∈ NC
theorem x_callVH {g : Cxt} {cc : ByteArray} {own nm : String} {rt : Option FieldType} {rm : Room} (hG : Cx g cc own nm rt rm) {w : Wd} {kc ks pc : Nat} {lv : List (Option Value)} {st : List Value} {hh : List (Nat × Nat × Nat × Nat)} (hH : Ch g hh) {idx n ci b maxL : Nat} {t : Tg} {fs : List Value} {y : MethodName} {yc : ByteArray} {ret : Option FieldType} {rm2 : Room} {S : SpT} {st0 : List Value} (As : List Value) (hC : CtrA y yc maxL ret rm2 S) (hL : LkV own idx y yc maxL ret n ci) (he : w b = some (t, .inr (ci, fs))) (hn : As.length = n) (hst : st0 = As.reverse ++ .ref b :: st) (hRm : rm2.frames + 1 ≤ rm.frames ∧ 8 + (maxL + 11) + rm2.locals ≤ rm.locals) (hW : (st.map fun v => v.category).sum ≤ 8) (hkc : kc + rm2.cells ≤ gM g) (hks : ks + rm2.slots ≤ gN g) (hd : decode cc pc = .ok (.invokevirtual idx, 3))
    (k : S (gΓ g) (.ref b :: As) w (fun r w1 => X g w1 (kc + rm2.cells) (ks + rm2.slots) (pc + 3) lv (r.toList ++ st)) (fun E w1 => ∃ (pre : List (Nat × Nat × Nat × Nat)) (x : Nat × Nat × Nat × Nat) (suf : List (Nat × Nat × Nat × Nat)), hh = pre ++ x :: suf ∧ Tks own pc E pre x ∧ ∀ q : Nat, X g w1 (kc + rm2.cells) (ks + rm2.slots) x.2.2.1 lv [.ref q])) : X g w kc ks pc lv st0 := by
  obtain ⟨p, l, e, R, s, m, args, below, meth, c, Γ, nL, mc, ms, post, xpost⟩ := g
  obtain ⟨hF, hr, hlk, hE, hsl, rfl, hmc, hms, hnm⟩ := hG
  intro H locs ls hP hS hv
  subst hst
  obtain ⟨h1, h2, h3, h4, h5, hy, T2, N2, hc2⟩ := hL
  have hrun := vx_runV (p := p) (e := e) (below := below) (meth := meth) (locs := locs) (As := As) (rest := st) (cells := kc) (slots := ks) (g := F0 m pc ls (As.reverse ++ .ref b :: st)) hF (hC l hsl Γ _ w _ _ k) ⟨⟨rfl, rfl, hRm.1, hRm.2, pay_in hF.2.2.2.2 (code_good h5), List.mem_cons_self, hF.2.2.2.2 _ h5, hF.2.2.2.2 _ h4, hy.1, par_n hy.2, hF.2.2.2.2 _ h1⟩, hF.2.2.2.2 _ h2, hF.2.2.2.2 _ h3⟩ ⟨pcw_blind, va_recv hE.1 (hP.one he) hc2 (q0 := 0) rfl, fun U hU hWa => ⟨rfl, by rw [hU]; exact (hE.kept hS.1 hS.2.1).warm hWa, by rw [hU]; exact hP⟩⟩ rfl hn hv.1.1 rfl (lv_room (pc := pc) (ls := ls) (rest := As.reverse ++ .ref b :: st) hW) hd ⟨by rw [hmc]; exact hkc, by rw [hms]; exact hks⟩
  intro T hT X0
  rcases hrun T hT X0 with ⟨v, st₀, t, T', L, h0, X', hL, e1, e2, ⟨⟨r, w1, hrv, hp, hpo⟩, hFr⟩, st⟩ | ⟨q, st₀, t, T', L, E, ce, h0, X', hL, e1, e2, ⟨⟨w1, hp, pre, x, suf, hsp, hok, kk⟩, hFr⟩, hce, hcv, hcl, stp⟩
  · cases hrv
    obtain ⟨k1, k2, k3⟩ := vx_keep h0 e1 hS (fun q _ h => h) (fun q h => h) hL hFr
    obtain ⟨t2, a1, b1⟩ := hpo T'.heap (locs ++ L) ls (by rw [e1]; exact hp) k3 hv T' rfl X'
    exact ⟨t2, st t2 a1, b1⟩
  · obtain ⟨k1, k2, k3⟩ := vx_keep h0 e1 hS (fun q _ h => h) (fun q h => h) hL hFr
    have hmap : c.exceptionTable.toList.map fH = pre ++ x :: suf := hH.trans hsp
    obtain ⟨cpre, cr, hs1, hpre, hr2⟩ := List.map_eq_append_iff.mp hmap
    obtain ⟨cx, csuf, hs2, hx, -⟩ := List.map_eq_cons_iff.mp hr2
    subst hpre
    subst hx
    subst hs2
    obtain ⟨⟨o1, o2, o3, o4⟩, o5⟩ := hok
    have kq : W p l e R s m args below meth c T'.heap (locs ++ L) (kc + rm2.cells) (ks + rm2.slots) (vx_MQ below (Qn Γ post) (Qx Γ xpost) args s mc ms (n0A Γ)) (F0 m cx.handlerPc ls [.ref q]) := kk q T'.heap (locs ++ L) ls (by rw [e1]; exact hp) k3 hv
    obtain ⟨t2, a1, b1⟩ := vx_catch (own := own) (name := E) (E := E) (ce := ce) (q := q) (pc := pc) (ls := ls) (rest := st) hF.2.2.2.1 cpre cx csuf hs1 (fun z hz => Or.inr (by
      obtain ⟨z1, nm9, z2, z3⟩ := o5 (fH z) (List.mem_map_of_mem hz)
      exact ⟨z1, nm9, hF.2.2.2.2 _ z2, hE.2.2.2.2.2.2.2.2.2.2.2.2.2.2.2.2 _ z3⟩)) (by
      show (decide (cx.startPc ≤ pc) && decide (pc < cx.endPc)) = true
      rw [decide_eq_true (show cx.startPc ≤ pc from o1), decide_eq_true (show pc < cx.endPc from o2)]; rfl) o3 (hF.2.2.2.2 _ o4) (cast_self hcl) (by rw [e1]; exact hce) hcv hcl kq T' rfl X'
    exact ⟨t2, stp.trans a1, b1⟩
theorem codeW_good {y : MethodName} {cc : ByteArray} {maxL : Nat} {ret : Option FieldType} {hh : List (Nat × Nat × Nat × Nat)} (h : Cond.codeWith y cc maxL ret hh ∈ TB) : ∀ w ∈ Cond.codeWith y cc maxL ret hh :: TB, w ∈ TB ∧ ((w.onTables && w.keeps) = true ∨ ∃ ty, w = .arrayClass ty) :=
  fun w hw => TB_good w ((List.mem_cons.mp hw).elim (fun q => by rw [q]; exact h) id)
def LkSH (own : String) (idx : Nat) (y : MethodName) (cc : ByteArray) (maxL : Nat) (ret : Option FieldType) (hh : List (Nat × Nat × Nat × Nat)) (n : Nat) : Prop :=
  Cond.methodLink own idx y ∈ TB ∧ Cond.static y ∈ TB ∧ Cond.initialized y.cls ∈ TB ∧ Cond.codeWith y cc maxL ret hh ∈ TB ∧ ((y.cls ≠ "java/lang/invoke/MethodHandle" ∧ y.cls ≠ "java/lang/invoke/VarHandle") ∧ (parseMethodDescriptor y.desc).map (fun d => d.parameters.length) = some n)
theorem x_callSH {g : Cxt} {cc : ByteArray} {own nm : String} {rt : Option FieldType} {rm : Room} (hG : Cx g cc own nm rt rm) {w : Wd} {kc ks pc : Nat} {lv : List (Option Value)} {st : List Value} (hO : Co g) {idx n maxL : Nat} {y : MethodName} {yc : ByteArray} {ret : Option FieldType} {hh : List (Nat × Nat × Nat × Nat)} {rm2 : Room} {S : SpT} {st0 : List Value} (As : List Value) (hC : CtrHA y yc maxL ret hh rm2 S) (hL : LkSH own idx y yc maxL ret hh n) (hn : As.length = n) (hst : st0 = As.reverse ++ st) (hRm : rm2.frames + 1 ≤ rm.frames ∧ 8 + (maxL + 11) + rm2.locals ≤ rm.locals) (hW : (st.map fun v => v.category).sum ≤ 8) (hkc : kc + rm2.cells ≤ gM g) (hks : ks + rm2.slots ≤ gN g) (hd : decode cc pc = .ok (.invokestatic idx, 3)) (k : S (gΓ g) As w (fun r w1 => X g w1 (kc + rm2.cells) (ks + rm2.slots) (pc + 3) lv (r.toList ++ st)) (gX g)) : X g w kc ks pc lv st0 := by
  obtain ⟨p, l, e, R, s, m, args, below, meth, c, Γ, nL, mc, ms, post, xpost⟩ := g
  obtain ⟨hF, hr, hlk, hE, hsl, rfl, hmc, hms, hnm⟩ := hG
  intro H locs ls hP hS hv
  subst hst
  obtain ⟨h1, h2, h4, h5, hy⟩ := hL
  exact run_done (vx_runSX (hh := hh) (As := As) (rest := st) hF (hC l hsl Γ _ w _ _ k) ⟨⟨rfl, rfl, hRm.1, hRm.2, pay_in hF.2.2.2.2 (codeW_good h5), List.mem_cons_self⟩, hF.2.2.2.2 _ h5, hF.2.2.2.2 _ h4, hy.1, par_n hy.2, hF.2.2.2.2 _ h1, hF.2.2.2.2 _ h2⟩ ⟨pcw_blind, fun U hU hWa => ⟨rfl, by rw [hU]; exact (hE.kept hS.1 hS.2.1).warm hWa, by rw [hU]; exact hP⟩⟩ rfl hn hv.1.1 rfl (lv_room (pc := pc) (ls := ls) (rest := As.reverse ++ st) hW) hd ⟨by rw [hmc]; exact hkc, by rw [hms]; exact hks⟩) hS hv hO hlk hkc hks (fun _ _ h => h) (fun _ _ h => h)
