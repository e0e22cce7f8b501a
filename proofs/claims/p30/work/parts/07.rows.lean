/-! The context of a walk, what the tables and the statics say (EV), the walk itself (X), contracts (Ctr), and a row an instruction. -/
abbrev Cxt : Type := Program × Launch × Env × Room × State × MethodId × Array Value × List Frame × Method × Code × Gw × Nat × Nat × Nat × (Option Value → Wd → Prop) × (String → Wd → Prop)
def EV (Γ : Gw) (U : State) (H : Heap) : Prop :=
  va_K Γ.1 vwCl (tyL Γ.2.1) U ∧ (∀ w ∈ NB, va_Nw w U) ∧ (∀ q ∈ STR, ∃ a, vk_R q.1 q.2.1 q.2.2 a U) ∧
  vx_Zq Bundle.tN "UNASSIGNED_STACK" Bundle.steD (n0A Γ) U H ∧ vx_Zq Bundle.tN "SUPPRESSED_SENTINEL" Bundle.listD (n0A Γ) U H ∧
  va_Z "java/util/ArrayList" "DEFAULTCAPACITY_EMPTY_ELEMENTDATA" "[Ljava/lang/Object;" (.ref Γ.2.2.2.1) (n0A Γ) U H ∧ va_T (.object "java/lang/Object") Γ.2.2.2.1 0 (fun _ => .null) (n0A Γ) U H ∧ Γ.2.2.1 ≤ H.size ∧ EX Γ.2.2.2.2 U
theorem EV.kept {Γ : Gw} {U : State} {H H1 : Heap} (h : EV Γ U H) (hz : H.size ≤ H1.size) (hq : ∀ a : Nat, a < H.size → ¬ n0A Γ a → H1[a]? = H[a]?) : EV Γ U H1 := by
  obtain ⟨h1, h2, h3, h4, h5, h6, h7, h8, h9⟩ := h
  exact ⟨h1, h2, h3, h4.kept hq, h5.kept hq, h6.kept hq, h7.kept hq, Nat.le_trans h8 hz, h9⟩
theorem EV.warm {Γ : Gw} {s U : State} {H : Heap} (hW : s.WarmedH U.vm) (h : EV Γ s H) : EV Γ U H := by
  obtain ⟨h1, h2, h3, h4, h5, h6, h7, h8, h9⟩ := h
  exact ⟨h1.moved hW.alike, NB_warm hW h2, fun q hq => (h3 q hq).elim fun a h => ⟨a, h.warm hW⟩, h4.moved hW.alike, h5.moved hW.alike, h6.moved hW.alike, h7.moved hW.alike, h8, h9.moved hW.alike⟩
theorem EV.same {Γ : Gw} {u U : State} {H : Heap} (hv : U.vm = u.vm) (h : EV Γ u H) : EV Γ U H := by
  have ha : u.vm.Alike U.vm := by rw [hv]; exact Vm.Alike.refl _
  obtain ⟨h1, h2, h3, h4, h5, h6, h7, h8, h9⟩ := h
  exact ⟨h1.moved ha, fun w hw => va_Nw.same (NB_ok w hw) hv.symm (h2 w hw), fun q hq => (h3 q hq).elim fun a h => ⟨a, vk_R.same hv h⟩, h4.moved ha, h5.moved ha, h6.moved ha, h7.moved ha, h8, h9.moved ha⟩
def Qn (Γ : Gw) (post : Option Value → Wd → Prop) : Array Value → State → Outcome → State → Prop := fun _ st oc t => (∃ (r : Option Value) (w' : Wd), oc = .returned r ∧ wPic Γ w' t.heap ∧ post r w') ∧ va_F (n0A Γ) st t
def Qx (Γ : Gw) (xpost : String → Wd → Prop) : String → State → State → Prop := fun E st t => (∃ w' : Wd, wPic Γ w' t.heap ∧ xpost E w') ∧ va_F (n0A Γ) st t
/-- the machine, at pc with these locals and this stack in the world w, comes to a good end -/
def X (g : Cxt) (w : Wd) (kc ks pc : Nat) (lv : List (Option Value)) (st : List Value) : Prop := match g with
  | (p, l, e, R, s, m, args, below, meth, c, Γ, nL, mc, ms, post, xpost) => ∀ (H : Heap) (locs : List Loc) (ls : Array Slot), wPic Γ w H → va_S (n0A Γ) s.heap H locs → lh ls nL lv → W p l e R s m args below meth c H locs kc ks (vx_MQ below (Qn Γ post) (Qx Γ xpost) args s mc ms (n0A Γ)) (F0 m pc ls st)
def Cx (g : Cxt) (cc : ByteArray) (own nm : String) (rt : Option FieldType) (rm : Room) : Prop := match g with
  | (p, l, _, R, s, m, args, _, meth, c, Γ, nL, mc, ms, _, _) => CallFix p m c cc nL s args TB own ∧ meth.sig.returnType = rt ∧ meth.locks = false ∧ EV Γ s s.heap ∧ l.stackTraces = false ∧ R = rm ∧ rm.cells = mc ∧ rm.slots = ms ∧ meth.name = nm
/-- no handler stands in the method -/
def Co (g : Cxt) : Prop := match g with
  | (_, _, _, _, _, _, _, _, _, c, _, _, _, _, _, _) => ∀ x ∈ c.exceptionTable.toList, False
abbrev gL (g : Cxt) : Launch := g.2.1
abbrev gΓ (g : Cxt) : Gw := g.2.2.2.2.2.2.2.2.2.2.1
abbrev gM (g : Cxt) : Nat := g.2.2.2.2.2.2.2.2.2.2.2.2.1
abbrev gN (g : Cxt) : Nat := g.2.2.2.2.2.2.2.2.2.2.2.2.2.1
abbrev gP (g : Cxt) : Option Value → Wd → Prop := g.2.2.2.2.2.2.2.2.2.2.2.2.2.2.1
abbrev gX (g : Cxt) : String → Wd → Prop := g.2.2.2.2.2.2.2.2.2.2.2.2.2.2.2
abbrev gK (g : Cxt) : Nat → ClassId := (gΓ g).2.1
abbrev SpT : Type := Gw → List Value → Wd → (Option Value → Wd → Prop) → (String → Wd → Prop) → Prop
def PcW (Γ : Gw) (av : List Value) (w : Wd) : Array Value → State → Prop := va_Pc av (fun U => EV Γ U U.heap ∧ wPic Γ w U.heap)
/-- a method's contract: where the specification S asks for it, the method comes to a good end -/
def Ctr (l : Launch) (y : MethodName) (cc : ByteArray) (maxL : Nat) (ret : Option FieldType) (rm : Room) (S : SpT) : Prop :=
  ∀ (Γ : Gw) (av : List Value) (w : Wd) (post : Option Value → Wd → Prop) (xpost : String → Wd → Prop), S Γ av w post xpost →
    vx_Met l y (Cond.code y cc maxL ret :: TB) rm (PcW Γ av w) (Qn Γ post) (Qx Γ xpost) rm.cells rm.slots (n0A Γ)
abbrev CtrA (y : MethodName) (cc : ByteArray) (maxL : Nat) (ret : Option FieldType) (rm : Room) (S : SpT) : Prop := ∀ l : Launch, l.stackTraces = false → Ctr l y cc maxL ret rm S
theorem ctr_of {y : MethodName} {cc : ByteArray} {maxL : Nat} {ret : Option FieldType} {rm : Room} {S : SpT} (hy : plainName y.cls = true)
    (body : ∀ (g : Cxt) (av : List Value) (w : Wd), Cx g cc y.cls y.name ret rm → Co g → S (gΓ g) av w (gP g) (gX g) → (lg_sl av).length ≤ maxL ∧ X g w 0 0 0 (ini av maxL) []) : CtrA y cc maxL ret rm S := by
  intro l hl Γ av w post xpost hS
  refine vx_ofW (cc := cc) (maxL := maxL) (ret := ret) hy rfl ?_
  intro p e s m args below meth c s₁ B hml hout hv
  obtain ⟨rfl, hE, hP⟩ := hv
  have hts := atoms_spec (ws := Cond.code y cc maxL ret :: TB) B.pre
  have hb := body (p, l, e, rm, s, m, av.toArray, below, meth, c, Γ, maxL, rm.cells, rm.slots, post, xpost) av w
    ⟨⟨B.exec, B.bytes, hml, findClass_of_methodNamed B.named, fun w hw => hts w (List.mem_cons_of_mem _ hw)⟩, B.returns, B.notSynchronized, hE, hl, rfl, rfl, rfl, (name_of_methodNamed B.named B.method).1⟩ hout hS
  have hl0 := lv_entry av (n := maxL) hb.1
  rw [lg_entry_eq]
  exact hb.2 s.heap [] _ hP va_S.rf ⟨⟨hl0.1, hl0.2.1, fun q hq => hl0.2.2 q (ini_in av maxL 0 q hq)⟩, ini_len av maxL hb.1⟩
theorem Cx.sl {g : Cxt} {cc : ByteArray} {own nm : String} {rt : Option FieldType} {rm : Room} (hG : Cx g cc own nm rt rm) : (gL g).stackTraces = false := by
  obtain ⟨p, l, e, R, s, m, args, below, meth, c, Γ, nL, mc, ms, post, xpost⟩ := g
  exact hG.2.2.2.2.1
theorem Cx.mc {g : Cxt} {cc : ByteArray} {own nm : String} {rt : Option FieldType} {rm : Room} (hG : Cx g cc own nm rt rm) : gM g = rm.cells := by
  obtain ⟨p, l, e, R, s, m, args, below, meth, c, Γ, nL, mc, ms, post, xpost⟩ := g
  exact hG.2.2.2.2.2.2.1.symm
theorem Cx.ms {g : Cxt} {cc : ByteArray} {own nm : String} {rt : Option FieldType} {rm : Room} (hG : Cx g cc own nm rt rm) : gN g = rm.slots := by
  obtain ⟨p, l, e, R, s, m, args, below, meth, c, Γ, nL, mc, ms, post, xpost⟩ := g
  exact hG.2.2.2.2.2.2.2.1.symm
