/-! rows over the heap -/
/-- the field k of class number ci, under the pool entry idx of own -/
def FL (own : String) (idx ci k : Nat) : Prop := ∃ (C : String) (T : u_T) (N : Nat) (ref : String), vwCl[ci]? = some (C, T, N) ∧ k < N ∧ (∀ w ∈ u_ws C T N, w ∈ TB) ∧
  (Cond.fieldLink own idx ref (T k).2.1 (T k).2.2.1 ∈ TB ∨ ∃ host : String, Cond.fieldLinkNest own idx ref (T k).2.1 (T k).2.2.1 host ∈ NB) ∧ ((T k).1 = ref ∨ Cond.sameField ref (T k).1 (T k).2.1 (T k).2.2.1 ∈ TB)
/-- the same, without a nest -/
def FLP (own : String) (idx ci k : Nat) : Prop := ∃ (C : String) (T : u_T) (N : Nat), vwCl[ci]? = some (C, T, N) ∧ k < N ∧ (∀ w ∈ u_ws C T N, w ∈ TB) ∧ Cond.fieldLink own idx own (T k).2.1 (T k).2.2.1 ∈ TB ∧ (T k).1 = own
/-- what a class's table says besides, for stores -/
def FW (ci : Nat) : Prop := ∃ (C : String) (T : u_T) (N : Nat) (ty : Nat → FieldType), vwCl[ci]? = some (C, T, N) ∧ (∀ k, k < N → parseFieldDescriptor (T k).2.2.1 = some (ty k)) ∧ (∀ a, a < N → ∀ b, b < N → a ≠ b → (T a).2.1 ≠ (T b).2.1)
def FT (ci k : Nat) (fin : Bool) (ty : FieldType) : Prop := ∃ (C : String) (T : u_T) (N : Nat), vwCl[ci]? = some (C, T, N) ∧ (T k).2.2.2 = fin ∧ parseFieldDescriptor (T k).2.2.1 = some ty
/-- the class number ci is made by the pool entry idx of own -/
def NW (own : String) (idx ci N : Nat) (fs : List Value) : Prop := ∃ (C : String) (T : u_T) (ty : Nat → FieldType), vwCl[ci]? = some (C, T, N) ∧ (∀ w ∈ u_ws C T N, w ∈ TB) ∧ (∀ k, k < N → parseFieldDescriptor (T k).2.2.1 = some (ty k)) ∧
  Cond.classLink own idx C ∈ TB ∧ Cond.instantiable C N ∈ TB ∧ Cond.initialized C ∈ TB ∧ (∀ j, j < N → defaultValue (ty j) = vp_V fs j)
theorem x_getf {g : Cxt} {cc : ByteArray} {own nm : String} {rt : Option FieldType} {rm : Room} (hG : Cx g cc own nm rt rm) {w : Wd} {kc ks pc : Nat} {lv : List (Option Value)} {st : List Value} {idx ci i a : Nat} {t : Tg} {fs : List Value} {v : Value} (hL : FL own idx ci i) (he : w a = some (t, .inr (ci, fs))) (hx : fs[i]? = some v) (hd : decode cc pc = .ok (.getfield idx, 3)) (k : X g w kc ks (pc + 3) lv (v :: st)) : X g w kc ks pc lv (.ref a :: st) := by
  obtain ⟨p, l, e, R, s, m, args, below, meth, c, Γ, nL, mc, ms, post, xpost⟩ := g
  obtain ⟨hF, hr, hlk, hE, hsl, rfl, hmc, hms, hnm⟩ := hG
  intro H locs ls hP hS hv
  obtain ⟨C, T, N, ref, hc, hi, hin, hlink, hsame⟩ := hL
  have hsm : ∀ x, s.fieldFound? (T i).1 (T i).2.1 (T i).2.2.1 = some x → s.fieldFound? ref (T i).2.1 (T i).2.2.1 = some x := by
    rcases hsame with h | h
    · intro x hx
      rw [← h]
      exact hx
    · exact u_same (hF.2.2.2.2 _ h)
  rcases hlink with hlink | ⟨host, hlink⟩
  · exact va_get hF.1 hF.2.1 hF.2.2.2.2 hin hF.2.2.2.1 hE.1 (hP.one he) 0 rfl hc i hi (hF.2.2.2.2 _ hlink) hsm hx hd (k H locs ls hP hS hv)
  · exact va_getN hF.1 hF.2.1 hF.2.2.2.2 hin hF.2.2.2.1 hE.1 (hP.one he) 0 rfl hc i hi (va_Nw.use (NB_ok _ hlink) (hE.2.1 _ hlink)) hsm hx hd (k H locs ls hP hS hv)
theorem x_putf {g : Cxt} {cc : ByteArray} {own nm : String} {rt : Option FieldType} {rm : Room} (hG : Cx g cc own nm rt rm) {w : Wd} {kc ks pc : Nat} {lv : List (Option Value)} {st : List Value} {idx ci i a : Nat} {t : Tg} {fs fs2 : List Value} {v : Value} {ty : FieldType} (hL : FL own idx ci i) (hW : FW ci) (hT : FT ci i false ty) (he : w a = some (t, .inr (ci, fs))) (hlt : i < fs.length) (hn : narrow ty v = v) (hfit : fits ty v = true) (hfs : fs.set i v = fs2) (hd : decode cc pc = .ok (.putfield idx, 3))  (k : X g (wup w a (t, .inr (ci, fs2))) kc ks (pc + 3) lv st) : X g w kc ks pc lv (v :: .ref a :: st) := by
  obtain ⟨p, l, e, R, s, m, args, below, meth, c, Γ, nL, mc, ms, post, xpost⟩ := g
  obtain ⟨hF, hr, hlk, hE, hsl, rfl, hmc, hms, hnm⟩ := hG
  intro H locs ls hP hS hv
  obtain ⟨C, T, N, ref, hc, hi, hin, hlink, hsame⟩ := hL
  have hsm : ∀ x, s.fieldFound? (T i).1 (T i).2.1 (T i).2.2.1 = some x → s.fieldFound? ref (T i).2.1 (T i).2.2.1 = some x := by
    rcases hsame with h | h
    · intro x hx
      rw [← h]
      exact hx
    · exact u_same (hF.2.2.2.2 _ h)
  obtain ⟨C2, T2, N2, ty0, hc2, hty, hnm2⟩ := hW
  cases hc.symm.trans hc2
  obtain ⟨C3, T3, N3, hc3, hfin, hd3⟩ := hT
  cases hc.symm.trans hc3
  subst hfs
  have hap := va_apart (own := own) hF.2.2.2.2 hin ty0 hty hnm2 hE.1 hc
  obtain ⟨r, h1, cell, q1, q2, q3, q4⟩ := (hP a _ he).2
  cases h1.symm.trans hc
  obtain ⟨hS0, hfc, kC, hkC, hkind⟩ := hE.1.1 ci _ hc
  obtain ⟨cf, kf, fi, f, hi2, hsl2⟩ := hS0 i hi
  have hlay := hF.2.2.2.2 _ (hin _ (u_in_lay hi))
  unfold u_lay at hlay
  rw [if_neg (by rw [hfin]; decide)] at hlay
  have hst := (u_facts hfc hkC (u_lays hF.2.2.2.2 hin hi) hi2).1
  have h6 := u_store hfc hkC hkind hlay hi2 hd3 hn hfit
  rcases hlink with hlink | ⟨host, hlink⟩
  · refine W.putK hF.1 hF.2.1 (f := f) ⟨hF.2.2.2.1, hF.2.2.2.2 _ hlink, ⟨_, _, _, hsm _ hi2⟩, hst⟩ (by rw [q2]; exact h6) q1 q3 (by rw [hsl2]; exact k2_hasslot (q4 i hi)) rfl rfl hd fun H' e1 e2 e3 => ?_
    rw [hsl2] at e1 ⊢
    exact k H' _ ls (hP.put he ⟨_, hc, t_OB.to (V := updV (vp_V fs) i v) ⟨_, e1, q2, q3, t_set q4 hap hi v⟩ (fun j _ => vp_updV_set hlt v j)⟩ e3) (hS.put e2 e3 (hP a _ he).1) hv
  · refine va_WputK hF.1 hF.2.1 (f := f) hF.2.2.2.1 (va_Nw.use (NB_ok _ hlink) (hE.2.1 _ hlink)) (hsm _ hi2) hst (by rw [q2]; exact h6) q1 q3 (by rw [hsl2]; exact k2_hasslot (q4 i hi)) rfl rfl hd fun H' e1 e2 e3 => ?_
    rw [hsl2] at e1 ⊢
    exact k H' _ ls (hP.put he ⟨_, hc, t_OB.to (V := updV (vp_V fs) i v) ⟨_, e1, q2, q3, t_set q4 hap hi v⟩ (fun j _ => vp_updV_set hlt v j)⟩ e3) (hS.put e2 e3 (hP a _ he).1) hv
theorem x_putfF {g : Cxt} {cc : ByteArray} {own nm : String} {rt : Option FieldType} {rm : Room} (hG : Cx g cc own nm rt rm) {w : Wd} {kc ks pc : Nat} {lv : List (Option Value)} {st : List Value} {idx ci i a : Nat} {t : Tg} {fs fs2 : List Value} {v : Value} {ty : FieldType} (hL : FLP own idx ci i) (hW : FW ci) (hT : FT ci i true ty) (he : w a = some (t, .inr (ci, fs))) (hlt : i < fs.length) (hn : narrow ty v = v) (hfit : fits ty v = true) (hfs : fs.set i v = fs2) (hd : decode cc pc = .ok (.putfield idx, 3)) (hnm3 : nm = "<init>") (k : X g (wup w a (t, .inr (ci, fs2))) kc ks (pc + 3) lv st) : X g w kc ks pc lv (v :: .ref a :: st) := by
  obtain ⟨p, l, e, R, s, m, args, below, meth, c, Γ, nL, mc, ms, post, xpost⟩ := g
  obtain ⟨hF, hr, hlk, hE, hsl, rfl, hmc, hms, hnm⟩ := hG
  intro H locs ls hP hS hv
  obtain ⟨C, T, N, hc, hi, hin, hlink, hdecl⟩ := hL
  have hsm : ∀ x, s.fieldFound? (T i).1 (T i).2.1 (T i).2.2.1 = some x → s.fieldFound? own (T i).2.1 (T i).2.2.1 = some x := by
    intro x hx
    rw [← hdecl]
    exact hx
  obtain ⟨C2, T2, N2, ty0, hc2, hty, hnm2⟩ := hW
  cases hc.symm.trans hc2
  obtain ⟨C3, T3, N3, hc3, hfin, hd3⟩ := hT
  cases hc.symm.trans hc3
  subst hfs
  have hap := va_apart (own := own) hF.2.2.2.2 hin ty0 hty hnm2 hE.1 hc
  obtain ⟨r, h1, cell, q1, q2, q3, q4⟩ := (hP a _ he).2
  cases h1.symm.trans hc
  obtain ⟨hS0, hfc, kC, hkC, hkind⟩ := hE.1.1 ci _ hc
  obtain ⟨cf, kf, fi, f, hi2, hsl2⟩ := hS0 i hi
  have hlay := hF.2.2.2.2 _ (hin _ (u_in_lay hi))
  unfold u_lay at hlay
  rw [if_pos hfin] at hlay
  have hst := (u_facts hfc hkC (u_lays hF.2.2.2.2 hin hi) hi2).1
  have hcf : m.cls = cf := by
    obtain ⟨_, _, c', _, _, _, -, -, hf', -, -, -, hown2, -⟩ := Cond.laysFinal_spec hlay
    have e1 : c' = cf := by have := hi2.symm.trans hf'; simp at this; exact this.1.symm
    rw [hdecl] at hown2
    rw [← e1]; exact Option.some.inj (hF.2.2.2.1.symm.trans hown2)
  have h6 := u_fits hfc hkC hkind (Or.inr hlay) hi2 hd3 hn hfit
  refine W.putFinK hF.1 hF.2.1 hF.2.2.2.1 (hF.2.2.2.2 _ hlink) (hsm _ hi2) hst hcf (hnm.trans hnm3) (by rw [q2]; exact h6) q1 q3 (by rw [hsl2]; exact k2_hasslot (q4 i hi)) rfl rfl hd fun H' e1 e2 e3 => ?_
  rw [hsl2] at e1 ⊢
  exact k H' _ ls (hP.put he ⟨_, hc, t_OB.to (V := updV (vp_V fs) i v) ⟨_, e1, q2, q3, t_set q4 hap hi v⟩ (fun j _ => vp_updV_set hlt v j)⟩ e3) (hS.put e2 e3 (hP a _ he).1) hv
theorem x_new {g : Cxt} {cc : ByteArray} {own nm : String} {rt : Option FieldType} {rm : Room} (hG : Cx g cc own nm rt rm) {w : Wd} {kc ks pc : Nat} {lv : List (Option Value)} {st : List Value} {idx ci N : Nat} {fs : List Value} (t : Tg) (hN : NW own idx ci N fs) (hd : decode cc pc = .ok (.new idx, 3)) (hkc : kc + 1 ≤ gM g) (hks : ks + N ≤ gN g) (k : ∀ q : Nat, w q = none → n0A (gΓ g) q → X g (wup w q (t, .inr (ci, fs))) (kc + 1) (ks + N) (pc + 3) lv (.ref q :: st)) : X g w kc ks pc lv st := by
  obtain ⟨p, l, e, R, s, m, args, below, meth, c, Γ, nL, mc, ms, post, xpost⟩ := g
  obtain ⟨hF, hr, hlk, hE, hsl, rfl, hmc, hms, hnm⟩ := hG
  intro H locs ls hP hS hv
  obtain ⟨C, T, ty, hc, hin, hty, h1, h2, h3, hfs⟩ := hN
  have hKn := hE.1.1 ci _ hc
  have h0 : Γ.2.2.1 ≤ H.size := Nat.le_trans hE.2.2.2.2.2.2.2.1 hS.1
  refine W.newcK hF.1 hF.2.1 hF.2.2.2.1 (hF.2.2.2.2 _ h1) (hF.2.2.2.2 _ h2) (hF.2.2.2.2 _ h3) rfl hd (by rw [hmc]; exact hkc) (by rw [hms]; exact hks) hKn.2.1 rfl fun H1 kC hkC e1 z1 o1 => ?_
  exact k H.size (hP.fresh (Nat.le_refl _)) h0 H1 locs ls (hP.new h0 ⟨_, hc, (u_born ty hF.2.2.2.2 hin hKn hkC e1 hty).to hfs⟩ o1) ⟨Nat.le_trans hS.1 (by omega), fun x h1 h2 => (o1 x (Nat.lt_of_lt_of_le h1 hS.1)).trans (hS.2.1 x h1 h2), hS.2.2⟩ hv
theorem x_iald {g : Cxt} {cc : ByteArray} {own nm : String} {rt : Option FieldType} {rm : Room} (hG : Cx g cc own nm rt rm) {w : Wd} {kc ks pc : Nat} {lv : List (Option Value)} {st : List Value} {a n : Nat} {t : Tg} {f : Nat → Int32} {i : Int32} (he : w a = some (t, .inl (gK g 0, n, .inl f))) (hin : vp_in i n) (hd : decode cc pc = .ok (.iaload, 1)) (k : X g w kc ks (pc + 1) lv (.int (f i.toNatClampNeg) :: st)) : X g w kc ks pc lv (.int i :: .ref a :: st) := by
  obtain ⟨p, l, e, R, s, m, args, below, meth, c, Γ, nL, mc, ms, post, xpost⟩ := g
  obtain ⟨hF, hr, hlk, hE, hsl, rfl, hmc, hms, hnm⟩ := hG
  intro H locs ls hP hS hv
  exact va_iald hF.1 hF.2.1 hE.1 (hP.one he) 0 0 rfl rfl hin hd (k H locs ls hP hS hv)
theorem x_aaldO {g : Cxt} {cc : ByteArray} {own nm : String} {rt : Option FieldType} {rm : Room} (hG : Cx g cc own nm rt rm) {w : Wd} {kc ks pc : Nat} {lv : List (Option Value)} {st : List Value} {a n : Nat} {t : Tg} {f : Nat → Option Nat} {i : Int32} (he : w a = some (t, .inl (gK g 1, n, .inr (.inr (.inr (.inr f)))))) (hin : vp_in i n) (hd : decode cc pc = .ok (.aaload, 1)) (k : X g w kc ks (pc + 1) lv (va_rf (f i.toNatClampNeg) :: st)) : X g w kc ks pc lv (.int i :: .ref a :: st) := by
  obtain ⟨p, l, e, R, s, m, args, below, meth, c, Γ, nL, mc, ms, post, xpost⟩ := g
  obtain ⟨hF, hr, hlk, hE, hsl, rfl, hmc, hms, hnm⟩ := hG
  intro H locs ls hP hS hv
  exact va_aldq hF.1 hF.2.1 hE.1 (hP.one he) 0 1 rfl rfl hin hd (k H locs ls hP hS hv)
theorem x_aaldS {g : Cxt} {cc : ByteArray} {own nm : String} {rt : Option FieldType} {rm : Room} (hG : Cx g cc own nm rt rm) {w : Wd} {kc ks pc : Nat} {lv : List (Option Value)} {st : List Value} {a n : Nat} {t : Tg} {f : Nat → Option Nat} {i : Int32} (he : w a = some (t, .inl (gK g 2, n, .inr (.inr (.inr (.inr f)))))) (hin : vp_in i n) (hd : decode cc pc = .ok (.aaload, 1)) (k : X g w kc ks (pc + 1) lv (va_rf (f i.toNatClampNeg) :: st)) : X g w kc ks pc lv (.int i :: .ref a :: st) := by
  obtain ⟨p, l, e, R, s, m, args, below, meth, c, Γ, nL, mc, ms, post, xpost⟩ := g
  obtain ⟨hF, hr, hlk, hE, hsl, rfl, hmc, hms, hnm⟩ := hG
  intro H locs ls hP hS hv
  exact va_aldq hF.1 hF.2.1 hE.1 (hP.one he) 0 2 rfl rfl hin hd (k H locs ls hP hS hv)
theorem x_aaldV {g : Cxt} {cc : ByteArray} {own nm : String} {rt : Option FieldType} {rm : Room} (hG : Cx g cc own nm rt rm) {w : Wd} {kc ks pc : Nat} {lv : List (Option Value)} {st : List Value} {a n : Nat} {t : Tg} {f : Nat → Option Nat} {i : Int32} (he : w a = some (t, .inl (gK g 3, n, .inr (.inr (.inr (.inr f)))))) (hin : vp_in i n) (hd : decode cc pc = .ok (.aaload, 1)) (k : X g w kc ks (pc + 1) lv (va_rf (f i.toNatClampNeg) :: st)) : X g w kc ks pc lv (.int i :: .ref a :: st) := by
  obtain ⟨p, l, e, R, s, m, args, below, meth, c, Γ, nL, mc, ms, post, xpost⟩ := g
  obtain ⟨hF, hr, hlk, hE, hsl, rfl, hmc, hms, hnm⟩ := hG
  intro H locs ls hP hS hv
  exact va_aldq hF.1 hF.2.1 hE.1 (hP.one he) 0 3 rfl rfl hin hd (k H locs ls hP hS hv)
theorem x_aaldI {g : Cxt} {cc : ByteArray} {own nm : String} {rt : Option FieldType} {rm : Room} (hG : Cx g cc own nm rt rm) {w : Wd} {kc ks pc : Nat} {lv : List (Option Value)} {st : List Value} {a n : Nat} {t : Tg} {f : Nat → Option Nat} {i : Int32} (he : w a = some (t, .inl (gK g 4, n, .inr (.inr (.inr (.inr f)))))) (hin : vp_in i n) (hd : decode cc pc = .ok (.aaload, 1)) (k : X g w kc ks (pc + 1) lv (va_rf (f i.toNatClampNeg) :: st)) : X g w kc ks pc lv (.int i :: .ref a :: st) := by
  obtain ⟨p, l, e, R, s, m, args, below, meth, c, Γ, nL, mc, ms, post, xpost⟩ := g
  obtain ⟨hF, hr, hlk, hE, hsl, rfl, hmc, hms, hnm⟩ := hG
  intro H locs ls hP hS hv
  have hlt : i.toNatClampNeg < n := Nat.not_le.mp fun q => hin (Or.inr q)
  exact W.aald (v := va_rf (f i.toNatClampNeg)) (ty := .array .int) hF.1 hF.2.1 (hP a _ he).2 ((hE.1.2 4 _ rfl).1 n (fun j => va_rf (f j))) rfl (fun q => by cases q) (by show ¬ (i < 0 ∨ (arrV _ _ _).slots.size ≤ _); rw [arrV_size]; exact hin) (by show (arrV _ _ _).slots[_]? = _; rw [arrV_read _ _ hlt]) rfl rfl hd (k H locs ls hP hS hv)
theorem x_alenI {g : Cxt} {cc : ByteArray} {own nm : String} {rt : Option FieldType} {rm : Room} (hG : Cx g cc own nm rt rm) {w : Wd} {kc ks pc : Nat} {lv : List (Option Value)} {st : List Value} {a n : Nat} {t : Tg} {f : Nat → Int32} (he : w a = some (t, .inl (gK g 0, n, .inl f))) (hd : decode cc pc = .ok (.arraylength, 1)) (k : X g w kc ks (pc + 1) lv (.int (nI n) :: st)) : X g w kc ks pc lv (.ref a :: st) := by
  obtain ⟨p, l, e, R, s, m, args, below, meth, c, Γ, nL, mc, ms, post, xpost⟩ := g
  obtain ⟨hF, hr, hlk, hE, hsl, rfl, hmc, hms, hnm⟩ := hG
  intro H locs ls hP hS hv
  exact va_alen hF.1 hF.2.1 hE.1 (hP.one he) 0 0 rfl rfl rfl hd (k H locs ls hP hS hv)
theorem x_alenO {g : Cxt} {cc : ByteArray} {own nm : String} {rt : Option FieldType} {rm : Room} (hG : Cx g cc own nm rt rm) {w : Wd} {kc ks pc : Nat} {lv : List (Option Value)} {st : List Value} {a n : Nat} {t : Tg} {f : Nat → Option Nat} (he : w a = some (t, .inl (gK g 1, n, .inr (.inr (.inr (.inr f)))))) (hd : decode cc pc = .ok (.arraylength, 1)) (k : X g w kc ks (pc + 1) lv (.int (nI n) :: st)) : X g w kc ks pc lv (.ref a :: st) := by
  obtain ⟨p, l, e, R, s, m, args, below, meth, c, Γ, nL, mc, ms, post, xpost⟩ := g
  obtain ⟨hF, hr, hlk, hE, hsl, rfl, hmc, hms, hnm⟩ := hG
  intro H locs ls hP hS hv
  exact va_alen hF.1 hF.2.1 hE.1 (hP.one he) 0 1 rfl rfl rfl hd (k H locs ls hP hS hv)
theorem x_alenS {g : Cxt} {cc : ByteArray} {own nm : String} {rt : Option FieldType} {rm : Room} (hG : Cx g cc own nm rt rm) {w : Wd} {kc ks pc : Nat} {lv : List (Option Value)} {st : List Value} {a n : Nat} {t : Tg} {f : Nat → Option Nat} (he : w a = some (t, .inl (gK g 2, n, .inr (.inr (.inr (.inr f)))))) (hd : decode cc pc = .ok (.arraylength, 1)) (k : X g w kc ks (pc + 1) lv (.int (nI n) :: st)) : X g w kc ks pc lv (.ref a :: st) := by
  obtain ⟨p, l, e, R, s, m, args, below, meth, c, Γ, nL, mc, ms, post, xpost⟩ := g
  obtain ⟨hF, hr, hlk, hE, hsl, rfl, hmc, hms, hnm⟩ := hG
  intro H locs ls hP hS hv
  exact va_alen hF.1 hF.2.1 hE.1 (hP.one he) 0 2 rfl rfl rfl hd (k H locs ls hP hS hv)
theorem x_alenII {g : Cxt} {cc : ByteArray} {own nm : String} {rt : Option FieldType} {rm : Room} (hG : Cx g cc own nm rt rm) {w : Wd} {kc ks pc : Nat} {lv : List (Option Value)} {st : List Value} {a n : Nat} {t : Tg} {f : Nat → Option Nat} (he : w a = some (t, .inl (gK g 4, n, .inr (.inr (.inr (.inr f)))))) (hd : decode cc pc = .ok (.arraylength, 1)) (k : X g w kc ks (pc + 1) lv (.int (nI n) :: st)) : X g w kc ks pc lv (.ref a :: st) := by
  obtain ⟨p, l, e, R, s, m, args, below, meth, c, Γ, nL, mc, ms, post, xpost⟩ := g
  obtain ⟨hF, hr, hlk, hE, hsl, rfl, hmc, hms, hnm⟩ := hG
  intro H locs ls hP hS hv
  exact va_alen hF.1 hF.2.1 hE.1 (hP.one he) 0 4 rfl rfl rfl hd (k H locs ls hP hS hv)
theorem x_iast {g : Cxt} {cc : ByteArray} {own nm : String} {rt : Option FieldType} {rm : Room} (hG : Cx g cc own nm rt rm) {w : Wd} {kc ks pc : Nat} {lv : List (Option Value)} {st : List Value} {a n : Nat} {t : Tg} {f : Nat → Int32} {i : Int32} {x : Int32} (he : w a = some (t, .inl (gK g 0, n, .inl (f)))) (hin : vp_in i n) (hd : decode cc pc = .ok (.iastore, 1)) (k : X g (wup w a (t, .inl (gK g 0, n, .inl (upd f i.toNatClampNeg x)))) kc ks (pc + 1) lv st) : X g w kc ks pc lv (.int x :: .int i :: .ref a :: st) := by
  obtain ⟨p, l, e, R, s, m, args, below, meth, c, Γ, nL, mc, ms, post, xpost⟩ := g
  obtain ⟨hF, hr, hlk, hE, hsl, rfl, hmc, hms, hnm⟩ := hG
  intro H locs ls hP hS hv
  refine W.iast hF.1 hF.2.1 (hP a _ he).2 ((hE.1.2 0 _ rfl).1 n (fun j => .int (f j))) (fun q => by cases q) (by show ¬ (i < 0 ∨ (arrV _ _ _).slots.size ≤ _); rw [arrV_size]; exact hin) rfl rfl hd fun H1 e z oq => ?_
  refine k H1 _ ls (hP.put he ?_ oq) (hS.put z oq (hP a _ he).1) hv
  show H1[a]? = some (vp_cell _ _)
  rw [e]
  rw [vp_cell_i, vp_cell_i, arrV_store]
  congr 2
  funext q
  by_cases hq : q = i.toNatClampNeg
  · subst hq
    simp [updV, upd]
  · simp [updV, upd, hq]
theorem x_aastS {g : Cxt} {cc : ByteArray} {own nm : String} {rt : Option FieldType} {rm : Room} (hG : Cx g cc own nm rt rm) {w : Wd} {kc ks pc : Nat} {lv : List (Option Value)} {st : List Value} {a n v : Nat} {t tv : Tg} {f : Nat → Option Nat} {vs : List Value} {i : Int32} (he : w a = some (t, .inl (gK g 2, n, .inr (.inr (.inr (.inr f)))))) (hx : w v = some (tv, .inr (5, vs))) (hin : vp_in i n) (hd : decode cc pc = .ok (.aastore, 1)) (k : X g (wup w a (t, .inl (gK g 2, n, .inr (.inr (.inr (.inr (va_up f i.toNatClampNeg (some v)))))))) kc ks (pc + 1) lv st) : X g w kc ks pc lv (.ref v :: .int i :: .ref a :: st) := by
  obtain ⟨p, l, e, R, s, m, args, below, meth, c, Γ, nL, mc, ms, post, xpost⟩ := g
  obtain ⟨hF, hr, hlk, hE, hsl, rfl, hmc, hms, hnm⟩ := hG
  intro H locs ls hP hS hv
  have hlt : i.toNatClampNeg < n := Nat.not_le.mp fun q => hin (Or.inr q)
  have h0 : ¬ i < 0 := fun q => hin (Or.inl q)
  obtain ⟨r, hr9, cellV, g1, g2, g3, -⟩ := (hP v _ hx).2
  have hcls := (hE.1.1 5 _ rfl).2
  obtain ⟨kA, comp, k1, k2, k3, -⟩ := (hE.1.2 2 _ rfl).2
  have hcomp : comp = Γ.1.1 5 := Option.some.inj (k3.symm.trans hcls.1)
  subst hcomp
  obtain ⟨kC, hkC, -⟩ := id hcls.2
  refine W.aast hF.1 hF.2.1 (hP a _ he).2 (fun q h => by cases h) (fun h => by cases h) k1 k2 rfl hkC ⟨h0, by show _ < (arrV _ _ _).slots.size; rw [arrV_size]; exact hlt⟩ g1 (fun q h => by rw [g3] at h; cases h) (by rw [g2]; exact hkC) (by rw [g2]; exact va_assign hcls) rfl rfl hd fun H1 e z oq => ?_
  refine k H1 _ ls (hP.put he ?_ oq) (hS.put z oq (hP a _ he).1) hv
  show H1[a]? = some (vp_cell _ _)
  rw [e]
  rw [vp_cell_q, vp_cell_q, arrV_store]
  congr 2
  funext q
  by_cases hq : q = i.toNatClampNeg
  · subst hq
    simp [updV, va_up, va_rf]
  · simp [updV, va_up, hq]
theorem x_aastV {g : Cxt} {cc : ByteArray} {own nm : String} {rt : Option FieldType} {rm : Room} (hG : Cx g cc own nm rt rm) {w : Wd} {kc ks pc : Nat} {lv : List (Option Value)} {st : List Value} {a n v : Nat} {t tv : Tg} {f : Nat → Option Nat} {vs : List Value} {i : Int32} (he : w a = some (t, .inl (gK g 3, n, .inr (.inr (.inr (.inr f)))))) (hx : w v = some (tv, .inr (6, vs))) (hin : vp_in i n) (hd : decode cc pc = .ok (.aastore, 1)) (k : X g (wup w a (t, .inl (gK g 3, n, .inr (.inr (.inr (.inr (va_up f i.toNatClampNeg (some v)))))))) kc ks (pc + 1) lv st) : X g w kc ks pc lv (.ref v :: .int i :: .ref a :: st) := by
  obtain ⟨p, l, e, R, s, m, args, below, meth, c, Γ, nL, mc, ms, post, xpost⟩ := g
  obtain ⟨hF, hr, hlk, hE, hsl, rfl, hmc, hms, hnm⟩ := hG
  intro H locs ls hP hS hv
  have hlt : i.toNatClampNeg < n := Nat.not_le.mp fun q => hin (Or.inr q)
  have h0 : ¬ i < 0 := fun q => hin (Or.inl q)
  obtain ⟨r, hr9, cellV, g1, g2, g3, -⟩ := (hP v _ hx).2
  have hcls := (hE.1.1 6 _ rfl).2
  obtain ⟨kA, comp, k1, k2, k3, -⟩ := (hE.1.2 3 _ rfl).2
  have hcomp : comp = Γ.1.1 6 := Option.some.inj (k3.symm.trans hcls.1)
  subst hcomp
  obtain ⟨kC, hkC, -⟩ := id hcls.2
  refine W.aast hF.1 hF.2.1 (hP a _ he).2 (fun q h => by cases h) (fun h => by cases h) k1 k2 rfl hkC ⟨h0, by show _ < (arrV _ _ _).slots.size; rw [arrV_size]; exact hlt⟩ g1 (fun q h => by rw [g3] at h; cases h) (by rw [g2]; exact hkC) (by rw [g2]; exact va_assign hcls) rfl rfl hd fun H1 e z oq => ?_
  refine k H1 _ ls (hP.put he ?_ oq) (hS.put z oq (hP a _ he).1) hv
  show H1[a]? = some (vp_cell _ _)
  rw [e]
  rw [vp_cell_q, vp_cell_q, arrV_store]
  congr 2
  funext q
  by_cases hq : q = i.toNatClampNeg
  · subst hq
    simp [updV, va_up, va_rf]
  · simp [updV, va_up, hq]
theorem x_aastO {g : Cxt} {cc : ByteArray} {own nm : String} {rt : Option FieldType} {rm : Room} (hG : Cx g cc own nm rt rm) {w : Wd} {kc ks pc : Nat} {lv : List (Option Value)} {st : List Value} {a n v ci : Nat} {t tv : Tg} {f : Nat → Option Nat} {vs : List Value} {i : Int32} (he : w a = some (t, .inl (gK g 1, n, .inr (.inr (.inr (.inr f)))))) (hx : w v = some (tv, .inr (ci, vs))) (hca : ∃ (C : String) (T : u_T) (N : Nat), vwCl[ci]? = some (C, T, N) ∧ Cond.castable C "java/lang/Object" ∈ NB) (hin : vp_in i n) (hd : decode cc pc = .ok (.aastore, 1)) (k : X g (wup w a (t, .inl (gK g 1, n, .inr (.inr (.inr (.inr (va_up f i.toNatClampNeg (some v)))))))) kc ks (pc + 1) lv st) : X g w kc ks pc lv (.ref v :: .int i :: .ref a :: st) := by
  obtain ⟨p, l, e, R, s, m, args, below, meth, c, Γ, nL, mc, ms, post, xpost⟩ := g
  obtain ⟨hF, hr, hlk, hE, hsl, rfl, hmc, hms, hnm⟩ := hG
  intro H locs ls hP hS hv
  have hlt : i.toNatClampNeg < n := Nat.not_le.mp fun q => hin (Or.inr q)
  have h0 : ¬ i < 0 := fun q => hin (Or.inl q)
  obtain ⟨r, hr9, cellV, g1, g2, g3, -⟩ := (hP v _ hx).2
  obtain ⟨C, T, N, hc, hcw⟩ := hca
  cases hr9.symm.trans hc
  have hcls := (hE.1.1 ci _ hc).2
  obtain ⟨kA, comp, k1, k2, k3, -⟩ := (hE.1.2 1 _ rfl).2
  obtain ⟨kE, hkE, -⟩ := Vm.findClass_spec k3
  obtain ⟨c0, t1, f1, f2, f3⟩ := Cond.castable_spec (va_Nw.use (A := args) rfl (hE.2.1 _ hcw))
  cases hcls.1.symm.trans f1
  cases k3.symm.trans f2
  obtain ⟨kC, hkC, -⟩ := hcls.2
  refine W.aast hF.1 hF.2.1 (hP a _ he).2 (fun q h => by cases h) (fun h => by cases h) k1 k2 rfl hkE ⟨h0, by show _ < (arrV _ _ _).slots.size; rw [arrV_size]; exact hlt⟩ g1 (fun q h => by rw [g3] at h; cases h) (by rw [g2]; exact hkC) (by rw [g2]; exact f3) rfl rfl hd fun H1 e z oq => ?_
  refine k H1 _ ls (hP.put he ?_ oq) (hS.put z oq (hP a _ he).1) hv
  show H1[a]? = some (vp_cell _ _)
  rw [e]
  rw [vp_cell_q, vp_cell_q, arrV_store]
  congr 2
  funext q
  by_cases hq : q = i.toNatClampNeg
  · subst hq
    simp [updV, va_up, va_rf]
  · simp [updV, va_up, hq]
