/-! a row an instruction (written by rowsgen.py) -/
theorem x_iadd {g : Cxt} {cc : ByteArray} {own nm : String} {rt : Option FieldType} {rm : Room} (hG : Cx g cc own nm rt rm) {w : Wd} {kc ks pc : Nat} {lv : List (Option Value)} {st : List Value} {x y : Int32} (hd : decode cc pc = .ok (.iadd, 1))  (k : X g w kc ks (pc + 1) lv (.int (x + y) :: st)) : X g w kc ks pc lv (.int y :: .int x :: st) := by
  obtain ⟨p, l, e, R, s, m, args, below, meth, c, Γ, nL, mc, ms, post, xpost⟩ := g
  obtain ⟨hF, hr, hlk, hE, hsl, rfl, hmc, hms, hnm⟩ := hG
  intro H locs ls hP hS hv
  exact lv_iadd hF.1 hF.2.1 hd (k H locs ls hP hS hv)
theorem x_isub {g : Cxt} {cc : ByteArray} {own nm : String} {rt : Option FieldType} {rm : Room} (hG : Cx g cc own nm rt rm) {w : Wd} {kc ks pc : Nat} {lv : List (Option Value)} {st : List Value} {x y : Int32} (hd : decode cc pc = .ok (.isub, 1))  (k : X g w kc ks (pc + 1) lv (.int (x - y) :: st)) : X g w kc ks pc lv (.int y :: .int x :: st) := by
  obtain ⟨p, l, e, R, s, m, args, below, meth, c, Γ, nL, mc, ms, post, xpost⟩ := g
  obtain ⟨hF, hr, hlk, hE, hsl, rfl, hmc, hms, hnm⟩ := hG
  intro H locs ls hP hS hv
  exact lv_isub hF.1 hF.2.1 hd (k H locs ls hP hS hv)
theorem x_imul {g : Cxt} {cc : ByteArray} {own nm : String} {rt : Option FieldType} {rm : Room} (hG : Cx g cc own nm rt rm) {w : Wd} {kc ks pc : Nat} {lv : List (Option Value)} {st : List Value} {x y : Int32} (hd : decode cc pc = .ok (.imul, 1))  (k : X g w kc ks (pc + 1) lv (.int (x * y) :: st)) : X g w kc ks pc lv (.int y :: .int x :: st) := by
  obtain ⟨p, l, e, R, s, m, args, below, meth, c, Γ, nL, mc, ms, post, xpost⟩ := g
  obtain ⟨hF, hr, hlk, hE, hsl, rfl, hmc, hms, hnm⟩ := hG
  intro H locs ls hP hS hv
  exact lv_imul hF.1 hF.2.1 hd (k H locs ls hP hS hv)
theorem x_iand {g : Cxt} {cc : ByteArray} {own nm : String} {rt : Option FieldType} {rm : Room} (hG : Cx g cc own nm rt rm) {w : Wd} {kc ks pc : Nat} {lv : List (Option Value)} {st : List Value} {x y : Int32} (hd : decode cc pc = .ok (.iand, 1))  (k : X g w kc ks (pc + 1) lv (.int (x &&& y) :: st)) : X g w kc ks pc lv (.int y :: .int x :: st) := by
  obtain ⟨p, l, e, R, s, m, args, below, meth, c, Γ, nL, mc, ms, post, xpost⟩ := g
  obtain ⟨hF, hr, hlk, hE, hsl, rfl, hmc, hms, hnm⟩ := hG
  intro H locs ls hP hS hv
  exact lv_iand hF.1 hF.2.1 hd (k H locs ls hP hS hv)
theorem x_ior {g : Cxt} {cc : ByteArray} {own nm : String} {rt : Option FieldType} {rm : Room} (hG : Cx g cc own nm rt rm) {w : Wd} {kc ks pc : Nat} {lv : List (Option Value)} {st : List Value} {x y : Int32} (hd : decode cc pc = .ok (.ior, 1))  (k : X g w kc ks (pc + 1) lv (.int (x ||| y) :: st)) : X g w kc ks pc lv (.int y :: .int x :: st) := by
  obtain ⟨p, l, e, R, s, m, args, below, meth, c, Γ, nL, mc, ms, post, xpost⟩ := g
  obtain ⟨hF, hr, hlk, hE, hsl, rfl, hmc, hms, hnm⟩ := hG
  intro H locs ls hP hS hv
  exact lv_ior hF.1 hF.2.1 hd (k H locs ls hP hS hv)
theorem x_ishl {g : Cxt} {cc : ByteArray} {own nm : String} {rt : Option FieldType} {rm : Room} (hG : Cx g cc own nm rt rm) {w : Wd} {kc ks pc : Nat} {lv : List (Option Value)} {st : List Value} {x y : Int32} (hd : decode cc pc = .ok (.ishl, 1))  (k : X g w kc ks (pc + 1) lv (.int (x <<< (y &&& 31)) :: st)) : X g w kc ks pc lv (.int y :: .int x :: st) := by
  obtain ⟨p, l, e, R, s, m, args, below, meth, c, Γ, nL, mc, ms, post, xpost⟩ := g
  obtain ⟨hF, hr, hlk, hE, hsl, rfl, hmc, hms, hnm⟩ := hG
  intro H locs ls hP hS hv
  exact lv_ishl hF.1 hF.2.1 hd (k H locs ls hP hS hv)
theorem x_ishr {g : Cxt} {cc : ByteArray} {own nm : String} {rt : Option FieldType} {rm : Room} (hG : Cx g cc own nm rt rm) {w : Wd} {kc ks pc : Nat} {lv : List (Option Value)} {st : List Value} {x y : Int32} (hd : decode cc pc = .ok (.ishr, 1))  (k : X g w kc ks (pc + 1) lv (.int (x >>> (y &&& 31)) :: st)) : X g w kc ks pc lv (.int y :: .int x :: st) := by
  obtain ⟨p, l, e, R, s, m, args, below, meth, c, Γ, nL, mc, ms, post, xpost⟩ := g
  obtain ⟨hF, hr, hlk, hE, hsl, rfl, hmc, hms, hnm⟩ := hG
  intro H locs ls hP hS hv
  exact lv_ishr hF.1 hF.2.1 hd (k H locs ls hP hS hv)
theorem x_idiv {g : Cxt} {cc : ByteArray} {own nm : String} {rt : Option FieldType} {rm : Room} (hG : Cx g cc own nm rt rm) {w : Wd} {kc ks pc : Nat} {lv : List (Option Value)} {st : List Value} {x y : Int32} (hd : decode cc pc = .ok (.idiv, 1)) (hne : ¬ y = 0) (k : X g w kc ks (pc + 1) lv (.int (x / y) :: st)) : X g w kc ks pc lv (.int y :: .int x :: st) := by
  obtain ⟨p, l, e, R, s, m, args, below, meth, c, Γ, nL, mc, ms, post, xpost⟩ := g
  obtain ⟨hF, hr, hlk, hE, hsl, rfl, hmc, hms, hnm⟩ := hG
  intro H locs ls hP hS hv
  exact lv_idiv hF.1 hF.2.1 hd hne (k H locs ls hP hS hv)
theorem x_irem {g : Cxt} {cc : ByteArray} {own nm : String} {rt : Option FieldType} {rm : Room} (hG : Cx g cc own nm rt rm) {w : Wd} {kc ks pc : Nat} {lv : List (Option Value)} {st : List Value} {x y : Int32} (hd : decode cc pc = .ok (.irem, 1)) (hne : ¬ y = 0) (k : X g w kc ks (pc + 1) lv (.int (x - x / y * y) :: st)) : X g w kc ks pc lv (.int y :: .int x :: st) := by
  obtain ⟨p, l, e, R, s, m, args, below, meth, c, Γ, nL, mc, ms, post, xpost⟩ := g
  obtain ⟨hF, hr, hlk, hE, hsl, rfl, hmc, hms, hnm⟩ := hG
  intro H locs ls hP hS hv
  exact lv_irem hF.1 hF.2.1 hd hne (k H locs ls hP hS hv)
theorem x_iushr {g : Cxt} {cc : ByteArray} {own nm : String} {rt : Option FieldType} {rm : Room} (hG : Cx g cc own nm rt rm) {w : Wd} {kc ks pc : Nat} {lv : List (Option Value)} {st : List Value} {x y v : Int32} (hd : decode cc pc = .ok (.iushr, 1)) (he : (x.toUInt32 >>> (y.toUInt32 &&& Int32.toUInt32 31)).toInt32 = v) (k : X g w kc ks (pc + 1) lv (.int v :: st)) : X g w kc ks pc lv (.int y :: .int x :: st) := by
  obtain ⟨p, l, e, R, s, m, args, below, meth, c, Γ, nL, mc, ms, post, xpost⟩ := g
  obtain ⟨hF, hr, hlk, hE, hsl, rfl, hmc, hms, hnm⟩ := hG
  intro H locs ls hP hS hv
  exact lv_iushr hF.1 hF.2.1 hd he (k H locs ls hP hS hv)
theorem x_ladd {g : Cxt} {cc : ByteArray} {own nm : String} {rt : Option FieldType} {rm : Room} (hG : Cx g cc own nm rt rm) {w : Wd} {kc ks pc : Nat} {lv : List (Option Value)} {st : List Value} {x y : Int64} (hd : decode cc pc = .ok (.ladd, 1))  (k : X g w kc ks (pc + 1) lv (.long (x + y) :: st)) : X g w kc ks pc lv (.long y :: .long x :: st) := by
  obtain ⟨p, l, e, R, s, m, args, below, meth, c, Γ, nL, mc, ms, post, xpost⟩ := g
  obtain ⟨hF, hr, hlk, hE, hsl, rfl, hmc, hms, hnm⟩ := hG
  intro H locs ls hP hS hv
  exact lv_ladd hF.1 hF.2.1 hd (k H locs ls hP hS hv)
theorem x_lmul {g : Cxt} {cc : ByteArray} {own nm : String} {rt : Option FieldType} {rm : Room} (hG : Cx g cc own nm rt rm) {w : Wd} {kc ks pc : Nat} {lv : List (Option Value)} {st : List Value} {x y : Int64} (hd : decode cc pc = .ok (.lmul, 1))  (k : X g w kc ks (pc + 1) lv (.long (x * y) :: st)) : X g w kc ks pc lv (.long y :: .long x :: st) := by
  obtain ⟨p, l, e, R, s, m, args, below, meth, c, Γ, nL, mc, ms, post, xpost⟩ := g
  obtain ⟨hF, hr, hlk, hE, hsl, rfl, hmc, hms, hnm⟩ := hG
  intro H locs ls hP hS hv
  exact lv_lmul hF.1 hF.2.1 hd (k H locs ls hP hS hv)
theorem x_i2l {g : Cxt} {cc : ByteArray} {own nm : String} {rt : Option FieldType} {rm : Room} (hG : Cx g cc own nm rt rm) {w : Wd} {kc ks pc : Nat} {lv : List (Option Value)} {st : List Value} {x : Int32} (hd : decode cc pc = .ok (.i2l, 1)) (k : X g w kc ks (pc + 1) lv (.long x.toInt64 :: st)) : X g w kc ks pc lv (.int x :: st) := by
  obtain ⟨p, l, e, R, s, m, args, below, meth, c, Γ, nL, mc, ms, post, xpost⟩ := g
  obtain ⟨hF, hr, hlk, hE, hsl, rfl, hmc, hms, hnm⟩ := hG
  intro H locs ls hP hS hv
  exact lv_i2l hF.1 hF.2.1 hd rfl (k H locs ls hP hS hv)
theorem x_lcmp {g : Cxt} {cc : ByteArray} {own nm : String} {rt : Option FieldType} {rm : Room} (hG : Cx g cc own nm rt rm) {w : Wd} {kc ks pc : Nat} {lv : List (Option Value)} {st : List Value} {x y : Int64} (hd : decode cc pc = .ok (.lcmp, 1))  (k : X g w kc ks (pc + 1) lv (.int (lg_cmp x y) :: st)) : X g w kc ks pc lv (.long y :: .long x :: st) := by
  obtain ⟨p, l, e, R, s, m, args, below, meth, c, Γ, nL, mc, ms, post, xpost⟩ := g
  obtain ⟨hF, hr, hlk, hE, hsl, rfl, hmc, hms, hnm⟩ := hG
  intro H locs ls hP hS hv
  exact W.lcmp hF.1 hF.2.1 hd (k H locs ls hP hS hv)
theorem x_dcmp {g : Cxt} {cc : ByteArray} {own nm : String} {rt : Option FieldType} {rm : Room} (hG : Cx g cc own nm rt rm) {w : Wd} {kc ks pc : Nat} {lv : List (Option Value)} {st : List Value} {x y : UInt64} {op : CmpOp} (hd : decode cc pc = .ok (.dcmp op, 1))  (k : X g w kc ks (pc + 1) lv (.int (Op.cmpValue (FP.dcmp x y) op) :: st)) : X g w kc ks pc lv (.double y :: .double x :: st) := by
  obtain ⟨p, l, e, R, s, m, args, below, meth, c, Γ, nL, mc, ms, post, xpost⟩ := g
  obtain ⟨hF, hr, hlk, hE, hsl, rfl, hmc, hms, hnm⟩ := hG
  intro H locs ls hP hS hv
  exact lv_dcmp hF.1 hF.2.1 hd (k H locs ls hP hS hv)
theorem x_i2d {g : Cxt} {cc : ByteArray} {own nm : String} {rt : Option FieldType} {rm : Room} (hG : Cx g cc own nm rt rm) {w : Wd} {kc ks pc : Nat} {lv : List (Option Value)} {st : List Value} {x : Int32} (hd : decode cc pc = .ok (.i2d, 1))  (k : X g w kc ks (pc + 1) lv (.double (FP.i2d x) :: st)) : X g w kc ks pc lv (.int x :: st) := by
  obtain ⟨p, l, e, R, s, m, args, below, meth, c, Γ, nL, mc, ms, post, xpost⟩ := g
  obtain ⟨hF, hr, hlk, hE, hsl, rfl, hmc, hms, hnm⟩ := hG
  intro H locs ls hP hS hv
  exact lv_i2d hF.1 hF.2.1 hd (k H locs ls hP hS hv)
theorem x_ddiv {g : Cxt} {cc : ByteArray} {own nm : String} {rt : Option FieldType} {rm : Room} (hG : Cx g cc own nm rt rm) {w : Wd} {kc ks pc : Nat} {lv : List (Option Value)} {st : List Value} {x y : UInt64} (hd : decode cc pc = .ok (.ddiv, 1)) (hne : vf_n64 (FP.ddiv x y)) (k : X g w kc ks (pc + 1) lv (.double (FP.ddiv x y) :: st)) : X g w kc ks pc lv (.double y :: .double x :: st) := by
  obtain ⟨p, l, e, R, s, m, args, below, meth, c, Γ, nL, mc, ms, post, xpost⟩ := g
  obtain ⟨hF, hr, hlk, hE, hsl, rfl, hmc, hms, hnm⟩ := hG
  intro H locs ls hP hS hv
  exact lv_ddiv hF.1 hF.2.1 hd hne (k H locs ls hP hS hv)
theorem x_iconst {g : Cxt} {cc : ByteArray} {own nm : String} {rt : Option FieldType} {rm : Room} (hG : Cx g cc own nm rt rm) {w : Wd} {kc ks pc : Nat} {lv : List (Option Value)} {st : List Value} {n : Int} (v : Int32) (hd : decode cc pc = .ok (.iconst n, 1)) (he : Int32.ofInt n = v) (k : X g w kc ks (pc + 1) lv (.int v :: st)) : X g w kc ks pc lv st := by
  obtain ⟨p, l, e, R, s, m, args, below, meth, c, Γ, nL, mc, ms, post, xpost⟩ := g
  obtain ⟨hF, hr, hlk, hE, hsl, rfl, hmc, hms, hnm⟩ := hG
  intro H locs ls hP hS hv
  exact lv_iconst hF.1 hF.2.1 hd he (k H locs ls hP hS hv)
theorem x_bipush {g : Cxt} {cc : ByteArray} {own nm : String} {rt : Option FieldType} {rm : Room} (hG : Cx g cc own nm rt rm) {w : Wd} {kc ks pc : Nat} {lv : List (Option Value)} {st : List Value} {n : Int} (v : Int32) (hd : decode cc pc = .ok (.bipush n, 2)) (he : (Int8.ofInt n).toInt32 = v) (k : X g w kc ks (pc + 2) lv (.int v :: st)) : X g w kc ks pc lv st := by
  obtain ⟨p, l, e, R, s, m, args, below, meth, c, Γ, nL, mc, ms, post, xpost⟩ := g
  obtain ⟨hF, hr, hlk, hE, hsl, rfl, hmc, hms, hnm⟩ := hG
  intro H locs ls hP hS hv
  exact lv_bipush hF.1 hF.2.1 hd he (k H locs ls hP hS hv)
theorem x_sipush {g : Cxt} {cc : ByteArray} {own nm : String} {rt : Option FieldType} {rm : Room} (hG : Cx g cc own nm rt rm) {w : Wd} {kc ks pc : Nat} {lv : List (Option Value)} {st : List Value} {n : Int} (v : Int32) (hd : decode cc pc = .ok (.sipush n, 3)) (he : (Int16.ofInt n).toInt32 = v) (k : X g w kc ks (pc + 3) lv (.int v :: st)) : X g w kc ks pc lv st := by
  obtain ⟨p, l, e, R, s, m, args, below, meth, c, Γ, nL, mc, ms, post, xpost⟩ := g
  obtain ⟨hF, hr, hlk, hE, hsl, rfl, hmc, hms, hnm⟩ := hG
  intro H locs ls hP hS hv
  exact lv_sipush hF.1 hF.2.1 hd he (k H locs ls hP hS hv)
theorem x_lconst {g : Cxt} {cc : ByteArray} {own nm : String} {rt : Option FieldType} {rm : Room} (hG : Cx g cc own nm rt rm) {w : Wd} {kc ks pc : Nat} {lv : List (Option Value)} {st : List Value} {n : Fin 2} (v : Int64) (hd : decode cc pc = .ok (.lconst n, 1)) (he : Int64.ofNat (n : Nat) = v) (k : X g w kc ks (pc + 1) lv (.long v :: st)) : X g w kc ks pc lv st := by
  obtain ⟨p, l, e, R, s, m, args, below, meth, c, Γ, nL, mc, ms, post, xpost⟩ := g
  obtain ⟨hF, hr, hlk, hE, hsl, rfl, hmc, hms, hnm⟩ := hG
  intro H locs ls hP hS hv
  exact lv_lconst hF.1 hF.2.1 hd he (k H locs ls hP hS hv)
theorem x_dconst0 {g : Cxt} {cc : ByteArray} {own nm : String} {rt : Option FieldType} {rm : Room} (hG : Cx g cc own nm rt rm) {w : Wd} {kc ks pc : Nat} {lv : List (Option Value)} {st : List Value} (hd : decode cc pc = .ok (.dconst 0, 1)) (k : X g w kc ks (pc + 1) lv (.double FP.dconst0 :: st)) : X g w kc ks pc lv st := by
  obtain ⟨p, l, e, R, s, m, args, below, meth, c, Γ, nL, mc, ms, post, xpost⟩ := g
  obtain ⟨hF, hr, hlk, hE, hsl, rfl, hmc, hms, hnm⟩ := hG
  intro H locs ls hP hS hv
  exact lv_dconst0 hF.1 hF.2.1 hd (k H locs ls hP hS hv)
theorem x_null {g : Cxt} {cc : ByteArray} {own nm : String} {rt : Option FieldType} {rm : Room} (hG : Cx g cc own nm rt rm) {w : Wd} {kc ks pc : Nat} {lv : List (Option Value)} {st : List Value} (hd : decode cc pc = .ok (.aconst_null, 1)) (k : X g w kc ks (pc + 1) lv (.null :: st)) : X g w kc ks pc lv st := by
  obtain ⟨p, l, e, R, s, m, args, below, meth, c, Γ, nL, mc, ms, post, xpost⟩ := g
  obtain ⟨hF, hr, hlk, hE, hsl, rfl, hmc, hms, hnm⟩ := hG
  intro H locs ls hP hS hv
  exact lv_null hF.1 hF.2.1 hd (k H locs ls hP hS hv)
theorem x_ldcw {g : Cxt} {cc : ByteArray} {own nm : String} {rt : Option FieldType} {rm : Room} (hG : Cx g cc own nm rt rm) {w : Wd} {kc ks pc : Nat} {lv : List (Option Value)} {st : List Value} {i : Nat} (v : Int32) (hd : decode cc pc = .ok (.ldc_w i, 3)) (hc : Cond.constant own i v ∈ TB) (k : X g w kc ks (pc + 3) lv (.int v :: st)) : X g w kc ks pc lv st := by
  obtain ⟨p, l, e, R, s, m, args, below, meth, c, Γ, nL, mc, ms, post, xpost⟩ := g
  obtain ⟨hF, hr, hlk, hE, hsl, rfl, hmc, hms, hnm⟩ := hG
  intro H locs ls hP hS hv
  exact lv_ldcw hF.1 hF.2.1 hF.2.2.2.1 (hF.2.2.2.2 _ hc) hd (k H locs ls hP hS hv)
theorem x_ldc {g : Cxt} {cc : ByteArray} {own nm : String} {rt : Option FieldType} {rm : Room} (hG : Cx g cc own nm rt rm) {w : Wd} {kc ks pc : Nat} {lv : List (Option Value)} {st : List Value} {i : Nat} (v : Int32) (hd : decode cc pc = .ok (.ldc i, 2)) (hc : Cond.constant own i v ∈ TB) (k : X g w kc ks (pc + 2) lv (.int v :: st)) : X g w kc ks pc lv st := by
  obtain ⟨p, l, e, R, s, m, args, below, meth, c, Γ, nL, mc, ms, post, xpost⟩ := g
  obtain ⟨hF, hr, hlk, hE, hsl, rfl, hmc, hms, hnm⟩ := hG
  intro H locs ls hP hS hv
  exact lv_ldc hF.1 hF.2.1 hF.2.2.2.1 (hF.2.2.2.2 _ hc) hd (k H locs ls hP hS hv)
theorem x_ldc2 {g : Cxt} {cc : ByteArray} {own nm : String} {rt : Option FieldType} {rm : Room} (hG : Cx g cc own nm rt rm) {w : Wd} {kc ks pc : Nat} {lv : List (Option Value)} {st : List Value} {i : Nat} (v : Int64) (hd : decode cc pc = .ok (.ldc2_w i, 3)) (hc : Cond.constantLong own i v ∈ TB) (k : X g w kc ks (pc + 3) lv (.long v :: st)) : X g w kc ks pc lv st := by
  obtain ⟨p, l, e, R, s, m, args, below, meth, c, Γ, nL, mc, ms, post, xpost⟩ := g
  obtain ⟨hF, hr, hlk, hE, hsl, rfl, hmc, hms, hnm⟩ := hG
  intro H locs ls hP hS hv
  exact lv_ldc2 hF.1 hF.2.1 hF.2.2.2.1 (hF.2.2.2.2 _ hc) hd (k H locs ls hP hS hv)
theorem x_ldc2d {g : Cxt} {cc : ByteArray} {own nm : String} {rt : Option FieldType} {rm : Room} (hG : Cx g cc own nm rt rm) {w : Wd} {kc ks pc : Nat} {lv : List (Option Value)} {st : List Value} {i : Nat} (v : UInt64) (hd : decode cc pc = .ok (.ldc2_w i, 3)) (hc : Cond.constantDouble own i v ∈ TB) (k : X g w kc ks (pc + 3) lv (.double v :: st)) : X g w kc ks pc lv st := by
  obtain ⟨p, l, e, R, s, m, args, below, meth, c, Γ, nL, mc, ms, post, xpost⟩ := g
  obtain ⟨hF, hr, hlk, hE, hsl, rfl, hmc, hms, hnm⟩ := hG
  intro H locs ls hP hS hv
  exact lv_ldc2d hF.1 hF.2.1 hF.2.2.2.1 (hF.2.2.2.2 _ hc) hd (k H locs ls hP hS hv)
theorem x_dup {g : Cxt} {cc : ByteArray} {own nm : String} {rt : Option FieldType} {rm : Room} (hG : Cx g cc own nm rt rm) {w : Wd} {kc ks pc : Nat} {lv : List (Option Value)} {st : List Value} {va : Value} (hd : decode cc pc = .ok (.dup, 1)) (h1 : va.category = 1) (k : X g w kc ks (pc + 1) lv (va :: va :: st)) : X g w kc ks pc lv (va :: st) := by
  obtain ⟨p, l, e, R, s, m, args, below, meth, c, Γ, nL, mc, ms, post, xpost⟩ := g
  obtain ⟨hF, hr, hlk, hE, hsl, rfl, hmc, hms, hnm⟩ := hG
  intro H locs ls hP hS hv
  exact lv_dup hF.1 hF.2.1 hd h1 (k H locs ls hP hS hv)
theorem x_dup2 {g : Cxt} {cc : ByteArray} {own nm : String} {rt : Option FieldType} {rm : Room} (hG : Cx g cc own nm rt rm) {w : Wd} {kc ks pc : Nat} {lv : List (Option Value)} {st : List Value} {va vb : Value} (hd : decode cc pc = .ok (.dup2, 1)) (h1 : va.category = 1) (h2 : vb.category = 1) (k : X g w kc ks (pc + 1) lv (va :: vb :: va :: vb :: st)) : X g w kc ks pc lv (va :: vb :: st) := by
  obtain ⟨p, l, e, R, s, m, args, below, meth, c, Γ, nL, mc, ms, post, xpost⟩ := g
  obtain ⟨hF, hr, hlk, hE, hsl, rfl, hmc, hms, hnm⟩ := hG
  intro H locs ls hP hS hv
  exact lv_dup2_11 hF.1 hF.2.1 hd h1 h2 (k H locs ls hP hS hv)
theorem x_dup2L {g : Cxt} {cc : ByteArray} {own nm : String} {rt : Option FieldType} {rm : Room} (hG : Cx g cc own nm rt rm) {w : Wd} {kc ks pc : Nat} {lv : List (Option Value)} {st : List Value} {va : Value} (hd : decode cc pc = .ok (.dup2, 1)) (h1 : va.category = 2) (k : X g w kc ks (pc + 1) lv (va :: va :: st)) : X g w kc ks pc lv (va :: st) := by
  obtain ⟨p, l, e, R, s, m, args, below, meth, c, Γ, nL, mc, ms, post, xpost⟩ := g
  obtain ⟨hF, hr, hlk, hE, hsl, rfl, hmc, hms, hnm⟩ := hG
  intro H locs ls hP hS hv
  exact lv_dup2_2 hF.1 hF.2.1 hd h1 (k H locs ls hP hS hv)
theorem x_dup_x1 {g : Cxt} {cc : ByteArray} {own nm : String} {rt : Option FieldType} {rm : Room} (hG : Cx g cc own nm rt rm) {w : Wd} {kc ks pc : Nat} {lv : List (Option Value)} {st : List Value} {va vb : Value} (hd : decode cc pc = .ok (.dup_x1, 1)) (h1 : va.category = 1) (h2 : vb.category = 1) (k : X g w kc ks (pc + 1) lv (va :: vb :: va :: st)) : X g w kc ks pc lv (va :: vb :: st) := by
  obtain ⟨p, l, e, R, s, m, args, below, meth, c, Γ, nL, mc, ms, post, xpost⟩ := g
  obtain ⟨hF, hr, hlk, hE, hsl, rfl, hmc, hms, hnm⟩ := hG
  intro H locs ls hP hS hv
  exact lv_dup_x1 hF.1 hF.2.1 hd h1 h2 (k H locs ls hP hS hv)
theorem x_pop {g : Cxt} {cc : ByteArray} {own nm : String} {rt : Option FieldType} {rm : Room} (hG : Cx g cc own nm rt rm) {w : Wd} {kc ks pc : Nat} {lv : List (Option Value)} {st : List Value} {va : Value} (hd : decode cc pc = .ok (.pop, 1)) (h1 : va.category = 1) (k : X g w kc ks (pc + 1) lv (st)) : X g w kc ks pc lv (va :: st) := by
  obtain ⟨p, l, e, R, s, m, args, below, meth, c, Γ, nL, mc, ms, post, xpost⟩ := g
  obtain ⟨hF, hr, hlk, hE, hsl, rfl, hmc, hms, hnm⟩ := hG
  intro H locs ls hP hS hv
  exact lv_pop hF.1 hF.2.1 hd h1 (k H locs ls hP hS hv)
theorem x_goto {g : Cxt} {cc : ByteArray} {own nm : String} {rt : Option FieldType} {rm : Room} (hG : Cx g cc own nm rt rm) {w : Wd} {kc ks pc : Nat} {lv : List (Option Value)} {st : List Value} {off : Int} (tgt : Nat) (hd : decode cc pc = .ok (.goto off, 3)) (ht : (pc : Int) + off = (tgt : Int)) (k : X g w kc ks tgt lv st) : X g w kc ks pc lv st := by
  obtain ⟨p, l, e, R, s, m, args, below, meth, c, Γ, nL, mc, ms, post, xpost⟩ := g
  obtain ⟨hF, hr, hlk, hE, hsl, rfl, hmc, hms, hnm⟩ := hG
  intro H locs ls hP hS hv
  exact lv_goto hF.1 hF.2.1 hd ht (k H locs ls hP hS hv)
theorem x_if_eq {g : Cxt} {cc : ByteArray} {own nm : String} {rt : Option FieldType} {rm : Room} (hG : Cx g cc own nm rt rm) {w : Wd} {kc ks pc : Nat} {lv : List (Option Value)} {st : List Value} {x : Int32} {off : Int} (tgt : Nat) (hd : decode cc pc = .ok (.ifCond .eq off, 3)) (ht : (pc : Int) + off = (tgt : Int)) (kt : x = 0 → X g w kc ks tgt lv st) (kf : ¬ x = 0 → X g w kc ks (pc + 3) lv st) : X g w kc ks pc lv (.int x :: st) := by
  obtain ⟨p, l, e, R, s, m, args, below, meth, c, Γ, nL, mc, ms, post, xpost⟩ := g
  obtain ⟨hF, hr, hlk, hE, hsl, rfl, hmc, hms, hnm⟩ := hG
  intro H locs ls hP hS hv
  exact lv_if_eq hF.1 hF.2.1 hd ht (fun h => kt h H locs ls hP hS hv) (fun h => kf h H locs ls hP hS hv)
theorem x_icmp_eq {g : Cxt} {cc : ByteArray} {own nm : String} {rt : Option FieldType} {rm : Room} (hG : Cx g cc own nm rt rm) {w : Wd} {kc ks pc : Nat} {lv : List (Option Value)} {st : List Value} {x y : Int32} {off : Int} (tgt : Nat) (hd : decode cc pc = .ok (.if_icmp .eq off, 3)) (ht : (pc : Int) + off = (tgt : Int)) (kt : x = y → X g w kc ks tgt lv st) (kf : ¬ x = y → X g w kc ks (pc + 3) lv st) : X g w kc ks pc lv (.int y :: .int x :: st) := by
  obtain ⟨p, l, e, R, s, m, args, below, meth, c, Γ, nL, mc, ms, post, xpost⟩ := g
  obtain ⟨hF, hr, hlk, hE, hsl, rfl, hmc, hms, hnm⟩ := hG
  intro H locs ls hP hS hv
  exact lv_icmp_eq hF.1 hF.2.1 hd ht (fun h => kt h H locs ls hP hS hv) (fun h => kf h H locs ls hP hS hv)
theorem x_if_ne {g : Cxt} {cc : ByteArray} {own nm : String} {rt : Option FieldType} {rm : Room} (hG : Cx g cc own nm rt rm) {w : Wd} {kc ks pc : Nat} {lv : List (Option Value)} {st : List Value} {x : Int32} {off : Int} (tgt : Nat) (hd : decode cc pc = .ok (.ifCond .ne off, 3)) (ht : (pc : Int) + off = (tgt : Int)) (kt : ¬ x = 0 → X g w kc ks tgt lv st) (kf : x = 0 → X g w kc ks (pc + 3) lv st) : X g w kc ks pc lv (.int x :: st) := by
  obtain ⟨p, l, e, R, s, m, args, below, meth, c, Γ, nL, mc, ms, post, xpost⟩ := g
  obtain ⟨hF, hr, hlk, hE, hsl, rfl, hmc, hms, hnm⟩ := hG
  intro H locs ls hP hS hv
  exact lv_if_ne hF.1 hF.2.1 hd ht (fun h => kt h H locs ls hP hS hv) (fun h => kf h H locs ls hP hS hv)
theorem x_icmp_ne {g : Cxt} {cc : ByteArray} {own nm : String} {rt : Option FieldType} {rm : Room} (hG : Cx g cc own nm rt rm) {w : Wd} {kc ks pc : Nat} {lv : List (Option Value)} {st : List Value} {x y : Int32} {off : Int} (tgt : Nat) (hd : decode cc pc = .ok (.if_icmp .ne off, 3)) (ht : (pc : Int) + off = (tgt : Int)) (kt : ¬ x = y → X g w kc ks tgt lv st) (kf : x = y → X g w kc ks (pc + 3) lv st) : X g w kc ks pc lv (.int y :: .int x :: st) := by
  obtain ⟨p, l, e, R, s, m, args, below, meth, c, Γ, nL, mc, ms, post, xpost⟩ := g
  obtain ⟨hF, hr, hlk, hE, hsl, rfl, hmc, hms, hnm⟩ := hG
  intro H locs ls hP hS hv
  exact lv_icmp_ne hF.1 hF.2.1 hd ht (fun h => kt h H locs ls hP hS hv) (fun h => kf h H locs ls hP hS hv)
theorem x_if_lt {g : Cxt} {cc : ByteArray} {own nm : String} {rt : Option FieldType} {rm : Room} (hG : Cx g cc own nm rt rm) {w : Wd} {kc ks pc : Nat} {lv : List (Option Value)} {st : List Value} {x : Int32} {off : Int} (tgt : Nat) (hd : decode cc pc = .ok (.ifCond .lt off, 3)) (ht : (pc : Int) + off = (tgt : Int)) (kt : x < 0 → X g w kc ks tgt lv st) (kf : ¬ x < 0 → X g w kc ks (pc + 3) lv st) : X g w kc ks pc lv (.int x :: st) := by
  obtain ⟨p, l, e, R, s, m, args, below, meth, c, Γ, nL, mc, ms, post, xpost⟩ := g
  obtain ⟨hF, hr, hlk, hE, hsl, rfl, hmc, hms, hnm⟩ := hG
  intro H locs ls hP hS hv
  exact lv_if_lt hF.1 hF.2.1 hd ht (fun h => kt h H locs ls hP hS hv) (fun h => kf h H locs ls hP hS hv)
theorem x_icmp_lt {g : Cxt} {cc : ByteArray} {own nm : String} {rt : Option FieldType} {rm : Room} (hG : Cx g cc own nm rt rm) {w : Wd} {kc ks pc : Nat} {lv : List (Option Value)} {st : List Value} {x y : Int32} {off : Int} (tgt : Nat) (hd : decode cc pc = .ok (.if_icmp .lt off, 3)) (ht : (pc : Int) + off = (tgt : Int)) (kt : x < y → X g w kc ks tgt lv st) (kf : ¬ x < y → X g w kc ks (pc + 3) lv st) : X g w kc ks pc lv (.int y :: .int x :: st) := by
  obtain ⟨p, l, e, R, s, m, args, below, meth, c, Γ, nL, mc, ms, post, xpost⟩ := g
  obtain ⟨hF, hr, hlk, hE, hsl, rfl, hmc, hms, hnm⟩ := hG
  intro H locs ls hP hS hv
  exact lv_icmp_lt hF.1 hF.2.1 hd ht (fun h => kt h H locs ls hP hS hv) (fun h => kf h H locs ls hP hS hv)
theorem x_if_ge {g : Cxt} {cc : ByteArray} {own nm : String} {rt : Option FieldType} {rm : Room} (hG : Cx g cc own nm rt rm) {w : Wd} {kc ks pc : Nat} {lv : List (Option Value)} {st : List Value} {x : Int32} {off : Int} (tgt : Nat) (hd : decode cc pc = .ok (.ifCond .ge off, 3)) (ht : (pc : Int) + off = (tgt : Int)) (kt : 0 ≤ x → X g w kc ks tgt lv st) (kf : ¬ 0 ≤ x → X g w kc ks (pc + 3) lv st) : X g w kc ks pc lv (.int x :: st) := by
  obtain ⟨p, l, e, R, s, m, args, below, meth, c, Γ, nL, mc, ms, post, xpost⟩ := g
  obtain ⟨hF, hr, hlk, hE, hsl, rfl, hmc, hms, hnm⟩ := hG
  intro H locs ls hP hS hv
  exact lv_if_ge hF.1 hF.2.1 hd ht (fun h => kt h H locs ls hP hS hv) (fun h => kf h H locs ls hP hS hv)
theorem x_icmp_ge {g : Cxt} {cc : ByteArray} {own nm : String} {rt : Option FieldType} {rm : Room} (hG : Cx g cc own nm rt rm) {w : Wd} {kc ks pc : Nat} {lv : List (Option Value)} {st : List Value} {x y : Int32} {off : Int} (tgt : Nat) (hd : decode cc pc = .ok (.if_icmp .ge off, 3)) (ht : (pc : Int) + off = (tgt : Int)) (kt : y ≤ x → X g w kc ks tgt lv st) (kf : ¬ y ≤ x → X g w kc ks (pc + 3) lv st) : X g w kc ks pc lv (.int y :: .int x :: st) := by
  obtain ⟨p, l, e, R, s, m, args, below, meth, c, Γ, nL, mc, ms, post, xpost⟩ := g
  obtain ⟨hF, hr, hlk, hE, hsl, rfl, hmc, hms, hnm⟩ := hG
  intro H locs ls hP hS hv
  exact lv_icmp_ge hF.1 hF.2.1 hd ht (fun h => kt h H locs ls hP hS hv) (fun h => kf h H locs ls hP hS hv)
theorem x_if_gt {g : Cxt} {cc : ByteArray} {own nm : String} {rt : Option FieldType} {rm : Room} (hG : Cx g cc own nm rt rm) {w : Wd} {kc ks pc : Nat} {lv : List (Option Value)} {st : List Value} {x : Int32} {off : Int} (tgt : Nat) (hd : decode cc pc = .ok (.ifCond .gt off, 3)) (ht : (pc : Int) + off = (tgt : Int)) (kt : 0 < x → X g w kc ks tgt lv st) (kf : ¬ 0 < x → X g w kc ks (pc + 3) lv st) : X g w kc ks pc lv (.int x :: st) := by
  obtain ⟨p, l, e, R, s, m, args, below, meth, c, Γ, nL, mc, ms, post, xpost⟩ := g
  obtain ⟨hF, hr, hlk, hE, hsl, rfl, hmc, hms, hnm⟩ := hG
  intro H locs ls hP hS hv
  exact lv_if_gt hF.1 hF.2.1 hd ht (fun h => kt h H locs ls hP hS hv) (fun h => kf h H locs ls hP hS hv)
theorem x_icmp_gt {g : Cxt} {cc : ByteArray} {own nm : String} {rt : Option FieldType} {rm : Room} (hG : Cx g cc own nm rt rm) {w : Wd} {kc ks pc : Nat} {lv : List (Option Value)} {st : List Value} {x y : Int32} {off : Int} (tgt : Nat) (hd : decode cc pc = .ok (.if_icmp .gt off, 3)) (ht : (pc : Int) + off = (tgt : Int)) (kt : y < x → X g w kc ks tgt lv st) (kf : ¬ y < x → X g w kc ks (pc + 3) lv st) : X g w kc ks pc lv (.int y :: .int x :: st) := by
  obtain ⟨p, l, e, R, s, m, args, below, meth, c, Γ, nL, mc, ms, post, xpost⟩ := g
  obtain ⟨hF, hr, hlk, hE, hsl, rfl, hmc, hms, hnm⟩ := hG
  intro H locs ls hP hS hv
  exact lv_icmp_gt hF.1 hF.2.1 hd ht (fun h => kt h H locs ls hP hS hv) (fun h => kf h H locs ls hP hS hv)
theorem x_if_le {g : Cxt} {cc : ByteArray} {own nm : String} {rt : Option FieldType} {rm : Room} (hG : Cx g cc own nm rt rm) {w : Wd} {kc ks pc : Nat} {lv : List (Option Value)} {st : List Value} {x : Int32} {off : Int} (tgt : Nat) (hd : decode cc pc = .ok (.ifCond .le off, 3)) (ht : (pc : Int) + off = (tgt : Int)) (kt : x ≤ 0 → X g w kc ks tgt lv st) (kf : ¬ x ≤ 0 → X g w kc ks (pc + 3) lv st) : X g w kc ks pc lv (.int x :: st) := by
  obtain ⟨p, l, e, R, s, m, args, below, meth, c, Γ, nL, mc, ms, post, xpost⟩ := g
  obtain ⟨hF, hr, hlk, hE, hsl, rfl, hmc, hms, hnm⟩ := hG
  intro H locs ls hP hS hv
  exact lv_if_le hF.1 hF.2.1 hd ht (fun h => kt h H locs ls hP hS hv) (fun h => kf h H locs ls hP hS hv)
theorem x_icmp_le {g : Cxt} {cc : ByteArray} {own nm : String} {rt : Option FieldType} {rm : Room} (hG : Cx g cc own nm rt rm) {w : Wd} {kc ks pc : Nat} {lv : List (Option Value)} {st : List Value} {x y : Int32} {off : Int} (tgt : Nat) (hd : decode cc pc = .ok (.if_icmp .le off, 3)) (ht : (pc : Int) + off = (tgt : Int)) (kt : x ≤ y → X g w kc ks tgt lv st) (kf : ¬ x ≤ y → X g w kc ks (pc + 3) lv st) : X g w kc ks pc lv (.int y :: .int x :: st) := by
  obtain ⟨p, l, e, R, s, m, args, below, meth, c, Γ, nL, mc, ms, post, xpost⟩ := g
  obtain ⟨hF, hr, hlk, hE, hsl, rfl, hmc, hms, hnm⟩ := hG
  intro H locs ls hP hS hv
  exact lv_icmp_le hF.1 hF.2.1 hd ht (fun h => kt h H locs ls hP hS hv) (fun h => kf h H locs ls hP hS hv)
theorem x_acmp_eq {g : Cxt} {cc : ByteArray} {own nm : String} {rt : Option FieldType} {rm : Room} (hG : Cx g cc own nm rt rm) {w : Wd} {kc ks pc : Nat} {lv : List (Option Value)} {st : List Value} {rx ry : Option Nat} {off : Int} (tgt : Nat) (hd : decode cc pc = .ok (.if_acmp .eq off, 3)) (ht : (pc : Int) + off = (tgt : Int)) (kt : rx = ry → X g w kc ks tgt lv st) (kf : ¬ rx = ry → X g w kc ks (pc + 3) lv st) : X g w kc ks pc lv (va_rf ry :: va_rf rx :: st) := by
  obtain ⟨p, l, e, R, s, m, args, below, meth, c, Γ, nL, mc, ms, post, xpost⟩ := g
  obtain ⟨hF, hr, hlk, hE, hsl, rfl, hmc, hms, hnm⟩ := hG
  intro H locs ls hP hS hv
  exact lv_acmp_eq hF.1 hF.2.1 hd ht (fun h => kt h H locs ls hP hS hv) (fun h => kf h H locs ls hP hS hv)
theorem x_acmp_ne {g : Cxt} {cc : ByteArray} {own nm : String} {rt : Option FieldType} {rm : Room} (hG : Cx g cc own nm rt rm) {w : Wd} {kc ks pc : Nat} {lv : List (Option Value)} {st : List Value} {rx ry : Option Nat} {off : Int} (tgt : Nat) (hd : decode cc pc = .ok (.if_acmp .ne off, 3)) (ht : (pc : Int) + off = (tgt : Int)) (kt : ¬ rx = ry → X g w kc ks tgt lv st) (kf : rx = ry → X g w kc ks (pc + 3) lv st) : X g w kc ks pc lv (va_rf ry :: va_rf rx :: st) := by
  obtain ⟨p, l, e, R, s, m, args, below, meth, c, Γ, nL, mc, ms, post, xpost⟩ := g
  obtain ⟨hF, hr, hlk, hE, hsl, rfl, hmc, hms, hnm⟩ := hG
  intro H locs ls hP hS hv
  exact lv_acmp_ne hF.1 hF.2.1 hd ht (fun h => kt h H locs ls hP hS hv) (fun h => kf h H locs ls hP hS hv)
theorem x_ifnull {g : Cxt} {cc : ByteArray} {own nm : String} {rt : Option FieldType} {rm : Room} (hG : Cx g cc own nm rt rm) {w : Wd} {kc ks pc : Nat} {lv : List (Option Value)} {st : List Value} {x : Nat} {off : Int} (hd : decode cc pc = .ok (.ifnull off, 3)) (k : X g w kc ks (pc + 3) lv st) : X g w kc ks pc lv (.ref x :: st) := by
  obtain ⟨p, l, e, R, s, m, args, below, meth, c, Γ, nL, mc, ms, post, xpost⟩ := g
  obtain ⟨hF, hr, hlk, hE, hsl, rfl, hmc, hms, hnm⟩ := hG
  intro H locs ls hP hS hv
  exact lv_ifnull hF.1 hF.2.1 hd (k H locs ls hP hS hv)
theorem x_ifnullN {g : Cxt} {cc : ByteArray} {own nm : String} {rt : Option FieldType} {rm : Room} (hG : Cx g cc own nm rt rm) {w : Wd} {kc ks pc : Nat} {lv : List (Option Value)} {st : List Value} {off : Int} (tgt : Nat) (hd : decode cc pc = .ok (.ifnull off, 3)) (ht : (pc : Int) + off = (tgt : Int)) (k : X g w kc ks tgt lv st) : X g w kc ks pc lv (.null :: st) := by
  obtain ⟨p, l, e, R, s, m, args, below, meth, c, Γ, nL, mc, ms, post, xpost⟩ := g
  obtain ⟨hF, hr, hlk, hE, hsl, rfl, hmc, hms, hnm⟩ := hG
  intro H locs ls hP hS hv
  exact lv_ifnullN hF.1 hF.2.1 hd ht (k H locs ls hP hS hv)
theorem x_ifnonnull {g : Cxt} {cc : ByteArray} {own nm : String} {rt : Option FieldType} {rm : Room} (hG : Cx g cc own nm rt rm) {w : Wd} {kc ks pc : Nat} {lv : List (Option Value)} {st : List Value} {x : Nat} {off : Int} (tgt : Nat) (hd : decode cc pc = .ok (.ifnonnull off, 3)) (ht : (pc : Int) + off = (tgt : Int)) (k : X g w kc ks tgt lv st) : X g w kc ks pc lv (.ref x :: st) := by
  obtain ⟨p, l, e, R, s, m, args, below, meth, c, Γ, nL, mc, ms, post, xpost⟩ := g
  obtain ⟨hF, hr, hlk, hE, hsl, rfl, hmc, hms, hnm⟩ := hG
  intro H locs ls hP hS hv
  exact lv_ifnonnull hF.1 hF.2.1 hd ht (k H locs ls hP hS hv)
theorem x_ifnonnullN {g : Cxt} {cc : ByteArray} {own nm : String} {rt : Option FieldType} {rm : Room} (hG : Cx g cc own nm rt rm) {w : Wd} {kc ks pc : Nat} {lv : List (Option Value)} {st : List Value} {off : Int} (hd : decode cc pc = .ok (.ifnonnull off, 3)) (k : X g w kc ks (pc + 3) lv st) : X g w kc ks pc lv (.null :: st) := by
  obtain ⟨p, l, e, R, s, m, args, below, meth, c, Γ, nL, mc, ms, post, xpost⟩ := g
  obtain ⟨hF, hr, hlk, hE, hsl, rfl, hmc, hms, hnm⟩ := hG
  intro H locs ls hP hS hv
  exact lv_ifnonnullN hF.1 hF.2.1 hd (k H locs ls hP hS hv)
theorem x_tableIn {g : Cxt} {cc : ByteArray} {own nm : String} {rt : Option FieldType} {rm : Room} (hG : Cx g cc own nm rt rm) {w : Wd} {kc ks pc : Nat} {lv : List (Option Value)} {st : List Value} {dflt lo hi : Int} {offs : Array Int} {len : Nat} {x : Int32} {off : Int} (tgt : Nat) (hd : decode cc pc = .ok (.tableswitch dflt lo hi offs, len)) (h1 : ¬ x.toInt < lo) (h2 : ¬ hi < x.toInt) (ho : offs[(x.toInt - lo).toNat]? = some off) (ht : (pc : Int) + off = (tgt : Int)) (k : X g w kc ks tgt lv st) : X g w kc ks pc lv (.int x :: st) := by
  obtain ⟨p, l, e, R, s, m, args, below, meth, c, Γ, nL, mc, ms, post, xpost⟩ := g
  obtain ⟨hF, hr, hlk, hE, hsl, rfl, hmc, hms, hnm⟩ := hG
  intro H locs ls hP hS hv
  exact lv_tableIn hF.1 hF.2.1 hd h1 h2 ho ht (k H locs ls hP hS hv)
theorem x_tableOut {g : Cxt} {cc : ByteArray} {own nm : String} {rt : Option FieldType} {rm : Room} (hG : Cx g cc own nm rt rm) {w : Wd} {kc ks pc : Nat} {lv : List (Option Value)} {st : List Value} {dflt lo hi : Int} {offs : Array Int} {len : Nat} {x : Int32} (tgt : Nat) (hd : decode cc pc = .ok (.tableswitch dflt lo hi offs, len)) (h : x.toInt < lo ∨ hi < x.toInt) (ht : (pc : Int) + dflt = (tgt : Int)) (k : X g w kc ks tgt lv st) : X g w kc ks pc lv (.int x :: st) := by
  obtain ⟨p, l, e, R, s, m, args, below, meth, c, Γ, nL, mc, ms, post, xpost⟩ := g
  obtain ⟨hF, hr, hlk, hE, hsl, rfl, hmc, hms, hnm⟩ := hG
  intro H locs ls hP hS hv
  exact lv_tableOut hF.1 hF.2.1 hd h ht (k H locs ls hP hS hv)
theorem x_lookup {g : Cxt} {cc : ByteArray} {own nm : String} {rt : Option FieldType} {rm : Room} (hG : Cx g cc own nm rt rm) {w : Wd} {kc ks pc : Nat} {lv : List (Option Value)} {st : List Value} {dflt : Int} {ps : Array (Int × Int)} {len : Nat} {x : Int32} {off : Int} (tgt : Nat) (hd : decode cc pc = .ok (.lookupswitch dflt ps, len)) (hp : (ps.toList.zip (ps.toList.drop 1)).all (fun (a, next) => a.1 < next.1) = true) (ho : Op.lookupswitch.offset ps.toList dflt x.toInt = off) (ht : (pc : Int) + off = (tgt : Int)) (k : X g w kc ks tgt lv st) : X g w kc ks pc lv (.int x :: st) := by
  obtain ⟨p, l, e, R, s, m, args, below, meth, c, Γ, nL, mc, ms, post, xpost⟩ := g
  obtain ⟨hF, hr, hlk, hE, hsl, rfl, hmc, hms, hnm⟩ := hG
  intro H locs ls hP hS hv
  exact lv_lookup hF.1 hF.2.1 hd hp ho ht (k H locs ls hP hS hv)
theorem x_iload {g : Cxt} {cc : ByteArray} {own nm : String} {rt : Option FieldType} {rm : Room} (hG : Cx g cc own nm rt rm) {w : Wd} {kc ks pc : Nat} {lv : List (Option Value)} {st : List Value} {x : Int32} {i : Nat} (hd : decode cc pc = .ok (.iload i, 2)) (hl : lv[i]? = some (some (.int x))) (k : X g w kc ks (pc + 2) lv (.int x :: st)) : X g w kc ks pc lv st := by
  obtain ⟨p, l, e, R, s, m, args, below, meth, c, Γ, nL, mc, ms, post, xpost⟩ := g
  obtain ⟨hF, hr, hlk, hE, hsl, rfl, hmc, hms, hnm⟩ := hG
  intro H locs ls hP hS hv
  exact lv_iload hF.1 hF.2.1 hd (lh_at hv hl) (k H locs ls hP hS hv)
theorem x_iload_n {g : Cxt} {cc : ByteArray} {own nm : String} {rt : Option FieldType} {rm : Room} (hG : Cx g cc own nm rt rm) {w : Wd} {kc ks pc : Nat} {lv : List (Option Value)} {st : List Value} {x : Int32} {j : Fin 4} (i : Nat) (hd : decode cc pc = .ok (.iload_n j, 1)) (hi : (j : Nat) = i) (hl : lv[i]? = some (some (.int x))) (k : X g w kc ks (pc + 1) lv (.int x :: st)) : X g w kc ks pc lv st := by
  obtain ⟨p, l, e, R, s, m, args, below, meth, c, Γ, nL, mc, ms, post, xpost⟩ := g
  obtain ⟨hF, hr, hlk, hE, hsl, rfl, hmc, hms, hnm⟩ := hG
  intro H locs ls hP hS hv
  exact lv_iload_n hF.1 hF.2.1 hd hi (lh_at hv hl) (k H locs ls hP hS hv)
theorem x_istore {g : Cxt} {cc : ByteArray} {own nm : String} {rt : Option FieldType} {rm : Room} (hG : Cx g cc own nm rt rm) {w : Wd} {kc ks pc : Nat} {lv : List (Option Value)} {st : List Value} {x : Int32} {i : Nat} {lv2 : List (Option Value)} (hd : decode cc pc = .ok (.istore i, 2)) (hn : i < lv.length) (hok : okS lv i = true) (hl : (lv.set i (some (.int x))) = lv2) (k : X g w kc ks (pc + 2) lv2 st) : X g w kc ks pc lv (.int x :: st) := by
  obtain ⟨p, l, e, R, s, m, args, below, meth, c, Γ, nL, mc, ms, post, xpost⟩ := g
  obtain ⟨hF, hr, hlk, hE, hsl, rfl, hmc, hms, hnm⟩ := hG
  intro H locs ls hP hS hv
  subst hl
  exact lv_istore hF.1 hF.2.1 hd hv.1 (by rw [← hv.2]; exact hn) rfl (fun ls2 h2 => k H locs ls2 hP hS (lh_set hok hv.2 h2))
theorem x_istore_n {g : Cxt} {cc : ByteArray} {own nm : String} {rt : Option FieldType} {rm : Room} (hG : Cx g cc own nm rt rm) {w : Wd} {kc ks pc : Nat} {lv : List (Option Value)} {st : List Value} {x : Int32} {j : Fin 4} (i : Nat) {lv2 : List (Option Value)} (hd : decode cc pc = .ok (.istore_n j, 1)) (hi : (j : Nat) = i) (hn : i < lv.length) (hok : okS lv i = true) (hl : (lv.set i (some (.int x))) = lv2) (k : X g w kc ks (pc + 1) lv2 st) : X g w kc ks pc lv (.int x :: st) := by
  obtain ⟨p, l, e, R, s, m, args, below, meth, c, Γ, nL, mc, ms, post, xpost⟩ := g
  obtain ⟨hF, hr, hlk, hE, hsl, rfl, hmc, hms, hnm⟩ := hG
  intro H locs ls hP hS hv
  subst hl
  exact lv_istore_n hF.1 hF.2.1 hd hi hv.1 (by rw [← hv.2]; exact hn) rfl (fun ls2 h2 => k H locs ls2 hP hS (lh_set hok hv.2 h2))
theorem x_aload {g : Cxt} {cc : ByteArray} {own nm : String} {rt : Option FieldType} {rm : Room} (hG : Cx g cc own nm rt rm) {w : Wd} {kc ks pc : Nat} {lv : List (Option Value)} {st : List Value} {x : Nat} {i : Nat} (hd : decode cc pc = .ok (.aload i, 2)) (hl : lv[i]? = some (some (.ref x))) (k : X g w kc ks (pc + 2) lv (.ref x :: st)) : X g w kc ks pc lv st := by
  obtain ⟨p, l, e, R, s, m, args, below, meth, c, Γ, nL, mc, ms, post, xpost⟩ := g
  obtain ⟨hF, hr, hlk, hE, hsl, rfl, hmc, hms, hnm⟩ := hG
  intro H locs ls hP hS hv
  exact lv_aload hF.1 hF.2.1 hd (lh_at hv hl) (k H locs ls hP hS hv)
theorem x_aload_n {g : Cxt} {cc : ByteArray} {own nm : String} {rt : Option FieldType} {rm : Room} (hG : Cx g cc own nm rt rm) {w : Wd} {kc ks pc : Nat} {lv : List (Option Value)} {st : List Value} {x : Nat} {j : Fin 4} (i : Nat) (hd : decode cc pc = .ok (.aload_n j, 1)) (hi : (j : Nat) = i) (hl : lv[i]? = some (some (.ref x))) (k : X g w kc ks (pc + 1) lv (.ref x :: st)) : X g w kc ks pc lv st := by
  obtain ⟨p, l, e, R, s, m, args, below, meth, c, Γ, nL, mc, ms, post, xpost⟩ := g
  obtain ⟨hF, hr, hlk, hE, hsl, rfl, hmc, hms, hnm⟩ := hG
  intro H locs ls hP hS hv
  exact lv_aload_n hF.1 hF.2.1 hd hi (lh_at hv hl) (k H locs ls hP hS hv)
theorem x_astore {g : Cxt} {cc : ByteArray} {own nm : String} {rt : Option FieldType} {rm : Room} (hG : Cx g cc own nm rt rm) {w : Wd} {kc ks pc : Nat} {lv : List (Option Value)} {st : List Value} {x : Nat} {i : Nat} {lv2 : List (Option Value)} (hd : decode cc pc = .ok (.astore i, 2)) (hn : i < lv.length) (hok : okS lv i = true) (hl : (lv.set i (some (.ref x))) = lv2) (k : X g w kc ks (pc + 2) lv2 st) : X g w kc ks pc lv (.ref x :: st) := by
  obtain ⟨p, l, e, R, s, m, args, below, meth, c, Γ, nL, mc, ms, post, xpost⟩ := g
  obtain ⟨hF, hr, hlk, hE, hsl, rfl, hmc, hms, hnm⟩ := hG
  intro H locs ls hP hS hv
  subst hl
  exact lv_astore hF.1 hF.2.1 hd hv.1 (by rw [← hv.2]; exact hn) rfl (fun ls2 h2 => k H locs ls2 hP hS (lh_set hok hv.2 h2))
theorem x_astore_n {g : Cxt} {cc : ByteArray} {own nm : String} {rt : Option FieldType} {rm : Room} (hG : Cx g cc own nm rt rm) {w : Wd} {kc ks pc : Nat} {lv : List (Option Value)} {st : List Value} {x : Nat} {j : Fin 4} (i : Nat) {lv2 : List (Option Value)} (hd : decode cc pc = .ok (.astore_n j, 1)) (hi : (j : Nat) = i) (hn : i < lv.length) (hok : okS lv i = true) (hl : (lv.set i (some (.ref x))) = lv2) (k : X g w kc ks (pc + 1) lv2 st) : X g w kc ks pc lv (.ref x :: st) := by
  obtain ⟨p, l, e, R, s, m, args, below, meth, c, Γ, nL, mc, ms, post, xpost⟩ := g
  obtain ⟨hF, hr, hlk, hE, hsl, rfl, hmc, hms, hnm⟩ := hG
  intro H locs ls hP hS hv
  subst hl
  exact lv_astore_n hF.1 hF.2.1 hd hi hv.1 (by rw [← hv.2]; exact hn) rfl (fun ls2 h2 => k H locs ls2 hP hS (lh_set hok hv.2 h2))
theorem x_lload {g : Cxt} {cc : ByteArray} {own nm : String} {rt : Option FieldType} {rm : Room} (hG : Cx g cc own nm rt rm) {w : Wd} {kc ks pc : Nat} {lv : List (Option Value)} {st : List Value} {x : Int64} {i : Nat} (hd : decode cc pc = .ok (.lload i, 2)) (hl : lv[i]? = some (some (.long x))) (k : X g w kc ks (pc + 2) lv (.long x :: st)) : X g w kc ks pc lv st := by
  obtain ⟨p, l, e, R, s, m, args, below, meth, c, Γ, nL, mc, ms, post, xpost⟩ := g
  obtain ⟨hF, hr, hlk, hE, hsl, rfl, hmc, hms, hnm⟩ := hG
  intro H locs ls hP hS hv
  exact lv_lload hF.1 hF.2.1 hd (lh_at hv hl) (k H locs ls hP hS hv)
theorem x_lload_n {g : Cxt} {cc : ByteArray} {own nm : String} {rt : Option FieldType} {rm : Room} (hG : Cx g cc own nm rt rm) {w : Wd} {kc ks pc : Nat} {lv : List (Option Value)} {st : List Value} {x : Int64} {j : Fin 4} (i : Nat) (hd : decode cc pc = .ok (.lload_n j, 1)) (hi : (j : Nat) = i) (hl : lv[i]? = some (some (.long x))) (k : X g w kc ks (pc + 1) lv (.long x :: st)) : X g w kc ks pc lv st := by
  obtain ⟨p, l, e, R, s, m, args, below, meth, c, Γ, nL, mc, ms, post, xpost⟩ := g
  obtain ⟨hF, hr, hlk, hE, hsl, rfl, hmc, hms, hnm⟩ := hG
  intro H locs ls hP hS hv
  exact lv_lload_n hF.1 hF.2.1 hd hi (lh_at hv hl) (k H locs ls hP hS hv)
theorem x_lstore {g : Cxt} {cc : ByteArray} {own nm : String} {rt : Option FieldType} {rm : Room} (hG : Cx g cc own nm rt rm) {w : Wd} {kc ks pc : Nat} {lv : List (Option Value)} {st : List Value} {x : Int64} {i : Nat} {lv2 : List (Option Value)} (hd : decode cc pc = .ok (.lstore i, 2)) (hn : i + 1 < lv.length) (hok : okS lv i = true) (hl : ((lv.set i (some (.long x))).set (i + 1) none) = lv2) (k : X g w kc ks (pc + 2) lv2 st) : X g w kc ks pc lv (.long x :: st) := by
  obtain ⟨p, l, e, R, s, m, args, below, meth, c, Γ, nL, mc, ms, post, xpost⟩ := g
  obtain ⟨hF, hr, hlk, hE, hsl, rfl, hmc, hms, hnm⟩ := hG
  intro H locs ls hP hS hv
  subst hl
  exact lv_lstore hF.1 hF.2.1 hd hv.1 (by rw [← hv.2]; exact hn) rfl (fun ls2 h2 => k H locs ls2 hP hS (lh_set2 hok hv.2 h2))
theorem x_lstore_n {g : Cxt} {cc : ByteArray} {own nm : String} {rt : Option FieldType} {rm : Room} (hG : Cx g cc own nm rt rm) {w : Wd} {kc ks pc : Nat} {lv : List (Option Value)} {st : List Value} {x : Int64} {j : Fin 4} (i : Nat) {lv2 : List (Option Value)} (hd : decode cc pc = .ok (.lstore_n j, 1)) (hi : (j : Nat) = i) (hn : i + 1 < lv.length) (hok : okS lv i = true) (hl : ((lv.set i (some (.long x))).set (i + 1) none) = lv2) (k : X g w kc ks (pc + 1) lv2 st) : X g w kc ks pc lv (.long x :: st) := by
  obtain ⟨p, l, e, R, s, m, args, below, meth, c, Γ, nL, mc, ms, post, xpost⟩ := g
  obtain ⟨hF, hr, hlk, hE, hsl, rfl, hmc, hms, hnm⟩ := hG
  intro H locs ls hP hS hv
  subst hl
  exact lv_lstore_n hF.1 hF.2.1 hd hi hv.1 (by rw [← hv.2]; exact hn) rfl (fun ls2 h2 => k H locs ls2 hP hS (lh_set2 hok hv.2 h2))
theorem x_dload {g : Cxt} {cc : ByteArray} {own nm : String} {rt : Option FieldType} {rm : Room} (hG : Cx g cc own nm rt rm) {w : Wd} {kc ks pc : Nat} {lv : List (Option Value)} {st : List Value} {x : UInt64} {i : Nat} (hd : decode cc pc = .ok (.dload i, 2)) (hl : lv[i]? = some (some (.double x))) (k : X g w kc ks (pc + 2) lv (.double x :: st)) : X g w kc ks pc lv st := by
  obtain ⟨p, l, e, R, s, m, args, below, meth, c, Γ, nL, mc, ms, post, xpost⟩ := g
  obtain ⟨hF, hr, hlk, hE, hsl, rfl, hmc, hms, hnm⟩ := hG
  intro H locs ls hP hS hv
  exact lv_dload hF.1 hF.2.1 hd (lh_at hv hl) (k H locs ls hP hS hv)
theorem x_dstore {g : Cxt} {cc : ByteArray} {own nm : String} {rt : Option FieldType} {rm : Room} (hG : Cx g cc own nm rt rm) {w : Wd} {kc ks pc : Nat} {lv : List (Option Value)} {st : List Value} {x : UInt64} {i : Nat} {lv2 : List (Option Value)} (hd : decode cc pc = .ok (.dstore i, 2)) (hn : i + 1 < lv.length) (hok : okS lv i = true) (hl : ((lv.set i (some (.double x))).set (i + 1) none) = lv2) (k : X g w kc ks (pc + 2) lv2 st) : X g w kc ks pc lv (.double x :: st) := by
  obtain ⟨p, l, e, R, s, m, args, below, meth, c, Γ, nL, mc, ms, post, xpost⟩ := g
  obtain ⟨hF, hr, hlk, hE, hsl, rfl, hmc, hms, hnm⟩ := hG
  intro H locs ls hP hS hv
  subst hl
  exact lv_dstore hF.1 hF.2.1 hd hv.1 (by rw [← hv.2]; exact hn) rfl (fun ls2 h2 => k H locs ls2 hP hS (lh_set2 hok hv.2 h2))
theorem x_aloadN {g : Cxt} {cc : ByteArray} {own nm : String} {rt : Option FieldType} {rm : Room} (hG : Cx g cc own nm rt rm) {w : Wd} {kc ks pc : Nat} {lv : List (Option Value)} {st : List Value} {i : Nat} (hd : decode cc pc = .ok (.aload i, 2)) (hl : lv[i]? = some (some .null)) (k : X g w kc ks (pc + 2) lv (.null :: st)) : X g w kc ks pc lv st := by
  obtain ⟨p, l, e, R, s, m, args, below, meth, c, Γ, nL, mc, ms, post, xpost⟩ := g
  obtain ⟨hF, hr, hlk, hE, hsl, rfl, hmc, hms, hnm⟩ := hG
  intro H locs ls hP hS hv
  exact lv_aloadN hF.1 hF.2.1 hd (lh_at hv hl) (k H locs ls hP hS hv)
theorem x_aload_nN {g : Cxt} {cc : ByteArray} {own nm : String} {rt : Option FieldType} {rm : Room} (hG : Cx g cc own nm rt rm) {w : Wd} {kc ks pc : Nat} {lv : List (Option Value)} {st : List Value} {j : Fin 4} (i : Nat) (hd : decode cc pc = .ok (.aload_n j, 1)) (hi : (j : Nat) = i) (hl : lv[i]? = some (some .null)) (k : X g w kc ks (pc + 1) lv (.null :: st)) : X g w kc ks pc lv st := by
  obtain ⟨p, l, e, R, s, m, args, below, meth, c, Γ, nL, mc, ms, post, xpost⟩ := g
  obtain ⟨hF, hr, hlk, hE, hsl, rfl, hmc, hms, hnm⟩ := hG
  intro H locs ls hP hS hv
  exact lv_aload_nN hF.1 hF.2.1 hd hi (lh_at hv hl) (k H locs ls hP hS hv)
theorem x_astore_nN {g : Cxt} {cc : ByteArray} {own nm : String} {rt : Option FieldType} {rm : Room} (hG : Cx g cc own nm rt rm) {w : Wd} {kc ks pc : Nat} {lv : List (Option Value)} {st : List Value} {j : Fin 4} (i : Nat) {lv2 : List (Option Value)} (hd : decode cc pc = .ok (.astore_n j, 1)) (hi : (j : Nat) = i) (hn : i < lv.length) (hok : okS lv i = true) (hl : (lv.set i (some .null)) = lv2) (k : X g w kc ks (pc + 1) lv2 st) : X g w kc ks pc lv (.null :: st) := by
  obtain ⟨p, l, e, R, s, m, args, below, meth, c, Γ, nL, mc, ms, post, xpost⟩ := g
  obtain ⟨hF, hr, hlk, hE, hsl, rfl, hmc, hms, hnm⟩ := hG
  intro H locs ls hP hS hv
  subst hl
  exact lv_astore_nN hF.1 hF.2.1 hd hi hv.1 (by rw [← hv.2]; exact hn) rfl (fun ls2 h2 => k H locs ls2 hP hS (lh_set hok hv.2 h2))
theorem x_iinc {g : Cxt} {cc : ByteArray} {own nm : String} {rt : Option FieldType} {rm : Room} (hG : Cx g cc own nm rt rm) {w : Wd} {kc ks pc : Nat} {lv : List (Option Value)} {st : List Value} {i : Nat} {n : Int} {x : Int32} (v : Int32) {lv2 : List (Option Value)} (hd : decode cc pc = .ok (.iinc i n, 3)) (hx : lv[i]? = some (some (.int x))) (hn : i < lv.length) (hok : okS lv i = true) (he : x + Int32.ofInt n = v) (hl : lv.set i (some (.int v)) = lv2) (k : X g w kc ks (pc + 3) lv2 st) : X g w kc ks pc lv st := by
  obtain ⟨p, l, e, R, s, m, args, below, meth, c, Γ, nL, mc, ms, post, xpost⟩ := g
  obtain ⟨hF, hr, hlk, hE, hsl, rfl, hmc, hms, hnm⟩ := hG
  intro H locs ls hP hS hv
  subst hl
  have hm : (i, Value.int x) ∈ den lv 0 := (den_mem lv 0 i _).mpr ⟨Nat.zero_le _, hx⟩
  obtain ⟨q, hq⟩ := List.getElem?_of_mem hm
  exact lv_iinc hF.1 hF.2.1 hd hv.1 hq he (by rw [← hv.2]; exact hn) rfl (fun ls2 h2 => k H locs ls2 hP hS (lh_set hok hv.2 h2))
theorem x_ireturn {g : Cxt} {cc : ByteArray} {own nm : String} {rt : Option FieldType} {rm : Room} (hG : Cx g cc own nm rt rm) {w : Wd} {kc ks pc : Nat} {lv : List (Option Value)} {v : Int32} {ty : FieldType} (hd : decode cc pc = .ok (.ireturn, 1)) (hrt : rt = some ty) (hn : narrow ty (.int v) = .int v) (hkc : kc ≤ gM g) (hks : ks ≤ gN g) (k : gP g (some (.int v)) w) : X g w kc ks pc lv [.int v] := by
  obtain ⟨p, l, e, R, s, m, args, below, meth, c, Γ, nL, mc, ms, post, xpost⟩ := g
  obtain ⟨hF, hr, hlk, hE, hsl, rfl, hmc, hms, hnm⟩ := hG
  intro H locs ls hP hS hv
  exact W.widen hkc hks (vx_ret (W.zret hF.1 hF.2.1 (hr.trans hrt) hn (fun t ht hW => ⟨⟨_, w, rfl, by rw [ht]; exact hP, k⟩, hS.F ht⟩) hS.2.2 hd hlk))
theorem x_lreturn {g : Cxt} {cc : ByteArray} {own nm : String} {rt : Option FieldType} {rm : Room} (hG : Cx g cc own nm rt rm) {w : Wd} {kc ks pc : Nat} {lv : List (Option Value)} {v : Int64} (hd : decode cc pc = .ok (.lreturn, 1)) (hrt : rt = some .long)  (hkc : kc ≤ gM g) (hks : ks ≤ gN g) (k : gP g (some (.long v)) w) : X g w kc ks pc lv [.long v] := by
  obtain ⟨p, l, e, R, s, m, args, below, meth, c, Γ, nL, mc, ms, post, xpost⟩ := g
  obtain ⟨hF, hr, hlk, hE, hsl, rfl, hmc, hms, hnm⟩ := hG
  intro H locs ls hP hS hv
  exact W.widen hkc hks (vx_ret (W.lret hF.1 hF.2.1 (hr.trans hrt) (fun t ht hW => ⟨⟨_, w, rfl, by rw [ht]; exact hP, k⟩, hS.F ht⟩) hS.2.2 hd hlk))
theorem x_dreturn {g : Cxt} {cc : ByteArray} {own nm : String} {rt : Option FieldType} {rm : Room} (hG : Cx g cc own nm rt rm) {w : Wd} {kc ks pc : Nat} {lv : List (Option Value)} {v : UInt64} (hd : decode cc pc = .ok (.dreturn, 1)) (hrt : rt = some .double)  (hkc : kc ≤ gM g) (hks : ks ≤ gN g) (k : gP g (some (.double v)) w) : X g w kc ks pc lv [.double v] := by
  obtain ⟨p, l, e, R, s, m, args, below, meth, c, Γ, nL, mc, ms, post, xpost⟩ := g
  obtain ⟨hF, hr, hlk, hE, hsl, rfl, hmc, hms, hnm⟩ := hG
  intro H locs ls hP hS hv
  exact W.widen hkc hks (vx_ret (W.dret hF.1 hF.2.1 (hr.trans hrt) (fun t ht hW => ⟨⟨_, w, rfl, by rw [ht]; exact hP, k⟩, hS.F ht⟩) hS.2.2 hd hlk))
theorem x_areturn {g : Cxt} {cc : ByteArray} {own nm : String} {rt : Option FieldType} {rm : Room} (hG : Cx g cc own nm rt rm) {w : Wd} {kc ks pc : Nat} {lv : List (Option Value)} {v : Nat} {ty : FieldType} (hd : decode cc pc = .ok (.areturn, 1)) (hrt : rt = some ty) (hty : (∃ n, ty = .object n) ∨ ∃ t, ty = .array t) (hkc : kc ≤ gM g) (hks : ks ≤ gN g) (k : gP g (some (.ref v)) w) : X g w kc ks pc lv [.ref v] := by
  obtain ⟨p, l, e, R, s, m, args, below, meth, c, Γ, nL, mc, ms, post, xpost⟩ := g
  obtain ⟨hF, hr, hlk, hE, hsl, rfl, hmc, hms, hnm⟩ := hG
  intro H locs ls hP hS hv
  exact W.widen hkc hks (vx_ret (W.aret hF.1 hF.2.1 (hr.trans hrt) hty (Or.inr ⟨_, rfl⟩) (fun t ht hW => ⟨⟨_, w, rfl, by rw [ht]; exact hP, k⟩, hS.F ht⟩) hS.2.2 hd hlk))
theorem x_areturnN {g : Cxt} {cc : ByteArray} {own nm : String} {rt : Option FieldType} {rm : Room} (hG : Cx g cc own nm rt rm) {w : Wd} {kc ks pc : Nat} {lv : List (Option Value)} {ty : FieldType} (hd : decode cc pc = .ok (.areturn, 1)) (hrt : rt = some ty) (hty : (∃ n, ty = .object n) ∨ ∃ t, ty = .array t) (hkc : kc ≤ gM g) (hks : ks ≤ gN g) (k : gP g (some .null) w) : X g w kc ks pc lv [.null] := by
  obtain ⟨p, l, e, R, s, m, args, below, meth, c, Γ, nL, mc, ms, post, xpost⟩ := g
  obtain ⟨hF, hr, hlk, hE, hsl, rfl, hmc, hms, hnm⟩ := hG
  intro H locs ls hP hS hv
  exact W.widen hkc hks (vx_ret (W.aret hF.1 hF.2.1 (hr.trans hrt) hty (Or.inl rfl) (fun t ht hW => ⟨⟨_, w, rfl, by rw [ht]; exact hP, k⟩, hS.F ht⟩) hS.2.2 hd hlk))
theorem x_return {g : Cxt} {cc : ByteArray} {own nm : String} {rt : Option FieldType} {rm : Room} (hG : Cx g cc own nm rt rm) {w : Wd} {kc ks pc : Nat} {lv : List (Option Value)}  (hd : decode cc pc = .ok (.return_, 1)) (hrt : rt = none)  (hkc : kc ≤ gM g) (hks : ks ≤ gN g) (k : gP g none w) : X g w kc ks pc lv [] := by
  obtain ⟨p, l, e, R, s, m, args, below, meth, c, Γ, nL, mc, ms, post, xpost⟩ := g
  obtain ⟨hF, hr, hlk, hE, hsl, rfl, hmc, hms, hnm⟩ := hG
  intro H locs ls hP hS hv
  exact W.widen hkc hks (vx_ret (W.vret hF.1 hF.2.1 (hr.trans hrt) (fun t ht hW => ⟨⟨_, w, rfl, by rw [ht]; exact hP, k⟩, hS.F ht⟩) hS.2.2 hd hlk))
