def mn (x y : Int32) : Int32 := if y < x then y else x
def mx (x y : Int32) : Int32 := if x < y then y else x
/-! the world as a list, so that every row of the kit serves; further rows -/
def wls (w : Wd) (n : Nat) : va_W := (List.range n).filterMap (fun a => (w a).map (fun x => (a, x.2)))
theorem wls_mem {w : Wd} {n a : Nat} {e : va_E} : (a, e) ∈ wls w n ↔ a < n ∧ ∃ t, w a = some (t, e) := by
  unfold wls
  rw [List.mem_filterMap]
  constructor
  · rintro ⟨b, hb, h⟩
    rw [List.mem_range] at hb
    cases hw : w b with
    | none => rw [hw] at h; cases h
    | some x =>
      rw [hw] at h
      have h2 : (b, x.2) = (a, e) := Option.some.inj h
      have h3 : b = a := congrArg Prod.fst h2
      subst h3
      exact ⟨hb, x.1, by rw [hw]; exact congrArg some (Prod.ext rfl (show x.2 = e from congrArg (fun z : Nat × va_E => z.2) h2))⟩
  · rintro ⟨ha, t, h⟩
    exact ⟨a, List.mem_range.mpr ha, by rw [h]; rfl⟩
theorem wls_P {Γ : Gw} {w : Wd} {H : Heap} (hP : wPic Γ w H) : va_P Γ.1 vwCl (wls w H.size) H := by
  intro k q hk
  obtain ⟨a, e⟩ := q
  obtain ⟨-, t, h⟩ := wls_mem.mp (List.mem_of_getElem? hk)
  exact (hP a _ h).2
theorem wls_fst (w : Wd) (n : Nat) : (wls w n).map Prod.fst = (List.range n).filter (fun a => (w a).isSome) := by
  unfold wls
  induction List.range n with
  | nil => rfl
  | cons a l ih =>
    rw [List.filterMap_cons, List.filter_cons]
    cases hw : w a with
    | none => simpa using ih
    | some x => simpa using ih
theorem wls_D {Γ : Gw} {w : Wd} {H : Heap} (hP : wPic Γ w H) : va_D (n0A Γ) (wls w H.size) := by
  refine ⟨fun i j p q hi hj he => ?_, fun k q hk => ?_⟩
  · have hn : ((wls w H.size).map Prod.fst).Nodup := by
      rw [wls_fst]
      exact List.Pairwise.filter _ List.nodup_range
    have h1 : ((wls w H.size).map Prod.fst)[i]? = some p.1 := by rw [List.getElem?_map, hi]; rfl
    have h2 : ((wls w H.size).map Prod.fst)[j]? = some p.1 := by rw [List.getElem?_map, hj, he]; rfl
    obtain ⟨l1, e1⟩ := List.getElem?_eq_some_iff.mp h1
    obtain ⟨l2, e2⟩ := List.getElem?_eq_some_iff.mp h2
    have hpw := List.pairwise_iff_getElem.mp hn
    rcases Nat.lt_trichotomy i j with q | q | q
    · exact absurd (e1.trans e2.symm) (hpw i j l1 l2 q)
    · exact q
    · exact absurd (e2.trans e1.symm) (hpw j i l2 l1 q)
  · obtain ⟨a, e⟩ := q
    obtain ⟨-, t, h⟩ := wls_mem.mp (List.mem_of_getElem? hk)
    exact (hP a _ h).1
theorem wls_get {Γ : Gw} {w : Wd} {H : Heap} (hP : wPic Γ w H) {a : Nat} {t : Tg} {e : va_E} (h : w a = some (t, e)) : ∃ k : Nat, (wls w H.size)[k]? = some (a, e) := List.getElem?_of_mem (wls_mem.mpr ⟨hP.lt h, t, h⟩)
theorem wls_set {Γ : Gw} {w : Wd} {H H1 : Heap} (hP : wPic Γ w H) {a k : Nat} {t : Tg} {e e2 : va_E} (hk : (wls w H.size)[k]? = some (a, e)) (h1 : va_P Γ.1 vwCl ((wls w H.size).set k (a, e2)) H1) : wPic Γ (wup w a (t, e2)) H1 := by
  intro b y hb
  have hl := (List.getElem?_eq_some_iff.mp hk).1
  by_cases hq : b = a
  · subst hq
    rw [wup_s] at hb
    cases hb
    obtain ⟨-, t2, h2⟩ := wls_mem.mp (List.mem_of_getElem? hk)
    exact ⟨(hP b _ h2).1, h1 k (b, e2) (List.getElem?_set_self hl)⟩
  · rw [wup_n hq] at hb
    obtain ⟨i, hi⟩ := wls_get hP (t := y.1) (e := y.2) hb
    have hik : k ≠ i := by
      intro q
      subst q
      have := hk.symm.trans hi
      exact hq (congrArg Prod.fst (Option.some.inj this)).symm
    exact ⟨(hP b _ hb).1, h1 i (b, y.2) (by rw [List.getElem?_set_ne hik]; exact hi)⟩
theorem wls_app {Γ : Gw} {w : Wd} {H H1 : Heap} (hP : wPic Γ w H) {q : Nat} {t : Tg} {e : va_E} (h1 : va_P Γ.1 vwCl (wls w H.size ++ [(q, e)]) H1) (hD : va_D (n0A Γ) (wls w H.size ++ [(q, e)])) : w q = none ∧ n0A Γ q ∧ wPic Γ (wup w q (t, e)) H1 := by
  have hlast : (wls w H.size ++ [(q, e)])[(wls w H.size).length]? = some (q, e) := by simp
  have hnone : w q = none := by
    cases hw : w q with
    | none => rfl
    | some x =>
      obtain ⟨i, hi⟩ := wls_get hP (t := x.1) (e := x.2) hw
      have hil := (List.getElem?_eq_some_iff.mp hi).1
      have := hD.1 i _ (q, x.2) (q, e) (by rw [List.getElem?_append_left hil]; exact hi) hlast rfl
      omega
  refine ⟨hnone, hD.2 _ _ hlast, fun b y hb => ?_⟩
  by_cases hq : b = q
  · subst hq
    rw [wup_s] at hb
    cases hb
    exact ⟨hD.2 _ _ hlast, h1 _ (b, e) hlast⟩
  · rw [wup_n hq] at hb
    obtain ⟨i, hi⟩ := wls_get hP (t := y.1) (e := y.2) hb
    exact ⟨(hP b _ hb).1, h1 i (b, y.2) (by rw [List.getElem?_append_left (List.getElem?_eq_some_iff.mp hi).1]; exact hi)⟩
def CK (own : String) (idx ci : Nat) : Prop := ∃ (C : String) (T : u_T) (N : Nat), vwCl[ci]? = some (C, T, N) ∧ Cond.classLink own idx C ∈ TB
/-- what may stand in an Object[] -/
def OkE (K : Nat → ClassId) (e : va_E) : Prop := (∃ (ci : Nat) (vs : List Value) (C : String) (T : u_T) (N : Nat), e = .inr (ci, vs) ∧ vwCl[ci]? = some (C, T, N) ∧ Cond.castable C "java/lang/Object" ∈ NB) ∨ (∃ (n : Nat) (f : Nat → Int32), e = .inl (K 0, n, .inl f) ∧ Cond.castable "[I" "java/lang/Object" ∈ NB)
theorem oke_any {Γ : Gw} {s : State} {H : Heap} {w : Wd} {v : Nat} {tv : Tg} {e : va_E} (hE : EV Γ s s.heap) (hP : wPic Γ w H) (hx : w v = some (tv, e)) (h : OkE Γ.2.1 e) : va_Any "java/lang/Object" s H v := by
  rcases h with ⟨ci, vs, C, T, N, rfl, hc, hcw⟩ | ⟨n, f, rfl, hcw⟩
  · obtain ⟨r, hr9, cellV, g1, g2, g3, -⟩ := (hP v _ hx).2
    cases hr9.symm.trans hc
    have hcls := (hE.1.1 ci _ hc).2
    obtain ⟨kC, hkC, -⟩ := id hcls.2
    refine ⟨cellV, g1, by rw [g3]; rfl, ⟨kC, by rw [g2]; exact hkC⟩, fun comp hcomp => ?_⟩
    obtain ⟨c0, t1, f1, f2, f3⟩ := Cond.castable_spec (va_Nw.use (A := #[]) rfl (hE.2.1 _ hcw))
    cases hcls.1.symm.trans f1
    cases hcomp.symm.trans f2
    rw [g2]
    exact f3
  · have g1 := (hP v _ hx).2
    have hra : s.vm.findClass "[I" = some (Γ.2.1 0) := (hE.1.2 0 _ rfl).2
    obtain ⟨-, k0, hk0, -, -⟩ := (hE.1.2 0 _ rfl).1 n (fun j => .int (f j))
    refine ⟨_, g1, rfl, ⟨k0, hk0⟩, fun comp hcomp => ?_⟩
    obtain ⟨c0, t1, f1, f2, f3⟩ := Cond.castable_spec (va_Nw.use (A := #[]) rfl (hE.2.1 _ hcw))
    cases hra.symm.trans f1
    cases hcomp.symm.trans f2
    exact f3
def LkF (own : String) (idx : Nat) (x y : MethodName) (cc : ByteArray) (maxL : Nat) (ret : Option FieldType) : Prop :=
  Cond.methodLink own idx x ∈ TB ∧ Cond.selects RJx35411 x y ∈ TB ∧ Cond.instanceMethod y ∈ TB ∧ Cond.initialized y.cls ∈ TB ∧ Cond.code y cc maxL ret ∈ TB ∧ (x = itN ∧ y = yJx35411_hasNext_aae02 ∨ x = itX ∧ y = yJx35411_next_0502b)
set_option maxRecDepth 100000 in
theorem ac_int : Cond.arrayClass (newarray.typeOf .int) ∈ TB := (TB_4 238 rfl rfl)
set_option maxRecDepth 100000 in
theorem ac_long : Cond.arrayClass (newarray.typeOf .long) ∈ TB := (TB_6 64 rfl rfl)
set_option maxRecDepth 100000 in
theorem ac_double : Cond.arrayClass (newarray.typeOf .double) ∈ TB := (TB_6 65 rfl rfl)
set_option maxRecDepth 100000 in
theorem cl_s : Cond.sameMethod "[I" "java/lang/Object" "clone" "()Ljava/lang/Object;" ∈ TB := (TB_6 25 rfl rfl)
set_option maxRecDepth 100000 in
theorem cl_n : Cond.native ⟨"java/lang/Object", "clone", "()Ljava/lang/Object;"⟩ ∈ TB := (TB_6 26 rfl rfl)
set_option maxRecDepth 100000 in
theorem cl_i : Cond.instanceMethod ⟨"java/lang/Object", "clone", "()Ljava/lang/Object;"⟩ ∈ TB := (TB_6 27 rfl rfl)
set_option maxRecDepth 100000 in
theorem cl_x : Cond.selects "[I" ⟨"[I", "clone", "()Ljava/lang/Object;"⟩ ⟨"java/lang/Object", "clone", "()Ljava/lang/Object;"⟩ ∈ TB := (TB_6 28 rfl rfl)
set_option maxRecDepth 100000 in
theorem ay_n : Cond.native arraycopyName ∈ TB := (TB_3 153 rfl rfl)
set_option maxRecDepth 100000 in
theorem ay_s : Cond.static arraycopyName ∈ TB := (TB_3 152 rfl rfl)
set_option maxRecDepth 100000 in
theorem ay_i : Cond.initialized "java/lang/System" ∈ TB := (TB_1 21 rfl rfl)
set_option maxRecDepth 100000 in
theorem gc_x : Cond.selects "[Ljava/lang/Object;" ⟨"java/lang/Object", "getClass", "()Ljava/lang/Class;"⟩ ⟨"java/lang/Object", "getClass", "()Ljava/lang/Class;"⟩ ∈ TB := (TB_6 83 rfl rfl)
set_option maxRecDepth 100000 in
theorem gc_i : Cond.instanceMethod ⟨"java/lang/Object", "getClass", "()Ljava/lang/Class;"⟩ ∈ TB := (TB_3 128 rfl rfl)
set_option maxRecDepth 100000 in
theorem gc_n : Cond.native ⟨"java/lang/Object", "getClass", "()Ljava/lang/Class;"⟩ ∈ TB := (TB_3 143 rfl rfl)
set_option maxRecDepth 100000 in
theorem cl_c : Cond.castable "[I" "java/lang/Cloneable" ∈ NB := (NB_6 29 rfl rfl)
set_option maxRecDepth 100000 in
theorem ok_I : Cond.castable "[I" "java/lang/Object" ∈ NB := (NB_6 90 rfl rfl)
theorem x_castC {g : Cxt} {cc : ByteArray} {own nm : String} {rt : Option FieldType} {rm : Room} (hG : Cx g cc own nm rt rm) {w : Wd} {kc ks pc : Nat} {lv : List (Option Value)} {st : List Value} {idx ci a : Nat} {t : Tg} {fs : List Value} (hL : CK own idx ci) (he : w a = some (t, .inr (ci, fs))) (hd : decode cc pc = .ok (.checkcast idx, 3)) (k : X g w kc ks (pc + 3) lv (.ref a :: st)) : X g w kc ks pc lv (.ref a :: st) := by
  obtain ⟨p, l, e, R, s, m, args, below, meth, c, Γ, nL, mc, ms, post, xpost⟩ := g
  obtain ⟨hF, hr, hlk, hE, hsl, rfl, hmc, hms, hnm⟩ := hG
  intro H locs ls hP hS hv
  obtain ⟨C, T, N, hc, hlink⟩ := hL
  exact va_castS hF.1 hF.2.1 hF.2.2.2.1 (hF.2.2.2.2 _ hlink) (hE.1.1 ci _ hc).2 (va_recv hE.1 (hP.one he) hc (q0 := 0) rfl) hd (k H locs ls hP hS hv)
theorem x_castI {g : Cxt} {cc : ByteArray} {own nm : String} {rt : Option FieldType} {rm : Room} (hG : Cx g cc own nm rt rm) {w : Wd} {kc ks pc : Nat} {lv : List (Option Value)} {st : List Value} {idx a : Nat} {t : Tg} {x : vp_A} (hL : Cond.classLink own idx "[I" ∈ TB) (he : w a = some (t, .inl (gK g 0, x))) (hd : decode cc pc = .ok (.checkcast idx, 3)) (k : X g w kc ks (pc + 3) lv (.ref a :: st)) : X g w kc ks pc lv (.ref a :: st) := by
  obtain ⟨p, l, e, R, s, m, args, below, meth, c, Γ, nL, mc, ms, post, xpost⟩ := g
  obtain ⟨hF, hr, hlk, hE, hsl, rfl, hmc, hms, hnm⟩ := hG
  intro H locs ls hP hS hv
  exact va_castA hF.1 hF.2.1 hF.2.2.2.1 (hF.2.2.2.2 _ hL) (hP.one he) 0 rfl (hE.1.2 0 _ rfl).2 hd (k H locs ls hP hS hv)
theorem x_castO {g : Cxt} {cc : ByteArray} {own nm : String} {rt : Option FieldType} {rm : Room} (hG : Cx g cc own nm rt rm) {w : Wd} {kc ks pc : Nat} {lv : List (Option Value)} {st : List Value} {idx a : Nat} {t : Tg} {x : vp_A} (hL : Cond.classLink own idx "[Ljava/lang/Object;" ∈ TB) (he : w a = some (t, .inl (gK g 1, x))) (hd : decode cc pc = .ok (.checkcast idx, 3)) (k : X g w kc ks (pc + 3) lv (.ref a :: st)) : X g w kc ks pc lv (.ref a :: st) := by
  obtain ⟨p, l, e, R, s, m, args, below, meth, c, Γ, nL, mc, ms, post, xpost⟩ := g
  obtain ⟨hF, hr, hlk, hE, hsl, rfl, hmc, hms, hnm⟩ := hG
  intro H locs ls hP hS hv
  obtain ⟨kA, comp, k1, k2, k3, k4⟩ := (hE.1.2 1 _ rfl).2
  exact va_castA hF.1 hF.2.1 hF.2.2.2.1 (hF.2.2.2.2 _ hL) (hP.one he) 0 rfl k4 hd (k H locs ls hP hS hv)
theorem x_aastQ {g : Cxt} {cc : ByteArray} {own nm : String} {rt : Option FieldType} {rm : Room} (hG : Cx g cc own nm rt rm) {w : Wd} {kc ks pc : Nat} {lv : List (Option Value)} {st : List Value} {a n v : Nat} {t tv : Tg} {f : Nat → Option Nat} {ev : va_E} {i : Int32} (he : w a = some (t, .inl (gK g 1, n, .inr (.inr (.inr (.inr f)))))) (hx : w v = some (tv, ev)) (hca : OkE (gK g) ev) (hin : vp_in i n) (hd : decode cc pc = .ok (.aastore, 1)) (k : X g (wup w a (t, .inl (gK g 1, n, .inr (.inr (.inr (.inr (va_up f i.toNatClampNeg (some v)))))))) kc ks (pc + 1) lv st) : X g w kc ks pc lv (.ref v :: .int i :: .ref a :: st) := by
  obtain ⟨p, l, e, R, s, m, args, below, meth, c, Γ, nL, mc, ms, post, xpost⟩ := g
  obtain ⟨hF, hr, hlk, hE, hsl, rfl, hmc, hms, hnm⟩ := hG
  intro H locs ls hP hS hv
  obtain ⟨q0, h0⟩ := wls_get hP he
  exact va_astqM hF.1 hF.2.1 hE.1 (wls_P hP) (wls_D hP) hS q0 1 h0 rfl (oke_any hE hP hx hca) hin hd (fun H1 locs1 p1 _ s1 => k H1 locs1 ls (wls_set hP h0 p1) s1 hv)
theorem x_gete0 {g : Cxt} {cc : ByteArray} {own nm : String} {rt : Option FieldType} {rm : Room} (hG : Cx g cc own nm rt rm) {w : Wd} {kc ks pc : Nat} {lv : List (Option Value)} {st : List Value} {idx : Nat} (hL : Cond.fieldLink own idx "java/util/ArrayList" "DEFAULTCAPACITY_EMPTY_ELEMENTDATA" "[Ljava/lang/Object;" ∈ TB) (hd : decode cc pc = .ok (.getstatic idx, 3)) (k : X g w kc ks (pc + 3) lv (.ref (gΓ g).2.2.2.1 :: st)) : X g w kc ks pc lv st := by
  obtain ⟨p, l, e, R, s, m, args, below, meth, c, Γ, nL, mc, ms, post, xpost⟩ := g
  obtain ⟨hF, hr, hlk, hE, hsl, rfl, hmc, hms, hnm⟩ := hG
  intro H locs ls hP hS hv
  exact va_gets hF.1 hF.2.1 hE.2.2.2.2.2.1 hS hF.2.2.2.1 (hF.2.2.2.2 _ hL) (fun _ h => h) hd (k H locs ls hP hS hv)
theorem x_len0 {g : Cxt} {cc : ByteArray} {own nm : String} {rt : Option FieldType} {rm : Room} (hG : Cx g cc own nm rt rm) {w : Wd} {kc ks pc : Nat} {lv : List (Option Value)} {st : List Value} (hd : decode cc pc = .ok (.arraylength, 1)) (k : X g w kc ks (pc + 1) lv (.int 0 :: st)) : X g w kc ks pc lv (.ref (gΓ g).2.2.2.1 :: st) := by
  obtain ⟨p, l, e, R, s, m, args, below, meth, c, Γ, nL, mc, ms, post, xpost⟩ := g
  obtain ⟨hF, hr, hlk, hE, hsl, rfl, hmc, hms, hnm⟩ := hG
  intro H locs ls hP hS hv
  exact va_tlen hF.1 hF.2.1 hE.2.2.2.2.2.2.1 hS rfl hd (k H locs ls hP hS hv)
theorem x_newI {g : Cxt} {cc : ByteArray} {own nm : String} {rt : Option FieldType} {rm : Room} (hG : Cx g cc own nm rt rm) {w : Wd} {kc ks pc : Nat} {lv : List (Option Value)} {st : List Value} {n : Nat} {i : Int32} (t : Tg) (h0 : ¬ i < 0) (hi : i.toNatClampNeg = n) (hb : n ≤ 60000000) (hd : decode cc pc = .ok (.newarray .int, 2)) (hkc : kc + 1 ≤ gM g) (hks : ks + n ≤ gN g) (k : ∀ q : Nat, w q = none → n0A (gΓ g) q → X g (wup w q (t, .inl (gK g 0, n, .inl (fun _ => 0)))) (kc + 1) (ks + n) (pc + 2) lv (.ref q :: st)) : X g w kc ks pc lv (.int i :: st) := by
  obtain ⟨p, l, e, R, s, m, args, below, meth, c, Γ, nL, mc, ms, post, xpost⟩ := g
  obtain ⟨hF, hr, hlk, hE, hsl, rfl, hmc, hms, hnm⟩ := hG
  intro H locs ls hP hS hv
  have h00 : Γ.2.2.1 ≤ H.size := Nat.le_trans hE.2.2.2.2.2.2.2.1 hS.1
  refine va_newa (atype := .int) (ty := .int) (a0 := (n, .inl (fun _ => 0))) hF.1 hF.2.1 (hF.2.2.2.2 _ ac_int) rfl hE.1 (wls_P hP) (wls_D hP) hS (fun q hq => Nat.le_trans hE.2.2.2.2.2.2.2.1 hq) (fun cA => rfl) h0 hi (by show n * 4 ≤ _; omega) (by rw [hmc]; exact hkc) (by rw [hms]; exact hks) hd (fun q cA H1 hK1 p1 d1 s1 => ?_)
  have hcA : cA = Γ.2.1 0 := Option.some.inj ((hK1.2 7 _ rfl).2.symm.trans (hE.1.2 0 _ rfl).2)
  subst hcA
  obtain ⟨g1, g2, g3⟩ := wls_app (t := t) hP p1 d1
  exact k q g1 g2 H1 locs ls g3 s1 hv
theorem x_newL {g : Cxt} {cc : ByteArray} {own nm : String} {rt : Option FieldType} {rm : Room} (hG : Cx g cc own nm rt rm) {w : Wd} {kc ks pc : Nat} {lv : List (Option Value)} {st : List Value} {n : Nat} {i : Int32} (t : Tg) (h0 : ¬ i < 0) (hi : i.toNatClampNeg = n) (hb : n ≤ 60000000) (hd : decode cc pc = .ok (.newarray .long, 2)) (hkc : kc + 1 ≤ gM g) (hks : ks + n ≤ gN g) (k : ∀ q : Nat, w q = none → n0A (gΓ g) q → X g (wup w q (t, .inl (gK g 5, n, .inr (.inl (fun _ => 0))))) (kc + 1) (ks + n) (pc + 2) lv (.ref q :: st)) : X g w kc ks pc lv (.int i :: st) := by
  obtain ⟨p, l, e, R, s, m, args, below, meth, c, Γ, nL, mc, ms, post, xpost⟩ := g
  obtain ⟨hF, hr, hlk, hE, hsl, rfl, hmc, hms, hnm⟩ := hG
  intro H locs ls hP hS hv
  have h00 : Γ.2.2.1 ≤ H.size := Nat.le_trans hE.2.2.2.2.2.2.2.1 hS.1
  refine va_newa (atype := .long) (ty := .long) (a0 := (n, .inr (.inl (fun _ => 0)))) hF.1 hF.2.1 (hF.2.2.2.2 _ ac_long) rfl hE.1 (wls_P hP) (wls_D hP) hS (fun q hq => Nat.le_trans hE.2.2.2.2.2.2.2.1 hq) (fun cA => rfl) h0 hi (by show n * 8 ≤ _; omega) (by rw [hmc]; exact hkc) (by rw [hms]; exact hks) hd (fun q cA H1 hK1 p1 d1 s1 => ?_)
  have hcA : cA = Γ.2.1 5 := Option.some.inj ((hK1.2 7 _ rfl).2.symm.trans (hE.1.2 5 _ rfl).2)
  subst hcA
  obtain ⟨g1, g2, g3⟩ := wls_app (t := t) hP p1 d1
  exact k q g1 g2 H1 locs ls g3 s1 hv
theorem x_newD {g : Cxt} {cc : ByteArray} {own nm : String} {rt : Option FieldType} {rm : Room} (hG : Cx g cc own nm rt rm) {w : Wd} {kc ks pc : Nat} {lv : List (Option Value)} {st : List Value} {n : Nat} {i : Int32} (t : Tg) (h0 : ¬ i < 0) (hi : i.toNatClampNeg = n) (hb : n ≤ 60000000) (hd : decode cc pc = .ok (.newarray .double, 2)) (hkc : kc + 1 ≤ gM g) (hks : ks + n ≤ gN g) (k : ∀ q : Nat, w q = none → n0A (gΓ g) q → X g (wup w q (t, .inl (gK g 6, n, .inr (.inr (.inr (.inl (fun _ => 0))))))) (kc + 1) (ks + n) (pc + 2) lv (.ref q :: st)) : X g w kc ks pc lv (.int i :: st) := by
  obtain ⟨p, l, e, R, s, m, args, below, meth, c, Γ, nL, mc, ms, post, xpost⟩ := g
  obtain ⟨hF, hr, hlk, hE, hsl, rfl, hmc, hms, hnm⟩ := hG
  intro H locs ls hP hS hv
  have h00 : Γ.2.2.1 ≤ H.size := Nat.le_trans hE.2.2.2.2.2.2.2.1 hS.1
  refine va_newa (atype := .double) (ty := .double) (a0 := (n, .inr (.inr (.inr (.inl (fun _ => 0)))))) hF.1 hF.2.1 (hF.2.2.2.2 _ ac_double) rfl hE.1 (wls_P hP) (wls_D hP) hS (fun q hq => Nat.le_trans hE.2.2.2.2.2.2.2.1 hq) (fun cA => rfl) h0 hi (by show n * 8 ≤ _; omega) (by rw [hmc]; exact hkc) (by rw [hms]; exact hks) hd (fun q cA H1 hK1 p1 d1 s1 => ?_)
  have hcA : cA = Γ.2.1 6 := Option.some.inj ((hK1.2 7 _ rfl).2.symm.trans (hE.1.2 6 _ rfl).2)
  subst hcA
  obtain ⟨g1, g2, g3⟩ := wls_app (t := t) hP p1 d1
  exact k q g1 g2 H1 locs ls g3 s1 hv
theorem x_newO {g : Cxt} {cc : ByteArray} {own nm : String} {rt : Option FieldType} {rm : Room} (hG : Cx g cc own nm rt rm) {w : Wd} {kc ks pc : Nat} {lv : List (Option Value)} {st : List Value} {n idx : Nat} {i : Int32} (t : Tg) (hL : Cond.classLink own idx "java/lang/Object" ∈ TB) (h0 : ¬ i < 0) (hi : i.toNatClampNeg = n) (hb : n ≤ 60000000) (hd : decode cc pc = .ok (.anewarray idx, 3)) (hkc : kc + 1 ≤ gM g) (hks : ks + n ≤ gN g) (k : ∀ q : Nat, w q = none → n0A (gΓ g) q → X g (wup w q (t, .inl (gK g 1, n, .inr (.inr (.inr (.inr (fun _ => none))))))) (kc + 1) (ks + n) (pc + 3) lv (.ref q :: st)) : X g w kc ks pc lv (.int i :: st) := by
  obtain ⟨p, l, e, R, s, m, args, below, meth, c, Γ, nL, mc, ms, post, xpost⟩ := g
  obtain ⟨hF, hr, hlk, hE, hsl, rfl, hmc, hms, hnm⟩ := hG
  intro H locs ls hP hS hv
  refine va_newq hF.1 hF.2.1 hF.2.2.2.1 (hF.2.2.2.2 _ hL) hE.2.2.2.2.2.2.2.2.2.2.1 hE.1 (wls_P hP) (wls_D hP) hS (fun q hq => Nat.le_trans hE.2.2.2.2.2.2.2.1 hq) h0 hi (by omega) (by rw [hmc]; exact hkc) (by rw [hms]; exact hks) hd (fun q cA H1 hK1 p1 d1 s1 => ?_)
  obtain ⟨_, _, _, _, _, k4⟩ := (hK1.2 7 _ rfl).2
  obtain ⟨_, _, _, _, _, k5⟩ := (hE.1.2 1 _ rfl).2
  have hcA : cA = Γ.2.1 1 := Option.some.inj (k4.symm.trans k5)
  subst hcA
  obtain ⟨g1, g2, g3⟩ := wls_app (t := t) hP p1 d1
  exact k q g1 g2 H1 locs ls g3 s1 hv
theorem x_newS {g : Cxt} {cc : ByteArray} {own nm : String} {rt : Option FieldType} {rm : Room} (hG : Cx g cc own nm rt rm) {w : Wd} {kc ks pc : Nat} {lv : List (Option Value)} {st : List Value} {n idx : Nat} {i : Int32} (t : Tg) (hL : Cond.classLink own idx "TrackNights$Section" ∈ TB) (h0 : ¬ i < 0) (hi : i.toNatClampNeg = n) (hb : n ≤ 60000000) (hd : decode cc pc = .ok (.anewarray idx, 3)) (hkc : kc + 1 ≤ gM g) (hks : ks + n ≤ gN g) (k : ∀ q : Nat, w q = none → n0A (gΓ g) q → X g (wup w q (t, .inl (gK g 2, n, .inr (.inr (.inr (.inr (fun _ => none))))))) (kc + 1) (ks + n) (pc + 3) lv (.ref q :: st)) : X g w kc ks pc lv (.int i :: st) := by
  obtain ⟨p, l, e, R, s, m, args, below, meth, c, Γ, nL, mc, ms, post, xpost⟩ := g
  obtain ⟨hF, hr, hlk, hE, hsl, rfl, hmc, hms, hnm⟩ := hG
  intro H locs ls hP hS hv
  refine va_newq hF.1 hF.2.1 hF.2.2.2.1 (hF.2.2.2.2 _ hL) hE.2.2.2.2.2.2.2.2.1 hE.1 (wls_P hP) (wls_D hP) hS (fun q hq => Nat.le_trans hE.2.2.2.2.2.2.2.1 hq) h0 hi (by omega) (by rw [hmc]; exact hkc) (by rw [hms]; exact hks) hd (fun q cA H1 hK1 p1 d1 s1 => ?_)
  obtain ⟨_, _, _, _, _, k4⟩ := (hK1.2 7 _ rfl).2
  obtain ⟨_, _, _, _, _, k5⟩ := (hE.1.2 2 _ rfl).2
  have hcA : cA = Γ.2.1 2 := Option.some.inj (k4.symm.trans k5)
  subst hcA
  obtain ⟨g1, g2, g3⟩ := wls_app (t := t) hP p1 d1
  exact k q g1 g2 H1 locs ls g3 s1 hv
theorem x_newV {g : Cxt} {cc : ByteArray} {own nm : String} {rt : Option FieldType} {rm : Room} (hG : Cx g cc own nm rt rm) {w : Wd} {kc ks pc : Nat} {lv : List (Option Value)} {st : List Value} {n idx : Nat} {i : Int32} (t : Tg) (hL : Cond.classLink own idx "TrackNights$Values" ∈ TB) (h0 : ¬ i < 0) (hi : i.toNatClampNeg = n) (hb : n ≤ 60000000) (hd : decode cc pc = .ok (.anewarray idx, 3)) (hkc : kc + 1 ≤ gM g) (hks : ks + n ≤ gN g) (k : ∀ q : Nat, w q = none → n0A (gΓ g) q → X g (wup w q (t, .inl (gK g 3, n, .inr (.inr (.inr (.inr (fun _ => none))))))) (kc + 1) (ks + n) (pc + 3) lv (.ref q :: st)) : X g w kc ks pc lv (.int i :: st) := by
  obtain ⟨p, l, e, R, s, m, args, below, meth, c, Γ, nL, mc, ms, post, xpost⟩ := g
  obtain ⟨hF, hr, hlk, hE, hsl, rfl, hmc, hms, hnm⟩ := hG
  intro H locs ls hP hS hv
  refine va_newq hF.1 hF.2.1 hF.2.2.2.1 (hF.2.2.2.2 _ hL) hE.2.2.2.2.2.2.2.2.2.1 hE.1 (wls_P hP) (wls_D hP) hS (fun q hq => Nat.le_trans hE.2.2.2.2.2.2.2.1 hq) h0 hi (by omega) (by rw [hmc]; exact hkc) (by rw [hms]; exact hks) hd (fun q cA H1 hK1 p1 d1 s1 => ?_)
  obtain ⟨_, _, _, _, _, k4⟩ := (hK1.2 7 _ rfl).2
  obtain ⟨_, _, _, _, _, k5⟩ := (hE.1.2 3 _ rfl).2
  have hcA : cA = Γ.2.1 3 := Option.some.inj (k4.symm.trans k5)
  subst hcA
  obtain ⟨g1, g2, g3⟩ := wls_app (t := t) hP p1 d1
  exact k q g1 g2 H1 locs ls g3 s1 hv
theorem x_clone {g : Cxt} {cc : ByteArray} {own nm : String} {rt : Option FieldType} {rm : Room} (hG : Cx g cc own nm rt rm) {w : Wd} {kc ks pc : Nat} {lv : List (Option Value)} {st : List Value} {n idx a : Nat} {f : Nat → Int32} {ta : Tg} (t : Tg) (hL : Cond.methodLink own idx ⟨"[I", "clone", "()Ljava/lang/Object;"⟩ ∈ TB) (he : w a = some (ta, .inl (gK g 0, n, .inl f))) (hd : decode cc pc = .ok (.invokevirtual idx, 3)) (hRf : 1 ≤ rm.frames) (hRl : (st.map fun v => v.category).sum + 14 ≤ rm.locals) (hkc : kc + 1 ≤ gM g) (hks : ks + n ≤ gN g) (k : ∀ q : Nat, w q = none → n0A (gΓ g) q → X g (wup w q (t, .inl (gK g 0, n, .inl f))) (kc + 1) (ks + n) (pc + 3) lv (.ref q :: st)) : X g w kc ks pc lv (.ref a :: st) := by
  obtain ⟨p, l, e, R, s, m, args, below, meth, c, Γ, nL, mc, ms, post, xpost⟩ := g
  obtain ⟨hF, hr, hlk, hE, hsl, rfl, hmc, hms, hnm⟩ := hG
  intro H locs ls hP hS hv
  obtain ⟨q0, h0⟩ := wls_get hP he
  refine va_clone hF.1 hF.2.1 (hF.2.2.1.trans hv.1.1.symm) hF.2.2.2.1 (hF.2.2.2.2 _ hL) (hF.2.2.2.2 _ cl_s) (hF.2.2.2.2 _ cl_n) (hF.2.2.2.2 _ cl_i) (hF.2.2.2.2 _ cl_x) (hE.2.1 _ cl_c) hE.1 (wls_P hP) (wls_D hP) hS (fun q hq => Nat.le_trans hE.2.2.2.2.2.2.2.1 hq) q0 0 h0 rfl (hE.1.2 0 _ rfl).2 (fun i v hi => ?_) hRf hRl (by rw [hmc]; exact hkc) (by rw [hms]; exact hks) hd (fun q H1 hK1 p1 d1 s1 => ?_)
  · have h3 : (arrV (Γ.2.1 0) n (fun j => .int (f j))).slots[i]? = some v := hi
    have hlt : i < n := by
      have := (Array.getElem?_eq_some_iff.mp h3).1
      rw [arrV_size] at this
      exact this
    rw [arrV_read _ _ hlt] at h3
    cases h3
    rfl
  · obtain ⟨g1, g2, g3⟩ := wls_app (t := t) hP p1 d1
    exact k q g1 g2 H1 locs ls g3 s1 hv
theorem x_copyI {g : Cxt} {cc : ByteArray} {own nm : String} {rt : Option FieldType} {rm : Room} (hG : Cx g cc own nm rt rm) {w : Wd} {kc ks pc : Nat} {lv : List (Option Value)} {st : List Value} {n0 n1 idx a a0 : Nat} {f f1 : Nat → Int32} {ta ta0 : Tg} {sp dp n : Int32} (hL : Cond.methodLink own idx arraycopyName ∈ TB) (he0 : w a0 = some (ta0, .inl (gK g 0, n0, .inl f))) (he : w a = some (ta, .inl (gK g 0, n1, .inl f1))) (h1 : ¬ sp < 0) (h2 : ¬ dp < 0) (h3 : ¬ n < 0) (h4 : sp.toNatClampNeg + n.toNatClampNeg ≤ n0) (h5 : dp.toNatClampNeg + n.toNatClampNeg ≤ n1) (hd : decode cc pc = .ok (.invokestatic idx, 3)) (hRf : 1 ≤ rm.frames) (hRl : (st.map fun v => v.category).sum + (nativeFrameWords "java/lang/System" "arraycopy" 5 + 11) ≤ rm.locals) (k : X g (wup w a (ta, .inl (gK g 0, n1, .inl (va_cpy f f1 sp.toNatClampNeg dp.toNatClampNeg n.toNatClampNeg)))) kc ks (pc + 3) lv st) : X g w kc ks pc lv (.int n :: .int dp :: .ref a :: .int sp :: .ref a0 :: st) := by
  obtain ⟨p, l, e, R, s, m, args, below, meth, c, Γ, nL, mc, ms, post, xpost⟩ := g
  obtain ⟨hF, hr, hlk, hE, hsl, rfl, hmc, hms, hnm⟩ := hG
  intro H locs ls hP hS hv
  obtain ⟨q0, e0⟩ := wls_get hP he0
  obtain ⟨q1, e1⟩ := wls_get hP he
  exact va_copyi hF.1 hF.2.1 (hF.2.2.1.trans hv.1.1.symm) hF.2.2.2.1 (hF.2.2.2.2 _ hL) (hF.2.2.2.2 _ ay_n) (hF.2.2.2.2 _ ay_s) (hF.2.2.2.2 _ ay_i) hE.1 (wls_P hP) (wls_D hP) hS q0 q1 0 0 e0 e1 rfl rfl rfl h1 h2 h3 h4 h5 (fun _ _ => rfl) hRf hRl hd (fun H1 locs1 p1 _ s1 => k H1 locs1 ls (wls_set hP e1 p1) s1 hv)
theorem x_copyO {g : Cxt} {cc : ByteArray} {own nm : String} {rt : Option FieldType} {rm : Room} (hG : Cx g cc own nm rt rm) {w : Wd} {kc ks pc : Nat} {lv : List (Option Value)} {st : List Value} {n0 n1 idx a a0 : Nat} {f f1 : Nat → Option Nat} {ta ta0 : Tg} {sp dp n : Int32} (hL : Cond.methodLink own idx arraycopyName ∈ TB) (he0 : w a0 = some (ta0, .inl (gK g 1, n0, .inr (.inr (.inr (.inr f)))))) (he : w a = some (ta, .inl (gK g 1, n1, .inr (.inr (.inr (.inr f1)))))) (h1 : ¬ sp < 0) (h2 : ¬ dp < 0) (h3 : ¬ n < 0) (h4 : sp.toNatClampNeg + n.toNatClampNeg ≤ n0) (h5 : dp.toNatClampNeg + n.toNatClampNeg ≤ n1) (hel : ∀ i : Nat, i < n.toNatClampNeg → ∀ y : Nat, f (sp.toNatClampNeg + i) = some y → ∃ (ty : Tg) (ey : va_E), w y = some (ty, ey) ∧ OkE (gK g) ey) (hd : decode cc pc = .ok (.invokestatic idx, 3)) (hRf : 1 ≤ rm.frames) (hRl : (st.map fun v => v.category).sum + (nativeFrameWords "java/lang/System" "arraycopy" 5 + 11) ≤ rm.locals) (k : X g (wup w a (ta, .inl (gK g 1, n1, .inr (.inr (.inr (.inr (va_cpy f f1 sp.toNatClampNeg dp.toNatClampNeg n.toNatClampNeg))))))) kc ks (pc + 3) lv st) : X g w kc ks pc lv (.int n :: .int dp :: .ref a :: .int sp :: .ref a0 :: st) := by
  obtain ⟨p, l, e, R, s, m, args, below, meth, c, Γ, nL, mc, ms, post, xpost⟩ := g
  obtain ⟨hF, hr, hlk, hE, hsl, rfl, hmc, hms, hnm⟩ := hG
  intro H locs ls hP hS hv
  obtain ⟨q0, e0⟩ := wls_get hP he0
  obtain ⟨q1, e1⟩ := wls_get hP he
  exact va_copyM hF.1 hF.2.1 (hF.2.2.1.trans hv.1.1.symm) hF.2.2.2.1 (hF.2.2.2.2 _ hL) (hF.2.2.2.2 _ ay_n) (hF.2.2.2.2 _ ay_s) (hF.2.2.2.2 _ ay_i) hE.1 (wls_P hP) (wls_D hP) hS q0 q1 1 1 e0 e1 rfl rfl h1 h2 h3 h4 h5 (fun i hi y hy => by obtain ⟨ty, ey, hw, hok⟩ := hel i hi y hy; exact oke_any hE hP hw hok) hRf hRl hd (fun H1 locs1 p1 _ s1 => k H1 locs1 ls (wls_set hP e1 p1) s1 hv)
theorem x_ldcM {g : Cxt} {cc : ByteArray} {own nm : String} {rt : Option FieldType} {rm : Room} (hG : Cx g cc own nm rt rm) {w : Wd} {kc ks pc : Nat} {lv : List (Option Value)} {st : List Value} {idx : Nat} (hL : Cond.classLink own idx "[Ljava/lang/Object;" ∈ TB) (hd : decode cc pc = .ok (.ldc idx, 2)) (k : X g w kc ks (pc + 2) lv (.ref (gΓ g).2.2.2.2 :: st)) : X g w kc ks pc lv st := by
  obtain ⟨p, l, e, R, s, m, args, below, meth, c, Γ, nL, mc, ms, post, xpost⟩ := g
  obtain ⟨hF, hr, hlk, hE, hsl, rfl, hmc, hms, hnm⟩ := hG
  intro H locs ls hP hS hv
  exact va_ldcM hF.1 hF.2.1 hF.2.2.2.1 (hF.2.2.2.2 _ hL) hE.2.2.2.2.2.2.2.2.2.2.2.2.2.2.1 hd (k H locs ls hP hS hv)
theorem x_getC {g : Cxt} {cc : ByteArray} {own nm : String} {rt : Option FieldType} {rm : Room} (hG : Cx g cc own nm rt rm) {w : Wd} {kc ks pc : Nat} {lv : List (Option Value)} {st : List Value} {idx a n : Nat} {f : Nat → Option Nat} {ta : Tg} (hL : Cond.methodLink own idx ⟨"java/lang/Object", "getClass", "()Ljava/lang/Class;"⟩ ∈ TB) (he : w a = some (ta, .inl (gK g 1, n, .inr (.inr (.inr (.inr f)))))) (hd : decode cc pc = .ok (.invokevirtual idx, 3)) (hRf : 1 ≤ rm.frames) (hRl : (st.map fun v => v.category).sum + 14 ≤ rm.locals) (k : X g w kc ks (pc + 3) lv (.ref (gΓ g).2.2.2.2 :: st)) : X g w kc ks pc lv (.ref a :: st) := by
  obtain ⟨p, l, e, R, s, m, args, below, meth, c, Γ, nL, mc, ms, post, xpost⟩ := g
  obtain ⟨hF, hr, hlk, hE, hsl, rfl, hmc, hms, hnm⟩ := hG
  intro H locs ls hP hS hv
  obtain ⟨kA, comp, k1, k2, k3, k4⟩ := (hE.1.2 1 _ rfl).2
  exact va_getC hF.1 hF.2.1 (hF.2.2.1.trans hv.1.1.symm) hF.2.2.2.1 (hF.2.2.2.2 _ hL) (va_Dc.use hE.2.2.2.2.2.2.2.2.2.2.2.2.2.2.2.1) (hF.2.2.2.2 _ gc_x) (hF.2.2.2.2 _ gc_i) (hF.2.2.2.2 _ gc_n) hE.2.2.2.2.2.2.2.2.2.2.2.2.2.2.1 ⟨_, (hP a _ he).2, rfl, k4⟩ hRf hRl hd (k H locs ls hP hS hv)
theorem x_callF {g : Cxt} {cc : ByteArray} {own nm : String} {rt : Option FieldType} {rm : Room} (hG : Cx g cc own nm rt rm) {w : Wd} {kc ks pc : Nat} {lv : List (Option Value)} {st : List Value} (hO : Co g) {idx b maxL cnt : Nat} {t : Tg} {fs : List Value} {x y : MethodName} {yc : ByteArray} {ret : Option FieldType} {rm2 : Room} {S : SpT} (hC : CtrA y yc maxL ret rm2 S) (hL : LkF own idx x y yc maxL ret) (he : w b = some (t, .inr (0, fs))) (hRm : rm2.frames + 1 ≤ rm.frames ∧ 8 + (maxL + 11) + rm2.locals ≤ rm.locals) (hW : (st.map fun v => v.category).sum ≤ 8) (hkc : kc + rm2.cells ≤ gM g) (hks : ks + rm2.slots ≤ gN g) (hd : decode cc pc = .ok (.invokeinterface idx cnt, 5)) (k : S (gΓ g) [.ref b] w (fun r w1 => X g w1 (kc + rm2.cells) (ks + rm2.slots) (pc + 5) lv (r.toList ++ st)) (gX g)) : X g w kc ks pc lv (.ref b :: st) := by
  obtain ⟨p, l, e, R, s, m, args, below, meth, c, Γ, nL, mc, ms, post, xpost⟩ := g
  obtain ⟨hF, hr, hlk, hE, hsl, rfl, hmc, hms, hnm⟩ := hG
  intro H locs ls hP hS hv
  obtain ⟨h1, h2, h3, h4, h5, hxy⟩ := hL
  have hfw : va_Fw RJx35411 x y s := by
    rcases hxy with ⟨rfl, rfl⟩ | ⟨rfl, rfl⟩
    · exact hE.2.2.2.2.2.2.2.2.2.2.2.2.1
    · exact hE.2.2.2.2.2.2.2.2.2.2.2.2.2.1
  have hxd : x.cls ≠ "java/lang/invoke/MethodHandle" ∧ x.cls ≠ "java/lang/invoke/VarHandle" ∧ (parseMethodDescriptor x.desc).map (fun d => d.parameters.length) = some 0 := by
    rcases hxy with ⟨rfl, rfl⟩ | ⟨rfl, rfl⟩
    · exact ⟨by decide, by decide, by decide +kernel⟩
    · exact ⟨by decide, by decide, by decide +kernel⟩
  have hgi : GoodIn TB (va_wsF own idx RJx35411 x y (Cond.code y yc maxL ret :: TB)) := by
    intro w9 hw9
    rcases List.mem_append.mp hw9 with h9 | h9
    · simp only [List.mem_cons, List.not_mem_nil, or_false] at h9
      rcases h9 with rfl | rfl | rfl | rfl
      · exact TB_good _ h1
      · exact TB_good _ h2
      · exact TB_good _ h3
      · exact TB_good _ h4
    · exact code_good h5 w9 h9
  exact run_done5 (vx_runF (As := []) (rest := st) (hE.1.1 0 _ rfl).2 hF (hC l hsl Γ _ w _ _ k) (va_cwF 0 hF.2.2.2.2 hgi rfl rfl rfl hfw hxd hRm) ⟨pcw_blind, va_recv hE.1 (hP.one he) (ci := 0) (q0 := 0) rfl rfl, fun U hU hWa => ⟨rfl, by rw [hU]; exact (hE.kept hS.1 hS.2.1).warm hWa, by rw [hU]; exact hP⟩⟩ rfl rfl hv.1.1 rfl (lv_room (pc := pc) (ls := ls) (rest := .ref b :: st) hW) hd ⟨by rw [hmc]; exact hkc, by rw [hms]; exact hks⟩) hS hv hO hlk hkc hks (fun _ _ h => h) (fun _ _ h => h)
theorem x_mmin {g : Cxt} {cc : ByteArray} {own nm : String} {rt : Option FieldType} {rm : Room} (hG : Cx g cc own nm rt rm) {w : Wd} {kc ks pc : Nat} {lv : List (Option Value)} {st : List Value} {idx : Nat} {x y : Int32} (hL : LkS own idx yJ9_min_7cf53 cJ9_min_7cf53 2 (some .int) 2) (hd : decode cc pc = .ok (.invokestatic idx, 3)) (hRf : 1 ≤ rm.frames) (hRl : (st.map fun v => v.category).sum + 13 ≤ rm.locals) (hkc : kc ≤ gM g) (hks : ks ≤ gN g) (k : X g w kc ks (pc + 3) lv (.int (mn x y) :: st)) : X g w kc ks pc lv (.int y :: .int x :: st) := by
  obtain ⟨p, l, e, R, s, m, args, below, meth, c, Γ, nL, mc, ms, post, xpost⟩ := g
  obtain ⟨hF, hr, hlk, hE, hsl, rfl, hmc, hms, hnm⟩ := hG
  intro H locs ls hP hS hv
  obtain ⟨h1, h2, h4, h5, hy⟩ := hL
  exact va_mmin hF.1 hF.2.1 (hF.2.2.1.trans hv.1.1.symm) hF.2.2.2.1 (hF.2.2.2.2 _ h1) (hF.2.2.2.2 _ h2) (hF.2.2.2.2 _ h4) (hF.2.2.2.2 _ h5) hRf hRl (by rw [hmc]; exact hkc) (by rw [hms]; exact hks) hd (k H locs ls hP hS hv)
theorem x_mmax {g : Cxt} {cc : ByteArray} {own nm : String} {rt : Option FieldType} {rm : Room} (hG : Cx g cc own nm rt rm) {w : Wd} {kc ks pc : Nat} {lv : List (Option Value)} {st : List Value} {idx : Nat} {x y : Int32} (hL : LkS own idx yJ9_max_7cf53 cJ9_max_7cf53 2 (some .int) 2) (hd : decode cc pc = .ok (.invokestatic idx, 3)) (hRf : 1 ≤ rm.frames) (hRl : (st.map fun v => v.category).sum + 13 ≤ rm.locals) (hkc : kc ≤ gM g) (hks : ks ≤ gN g) (k : X g w kc ks (pc + 3) lv (.int (mx x y) :: st)) : X g w kc ks pc lv (.int y :: .int x :: st) := by
  obtain ⟨p, l, e, R, s, m, args, below, meth, c, Γ, nL, mc, ms, post, xpost⟩ := g
  obtain ⟨hF, hr, hlk, hE, hsl, rfl, hmc, hms, hnm⟩ := hG
  intro H locs ls hP hS hv
  obtain ⟨h1, h2, h4, h5, hy⟩ := hL
  exact va_mmax hF.1 hF.2.1 (hF.2.2.1.trans hv.1.1.symm) hF.2.2.2.1 (hF.2.2.2.2 _ h1) (hF.2.2.2.2 _ h2) (hF.2.2.2.2 _ h4) (hF.2.2.2.2 _ h5) hRf hRl (by rw [hmc]; exact hkc) (by rw [hms]; exact hks) hd (k H locs ls hP hS hv)
set_option maxRecDepth 100000 in
theorem ck_L_8 : CK RL 8 8 := ⟨RX6, TX6, 13, rfl, (TB_1 26 rfl rfl)⟩
set_option maxRecDepth 100000 in
theorem ckl_L_8 : Cond.classLink RL 8 "TrackNights" ∈ TB := (TB_1 26 rfl rfl)
set_option maxRecDepth 100000 in
theorem ck_X6_9 : CK RX6 9 5 := ⟨RX3, TX3, 5, rfl, (TB_1 34 rfl rfl)⟩
set_option maxRecDepth 100000 in
theorem ckl_X6_9 : Cond.classLink RX6 9 "TrackNights$Section" ∈ TB := (TB_1 34 rfl rfl)
set_option maxRecDepth 100000 in
theorem ck_X6_15 : CK RX6 15 1 := ⟨RJx4a65c, TJx4a65c, 3, rfl, (TB_1 36 rfl rfl)⟩
set_option maxRecDepth 100000 in
theorem ckl_X6_15 : Cond.classLink RX6 15 "java/util/ArrayList" ∈ TB := (TB_1 36 rfl rfl)
set_option maxRecDepth 100000 in
theorem ck_X6_28 : CK RX6 28 6 := ⟨RX4, TX4, 3, rfl, (TB_1 65 rfl rfl)⟩
set_option maxRecDepth 100000 in
theorem ckl_X6_28 : Cond.classLink RX6 28 "TrackNights$Values" ∈ TB := (TB_1 65 rfl rfl)
set_option maxRecDepth 100000 in
theorem ck_X3_9 : CK RX3 9 6 := ⟨RX4, TX4, 3, rfl, (TB_1 95 rfl rfl)⟩
set_option maxRecDepth 100000 in
theorem ckl_X3_9 : Cond.classLink RX3 9 "TrackNights$Values" ∈ TB := (TB_1 95 rfl rfl)
set_option maxRecDepth 100000 in
theorem ck_X6_110 : CK RX6 110 3 := ⟨RX1, TX1, 4, rfl, (TB_1 190 rfl rfl)⟩
set_option maxRecDepth 100000 in
theorem ckl_X6_110 : Cond.classLink RX6 110 "TrackNights$Measure" ∈ TB := (TB_1 190 rfl rfl)
set_option maxRecDepth 100000 in
theorem ck_X6_176 : CK RX6 176 4 := ⟨RX2, TX2, 10, rfl, (TB_1 195 rfl rfl)⟩
set_option maxRecDepth 100000 in
theorem ckl_X6_176 : Cond.classLink RX6 176 "TrackNights$Possession" ∈ TB := (TB_1 195 rfl rfl)
set_option maxRecDepth 100000 in
theorem ckl_X6_72 : Cond.classLink RX6 72 "java/lang/IllegalArgumentException" ∈ TB := (TB_2 12 rfl rfl)
set_option maxRecDepth 100000 in
theorem ckl_X6_125 : Cond.classLink RX6 125 "java/lang/IndexOutOfBoundsException" ∈ TB := (TB_2 96 rfl rfl)
set_option maxRecDepth 100000 in
theorem ck_X6_148 : CK RX6 148 2 := ⟨RX0, TX0, 4, rfl, (TB_2 190 rfl rfl)⟩
set_option maxRecDepth 100000 in
theorem ckl_X6_148 : Cond.classLink RX6 148 "TrackNights$Machine" ∈ TB := (TB_2 190 rfl rfl)
set_option maxRecDepth 100000 in
theorem ck_X2_55 : CK RX2 55 7 := ⟨RX5, TX5, 3, rfl, (TB_2 207 rfl rfl)⟩
set_option maxRecDepth 100000 in
theorem ckl_X2_55 : Cond.classLink RX2 55 "TrackNights$Work" ∈ TB := (TB_2 207 rfl rfl)
set_option maxRecDepth 100000 in
theorem ckl_L_13 : Cond.classLink RL 13 "java/lang/IndexOutOfBoundsException" ∈ TB := (TB_2 235 rfl rfl)
set_option maxRecDepth 100000 in
theorem ckl_L_19 : Cond.classLink RL 19 "java/lang/IllegalArgumentException" ∈ TB := (TB_3 3 rfl rfl)
set_option maxRecDepth 100000 in
theorem ckl_L_25 : Cond.classLink RL 25 "java/lang/IllegalStateException" ∈ TB := (TB_3 12 rfl rfl)
set_option maxRecDepth 100000 in
theorem ckl_X6_90 : Cond.classLink RX6 90 "java/lang/IllegalStateException" ∈ TB := (TB_3 19 rfl rfl)
set_option maxRecDepth 100000 in
theorem ck_X6_222 : CK RX6 222 7 := ⟨RX5, TX5, 3, rfl, (TB_3 55 rfl rfl)⟩
set_option maxRecDepth 100000 in
theorem ckl_X6_222 : Cond.classLink RX6 222 "TrackNights$Work" ∈ TB := (TB_3 55 rfl rfl)
set_option maxRecDepth 100000 in
theorem ck_X1_15 : CK RX1 15 6 := ⟨RX4, TX4, 3, rfl, (TB_3 78 rfl rfl)⟩
set_option maxRecDepth 100000 in
theorem ckl_X1_15 : Cond.classLink RX1 15 "TrackNights$Values" ∈ TB := (TB_3 78 rfl rfl)
set_option maxRecDepth 100000 in
theorem ckl_J7_110 : Cond.classLink RJ7 110 "[Ljava/lang/Object;" ∈ TB := (TB_3 147 rfl rfl)
set_option maxRecDepth 100000 in
theorem ckl_J7_2 : Cond.classLink RJ7 2 "java/lang/Object" ∈ TB := (TB_3 149 rfl rfl)
set_option maxRecDepth 100000 in
theorem ckl_Jx4a65c_7 : Cond.classLink RJx4a65c 7 "java/lang/Object" ∈ TB := (TB_3 155 rfl rfl)
set_option maxRecDepth 100000 in
theorem ck_X2_9 : CK RX2 9 1 := ⟨RJx4a65c, TJx4a65c, 3, rfl, (TB_3 230 rfl rfl)⟩
set_option maxRecDepth 100000 in
theorem ckl_X2_9 : Cond.classLink RX2 9 "java/util/ArrayList" ∈ TB := (TB_3 230 rfl rfl)
set_option maxRecDepth 100000 in
theorem ck_L_103 : CK RL 103 9 := ⟨RX7, TX7, 12, rfl, (TB_4 191 rfl rfl)⟩
set_option maxRecDepth 100000 in
theorem ckl_L_103 : Cond.classLink RL 103 "TrackNightsModel" ∈ TB := (TB_4 191 rfl rfl)
set_option maxRecDepth 100000 in
theorem ckl_X7_9 : Cond.classLink RX7 9 "[[I" ∈ TB := (TB_4 197 rfl rfl)
set_option maxRecDepth 100000 in
theorem ck_X7_14 : CK RX7 14 1 := ⟨RJx4a65c, TJx4a65c, 3, rfl, (TB_4 199 rfl rfl)⟩
set_option maxRecDepth 100000 in
theorem ckl_X7_14 : Cond.classLink RX7 14 "java/util/ArrayList" ∈ TB := (TB_4 199 rfl rfl)
set_option maxRecDepth 100000 in
theorem ck_Jx4a65c_267 : CK RJx4a65c 267 0 := ⟨RJx35411, TJx35411, 4, rfl, (TB_5 36 rfl rfl)⟩
set_option maxRecDepth 100000 in
theorem ckl_Jx4a65c_267 : Cond.classLink RJx4a65c 267 "java/util/ArrayList$Itr" ∈ TB := (TB_5 36 rfl rfl)
set_option maxRecDepth 100000 in
theorem ckl_X7_56 : Cond.classLink RX7 56 "[I" ∈ TB := (TB_5 78 rfl rfl)
set_option maxRecDepth 100000 in
theorem ml_L_106 : Cond.methodLink RL 106 ⟨"TrackNightsLaw", "curve", "(LTrackNights;IZ[J)I"⟩ ∈ TB := (TB_2 232 rfl rfl)
set_option maxRecDepth 100000 in
theorem ml_L_116 : Cond.methodLink RL 116 ⟨"TrackNightsLaw", "sign", "(LTrackNights;II[J)I"⟩ ∈ TB := (TB_3 0 rfl rfl)
set_option maxRecDepth 100000 in
theorem ml_L_120 : Cond.methodLink RL 120 ⟨"TrackNightsLaw", "pass", "(LTrackNights;III[J)I"⟩ ∈ TB := (TB_3 9 rfl rfl)
set_option maxRecDepth 100000 in
theorem ml_L_124 : Cond.methodLink RL 124 ⟨"TrackNightsLaw", "measure", "(LTrackNights;IIII[J)I"⟩ ∈ TB := (TB_3 65 rfl rfl)
set_option maxRecDepth 100000 in
theorem ml_J7_86 : Cond.methodLink RJ7 86 ⟨"java/lang/Object", "getClass", "()Ljava/lang/Class;"⟩ ∈ TB := (TB_3 127 rfl rfl)
set_option maxRecDepth 100000 in
theorem ml_J7_150 : Cond.methodLink RJ7 150 ⟨"java/lang/System", "arraycopy", "(Ljava/lang/Object;ILjava/lang/Object;II)V"⟩ ∈ TB := (TB_3 151 rfl rfl)
set_option maxRecDepth 100000 in
theorem ml_L_128 : Cond.methodLink RL 128 ⟨"TrackNightsLaw", "align", "(LTrackNights;I[J)I"⟩ ∈ TB := (TB_3 156 rfl rfl)
set_option maxRecDepth 100000 in
theorem ml_L_132 : Cond.methodLink RL 132 ⟨"TrackNightsLaw", "machine", "(LTrackNights;II[J)I"⟩ ∈ TB := (TB_3 165 rfl rfl)
set_option maxRecDepth 100000 in
theorem ml_L_135 : Cond.methodLink RL 135 ⟨"TrackNightsLaw", "service", "(LTrackNights;I[J)I"⟩ ∈ TB := (TB_3 198 rfl rfl)
set_option maxRecDepth 100000 in
theorem ml_L_138 : Cond.methodLink RL 138 ⟨"TrackNightsLaw", "book", "(LTrackNights;IIIII[J)I"⟩ ∈ TB := (TB_3 214 rfl rfl)
set_option maxRecDepth 100000 in
theorem ml_L_142 : Cond.methodLink RL 142 ⟨"TrackNightsLaw", "work", "(LTrackNights;III[J)I"⟩ ∈ TB := (TB_4 31 rfl rfl)
set_option maxRecDepth 100000 in
theorem ml_L_145 : Cond.methodLink RL 145 ⟨"TrackNightsLaw", "cancel", "(LTrackNights;I[J)I"⟩ ∈ TB := (TB_4 75 rfl rfl)
set_option maxRecDepth 100000 in
theorem ml_L_148 : Cond.methodLink RL 148 ⟨"TrackNightsLaw", "mark", "(LTrackNights;II[J)I"⟩ ∈ TB := (TB_4 82 rfl rfl)
set_option maxRecDepth 100000 in
theorem ml_L_151 : Cond.methodLink RL 151 ⟨"TrackNightsLaw", "take", "(LTrackNights;I[J)I"⟩ ∈ TB := (TB_4 100 rfl rfl)
set_option maxRecDepth 100000 in
theorem ml_L_154 : Cond.methodLink RL 154 ⟨"TrackNightsLaw", "giveBack", "(LTrackNights;I[J)I"⟩ ∈ TB := (TB_4 108 rfl rfl)
set_option maxRecDepth 100000 in
theorem ml_L_157 : Cond.methodLink RL 157 ⟨"TrackNightsLaw", "walk", "(LTrackNights;II[J)I"⟩ ∈ TB := (TB_4 116 rfl rfl)
set_option maxRecDepth 100000 in
theorem ml_L_160 : Cond.methodLink RL 160 ⟨"TrackNightsLaw", "ofSection", "(LTrackNights;II[J)I"⟩ ∈ TB := (TB_4 135 rfl rfl)
set_option maxRecDepth 100000 in
theorem ml_L_163 : Cond.methodLink RL 163 ⟨"TrackNightsLaw", "known", "(LTrackNights;II[J)I"⟩ ∈ TB := (TB_4 139 rfl rfl)
set_option maxRecDepth 100000 in
theorem ml_L_166 : Cond.methodLink RL 166 ⟨"TrackNightsLaw", "why", "(LTrackNights;IZ[J)I"⟩ ∈ TB := (TB_4 143 rfl rfl)
set_option maxRecDepth 100000 in
theorem ml_L_169 : Cond.methodLink RL 169 ⟨"TrackNightsLaw", "ofMachine", "(LTrackNights;II[J)I"⟩ ∈ TB := (TB_4 147 rfl rfl)
set_option maxRecDepth 100000 in
theorem ml_L_172 : Cond.methodLink RL 172 ⟨"TrackNightsLaw", "ofPossession", "(LTrackNights;II[J)I"⟩ ∈ TB := (TB_4 151 rfl rfl)
set_option maxRecDepth 100000 in
theorem ml_L_175 : Cond.methodLink RL 175 ⟨"TrackNightsLaw", "many", "(LTrackNights;I[J)I"⟩ ∈ TB := (TB_4 155 rfl rfl)
set_option maxRecDepth 100000 in
theorem ml_L_178 : Cond.methodLink RL 178 ⟨"TrackNightsLaw", "meanWear", "(LTrackNights;I[D)I"⟩ ∈ TB := (TB_4 159 rfl rfl)
set_option maxRecDepth 100000 in
theorem ml_L_182 : Cond.methodLink RL 182 ⟨"TrackNightsLaw", "couldSee", "(LTrackNights;I[J)I"⟩ ∈ TB := (TB_4 167 rfl rfl)
set_option maxRecDepth 100000 in
theorem ml_L_185 : Cond.methodLink RL 185 ⟨"TrackNightsLaw", "firstRisk", "(LTrackNights;II[J)I"⟩ ∈ TB := (TB_4 171 rfl rfl)
set_option maxRecDepth 100000 in
theorem ml_L_188 : Cond.methodLink RL 188 ⟨"TrackNightsLaw", "bestWork", "(LTrackNights;III[J)I"⟩ ∈ TB := (TB_4 175 rfl rfl)
set_option maxRecDepth 100000 in
theorem ml_L_191 : Cond.methodLink RL 191 ⟨"TrackNightsLaw", "freeDay", "(LTrackNights;III[J)I"⟩ ∈ TB := (TB_4 179 rfl rfl)
set_option maxRecDepth 100000 in
theorem ml_L_194 : Cond.methodLink RL 194 ⟨"TrackNightsLaw", "wouldOverrun", "(LTrackNights;I[J)I"⟩ ∈ TB := (TB_4 183 rfl rfl)
set_option maxRecDepth 100000 in
theorem lk_X7_83 : LkF RX7 83 itN yJx35411_hasNext_aae02 cJx35411_hasNext_aae02 1 (some .boolean) := ⟨(TB_5 56 rfl rfl), (TB_5 60 rfl rfl), (TB_5 62 rfl rfl), (TB_1 17 rfl rfl), (TB_5 64 rfl rfl), Or.inl ⟨rfl, rfl⟩⟩
set_option maxRecDepth 100000 in
theorem lk_X7_89 : LkF RX7 89 itX yJx35411_next_0502b cJx35411_next_0502b 3 (some (.object "java/lang/Object")) := ⟨(TB_5 66 rfl rfl), (TB_5 69 rfl rfl), (TB_5 71 rfl rfl), (TB_1 17 rfl rfl), (TB_5 73 rfl rfl), Or.inr ⟨rfl, rfl⟩⟩
set_option maxRecDepth 100000 in
theorem ml_X7_58 : Cond.methodLink RX7 58 ⟨"java/lang/System", "arraycopy", "(Ljava/lang/Object;ILjava/lang/Object;II)V"⟩ ∈ TB := (TB_5 211 rfl rfl)
set_option maxRecDepth 100000 in
theorem ml_X7_199 : Cond.methodLink RX7 199 ⟨"[I", "clone", "()Ljava/lang/Object;"⟩ ∈ TB := (TB_6 24 rfl rfl)
set_option maxRecDepth 100000 in
theorem kc_J8_200 : Cond.constant RJ8 200 (2147483639) ∈ TB := (TB_3 120 rfl rfl)
set_option maxRecDepth 100000 in
theorem kc_J6_265 : Cond.constant RJ6 265 (1431655765) ∈ TB := (TB_5 168 rfl rfl)
set_option maxRecDepth 100000 in
theorem kc_J6_266 : Cond.constant RJ6 266 (858993459) ∈ TB := (TB_5 169 rfl rfl)
set_option maxRecDepth 100000 in
theorem kc_J6_267 : Cond.constant RJ6 267 (252645135) ∈ TB := (TB_5 170 rfl rfl)
set_option maxRecDepth 100000 in
theorem kc_X6_378 : Cond.constantLong RX6 378 (4809) ∈ TB := (TB_1 162 rfl rfl)
set_option maxRecDepth 100000 in
theorem kc_X6_380 : Cond.constantLong RX6 380 (31) ∈ TB := (TB_1 163 rfl rfl)
set_option maxRecDepth 100000 in
theorem kc_X7_222 : Cond.constantLong RX7 222 (4809) ∈ TB := (TB_6 58 rfl rfl)
set_option maxRecDepth 100000 in
theorem kc_X7_220 : Cond.constantLong RX7 220 (31) ∈ TB := (TB_6 63 rfl rfl)
set_option maxRecDepth 100000 in
theorem kc_X6_338 : Cond.constantDouble RX6 338 (4621819117588971520) ∈ TB := (TB_4 166 rfl rfl)
set_option maxRecDepth 100000 in
theorem kc_X7_194 : Cond.constantDouble RX7 194 (4621819117588971520) ∈ TB := (TB_6 7 rfl rfl)
