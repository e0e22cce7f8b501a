def mn (x y : Int32) : Int32 := if y < x then y else x
def mx (x y : Int32) : Int32 := if x < y then y else x
/-! the world as a list, so that every row of the kit serves; further rows -/
def wls (w : Wd) (n : Nat) : va_W := (List.range n).filterMap (fun a => (w a).map (fun x => (a, x.2)))
theorem wls_mem {w : Wd} {n a : Nat} {e : va_E} : (a, e) ∈ wls w n ↔ a < n ∧ ∃ t, w a = some (t, e) := by
  unfold wls
  rw [List.mem_filterMap]
  constructor
  · rintro ⟨b, hb, h⟩
    rw [List.mem_range] at hb
    cases hw : w b with
    | none => rw [hw] at h; cases h
    | some x =>
      rw [hw] at h
      have h2 : (b, x.2) = (a, e) := Option.some.inj h
      have h3 : b = a := congrArg Prod.fst h2
      subst h3
      exact ⟨hb, x.1, by rw [hw]; exact congrArg some (Prod.ext rfl (show x.2 = e from congrArg (fun z : Nat × va_E => z.2) h2))⟩
  · rintro ⟨ha, t, h⟩
    exact ⟨a, List.mem_range.mpr ha, by rw [h]; rfl⟩
theorem wls_P {Γ : Gw} {w : Wd} {H : Heap} (hP : wPic Γ w H) : va_P Γ.1 vwCl (wls w H.size) H := by
  intro k q hk
  obtain ⟨a, e⟩ := q
  obtain ⟨-, t, h⟩ := wls_mem.mp (List.mem_of_getElem? hk)
  exact (hP a _ h).2
theorem wls_fst (w : Wd) (n : Nat) : (wls w n).map Prod.fst = (List.range n).filter (fun a => (w a).isSome) := by
  unfold wls
  induction List.range n with
  | nil => rfl
  | cons a l ih =>
    rw [List.filterMap_cons, List.filter_cons]
    cases hw : w a with
    | none => simpa using ih
    | some x => simpa using ih
theorem wls_D {Γ : Gw} {w : Wd} {H : Heap} (hP : wPic Γ w H) : va_D (n0A Γ) (wls w H.size) := by
  refine ⟨fun i j p q hi hj he => ?_, fun k q hk => ?_⟩
  · have hn : ((wls w H.size).map Prod.fst).Nodup := by
      rw [wls_fst]
      exact List.Pairwise.filter _ List.nodup_range
    have h1 : ((wls w H.size).map Prod.fst)[i]? = some p.1 := by rw [List.getElem?_map, hi]; rfl
    have h2 : ((wls w H.size).map Prod.fst)[j]? = some p.1 := by rw [List.getElem?_map, hj, he]; rfl
    obtain ⟨l1, e1⟩ := List.getElem?_eq_some_iff.mp h1
    obtain ⟨l2, e2⟩ := List.getElem?_eq_some_iff.mp h2
    have hpw := List.pairwise_iff_getElem.mp hn
    rcases Nat.lt_trichotomy i j with q | q | q
    · exact absurd (e1.trans e2.symm) (hpw i j l1 l2 q)
    · exact q
    · exact absurd (e2.trans e1.symm) (hpw j i l2 l1 q)
  · obtain ⟨a, e⟩ := q
    obtain ⟨-, t, h⟩ := wls_mem.mp (List.mem_of_getElem? hk)
    exact (hP a _ h).1
theorem wls_get {Γ : Gw} {w : Wd} {H : Heap} (hP : wPic Γ w H) {a : Nat} {t : Tg} {e : va_E} (h : w a = some (t, e)) : ∃ k : Nat, (wls w H.size)[k]? = some (a, e) := List.getElem?_of_mem (wls_mem.mpr ⟨hP.lt h, t, h⟩)
theorem wls_set {Γ : Gw} {w : Wd} {H H1 : Heap} (hP : wPic Γ w H) {a k : Nat} {t : Tg} {e e2 : va_E} (hk : (wls w H.size)[k]? = some (a, e)) (h1 : va_P Γ.1 vwCl ((wls w H.size).set k (a, e2)) H1) : wPic Γ (wup w a (t, e2)) H1 := by
  intro b y hb
  have hl := (List.getElem?_eq_some_iff.mp hk).1
  by_cases hq : b = a
  · subst hq
    rw [wup_s] at hb
    cases hb
    obtain ⟨-, t2, h2⟩ := wls_mem.mp (List.mem_of_getElem? hk)
    exact ⟨(hP b _ h2).1, h1 k (b, e2) (List.getElem?_set_self hl)⟩
  · rw [wup_n hq] at hb
    obtain ⟨i, hi⟩ := wls_get hP (t := y.1) (e := y.2) hb
    have hik : k ≠ i := by
      intro q
      subst q
      have := hk.symm.trans hi
      exact hq (congrArg Prod.fst (Option.some.inj this)).symm
    exact ⟨(hP b _ hb).1, h1 i (b, y.2) (by rw [List.getElem?_set_ne hik]; exact hi)⟩
theorem wls_app {Γ : Gw} {w : Wd} {H H1 : Heap} (hP : wPic Γ w H) {q : Nat} {t : Tg} {e : va_E} (h1 : va_P Γ.1 vwCl (wls w H.size ++ [(q, e)]) H1) (hD : va_D (n0A Γ) (wls w H.size ++ [(q, e)])) : w q = none ∧ n0A Γ q ∧ wPic Γ (wup w q (t, e)) H1 := by
  have hlast : (wls w H.size ++ [(q, e)])[(wls w H.size).length]? = some (q, e) := by simp
  have hnone : w q = none := by
    cases hw : w q with
    | none => rfl
    | some x =>
      obtain ⟨i, hi⟩ := wls_get hP (t := x.1) (e := x.2) hw
      have hil := (List.getElem?_eq_some_iff.mp hi).1
      have := hD.1 i _ (q, x.2) (q, e) (by rw [List.getElem?_append_left hil]; exact hi) hlast rfl
      omega
  refine ⟨hnone, hD.2 _ _ hlast, fun b y hb => ?_⟩
  by_cases hq : b = q
  · subst hq
    rw [wup_s] at hb
    cases hb
    exact ⟨hD.2 _ _ hlast, h1 _ (b, e) hlast⟩
  · rw [wup_n hq] at hb
    obtain ⟨i, hi⟩ := wls_get hP (t := y.1) (e := y.2) hb
    exact ⟨(hP b _ hb).1, h1 i (b, y.2) (by rw [List.getElem?_append_left (List.getElem?_eq_some_iff.mp hi).1]; exact hi)⟩
def CK (own : String) (idx ci : Nat) : Prop := ∃ (C : String) (T : u_T) (N : Nat), vwCl[ci]? = some (C, T, N) ∧ Cond.classLink own idx C ∈ TB
/-- what may stand in an Object[] -/
def OkE (K : Nat → ClassId) (e : va_E) : Prop := (∃ (ci : Nat) (vs : List Value) (C : String) (T : u_T) (N : Nat), e = .inr (ci, vs) ∧ vwCl[ci]? = some (C, T, N) ∧ Cond.castable C "java/lang/Object" ∈ NB) ∨ (∃ (n : Nat) (f : Nat → Int32), e = .inl (K 0, n, .inl f) ∧ Cond.castable "[I" "java/lang/Object" ∈ NB)
theorem oke_any {Γ : Gw} {s : State} {H : Heap} {w : Wd} {v : Nat} {tv : Tg} {e : va_E} (hE : EV Γ s s.heap) (hP : wPic Γ w H) (hx : w v = some (tv, e)) (h : OkE Γ.2.1 e) : va_Any "java/lang/Object" s H v := by
  rcases h with ⟨ci, vs, C, T, N, rfl, hc, hcw⟩ | ⟨n, f, rfl, hcw⟩
  · obtain ⟨r, hr9, cellV, g1, g2, g3, -⟩ := (hP v _ hx).2
    cases hr9.symm.trans hc
    have hcls := (hE.1.1 ci _ hc).2
    obtain ⟨kC, hkC, -⟩ := id hcls.2
    refine ⟨cellV, g1, by rw [g3]; rfl, ⟨kC, by rw [g2]; exact hkC⟩, fun comp hcomp => ?_⟩
    obtain ⟨c0, t1, f1, f2, f3⟩ := Cond.castable_spec (va_Nw.use (A := #[]) rfl (hE.2.1 _ hcw))
    cases hcls.1.symm.trans f1
    cases hcomp.symm.trans f2
    rw [g2]
    exact f3
  · have g1 := (hP v _ hx).2
    have hra : s.vm.findClass "[I" = some (Γ.2.1 0) := (hE.1.2 0 _ rfl).2
    obtain ⟨-, k0, hk0, -, -⟩ := (hE.1.2 0 _ rfl).1 n (fun j => .int (f j))
    refine ⟨_, g1, rfl, ⟨k0, hk0⟩, fun comp hcomp => ?_⟩
    obtain ⟨c0, t1, f1, f2, f3⟩ := Cond.castable_spec (va_Nw.use (A := #[]) rfl (hE.2.1 _ hcw))
    cases hra.symm.trans f1
    cases hcomp.symm.trans f2
    exact f3
set_option maxRecDepth 100000 in
theorem ac_int : Cond.arrayClass (newarray.typeOf .int) ∈ TB := (TB_4 109 rfl rfl)
set_option maxRecDepth 100000 in
theorem ay_n : Cond.native arraycopyName ∈ TB := (TB_2 232 rfl rfl)
set_option maxRecDepth 100000 in
theorem ay_s : Cond.static arraycopyName ∈ TB := (TB_2 231 rfl rfl)
set_option maxRecDepth 100000 in
theorem ay_i : Cond.initialized "java/lang/System" ∈ TB := (TB_1 19 rfl rfl)
set_option maxRecDepth 100000 in
theorem gc_x : Cond.selects "[Ljava/lang/Object;" ⟨"java/lang/Object", "getClass", "()Ljava/lang/Class;"⟩ ⟨"java/lang/Object", "getClass", "()Ljava/lang/Class;"⟩ ∈ TB := (TB_4 128 rfl rfl)
set_option maxRecDepth 100000 in
theorem gc_i : Cond.instanceMethod ⟨"java/lang/Object", "getClass", "()Ljava/lang/Class;"⟩ ∈ TB := (TB_2 209 rfl rfl)
set_option maxRecDepth 100000 in
theorem gc_n : Cond.native ⟨"java/lang/Object", "getClass", "()Ljava/lang/Class;"⟩ ∈ TB := (TB_2 222 rfl rfl)
set_option maxRecDepth 100000 in
theorem ok_I : Cond.castable "[I" "java/lang/Object" ∈ NB := (NB_4 134 rfl rfl)
theorem x_castC {g : Cxt} {cc : ByteArray} {own nm : String} {rt : Option FieldType} {rm : Room} (hG : Cx g cc own nm rt rm) {w : Wd} {kc ks pc : Nat} {lv : List (Option Value)} {st : List Value} {idx ci a : Nat} {t : Tg} {fs : List Value} (hL : CK own idx ci) (he : w a = some (t, .inr (ci, fs))) (hd : decode cc pc = .ok (.checkcast idx, 3)) (k : X g w kc ks (pc + 3) lv (.ref a :: st)) : X g w kc ks pc lv (.ref a :: st) := by
  obtain ⟨p, l, e, R, s, m, args, below, meth, c, Γ, nL, mc, ms, post, xpost⟩ := g
  obtain ⟨hF, hr, hlk, hE, hsl, rfl, hmc, hms, hnm⟩ := hG
  intro H locs ls hP hS hv
  obtain ⟨C, T, N, hc, hlink⟩ := hL
  exact va_castS hF.1 hF.2.1 hF.2.2.2.1 (hF.2.2.2.2 _ hlink) (hE.1.1 ci _ hc).2 (va_recv hE.1 (hP.one he) hc (q0 := 0) rfl) hd (k H locs ls hP hS hv)
theorem x_castO {g : Cxt} {cc : ByteArray} {own nm : String} {rt : Option FieldType} {rm : Room} (hG : Cx g cc own nm rt rm) {w : Wd} {kc ks pc : Nat} {lv : List (Option Value)} {st : List Value} {idx a : Nat} {t : Tg} {x : vp_A} (hL : Cond.classLink own idx "[Ljava/lang/Object;" ∈ TB) (he : w a = some (t, .inl (gK g 1, x))) (hd : decode cc pc = .ok (.checkcast idx, 3)) (k : X g w kc ks (pc + 3) lv (.ref a :: st)) : X g w kc ks pc lv (.ref a :: st) := by
  obtain ⟨p, l, e, R, s, m, args, below, meth, c, Γ, nL, mc, ms, post, xpost⟩ := g
  obtain ⟨hF, hr, hlk, hE, hsl, rfl, hmc, hms, hnm⟩ := hG
  intro H locs ls hP hS hv
  obtain ⟨kA, comp, k1, k2, k3, k4⟩ := (hE.1.2 1 _ rfl).2
  exact va_castA hF.1 hF.2.1 hF.2.2.2.1 (hF.2.2.2.2 _ hL) (hP.one he) 0 rfl k4 hd (k H locs ls hP hS hv)
theorem x_aastQ {g : Cxt} {cc : ByteArray} {own nm : String} {rt : Option FieldType} {rm : Room} (hG : Cx g cc own nm rt rm) {w : Wd} {kc ks pc : Nat} {lv : List (Option Value)} {st : List Value} {a n v : Nat} {t tv : Tg} {f : Nat → Option Nat} {ev : va_E} {i : Int32} (he : w a = some (t, .inl (gK g 1, n, .inr (.inr (.inr (.inr f)))))) (hx : w v = some (tv, ev)) (hca : OkE (gK g) ev) (hin : vp_in i n) (hd : decode cc pc = .ok (.aastore, 1)) (k : X g (wup w a (t, .inl (gK g 1, n, .inr (.inr (.inr (.inr (va_up f i.toNatClampNeg (some v)))))))) kc ks (pc + 1) lv st) : X g w kc ks pc lv (.ref v :: .int i :: .ref a :: st) := by
  obtain ⟨p, l, e, R, s, m, args, below, meth, c, Γ, nL, mc, ms, post, xpost⟩ := g
  obtain ⟨hF, hr, hlk, hE, hsl, rfl, hmc, hms, hnm⟩ := hG
  intro H locs ls hP hS hv
  obtain ⟨q0, h0⟩ := wls_get hP he
  exact va_astqM hF.1 hF.2.1 hE.1 (wls_P hP) (wls_D hP) hS q0 1 h0 rfl (oke_any hE hP hx hca) hin hd (fun H1 locs1 p1 _ s1 => k H1 locs1 ls (wls_set hP h0 p1) s1 hv)
theorem x_gete0 {g : Cxt} {cc : ByteArray} {own nm : String} {rt : Option FieldType} {rm : Room} (hG : Cx g cc own nm rt rm) {w : Wd} {kc ks pc : Nat} {lv : List (Option Value)} {st : List Value} {idx : Nat} (hL : Cond.fieldLink own idx "java/util/ArrayList" "DEFAULTCAPACITY_EMPTY_ELEMENTDATA" "[Ljava/lang/Object;" ∈ TB) (hd : decode cc pc = .ok (.getstatic idx, 3)) (k : X g w kc ks (pc + 3) lv (.ref (gΓ g).2.2.2.1 :: st)) : X g w kc ks pc lv st := by
  obtain ⟨p, l, e, R, s, m, args, below, meth, c, Γ, nL, mc, ms, post, xpost⟩ := g
  obtain ⟨hF, hr, hlk, hE, hsl, rfl, hmc, hms, hnm⟩ := hG
  intro H locs ls hP hS hv
  exact va_gets hF.1 hF.2.1 hE.2.2.2.2.2.1 hS hF.2.2.2.1 (hF.2.2.2.2 _ hL) (fun _ h => h) hd (k H locs ls hP hS hv)
theorem x_len0 {g : Cxt} {cc : ByteArray} {own nm : String} {rt : Option FieldType} {rm : Room} (hG : Cx g cc own nm rt rm) {w : Wd} {kc ks pc : Nat} {lv : List (Option Value)} {st : List Value} (hd : decode cc pc = .ok (.arraylength, 1)) (k : X g w kc ks (pc + 1) lv (.int 0 :: st)) : X g w kc ks pc lv (.ref (gΓ g).2.2.2.1 :: st) := by
  obtain ⟨p, l, e, R, s, m, args, below, meth, c, Γ, nL, mc, ms, post, xpost⟩ := g
  obtain ⟨hF, hr, hlk, hE, hsl, rfl, hmc, hms, hnm⟩ := hG
  intro H locs ls hP hS hv
  exact va_tlen hF.1 hF.2.1 hE.2.2.2.2.2.2.1 hS rfl hd (k H locs ls hP hS hv)
theorem x_newI {g : Cxt} {cc : ByteArray} {own nm : String} {rt : Option FieldType} {rm : Room} (hG : Cx g cc own nm rt rm) {w : Wd} {kc ks pc : Nat} {lv : List (Option Value)} {st : List Value} {n : Nat} {i : Int32} (t : Tg) (h0 : ¬ i < 0) (hi : i.toNatClampNeg = n) (hb : n ≤ 60000000) (hd : decode cc pc = .ok (.newarray .int, 2)) (hkc : kc + 1 ≤ gM g) (hks : ks + n ≤ gN g) (k : ∀ q : Nat, w q = none → n0A (gΓ g) q → X g (wup w q (t, .inl (gK g 0, n, .inl (fun _ => 0)))) (kc + 1) (ks + n) (pc + 2) lv (.ref q :: st)) : X g w kc ks pc lv (.int i :: st) := by
  obtain ⟨p, l, e, R, s, m, args, below, meth, c, Γ, nL, mc, ms, post, xpost⟩ := g
  obtain ⟨hF, hr, hlk, hE, hsl, rfl, hmc, hms, hnm⟩ := hG
  intro H locs ls hP hS hv
  have h00 : Γ.2.2.1 ≤ H.size := Nat.le_trans hE.2.2.2.2.2.2.2.1 hS.1
  refine va_newa (atype := .int) (ty := .int) (a0 := (n, .inl (fun _ => 0))) hF.1 hF.2.1 (hF.2.2.2.2 _ ac_int) rfl hE.1 (wls_P hP) (wls_D hP) hS (fun q hq => Nat.le_trans hE.2.2.2.2.2.2.2.1 hq) (fun cA => rfl) h0 hi (by show n * 4 ≤ _; omega) (by rw [hmc]; exact hkc) (by rw [hms]; exact hks) hd (fun q cA H1 hK1 p1 d1 s1 => ?_)
  have hcA : cA = Γ.2.1 0 := Option.some.inj ((hK1.2 5 _ rfl).2.symm.trans (hE.1.2 0 _ rfl).2)
  subst hcA
  obtain ⟨g1, g2, g3⟩ := wls_app (t := t) hP p1 d1
  exact k q g1 g2 H1 locs ls g3 s1 hv
theorem x_newO {g : Cxt} {cc : ByteArray} {own nm : String} {rt : Option FieldType} {rm : Room} (hG : Cx g cc own nm rt rm) {w : Wd} {kc ks pc : Nat} {lv : List (Option Value)} {st : List Value} {n idx : Nat} {i : Int32} (t : Tg) (hL : Cond.classLink own idx "java/lang/Object" ∈ TB) (h0 : ¬ i < 0) (hi : i.toNatClampNeg = n) (hb : n ≤ 60000000) (hd : decode cc pc = .ok (.anewarray idx, 3)) (hkc : kc + 1 ≤ gM g) (hks : ks + n ≤ gN g) (k : ∀ q : Nat, w q = none → n0A (gΓ g) q → X g (wup w q (t, .inl (gK g 1, n, .inr (.inr (.inr (.inr (fun _ => none))))))) (kc + 1) (ks + n) (pc + 3) lv (.ref q :: st)) : X g w kc ks pc lv (.int i :: st) := by
  obtain ⟨p, l, e, R, s, m, args, below, meth, c, Γ, nL, mc, ms, post, xpost⟩ := g
  obtain ⟨hF, hr, hlk, hE, hsl, rfl, hmc, hms, hnm⟩ := hG
  intro H locs ls hP hS hv
  refine va_newq hF.1 hF.2.1 hF.2.2.2.1 (hF.2.2.2.2 _ hL) hE.2.2.2.2.2.2.2.2.2.2.1 hE.1 (wls_P hP) (wls_D hP) hS (fun q hq => Nat.le_trans hE.2.2.2.2.2.2.2.1 hq) h0 hi (by omega) (by rw [hmc]; exact hkc) (by rw [hms]; exact hks) hd (fun q cA H1 hK1 p1 d1 s1 => ?_)
  obtain ⟨_, _, _, _, _, k4⟩ := (hK1.2 5 _ rfl).2
  obtain ⟨_, _, _, _, _, k5⟩ := (hE.1.2 1 _ rfl).2
  have hcA : cA = Γ.2.1 1 := Option.some.inj (k4.symm.trans k5)
  subst hcA
  obtain ⟨g1, g2, g3⟩ := wls_app (t := t) hP p1 d1
  exact k q g1 g2 H1 locs ls g3 s1 hv
theorem x_newS {g : Cxt} {cc : ByteArray} {own nm : String} {rt : Option FieldType} {rm : Room} (hG : Cx g cc own nm rt rm) {w : Wd} {kc ks pc : Nat} {lv : List (Option Value)} {st : List Value} {n idx : Nat} {i : Int32} (t : Tg) (hL : Cond.classLink own idx "TrackNights$Section" ∈ TB) (h0 : ¬ i < 0) (hi : i.toNatClampNeg = n) (hb : n ≤ 60000000) (hd : decode cc pc = .ok (.anewarray idx, 3)) (hkc : kc + 1 ≤ gM g) (hks : ks + n ≤ gN g) (k : ∀ q : Nat, w q = none → n0A (gΓ g) q → X g (wup w q (t, .inl (gK g 2, n, .inr (.inr (.inr (.inr (fun _ => none))))))) (kc + 1) (ks + n) (pc + 3) lv (.ref q :: st)) : X g w kc ks pc lv (.int i :: st) := by
  obtain ⟨p, l, e, R, s, m, args, below, meth, c, Γ, nL, mc, ms, post, xpost⟩ := g
  obtain ⟨hF, hr, hlk, hE, hsl, rfl, hmc, hms, hnm⟩ := hG
  intro H locs ls hP hS hv
  refine va_newq hF.1 hF.2.1 hF.2.2.2.1 (hF.2.2.2.2 _ hL) hE.2.2.2.2.2.2.2.2.1 hE.1 (wls_P hP) (wls_D hP) hS (fun q hq => Nat.le_trans hE.2.2.2.2.2.2.2.1 hq) h0 hi (by omega) (by rw [hmc]; exact hkc) (by rw [hms]; exact hks) hd (fun q cA H1 hK1 p1 d1 s1 => ?_)
  obtain ⟨_, _, _, _, _, k4⟩ := (hK1.2 5 _ rfl).2
  obtain ⟨_, _, _, _, _, k5⟩ := (hE.1.2 2 _ rfl).2
  have hcA : cA = Γ.2.1 2 := Option.some.inj (k4.symm.trans k5)
  subst hcA
  obtain ⟨g1, g2, g3⟩ := wls_app (t := t) hP p1 d1
  exact k q g1 g2 H1 locs ls g3 s1 hv
theorem x_newV {g : Cxt} {cc : ByteArray} {own nm : String} {rt : Option FieldType} {rm : Room} (hG : Cx g cc own nm rt rm) {w : Wd} {kc ks pc : Nat} {lv : List (Option Value)} {st : List Value} {n idx : Nat} {i : Int32} (t : Tg) (hL : Cond.classLink own idx "TrackNights$Values" ∈ TB) (h0 : ¬ i < 0) (hi : i.toNatClampNeg = n) (hb : n ≤ 60000000) (hd : decode cc pc = .ok (.anewarray idx, 3)) (hkc : kc + 1 ≤ gM g) (hks : ks + n ≤ gN g) (k : ∀ q : Nat, w q = none → n0A (gΓ g) q → X g (wup w q (t, .inl (gK g 3, n, .inr (.inr (.inr (.inr (fun _ => none))))))) (kc + 1) (ks + n) (pc + 3) lv (.ref q :: st)) : X g w kc ks pc lv (.int i :: st) := by
  obtain ⟨p, l, e, R, s, m, args, below, meth, c, Γ, nL, mc, ms, post, xpost⟩ := g
  obtain ⟨hF, hr, hlk, hE, hsl, rfl, hmc, hms, hnm⟩ := hG
  intro H locs ls hP hS hv
  refine va_newq hF.1 hF.2.1 hF.2.2.2.1 (hF.2.2.2.2 _ hL) hE.2.2.2.2.2.2.2.2.2.1 hE.1 (wls_P hP) (wls_D hP) hS (fun q hq => Nat.le_trans hE.2.2.2.2.2.2.2.1 hq) h0 hi (by omega) (by rw [hmc]; exact hkc) (by rw [hms]; exact hks) hd (fun q cA H1 hK1 p1 d1 s1 => ?_)
  obtain ⟨_, _, _, _, _, k4⟩ := (hK1.2 5 _ rfl).2
  obtain ⟨_, _, _, _, _, k5⟩ := (hE.1.2 3 _ rfl).2
  have hcA : cA = Γ.2.1 3 := Option.some.inj (k4.symm.trans k5)
  subst hcA
  obtain ⟨g1, g2, g3⟩ := wls_app (t := t) hP p1 d1
  exact k q g1 g2 H1 locs ls g3 s1 hv
theorem x_copyO {g : Cxt} {cc : ByteArray} {own nm : String} {rt : Option FieldType} {rm : Room} (hG : Cx g cc own nm rt rm) {w : Wd} {kc ks pc : Nat} {lv : List (Option Value)} {st : List Value} {n0 n1 idx a a0 : Nat} {f f1 : Nat → Option Nat} {ta ta0 : Tg} {sp dp n : Int32} (hL : Cond.methodLink own idx arraycopyName ∈ TB) (he0 : w a0 = some (ta0, .inl (gK g 1, n0, .inr (.inr (.inr (.inr f)))))) (he : w a = some (ta, .inl (gK g 1, n1, .inr (.inr (.inr (.inr f1)))))) (h1 : ¬ sp < 0) (h2 : ¬ dp < 0) (h3 : ¬ n < 0) (h4 : sp.toNatClampNeg + n.toNatClampNeg ≤ n0) (h5 : dp.toNatClampNeg + n.toNatClampNeg ≤ n1) (hel : ∀ i : Nat, i < n.toNatClampNeg → ∀ y : Nat, f (sp.toNatClampNeg + i) = some y → ∃ (ty : Tg) (ey : va_E), w y = some (ty, ey) ∧ OkE (gK g) ey) (hd : decode cc pc = .ok (.invokestatic idx, 3)) (hRf : 1 ≤ rm.frames) (hRl : (st.map fun v => v.category).sum + (nativeFrameWords "java/lang/System" "arraycopy" 5 + 11) ≤ rm.locals) (k : X g (wup w a (ta, .inl (gK g 1, n1, .inr (.inr (.inr (.inr (va_cpy f f1 sp.toNatClampNeg dp.toNatClampNeg n.toNatClampNeg))))))) kc ks (pc + 3) lv st) : X g w kc ks pc lv (.int n :: .int dp :: .ref a :: .int sp :: .ref a0 :: st) := by
  obtain ⟨p, l, e, R, s, m, args, below, meth, c, Γ, nL, mc, ms, post, xpost⟩ := g
  obtain ⟨hF, hr, hlk, hE, hsl, rfl, hmc, hms, hnm⟩ := hG
  intro H locs ls hP hS hv
  obtain ⟨q0, e0⟩ := wls_get hP he0
  obtain ⟨q1, e1⟩ := wls_get hP he
  exact va_copyM hF.1 hF.2.1 (hF.2.2.1.trans hv.1.1.symm) hF.2.2.2.1 (hF.2.2.2.2 _ hL) (hF.2.2.2.2 _ ay_n) (hF.2.2.2.2 _ ay_s) (hF.2.2.2.2 _ ay_i) hE.1 (wls_P hP) (wls_D hP) hS q0 q1 1 1 e0 e1 rfl rfl h1 h2 h3 h4 h5 (fun i hi y hy => by obtain ⟨ty, ey, hw, hok⟩ := hel i hi y hy; exact oke_any hE hP hw hok) hRf hRl hd (fun H1 locs1 p1 _ s1 => k H1 locs1 ls (wls_set hP e1 p1) s1 hv)
theorem x_ldcM {g : Cxt} {cc : ByteArray} {own nm : String} {rt : Option FieldType} {rm : Room} (hG : Cx g cc own nm rt rm) {w : Wd} {kc ks pc : Nat} {lv : List (Option Value)} {st : List Value} {idx : Nat} (hL : Cond.classLink own idx "[Ljava/lang/Object;" ∈ TB) (hd : decode cc pc = .ok (.ldc idx, 2)) (k : X g w kc ks (pc + 2) lv (.ref (gΓ g).2.2.2.2 :: st)) : X g w kc ks pc lv st := by
  obtain ⟨p, l, e, R, s, m, args, below, meth, c, Γ, nL, mc, ms, post, xpost⟩ := g
  obtain ⟨hF, hr, hlk, hE, hsl, rfl, hmc, hms, hnm⟩ := hG
  intro H locs ls hP hS hv
  exact va_ldcM hF.1 hF.2.1 hF.2.2.2.1 (hF.2.2.2.2 _ hL) hE.2.2.2.2.2.2.2.2.2.2.2.2.2.2.1 hd (k H locs ls hP hS hv)
theorem x_getC {g : Cxt} {cc : ByteArray} {own nm : String} {rt : Option FieldType} {rm : Room} (hG : Cx g cc own nm rt rm) {w : Wd} {kc ks pc : Nat} {lv : List (Option Value)} {st : List Value} {idx a n : Nat} {f : Nat → Option Nat} {ta : Tg} (hL : Cond.methodLink own idx ⟨"java/lang/Object", "getClass", "()Ljava/lang/Class;"⟩ ∈ TB) (he : w a = some (ta, .inl (gK g 1, n, .inr (.inr (.inr (.inr f)))))) (hd : decode cc pc = .ok (.invokevirtual idx, 3)) (hRf : 1 ≤ rm.frames) (hRl : (st.map fun v => v.category).sum + 14 ≤ rm.locals) (k : X g w kc ks (pc + 3) lv (.ref (gΓ g).2.2.2.2 :: st)) : X g w kc ks pc lv (.ref a :: st) := by
  obtain ⟨p, l, e, R, s, m, args, below, meth, c, Γ, nL, mc, ms, post, xpost⟩ := g
  obtain ⟨hF, hr, hlk, hE, hsl, rfl, hmc, hms, hnm⟩ := hG
  intro H locs ls hP hS hv
  obtain ⟨kA, comp, k1, k2, k3, k4⟩ := (hE.1.2 1 _ rfl).2
  exact va_getC hF.1 hF.2.1 (hF.2.2.1.trans hv.1.1.symm) hF.2.2.2.1 (hF.2.2.2.2 _ hL) (va_Dc.use hE.2.2.2.2.2.2.2.2.2.2.2.2.2.2.2.1) (hF.2.2.2.2 _ gc_x) (hF.2.2.2.2 _ gc_i) (hF.2.2.2.2 _ gc_n) hE.2.2.2.2.2.2.2.2.2.2.2.2.2.2.1 ⟨_, (hP a _ he).2, rfl, k4⟩ hRf hRl hd (k H locs ls hP hS hv)
theorem x_mmin {g : Cxt} {cc : ByteArray} {own nm : String} {rt : Option FieldType} {rm : Room} (hG : Cx g cc own nm rt rm) {w : Wd} {kc ks pc : Nat} {lv : List (Option Value)} {st : List Value} {idx : Nat} {x y : Int32} (hL : LkS own idx yJ9_min_7cf53 cJ9_min_7cf53 2 (some .int) 2) (hd : decode cc pc = .ok (.invokestatic idx, 3)) (hRf : 1 ≤ rm.frames) (hRl : (st.map fun v => v.category).sum + 13 ≤ rm.locals) (hkc : kc ≤ gM g) (hks : ks ≤ gN g) (k : X g w kc ks (pc + 3) lv (.int (mn x y) :: st)) : X g w kc ks pc lv (.int y :: .int x :: st) := by
  obtain ⟨p, l, e, R, s, m, args, below, meth, c, Γ, nL, mc, ms, post, xpost⟩ := g
  obtain ⟨hF, hr, hlk, hE, hsl, rfl, hmc, hms, hnm⟩ := hG
  intro H locs ls hP hS hv
  obtain ⟨h1, h2, h4, h5, hy⟩ := hL
  exact va_mmin hF.1 hF.2.1 (hF.2.2.1.trans hv.1.1.symm) hF.2.2.2.1 (hF.2.2.2.2 _ h1) (hF.2.2.2.2 _ h2) (hF.2.2.2.2 _ h4) (hF.2.2.2.2 _ h5) hRf hRl (by rw [hmc]; exact hkc) (by rw [hms]; exact hks) hd (k H locs ls hP hS hv)
theorem x_mmax {g : Cxt} {cc : ByteArray} {own nm : String} {rt : Option FieldType} {rm : Room} (hG : Cx g cc own nm rt rm) {w : Wd} {kc ks pc : Nat} {lv : List (Option Value)} {st : List Value} {idx : Nat} {x y : Int32} (hL : LkS own idx yJ9_max_7cf53 cJ9_max_7cf53 2 (some .int) 2) (hd : decode cc pc = .ok (.invokestatic idx, 3)) (hRf : 1 ≤ rm.frames) (hRl : (st.map fun v => v.category).sum + 13 ≤ rm.locals) (hkc : kc ≤ gM g) (hks : ks ≤ gN g) (k : X g w kc ks (pc + 3) lv (.int (mx x y) :: st)) : X g w kc ks pc lv (.int y :: .int x :: st) := by
  obtain ⟨p, l, e, R, s, m, args, below, meth, c, Γ, nL, mc, ms, post, xpost⟩ := g
  obtain ⟨hF, hr, hlk, hE, hsl, rfl, hmc, hms, hnm⟩ := hG
  intro H locs ls hP hS hv
  obtain ⟨h1, h2, h4, h5, hy⟩ := hL
  exact va_mmax hF.1 hF.2.1 (hF.2.2.1.trans hv.1.1.symm) hF.2.2.2.1 (hF.2.2.2.2 _ h1) (hF.2.2.2.2 _ h2) (hF.2.2.2.2 _ h4) (hF.2.2.2.2 _ h5) hRf hRl (by rw [hmc]; exact hkc) (by rw [hms]; exact hks) hd (k H locs ls hP hS hv)
set_option maxRecDepth 100000 in
theorem ck_L_9 : CK RL 9 8 := ⟨RX6, TX6, 13, rfl, (TB_1 23 rfl rfl)⟩
set_option maxRecDepth 100000 in
theorem ckl_L_9 : Cond.classLink RL 9 "TrackNights" ∈ TB := (TB_1 23 rfl rfl)
set_option maxRecDepth 100000 in
theorem ck_X6_9 : CK RX6 9 5 := ⟨RX3, TX3, 5, rfl, (TB_1 31 rfl rfl)⟩
set_option maxRecDepth 100000 in
theorem ckl_X6_9 : Cond.classLink RX6 9 "TrackNights$Section" ∈ TB := (TB_1 31 rfl rfl)
set_option maxRecDepth 100000 in
theorem ck_X6_15 : CK RX6 15 1 := ⟨RJx4a65c, TJx4a65c, 3, rfl, (TB_1 33 rfl rfl)⟩
set_option maxRecDepth 100000 in
theorem ckl_X6_15 : Cond.classLink RX6 15 "java/util/ArrayList" ∈ TB := (TB_1 33 rfl rfl)
set_option maxRecDepth 100000 in
theorem ck_X6_28 : CK RX6 28 6 := ⟨RX4, TX4, 3, rfl, (TB_1 59 rfl rfl)⟩
set_option maxRecDepth 100000 in
theorem ckl_X6_28 : Cond.classLink RX6 28 "TrackNights$Values" ∈ TB := (TB_1 59 rfl rfl)
set_option maxRecDepth 100000 in
theorem ck_X3_9 : CK RX3 9 6 := ⟨RX4, TX4, 3, rfl, (TB_1 89 rfl rfl)⟩
set_option maxRecDepth 100000 in
theorem ckl_X3_9 : Cond.classLink RX3 9 "TrackNights$Values" ∈ TB := (TB_1 89 rfl rfl)
set_option maxRecDepth 100000 in
theorem ckl_X6_125 : Cond.classLink RX6 125 "java/lang/IndexOutOfBoundsException" ∈ TB := (TB_1 164 rfl rfl)
set_option maxRecDepth 100000 in
theorem ckl_X6_72 : Cond.classLink RX6 72 "java/lang/IllegalArgumentException" ∈ TB := (TB_1 236 rfl rfl)
set_option maxRecDepth 100000 in
theorem ckl_X6_90 : Cond.classLink RX6 90 "java/lang/IllegalStateException" ∈ TB := (TB_2 23 rfl rfl)
set_option maxRecDepth 100000 in
theorem ck_X6_176 : CK RX6 176 4 := ⟨RX2, TX2, 10, rfl, (TB_2 65 rfl rfl)⟩
set_option maxRecDepth 100000 in
theorem ckl_X6_176 : Cond.classLink RX6 176 "TrackNights$Possession" ∈ TB := (TB_2 65 rfl rfl)
set_option maxRecDepth 100000 in
theorem ck_X6_148 : CK RX6 148 2 := ⟨RX0, TX0, 4, rfl, (TB_2 74 rfl rfl)⟩
set_option maxRecDepth 100000 in
theorem ckl_X6_148 : Cond.classLink RX6 148 "TrackNights$Machine" ∈ TB := (TB_2 74 rfl rfl)
set_option maxRecDepth 100000 in
theorem ck_X2_55 : CK RX2 55 7 := ⟨RX5, TX5, 3, rfl, (TB_2 81 rfl rfl)⟩
set_option maxRecDepth 100000 in
theorem ckl_X2_55 : Cond.classLink RX2 55 "TrackNights$Work" ∈ TB := (TB_2 81 rfl rfl)
set_option maxRecDepth 100000 in
theorem ck_X6_222 : CK RX6 222 7 := ⟨RX5, TX5, 3, rfl, (TB_2 82 rfl rfl)⟩
set_option maxRecDepth 100000 in
theorem ckl_X6_222 : Cond.classLink RX6 222 "TrackNights$Work" ∈ TB := (TB_2 82 rfl rfl)
set_option maxRecDepth 100000 in
theorem ck_X6_110 : CK RX6 110 3 := ⟨RX1, TX1, 4, rfl, (TB_2 154 rfl rfl)⟩
set_option maxRecDepth 100000 in
theorem ckl_X6_110 : Cond.classLink RX6 110 "TrackNights$Measure" ∈ TB := (TB_2 154 rfl rfl)
set_option maxRecDepth 100000 in
theorem ck_X1_15 : CK RX1 15 6 := ⟨RX4, TX4, 3, rfl, (TB_2 160 rfl rfl)⟩
set_option maxRecDepth 100000 in
theorem ckl_X1_15 : Cond.classLink RX1 15 "TrackNights$Values" ∈ TB := (TB_2 160 rfl rfl)
set_option maxRecDepth 100000 in
theorem ckl_J7_110 : Cond.classLink RJ7 110 "[Ljava/lang/Object;" ∈ TB := (TB_2 226 rfl rfl)
set_option maxRecDepth 100000 in
theorem ckl_J7_2 : Cond.classLink RJ7 2 "java/lang/Object" ∈ TB := (TB_2 228 rfl rfl)
set_option maxRecDepth 100000 in
theorem ckl_Jx4a65c_7 : Cond.classLink RJx4a65c 7 "java/lang/Object" ∈ TB := (TB_2 234 rfl rfl)
set_option maxRecDepth 100000 in
theorem ck_X2_9 : CK RX2 9 1 := ⟨RJx4a65c, TJx4a65c, 3, rfl, (TB_3 46 rfl rfl)⟩
set_option maxRecDepth 100000 in
theorem ckl_X2_9 : Cond.classLink RX2 9 "java/util/ArrayList" ∈ TB := (TB_3 46 rfl rfl)
set_option maxRecDepth 100000 in
theorem ckl_L_109 : Cond.classLink RL 109 "java/lang/IllegalStateException" ∈ TB := (TB_4 53 rfl rfl)
set_option maxRecDepth 100000 in
theorem ckl_L_12 : Cond.classLink RL 12 "[[I" ∈ TB := (TB_4 111 rfl rfl)
set_option maxRecDepth 100000 in
theorem ml_J7_86 : Cond.methodLink RJ7 86 ⟨"java/lang/Object", "getClass", "()Ljava/lang/Class;"⟩ ∈ TB := (TB_2 208 rfl rfl)
set_option maxRecDepth 100000 in
theorem ml_J7_150 : Cond.methodLink RJ7 150 ⟨"java/lang/System", "arraycopy", "(Ljava/lang/Object;ILjava/lang/Object;II)V"⟩ ∈ TB := (TB_2 230 rfl rfl)
set_option maxRecDepth 100000 in
theorem ml_L_61 : Cond.methodLink RL 61 ⟨"TrackNightsLaw", "work", "(LTrackNights;III)I"⟩ ∈ TB := (TB_4 50 rfl rfl)
set_option maxRecDepth 100000 in
theorem kc_J8_200 : Cond.constant RJ8 200 (2147483639) ∈ TB := (TB_2 201 rfl rfl)
set_option maxRecDepth 100000 in
theorem kc_L_7 : Cond.constant RL 7 (2147483647) ∈ TB := (TB_4 42 rfl rfl)
set_option maxRecDepth 100000 in
theorem kc_L_8 : Cond.constant RL 8 (790386105) ∈ TB := (TB_4 46 rfl rfl)
set_option maxRecDepth 100000 in
theorem kc_X6_378 : Cond.constantLong RX6 378 (4809) ∈ TB := (TB_3 216 rfl rfl)
set_option maxRecDepth 100000 in
theorem kc_X6_380 : Cond.constantLong RX6 380 (31) ∈ TB := (TB_3 217 rfl rfl)
set_option maxRecDepth 100000 in
theorem kc_X6_338 : Cond.constantDouble RX6 338 (4621819117588971520) ∈ TB := (TB_4 107 rfl rfl)
set_option maxRecDepth 100000 in
theorem kc_L_128 : Cond.constantDouble RL 128 (4636737291354636288) ∈ TB := (TB_4 108 rfl rfl)
