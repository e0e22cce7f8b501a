/-! How the reference holds the state -/
abbrev aI (K : Nat → ClassId) (n : Nat) (f : Nat → Int32) : va_E := .inl (K 0, n, .inl f)
/-- addresses by tag; the lists' arrays, capacities, counts of changes; thrown; sum -/
abbrev LayM : Type := (Tg → Nat) × (Nat → Nat) × (Nat → Nat) × (Nat → Int32) × Int32 × Int64
abbrev oY (thr : Int32) (s m n e : Nat) (g : Nat → Int32) (sum : Int64) : va_E := .inr (9, [.int thr, .ref s, .ref m, .ref n, .ref e, .int (g 0), .int (g 1), .int (g 2), .int (g 3), .int (g 4), .int (g 5), .long sum])
abbrev thM (L : LayM) : Nat := L.1 (50, 0, 0)
abbrev thr (L : LayM) : Int32 := L.2.2.2.2.1
abbrev sumM (L : LayM) : Int64 := L.2.2.2.2.2
abbrev lthr (L : LayM) (k : Int32) : LayM := (L.1, L.2.1, L.2.2.1, L.2.2.2.1, k, L.2.2.2.2.2)
abbrev lsum (L : LayM) (d : Int64) : LayM := (L.1, L.2.1, L.2.2.1, L.2.2.2.1, L.2.2.2.2.1, d)
abbrev oYL (L : LayM) (t : Int32) (f : Nat → Int32) (d : Int64) : va_E := oY t (L.1 (51, 0, 0)) (L.1 (53, 1, 0)) (L.1 (53, 2, 0)) (L.1 (53, 0, 0)) f d
def RepM (Γ : Gw) (L : LayM) (S : St) (w : Wd) : Prop :=
  w (L.1 (50, 0, 0)) = some ((50, 0, 0), oYL L (thr L) (gl S) (sumM L)) ∧
  w (L.1 (51, 0, 0)) = some ((51, 0, 0), .inl (Γ.2.1 4, 20, .inr (.inr (.inr (.inr (lE 20 (fun j => L.1 (52, j, 0)))))))) ∧
  (∀ i, i < 20 → w (L.1 (52, i, 0)) = some ((52, i, 0), aI Γ.2.1 7 (sS S i))) ∧
  (∀ id, id < 3 → AL Γ w (L.1 (53, id, 0)) (53, id, 0) (54, id, 0) (L.2.1 id) (L.2.2.1 id) (L.2.2.2.1 id) (lnC S id) (fun j => L.1 (55 + id, j, 0))) ∧
  (∀ k, k < nE S → w (L.1 (55, k, 0)) = some ((55, k, 0), aI Γ.2.1 45 (eS S k))) ∧
  (∀ k, k < nM S → w (L.1 (56, k, 0)) = some ((56, k, 0), aI Γ.2.1 4 (mS S k))) ∧
  (∀ k, k < nN S → w (L.1 (57, k, 0)) = some ((57, k, 0), aI Γ.2.1 28 (gS S k)))
/-- what the reference does not hold stays -/
def FrC (w w1 : Wd) : Prop := ∀ (b : Nat) (x : Tg × va_E), w b = some x → ¬ (50 ≤ x.1.1 ∧ x.1.1 < 80) → w1 b = some x
theorem FrC.rf {w : Wd} : FrC w w := fun _ _ h _ => h
theorem FrC.tr {w w1 w2 : Wd} (h : FrC w w1) (h2 : FrC w1 w2) : FrC w w2 := fun b x hb hx => h2 b x (h b x hb hx) hx
theorem FrC.nw {w w1 w2 : Wd} (h : FrC w w1) {q : Nat} {x : Tg × va_E} (hq : w1 q = none) (e : w2 = wup w1 q x) : FrC w w2 := fun b z hb hx => (congrFun e b).trans (wup_f hq (h b z hb hx))
theorem FrC.up {w w1 w2 : Wd} (h : FrC w w1) {q : Nat} {x y : Tg × va_E} (hq : w1 q = some x) (hx : 50 ≤ x.1.1 ∧ x.1.1 < 80) (e : w2 = wup w1 q y) : FrC w w2 := fun b z hb hz => (congrFun e b).trans (wup_t (ta := x.1) (ea := x.2) (tb := z.1) (eb := z.2) hq (h b z hb hz) (fun g => hz (by rw [g]; exact hx)))
theorem AL.fr {Γ : Gw} {w w1 : Wd} {a e cap n : Nat} {t te : Tg} {md : Int32} {el : Nat → Nat} (h : AL Γ w a t te e cap md n el) (hF : ∀ (b : Nat) (x : Tg × va_E), w b = some x → x.1 = t ∨ x.1 = te → w1 b = some x) : AL Γ w1 a t te e cap md n el :=
  ⟨hF _ _ h.1 (Or.inl rfl), h.2.imp (fun q => ⟨q.1, q.2.1, q.2.2.1, hF _ _ q.2.2.2 (Or.inr rfl)⟩) id⟩
theorem ln3 {S : St} {i : Nat} {f : Nat → Int32} : ∀ {id : Nat}, id < 3 → lnC (setN S i f) id = lnC S id := fun {id} hid => match id, hid with | 0, _ => rfl | 1, _ => rfl | 2, _ => rfl
section RM
variable {Γ : Gw} {L : LayM} {S : St} {w w1 : Wd}
theorem RepM.main (h : RepM Γ L S w) : w (L.1 (50, 0, 0)) = some ((50, 0, 0), oYL L (thr L) (gl S) (sumM L)) := h.1
theorem RepM.secs (h : RepM Γ L S w) : w (L.1 (51, 0, 0)) = some ((51, 0, 0), .inl (Γ.2.1 4, 20, .inr (.inr (.inr (.inr (lE 20 (fun j => L.1 (52, j, 0)))))))) := h.2.1
theorem RepM.sec (h : RepM Γ L S w) {i : Nat} (hi : i < 20) : w (L.1 (52, i, 0)) = some ((52, i, 0), aI Γ.2.1 7 (sS S i)) := h.2.2.1 i hi
theorem RepM.lst (h : RepM Γ L S w) {id : Nat} (hi : id < 3) : AL Γ w (L.1 (53, id, 0)) (53, id, 0) (54, id, 0) (L.2.1 id) (L.2.2.1 id) (L.2.2.2.1 id) (lnC S id) (fun j => L.1 (55 + id, j, 0)) := h.2.2.2.1 id hi
theorem RepM.mea (h : RepM Γ L S w) {k : Nat} (hk : k < nE S) : w (L.1 (55, k, 0)) = some ((55, k, 0), aI Γ.2.1 45 (eS S k)) := h.2.2.2.2.1 k hk
theorem RepM.mac (h : RepM Γ L S w) {k : Nat} (hk : k < nM S) : w (L.1 (56, k, 0)) = some ((56, k, 0), aI Γ.2.1 4 (mS S k)) := h.2.2.2.2.2.1 k hk
theorem RepM.ngt (h : RepM Γ L S w) {k : Nat} (hk : k < nN S) : w (L.1 (57, k, 0)) = some ((57, k, 0), aI Γ.2.1 28 (gS S k)) := h.2.2.2.2.2.2 k hk
/-- a world that keeps all but garbage -/
theorem RepM.keep (h : RepM Γ L S w) (hF : ∀ (b : Nat) (x : Tg × va_E), w b = some x → x.1.1 < 60 → w1 b = some x) : RepM Γ L S w1 :=
  ⟨hF _ _ h.1 (by show 50 < 60; decide), hF _ _ h.2.1 (by show 51 < 60; decide), fun i hi => hF _ _ (h.sec hi) (by show 52 < 60; decide), fun id hi => (h.lst hi).fr (fun b x hb hx => hF b x hb (by rcases hx with q | q <;> rw [q] <;> (first | (show 53 < 60; decide) | (show 54 < 60; decide)))), fun k hk => hF _ _ (h.mea hk) (by show 55 < 60; decide), fun k hk => hF _ _ (h.mac hk) (by show 56 < 60; decide), fun k hk => hF _ _ (h.ngt hk) (by show 57 < 60; decide)⟩
theorem RepM.nw (h : RepM Γ L S w) {q : Nat} {x : Tg × va_E} (hq : w q = none) (e : w1 = wup w q x) : RepM Γ L S w1 := h.keep (fun b z hb _ => (congrFun e b).trans (wup_f hq hb))
theorem RepM.tmp (h : RepM Γ L S w) {q : Nat} {x y : Tg × va_E} (hq : w q = some x) (hx : 60 ≤ x.1.1) (e : w1 = wup w q y) : RepM Γ L S w1 := h.keep (fun b z hb hz => (congrFun e b).trans (wup_t (ta := x.1) (ea := x.2) (tb := z.1) (eb := z.2) hq hb (fun g => by rw [g] at hz; omega)))
theorem RepM.frm (h : RepM Γ L S w) (hF : FrM w w1) : RepM Γ L S w1 :=
  ⟨hF _ _ h.1 (by show 50 ≤ 50; decide), hF _ _ h.2.1 (by show 50 ≤ 51; decide), fun i hi => hF _ _ (h.sec hi) (by show 50 ≤ 52; decide), fun id hi => (h.lst hi).fr (fun b x hb hx => hF b x hb (by rcases hx with q | q <;> rw [q] <;> (first | (show 50 ≤ 53; decide) | (show 50 ≤ 54; decide)))), fun k hk => hF _ _ (h.mea hk) (by show 50 ≤ 55; decide), fun k hk => hF _ _ (h.mac hk) (by show 50 ≤ 56; decide), fun k hk => hF _ _ (h.ngt hk) (by show 50 ≤ 57; decide)⟩
/-- the same in all that the reference holds -/
theorem RepM.cg (h : RepM Γ L S w) {T : St} (h1 : ∀ i, i < 20 → sS T i = sS S i) (h2 : nM T = nM S) (h3 : nN T = nN S) (h4 : nE T = nE S) (h5 : ∀ k, k < nM S → mS T k = mS S k) (h6 : ∀ k, k < nN S → gS T k = gS S k) (h7 : ∀ k, k < nE S → eS T k = eS S k) (h8 : ∀ x, x < 6 → gl T x = gl S x) : RepM Γ L T w := by
  refine ⟨?_, h.2.1, fun i hi => ?_, fun id hi => ?_, fun k hk => ?_, fun k hk => ?_, fun k hk => ?_⟩
  · rw [oYL, oY, h8 0 (by decide), h8 1 (by decide), h8 2 (by decide), h8 3 (by decide), h8 4 (by decide), h8 5 (by decide)]
    exact h.main
  · rw [h1 i hi]
    exact h.sec hi
  · have e : lnC T id = lnC S id := by
      match id, hi with
      | 0, _ => exact h4
      | 1, _ => exact h2
      | 2, _ => exact h3
    rw [e]
    exact h.lst hi
  · rw [h4] at hk
    rw [h7 k hk]
    exact h.mea hk
  · rw [h2] at hk
    rw [h5 k hk]
    exact h.mac hk
  · rw [h3] at hk
    rw [h6 k hk]
    exact h.ngt hk
theorem RepM.uS (h : RepM Γ L S w) {i : Nat} (hi : i < 20) {f : Nat → Int32} (e : w1 = wup w (L.1 (52, i, 0)) ((52, i, 0), aI Γ.2.1 7 f)) : RepM Γ L (setS S i f) w1 ∧ FrC w w1 := by
  subst e
  have old : ∀ (b : Nat) (x : Tg × va_E), w b = some x → x.1 ≠ (52, i, 0) → (wup w (L.1 (52, i, 0)) ((52, i, 0), aI Γ.2.1 7 f)) b = some x := fun b x hb hx => wup_t (tb := x.1) (eb := x.2) (h.sec hi) hb hx
  refine ⟨⟨old _ _ h.main (by intro z; cases z), old _ _ h.secs (by intro z; cases z), fun k hk => ?_, fun id hid => (h.lst hid).fr (fun b x hb hx => old b x hb (by rcases hx with q | q <;> rw [q] <;> (intro z; cases z))), fun k hk => old _ _ (h.mea hk) (by intro z; cases z), fun k hk => old _ _ (h.mac hk) (by intro z; cases z), fun k hk => old _ _ (h.ngt hk) (by intro z; cases z)⟩, FrC.rf.up (h.sec hi) (by show 50 ≤ 52 ∧ 52 < 80; decide) rfl⟩
  by_cases q : k = i
  · subst q
    have e2 : sS (setS S k f) k = f := rset_s
    rw [e2]
    exact wup_s
  · have e2 : sS (setS S i f) k = sS S k := rset_n q
    rw [e2]
    exact old _ _ (h.sec hk) (fun z => q (congrArg (fun y : Tg => y.2.1) z))
theorem RepM.uE (h : RepM Γ L S w) {i : Nat} (hi : i < nE S) {f : Nat → Int32} (e : w1 = wup w (L.1 (55, i, 0)) ((55, i, 0), aI Γ.2.1 45 f)) : RepM Γ L (setE S i f) w1 ∧ FrC w w1 := by
  subst e
  have old : ∀ (b : Nat) (x : Tg × va_E), w b = some x → x.1 ≠ (55, i, 0) → (wup w (L.1 (55, i, 0)) ((55, i, 0), aI Γ.2.1 45 f)) b = some x := fun b x hb hx => wup_t (tb := x.1) (eb := x.2) (h.mea hi) hb hx
  refine ⟨⟨old _ _ h.main (by intro z; cases z), old _ _ h.secs (by intro z; cases z), fun k hk => old _ _ (h.sec hk) (by intro z; cases z), fun id hid => (h.lst hid).fr (fun b x hb hx => old b x hb (by rcases hx with q | q <;> rw [q] <;> (intro z; cases z))), fun k hk => ?_, fun k hk => old _ _ (h.mac hk) (by intro z; cases z), fun k hk => old _ _ (h.ngt hk) (by intro z; cases z)⟩, FrC.rf.up (h.mea hi) (by show 50 ≤ 55 ∧ 55 < 80; decide) rfl⟩
  by_cases q : k = i
  · subst q
    have e2 : eS (setE S k f) k = f := rset_s
    rw [e2]
    exact wup_s
  · have e2 : eS (setE S i f) k = eS S k := rset_n q
    rw [e2]
    exact old _ _ (h.mea hk) (fun z => q (congrArg (fun y : Tg => y.2.1) z))
theorem RepM.uM (h : RepM Γ L S w) {i : Nat} (hi : i < nM S) {f : Nat → Int32} (e : w1 = wup w (L.1 (56, i, 0)) ((56, i, 0), aI Γ.2.1 4 f)) : RepM Γ L (setM S i f) w1 ∧ FrC w w1 := by
  subst e
  have old : ∀ (b : Nat) (x : Tg × va_E), w b = some x → x.1 ≠ (56, i, 0) → (wup w (L.1 (56, i, 0)) ((56, i, 0), aI Γ.2.1 4 f)) b = some x := fun b x hb hx => wup_t (tb := x.1) (eb := x.2) (h.mac hi) hb hx
  refine ⟨⟨old _ _ h.main (by intro z; cases z), old _ _ h.secs (by intro z; cases z), fun k hk => old _ _ (h.sec hk) (by intro z; cases z), fun id hid => (h.lst hid).fr (fun b x hb hx => old b x hb (by rcases hx with q | q <;> rw [q] <;> (intro z; cases z))), fun k hk => old _ _ (h.mea hk) (by intro z; cases z), fun k hk => ?_, fun k hk => old _ _ (h.ngt hk) (by intro z; cases z)⟩, FrC.rf.up (h.mac hi) (by show 50 ≤ 56 ∧ 56 < 80; decide) rfl⟩
  by_cases q : k = i
  · subst q
    have e2 : mS (setM S k f) k = f := rset_s
    rw [e2]
    exact wup_s
  · have e2 : mS (setM S i f) k = mS S k := rset_n q
    rw [e2]
    exact old _ _ (h.mac hk) (fun z => q (congrArg (fun y : Tg => y.2.1) z))
theorem RepM.uN (h : RepM Γ L S w) {i : Nat} (hi : i < nN S) {f : Nat → Int32} (e : w1 = wup w (L.1 (57, i, 0)) ((57, i, 0), aI Γ.2.1 28 f)) : RepM Γ L (setN S i f) w1 ∧ FrC w w1 := by
  subst e
  have old : ∀ (b : Nat) (x : Tg × va_E), w b = some x → x.1 ≠ (57, i, 0) → (wup w (L.1 (57, i, 0)) ((57, i, 0), aI Γ.2.1 28 f)) b = some x := fun b x hb hx => wup_t (tb := x.1) (eb := x.2) (h.ngt hi) hb hx
  refine ⟨⟨old _ _ h.main (by intro z; cases z), old _ _ h.secs (by intro z; cases z), fun k hk => old _ _ (h.sec hk) (by intro z; cases z), fun id hid => by
    rw [ln3 hid]
    exact (h.lst hid).fr (fun b x hb hx => old b x hb (by rcases hx with q | q <;> rw [q] <;> (intro z; cases z))), fun k hk => old _ _ (h.mea hk) (by intro z; cases z), fun k hk => old _ _ (h.mac hk) (by intro z; cases z), fun k hk => ?_⟩, FrC.rf.up (h.ngt hi) (by show 50 ≤ 57 ∧ 57 < 80; decide) rfl⟩
  by_cases q : k = i
  · subst q
    have e2 : gS (setN S k f) k = f := rset_s
    rw [e2]
    exact wup_s
  · have e2 : gS (setN S i f) k = gS S k := rset_n q
    rw [e2]
    exact old _ _ (h.ngt hk) (fun z => q (congrArg (fun y : Tg => y.2.1) z))
theorem RepM.uY (h : RepM Γ L S w) {t : Int32} {f : Nat → Int32} {d : Int64} (e : w1 = wup w (L.1 (50, 0, 0)) ((50, 0, 0), oYL L t f d)) : RepM Γ (L.1, L.2.1, L.2.2.1, L.2.2.2.1, t, d) (setG S f) w1 ∧ FrC w w1 := by
  subst e
  have old : ∀ (b : Nat) (x : Tg × va_E), w b = some x → x.1 ≠ (50, 0, 0) → (wup w (L.1 (50, 0, 0)) ((50, 0, 0), oYL L t f d)) b = some x := fun b x hb hx => wup_t (tb := x.1) (eb := x.2) h.main hb hx
  exact ⟨⟨wup_s, old _ _ h.secs (by intro z; cases z), fun k hk => old _ _ (h.sec hk) (by intro z; cases z), fun id hid => (h.lst hid).fr (fun b x hb hx => old b x hb (by rcases hx with q | q <;> rw [q] <;> (intro z; cases z))), fun k hk => old _ _ (h.mea hk) (by intro z; cases z), fun k hk => old _ _ (h.mac hk) (by intro z; cases z), fun k hk => old _ _ (h.ngt hk) (by intro z; cases z)⟩, FrC.rf.up h.main (by show 50 ≤ 50 ∧ 50 < 80; decide) rfl⟩
theorem RepM.uT (h : RepM Γ L S w) {t : Int32} (e : w1 = wup w (L.1 (50, 0, 0)) ((50, 0, 0), oYL L t (gl S) (sumM L))) : RepM Γ (lthr L t) S w1 ∧ FrC w w1 := h.uY (f := gl S) e
theorem RepM.uG (h : RepM Γ L S w) {f : Nat → Int32} (e : w1 = wup w (L.1 (50, 0, 0)) ((50, 0, 0), oYL L (thr L) f (sumM L))) : RepM Γ L (setG S f) w1 ∧ FrC w w1 := h.uY (f := f) e
theorem RepM.uD (h : RepM Γ L S w) {d : Int64} (e : w1 = wup w (L.1 (50, 0, 0)) ((50, 0, 0), oYL L (thr L) (gl S) d)) : RepM Γ (lsum L d) S w1 ∧ FrC w w1 := h.uY (f := gl S) e
end RM
/-- how a call of the reference ends, by what it does in numbers -/
def MOut (Γ : Gw) (L : LayM) (w : Wd) (post : Option Value → Wd → Prop) (o : Oc) : Prop := ∀ (L1 : LayM) (w1 : Wd), thM L1 = thM L → thr L1 = nI o.1 → RepM Γ L1 o.2.2 w1 → FrC w w1 → post (some (.int o.2.1)) w1
theorem MOut.ok {Γ : Gw} {L : LayM} {w : Wd} {post : Option Value → Wd → Prop} {o : Oc} (h : MOut Γ L w post o) {k : Nat} {v : Int32} {S1 : St} (e : o = (k, v, S1)) {L1 : LayM} {w1 : Wd} (h3 : RepM Γ L1 S1 w1) (h4 : FrC w w1) (h1 : thM L1 = thM L := by rfl) (h2 : thr L1 = nI k := by rfl) : post (some (.int v)) w1 := by
  subst e
  exact h L1 w1 h1 h2 h3 h4
theorem x_ialdN {g : Cxt} {cc : ByteArray} {own nm : String} {rt : Option FieldType} {rm : Room} (hG : Cx g cc own nm rt rm) {w : Wd} {kc ks pc : Nat} {lv : List (Option Value)} {st : List Value} {a n c : Nat} {t : Tg} {f : Nat → Int32} {v : Int32} (he : w a = some (t, aI (gK g) n f)) (hc : c < n ∧ n < 1000) (hd : decode cc pc = .ok (.iaload, 1)) (k : X g w kc ks (pc + 1) lv (.int (f c) :: st)) (hv : v = nI c := by rfl) : X g w kc ks pc lv (.int v :: .ref a :: st) := by
  subst hv
  refine x_iald hG he (vp_in_nI hc.1 (by omega)) hd ?_
  rw [nI_clamp (by omega)]
  exact k
theorem upd_rset {f : Nat → Int32} {c : Nat} {x : Int32} : upd f c x = rset f c x := rfl
theorem x_iastN {g : Cxt} {cc : ByteArray} {own nm : String} {rt : Option FieldType} {rm : Room} (hG : Cx g cc own nm rt rm) {w : Wd} {kc ks pc : Nat} {lv : List (Option Value)} {st : List Value} {a n c : Nat} {t : Tg} {f : Nat → Int32} {v x : Int32} (he : w a = some (t, aI (gK g) n f)) (hc : c < n ∧ n < 1000) (hd : decode cc pc = .ok (.iastore, 1)) (k : X g (wup w a (t, aI (gK g) n (rset f c x))) kc ks (pc + 1) lv st) (hv : v = nI c := by rfl) : X g w kc ks pc lv (.int x :: .int v :: .ref a :: st) := by
  subst hv
  refine x_iast hG he (vp_in_nI hc.1 (by omega)) hd ?_
  rw [nI_clamp (by omega), upd_rset]
  exact k
