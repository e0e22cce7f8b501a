/-! What each call does, in numbers: its refusal (0: none), its answer, the state behind it -/
abbrev Oc : Type := Nat × Int32 × St
def ixO (x : Int32) (n : Nat) : Option Nat := if 0 ≤ x.toInt ∧ x.toInt < n then some x.toNatClampNeg else none
theorem ixO_s {k n : Nat} (hk : k < n) (hn : n < 2 ^ 31) : ixO (nI k) n = some k := by
  have h := nI_toInt (n := k) (by omega)
  unfold ixO
  rw [if_pos (by rw [h]; omega), nI_clamp (by omega)]
theorem ixO_n {x : Int32} {n : Nat} (h : x < 0 ∨ ¬ x < nI n) (hn : n < 2 ^ 31) : ixO x n = none := by
  refine if_neg fun q => ?_
  rcases h with h | h
  · have := Int32.lt_iff_toInt_lt.mp h
    simp at this
    omega
  · refine h (Int32.lt_iff_toInt_lt.mpr ?_)
    rw [nI_toInt hn]
    exact q.2
/-- how a call of the class ends, by what it does in numbers -/
def Out (Γ : Gw) (L : LayC) (w : Wd) (post : Option Value → Wd → Prop) (xpost : String → Wd → Prop) (names : List String) (o : Oc) : Prop :=
  (o.1 = 0 → ∀ (L1 : LayC) (w1 : Wd), thC L1 = thC L → RepC Γ L1 o.2.2 w1 → FrM w w1 → post (some (.int o.2.1)) w1) ∧ ∀ (k : Nat) (E : String), o.1 = k + 1 → names[k]? = some E → xpost E w
theorem Out.ok {Γ : Gw} {L : LayC} {w : Wd} {post : Option Value → Wd → Prop} {xpost : String → Wd → Prop} {names : List String} {o : Oc} (h : Out Γ L w post xpost names o) {v : Int32} {S1 : St} (e : o = (0, v, S1)) {L1 : LayC} {w1 : Wd} (h1 : thC L1 = thC L) (h2 : RepC Γ L1 S1 w1) (h3 : FrM w w1) : post (some (.int v)) w1 := by
  subst e
  exact h.1 rfl L1 w1 h1 h2 h3
theorem Out.bad {Γ : Gw} {L : LayC} {w : Wd} {post : Option Value → Wd → Prop} {xpost : String → Wd → Prop} {names : List String} {o : Oc} (h : Out Γ L w post xpost names o) {k : Nat} {v : Int32} {S1 : St} {E : String} (e : o = (k + 1, v, S1)) (hn : names[k]? = some E) : xpost E w := by
  subst e
  exact h.2 k E rfl hn
def oCur (S : St) (i b : Int32) : Oc := match ixO i 20 with
  | none => (1, 0, S)
  | some k => (0, sS S k 5, setS S k (rset (sS S k) 5 b))
def oSig (S : St) (i v : Int32) : Oc := match ixO i 20 with
  | none => (1, 0, S)
  | some k => if v < 0 then (2, 0, S) else if v ≤ 160 then (0, sS S k 6, setS S k (rset (sS S k) 6 v)) else (2, 0, S)
def pas (S : St) (t h : Int32) : Nat → St
  | 0 => S
  | d + 1 => oDay (pas S t h d) t h
def oPas (S : St) (t h d : Int32) : Oc := if t < 0 then (1, 0, S) else if t ≤ 40 then (if h < -20 then (1, 0, S) else if h ≤ 60 then (if d < 1 then (1, 0, S) else if d ≤ 60 then (if gl S 0 + d ≤ 2000 then (0, gl (pas S t h d.toNatClampNeg) 3 - gl S 3, pas S t h d.toNatClampNeg) else (2, 0, S)) else (1, 0, S)) else (1, 0, S)) else (1, 0, S)
def oAli (S : St) (m : Int32) : Oc := match ixO m (nE S) with
  | none => (1, 0, S)
  | some k => if eS S k 4 = 0 then (0, eS S k 3, setE S k (rset (eS S k) 4 1)) else (2, 0, S)
def pOuI (S : St) (m k : Nat) : Prop := gS S k 0 = 1 ∧ ¬ uses (nJ (gS S k)) (fun j => jM S k j) m = 0
def pElI (S : St) (m h k : Nat) : Prop := ¬ k = h ∧ gS S k 4 = gS S h 4 ∧ ¬ s_cot (gS S k 0) = 0 ∧ ¬ uses (nJ (gS S k)) (fun j => jM S k j) m = 0
noncomputable def oSer (S : St) (m : Int32) : Oc := match ixO m (nM S) with
  | none => (1, 0, S)
  | some k => if ex01 (pOuI S k) (nN S) = 0 then (0, mS S k 1, setG (setM S k (rset (mS S k) 1 40)) (rset (gl S) 2 (gl S 2 + 200))) else (2, 0, S)
def cFee (S : St) (k : Nat) : Int32 := if gl S 0 + 5 ≤ gS S k 4 then 0 else 10 * gS S k 5
def oCan (S : St) (p : Int32) : Oc := match ixO p (nN S) with
  | none => (1, 0, S)
  | some k => if gS S k 0 = 0 then (0, cFee S k, setG (setN S k (rset (gS S k) 0 4)) (rset (gl S) 2 (gl S 2 + cFee S k))) else (2, 0, S)
def bits (m : Int32) : Int32 := (if mk1 m = 0 then 0 else 1) + (if mk2 m = 0 then 0 else 1)
def oMrk (S : St) (p e : Int32) : Oc := match ixO p (nN S) with
  | none => (1, 0, S)
  | some k => if e < 0 then (1, 0, S) else if e < 2 then (if gS S k 0 = 0 then (if gS S k 4 = gl S 0 then (if (if e = 0 then mk1 (gS S k 8) else mk2 (gS S k 8)) = 0 then (0, bits (gS S k 8 + (if e = 0 then 1 else 2)), setN S k (rset (gS S k) 8 (gS S k 8 + (if e = 0 then 1 else 2)))) else (2, 0, S)) else (2, 0, S)) else (2, 0, S)) else (1, 0, S)
def oTak (S : St) (p : Int32) : Oc := match ixO p (nN S) with
  | none => (1, 0, S)
  | some k => if gS S k 0 = 0 then (if 2 ≤ bits (gS S k 8) then (0, gS S k 3 - gS S k 2 + 1, setN S k (rset (gS S k) 0 1)) else (2, 0, S)) else (2, 0, S)
def oGiv (S : St) (p : Int32) : Oc := match ixO p (nN S) with
  | none => (1, 0, S)
  | some k => if gS S k 0 = 1 then (0, gS (oEnd S k 0) k 9, oEnd S k 0) else (2, 0, S)
noncomputable def wSaf (S : St) (k : Nat) (s : Int32) : Int32 := if ex01 (pTak S (nI k)) (nN S) = 0 then s_warn (sS S k 6) (sBes S k) s else 1
noncomputable def oWal (S : St) (i s : Int32) : Oc := match ixO i 20 with
  | none => (1, 0, S)
  | some k => if s < 50 then (2, 0, S) else if s ≤ 2000 then (if wSaf S k s = 0 then (0, 0, setG S (rset (gl S) 5 (gl S 5 + 1))) else (0, 1, S)) else (2, 0, S)
def oOvr (S : St) (p : Int32) : Oc := match ixO p (nN S) with
  | none => (1, 0, S)
  | some k => if s_cot (gS S k 0) = 0 then (2, 0, S) else (0, mx 0 (tkI S k - gS S k 5), S)
/-- what holds of every state that the calls reach -/
def IvS (f : Nat → Int32) : Prop := (0 ≤ (f 0).toInt ∧ (f 0).toInt ≤ 100) ∧ (0 ≤ (f 1).toInt ∧ (f 1).toInt ≤ 60) ∧ (f 5 = 0 ∨ f 5 = 1) ∧ (0 ≤ (f 6).toInt ∧ (f 6).toInt ≤ 160)
def IvN (S : St) (n : Nat) : Prop := JobOk S n ∧ (0 ≤ (gS S n 0).toInt ∧ (gS S n 0).toInt ≤ 4) ∧ (gS S n 8 = 0 ∨ gS S n 8 = 1 ∨ gS S n 8 = 2 ∨ gS S n 8 = 3) ∧ (0 ≤ (gS S n 6).toInt ∧ (gS S n 6).toInt ≤ 6) ∧ gS S n 7 = hsum (hrC S n) (nJ (gS S n))
def IvE (f : Nat → Int32) : Prop := (f 4 = 0 ∨ f 4 = 1) ∧ ∀ j, j < 10 → (f (5 + 4 * j) = 0 ∧ f (7 + 4 * j) = 0) ∨ f (5 + 4 * j) = 1
def Inv (S : St) : Prop := (∀ i, i < 20 → IvS (sS S i)) ∧ (nM S ≤ 4 ∧ nN S ≤ 16 ∧ nE S ≤ 12) ∧ (∀ m, m < nM S → 0 ≤ (mS S m 0).toInt ∧ (mS S m 0).toInt ≤ 2) ∧ (∀ n, n < nN S → IvN S n) ∧ (∀ k, k < nE S → IvE (eS S k)) ∧ (0 ≤ (gl S 0).toInt ∧ (gl S 0).toInt ≤ 2000) ∧ gl S 6 = cnt (fun k => gS S k 9) (nN S)
theorem Inv.job {S : St} (h : Inv S) : JOk S := fun n hn => (h.2.2.2.1 n hn).1
theorem uses_c {ma mb : Nat → Nat} {n t u : Nat} (h : ∀ j, j < n → (ma j = t ↔ mb j = u)) : uses n ma t = uses n mb u := by
  by_cases q : ∃ i, i < n ∧ ma i = t
  · obtain ⟨i, hi, q⟩ := q
    rw [uses_t hi q, uses_t hi ((h i hi).1 q)]
  · rw [uses_f fun i hi z => q ⟨i, hi, z⟩, uses_f fun i hi z => q ⟨i, hi, (h i hi).2 z⟩]
section UI
variable {Γ : Gw} {L : LayC} {S : St} {w : Wd}
theorem RepC.usI (h : RepC Γ L S w) {k m : Nat} (hj : JobOk S k) (hm : m < nM S) : uses (nJ (gS S k)) (maC L S k) (L.1 (10, m, 0)) = uses (nJ (gS S k)) (fun j => jM S k j) m :=
  uses_c fun j hjj => ⟨fun q => h.mac_inj (hj j hjj).1 hm q, fun q => by show L.1 (10, jM S k j, 0) = _; rw [q]⟩
theorem RepC.ouI (h : RepC Γ L S w) (hJ : JOk S) {m : Nat} (hm : m < nM S) : ex01 (pOut L S (L.1 (10, m, 0))) (nN S) = ex01 (pOuI S m) (nN S) :=
  ex_c fun k hk => by unfold pOut pOuI; rw [h.usI (hJ k hk) hm]
theorem RepC.elI (h : RepC Γ L S w) (hJ : JOk S) {m q : Nat} (hm : m < nM S) : ex01 (pEls L S (L.1 (10, m, 0)) q) (nN S) = ex01 (pElI S m q) (nN S) :=
  ex_c fun k hk => by unfold pEls pElI; rw [h.usI (hJ k hk) hm]
end UI
