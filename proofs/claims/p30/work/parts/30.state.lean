/-! The state in numbers, and how the class holds it -/
/-- sections (7 numbers each), machines (4), nights (28), measures (45), and: 0 day, 1 heat, 2 cost, 3 risks, 4 broke, 5 gangs, 6 overruns -/
abbrev St : Type := (Nat → Nat → Int32) × (Nat × (Nat → Nat → Int32)) × (Nat × (Nat → Nat → Int32)) × (Nat × (Nat → Nat → Int32)) × (Nat → Int32)
abbrev sS (S : St) : Nat → Nat → Int32 := S.1
abbrev nM (S : St) : Nat := S.2.1.1
abbrev mS (S : St) : Nat → Nat → Int32 := S.2.1.2
abbrev nN (S : St) : Nat := S.2.2.1.1
abbrev gS (S : St) : Nat → Nat → Int32 := S.2.2.1.2
abbrev nE (S : St) : Nat := S.2.2.2.1.1
abbrev eS (S : St) : Nat → Nat → Int32 := S.2.2.2.1.2
abbrev gl (S : St) : Nat → Int32 := S.2.2.2.2
def rset {α : Type} (f : Nat → α) (i : Nat) (x : α) : Nat → α := fun j => if j = i then x else f j
theorem rset_s {α : Type} {f : Nat → α} {i : Nat} {x : α} : rset f i x i = x := if_pos rfl
theorem rset_n {α : Type} {f : Nat → α} {i j : Nat} {x : α} (h : j ≠ i) : rset f i x j = f j := if_neg h
def setS (S : St) (i : Nat) (f : Nat → Int32) : St := (rset S.1 i f, S.2)
def setM (S : St) (i : Nat) (f : Nat → Int32) : St := (S.1, (S.2.1.1, rset S.2.1.2 i f), S.2.2)
def setN (S : St) (i : Nat) (f : Nat → Int32) : St := (S.1, S.2.1, (S.2.2.1.1, rset S.2.2.1.2 i f), S.2.2.2)
def setE (S : St) (i : Nat) (f : Nat → Int32) : St := (S.1, S.2.1, S.2.2.1, (S.2.2.2.1.1, rset S.2.2.2.1.2 i f), S.2.2.2.2)
def setG (S : St) (f : Nat → Int32) : St := (S.1, S.2.1, S.2.2.1, S.2.2.2.1, f)
def addM (S : St) (f : Nat → Int32) : St := (S.1, (S.2.1.1 + 1, rset S.2.1.2 S.2.1.1 f), S.2.2)
def addN (S : St) (f : Nat → Int32) : St := (S.1, S.2.1, (S.2.2.1.1 + 1, rset S.2.2.1.2 S.2.2.1.1 f), S.2.2.2)
def addE (S : St) (f : Nat → Int32) : St := (S.1, S.2.1, S.2.2.1, (S.2.2.2.1.1 + 1, rset S.2.2.2.1.2 S.2.2.2.1.1 f), S.2.2.2.2)
/-- how many works a night has -/
abbrev nJ (f : Nat → Int32) : Nat := (f 6).toNatClampNeg
/-- the class's layout: addresses by tag, the lists' capacities and counts of changes, the trial section -/
abbrev LayC : Type := (Tg → Nat) × (Nat → Nat) × (Nat → Int32) × (Nat → Int32)
def lnC (S : St) : Nat → Nat
  | 0 => nE S
  | 1 => nM S
  | 2 => nN S
  | k + 3 => nJ (gS S k)
def elC (a : Tg → Nat) : Nat → Nat → Nat
  | 0 => fun j => a (7, j, 0)
  | 1 => fun j => a (10, j, 0)
  | 2 => fun j => a (11, j, 0)
  | k + 3 => fun j => a (12, k, j)
abbrev arC (Γ : Gw) (L : LayC) (id : Nat) : Nat := if L.2.1 id = 0 then Γ.2.2.2.1 else L.1 (6, id, 0)
def mk1 (x : Int32) : Int32 := if x = 1 ∨ x = 3 then 1 else 0
def mk2 (x : Int32) : Int32 := if x = 2 ∨ x = 3 then 1 else 0
abbrev oT (a1 a2 a3 a4 a5 a6 : Nat) (g : Nat → Int32) : va_E := .inr (8, [.ref a1, .ref a2, .ref a3, .ref a4, .ref a5, .ref a6, .int (g 0), .int (g 1), .int (g 2), .int (g 3), .int (g 4), .int (g 5), .int (g 6)])
def wrC (a : Tg → Nat) (k : Nat) (f : Nat → Int32) : Nat → Option Nat := fun j => if j < 10 then (if f (5 + 4 * j) = 1 then some (a (9, k, j)) else none) else none
def cC (Γ : Gw) (L : LayC) (S : St) : Nat → Nat → Nat → Option va_E
  | 1 => fun i _ => if i = 0 then some (oT (L.1 (2, 0, 0)) (L.1 (5, 0, 0)) (L.1 (5, 1, 0)) (L.1 (5, 2, 0)) (L.1 (4, 21, 0)) (L.1 (3, 20, 0)) (gl S)) else none
  | 2 => fun i _ => if i = 0 then some (.inl (Γ.2.1 2, 20, .inr (.inr (.inr (.inr (lE 20 (fun j => L.1 (3, j, 0)))))))) else none
  | 3 => fun i _ => if i < 20 then some (oS (L.1 (4, i, 0)) (sS S i 3) (sS S i 4) (sS S i 5) (sS S i 6)) else if i = 20 then some (oS (L.1 (4, 20, 0)) (L.2.2.2 3) (L.2.2.2 4) (L.2.2.2 5) (L.2.2.2 6)) else none
  | 4 => fun i _ => if i < 20 then some (oV (sS S i 0) (sS S i 1) (sS S i 2)) else if i = 20 then some (oV (L.2.2.2 0) (L.2.2.2 1) (L.2.2.2 2)) else if i = 21 then some (oV 0 0 0) else none
  | 5 => fun id _ => if id < 3 + nN S then some (oL (L.2.2.1 id) (arC Γ L id) (lnC S id)) else none
  | 6 => fun id _ => if id < 3 + nN S then (if L.2.1 id = 0 then none else some (aQ Γ.2.1 (L.2.1 id) (lE (lnC S id) (elC L.1 id)))) else none
  | 7 => fun k _ => if k < nE S then some (oE (eS S k 0) (eS S k 3) (eS S k 4) (L.1 (8, k, 0))) else none
  | 8 => fun k _ => if k < nE S then some (aV Γ.2.1 10 (wrC L.1 k (eS S k))) else none
  | 9 => fun k j => if k < nE S then (if j < 10 then (if eS S k (5 + 4 * j) = 1 then some (oV (eS S k (6 + 4 * j)) (eS S k (7 + 4 * j)) (eS S k (8 + 4 * j))) else none) else none) else none
  | 10 => fun k _ => if k < nM S then some (oM (mS S k 0) (mS S k 1) (mS S k 2) (mS S k 3)) else none
  | 11 => fun k _ => if k < nN S then some (oP (gS S k 1) (gS S k 2) (gS S k 3) (gS S k 4) (gS S k 5) (L.1 (5, k + 3, 0)) (gS S k 0) (mk1 (gS S k 8)) (mk2 (gS S k 8)) (gS S k 9)) else none
  | 12 => fun k j => if k < nN S then (if j < nJ (gS S k) then some (oW (L.1 (3, (gS S k (10 + 3 * j)).toNatClampNeg, 0)) (L.1 (10, (gS S k (11 + 3 * j)).toNatClampNeg, 0)) (gS S k (12 + 3 * j))) else none) else none
  | _ => fun _ _ => none
/-- the tags that the class uses: the last number is 0 but for kinds 9 and 12 -/
def zT (t : Tg) : Prop := t.1 = 9 ∨ t.1 = 12 ∨ t.2.2 = 0
def Hold (w : Wd) (a : Tg → Nat) (c : Nat → Nat → Nat → Option va_E) : Prop := ∀ (t : Tg) (e : va_E), zT t → c t.1 t.2.1 t.2.2 = some e → w (a t) = some (t, e)
def CapOk (cap ln : Nat → Nat) (n : Nat) : Prop := ∀ id, id < 3 + n → (10 ≤ cap id ∧ ln id ≤ cap id ∧ cap id ≤ 30) ∨ (cap id = 0 ∧ ln id = 0)
def RepC (Γ : Gw) (L : LayC) (S : St) (w : Wd) : Prop := Hold w L.1 (cC Γ L S) ∧ CapOk L.2.1 (lnC S) (nN S)
theorem Hold.apart {w : Wd} {a : Tg → Nat} {c : Nat → Nat → Nat → Option va_E} (h : Hold w a c) {t u : Tg} {e d : va_E} (zt : zT t) (zu : zT u) (ht : c t.1 t.2.1 t.2.2 = some e) (hu : c u.1 u.2.1 u.2.2 = some d) (q : a t = a u) : t = u := by
  have h1 := h t e zt ht
  have h2 := h u d zu hu
  rw [q, h2] at h1
  exact (congrArg (fun z : Tg × va_E => z.1) (Option.some.inj h1)).symm
section RC
variable {Γ : Gw} {L : LayC} {S : St} {w : Wd}
theorem RepC.main (h : RepC Γ L S w) : w (L.1 (1, 0, 0)) = some ((1, 0, 0), oT (L.1 (2, 0, 0)) (L.1 (5, 0, 0)) (L.1 (5, 1, 0)) (L.1 (5, 2, 0)) (L.1 (4, 21, 0)) (L.1 (3, 20, 0)) (gl S)) := h.1 (1, 0, 0) _ (Or.inr (Or.inr rfl)) rfl
theorem RepC.secs (h : RepC Γ L S w) : w (L.1 (2, 0, 0)) = some ((2, 0, 0), .inl (Γ.2.1 2, 20, .inr (.inr (.inr (.inr (lE 20 (fun j => L.1 (3, j, 0)))))))) := h.1 (2, 0, 0) _ (Or.inr (Or.inr rfl)) rfl
theorem RepC.sec (h : RepC Γ L S w) {i : Nat} (hi : i < 20) : w (L.1 (3, i, 0)) = some ((3, i, 0), oS (L.1 (4, i, 0)) (sS S i 3) (sS S i 4) (sS S i 5) (sS S i 6)) := h.1 (3, i, 0) _ (Or.inr (Or.inr rfl)) (if_pos hi)
theorem RepC.val (h : RepC Γ L S w) {i : Nat} (hi : i < 20) : w (L.1 (4, i, 0)) = some ((4, i, 0), oV (sS S i 0) (sS S i 1) (sS S i 2)) := h.1 (4, i, 0) _ (Or.inr (Or.inr rfl)) (if_pos hi)
theorem RepC.tri (h : RepC Γ L S w) : w (L.1 (3, 20, 0)) = some ((3, 20, 0), oS (L.1 (4, 20, 0)) (L.2.2.2 3) (L.2.2.2 4) (L.2.2.2 5) (L.2.2.2 6)) := h.1 (3, 20, 0) _ (Or.inr (Or.inr rfl)) rfl
theorem RepC.triv (h : RepC Γ L S w) : w (L.1 (4, 20, 0)) = some ((4, 20, 0), oV (L.2.2.2 0) (L.2.2.2 1) (L.2.2.2 2)) := h.1 (4, 20, 0) _ (Or.inr (Or.inr rfl)) rfl
theorem RepC.unk (h : RepC Γ L S w) : w (L.1 (4, 21, 0)) = some ((4, 21, 0), oV 0 0 0) := h.1 (4, 21, 0) _ (Or.inr (Or.inr rfl)) rfl
theorem RepC.lst (h : RepC Γ L S w) {id : Nat} (hi : id < 3 + nN S) : AL Γ w (L.1 (5, id, 0)) (5, id, 0) (6, id, 0) (arC Γ L id) (L.2.1 id) (L.2.2.1 id) (lnC S id) (elC L.1 id) := by
  refine ⟨h.1 (5, id, 0) _ (Or.inr (Or.inr rfl)) (if_pos hi), ?_⟩
  rcases h.2 id hi with ⟨h1, h2, h3⟩ | ⟨h1, h2⟩
  · refine Or.inl ⟨h1, h2, h3, ?_⟩
    have h0 : ¬ L.2.1 id = 0 := by omega
    rw [arC, if_neg h0]
    exact h.1 (6, id, 0) _ (Or.inr (Or.inr rfl)) ((if_pos hi).trans (if_neg h0))
  · exact Or.inr ⟨h1, h2, if_pos h1⟩
theorem RepC.mea (h : RepC Γ L S w) {k : Nat} (hk : k < nE S) : w (L.1 (7, k, 0)) = some ((7, k, 0), oE (eS S k 0) (eS S k 3) (eS S k 4) (L.1 (8, k, 0))) := h.1 (7, k, 0) _ (Or.inr (Or.inr rfl)) (if_pos hk)
theorem RepC.wri (h : RepC Γ L S w) {k : Nat} (hk : k < nE S) : w (L.1 (8, k, 0)) = some ((8, k, 0), aV Γ.2.1 10 (wrC L.1 k (eS S k))) := h.1 (8, k, 0) _ (Or.inr (Or.inr rfl)) (if_pos hk)
theorem RepC.wrv (h : RepC Γ L S w) {k j : Nat} (hk : k < nE S) (hj : j < 10) (hf : eS S k (5 + 4 * j) = 1) : w (L.1 (9, k, j)) = some ((9, k, j), oV (eS S k (6 + 4 * j)) (eS S k (7 + 4 * j)) (eS S k (8 + 4 * j))) := h.1 (9, k, j) _ (Or.inl rfl) ((if_pos hk).trans ((if_pos hj).trans (if_pos hf)))
theorem RepC.mac (h : RepC Γ L S w) {k : Nat} (hk : k < nM S) : w (L.1 (10, k, 0)) = some ((10, k, 0), oM (mS S k 0) (mS S k 1) (mS S k 2) (mS S k 3)) := h.1 (10, k, 0) _ (Or.inr (Or.inr rfl)) (if_pos hk)
theorem RepC.pos (h : RepC Γ L S w) {k : Nat} (hk : k < nN S) : w (L.1 (11, k, 0)) = some ((11, k, 0), oP (gS S k 1) (gS S k 2) (gS S k 3) (gS S k 4) (gS S k 5) (L.1 (5, k + 3, 0)) (gS S k 0) (mk1 (gS S k 8)) (mk2 (gS S k 8)) (gS S k 9)) := h.1 (11, k, 0) _ (Or.inr (Or.inr rfl)) (if_pos hk)
theorem RepC.wrk (h : RepC Γ L S w) {k : Nat} (hk : k < nN S) : WK w (nJ (gS S k)) (elC L.1 (k + 3)) (fun j => L.1 (3, (gS S k (10 + 3 * j)).toNatClampNeg, 0)) (fun j => L.1 (10, (gS S k (11 + 3 * j)).toNatClampNeg, 0)) (fun j => gS S k (12 + 3 * j)) := fun j hj => ⟨(12, k, j), h.1 (12, k, j) _ (Or.inr (Or.inl rfl)) ((if_pos hk).trans (if_pos hj))⟩
theorem RepC.mac_inj (h : RepC Γ L S w) {i j : Nat} (hi : i < nM S) (hj : j < nM S) (q : L.1 (10, i, 0) = L.1 (10, j, 0)) : i = j := by
  have := h.1.apart (t := (10, i, 0)) (u := (10, j, 0)) (Or.inr (Or.inr rfl)) (Or.inr (Or.inr rfl)) (if_pos hi) (if_pos hj) q
  cases this
  rfl
theorem RepC.pos_inj (h : RepC Γ L S w) {i j : Nat} (hi : i < nN S) (hj : j < nN S) (q : L.1 (11, i, 0) = L.1 (11, j, 0)) : i = j := by
  have := h.1.apart (t := (11, i, 0)) (u := (11, j, 0)) (Or.inr (Or.inr rfl)) (Or.inr (Or.inr rfl)) (if_pos hi) (if_pos hj) q
  cases this
  rfl
end RC
