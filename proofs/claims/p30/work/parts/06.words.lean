/-! the words of the tables: those that keep (TB), those that are warmed (NB), the texts (STR), pairs that don't cast (NC) -/
def TB : List Cond := lw_tbl.filter goodWord
theorem TB_of {w : Cond} (i : Nat) (h : lw_tbl[i]? = some w) (hg : goodWord w = true) : w ∈ TB := List.mem_filter.mpr ⟨List.mem_of_getElem? h, hg⟩
theorem TB_good : ∀ w ∈ TB, w ∈ TB ∧ ((w.onTables && w.keeps) = true ∨ ∃ ty, w = .arrayClass ty) := fun w h => ⟨h, good_of_word (List.mem_filter.mp h).2⟩
def nbw : Cond → Bool
  | .fieldLinkNest _ _ _ _ _ _ => true
  | .methodLinkNest _ _ _ _ => true
  | .castable _ _ => true
  | .declares _ => true
  | _ => false
def NB : List Cond := lw_tbl.filter nbw
theorem NB_of {w : Cond} (i : Nat) (h : lw_tbl[i]? = some w) (hg : nbw w = true) : w ∈ NB := List.mem_filter.mpr ⟨List.mem_of_getElem? h, hg⟩
theorem NB_ok : ∀ w ∈ NB, w.onTables = true := by
  intro w h
  have h2 := (List.mem_filter.mp h).2
  cases w <;> first | rfl | (simp [nbw] at h2)
theorem NB_warm {s U : State} (hW : s.WarmedH U.vm) (h : ∀ w ∈ NB, va_Nw w s) : ∀ w ∈ NB, va_Nw w U := by
  intro w hw
  have h1 := h w hw
  have h2 := (List.mem_filter.mp hw).2
  cases w <;> first | exact h1.warmF hW | exact h1.warmM hW | exact h1.warmC hW | exact h1.warmD hW | (simp [nbw] at h2)
def STR : List (String × Nat × String) := [("TrackNights", 418, "section is not 0 to 19"), ("TrackNights", 74, "speed is not 0 to 160"), ("TrackNights", 428, "trains is not 0 to 40"), ("TrackNights", 86, "heat is not -20 to 60"), ("TrackNights", 88, "days is not 1 to 60"), ("TrackNights", 92, "the day would be above 2000"), ("TrackNights", 336, "track is not 0 or 1"), ("TrackNights", 424, "from or to is not 0 to 9"), ("TrackNights", 426, "to is below from"), ("TrackNights", 102, "drift is not -2 to 2"), ("TrackNights", 108, "there were 12 measures"), ("TrackNights", 142, "kind is not 0 to 2"), ("TrackNights", 144, "life is not 0 to 99"), ("TrackNights", 146, "there are 4 machines"), ("TrackNights", 164, "day is less than 5 later, or above 2000"), ("TrackNights", 166, "hours is not 2 to 8"), ("TrackNights", 168, "there were 16 possessions"), ("TrackNights", 174, "another possession of that day has a section in common"), ("TrackNights", 422, "no such possession"), ("TrackNights", 194, "the possession is not booked"), ("TrackNights", 230, "end is not 0 or 1"), ("TrackNights", 232, "its day is not this one"), ("TrackNights", 237, "that end is marked"), ("TrackNights", 245, "not both ends are marked"), ("TrackNights", 253, "the possession is not taken"), ("TrackNights", 262, "sight is not 50 to 2000"), ("TrackNights", 292, "what is not 0 to 7"), ("TrackNights", 320, "what is not 0 to 9"), ("TrackNights", 334, "what is not 0 to 16"), ("TrackNights", 366, "the possession is neither booked nor taken"), ("TrackNights", 304, "what is not 0 to 4"), ("TrackNights", 356, "days is not 1 to 200"), ("TrackNights", 420, "no such machine"), ("TrackNights", 315, "what is not 0 to 3"), ("TrackNights", 189, "the section is not in the possession"), ("TrackNights", 199, "there are 6 works"), ("TrackNights", 214, "the works would take too long"), ("TrackNights", 220, "the machine is in another possession of that day")]
def NC : List (String × String) := []
theorem va_AOA.moved {ty : FieldType} {u U : State} (hvm : u.vm.Alike U.vm) (h : va_AOA ty u) : va_AOA ty U := by
  unfold va_AOA Cond.before Cond.holds at h ⊢
  simp only [Cond.value, beq_iff_eq, hvm.findClass] at h ⊢
  cases hf : u.vm.findClass (FieldType.array ty).toString with
  | none => rw [hf] at h; cases h
  | some comp =>
    rw [hf, Option.bind_some] at h
    rw [Option.bind_some]
    have hi : (U.vm.classes.findIdx? fun (x : Class) => match x.kind with | .array component _ => component == comp | _ => false) = (u.vm.classes.findIdx? fun (x : Class) => match x.kind with | .array component _ => component == comp | _ => false) := by
      have g1 := va_idx_bare U.vm comp
      have g2 := va_idx_bare u.vm comp
      first | rw [hvm.bare_eq] at g2 | rw [← hvm.bare_eq] at g2
      exact g1.symm.trans g2
    refine (congrArg (fun o : Option Nat => (o.bind (fun c => (U.vm.classes[c]?).map fun (k : Class) => match k.kind with | .array _ ty9 => decide (ty9 = FieldType.array ty) && decide (u.vm.findClass ("[" ++ (FieldType.array ty).toString) = some c) | _ => false))) hi).trans ?_
    refine Eq.trans ?_ h
    show Option.bind _ _ = Option.bind _ _
    cases hc : (u.vm.classes.findIdx? fun (x : Class) => match x.kind with | .array component _ => component == comp | _ => false) with
    | none => rfl
    | some c =>
      have h2 := (congrArg (fun o : Option Nat => (o.bind (fun c => (u.vm.classes[c]?).map fun (k : Class) => match k.kind with | .array _ ty9 => decide (ty9 = FieldType.array ty) && decide (u.vm.findClass ("[" ++ (FieldType.array ty).toString) = some c) | _ => false))) hc).symm.trans h
      rw [Option.bind_some] at h2
      rw [Option.bind_some, Option.bind_some]
      cases hk : u.vm.classes[c]? with
      | none => rw [hk] at h2; cases h2
      | some k =>
        obtain ⟨k', hk', he⟩ := hvm.2.2 _ _ hk
        rw [hk', Option.map_some, Option.map_some, he]
        rfl
/-- what is said of the tables besides -/
def EX (mi : Nat) (U : State) : Prop := va_AO "TrackNights$Section" U ∧ va_AO "TrackNights$Values" U ∧ va_AO "java/lang/Object" U ∧ va_AOA .int U ∧ True ∧ True ∧ va_Mi "[Ljava/lang/Object;" mi U ∧ va_Dc U ∧ ∀ q ∈ NC, va_Nc q.1 q.2 U
theorem EX.moved {mi : Nat} {u U : State} (hvm : u.vm.Alike U.vm) (h : EX mi u) : EX mi U := by
  obtain ⟨h1, h2, h3, h4, h5, h6, h7, h8, h9⟩ := h
  exact ⟨h1.moved hvm, h2.moved hvm, h3.moved hvm, h4.moved hvm, trivial, trivial, h7.moved hvm, h8.moved hvm, fun q hq => (h9 q hq).moved hvm⟩
