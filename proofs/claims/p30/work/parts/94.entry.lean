/-! what holds at the law's entry -/
theorem LT_1 {w : Cond} (i : Nat) (h : tables_1_1[i]? = some w) : w ∈ lw_tbl := List.mem_append_right _ (List.mem_append_left _ (List.mem_of_getElem? h))
theorem LT_2 {w : Cond} (i : Nat) (h : tables_1_2[i]? = some w) : w ∈ lw_tbl := List.mem_append_right _ (List.mem_append_right _ (List.mem_append_left _ (List.mem_of_getElem? h)))
theorem LT_3 {w : Cond} (i : Nat) (h : tables_1_3[i]? = some w) : w ∈ lw_tbl := List.mem_append_right _ (List.mem_append_right _ (List.mem_append_right _ (List.mem_append_left _ (List.mem_of_getElem? h))))
theorem LT_4 {w : Cond} (i : Nat) (h : tables_1_4[i]? = some w) : w ∈ lw_tbl := List.mem_append_right _ (List.mem_append_right _ (List.mem_append_right _ (List.mem_append_right _ (List.mem_of_getElem? h))))
theorem ty_o {s : State} {A : Array Value} {C : String} (h : (Cond.arrayOver (.object C)).before A s = true) : ∃ cA : ClassId, ArrOfT s cA (.object C) ∧ va_RA s cA (.object C) := by
  obtain ⟨comp, c, k, h1, h2, h3, h4, h5⟩ := Cond.arrayOver_spec h
  exact ⟨c, fun n z => ⟨fun k h => (by cases h), k, h3, comp, h4⟩, k, comp, h3, h4, h1, h5⟩
theorem ty_a {s : State} {A : Array Value} {t : FieldType} (h : (Cond.arrayOver (.array t)).before A s = true) : ∃ cA : ClassId, ArrOfT s cA (.array t) ∧ va_RA s cA (.array t) := by
  have h : (Cond.arrayOver (.array t)).holds A s none s [] = true := h
  simp only [Cond.holds, Cond.value, beq_iff_eq] at h
  cases hc : s.vm.findClass (FieldType.array t).toString with
  | none => simp [hc] at h
  | some comp =>
    simp only [hc, Option.bind_some, Option.bind_eq_some_iff, Option.map_eq_some_iff] at h
    obtain ⟨c, hi, k, hk, hb⟩ := h
    cases hkind : k.kind with
    | array component ty =>
      rw [hkind] at hb
      simp at hb
      exact ⟨c, fun n z => ⟨fun k h => (by cases h), k, hk, component, by rw [hkind, hb.1]⟩, hb.2⟩
    | _ => rw [hkind] at hb; simp at hb
theorem ty_int {s : State} {A : Array Value} (h : (Cond.arrayClass .int).before A s = true) : ∃ cA : ClassId, ArrOfT s cA .int ∧ va_RA s cA .int := by
  obtain ⟨c, k, comp, h1, h2, h3⟩ := Cond.arrayClass_spec h
  exact ⟨c, fun n z => ⟨fun k h => (by cases h), k, h2, comp, h3⟩, h1⟩
theorem str_ok {s : State} {A : Array Value} {own tx : String} {k : Nat} (h : (Cond.stringRef own k tx).before A s = true) : ∃ a, vk_R own k tx a s := by
  have hcur : ∃ cur, s.vm.findClass own = some cur := by
    have h1 := h
    simp only [Cond.before, Cond.holds, Cond.value] at h1
    cases hc : s.vm.findClass own with
    | none => simp [hc] at h1
    | some cur => exact ⟨cur, rfl⟩
  obtain ⟨cur, hcur⟩ := hcur
  obtain ⟨k, cf, i, a, -, -, -, -, -, h2⟩ := Cond.stringRef_spec hcur h
  exact ⟨a, vk_R.of h h2⟩
theorem eq_len {A : Array Value} {s : State} {tm : Term} {z : Int32} (h : (Cond.eq (.length tm) (.int z)).before A s = true) : (Term.length tm).eval A s none [] s = some (.int z) := by
  cases hv : (Term.length tm).eval A s none [] s with
  | none => simp [Cond.before, Cond.holds, Cond.value, hv] at h
  | some w =>
    have hz : (Term.int z).eval A s none [] s = some (.int z) := rfl
    simp only [Cond.before, Cond.holds, Cond.value, hv, hz] at h
    cases w <;> simp_all
set_option maxRecDepth 100000 in
theorem str_in : ∀ q ∈ STR, Cond.stringRef q.1 q.2.1 q.2.2 ∈ lw_tbl := by
  unfold STR
  exact List.forall_mem_cons.mpr ⟨(LT_1 205 rfl), List.forall_mem_cons.mpr ⟨(LT_2 5 rfl), List.forall_mem_cons.mpr ⟨(LT_2 20 rfl), List.forall_mem_cons.mpr ⟨(LT_2 21 rfl), List.forall_mem_cons.mpr ⟨(LT_2 22 rfl), List.forall_mem_cons.mpr ⟨(LT_2 32 rfl), List.forall_mem_cons.mpr ⟨(LT_2 149 rfl), List.forall_mem_cons.mpr ⟨(LT_2 150 rfl), List.forall_mem_cons.mpr ⟨(LT_2 151 rfl), List.forall_mem_cons.mpr ⟨(LT_2 152 rfl), List.forall_mem_cons.mpr ⟨(LT_2 153 rfl), List.forall_mem_cons.mpr ⟨(LT_2 239 rfl), List.forall_mem_cons.mpr ⟨(LT_3 0 rfl), List.forall_mem_cons.mpr ⟨(LT_3 1 rfl), List.forall_mem_cons.mpr ⟨(LT_3 29 rfl), List.forall_mem_cons.mpr ⟨(LT_3 30 rfl), List.forall_mem_cons.mpr ⟨(LT_3 31 rfl), List.forall_mem_cons.mpr ⟨(LT_3 40 rfl), List.forall_mem_cons.mpr ⟨(LT_3 95 rfl), List.forall_mem_cons.mpr ⟨(LT_3 96 rfl), List.forall_mem_cons.mpr ⟨(LT_3 101 rfl), List.forall_mem_cons.mpr ⟨(LT_3 102 rfl), List.forall_mem_cons.mpr ⟨(LT_3 107 rfl), List.forall_mem_cons.mpr ⟨(LT_3 120 rfl), List.forall_mem_cons.mpr ⟨(LT_3 125 rfl), List.forall_mem_cons.mpr ⟨(LT_3 130 rfl), List.forall_mem_cons.mpr ⟨(LT_3 151 rfl), List.forall_mem_cons.mpr ⟨(LT_3 160 rfl), List.forall_mem_cons.mpr ⟨(LT_3 198 rfl), List.forall_mem_cons.mpr ⟨(LT_3 211 rfl), List.forall_mem_cons.mpr ⟨(LT_3 228 rfl), List.forall_mem_cons.mpr ⟨(LT_4 18 rfl), List.forall_mem_cons.mpr ⟨(LT_4 35 rfl), List.forall_mem_cons.mpr ⟨(LT_4 36 rfl), List.forall_mem_cons.mpr ⟨(LT_4 58 rfl), List.forall_mem_cons.mpr ⟨(LT_4 59 rfl), List.forall_mem_cons.mpr ⟨(LT_4 60 rfl), List.forall_mem_cons.mpr ⟨(LT_4 69 rfl), (fun _ h => absurd h List.not_mem_nil)⟩⟩⟩⟩⟩⟩⟩⟩⟩⟩⟩⟩⟩⟩⟩⟩⟩⟩⟩⟩⟩⟩⟩⟩⟩⟩⟩⟩⟩⟩⟩⟩⟩⟩⟩⟩⟩⟩
set_option maxRecDepth 100000 in
theorem cls_ok {s : State} {A : Array Value} (hTB : ∀ w ∈ TB, w.before A s = true) : ∀ q ∈ vwCl, ∃ (c : ClassId) (i : Nat → Nat), u_Kn s q.1 q.2.1 q.2.2 c i := by
  unfold vwCl
  exact List.forall_mem_cons.mpr ⟨u_known (n := 3) hTB inJx4a65c (hTB _ (TB_1 34 rfl rfl)), List.forall_mem_cons.mpr ⟨u_known (n := 3) hTB inJx4a65c (hTB _ (TB_1 34 rfl rfl)), List.forall_mem_cons.mpr ⟨u_known (n := 4) hTB inX0 (hTB _ (TB_3 2 rfl rfl)), List.forall_mem_cons.mpr ⟨u_known (n := 4) hTB inX1 (hTB _ (TB_2 155 rfl rfl)), List.forall_mem_cons.mpr ⟨u_known (n := 10) hTB inX2 (hTB _ (TB_3 41 rfl rfl)), List.forall_mem_cons.mpr ⟨u_known (n := 5) hTB inX3 (hTB _ (TB_1 84 rfl rfl)), List.forall_mem_cons.mpr ⟨u_known (n := 3) hTB inX4 (hTB _ (TB_1 60 rfl rfl)), List.forall_mem_cons.mpr ⟨u_known (n := 3) hTB inX5 (hTB _ (TB_4 70 rfl rfl)), List.forall_mem_cons.mpr ⟨u_known (n := 13) hTB inX6 (hTB _ (TB_1 24 rfl rfl)), (fun _ h => absurd h List.not_mem_nil)⟩⟩⟩⟩⟩⟩⟩⟩⟩
set_option maxHeartbeats 2000000 in
set_option maxRecDepth 100000 in
theorem ev_ok {s : State} {b : Nat} (hts : ∀ w ∈ lw_tbl, w.before #[Value.ref b] s = true) (hgv : (Jvm.Cond.and given_1 narrow_1).before #[Value.ref b] s = true) : ∃ Γ : Gw, Γ.2.2.1 = s.heap.size ∧ EV Γ s s.heap := by
  have hs := flat_of_before _ hgv
  have hTB : ∀ w ∈ TB, w.before #[Value.ref b] s = true := fun w hw => hts w (List.mem_filter.mp hw).1
  have hcl := cls_ok hTB
  have hk : ∀ k : Nat, ∃ p : ClassId × (Nat → Nat), ∀ q : vw_C, vwCl[k]? = some q → u_Kn s q.1 q.2.1 q.2.2 p.1 p.2 := by
    intro k
    cases h : vwCl[k]? with
    | none => exact ⟨(0, fun _ => 0), fun q hq => by cases hq⟩
    | some q0 =>
      obtain ⟨c, i, hci⟩ := hcl q0 (List.mem_of_getElem? h)
      exact ⟨(c, i), fun q hq => by cases hq; exact hci⟩
  obtain ⟨f, hf⟩ := Classical.axiomOfChoice hk
  obtain ⟨t0, g0⟩ := ty_int (hts _ (LT_4 109 rfl))
  obtain ⟨t1, g1⟩ := ty_o (C := "java/lang/Object") (hts _ (LT_2 227 rfl))
  obtain ⟨t2, g2⟩ := ty_o (C := "TrackNights$Section") (hts _ (LT_1 32 rfl))
  obtain ⟨t3, g3⟩ := ty_o (C := "TrackNights$Values") (hts _ (LT_2 161 rfl))
  obtain ⟨t4, g4⟩ := ty_a (t := .int) (hts _ (LT_4 112 rfl))
  have hA : ∀ a : Nat, a < s.heap.size → ¬ (fun q : Nat => s.heap.size ≤ q) a := fun a ha => Nat.not_le.mpr ha
  obtain ⟨e0, he0, hT0⟩ := va_Tof (A := fun q : Nat => s.heap.size ≤ q) (N := 0) (f := fun _ => .null) (tm := .static "java/util/ArrayList" "DEFAULTCAPACITY_EMPTY_ELEMENTDATA" "[Ljava/lang/Object;") (ty := .object "java/lang/Object") (by decide) (hs _ (by decide +kernel)) (eq_len (hs _ (by decide +kernel))) (fun j hj => absurd hj (Nat.not_lt_zero _)) hA
  obtain ⟨mi, hmi⟩ := va_Mi.of (C := "[Ljava/lang/Object;") (hs _ (by decide +kernel))
  refine ⟨((fun k => (f k).1, fun k => (f k).2), (fun k => match k with | 0 => t0 | 1 => t1 | 2 => t2 | 3 => t3 | _ => t4), s.heap.size, e0, mi), rfl, ⟨fun c q hq => hf c q hq, ?_⟩, fun w hw => va_Nw.of (NB_ok w hw) (hts w (List.mem_filter.mp hw).1), fun q hq => str_ok (hts _ (str_in q hq)), ?_, ?_, ?_, hT0, Nat.le_refl _, ?_⟩
  · intro k q hq
    match k, hq with
    | 0, hq => cases hq; exact g0
    | 1, hq => cases hq; exact g1
    | 2, hq => cases hq; exact g2
    | 3, hq => cases hq; exact g3
    | 4, hq => cases hq; exact g4
    | k + 5, hq => simp at hq
  · exact vx_Zqof (hts _ (LT_1 191 rfl)) (hts _ (LT_1 7 rfl)) (hs _ (by decide +kernel)) hA
  · exact vx_Zqof (hts _ (LT_1 193 rfl)) (hts _ (LT_1 7 rfl)) (hs _ (by decide +kernel)) hA
  · exact va_Zof (hts _ (LT_1 46 rfl)) (hts _ (LT_1 4 rfl)) he0 hA
  · refine ⟨va_AO.of (hts _ (LT_1 32 rfl)), va_AO.of (hts _ (LT_2 161 rfl)), va_AO.of (hts _ (LT_2 227 rfl)), hts (.arrayOver (.array .int)) (LT_4 112 rfl), trivial, trivial, hmi, va_Dc.of (hts _ (LT_4 129 rfl)), fun q hq => absurd hq List.not_mem_nil⟩
