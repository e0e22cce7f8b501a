/-! The reference: what is known, why, of.. -/
theorem kn_1 {S : St} {k : Nat} {s less : Int32} (h : ¬ eS S k 0 = s / 10) : kn S k s less = none := if_neg (fun z => h z.symm)
theorem kn_2 {S : St} {k : Nat} {s less : Int32} (h : rm10 s - less < 0 ∨ (¬ rm10 s - less < 0 ∧ ¬ rm10 s - less < 10)) : kn S k s less = none := by
  unfold kn
  split
  · rcases h with q | ⟨q, q2⟩
    · rw [if_pos q]
    · rw [if_neg q, if_neg q2]
  · rfl
theorem kn_4 {S : St} {k j : Nat} {s less : Int32} (h : eS S k 0 = s / 10) (hj : j < 10) (he : rm10 s - less = nI j) : kn S k s less = if eS S k (5 + 4 * j) = 1 then some j else none := by
  have h0 : ¬ nI j < 0 := nI_nn (by omega)
  have h1 : nI j < 10 := nI_lt (b := 10) hj (by decide)
  unfold kn
  rw [if_pos h.symm, he, if_neg h0, if_pos h1, nI_clamp (by omega)]
theorem kn_v {S : St} {k j : Nat} {s less : Int32} (h : kn S k s less = some j) : rm10 s - less = nI j := by
  unfold kn at h
  split at h
  · split at h
    · cases h
    · split at h
      · split at h
        · rename_i h1 h2 h3 h4
          cases h
          obtain ⟨i, hi, e⟩ := ix_lt (n := 10) rfl (by decide) h2 h3
          rw [e, nI_clamp (by omega)]
        · cases h
      · cases h
  · cases h
def knR (S : St) (k : Nat) : Nat → Int32 := fun x => if x = 4 then sS S k 4 else if x < 3 then knV S x (kby S (nI k) (nE S)) else 0
theorem o1_n {o : Option (Nat × Nat)} (h : o1 o = -1) (hn : ∀ m j, o = some (m, j) → m < 1000) : o = none := by
  rcases o with _ | ⟨m, j⟩
  · rfl
  · exfalso
    have h1 := hn m j rfl
    have h2 : nI m = -1 := h
    have h3 := congrArg Int32.toInt h2
    rw [nI_toInt (by omega)] at h3
    have h4 : (-1 : Int32).toInt = -1 := rfl
    omega
theorem o1_s {o : Option (Nat × Nat)} (h : ¬ o1 o = -1) : ∃ m j, o = some (m, j) := by
  rcases o with _ | ⟨m, j⟩
  · exact absurd rfl h
  · exact ⟨m, j, rfl⟩
theorem rowK0 {S : St} {k : Nat} (h : kby S (nI k) (nE S) = none) : rset (fun _ => 0) 4 (sS S k 4) = knR S k := by
  funext x
  unfold rset knR
  rw [h]
  by_cases a : x = 4
  · rw [if_pos a, if_pos a]
  · rw [if_neg a, if_neg a]
    split <;> rfl
theorem rowK1 {S : St} {k m j : Nat} (h : kby S (nI k) (nE S) = some (m, j)) (hm : m < nE S) : va_cpy (eS S m) (rset (fun _ => 0) 4 (sS S k 4)) (5 + 4 * j + 1) 0 3 = knR S k := by
  funext x
  unfold va_cpy rset knR
  rw [h]
  by_cases a : x = 4
  · rw [if_neg (by omega), if_pos a, if_pos a]
  · rw [if_neg a, if_neg a]
    by_cases b : x < 3
    · rw [if_pos (by omega), if_pos b]
      show eS S m (5 + 4 * j + 1 + (x - 0)) = eS S m (6 + x + 4 * j)
      congr 1
      omega
    · rw [if_neg (by omega), if_neg b]
theorem sp_k {S : St} {k : Nat} : sp7 (knR S k) (gl S 1) = kSp S (nI k) (sS S k 4) := rfl
theorem kn_012 {S : St} {k v : Nat} (h : v < 3) : knR S k v = knS S k v := by
  rcases (show v = 0 ∨ v = 1 ∨ v = 2 by omega) with rfl | rfl | rfl <;> rfl
theorem wy_0 {S : St} {k : Nat} {b : Int32} (h : b = 0) : s_dec (sS S k 0) (sS S k 1) (sS S k 2) (gl S 1 - sS S k 4) = wyV S k b := (if_pos h).symm
theorem wy_1 {S : St} {k : Nat} {b : Int32} (h : ¬ b = 0) : s_dec (knR S k 0) (knR S k 1) (knR S k 2) (gl S 1 - knR S k 4) = wyV S k b := (if_neg h).symm
theorem see_e {S : St} {m : Nat} {s : Int32} (hE : IvE (eS S m)) : pSee S s m ↔ eS S m 0 = s / 10 ∧ ∃ j, j < 10 ∧ rm10 s - eS S m 3 = nI j ∧ ¬ eS S m (7 + 4 * j) ≤ 0 := by
  constructor
  · rintro ⟨j, h1, h2⟩
    have hv := kn_v h1
    obtain ⟨hj, -⟩ := kn_j h1
    refine ⟨?_, j, hj, hv, h2⟩
    by_cases q : eS S m 0 = s / 10
    · exact q
    · rw [kn_1 q] at h1
      cases h1
  · rintro ⟨h0, j, hj, hv, h2⟩
    refine ⟨j, ?_, h2⟩
    rw [kn_4 h0 hj hv]
    rcases hE.2 j hj with ⟨-, a⟩ | a
    · rw [a] at h2
      exact absurd (by decide) h2
    · rw [if_pos a]
set_option maxHeartbeats 400000 in
set_option maxRecDepth 100000 in
theorem c_X7_knownBy : CtrA yX7_knownBy cX7_knownBy 5 (some .int) (rmk 3 0 0 64) (fun Γ av w post xpost => ∃ (L : LayM) (S : St), ∃ k, av = [.ref (thM L), .int (nI k)] ∧ RepM Γ L S w ∧ k < 20 ∧ Inv S ∧ post (some (.int (o1 (kby S (nI k) (nE S))))) w) := by
  refine ctr_of (by decide) ?_
  rintro g av w hG hO ⟨L, S, k, rfl, hR, hk20, hI, hk⟩
  refine ⟨Nat.le_of_ble_eq_true rfl, ?_⟩
  show X g w 0 0 0 [some (.ref (thM L)), some (.int (nI k)), none, none, none] []
  have hnE := hI.2.1.2.2
  refine x_aload_n hG (pc := 0) 0 dX7_knownBy_0 rfl rfl ?_
  refine x_getf hG (pc := 1) fl_X7_24 hR.main rfl dX7_knownBy_1 ?_
  refine x_callV hG hO (pc := 4) [] c_Jx4a65c_size_8abf5 lk_X7_64 (hR.lst (id := 0) (by decide)).1 rfl rfl ⟨by decide, by decide⟩ (Nat.le_of_ble_eq_true rfl) (by rw [hG.mc]; exact Nat.le_of_ble_eq_true rfl) (by rw [hG.ms]; exact Nat.le_of_ble_eq_true rfl) dX7_knownBy_4 ?_
  refine ⟨_, _, _, _, _, rfl, (hR.lst (id := 0) (by decide)).1, ?_⟩
  show X g _ _ _ _ _ (.int (nI (nE S)) :: _)
  refine x_iconst hG (pc := 7) 1 dX7_knownBy_7 (by decide) ?_
  refine x_isub hG (pc := 8) dX7_knownBy_8 ?_
  rw [i1_st]
  refine x_istore_n hG (pc := 9) 2 dX7_knownBy_9 rfl (Nat.le_of_ble_eq_true rfl) rfl (by dsimp only [List.set]) ?_
  refine nat_dn (P := fun m => kby S (nI k) m = kby S (nI k) (nE S) → ∀ z3 z4 : Option Value, X g w 0 0 10 [some (.ref (thM L)), some (.int (nI k)), some (.int (i1 m)), z3, z4] []) (nE S) (fun m hi ih hN z3 z4 => ?_) (nE S) (Nat.le_refl _) rfl none none
  by_cases m0 : m = 0
  · have m0x := m0
    subst m0x
    refine x_iload_n hG (pc := 10) 2 dX7_knownBy_10 rfl rfl ?_
    refine x_if_lt hG (pc := 11) 88 dX7_knownBy_11 (by decide) (fun h11 => ?_) (fun h11 => ?_)
    · refine x_iconst hG (pc := 88) (-1) dX7_knownBy_88 (by decide) ?_
      refine x_ireturn hG (pc := 89) dX7_knownBy_89 rfl rfl (by rw [hG.mc]; exact Nat.le_of_ble_eq_true rfl) (by rw [hG.ms]; exact Nat.le_of_ble_eq_true rfl) ?_
      exact fin_i (show (-1 : Int32) = _ by rw [← hN]; rfl) hk
    · exact absurd (by decide) h11
  · obtain ⟨mm, rfl⟩ := Nat.exists_eq_succ_of_ne_zero m0
    have hmn : mm < nE S := hi
    refine x_iload_n hG (pc := 10) 2 dX7_knownBy_10 rfl rfl ?_
    refine x_if_lt hG (pc := 11) 88 dX7_knownBy_11 (by decide) (fun h11 => ?_) (fun h11 => ?_)
    · exact absurd h11 (nI_nn (by omega))
    · refine x_aload_n hG (pc := 14) 0 dX7_knownBy_14 rfl rfl ?_
      refine x_getf hG (pc := 15) fl_X7_24 hR.main rfl dX7_knownBy_15 ?_
      refine x_iload_n hG (pc := 18) 2 dX7_knownBy_18 rfl rfl ?_
      refine x_callV hG hO (pc := 19) [_] c_Jx4a65c_get_915e3 lk_X7_52 (hR.lst (id := 0) (by decide)).1 rfl rfl ⟨by decide, by decide⟩ (Nat.le_of_ble_eq_true rfl) (by rw [hG.mc]; exact Nat.le_of_ble_eq_true rfl) (by rw [hG.ms]; exact Nat.le_of_ble_eq_true rfl) dX7_knownBy_19 ?_
      refine ⟨_, _, _, _, _, _, _, _, mm, rfl, (hR.lst (id := 0) (by decide)), hmn, ?_⟩
      show X g _ _ _ _ _ (.ref (L.1 (55, mm, 0)) :: _)
      refine x_castI hG (pc := 22) ckl_X7_56 (hR.mea hmn) dX7_knownBy_22 ?_
      refine x_astore_n hG (pc := 25) 3 dX7_knownBy_25 rfl (Nat.le_of_ble_eq_true rfl) rfl (by dsimp only [List.set]) ?_
      refine x_iload_n hG (pc := 26) 1 dX7_knownBy_26 rfl rfl ?_
      refine x_bipush hG (pc := 27) 10 dX7_knownBy_27 (by decide) ?_
      refine x_irem hG (pc := 29) dX7_knownBy_29 (by decide) ?_
      show X g _ _ _ _ _ (.int (rm10 (nI k)) :: _)
      refine x_aload_n hG (pc := 30) 3 dX7_knownBy_30 rfl rfl ?_
      refine x_iconst hG (pc := 31) 4 dX7_knownBy_31 (by decide) ?_
      refine x_ialdN hG (pc := 32) (c := 4) (hR.mea hmn) (by decide) dX7_knownBy_32 ?_
      refine x_iconst hG (pc := 33) 1 dX7_knownBy_33 (by decide) ?_
      refine x_icmp_ne hG (pc := 34) 43 dX7_knownBy_34 (by decide) (fun h34 => ?_) (fun h34 => ?_)
      · refine x_iconst hG (pc := 43) 0 dX7_knownBy_43 (by decide) ?_
        refine x_isub hG (pc := 44) dX7_knownBy_44 ?_
        have hls : lss S mm = 0 := (if_pos ((hI.2.2.2.2.1 mm hmn).1.resolve_right h34))
        rw [show rm10 (nI k) - 0 = rm10 (nI k) - lss S mm from by rw [hls]]
        refine x_istore hG (pc := 45) dX7_knownBy_45 (Nat.le_of_ble_eq_true rfl) rfl (by dsimp only [List.set]) ?_
        refine x_aload_n hG (pc := 47) 3 dX7_knownBy_47 rfl rfl ?_
        refine x_iconst hG (pc := 48) 0 dX7_knownBy_48 (by decide) ?_
        refine x_ialdN hG (pc := 49) (c := 0) (hR.mea hmn) (by decide) dX7_knownBy_49 ?_
        refine x_iload_n hG (pc := 50) 1 dX7_knownBy_50 rfl rfl ?_
        refine x_bipush hG (pc := 51) 10 dX7_knownBy_51 (by decide) ?_
        refine x_idiv hG (pc := 53) dX7_knownBy_53 (by decide) ?_
        refine x_icmp_ne hG (pc := 54) 82 dX7_knownBy_54 (by decide) (fun h54 => ?_) (fun h54 => ?_)
        · have hnone : kn S mm (nI k) (lss S mm) = none := kn_1 h54
          refine x_iinc hG (pc := 82) (i1 mm) dX7_knownBy_82 rfl (Nat.le_of_ble_eq_true rfl) rfl (i1_dn mm) (by dsimp only [List.set]) ?_
          refine x_goto hG (pc := 85) 10 dX7_knownBy_85 (by decide) ?_
          have hst : kby S (nI k) (mm + 1) = kby S (nI k) mm := by simp only [kby, hnone]
          exact ih mm (Nat.lt_succ_self _) (by rw [← hst]; exact hN) _ _
        · refine x_iload hG (pc := 57) dX7_knownBy_57 rfl ?_
          refine x_iconst hG (pc := 59) 0 dX7_knownBy_59 (by decide) ?_
          refine x_bipush hG (pc := 60) 9 dX7_knownBy_60 (by decide) ?_
          refine x_callS hG hO (pc := 62) [_, _, _] c_X7_is lk_X7_68 rfl rfl ⟨by decide, by decide⟩ (Nat.le_of_ble_eq_true rfl) (by rw [hG.mc]; exact Nat.le_of_ble_eq_true rfl) (by rw [hG.ms]; exact Nat.le_of_ble_eq_true rfl) dX7_knownBy_62 ?_
          refine ⟨_, _, _, rfl, ?_⟩
          refine x_if_eq hG (pc := 65) 82 dX7_knownBy_65 (by decide) (fun h65 => ?_) (fun h65 => ?_)
          · have hnone : kn S mm (nI k) (lss S mm) = none := kn_2 (is_9f h65)
            refine x_iinc hG (pc := 82) (i1 mm) dX7_knownBy_82 rfl (Nat.le_of_ble_eq_true rfl) rfl (i1_dn mm) (by dsimp only [List.set]) ?_
            refine x_goto hG (pc := 85) 10 dX7_knownBy_85 (by decide) ?_
            have hst : kby S (nI k) (mm + 1) = kby S (nI k) mm := by simp only [kby, hnone]
            exact ih mm (Nat.lt_succ_self _) (by rw [← hst]; exact hN) _ _
          · obtain ⟨j, hj, hje, -, -⟩ := is_9 h65
            refine x_aload_n hG (pc := 68) 3 dX7_knownBy_68 rfl rfl ?_
            refine x_iconst hG (pc := 69) 5 dX7_knownBy_69 (by decide) ?_
            refine x_iconst hG (pc := 70) 4 dX7_knownBy_70 (by decide) ?_
            refine x_iload hG (pc := 71) dX7_knownBy_71 rfl ?_
            refine x_imul hG (pc := 73) dX7_knownBy_73 ?_
            refine x_iadd hG (pc := 74) dX7_knownBy_74 ?_
            refine x_ialdN hG (pc := 75) (c := 5 + 4 * j) (hR.mea hmn) (by omega) dX7_knownBy_75 ?_ (hv := (by rw [hje]; exact ix7 _))
            refine x_iconst hG (pc := 76) 1 dX7_knownBy_76 (by decide) ?_
            refine x_icmp_ne hG (pc := 77) 82 dX7_knownBy_77 (by decide) (fun h77 => ?_) (fun h77 => ?_)
            · have hnone : kn S mm (nI k) (lss S mm) = none := (kn_4 h54 hj hje).trans (if_neg h77)
              refine x_iinc hG (pc := 82) (i1 mm) dX7_knownBy_82 rfl (Nat.le_of_ble_eq_true rfl) rfl (i1_dn mm) (by dsimp only [List.set]) ?_
              refine x_goto hG (pc := 85) 10 dX7_knownBy_85 (by decide) ?_
              have hst : kby S (nI k) (mm + 1) = kby S (nI k) mm := by simp only [kby, hnone]
              exact ih mm (Nat.lt_succ_self _) (by rw [← hst]; exact hN) _ _
            · refine x_iload_n hG (pc := 80) 2 dX7_knownBy_80 rfl rfl ?_
              refine x_ireturn hG (pc := 81) dX7_knownBy_81 rfl rfl (by rw [hG.mc]; exact Nat.le_of_ble_eq_true rfl) (by rw [hG.ms]; exact Nat.le_of_ble_eq_true rfl) ?_
              have hb : kby S (nI k) (mm + 1) = some (mm, j) := by
                simp only [kby, (kn_4 h54 hj hje).trans (if_pos h77)]
              exact fin_i (show nI mm = _ by rw [← hN, hb]; rfl) hk
      · refine x_aload_n hG (pc := 37) 3 dX7_knownBy_37 rfl rfl ?_
        refine x_iconst hG (pc := 38) 3 dX7_knownBy_38 (by decide) ?_
        refine x_ialdN hG (pc := 39) (c := 3) (hR.mea hmn) (by decide) dX7_knownBy_39 ?_
        refine x_goto hG (pc := 40) 44 dX7_knownBy_40 (by decide) ?_
        refine x_isub hG (pc := 44) dX7_knownBy_44 ?_
        have hls : lss S mm = eS S mm 3 := (if_neg (by rw [h34]; decide))
        rw [show rm10 (nI k) - eS S mm 3 = rm10 (nI k) - lss S mm from by rw [hls]]
        refine x_istore hG (pc := 45) dX7_knownBy_45 (Nat.le_of_ble_eq_true rfl) rfl (by dsimp only [List.set]) ?_
        refine x_aload_n hG (pc := 47) 3 dX7_knownBy_47 rfl rfl ?_
        refine x_iconst hG (pc := 48) 0 dX7_knownBy_48 (by decide) ?_
        refine x_ialdN hG (pc := 49) (c := 0) (hR.mea hmn) (by decide) dX7_knownBy_49 ?_
        refine x_iload_n hG (pc := 50) 1 dX7_knownBy_50 rfl rfl ?_
        refine x_bipush hG (pc := 51) 10 dX7_knownBy_51 (by decide) ?_
        refine x_idiv hG (pc := 53) dX7_knownBy_53 (by decide) ?_
        refine x_icmp_ne hG (pc := 54) 82 dX7_knownBy_54 (by decide) (fun h54 => ?_) (fun h54 => ?_)
        · have hnone : kn S mm (nI k) (lss S mm) = none := kn_1 h54
          refine x_iinc hG (pc := 82) (i1 mm) dX7_knownBy_82 rfl (Nat.le_of_ble_eq_true rfl) rfl (i1_dn mm) (by dsimp only [List.set]) ?_
          refine x_goto hG (pc := 85) 10 dX7_knownBy_85 (by decide) ?_
          have hst : kby S (nI k) (mm + 1) = kby S (nI k) mm := by simp only [kby, hnone]
          exact ih mm (Nat.lt_succ_self _) (by rw [← hst]; exact hN) _ _
        · refine x_iload hG (pc := 57) dX7_knownBy_57 rfl ?_
          refine x_iconst hG (pc := 59) 0 dX7_knownBy_59 (by decide) ?_
          refine x_bipush hG (pc := 60) 9 dX7_knownBy_60 (by decide) ?_
          refine x_callS hG hO (pc := 62) [_, _, _] c_X7_is lk_X7_68 rfl rfl ⟨by decide, by decide⟩ (Nat.le_of_ble_eq_true rfl) (by rw [hG.mc]; exact Nat.le_of_ble_eq_true rfl) (by rw [hG.ms]; exact Nat.le_of_ble_eq_true rfl) dX7_knownBy_62 ?_
          refine ⟨_, _, _, rfl, ?_⟩
          refine x_if_eq hG (pc := 65) 82 dX7_knownBy_65 (by decide) (fun h65 => ?_) (fun h65 => ?_)
          · have hnone : kn S mm (nI k) (lss S mm) = none := kn_2 (is_9f h65)
            refine x_iinc hG (pc := 82) (i1 mm) dX7_knownBy_82 rfl (Nat.le_of_ble_eq_true rfl) rfl (i1_dn mm) (by dsimp only [List.set]) ?_
            refine x_goto hG (pc := 85) 10 dX7_knownBy_85 (by decide) ?_
            have hst : kby S (nI k) (mm + 1) = kby S (nI k) mm := by simp only [kby, hnone]
            exact ih mm (Nat.lt_succ_self _) (by rw [← hst]; exact hN) _ _
          · obtain ⟨j, hj, hje, -, -⟩ := is_9 h65
            refine x_aload_n hG (pc := 68) 3 dX7_knownBy_68 rfl rfl ?_
            refine x_iconst hG (pc := 69) 5 dX7_knownBy_69 (by decide) ?_
            refine x_iconst hG (pc := 70) 4 dX7_knownBy_70 (by decide) ?_
            refine x_iload hG (pc := 71) dX7_knownBy_71 rfl ?_
            refine x_imul hG (pc := 73) dX7_knownBy_73 ?_
            refine x_iadd hG (pc := 74) dX7_knownBy_74 ?_
            refine x_ialdN hG (pc := 75) (c := 5 + 4 * j) (hR.mea hmn) (by omega) dX7_knownBy_75 ?_ (hv := (by rw [hje]; exact ix7 _))
            refine x_iconst hG (pc := 76) 1 dX7_knownBy_76 (by decide) ?_
            refine x_icmp_ne hG (pc := 77) 82 dX7_knownBy_77 (by decide) (fun h77 => ?_) (fun h77 => ?_)
            · have hnone : kn S mm (nI k) (lss S mm) = none := (kn_4 h54 hj hje).trans (if_neg h77)
              refine x_iinc hG (pc := 82) (i1 mm) dX7_knownBy_82 rfl (Nat.le_of_ble_eq_true rfl) rfl (i1_dn mm) (by dsimp only [List.set]) ?_
              refine x_goto hG (pc := 85) 10 dX7_knownBy_85 (by decide) ?_
              have hst : kby S (nI k) (mm + 1) = kby S (nI k) mm := by simp only [kby, hnone]
              exact ih mm (Nat.lt_succ_self _) (by rw [← hst]; exact hN) _ _
            · refine x_iload_n hG (pc := 80) 2 dX7_knownBy_80 rfl rfl ?_
              refine x_ireturn hG (pc := 81) dX7_knownBy_81 rfl rfl (by rw [hG.mc]; exact Nat.le_of_ble_eq_true rfl) (by rw [hG.ms]; exact Nat.le_of_ble_eq_true rfl) ?_
              have hb : kby S (nI k) (mm + 1) = some (mm, j) := by
                simp only [kby, (kn_4 h54 hj hje).trans (if_pos h77)]
              exact fin_i (show nI mm = _ by rw [← hN, hb]; rfl) hk
set_option maxHeartbeats 400000 in
set_option maxRecDepth 100000 in
theorem c_X7_knownOf : CtrA yX7_knownOf cX7_knownOf 6 (some (.array .int)) (rmk 4 1 7 90) (fun Γ av w post xpost => ∃ (L : LayM) (S : St), ∃ k, av = [.ref (thM L), .int (nI k)] ∧ RepM Γ L S w ∧ k < 20 ∧ Inv S ∧ ∀ (q : Nat) (w1 : Wd), w q = none → w1 = wup w q ((61, 0, 0), aI Γ.2.1 7 (knR S k)) → post (some (.ref q)) w1) := by
  refine ctr_of (by decide) ?_
  rintro g av w hG hO ⟨L, S, k, rfl, hR, hk20, hI, hk⟩
  refine ⟨Nat.le_of_ble_eq_true rfl, ?_⟩
  show X g w 0 0 0 [some (.ref (thM L)), some (.int (nI k)), none, none, none, none] []
  have hnE := hI.2.1.2.2
  refine x_bipush hG (pc := 0) 7 dX7_knownOf_0 (by decide) ?_
  refine x_newI hG (pc := 2) (61, 0, 0) (by decide) (n := 7) (by decide) (by decide) dX7_knownOf_2 (by rw [hG.mc]; exact Nat.le_of_ble_eq_true rfl) (by rw [hG.ms]; exact Nat.le_of_ble_eq_true rfl) (fun q hfq hnq => ?_)
  refine x_gen (fun w1 e1 => ?_)
  have hq1 := (congrFun e1 q).trans wup_s
  have hR1 := hR.nw hfq e1
  refine x_astore_n hG (pc := 4) 2 dX7_knownOf_4 rfl (Nat.le_of_ble_eq_true rfl) rfl (by dsimp only [List.set]) ?_
  refine x_aload_n hG (pc := 5) 2 dX7_knownOf_5 rfl rfl ?_
  refine x_iconst hG (pc := 6) 4 dX7_knownOf_6 (by decide) ?_
  refine x_aload_n hG (pc := 7) 0 dX7_knownOf_7 rfl rfl ?_
  refine x_getf hG (pc := 8) fl_X7_11 hR1.main rfl dX7_knownOf_8 ?_
  refine x_iload_n hG (pc := 11) 1 dX7_knownOf_11 rfl rfl ?_
  refine x_aaldI hG (pc := 12) hR1.secs (vp_in_nI hk20 (by decide)) dX7_knownOf_12 ?_
  rw [nI_clamp (by omega), lE_at hk20]
  show X g _ _ _ _ _ (.ref (L.1 (52, k, 0)) :: _)
  refine x_iconst hG (pc := 13) 4 dX7_knownOf_13 (by decide) ?_
  refine x_ialdN hG (pc := 14) (c := 4) (hR1.sec hk20) (by decide) dX7_knownOf_14 ?_
  refine x_iastN hG (pc := 15) (c := 4) hq1 (by decide) dX7_knownOf_15 ?_
  refine x_gen (fun w2 e2 => ?_)
  have z2 : w2 = wup w q ((61, 0, 0), aI (gK g) 7 (rset (fun _ => 0) 4 (sS S k 4))) := by rw [e2, e1, wup_w]
  have hq2 := (congrFun z2 q).trans wup_s
  have hR2 := hR.nw hfq z2
  refine x_aload_n hG (pc := 16) 0 dX7_knownOf_16 rfl rfl ?_
  refine x_iload_n hG (pc := 17) 1 dX7_knownOf_17 rfl rfl ?_
  refine x_callV hG hO (pc := 18) [_] c_X7_knownBy lk_X7_48 hR2.main rfl rfl ⟨by decide, by decide⟩ (Nat.le_of_ble_eq_true rfl) (by rw [hG.mc]; exact Nat.le_of_ble_eq_true rfl) (by rw [hG.ms]; exact Nat.le_of_ble_eq_true rfl) dX7_knownOf_18 ?_
  refine ⟨L, S, k, rfl, hR2, hk20, hI, ?_⟩
  refine x_istore_n hG (pc := 21) 3 dX7_knownOf_21 rfl (Nat.le_of_ble_eq_true rfl) rfl (by dsimp only [List.set]) ?_
  refine x_iload_n hG (pc := 22) 3 dX7_knownOf_22 rfl rfl ?_
  refine x_iconst hG (pc := 23) (-1) dX7_knownOf_23 (by decide) ?_
  refine x_icmp_ne hG (pc := 24) 29 dX7_knownOf_24 (by decide) (fun h24 => ?_) (fun h24 => ?_)
  · obtain ⟨m, j, hb⟩ := o1_s h24
    obtain ⟨hm, hkn⟩ := kby_sp hb
    have hjv := kn_v hkn
    obtain ⟨hj, -⟩ := kn_j hkn
    rw [hb]
    refine x_aload_n hG (pc := 29) 0 dX7_knownOf_29 rfl rfl ?_
    refine x_getf hG (pc := 30) fl_X7_24 hR2.main rfl dX7_knownOf_30 ?_
    refine x_iload_n hG (pc := 33) 3 dX7_knownOf_33 rfl rfl ?_
    refine x_callV hG hO (pc := 34) [_] c_Jx4a65c_get_915e3 lk_X7_52 (hR2.lst (id := 0) (by decide)).1 rfl rfl ⟨by decide, by decide⟩ (Nat.le_of_ble_eq_true rfl) (by rw [hG.mc]; exact Nat.le_of_ble_eq_true rfl) (by rw [hG.ms]; exact Nat.le_of_ble_eq_true rfl) dX7_knownOf_34 ?_
    refine ⟨_, _, _, _, _, _, _, _, m, rfl, (hR2.lst (id := 0) (by decide)), hm, ?_⟩
    show X g _ _ _ _ _ (.ref (L.1 (55, m, 0)) :: _)
    refine x_castI hG (pc := 37) ckl_X7_56 (hR2.mea hm) dX7_knownOf_37 ?_
    refine x_astore hG (pc := 40) dX7_knownOf_40 (Nat.le_of_ble_eq_true rfl) rfl (by dsimp only [List.set]) ?_
    refine x_iconst hG (pc := 42) 5 dX7_knownOf_42 (by decide) ?_
    refine x_iconst hG (pc := 43) 4 dX7_knownOf_43 (by decide) ?_
    refine x_iload_n hG (pc := 44) 1 dX7_knownOf_44 rfl rfl ?_
    refine x_bipush hG (pc := 45) 10 dX7_knownOf_45 (by decide) ?_
    refine x_irem hG (pc := 47) dX7_knownOf_47 (by decide) ?_
    show X g _ _ _ _ _ (.int (rm10 (nI k)) :: _)
    refine x_aload hG (pc := 48) dX7_knownOf_48 rfl ?_
    refine x_iconst hG (pc := 50) 4 dX7_knownOf_50 (by decide) ?_
    refine x_ialdN hG (pc := 51) (c := 4) (hR2.mea hm) (by decide) dX7_knownOf_51 ?_
    refine x_iconst hG (pc := 52) 1 dX7_knownOf_52 (by decide) ?_
    refine x_icmp_ne hG (pc := 53) 63 dX7_knownOf_53 (by decide) (fun h53 => ?_) (fun h53 => ?_)
    · refine x_iconst hG (pc := 63) 0 dX7_knownOf_63 (by decide) ?_
      refine x_isub hG (pc := 64) dX7_knownOf_64 ?_
      rw [show rm10 (nI k) - 0 = nI j from by rw [← hjv, show lss S m = 0 from if_pos ((hI.2.2.2.2.1 m hm).1.resolve_right h53)]]
      refine x_imul hG (pc := 65) dX7_knownOf_65 ?_
      refine x_iadd hG (pc := 66) dX7_knownOf_66 ?_
      rw [ix7]
      refine x_istore hG (pc := 67) dX7_knownOf_67 (Nat.le_of_ble_eq_true rfl) rfl (by dsimp only [List.set]) ?_
      refine x_aload hG (pc := 69) dX7_knownOf_69 rfl ?_
      refine x_iload hG (pc := 71) dX7_knownOf_71 rfl ?_
      refine x_iconst hG (pc := 73) 1 dX7_knownOf_73 (by decide) ?_
      refine x_iadd hG (pc := 74) dX7_knownOf_74 ?_
      rw [nI_1]
      refine x_aload_n hG (pc := 75) 2 dX7_knownOf_75 rfl rfl ?_
      refine x_iconst hG (pc := 76) 0 dX7_knownOf_76 (by decide) ?_
      refine x_iconst hG (pc := 77) 3 dX7_knownOf_77 (by decide) ?_
      refine x_copyI hG (pc := 78) ml_X7_58 (hR2.mea hm) hq2 (nI_nn (by omega)) (by decide) (by decide) (by rw [nI_clamp (by omega)]; show _ + 3 ≤ 45; omega) (by decide) dX7_knownOf_78 (Nat.le_of_ble_eq_true rfl) (Nat.le_of_ble_eq_true rfl) ?_
      rw [nI_clamp (by omega)]
      refine x_gen (fun w3 e3 => ?_)
      have z3 : w3 = wup w q ((61, 0, 0), aI (gK g) 7 (knR S k)) := by
        rw [e3, z2, wup_w, ← rowK1 hb hm]
        rfl
      refine x_aload_n hG (pc := 81) 2 dX7_knownOf_81 rfl rfl ?_
      refine x_areturn hG (pc := 82) dX7_knownOf_82 rfl (Or.inr ⟨_, rfl⟩) (by rw [hG.mc]; exact Nat.le_of_ble_eq_true rfl) (by rw [hG.ms]; exact Nat.le_of_ble_eq_true rfl) ?_
      exact hk q w3 hfq z3
    · refine x_aload hG (pc := 56) dX7_knownOf_56 rfl ?_
      refine x_iconst hG (pc := 58) 3 dX7_knownOf_58 (by decide) ?_
      refine x_ialdN hG (pc := 59) (c := 3) (hR2.mea hm) (by decide) dX7_knownOf_59 ?_
      refine x_goto hG (pc := 60) 64 dX7_knownOf_60 (by decide) ?_
      refine x_isub hG (pc := 64) dX7_knownOf_64 ?_
      rw [show rm10 (nI k) - eS S m 3 = nI j from by rw [← hjv, show lss S m = eS S m 3 from if_neg (by rw [h53]; decide)]]
      refine x_imul hG (pc := 65) dX7_knownOf_65 ?_
      refine x_iadd hG (pc := 66) dX7_knownOf_66 ?_
      rw [ix7]
      refine x_istore hG (pc := 67) dX7_knownOf_67 (Nat.le_of_ble_eq_true rfl) rfl (by dsimp only [List.set]) ?_
      refine x_aload hG (pc := 69) dX7_knownOf_69 rfl ?_
      refine x_iload hG (pc := 71) dX7_knownOf_71 rfl ?_
      refine x_iconst hG (pc := 73) 1 dX7_knownOf_73 (by decide) ?_
      refine x_iadd hG (pc := 74) dX7_knownOf_74 ?_
      rw [nI_1]
      refine x_aload_n hG (pc := 75) 2 dX7_knownOf_75 rfl rfl ?_
      refine x_iconst hG (pc := 76) 0 dX7_knownOf_76 (by decide) ?_
      refine x_iconst hG (pc := 77) 3 dX7_knownOf_77 (by decide) ?_
      refine x_copyI hG (pc := 78) ml_X7_58 (hR2.mea hm) hq2 (nI_nn (by omega)) (by decide) (by decide) (by rw [nI_clamp (by omega)]; show _ + 3 ≤ 45; omega) (by decide) dX7_knownOf_78 (Nat.le_of_ble_eq_true rfl) (Nat.le_of_ble_eq_true rfl) ?_
      rw [nI_clamp (by omega)]
      refine x_gen (fun w3 e3 => ?_)
      have z3 : w3 = wup w q ((61, 0, 0), aI (gK g) 7 (knR S k)) := by
        rw [e3, z2, wup_w, ← rowK1 hb hm]
        rfl
      refine x_aload_n hG (pc := 81) 2 dX7_knownOf_81 rfl rfl ?_
      refine x_areturn hG (pc := 82) dX7_knownOf_82 rfl (Or.inr ⟨_, rfl⟩) (by rw [hG.mc]; exact Nat.le_of_ble_eq_true rfl) (by rw [hG.ms]; exact Nat.le_of_ble_eq_true rfl) ?_
      exact hk q w3 hfq z3
  · have hb := o1_n h24 (fun m j h => by have := (kby_sp h).1; omega)
    refine x_aload_n hG (pc := 27) 2 dX7_knownOf_27 rfl rfl ?_
    refine x_areturn hG (pc := 28) dX7_knownOf_28 rfl (Or.inr ⟨_, rfl⟩) (by rw [hG.mc]; exact Nat.le_of_ble_eq_true rfl) (by rw [hG.ms]; exact Nat.le_of_ble_eq_true rfl) ?_
    rw [rowK0 hb] at z2
    exact hk q w2 hfq z2
set_option maxHeartbeats 400000 in
set_option maxRecDepth 100000 in
theorem c_X7_knownNow : CtrA yX7_knownNow cX7_knownNow 4 (some .int) (rmk 5 1 7 115) (fun Γ av w post xpost => ∃ (L : LayM) (S : St), ∃ k v, av = [.ref (thM L), .int (nI k), .int (nI v)] ∧ RepM Γ L S w ∧ k < 20 ∧ v < 5 ∧ Inv S ∧ (∀ w1, RepM Γ L S w1 → FrC w w1 → post (some (.int (knS S k v))) w1)) := by
  refine ctr_of (by decide) ?_
  rintro g av w hG hO ⟨L, S, k, v, rfl, hR, hk20, hv, hI, hk⟩
  refine ⟨Nat.le_of_ble_eq_true rfl, ?_⟩
  show X g w 0 0 0 [some (.ref (thM L)), some (.int (nI k)), some (.int (nI v)), none] []
  refine x_iload_n hG (pc := 0) 2 dX7_knownNow_0 rfl rfl ?_
  refine x_iconst hG (pc := 1) 4 dX7_knownNow_1 (by decide) ?_
  refine x_icmp_ne hG (pc := 2) 11 dX7_knownNow_2 (by decide) (fun h2 => ?_) (fun h2 => ?_)
  · have hv4 : ¬ v = 4 := fun z => h2 (by rw [z]; rfl)
    refine x_aload_n hG (pc := 11) 0 dX7_knownNow_11 rfl rfl ?_
    refine x_iload_n hG (pc := 12) 1 dX7_knownNow_12 rfl rfl ?_
    refine x_callV hG hO (pc := 13) [_] c_X7_knownOf lk_X7_174 hR.main rfl rfl ⟨by decide, by decide⟩ (Nat.le_of_ble_eq_true rfl) (by rw [hG.mc]; exact Nat.le_of_ble_eq_true rfl) (by rw [hG.ms]; exact Nat.le_of_ble_eq_true rfl) dX7_knownNow_13 ?_
    refine ⟨L, S, k, rfl, hR, hk20, hI, fun q w1 hfq e1 => ?_⟩
    have hq1 := (congrFun e1 q).trans wup_s
    have hR1 := hR.nw hfq e1
    have hF1 := FrC.rf.nw hfq e1
    refine x_astore_n hG (pc := 16) 3 dX7_knownNow_16 rfl (Nat.le_of_ble_eq_true rfl) rfl (by dsimp only [List.set]) ?_
    refine x_iload_n hG (pc := 17) 2 dX7_knownNow_17 rfl rfl ?_
    refine x_iconst hG (pc := 18) 3 dX7_knownNow_18 (by decide) ?_
    refine x_icmp_ge hG (pc := 19) 28 dX7_knownNow_19 (by decide) (fun h19 => ?_) (fun h19 => ?_)
    · have hv3 : v = 3 := by
        rcases Nat.lt_or_ge v 3 with z | z
        · exact absurd h19 (nI_ge (b := 3) z (by decide))
        · omega
      refine x_aload_n hG (pc := 28) 3 dX7_knownNow_28 rfl rfl ?_
      refine x_aload_n hG (pc := 29) 0 dX7_knownNow_29 rfl rfl ?_
      refine x_getf hG (pc := 30) fl_X7_27 hR1.main rfl dX7_knownNow_30 ?_
      refine x_callS hG hO (pc := 33) [_, _] c_X7_speedOf lk_X7_44 rfl rfl ⟨by decide, by decide⟩ (Nat.le_of_ble_eq_true rfl) (by rw [hG.mc]; exact Nat.le_of_ble_eq_true rfl) (by rw [hG.ms]; exact Nat.le_of_ble_eq_true rfl) dX7_knownNow_33 ?_
      refine ⟨_, _, _, _, rfl, hq1, ?_⟩
      refine x_ireturn hG (pc := 36) dX7_knownNow_36 rfl rfl (by rw [hG.mc]; exact Nat.le_of_ble_eq_true rfl) (by rw [hG.ms]; exact Nat.le_of_ble_eq_true rfl) ?_
      subst hv3
      exact hk w1 hR1 hF1
    · have hv3 : v < 3 := by
        rcases Nat.lt_or_ge v 3 with z | z
        · exact z
        · exact absurd (nI_le (a := 3) z (by omega)) h19
      refine x_aload_n hG (pc := 22) 3 dX7_knownNow_22 rfl rfl ?_
      refine x_iload_n hG (pc := 23) 2 dX7_knownNow_23 rfl rfl ?_
      refine x_ialdN hG (pc := 24) (c := v) hq1 (by omega) dX7_knownNow_24 ?_ (hv := rfl)
      refine x_goto hG (pc := 25) 36 dX7_knownNow_25 (by decide) ?_
      refine x_ireturn hG (pc := 36) dX7_knownNow_36 rfl rfl (by rw [hG.mc]; exact Nat.le_of_ble_eq_true rfl) (by rw [hG.ms]; exact Nat.le_of_ble_eq_true rfl) ?_
      exact fin_i (kn_012 hv3) (hk w1 hR1 hF1)
  · have hv4 : v = 4 := (nI_eq (by omega) (by decide)).mp (show nI v = nI 4 from h2)
    refine x_aload_n hG (pc := 5) 0 dX7_knownNow_5 rfl rfl ?_
    refine x_iload_n hG (pc := 6) 1 dX7_knownNow_6 rfl rfl ?_
    refine x_callV hG hO (pc := 7) [_] c_X7_knownBy lk_X7_48 (by first | assumption | exact hR.main) rfl rfl ⟨by decide, by decide⟩ (Nat.le_of_ble_eq_true rfl) (by rw [hG.mc]; exact Nat.le_of_ble_eq_true rfl) (by rw [hG.ms]; exact Nat.le_of_ble_eq_true rfl) dX7_knownNow_7 ?_
    refine ⟨L, S, k, rfl, hR, hk20, hI, ?_⟩
    refine x_ireturn hG (pc := 10) dX7_knownNow_10 rfl rfl (by rw [hG.mc]; exact Nat.le_of_ble_eq_true rfl) (by rw [hG.ms]; exact Nat.le_of_ble_eq_true rfl) ?_
    subst hv4
    exact hk w hR FrC.rf
set_option maxHeartbeats 400000 in
set_option maxRecDepth 100000 in
theorem c_X7_whyNow : CtrA yX7_whyNow cX7_whyNow 3 (some .int) (rmk 5 1 7 115) (fun Γ av w post xpost => ∃ (L : LayM) (S : St), ∃ k b, av = [.ref (thM L), .int (nI k), .int b] ∧ RepM Γ L S w ∧ k < 20 ∧ Inv S ∧ (∀ w1, RepM Γ L S w1 → FrC w w1 → post (some (.int (wyV S k b))) w1)) := by
  refine ctr_of (by decide) ?_
  rintro g av w hG hO ⟨L, S, k, b, rfl, hR, hk20, hI, hk⟩
  refine ⟨Nat.le_of_ble_eq_true rfl, ?_⟩
  show X g w 0 0 0 [some (.ref (thM L)), some (.int (nI k)), some (.int b)] []
  refine x_iload_n hG (pc := 0) 2 dX7_whyNow_0 rfl rfl ?_
  refine x_if_eq hG (pc := 1) 12 dX7_whyNow_1 (by decide) (fun h1 => ?_) (fun h1 => ?_)
  · refine x_aload_n hG (pc := 12) 0 dX7_whyNow_12 rfl rfl ?_
    refine x_getf hG (pc := 13) fl_X7_11 hR.main rfl dX7_whyNow_13 ?_
    refine x_iload_n hG (pc := 16) 1 dX7_whyNow_16 rfl rfl ?_
    refine x_aaldI hG (pc := 17) hR.secs (vp_in_nI hk20 (by decide)) dX7_whyNow_17 ?_
    rw [nI_clamp (by omega), lE_at hk20]
    show X g _ _ _ _ _ (.ref (L.1 (52, k, 0)) :: _)
    refine x_aload_n hG (pc := 18) 0 dX7_whyNow_18 rfl rfl ?_
    refine x_getf hG (pc := 19) fl_X7_27 hR.main rfl dX7_whyNow_19 ?_
    refine x_callS hG hO (pc := 22) [_, _] c_X7_whyOf lk_X7_181 rfl rfl ⟨by decide, by decide⟩ (Nat.le_of_ble_eq_true rfl) (by rw [hG.mc]; exact Nat.le_of_ble_eq_true rfl) (by rw [hG.ms]; exact Nat.le_of_ble_eq_true rfl) dX7_whyNow_22 ?_
    refine ⟨_, _, _, _, rfl, hR.sec hk20, ?_⟩
    refine x_ireturn hG (pc := 25) dX7_whyNow_25 rfl rfl (by rw [hG.mc]; exact Nat.le_of_ble_eq_true rfl) (by rw [hG.ms]; exact Nat.le_of_ble_eq_true rfl) ?_
    exact fin_i (wy_0 h1) (hk w hR FrC.rf)
  · refine x_aload_n hG (pc := 4) 0 dX7_whyNow_4 rfl rfl ?_
    refine x_iload_n hG (pc := 5) 1 dX7_whyNow_5 rfl rfl ?_
    refine x_callV hG hO (pc := 6) [_] c_X7_knownOf lk_X7_174 hR.main rfl rfl ⟨by decide, by decide⟩ (Nat.le_of_ble_eq_true rfl) (by rw [hG.mc]; exact Nat.le_of_ble_eq_true rfl) (by rw [hG.ms]; exact Nat.le_of_ble_eq_true rfl) dX7_whyNow_6 ?_
    refine ⟨L, S, k, rfl, hR, hk20, hI, fun q w1 hfq e1 => ?_⟩
    have hq1 := (congrFun e1 q).trans wup_s
    have hR1 := hR.nw hfq e1
    have hF1 := FrC.rf.nw hfq e1
    refine x_goto hG (pc := 9) 18 dX7_whyNow_9 (by decide) ?_
    refine x_aload_n hG (pc := 18) 0 dX7_whyNow_18 rfl rfl ?_
    refine x_getf hG (pc := 19) fl_X7_27 hR1.main rfl dX7_whyNow_19 ?_
    refine x_callS hG hO (pc := 22) [_, _] c_X7_whyOf lk_X7_181 rfl rfl ⟨by decide, by decide⟩ (Nat.le_of_ble_eq_true rfl) (by rw [hG.mc]; exact Nat.le_of_ble_eq_true rfl) (by rw [hG.ms]; exact Nat.le_of_ble_eq_true rfl) dX7_whyNow_22 ?_
    refine ⟨_, _, _, _, rfl, hq1, ?_⟩
    refine x_ireturn hG (pc := 25) dX7_whyNow_25 rfl rfl (by rw [hG.mc]; exact Nat.le_of_ble_eq_true rfl) (by rw [hG.ms]; exact Nat.le_of_ble_eq_true rfl) ?_
    exact fin_i (wy_1 h1) (hk w1 hR1 hF1)
set_option maxHeartbeats 400000 in
set_option maxRecDepth 100000 in
theorem c_X7_ofSectionNow : CtrA yX7_ofSectionNow cX7_ofSectionNow 3 (some .int) (rmk 2 0 0 56) (fun Γ av w post xpost => ∃ (L : LayM) (S : St), ∃ k v, av = [.ref (thM L), .int (nI k), .int (nI v)] ∧ RepM Γ L S w ∧ k < 20 ∧ v < 8 ∧ post (some (.int (ofS S k v))) w) := by
  refine ctr_of (by decide) ?_
  rintro g av w hG hO ⟨L, S, k, v, rfl, hR, hk20, hv, hk⟩
  refine ⟨Nat.le_of_ble_eq_true rfl, ?_⟩
  show X g w 0 0 0 [some (.ref (thM L)), some (.int (nI k)), some (.int (nI v))] []
  refine x_iload_n hG (pc := 0) 2 dX7_ofSectionNow_0 rfl rfl ?_
  refine x_bipush hG (pc := 1) 7 dX7_ofSectionNow_1 (by decide) ?_
  refine x_icmp_ge hG (pc := 3) 17 dX7_ofSectionNow_3 (by decide) (fun h3 => ?_) (fun h3 => ?_)
  · have hv7 : v = 7 := by
      rcases Nat.lt_or_ge v 7 with z | z
      · exact absurd h3 (nI_ge (b := 7) z (by decide))
      · omega
    refine x_aload_n hG (pc := 17) 0 dX7_ofSectionNow_17 rfl rfl ?_
    refine x_getf hG (pc := 18) fl_X7_11 hR.main rfl dX7_ofSectionNow_18 ?_
    refine x_iload_n hG (pc := 21) 1 dX7_ofSectionNow_21 rfl rfl ?_
    refine x_aaldI hG (pc := 22) hR.secs (vp_in_nI hk20 (by decide)) dX7_ofSectionNow_22 ?_
    rw [nI_clamp (by omega), lE_at hk20]
    show X g _ _ _ _ _ (.ref (L.1 (52, k, 0)) :: _)
    refine x_aload_n hG (pc := 23) 0 dX7_ofSectionNow_23 rfl rfl ?_
    refine x_getf hG (pc := 24) fl_X7_27 hR.main rfl dX7_ofSectionNow_24 ?_
    refine x_callS hG hO (pc := 27) [_, _] c_X7_speedOf lk_X7_44 rfl rfl ⟨by decide, by decide⟩ (Nat.le_of_ble_eq_true rfl) (by rw [hG.mc]; exact Nat.le_of_ble_eq_true rfl) (by rw [hG.ms]; exact Nat.le_of_ble_eq_true rfl) dX7_ofSectionNow_27 ?_
    refine ⟨_, _, _, _, rfl, hR.sec hk20, ?_⟩
    refine x_ireturn hG (pc := 30) dX7_ofSectionNow_30 rfl rfl (by rw [hG.mc]; exact Nat.le_of_ble_eq_true rfl) (by rw [hG.ms]; exact Nat.le_of_ble_eq_true rfl) ?_
    subst hv7
    exact fin_i ofS7.symm hk
  · have hv7 : v < 7 := by
      rcases Nat.lt_or_ge v 7 with z | z
      · exact z
      · exact absurd (nI_le (a := 7) z (by omega)) h3
    refine x_aload_n hG (pc := 6) 0 dX7_ofSectionNow_6 rfl rfl ?_
    refine x_getf hG (pc := 7) fl_X7_11 hR.main rfl dX7_ofSectionNow_7 ?_
    refine x_iload_n hG (pc := 10) 1 dX7_ofSectionNow_10 rfl rfl ?_
    refine x_aaldI hG (pc := 11) hR.secs (vp_in_nI hk20 (by decide)) dX7_ofSectionNow_11 ?_
    rw [nI_clamp (by omega), lE_at hk20]
    show X g _ _ _ _ _ (.ref (L.1 (52, k, 0)) :: _)
    refine x_iload_n hG (pc := 12) 2 dX7_ofSectionNow_12 rfl rfl ?_
    refine x_ialdN hG (pc := 13) (c := v) (hR.sec hk20) (by omega) dX7_ofSectionNow_13 ?_ (hv := rfl)
    refine x_goto hG (pc := 14) 30 dX7_ofSectionNow_14 (by decide) ?_
    refine x_ireturn hG (pc := 30) dX7_ofSectionNow_30 rfl rfl (by rw [hG.mc]; exact Nat.le_of_ble_eq_true rfl) (by rw [hG.ms]; exact Nat.le_of_ble_eq_true rfl) ?_
    exact fin_i (if_pos hv7).symm hk
set_option maxHeartbeats 400000 in
set_option maxRecDepth 100000 in
theorem c_X7_ofNightNow : CtrA yX7_ofNightNow cX7_ofNightNow 3 (some .int) (rmk 3 0 0 64) (fun Γ av w post xpost => ∃ (L : LayM) (S : St), ∃ k v, av = [.ref (thM L), .int (nI k), .int (nI v)] ∧ RepM Γ L S w ∧ k < nN S ∧ v < 10 ∧ (gS S k 8 = 0 ∨ gS S k 8 = 1 ∨ gS S k 8 = 2 ∨ gS S k 8 = 3) ∧ post (some (.int (ofN S k v))) w) := by
  refine ctr_of (by decide) ?_
  rintro g av w hG hO ⟨L, S, k, v, rfl, hR, hkn, hv, hm8, hk⟩
  refine ⟨Nat.le_of_ble_eq_true rfl, ?_⟩
  show X g w 0 0 0 [some (.ref (thM L)), some (.int (nI k)), some (.int (nI v))] []
  refine x_iload_n hG (pc := 0) 2 dX7_ofNightNow_0 rfl rfl ?_
  refine x_bipush hG (pc := 1) 8 dX7_ofNightNow_1 (by decide) ?_
  refine x_icmp_ne hG (pc := 3) 26 dX7_ofNightNow_3 (by decide) (fun h3 => ?_) (fun h3 => ?_)
  · have hv8 : ¬ v = 8 := fun z => h3 (by rw [z]; rfl)
    refine x_aload_n hG (pc := 26) 0 dX7_ofNightNow_26 rfl rfl ?_
    refine x_getf hG (pc := 27) fl_X7_21 hR.main rfl dX7_ofNightNow_27 ?_
    refine x_iload_n hG (pc := 30) 1 dX7_ofNightNow_30 rfl rfl ?_
    refine x_callV hG hO (pc := 31) [_] c_Jx4a65c_get_915e3 lk_X7_52 (hR.lst (id := 2) (by decide)).1 rfl rfl ⟨by decide, by decide⟩ (Nat.le_of_ble_eq_true rfl) (by rw [hG.mc]; exact Nat.le_of_ble_eq_true rfl) (by rw [hG.ms]; exact Nat.le_of_ble_eq_true rfl) dX7_ofNightNow_31 ?_
    refine ⟨_, _, _, _, _, _, _, _, k, rfl, (hR.lst (id := 2) (by decide)), hkn, ?_⟩
    show X g _ _ _ _ _ (.ref (L.1 (57, k, 0)) :: _)
    refine x_castI hG (pc := 34) ckl_X7_56 (hR.ngt hkn) dX7_ofNightNow_34 ?_
    refine x_iload_n hG (pc := 37) 2 dX7_ofNightNow_37 rfl rfl ?_
    refine x_ialdN hG (pc := 38) (c := v) (hR.ngt hkn) (by omega) dX7_ofNightNow_38 ?_ (hv := rfl)
    refine x_ireturn hG (pc := 39) dX7_ofNightNow_39 rfl rfl (by rw [hG.mc]; exact Nat.le_of_ble_eq_true rfl) (by rw [hG.ms]; exact Nat.le_of_ble_eq_true rfl) ?_
    exact fin_i (if_neg hv8).symm hk
  · have hv8 : v = 8 := (nI_eq (by omega) (by decide)).mp (show nI v = nI 8 from h3)
    refine x_aload_n hG (pc := 6) 0 dX7_ofNightNow_6 rfl rfl ?_
    refine x_getf hG (pc := 7) fl_X7_21 hR.main rfl dX7_ofNightNow_7 ?_
    refine x_iload_n hG (pc := 10) 1 dX7_ofNightNow_10 rfl rfl ?_
    refine x_callV hG hO (pc := 11) [_] c_Jx4a65c_get_915e3 lk_X7_52 (hR.lst (id := 2) (by decide)).1 rfl rfl ⟨by decide, by decide⟩ (Nat.le_of_ble_eq_true rfl) (by rw [hG.mc]; exact Nat.le_of_ble_eq_true rfl) (by rw [hG.ms]; exact Nat.le_of_ble_eq_true rfl) dX7_ofNightNow_11 ?_
    refine ⟨_, _, _, _, _, _, _, _, k, rfl, (hR.lst (id := 2) (by decide)), hkn, ?_⟩
    show X g _ _ _ _ _ (.ref (L.1 (57, k, 0)) :: _)
    refine x_castI hG (pc := 14) ckl_X7_56 (hR.ngt hkn) dX7_ofNightNow_14 ?_
    refine x_bipush hG (pc := 17) 8 dX7_ofNightNow_17 (by decide) ?_
    refine x_ialdN hG (pc := 19) (c := 8) (hR.ngt hkn) (by decide) dX7_ofNightNow_19 ?_
    refine x_callS hG hO (pc := 20) [_] c_J6_bitCount_0f7a4 lk_X7_145 rfl rfl ⟨by decide, by decide⟩ (Nat.le_of_ble_eq_true rfl) (by rw [hG.mc]; exact Nat.le_of_ble_eq_true rfl) (by rw [hG.ms]; exact Nat.le_of_ble_eq_true rfl) dX7_ofNightNow_20 ?_
    refine ⟨_, rfl, hm8, ?_⟩
    refine x_goto hG (pc := 23) 39 dX7_ofNightNow_23 (by decide) ?_
    refine x_ireturn hG (pc := 39) dX7_ofNightNow_39 rfl rfl (by rw [hG.mc]; exact Nat.le_of_ble_eq_true rfl) (by rw [hG.ms]; exact Nat.le_of_ble_eq_true rfl) ?_
    subst hv8
    exact fin_i (if_pos rfl).symm hk
set_option maxHeartbeats 400000 in
set_option maxRecDepth 100000 in
theorem c_X7_seeNow : CtrA yX7_seeNow cX7_seeNow 5 (some .int) (rmk 3 0 0 64) (fun Γ av w post xpost => ∃ (L : LayM) (S : St), ∃ k, av = [.ref (thM L), .int (nI k)] ∧ RepM Γ L S w ∧ k < 20 ∧ Inv S ∧ post (some (.int (seV S k))) w) := by
  refine ctr_of (by decide) ?_
  rintro g av w hG hO ⟨L, S, k, rfl, hR, hk20, hI, hk⟩
  refine ⟨Nat.le_of_ble_eq_true rfl, ?_⟩
  show X g w 0 0 0 [some (.ref (thM L)), some (.int (nI k)), none, none, none] []
  have hnE := hI.2.1.2.2
  refine x_iconst hG (pc := 0) 0 dX7_seeNow_0 (by decide) ?_
  refine x_istore_n hG (pc := 1) 2 dX7_seeNow_1 rfl (Nat.le_of_ble_eq_true rfl) rfl (by dsimp only [List.set]) ?_
  refine nat_down (P := fun m => (∀ j, j < m → ¬ pSee S (nI k) j) → ∀ z3 z4 : Option Value, X g w 0 0 2 [some (.ref (thM L)), some (.int (nI k)), some (.int (nI m)), z3, z4] []) (nE S) (fun m hi ih hN z3 z4 => ?_) 0 (Nat.zero_le _) (fun j h => absurd h (Nat.not_lt_zero _)) none none
  refine x_iload_n hG (pc := 2) 2 dX7_seeNow_2 rfl rfl ?_
  refine x_aload_n hG (pc := 3) 0 dX7_seeNow_3 rfl rfl ?_
  refine x_getf hG (pc := 4) fl_X7_24 hR.main rfl dX7_seeNow_4 ?_
  refine x_callV hG hO (pc := 7) [] c_Jx4a65c_size_8abf5 lk_X7_64 (hR.lst (id := 0) (by decide)).1 rfl rfl ⟨by decide, by decide⟩ (Nat.le_of_ble_eq_true rfl) (by rw [hG.mc]; exact Nat.le_of_ble_eq_true rfl) (by rw [hG.ms]; exact Nat.le_of_ble_eq_true rfl) dX7_seeNow_7 ?_
  refine ⟨_, _, _, _, _, rfl, (hR.lst (id := 0) (by decide)).1, ?_⟩
  show X g _ _ _ _ _ (.int (nI (nE S)) :: _)
  refine x_icmp_ge hG (pc := 10) 77 dX7_seeNow_10 (by decide) (fun h10 => ?_) (fun h10 => ?_)
  · have hmn : m = nE S := by
      rcases Nat.lt_or_ge m (nE S) with q | q
      · exact absurd h10 (nI_ge (b := nE S) q (by omega))
      · omega
    refine x_iconst hG (pc := 77) (-1) dX7_seeNow_77 (by decide) ?_
    refine x_ireturn hG (pc := 78) dX7_seeNow_78 rfl rfl (by rw [hG.mc]; exact Nat.le_of_ble_eq_true rfl) (by rw [hG.ms]; exact Nat.le_of_ble_eq_true rfl) ?_
    exact fin_i (show (-1 : Int32) = _ by unfold seV; rw [fo_f (by rw [← hmn]; exact hN)]; rfl) hk
  · have hmn : m < nE S := by
      rcases Nat.lt_or_ge m (nE S) with q | q
      · exact q
      · exact absurd (nI_le q (by omega)) h10
    have hse := see_e (s := nI k) (hI.2.2.2.2.1 m hmn)
    refine x_aload_n hG (pc := 13) 0 dX7_seeNow_13 rfl rfl ?_
    refine x_getf hG (pc := 14) fl_X7_24 hR.main rfl dX7_seeNow_14 ?_
    refine x_iload_n hG (pc := 17) 2 dX7_seeNow_17 rfl rfl ?_
    refine x_callV hG hO (pc := 18) [_] c_Jx4a65c_get_915e3 lk_X7_52 (hR.lst (id := 0) (by decide)).1 rfl rfl ⟨by decide, by decide⟩ (Nat.le_of_ble_eq_true rfl) (by rw [hG.mc]; exact Nat.le_of_ble_eq_true rfl) (by rw [hG.ms]; exact Nat.le_of_ble_eq_true rfl) dX7_seeNow_18 ?_
    refine ⟨_, _, _, _, _, _, _, _, m, rfl, (hR.lst (id := 0) (by decide)), hmn, ?_⟩
    show X g _ _ _ _ _ (.ref (L.1 (55, m, 0)) :: _)
    refine x_castI hG (pc := 21) ckl_X7_56 (hR.mea hmn) dX7_seeNow_21 ?_
    refine x_astore_n hG (pc := 24) 3 dX7_seeNow_24 rfl (Nat.le_of_ble_eq_true rfl) rfl (by dsimp only [List.set]) ?_
    refine x_iload_n hG (pc := 25) 1 dX7_seeNow_25 rfl rfl ?_
    refine x_bipush hG (pc := 26) 10 dX7_seeNow_26 (by decide) ?_
    refine x_irem hG (pc := 28) dX7_seeNow_28 (by decide) ?_
    show X g _ _ _ _ _ (.int (rm10 (nI k)) :: _)
    refine x_aload_n hG (pc := 29) 3 dX7_seeNow_29 rfl rfl ?_
    refine x_iconst hG (pc := 30) 3 dX7_seeNow_30 (by decide) ?_
    refine x_ialdN hG (pc := 31) (c := 3) (hR.mea hmn) (by decide) dX7_seeNow_31 ?_
    refine x_isub hG (pc := 32) dX7_seeNow_32 ?_
    refine x_istore hG (pc := 33) dX7_seeNow_33 (Nat.le_of_ble_eq_true rfl) rfl (by dsimp only [List.set]) ?_
    refine x_aload_n hG (pc := 35) 3 dX7_seeNow_35 rfl rfl ?_
    refine x_iconst hG (pc := 36) 0 dX7_seeNow_36 (by decide) ?_
    refine x_ialdN hG (pc := 37) (c := 0) (hR.mea hmn) (by decide) dX7_seeNow_37 ?_
    refine x_iload_n hG (pc := 38) 1 dX7_seeNow_38 rfl rfl ?_
    refine x_bipush hG (pc := 39) 10 dX7_seeNow_39 (by decide) ?_
    refine x_idiv hG (pc := 41) dX7_seeNow_41 (by decide) ?_
    refine x_icmp_ne hG (pc := 42) 71 dX7_seeNow_42 (by decide) (fun h42 => ?_) (fun h42 => ?_)
    · have hno : ¬ pSee S (nI k) m := fun q => h42 (hse.mp q).1
      refine x_iinc hG (pc := 71) (nI (m + 1)) dX7_seeNow_71 rfl (Nat.le_of_ble_eq_true rfl) rfl (nI_1' m) (by dsimp only [List.set]) ?_
      refine x_goto hG (pc := 74) 2 dX7_seeNow_74 (by decide) ?_
      exact ih (m + 1) (by omega) (by omega) (all_s hN hno) _ _
    · refine x_iload hG (pc := 45) dX7_seeNow_45 rfl ?_
      refine x_iconst hG (pc := 47) 0 dX7_seeNow_47 (by decide) ?_
      refine x_bipush hG (pc := 48) 9 dX7_seeNow_48 (by decide) ?_
      refine x_callS hG hO (pc := 50) [_, _, _] c_X7_is lk_X7_68 rfl rfl ⟨by decide, by decide⟩ (Nat.le_of_ble_eq_true rfl) (by rw [hG.mc]; exact Nat.le_of_ble_eq_true rfl) (by rw [hG.ms]; exact Nat.le_of_ble_eq_true rfl) dX7_seeNow_50 ?_
      refine ⟨_, _, _, rfl, ?_⟩
      refine x_if_eq hG (pc := 53) 71 dX7_seeNow_53 (by decide) (fun h53 => ?_) (fun h53 => ?_)
      · have hno : ¬ pSee S (nI k) m := (by
          intro q
          obtain ⟨-, j, hj, hv, -⟩ := hse.mp q
          rcases is_9f h53 with z | ⟨z, z2⟩
          · rw [hv] at z; exact nI_nn (by omega) z
          · rw [hv] at z2; exact z2 (nI_lt (b := 10) hj (by decide)))
        refine x_iinc hG (pc := 71) (nI (m + 1)) dX7_seeNow_71 rfl (Nat.le_of_ble_eq_true rfl) rfl (nI_1' m) (by dsimp only [List.set]) ?_
        refine x_goto hG (pc := 74) 2 dX7_seeNow_74 (by decide) ?_
        exact ih (m + 1) (by omega) (by omega) (all_s hN hno) _ _
      · obtain ⟨j, hj, hje, -, -⟩ := is_9 h53
        refine x_aload_n hG (pc := 56) 3 dX7_seeNow_56 rfl rfl ?_
        refine x_iconst hG (pc := 57) 5 dX7_seeNow_57 (by decide) ?_
        refine x_iconst hG (pc := 58) 4 dX7_seeNow_58 (by decide) ?_
        refine x_iload hG (pc := 59) dX7_seeNow_59 rfl ?_
        refine x_imul hG (pc := 61) dX7_seeNow_61 ?_
        refine x_iadd hG (pc := 62) dX7_seeNow_62 ?_
        refine x_iconst hG (pc := 63) 2 dX7_seeNow_63 (by decide) ?_
        refine x_iadd hG (pc := 64) dX7_seeNow_64 ?_
        refine x_ialdN hG (pc := 65) (c := 7 + 4 * j) (hR.mea hmn) (by omega) dX7_seeNow_65 ?_ (hv := (by rw [hje]; exact ix8 2 _))
        refine x_if_le hG (pc := 66) 71 dX7_seeNow_66 (by decide) (fun h66 => ?_) (fun h66 => ?_)
        · have hno : ¬ pSee S (nI k) m := (by
            intro q
            obtain ⟨-, i, hi, hv, h9⟩ := hse.mp q
            have e : i = j := (nI_eq (by omega) (by omega)).mp (hv.symm.trans hje)
            subst e
            exact h9 h66)
          refine x_iinc hG (pc := 71) (nI (m + 1)) dX7_seeNow_71 rfl (Nat.le_of_ble_eq_true rfl) rfl (nI_1' m) (by dsimp only [List.set]) ?_
          refine x_goto hG (pc := 74) 2 dX7_seeNow_74 (by decide) ?_
          exact ih (m + 1) (by omega) (by omega) (all_s hN hno) _ _
        · refine x_iload_n hG (pc := 69) 2 dX7_seeNow_69 rfl rfl ?_
          refine x_ireturn hG (pc := 70) dX7_seeNow_70 rfl rfl (by rw [hG.mc]; exact Nat.le_of_ble_eq_true rfl) (by rw [hG.ms]; exact Nat.le_of_ble_eq_true rfl) ?_
          exact fin_i (show nI m = _ by unfold seV; rw [fo_t hmn hN (hse.mpr ⟨h42, j, hj, hje, h66⟩)]; rfl) hk
set_option maxHeartbeats 400000 in
set_option maxRecDepth 100000 in
theorem v_X7_whyNow : CtrA yX7_whyNow cX7_whyNow 3 (some .int) (rmk 3 0 0 79) (fun Γ av w post xpost => ∃ (L : LayM) (S : St), ∃ k, av = [.ref (thM L), .int (nI k), .int 0] ∧ RepM Γ L S w ∧ k < 20 ∧ post (some (.int (wyV S k 0))) w) := by
  refine ctr_of (by decide) ?_
  rintro g av w hG hO ⟨L, S, k, rfl, hR, hk20, hk⟩
  refine ⟨Nat.le_of_ble_eq_true rfl, ?_⟩
  show X g w 0 0 0 [some (.ref (thM L)), some (.int (nI k)), some (.int 0)] []
  refine x_iload_n hG (pc := 0) 2 dX7_whyNow_0 rfl rfl ?_
  refine x_if_eq hG (pc := 1) 12 dX7_whyNow_1 (by decide) (fun h1 => ?_) (fun h1 => ?_)
  · refine x_aload_n hG (pc := 12) 0 dX7_whyNow_12 rfl rfl ?_
    refine x_getf hG (pc := 13) fl_X7_11 hR.main rfl dX7_whyNow_13 ?_
    refine x_iload_n hG (pc := 16) 1 dX7_whyNow_16 rfl rfl ?_
    refine x_aaldI hG (pc := 17) hR.secs (vp_in_nI hk20 (by decide)) dX7_whyNow_17 ?_
    rw [nI_clamp (by omega), lE_at hk20]
    show X g _ _ _ _ _ (.ref (L.1 (52, k, 0)) :: _)
    refine x_aload_n hG (pc := 18) 0 dX7_whyNow_18 rfl rfl ?_
    refine x_getf hG (pc := 19) fl_X7_27 hR.main rfl dX7_whyNow_19 ?_
    refine x_callS hG hO (pc := 22) [_, _] c_X7_whyOf lk_X7_181 rfl rfl ⟨by decide, by decide⟩ (Nat.le_of_ble_eq_true rfl) (by rw [hG.mc]; exact Nat.le_of_ble_eq_true rfl) (by rw [hG.ms]; exact Nat.le_of_ble_eq_true rfl) dX7_whyNow_22 ?_
    refine ⟨_, _, _, _, rfl, hR.sec hk20, ?_⟩
    refine x_ireturn hG (pc := 25) dX7_whyNow_25 rfl rfl (by rw [hG.mc]; exact Nat.le_of_ble_eq_true rfl) (by rw [hG.ms]; exact Nat.le_of_ble_eq_true rfl) ?_
    exact fin_i (wy_0 rfl) hk
  · exact absurd rfl h1
