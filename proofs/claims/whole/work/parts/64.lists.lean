/-! The reference: its lists grow; what it looks for in them -/
theorem RepM.aM {Γ : Gw} {L : LayM} {S : St} {w w1 : Wd} (h : RepM Γ L S w) {q e1 cap1 : Nat} {md : Int32} {f : Nat → Int32} (hAL : AL Γ w1 (L.1 (53, 1, 0)) (53, 1, 0) (54, 1, 0) e1 cap1 md (nM S + 1) (fun j => if j = nM S then q else L.1 (55 + 1, j, 0))) (hq : w1 q = some ((56, nM S, 0), aI Γ.2.1 4 f))
    (hF : ∀ (b : Nat) (x : Tg × va_E), w b = some x → x.1 ≠ (53, 1, 0) → x.1 ≠ (54, 1, 0) → w1 b = some x) : ∃ L1 : LayM, thM L1 = thM L ∧ thr L1 = thr L ∧ sumM L1 = sumM L ∧ RepM Γ L1 (addM S f) w1 := by
  obtain ⟨L1, hL1, hL2, he, hc, hm, ht, hs⟩ : ∃ L1 : LayM, L1.1 (56, nM S, 0) = q ∧ (∀ t, t ≠ (56, nM S, 0) → L1.1 t = L.1 t) ∧ L1.2.1 = rset L.2.1 1 e1 ∧ L1.2.2.1 = rset L.2.2.1 1 cap1 ∧ L1.2.2.2.1 = rset L.2.2.2.1 1 md ∧ thr L1 = thr L ∧ sumM L1 = sumM L :=
    ⟨((fun t => if t = (56, nM S, 0) then q else L.1 t), rset L.2.1 1 e1, rset L.2.2.1 1 cap1, rset L.2.2.2.1 1 md, thr L, sumM L), if_pos rfl, fun t g => if_neg g, rfl, rfl, rfl, rfl, rfl⟩
  have hk : ∀ k i j, k ≠ 56 → L1.1 (k, i, j) = L.1 (k, i, j) := fun k i j g => hL2 _ (fun z => g (congrArg Prod.fst z))
  have hi : ∀ i, i ≠ nM S → L1.1 (56, i, 0) = L.1 (56, i, 0) := fun i g => hL2 _ (fun z => g (congrArg (fun y : Tg => y.2.1) z))
  refine ⟨L1, hk _ _ _ (by decide), ht, hs, ?_, ?_, fun i g => ?_, fun id g => ?_, ?_, ?_, ?_⟩
  · rw [oYL, hk 50 0 0 (by decide), hk 51 0 0 (by decide), hk 53 0 0 (by decide), hk 53 1 0 (by decide), hk 53 2 0 (by decide), ht, hs]
    exact hF _ _ h.main (by intro z; cases z) (by intro z; cases z)
  · rw [hk 51 0 0 (by decide), show (fun j => L1.1 (52, j, 0)) = (fun j => L.1 (52, j, 0)) from funext fun j => hk 52 j 0 (by decide)]
    exact hF _ _ h.secs (by intro z; cases z) (by intro z; cases z)
  · rw [hk 52 i 0 (by decide)]
    exact hF _ _ (h.sec g) (by intro z; cases z) (by intro z; cases z)
  · by_cases gi : id = 1
    · subst gi
      rw [hk 53 1 0 (by decide), he, hc, hm, rset_s, rset_s, rset_s]
      rw [show (fun j => L1.1 (55 + 1, j, 0)) = (fun j => if j = nM S then q else L.1 (55 + 1, j, 0)) from funext fun j => by
        by_cases z : j = nM S
        · rw [if_pos z, z]
          exact hL1
        · rw [if_neg z]
          exact hi j z]
      exact hAL
    · have e2 : lnC (addM S f) id = lnC S id := by
        match id, g, gi with
        | 0, _, gi => first | rfl | exact absurd rfl gi
        | 1, _, gi => first | rfl | exact absurd rfl gi
        | 2, _, gi => first | rfl | exact absurd rfl gi
      have e3 : (fun j => L1.1 (55 + id, j, 0)) = (fun j => L.1 (55 + id, j, 0)) := funext fun j => hk _ _ _ (by omega)
      rw [e2, e3, hk 53 id 0 (by decide), he, hc, hm, rset_n gi, rset_n gi, rset_n gi]
      exact (h.lst g).fr (fun b x hb hx => hF b x hb (by rcases hx with z | z <;> rw [z] <;> (intro y; first | (cases y; done) | exact gi (congrArg (fun y : Tg => y.2.1) y))) (by rcases hx with z | z <;> rw [z] <;> (intro y; first | (cases y; done) | exact gi (congrArg (fun y : Tg => y.2.1) y))))
  · intro k g
    rw [hk 55 k 0 (by decide)]
    exact hF _ _ (h.mea g) (by intro z; cases z) (by intro z; cases z)
  · intro k g
    by_cases z : k = nM S
    · subst z
      rw [hL1, show mS (addM S f) (nM S) = f from rset_s]
      exact hq
    · rw [hi k z, show mS (addM S f) k = mS S k from rset_n z]
      have g2 : k < nM S + 1 := g
      exact hF _ _ (h.mac (by omega)) (by intro z; cases z) (by intro z; cases z)
  · intro k g
    rw [hk 57 k 0 (by decide)]
    exact hF _ _ (h.ngt g) (by intro z; cases z) (by intro z; cases z)
theorem RepM.aN {Γ : Gw} {L : LayM} {S : St} {w w1 : Wd} (h : RepM Γ L S w) {q e1 cap1 : Nat} {md : Int32} {f : Nat → Int32} (hAL : AL Γ w1 (L.1 (53, 2, 0)) (53, 2, 0) (54, 2, 0) e1 cap1 md (nN S + 1) (fun j => if j = nN S then q else L.1 (55 + 2, j, 0))) (hq : w1 q = some ((57, nN S, 0), aI Γ.2.1 28 f))
    (hF : ∀ (b : Nat) (x : Tg × va_E), w b = some x → x.1 ≠ (53, 2, 0) → x.1 ≠ (54, 2, 0) → w1 b = some x) : ∃ L1 : LayM, thM L1 = thM L ∧ thr L1 = thr L ∧ sumM L1 = sumM L ∧ RepM Γ L1 (addN S f) w1 := by
  obtain ⟨L1, hL1, hL2, he, hc, hm, ht, hs⟩ : ∃ L1 : LayM, L1.1 (57, nN S, 0) = q ∧ (∀ t, t ≠ (57, nN S, 0) → L1.1 t = L.1 t) ∧ L1.2.1 = rset L.2.1 2 e1 ∧ L1.2.2.1 = rset L.2.2.1 2 cap1 ∧ L1.2.2.2.1 = rset L.2.2.2.1 2 md ∧ thr L1 = thr L ∧ sumM L1 = sumM L :=
    ⟨((fun t => if t = (57, nN S, 0) then q else L.1 t), rset L.2.1 2 e1, rset L.2.2.1 2 cap1, rset L.2.2.2.1 2 md, thr L, sumM L), if_pos rfl, fun t g => if_neg g, rfl, rfl, rfl, rfl, rfl⟩
  have hk : ∀ k i j, k ≠ 57 → L1.1 (k, i, j) = L.1 (k, i, j) := fun k i j g => hL2 _ (fun z => g (congrArg Prod.fst z))
  have hi : ∀ i, i ≠ nN S → L1.1 (57, i, 0) = L.1 (57, i, 0) := fun i g => hL2 _ (fun z => g (congrArg (fun y : Tg => y.2.1) z))
  refine ⟨L1, hk _ _ _ (by decide), ht, hs, ?_, ?_, fun i g => ?_, fun id g => ?_, ?_, ?_, ?_⟩
  · rw [oYL, hk 50 0 0 (by decide), hk 51 0 0 (by decide), hk 53 0 0 (by decide), hk 53 1 0 (by decide), hk 53 2 0 (by decide), ht, hs]
    exact hF _ _ h.main (by intro z; cases z) (by intro z; cases z)
  · rw [hk 51 0 0 (by decide), show (fun j => L1.1 (52, j, 0)) = (fun j => L.1 (52, j, 0)) from funext fun j => hk 52 j 0 (by decide)]
    exact hF _ _ h.secs (by intro z; cases z) (by intro z; cases z)
  · rw [hk 52 i 0 (by decide)]
    exact hF _ _ (h.sec g) (by intro z; cases z) (by intro z; cases z)
  · by_cases gi : id = 2
    · subst gi
      rw [hk 53 2 0 (by decide), he, hc, hm, rset_s, rset_s, rset_s]
      rw [show (fun j => L1.1 (55 + 2, j, 0)) = (fun j => if j = nN S then q else L.1 (55 + 2, j, 0)) from funext fun j => by
        by_cases z : j = nN S
        · rw [if_pos z, z]
          exact hL1
        · rw [if_neg z]
          exact hi j z]
      exact hAL
    · have e2 : lnC (addN S f) id = lnC S id := by
        match id, g, gi with
        | 0, _, gi => first | rfl | exact absurd rfl gi
        | 1, _, gi => first | rfl | exact absurd rfl gi
        | 2, _, gi => first | rfl | exact absurd rfl gi
      have e3 : (fun j => L1.1 (55 + id, j, 0)) = (fun j => L.1 (55 + id, j, 0)) := funext fun j => hk _ _ _ (by omega)
      rw [e2, e3, hk 53 id 0 (by decide), he, hc, hm, rset_n gi, rset_n gi, rset_n gi]
      exact (h.lst g).fr (fun b x hb hx => hF b x hb (by rcases hx with z | z <;> rw [z] <;> (intro y; first | (cases y; done) | exact gi (congrArg (fun y : Tg => y.2.1) y))) (by rcases hx with z | z <;> rw [z] <;> (intro y; first | (cases y; done) | exact gi (congrArg (fun y : Tg => y.2.1) y))))
  · intro k g
    rw [hk 55 k 0 (by decide)]
    exact hF _ _ (h.mea g) (by intro z; cases z) (by intro z; cases z)
  · intro k g
    rw [hk 56 k 0 (by decide)]
    exact hF _ _ (h.mac g) (by intro z; cases z) (by intro z; cases z)
  · intro k g
    by_cases z : k = nN S
    · subst z
      rw [hL1, show gS (addN S f) (nN S) = f from rset_s]
      exact hq
    · rw [hi k z, show gS (addN S f) k = gS S k from rset_n z]
      have g2 : k < nN S + 1 := g
      exact hF _ _ (h.ngt (by omega)) (by intro z; cases z) (by intro z; cases z)
theorem RepM.aE {Γ : Gw} {L : LayM} {S : St} {w w1 : Wd} (h : RepM Γ L S w) {q e1 cap1 : Nat} {md : Int32} {f : Nat → Int32} (hAL : AL Γ w1 (L.1 (53, 0, 0)) (53, 0, 0) (54, 0, 0) e1 cap1 md (nE S + 1) (fun j => if j = nE S then q else L.1 (55 + 0, j, 0))) (hq : w1 q = some ((55, nE S, 0), aI Γ.2.1 45 f))
    (hF : ∀ (b : Nat) (x : Tg × va_E), w b = some x → x.1 ≠ (53, 0, 0) → x.1 ≠ (54, 0, 0) → w1 b = some x) : ∃ L1 : LayM, thM L1 = thM L ∧ thr L1 = thr L ∧ sumM L1 = sumM L ∧ RepM Γ L1 (addE S f) w1 := by
  obtain ⟨L1, hL1, hL2, he, hc, hm, ht, hs⟩ : ∃ L1 : LayM, L1.1 (55, nE S, 0) = q ∧ (∀ t, t ≠ (55, nE S, 0) → L1.1 t = L.1 t) ∧ L1.2.1 = rset L.2.1 0 e1 ∧ L1.2.2.1 = rset L.2.2.1 0 cap1 ∧ L1.2.2.2.1 = rset L.2.2.2.1 0 md ∧ thr L1 = thr L ∧ sumM L1 = sumM L :=
    ⟨((fun t => if t = (55, nE S, 0) then q else L.1 t), rset L.2.1 0 e1, rset L.2.2.1 0 cap1, rset L.2.2.2.1 0 md, thr L, sumM L), if_pos rfl, fun t g => if_neg g, rfl, rfl, rfl, rfl, rfl⟩
  have hk : ∀ k i j, k ≠ 55 → L1.1 (k, i, j) = L.1 (k, i, j) := fun k i j g => hL2 _ (fun z => g (congrArg Prod.fst z))
  have hi : ∀ i, i ≠ nE S → L1.1 (55, i, 0) = L.1 (55, i, 0) := fun i g => hL2 _ (fun z => g (congrArg (fun y : Tg => y.2.1) z))
  refine ⟨L1, hk _ _ _ (by decide), ht, hs, ?_, ?_, fun i g => ?_, fun id g => ?_, ?_, ?_, ?_⟩
  · rw [oYL, hk 50 0 0 (by decide), hk 51 0 0 (by decide), hk 53 0 0 (by decide), hk 53 1 0 (by decide), hk 53 2 0 (by decide), ht, hs]
    exact hF _ _ h.main (by intro z; cases z) (by intro z; cases z)
  · rw [hk 51 0 0 (by decide), show (fun j => L1.1 (52, j, 0)) = (fun j => L.1 (52, j, 0)) from funext fun j => hk 52 j 0 (by decide)]
    exact hF _ _ h.secs (by intro z; cases z) (by intro z; cases z)
  · rw [hk 52 i 0 (by decide)]
    exact hF _ _ (h.sec g) (by intro z; cases z) (by intro z; cases z)
  · by_cases gi : id = 0
    · subst gi
      rw [hk 53 0 0 (by decide), he, hc, hm, rset_s, rset_s, rset_s]
      rw [show (fun j => L1.1 (55 + 0, j, 0)) = (fun j => if j = nE S then q else L.1 (55 + 0, j, 0)) from funext fun j => by
        by_cases z : j = nE S
        · rw [if_pos z, z]
          exact hL1
        · rw [if_neg z]
          exact hi j z]
      exact hAL
    · have e2 : lnC (addE S f) id = lnC S id := by
        match id, g, gi with
        | 0, _, gi => first | rfl | exact absurd rfl gi
        | 1, _, gi => first | rfl | exact absurd rfl gi
        | 2, _, gi => first | rfl | exact absurd rfl gi
      have e3 : (fun j => L1.1 (55 + id, j, 0)) = (fun j => L.1 (55 + id, j, 0)) := funext fun j => hk _ _ _ (by omega)
      rw [e2, e3, hk 53 id 0 (by decide), he, hc, hm, rset_n gi, rset_n gi, rset_n gi]
      exact (h.lst g).fr (fun b x hb hx => hF b x hb (by rcases hx with z | z <;> rw [z] <;> (intro y; first | (cases y; done) | exact gi (congrArg (fun y : Tg => y.2.1) y))) (by rcases hx with z | z <;> rw [z] <;> (intro y; first | (cases y; done) | exact gi (congrArg (fun y : Tg => y.2.1) y))))
  · intro k g
    by_cases z : k = nE S
    · subst z
      rw [hL1, show eS (addE S f) (nE S) = f from rset_s]
      exact hq
    · rw [hi k z, show eS (addE S f) k = eS S k from rset_n z]
      have g2 : k < nE S + 1 := g
      exact hF _ _ (h.mea (by omega)) (by intro z; cases z) (by intro z; cases z)
  · intro k g
    rw [hk 56 k 0 (by decide)]
    exact hF _ _ (h.mac g) (by intro z; cases z) (by intro z; cases z)
  · intro k g
    rw [hk 57 k 0 (by decide)]
    exact hF _ _ (h.ngt g) (by intro z; cases z) (by intro z; cases z)
theorem oke_I {K : Nat → ClassId} {n : Nat} {f : Nat → Int32} : OkE K (aI K n f) := Or.inr ⟨n, f, rfl, ok_I⟩
theorem meets_e {tr fr to t f o : Int32} : ¬ s_meets tr fr to t f o = 0 ↔ tr = t ∧ fr ≤ o ∧ ¬ to < f := by
  unfold s_meets
  by_cases a : tr = t
  · rw [if_pos a]
    by_cases b : o < fr
    · rw [if_pos b]
      exact ⟨fun h => absurd rfl h, fun h => absurd h.2.1 (Int32.not_le.mpr b)⟩
    · rw [if_neg b]
      by_cases c : to < f
      · rw [if_pos c]
        exact ⟨fun h => absurd rfl h, fun h => absurd c h.2.2⟩
      · rw [if_neg c]
        exact ⟨fun _ => ⟨a, Int32.not_lt.mp b, c⟩, fun _ => by decide⟩
  · rw [if_neg a]
    exact ⟨fun h => absurd rfl h, fun h => absurd h.1 a⟩
theorem ex_s {p : Nat → Prop} {n : Nat} : ex01 p (n + 1) = ex01 p n ||| (by classical exact if p n then 1 else 0) := by
  classical
  by_cases q : p n
  · rw [if_pos q, ex_t (n := n + 1) (by omega) q]
    rcases ex_01 (p := p) (n := n) with z | z <;> rw [z] <;> decide
  · rw [if_neg q]
    have e : ex01 p (n + 1) = ex01 p n := by
      by_cases a : ∃ k, k < n ∧ p k
      · obtain ⟨k, hk, z⟩ := a
        rw [ex_t (n := n + 1) (by omega) z, ex_t hk z]
      · rw [ex_f (n := n) fun k hk z => a ⟨k, hk, z⟩, ex_f (n := n + 1)]
        exact all_s (fun k hk z => a ⟨k, hk, z⟩) q
    rw [e]
    rcases ex_01 (p := p) (n := n) with z | z <;> rw [z] <;> decide
theorem ex_st {p : Nat → Prop} {n : Nat} (h : p n) : ex01 p n ||| 1 = ex01 p (n + 1) := by rw [ex_s, if_pos h]
theorem ex_sf {p : Nat → Prop} {n : Nat} (h : ¬ p n) : ex01 p n ||| 0 = ex01 p (n + 1) := by rw [ex_s, if_neg h]
theorem nI4 {x : Int32} (h : x = 4) : x = nI 4 := h
set_option maxHeartbeats 400000 in
set_option maxRecDepth 100000 in
theorem c_X7_isFree : CtrA yX7_isFree cX7_isFree 7 (some .boolean) (rmk 3 1 4 80) (fun Γ av w post xpost => ∃ (L : LayM) (S : St), ∃ t f o d, av = [.ref (thM L), .int t, .int f, .int o, .int d] ∧ RepM Γ L S w ∧ nN S ≤ 30 ∧ (∀ w1, RepM Γ L S w1 → FrC w w1 → post (some (.int (1 - ex01 (pOcc S t f o d) (nN S)))) w1)) := by
  refine ctr_of (by decide) ?_
  rintro g av w hG hO ⟨L, S, t, f, o, d, rfl, hR, hn, hk⟩
  refine ⟨Nat.le_of_ble_eq_true rfl, ?_⟩
  show X g w 0 0 0 [some (.ref (thM L)), some (.int t), some (.int f), some (.int o), some (.int d), none, none] []
  refine x_aload_n hG (pc := 0) 0 dX7_isFree_0 rfl rfl ?_
  refine x_getf hG (pc := 1) fl_X7_21 hR.main rfl dX7_isFree_1 ?_
  refine x_callV hG hO (pc := 4) [] c_Jx4a65c_iterator_32c93 lk_X7_79 (hR.lst (id := 2) (by decide)).1 rfl rfl ⟨by decide, by decide⟩ (Nat.le_of_ble_eq_true rfl) (by rw [hG.mc]; exact Nat.le_of_ble_eq_true rfl) (by rw [hG.ms]; exact Nat.le_of_ble_eq_true rfl) dX7_isFree_4 ?_
  refine ⟨_, _, _, _, _, (60, 0, 0), rfl, (hR.lst (id := 2) (by decide)).1, fun it hfit hnit => ?_⟩
  refine x_gen (fun wi ei => ?_)
  have hit0 := (congrFun ei it).trans wup_s
  have hRi := hR.nw hfit ei
  have hFi := FrC.rf.nw hfit ei
  refine x_astore hG (pc := 7) dX7_isFree_7 (Nat.le_of_ble_eq_true rfl) rfl (by dsimp only [List.set]) ?_
  refine nat_down (P := fun k => ∀ (w1 : Wd) (ls : Int32), RepM (gΓ g) L S w1 → w1 it = some ((60, 0, 0), oI (nI k) ls (L.2.2.2.1 2) (L.1 (53, 2, 0))) → FrC w w1 → (∀ j, j < k → ¬ pOcc S t f o d j) → ∀ z : Option Value, X g w1 1 4 9 [some (.ref (thM L)), some (.int t), some (.int f), some (.int o), some (.int d), some (.ref it), z] []) (nN S) (fun k hi ih w1 ls hR1 hit hF1 hN z => ?_) 0 (Nat.zero_le _) wi _ hRi hit0 hFi (fun j h => absurd h (Nat.not_lt_zero _)) none
  refine x_aload hG (pc := 9) dX7_isFree_9 rfl ?_
  refine x_callF hG hO (pc := 11) c_Jx35411_hasNext_aae02 lk_X7_83 hit ⟨by decide, by decide⟩ (Nat.le_of_ble_eq_true rfl) (by rw [hG.mc]; exact Nat.le_of_ble_eq_true rfl) (by rw [hG.ms]; exact Nat.le_of_ble_eq_true rfl) dX7_isFree_11 ?_
  refine ⟨_, _, _, _, _, _, _, _, _, rfl, hit, (hR1.lst (id := 2) (by decide)).1, ?_⟩
  show X g _ _ _ _ _ (.int (if nI k = nI (nN S) then 0 else 1) :: _)
  refine x_if_eq hG (pc := 16) 77 dX7_isFree_16 (by decide) (fun h16 => ?_) (fun h16 => ?_)
  · have hke : k = nN S := it_e hi (by omega) h16
    refine x_iconst hG (pc := 77) 1 dX7_isFree_77 (by decide) ?_
    refine x_ireturn hG (pc := 78) dX7_isFree_78 rfl rfl (by rw [hG.mc]; exact Nat.le_of_ble_eq_true rfl) (by rw [hG.ms]; exact Nat.le_of_ble_eq_true rfl) ?_
    refine fin_i ?_ (hk w1 hR1 hF1)
    rw [ex_f (p := pOcc S t f o d) (by rw [← hke]; exact hN)]
    rfl
  · have hkn : k < nN S := it_n hi h16
    refine x_aload hG (pc := 19) dX7_isFree_19 rfl ?_
    refine x_callF hG hO (pc := 21) c_Jx35411_next_0502b lk_X7_89 hit ⟨by decide, by decide⟩ (Nat.le_of_ble_eq_true rfl) (by rw [hG.mc]; exact Nat.le_of_ble_eq_true rfl) (by rw [hG.ms]; exact Nat.le_of_ble_eq_true rfl) dX7_isFree_21 ?_
    refine ⟨_, _, k, _, _, _, _, _, _, _, _, _, rfl, hit, hR1.lst (id := 2) (by decide), hkn, (by intro z; cases z), ?_⟩
    refine x_gen (fun w2 e2 => ?_)
    have hit2 := (congrFun e2 it).trans wup_s
    have hR2 := hR1.tmp hit (by show 60 ≤ 60; decide) e2
    have hF2 := hF1.up hit (by show 50 ≤ 60 ∧ 60 < 80; decide) e2
    show X g _ _ _ _ _ (.ref (L.1 (57, k, 0)) :: _)
    refine x_castI hG (pc := 26) ckl_X7_56 (hR2.ngt hkn) dX7_isFree_26 ?_
    refine x_astore hG (pc := 29) dX7_isFree_29 (Nat.le_of_ble_eq_true rfl) rfl (by dsimp only [List.set]) ?_
    refine x_aload hG (pc := 31) dX7_isFree_31 rfl ?_
    refine x_iconst hG (pc := 33) 4 dX7_isFree_33 (by decide) ?_
    refine x_ialdN hG (pc := 34) (c := 4) (hR2.ngt hkn) (by decide) dX7_isFree_34 ?_
    refine x_iload hG (pc := 35) dX7_isFree_35 rfl ?_
    refine x_icmp_ne hG (pc := 37) 74 dX7_isFree_37 (by decide) (fun h37 => ?_) (fun h37 => ?_)
    · refine x_goto hG (pc := 74) 9 dX7_isFree_74 (by decide) ?_
      exact ih (k + 1) (by omega) (by omega) w2 _ hR2 hit2 hF2 (all_s hN (fun q => by first | exact h37 q.1 | exact q.2.1 h45 | exact h53 (meets_e.mp q.2.2).1 | exact (Int32.not_le.mpr h61) (meets_e.mp q.2.2).2.1 | exact (meets_e.mp q.2.2).2.2 h69)) _
    · refine x_aload hG (pc := 40) dX7_isFree_40 rfl ?_
      refine x_iconst hG (pc := 42) 0 dX7_isFree_42 (by decide) ?_
      refine x_ialdN hG (pc := 43) (c := 0) (hR2.ngt hkn) (by decide) dX7_isFree_43 ?_
      refine x_iconst hG (pc := 44) 4 dX7_isFree_44 (by decide) ?_
      refine x_icmp_eq hG (pc := 45) 74 dX7_isFree_45 (by decide) (fun h45 => ?_) (fun h45 => ?_)
      · refine x_goto hG (pc := 74) 9 dX7_isFree_74 (by decide) ?_
        exact ih (k + 1) (by omega) (by omega) w2 _ hR2 hit2 hF2 (all_s hN (fun q => by first | exact h37 q.1 | exact q.2.1 h45 | exact h53 (meets_e.mp q.2.2).1 | exact (Int32.not_le.mpr h61) (meets_e.mp q.2.2).2.1 | exact (meets_e.mp q.2.2).2.2 h69)) _
      · refine x_aload hG (pc := 48) dX7_isFree_48 rfl ?_
        refine x_iconst hG (pc := 50) 1 dX7_isFree_50 (by decide) ?_
        refine x_ialdN hG (pc := 51) (c := 1) (hR2.ngt hkn) (by decide) dX7_isFree_51 ?_
        refine x_iload_n hG (pc := 52) 1 dX7_isFree_52 rfl rfl ?_
        refine x_icmp_ne hG (pc := 53) 74 dX7_isFree_53 (by decide) (fun h53 => ?_) (fun h53 => ?_)
        · refine x_goto hG (pc := 74) 9 dX7_isFree_74 (by decide) ?_
          exact ih (k + 1) (by omega) (by omega) w2 _ hR2 hit2 hF2 (all_s hN (fun q => by first | exact h37 q.1 | exact q.2.1 h45 | exact h53 (meets_e.mp q.2.2).1 | exact (Int32.not_le.mpr h61) (meets_e.mp q.2.2).2.1 | exact (meets_e.mp q.2.2).2.2 h69)) _
        · refine x_aload hG (pc := 56) dX7_isFree_56 rfl ?_
          refine x_iconst hG (pc := 58) 2 dX7_isFree_58 (by decide) ?_
          refine x_ialdN hG (pc := 59) (c := 2) (hR2.ngt hkn) (by decide) dX7_isFree_59 ?_
          refine x_iload_n hG (pc := 60) 3 dX7_isFree_60 rfl rfl ?_
          refine x_icmp_gt hG (pc := 61) 74 dX7_isFree_61 (by decide) (fun h61 => ?_) (fun h61 => ?_)
          · refine x_goto hG (pc := 74) 9 dX7_isFree_74 (by decide) ?_
            exact ih (k + 1) (by omega) (by omega) w2 _ hR2 hit2 hF2 (all_s hN (fun q => by first | exact h37 q.1 | exact q.2.1 h45 | exact h53 (meets_e.mp q.2.2).1 | exact (Int32.not_le.mpr h61) (meets_e.mp q.2.2).2.1 | exact (meets_e.mp q.2.2).2.2 h69)) _
          · refine x_aload hG (pc := 64) dX7_isFree_64 rfl ?_
            refine x_iconst hG (pc := 66) 3 dX7_isFree_66 (by decide) ?_
            refine x_ialdN hG (pc := 67) (c := 3) (hR2.ngt hkn) (by decide) dX7_isFree_67 ?_
            refine x_iload_n hG (pc := 68) 2 dX7_isFree_68 rfl rfl ?_
            refine x_icmp_lt hG (pc := 69) 74 dX7_isFree_69 (by decide) (fun h69 => ?_) (fun h69 => ?_)
            · refine x_goto hG (pc := 74) 9 dX7_isFree_74 (by decide) ?_
              exact ih (k + 1) (by omega) (by omega) w2 _ hR2 hit2 hF2 (all_s hN (fun q => by first | exact h37 q.1 | exact q.2.1 h45 | exact h53 (meets_e.mp q.2.2).1 | exact (Int32.not_le.mpr h61) (meets_e.mp q.2.2).2.1 | exact (meets_e.mp q.2.2).2.2 h69)) _
            · refine x_iconst hG (pc := 72) 0 dX7_isFree_72 (by decide) ?_
              refine x_ireturn hG (pc := 73) dX7_isFree_73 rfl rfl (by rw [hG.mc]; exact Nat.le_of_ble_eq_true rfl) (by rw [hG.ms]; exact Nat.le_of_ble_eq_true rfl) ?_
              refine fin_i ?_ (hk w2 hR2 hF2)
              rw [ex_t hkn (p := pOcc S t f o d) ⟨h37, fun z => h45 z, meets_e.mpr ⟨h53, Int32.not_lt.mp h61, h69⟩⟩]
              rfl
set_option maxHeartbeats 400000 in
set_option maxRecDepth 100000 in
theorem c_X7_isTaken : CtrA yX7_isTaken cX7_isTaken 5 (some .boolean) (rmk 3 1 4 80) (fun Γ av w post xpost => ∃ (L : LayM) (S : St), ∃ s, av = [.ref (thM L), .int s] ∧ RepM Γ L S w ∧ nN S ≤ 30 ∧ (∀ w1, RepM Γ L S w1 → FrC w w1 → post (some (.int (ex01 (pTak S s) (nN S)))) w1)) := by
  refine ctr_of (by decide) ?_
  rintro g av w hG hO ⟨L, S, s, rfl, hR, hn, hk⟩
  refine ⟨Nat.le_of_ble_eq_true rfl, ?_⟩
  show X g w 0 0 0 [some (.ref (thM L)), some (.int s), none, none, none] []
  refine x_iconst hG (pc := 0) 0 dX7_isTaken_0 (by decide) ?_
  rw [show (0 : Int32) = ex01 (pTak S s) 0 from (ex_f fun k hk => absurd hk (Nat.not_lt_zero _)).symm]
  refine x_istore_n hG (pc := 1) 2 dX7_isTaken_1 rfl (Nat.le_of_ble_eq_true rfl) rfl (by dsimp only [List.set]) ?_
  refine x_aload_n hG (pc := 2) 0 dX7_isTaken_2 rfl rfl ?_
  refine x_getf hG (pc := 3) fl_X7_21 hR.main rfl dX7_isTaken_3 ?_
  refine x_callV hG hO (pc := 6) [] c_Jx4a65c_iterator_32c93 lk_X7_79 (hR.lst (id := 2) (by decide)).1 rfl rfl ⟨by decide, by decide⟩ (Nat.le_of_ble_eq_true rfl) (by rw [hG.mc]; exact Nat.le_of_ble_eq_true rfl) (by rw [hG.ms]; exact Nat.le_of_ble_eq_true rfl) dX7_isTaken_6 ?_
  refine ⟨_, _, _, _, _, (60, 0, 0), rfl, (hR.lst (id := 2) (by decide)).1, fun it hfit hnit => ?_⟩
  refine x_gen (fun wi ei => ?_)
  have hit0 := (congrFun ei it).trans wup_s
  have hRi := hR.nw hfit ei
  have hFi := FrC.rf.nw hfit ei
  refine x_astore_n hG (pc := 9) 3 dX7_isTaken_9 rfl (Nat.le_of_ble_eq_true rfl) rfl (by dsimp only [List.set]) ?_
  refine nat_down (P := fun k => ∀ (w1 : Wd) (ls : Int32), RepM (gΓ g) L S w1 → w1 it = some ((60, 0, 0), oI (nI k) ls (L.2.2.2.1 2) (L.1 (53, 2, 0))) → FrC w w1 → ∀ z : Option Value, X g w1 1 4 10 [some (.ref (thM L)), some (.int s), some (.int (ex01 (pTak S s) k)), some (.ref it), z] []) (nN S) (fun k hi ih w1 ls hR1 hit hF1 z => ?_) 0 (Nat.zero_le _) wi _ hRi hit0 hFi none
  refine x_aload_n hG (pc := 10) 3 dX7_isTaken_10 rfl rfl ?_
  refine x_callF hG hO (pc := 11) c_Jx35411_hasNext_aae02 lk_X7_83 hit ⟨by decide, by decide⟩ (Nat.le_of_ble_eq_true rfl) (by rw [hG.mc]; exact Nat.le_of_ble_eq_true rfl) (by rw [hG.ms]; exact Nat.le_of_ble_eq_true rfl) dX7_isTaken_11 ?_
  refine ⟨_, _, _, _, _, _, _, _, _, rfl, hit, (hR1.lst (id := 2) (by decide)).1, ?_⟩
  show X g _ _ _ _ _ (.int (if nI k = nI (nN S) then 0 else 1) :: _)
  refine x_if_eq hG (pc := 16) 59 dX7_isTaken_16 (by decide) (fun h16 => ?_) (fun h16 => ?_)
  · have hke : k = nN S := it_e hi (by omega) h16
    refine x_iload_n hG (pc := 59) 2 dX7_isTaken_59 rfl rfl ?_
    refine x_ireturn hG (pc := 60) dX7_isTaken_60 rfl (nb01 ex_01) (by rw [hG.mc]; exact Nat.le_of_ble_eq_true rfl) (by rw [hG.ms]; exact Nat.le_of_ble_eq_true rfl) ?_
    rw [hke]
    exact hk w1 hR1 hF1
  · have hkn : k < nN S := it_n hi h16
    refine x_aload_n hG (pc := 19) 3 dX7_isTaken_19 rfl rfl ?_
    refine x_callF hG hO (pc := 20) c_Jx35411_next_0502b lk_X7_89 hit ⟨by decide, by decide⟩ (Nat.le_of_ble_eq_true rfl) (by rw [hG.mc]; exact Nat.le_of_ble_eq_true rfl) (by rw [hG.ms]; exact Nat.le_of_ble_eq_true rfl) dX7_isTaken_20 ?_
    refine ⟨_, _, k, _, _, _, _, _, _, _, _, _, rfl, hit, hR1.lst (id := 2) (by decide), hkn, (by intro z; cases z), ?_⟩
    refine x_gen (fun w2 e2 => ?_)
    have hit2 := (congrFun e2 it).trans wup_s
    have hR2 := hR1.tmp hit (by show 60 ≤ 60; decide) e2
    have hF2 := hF1.up hit (by show 50 ≤ 60 ∧ 60 < 80; decide) e2
    show X g _ _ _ _ _ (.ref (L.1 (57, k, 0)) :: _)
    refine x_castI hG (pc := 25) ckl_X7_56 (hR2.ngt hkn) dX7_isTaken_25 ?_
    refine x_astore hG (pc := 28) dX7_isTaken_28 (Nat.le_of_ble_eq_true rfl) rfl (by dsimp only [List.set]) ?_
    refine x_iload_n hG (pc := 30) 2 dX7_isTaken_30 rfl rfl ?_
    refine x_aload hG (pc := 31) dX7_isTaken_31 rfl ?_
    refine x_iconst hG (pc := 33) 0 dX7_isTaken_33 (by decide) ?_
    refine x_ialdN hG (pc := 34) (c := 0) (hR2.ngt hkn) (by decide) dX7_isTaken_34 ?_
    refine x_iconst hG (pc := 35) 1 dX7_isTaken_35 (by decide) ?_
    refine x_icmp_ne hG (pc := 36) 53 dX7_isTaken_36 (by decide) (fun h36 => ?_) (fun h36 => ?_)
    · refine x_iconst hG (pc := 53) 0 dX7_isTaken_53 (by decide) ?_
      refine x_ior hG (pc := 54) dX7_isTaken_54 ?_
      rw [ex_sf (p := pTak S s) (n := k) (fun z => h36 z.1)]
      refine x_istore_n hG (pc := 55) 2 dX7_isTaken_55 rfl (Nat.le_of_ble_eq_true rfl) rfl (by dsimp only [List.set]) ?_
      refine x_goto hG (pc := 56) 10 dX7_isTaken_56 (by decide) ?_
      exact ih (k + 1) (by omega) (by omega) w2 _ hR2 hit2 hF2 _
    · refine x_aload_n hG (pc := 39) 0 dX7_isTaken_39 rfl rfl ?_
      refine x_aload hG (pc := 40) dX7_isTaken_40 rfl ?_
      refine x_iload_n hG (pc := 42) 1 dX7_isTaken_42 rfl rfl ?_
      refine x_callV hG hO (pc := 43) [_, _] c_X7_has lk_X7_139 hR2.main rfl rfl ⟨by decide, by decide⟩ (Nat.le_of_ble_eq_true rfl) (by rw [hG.mc]; exact Nat.le_of_ble_eq_true rfl) (by rw [hG.ms]; exact Nat.le_of_ble_eq_true rfl) dX7_isTaken_43 ?_
      refine ⟨_, _, _, _, s, rfl, hR2.ngt hkn, ?_⟩
      refine x_if_eq hG (pc := 46) 53 dX7_isTaken_46 (by decide) (fun h46 => ?_) (fun h46 => ?_)
      · refine x_iconst hG (pc := 53) 0 dX7_isTaken_53 (by decide) ?_
        refine x_ior hG (pc := 54) dX7_isTaken_54 ?_
        rw [ex_sf (p := pTak S s) (n := k) (fun z => z.2 h46)]
        refine x_istore_n hG (pc := 55) 2 dX7_isTaken_55 rfl (Nat.le_of_ble_eq_true rfl) rfl (by dsimp only [List.set]) ?_
        refine x_goto hG (pc := 56) 10 dX7_isTaken_56 (by decide) ?_
        exact ih (k + 1) (by omega) (by omega) w2 _ hR2 hit2 hF2 _
      · refine x_iconst hG (pc := 49) 1 dX7_isTaken_49 (by decide) ?_
        refine x_goto hG (pc := 50) 54 dX7_isTaken_50 (by decide) ?_
        refine x_ior hG (pc := 54) dX7_isTaken_54 ?_
        rw [ex_st (p := pTak S s) (n := k) ⟨h36, h46⟩]
        refine x_istore_n hG (pc := 55) 2 dX7_isTaken_55 rfl (Nat.le_of_ble_eq_true rfl) rfl (by dsimp only [List.set]) ?_
        refine x_goto hG (pc := 56) 10 dX7_isTaken_56 (by decide) ?_
        exact ih (k + 1) (by omega) (by omega) w2 _ hR2 hit2 hF2 _
set_option maxHeartbeats 400000 in
set_option maxRecDepth 100000 in
theorem c_X7_service : CtrA yX7_service cX7_service 4 (some .int) (rmk 3 1 4 80) (fun Γ av w post xpost => ∃ (L : LayM) (S : St), ∃ m, av = [.ref (thM L), .int m] ∧ RepM Γ L S w ∧ Inv2 S ∧ MOut Γ L w post (oSer S m)) := by
  refine ctr_of (by decide) ?_
  rintro g av w hG hO ⟨L, S, m, rfl, hR, hI2, hk⟩
  refine ⟨Nat.le_of_ble_eq_true rfl, ?_⟩
  show X g w 0 0 0 [some (.ref (thM L)), some (.int m), none, none] []
  have hI := hI2.1
  have hnM := hI.2.1.1
  have hnN := hI.2.1.2.1
  have hnE := hI.2.1.2.2
  refine x_aload_n hG (pc := 0) 0 dX7_service_0 rfl rfl ?_
  refine x_iconst hG (pc := 1) 0 dX7_service_1 (by decide) ?_
  refine x_putf hG (pc := 2) fl_X7_31 fw_9 ft_9_0 hR.main (Nat.le_of_ble_eq_true rfl) rfl rfl (by dsimp only [List.set]) dX7_service_2 ?_
  refine x_gen (fun w0 e0 => ?_)
  obtain ⟨hR0, hF0⟩ := hR.uT e0
  refine x_aload_n hG (pc := 5) 0 dX7_service_5 rfl rfl ?_
  refine x_iload_n hG (pc := 6) 1 dX7_service_6 rfl rfl ?_
  refine x_callV hG hO (pc := 7) [_] c_X7_isMachine lk_X7_125 hR0.main rfl rfl ⟨by decide, by decide⟩ (Nat.le_of_ble_eq_true rfl) (by rw [hG.mc]; exact Nat.le_of_ble_eq_true rfl) (by rw [hG.ms]; exact Nat.le_of_ble_eq_true rfl) dX7_service_7 ?_
  refine ⟨_, S, _, rfl, hR0, by omega, ?_⟩
  refine x_if_ne hG (pc := 10) 19 dX7_service_10 (by decide) (fun h10 => ?_) (fun h10 => ?_)
  · obtain ⟨k, hx⟩ := sIx_1 h10
    obtain ⟨hkn, rfl⟩ := ixO_some hx (by omega)
    refine x_aload_n hG (pc := 19) 0 dX7_service_19 rfl rfl ?_
    refine x_getf hG (pc := 20) fl_X7_21 hR0.main rfl dX7_service_20 ?_
    refine x_callV hG hO (pc := 23) [] c_Jx4a65c_iterator_32c93 lk_X7_79 (hR0.lst (id := 2) (by decide)).1 rfl rfl ⟨by decide, by decide⟩ (Nat.le_of_ble_eq_true rfl) (by rw [hG.mc]; exact Nat.le_of_ble_eq_true rfl) (by rw [hG.ms]; exact Nat.le_of_ble_eq_true rfl) dX7_service_23 ?_
    refine ⟨_, _, _, _, _, (60, 0, 0), rfl, (hR0.lst (id := 2) (by decide)).1, fun it hfit hnit => ?_⟩
    refine x_gen (fun wi ei => ?_)
    have hit0 := (congrFun ei it).trans wup_s
    have hRi := hR0.nw hfit ei
    have hFi := hF0.nw hfit ei
    refine x_astore_n hG (pc := 26) 2 dX7_service_26 rfl (Nat.le_of_ble_eq_true rfl) rfl (by dsimp only [List.set]) ?_
    refine nat_down (P := fun n => ∀ (w1 : Wd) (ls : Int32), RepM (gΓ g) (lthr L 0) S w1 → w1 it = some ((60, 0, 0), oI (nI n) ls (L.2.2.2.1 2) (L.1 (53, 2, 0))) → FrC w w1 → (∀ j, j < n → ¬ pOuI S k j) → ∀ z : Option Value, X g w1 1 4 27 [some (.ref (thM L)), some (.int (nI k)), some (.ref it), z] []) (nN S) (fun n hi ih w1 ls hR1 hit hF1 hN z => ?_) 0 (Nat.zero_le _) wi _ hRi hit0 hFi (fun j h => absurd h (Nat.not_lt_zero _)) none
    refine x_aload_n hG (pc := 27) 2 dX7_service_27 rfl rfl ?_
    refine x_callF hG hO (pc := 28) c_Jx35411_hasNext_aae02 lk_X7_83 hit ⟨by decide, by decide⟩ (Nat.le_of_ble_eq_true rfl) (by rw [hG.mc]; exact Nat.le_of_ble_eq_true rfl) (by rw [hG.ms]; exact Nat.le_of_ble_eq_true rfl) dX7_service_28 ?_
    refine ⟨_, _, _, _, _, _, _, _, _, rfl, hit, (hR1.lst (id := 2) (by decide)).1, ?_⟩
    show X g _ _ _ _ _ (.int (if nI n = nI (nN S) then 0 else 1) :: _)
    refine x_if_eq hG (pc := 33) 70 dX7_service_33 (by decide) (fun h33 => ?_) (fun h33 => ?_)
    · have hne : n = nN S := it_e hi (by omega) h33
      refine x_aload_n hG (pc := 70) 0 dX7_service_70 rfl rfl ?_
      refine x_getf hG (pc := 71) fl_X7_17 hR1.main rfl dX7_service_71 ?_
      refine x_iload_n hG (pc := 74) 1 dX7_service_74 rfl rfl ?_
      refine x_callV hG hO (pc := 75) [_] c_Jx4a65c_get_915e3 lk_X7_52 (hR1.lst (id := 1) (by decide)).1 rfl rfl ⟨by decide, by decide⟩ (Nat.le_of_ble_eq_true rfl) (by rw [hG.mc]; exact Nat.le_of_ble_eq_true rfl) (by rw [hG.ms]; exact Nat.le_of_ble_eq_true rfl) dX7_service_75 ?_
      refine ⟨_, _, _, _, _, _, _, _, k, rfl, (hR1.lst (id := 1) (by decide)), hkn, ?_⟩
      show X g _ _ _ _ _ (.ref (L.1 (56, k, 0)) :: _)
      refine x_castI hG (pc := 78) ckl_X7_56 (hR1.mac hkn) dX7_service_78 ?_
      refine x_iconst hG (pc := 81) 1 dX7_service_81 (by decide) ?_
      refine x_ialdN hG (pc := 82) (c := 1) (hR1.mac hkn) (by decide) dX7_service_82 ?_
      refine x_istore_n hG (pc := 83) 2 dX7_service_83 rfl (Nat.le_of_ble_eq_true rfl) rfl (by dsimp only [List.set]) ?_
      refine x_aload_n hG (pc := 84) 0 dX7_service_84 rfl rfl ?_
      refine x_getf hG (pc := 85) fl_X7_17 hR1.main rfl dX7_service_85 ?_
      refine x_iload_n hG (pc := 88) 1 dX7_service_88 rfl rfl ?_
      refine x_callV hG hO (pc := 89) [_] c_Jx4a65c_get_915e3 lk_X7_52 (hR1.lst (id := 1) (by decide)).1 rfl rfl ⟨by decide, by decide⟩ (Nat.le_of_ble_eq_true rfl) (by rw [hG.mc]; exact Nat.le_of_ble_eq_true rfl) (by rw [hG.ms]; exact Nat.le_of_ble_eq_true rfl) dX7_service_89 ?_
      refine ⟨_, _, _, _, _, _, _, _, k, rfl, (hR1.lst (id := 1) (by decide)), hkn, ?_⟩
      show X g _ _ _ _ _ (.ref (L.1 (56, k, 0)) :: _)
      refine x_castI hG (pc := 92) ckl_X7_56 (hR1.mac hkn) dX7_service_92 ?_
      refine x_iconst hG (pc := 95) 1 dX7_service_95 (by decide) ?_
      refine x_bipush hG (pc := 96) 40 dX7_service_96 (by decide) ?_
      refine x_iastN hG (pc := 98) (c := 1) (hR1.mac hkn) (by decide) dX7_service_98 ?_
      refine x_gen (fun w3 e3 => ?_)
      obtain ⟨hR3, hF3⟩ := hR1.uM hkn (f := rset (mS S k) 1 40) e3
      refine x_aload_n hG (pc := 99) 0 dX7_service_99 rfl rfl ?_
      refine x_dup hG (pc := 100) dX7_service_100 rfl ?_
      refine x_getf hG (pc := 101) fl_X7_103 hR3.main rfl dX7_service_101 ?_
      refine x_sipush hG (pc := 104) 200 dX7_service_104 (by decide) ?_
      refine x_iadd hG (pc := 107) dX7_service_107 ?_
      refine x_putf hG (pc := 108) fl_X7_103 fw_9 ft_9_7 hR3.main (Nat.le_of_ble_eq_true rfl) rfl rfl (by dsimp only [List.set]) dX7_service_108 ?_
      refine x_gen (fun w4 e4 => ?_)
      obtain ⟨hR4, hF4⟩ := hR3.uG (f := rset (gl S) 2 (gl S 2 + 200)) e4
      refine x_iload_n hG (pc := 111) 2 dX7_service_111 rfl rfl ?_
      refine x_ireturn hG (pc := 112) dX7_service_112 rfl rfl (by rw [hG.mc]; exact Nat.le_of_ble_eq_true rfl) (by rw [hG.ms]; exact Nat.le_of_ble_eq_true rfl) ?_
      exact hk.ok (k := 0) (v := mS S k 1) (by simp only [oSer, hx]; rw [if_pos (ex_f (p := pOuI S k) (by rw [← hne]; exact hN))]) hR4 ((hF1.tr hF3).tr hF4)
    · have hnn : n < nN S := it_n hi h33
      refine x_aload_n hG (pc := 36) 2 dX7_service_36 rfl rfl ?_
      refine x_callF hG hO (pc := 37) c_Jx35411_next_0502b lk_X7_89 hit ⟨by decide, by decide⟩ (Nat.le_of_ble_eq_true rfl) (by rw [hG.mc]; exact Nat.le_of_ble_eq_true rfl) (by rw [hG.ms]; exact Nat.le_of_ble_eq_true rfl) dX7_service_37 ?_
      refine ⟨_, _, n, _, _, _, _, _, _, _, _, _, rfl, hit, hR1.lst (id := 2) (by decide), hnn, (by intro z; cases z), ?_⟩
      refine x_gen (fun w2 e2 => ?_)
      have hit2 := (congrFun e2 it).trans wup_s
      have hR2 := hR1.tmp hit (by show 60 ≤ 60; decide) e2
      have hF2 := hF1.up hit (by show 50 ≤ 60 ∧ 60 < 80; decide) e2
      show X g _ _ _ _ _ (.ref (L.1 (57, n, 0)) :: _)
      refine x_castI hG (pc := 42) ckl_X7_56 (hR2.ngt hnn) dX7_service_42 ?_
      refine x_astore_n hG (pc := 45) 3 dX7_service_45 rfl (Nat.le_of_ble_eq_true rfl) rfl (by dsimp only [List.set]) ?_
      refine x_aload_n hG (pc := 46) 3 dX7_service_46 rfl rfl ?_
      refine x_iconst hG (pc := 47) 0 dX7_service_47 (by decide) ?_
      refine x_ialdN hG (pc := 48) (c := 0) (hR2.ngt hnn) (by decide) dX7_service_48 ?_
      refine x_iconst hG (pc := 49) 1 dX7_service_49 (by decide) ?_
      refine x_icmp_ne hG (pc := 50) 67 dX7_service_50 (by decide) (fun h50 => ?_) (fun h50 => ?_)
      · refine x_goto hG (pc := 67) 27 dX7_service_67 (by decide) ?_
        exact ih (n + 1) (by omega) (by omega) w2 _ hR2 hit2 hF2 (all_s hN (fun q => by first | exact h50 q.1 | exact q.2 h58)) _
      · refine x_aload_n hG (pc := 53) 3 dX7_service_53 rfl rfl ?_
        refine x_iload_n hG (pc := 54) 1 dX7_service_54 rfl rfl ?_
        refine x_callS hG hO (pc := 55) [_, _] c_X7_uses lk_X7_128 rfl rfl ⟨by decide, by decide⟩ (Nat.le_of_ble_eq_true rfl) (by rw [hG.mc]; exact Nat.le_of_ble_eq_true rfl) (by rw [hG.ms]; exact Nat.le_of_ble_eq_true rfl) dX7_service_55 ?_
        refine ⟨_, _, _, k, rfl, hR2.ngt hnn, by omega, by have := (hI.2.2.2.1 n hnn).2.2.2.1.2; have h0 : nJ (gS S n) = (gS S n 6).toInt.toNat := rfl; omega, (hI.2.2.2.1 n hnn).2.2.2.1.1, fun j hj => ((hI2.2.1 n hnn).2 j hj).2, ?_⟩
        show X g _ _ _ _ _ (.int (uses (nJ (gS S n)) (fun j => jM S n j) k) :: _)
        refine x_if_eq hG (pc := 58) 67 dX7_service_58 (by decide) (fun h58 => ?_) (fun h58 => ?_)
        · refine x_goto hG (pc := 67) 27 dX7_service_67 (by decide) ?_
          exact ih (n + 1) (by omega) (by omega) w2 _ hR2 hit2 hF2 (all_s hN (fun q => by first | exact h50 q.1 | exact q.2 h58)) _
        · refine x_aload_n hG (pc := 61) 0 dX7_service_61 rfl rfl ?_
          refine x_iconst hG (pc := 62) 2 dX7_service_62 (by decide) ?_
          refine x_callV hG hO (pc := 63) [_] c_X7_refuse lk_X7_76 hR2.main rfl rfl ⟨by decide, by decide⟩ (Nat.le_of_ble_eq_true rfl) (by rw [hG.mc]; exact Nat.le_of_ble_eq_true rfl) (by rw [hG.ms]; exact Nat.le_of_ble_eq_true rfl) dX7_service_63 ?_
          refine ⟨_, _, 2, rfl, hR2, fun wr hRr hFr => ?_⟩
          refine x_ireturn hG (pc := 66) dX7_service_66 rfl rfl (by rw [hG.mc]; exact Nat.le_of_ble_eq_true rfl) (by rw [hG.ms]; exact Nat.le_of_ble_eq_true rfl) ?_
          exact hk.ok (k := 2) (v := 0) (S1 := S) (by simp only [oSer, hx]; rw [if_neg (by rw [ex_t hnn (p := pOuI S k) ⟨h50, h58⟩]; decide)]) hRr (hF2.tr hFr)
  · have hx := sIx_0 h10
    refine x_aload_n hG (pc := 13) 0 dX7_service_13 rfl rfl ?_
    refine x_iconst hG (pc := 14) 1 dX7_service_14 (by decide) ?_
    refine x_callV hG hO (pc := 15) [_] c_X7_refuse lk_X7_76 hR0.main rfl rfl ⟨by decide, by decide⟩ (Nat.le_of_ble_eq_true rfl) (by rw [hG.mc]; exact Nat.le_of_ble_eq_true rfl) (by rw [hG.ms]; exact Nat.le_of_ble_eq_true rfl) dX7_service_15 ?_
    refine ⟨_, _, 1, rfl, hR0, fun wr hRr hFr => ?_⟩
    refine x_ireturn hG (pc := 18) dX7_service_18 rfl rfl (by rw [hG.mc]; exact Nat.le_of_ble_eq_true rfl) (by rw [hG.ms]; exact Nat.le_of_ble_eq_true rfl) ?_
    exact hk.ok (k := 1) (v := 0) (S1 := S) (by simp only [oSer, hx, ↓reduceIte]) hRr (hF0.tr hFr)
