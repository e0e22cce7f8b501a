/-! TrackNights: a night ends; a day goes by; what a work would cost -/
/-- what a night's end leaves -/
def Fm (S T : St) : Prop := nN T = nN S ∧ nM T = nM S ∧ nE T = nE S ∧ eS T = eS S ∧ ∀ n x, x ≠ 0 → x ≠ 8 → x ≠ 9 → gS T n x = gS S n x
theorem Fm.rf {S : St} : Fm S S := ⟨rfl, rfl, rfl, rfl, fun _ _ _ _ _ => rfl⟩
theorem Fm.tr {S T U : St} (h : Fm S T) (h2 : Fm T U) : Fm S U := ⟨h2.1.trans h.1, h2.2.1.trans h.2.1, h2.2.2.1.trans h.2.2.1, h2.2.2.2.1.trans h.2.2.2.1, fun n x a b c => (h2.2.2.2.2 n x a b c).trans (h.2.2.2.2 n x a b c)⟩
theorem Fm.sS {S : St} {i : Nat} {f : Nat → Int32} : Fm S (setS S i f) := ⟨rfl, rfl, rfl, rfl, fun _ _ _ _ _ => rfl⟩
theorem Fm.sM {S : St} {i : Nat} {f : Nat → Int32} : Fm S (setM S i f) := ⟨rfl, rfl, rfl, rfl, fun _ _ _ _ _ => rfl⟩
theorem Fm.sG {S : St} {f : Nat → Int32} : Fm S (setG S f) := ⟨rfl, rfl, rfl, rfl, fun _ _ _ _ _ => rfl⟩
theorem Fm.sN {S : St} {i : Nat} {f : Nat → Int32} (h : ∀ x, x ≠ 0 → x ≠ 8 → x ≠ 9 → f x = gS S i x) : Fm S (setN S i f) := by
  refine ⟨rfl, rfl, rfl, rfl, fun n x a b c => ?_⟩
  by_cases q : n = i
  · subst q
    exact (congrFun gS_setN x).trans (h x a b c)
  · exact congrFun (rset_n (f := S.2.2.1.2) (x := f) q) x
def jobs (S : St) (n : Nat) : Nat → St
  | 0 => S
  | j + 1 => oJob (jobs S n j) n j
theorem oJo_g {S : St} {m q : Nat} {h : Int32} : gS (oJo S m q h) = gS S ∧ Fm S (oJo S m q h) := by
  unfold oJo
  split
  · split <;> exact ⟨rfl, ⟨rfl, rfl, rfl, rfl, fun _ _ _ _ _ => rfl⟩⟩
  · exact ⟨rfl, ⟨rfl, rfl, rfl, rfl, fun _ _ _ _ _ => rfl⟩⟩
theorem jobs_g {S : St} {n : Nat} : ∀ j, gS (jobs S n j) = gS S ∧ Fm S (jobs S n j)
  | 0 => ⟨rfl, Fm.rf⟩
  | j + 1 => ⟨oJo_g.1.trans (jobs_g j).1, (jobs_g j).2.tr oJo_g.2⟩
def tkI (S : St) (n : Nat) : Int32 := cnt (fun m => (htS (fun j => jM S n j) (hrC S n) m (mS S m 1) (nJ (gS S n))).2) (nM S)
def oEnd (S : St) (n : Nat) (late : Int32) : St :=
  let T := jobs S n (nJ (gS S n))
  let ov := mx 0 (tkI S n - gS T n 5) + late
  setG (setN T n (rset (rset (gS T n) 0 2) 9 ov)) (rset (rset (gl T) 6 (gl T 6 + ov)) 2 (gl T 2 + 20 * gS T n 5 + 30 * tkI S n + 100 * ov))
theorem oEnd_f {S : St} {n : Nat} {late : Int32} : Fm S (oEnd S n late) := by
  refine ((jobs_g (n := n) (nJ (gS S n))).2.tr (Fm.sN ?_)).tr Fm.sG
  intro x a b c
  rw [rset_n c, rset_n a]
theorem gS_setG {S : St} {f : Nat → Int32} : gS (setG S f) = gS S := rfl
def JobOk (S : St) (n : Nat) : Prop := ∀ j, j < nJ (gS S n) → jM S n j < nM S ∧ jQ S n j < 20
theorem JobOk.fm {S T : St} {n : Nat} (h : JobOk S n) (hF : Fm S T) : JobOk T n := by
  intro j hj
  have h6 : nJ (gS T n) = nJ (gS S n) := congrArg Int32.toNatClampNeg (hF.2.2.2.2 n 6 (by decide) (by decide) (by decide))
  rw [h6] at hj
  have e1 : jM T n j = jM S n j := congrArg Int32.toNatClampNeg (hF.2.2.2.2 n _ (by omega) (by omega) (by omega))
  have e2 : jQ T n j = jQ S n j := congrArg Int32.toNatClampNeg (hF.2.2.2.2 n _ (by omega) (by omega) (by omega))
  rw [e1, e2, hF.2.1]
  exact h j hj
theorem htS_c {ma mb : Nat → Nat} {hr : Nat → Int32} {t u : Nat} {l : Int32} : ∀ k, (∀ j, j < k → (ma j = t ↔ mb j = u)) → htS ma hr t l k = htS mb hr u l k
  | 0, _ => rfl
  | k + 1, h => by
    have ih := htS_c (hr := hr) (l := l) k (fun j hj => h j (by omega))
    have hk := h k (by omega)
    simp only [htS]
    rw [ih]
    by_cases q : ma k = t
    · rw [if_pos q, if_pos (hk.1 q)]
    · rw [if_neg q, if_neg (fun z => q (hk.2 z))]
theorem cnt_c {p q : Nat → Int32} : ∀ n, (∀ k, k < n → p k = q k) → cnt p n = cnt q n
  | 0, _ => rfl
  | n + 1, h => by
    simp only [cnt]
    rw [cnt_c n (fun k hk => h k (by omega)), h n (by omega)]
theorem RepC.took {Γ : Gw} {L : LayC} {S : St} {w : Wd} (h : RepC Γ L S w) {n : Nat} (hj : JobOk S n) : sumT L S n (nM S) = tkI S n :=
  cnt_c _ fun m hm => congrArg Prod.snd (htS_c _ fun j hjj => ⟨fun q => h.mac_inj (hj j hjj).1 hm q, fun q => by show L.1 (10, jM S n j, 0) = _; rw [q]⟩)
def nts (S : St) (d : Int32) : Nat → St
  | 0 => S
  | k + 1 => if gS (nts S d k) k 4 = d then (if gS (nts S d k) k 0 = 0 then setN (nts S d k) k (rset (gS (nts S d k) k) 0 3) else if gS (nts S d k) k 0 = 1 then oEnd (nts S d k) k 2 else nts S d k) else nts S d k
theorem nts_f {S : St} {d : Int32} : ∀ k, Fm S (nts S d k)
  | 0 => Fm.rf
  | k + 1 => by
    simp only [nts]
    split
    · split
      · exact (nts_f k).tr (Fm.sN fun x a b c => rset_n a)
      · split
        · exact (nts_f k).tr oEnd_f
        · exact nts_f k
    · exact nts_f k
def oSec (S : St) (t : Int32) (i : Nat) : St :=
  let T1 := setS S i (age (sS S i) t)
  let T2 := setG T1 (rset (gl T1) 2 (gl T1 2 + s_delay t (sS T1 i 6)))
  let T3 := oBrk T2 i
  if sS T3 i 6 ≤ sp7 (sS T3 i) (gl T3 1) then T3 else setG T3 (rset (gl T3) 3 (gl T3 3 + 1))
def dys (S : St) (t : Int32) : Nat → St
  | 0 => S
  | i + 1 => oSec (dys S t i) t i
def oDay (S : St) (t h : Int32) : St :=
  let T := nts S (gl S 0) (nN S)
  dys (setG T (rset (rset (gl T) 0 (gl T 0 + 1)) 1 h)) t 20
def agn (f : Nat → Int32) (t : Int32) : Nat → Nat → Int32
  | 0 => f
  | j + 1 => age (agn f t j) t
def csum (f : Nat → Int32) (t h c : Int32) : Nat → Int32
  | 0 => c
  | j + 1 => csum f t h c j + s_delay t (sp7 (agn f t (j + 1)) h)
def cRow (S : St) (i : Nat) (k : Int32) : Nat → Int32 := if k = 3 then sS S i else trt (sS S i) k (gl S 1)
def cBeh (S : St) (i : Nat) (k t : Int32) (n : Nat) : Int32 := csum (cRow S i k) t (gl S 1) (if k = 3 then 0 else if k = 2 then 30 * s_hours k (sS S i 5) + 300 else 30 * s_hours k (sS S i 5)) n
section U2
variable {Γ : Gw} {L : LayC} {S : St} {w w1 : Wd}
theorem RepC.uT (h : RepC Γ L S w) {f : Nat → Int32} (e : w1 = wup (wup w (L.1 (4, 20, 0)) ((4, 20, 0), oV (f 0) (f 1) (f 2))) (L.1 (3, 20, 0)) ((3, 20, 0), oS (L.1 (4, 20, 0)) (f 3) (f 4) (f 5) (f 6))) : RepC Γ (L.1, L.2.1, L.2.2.1, f) S w1 ∧ FrM w w1 := by
  subst e
  have hb : (wup w (L.1 (4, 20, 0)) ((4, 20, 0), oV (f 0) (f 1) (f 2))) (L.1 (3, 20, 0)) = _ := wup_e h.triv h.tri (by intro q; cases q)
  have hF : Fr2 (3, 20, 0) (4, 20, 0) w (wup (wup w (L.1 (4, 20, 0)) ((4, 20, 0), oV (f 0) (f 1) (f 2))) (L.1 (3, 20, 0)) ((3, 20, 0), oS (L.1 (4, 20, 0)) (f 3) (f 4) (f 5) (f 6))) := (Fr2.rf.up h.triv (Or.inr rfl)).up hb (Or.inl rfl)
  exact ⟨rc_trial h wup_s (wup_e hb wup_s (by intro q; cases q)) hF, hF.frM (by show 3 < 50; decide) (by show 4 < 50; decide)⟩
theorem RepC.uTv (h : RepC Γ L S w) {f : Nat → Int32} (e : w1 = wup w (L.1 (4, 20, 0)) ((4, 20, 0), oV (f 0) (f 1) (f 2))) (h3 : f 3 = L.2.2.2 3) (h4 : f 4 = L.2.2.2 4) (h5 : f 5 = L.2.2.2 5) (h6 : f 6 = L.2.2.2 6) : RepC Γ (L.1, L.2.1, L.2.2.1, f) S w1 ∧ FrM w w1 := by
  subst e
  have hF : Fr2 (3, 20, 0) (4, 20, 0) w (wup w (L.1 (4, 20, 0)) ((4, 20, 0), oV (f 0) (f 1) (f 2))) := Fr2.rf.up h.triv (Or.inr rfl)
  refine ⟨rc_trial h ?_ wup_s hF, hF.frM (by show 3 < 50; decide) (by show 4 < 50; decide)⟩
  rw [h3, h4, h5, h6]
  exact wup_e h.triv h.tri (by intro q; cases q)
end U2
theorem x_iincW {g : Cxt} {cc : ByteArray} {own nm : String} {rt : Option FieldType} {rm : Room} (hG : Cx g cc own nm rt rm) {w : Wd} {kc ks pc : Nat} {lv : List (Option Value)} {st : List Value} {i : Nat} {n : Int} {x : Int32} (v : Int32) {lv2 : List (Option Value)} (hd : decode cc pc = .ok (.iinc i n, 6)) (hx : lv[i]? = some (some (.int x))) (hn : i < lv.length) (hok : okS lv i = true) (he : x + Int32.ofInt n = v) (hl : lv.set i (some (.int v)) = lv2) (k : X g w kc ks (pc + 6) lv2 st) : X g w kc ks pc lv st := by
  obtain ⟨p, l, e, R, s, m, args, below, meth, c, Γ, nL, mc, ms, post, xpost⟩ := g
  obtain ⟨hF, hr, hlk, hE, hsl, rfl, hmc, hms, hnm⟩ := hG
  intro H locs ls hP hS hv
  subst hl
  have hm : (i, Value.int x) ∈ den lv 0 := (den_mem lv 0 i _).mpr ⟨Nat.zero_le _, hx⟩
  obtain ⟨q, hq⟩ := List.getElem?_of_mem hm
  exact lv_iincW hF.1 hF.2.1 hd hv.1 hq he (by rw [← hv.2]; exact hn) rfl (fun ls2 h2 => k H locs ls2 hP hS (lh_set hok hv.2 h2))
set_option maxHeartbeats 400000 in
set_option maxRecDepth 100000 in
theorem c_X6_endNight : CtrA yX6_endNight cX6_endNight 5 none (rmk 5 0 0 113) (fun Γ av w post xpost => ∃ (L : LayC) (S : St), ∃ n late, av = [.ref (thC L), .ref (L.1 (11, n, 0)), .int late] ∧ RepC Γ L S w ∧ n < nN S ∧ JobOk S n ∧ (∀ w1, RepC Γ L (oEnd S n late) w1 → FrM w w1 → post none w1)) := by
  refine ctr_of (by decide) ?_
  rintro g av w hG hO ⟨L, S, n, late, rfl, hR, hn2, hJ, hk⟩
  refine ⟨Nat.le_of_ble_eq_true rfl, ?_⟩
  show X g w 0 0 0 [some (.ref (thC L)), some (.ref (L.1 (11, n, 0))), some (.int late), none, none] []
  have hn : nN S ≤ 30 := hR.n30 (id := 2) (by omega)
  have hnj : nJ (gS S n) ≤ 30 := hR.n30 (id := n + 3) (by omega)
  refine x_aload_n hG (pc := 0) 0 dX6_endNight_0 rfl rfl ?_
  refine x_aload_n hG (pc := 1) 1 dX6_endNight_1 rfl rfl ?_
  refine x_callV hG hO (pc := 2) [_] c_X6_hoursTaken lk_X6_368 (by first | assumption | exact hR.main) rfl rfl ⟨by decide, by decide⟩ (Nat.le_of_ble_eq_true rfl) (by rw [hG.mc]; exact Nat.le_of_ble_eq_true rfl) (by rw [hG.ms]; exact Nat.le_of_ble_eq_true rfl) dX6_endNight_2 ?_
  refine ⟨L, S, n, rfl, hR, hn2, ?_⟩
  rw [hR.took hJ]
  refine x_istore_n hG (pc := 5) 3 dX6_endNight_5 rfl (Nat.le_of_ble_eq_true rfl) rfl (by dsimp only [List.set]) ?_
  refine x_iconst hG (pc := 6) 0 dX6_endNight_6 (by decide) ?_
  refine x_istore hG (pc := 7) dX6_endNight_7 (Nat.le_of_ble_eq_true rfl) rfl (by dsimp only [List.set]) ?_
  refine nat_down (P := fun j => ∀ w1, RepC (gΓ g) L (jobs S n j) w1 → FrM w w1 → X g w1 0 0 9 [some (.ref (thC L)), some (.ref (L.1 (11, n, 0))), some (.int late), some (.int (tkI S n)), some (.int (nI j))] []) (nJ (gS S n)) (fun j hj0 ih w1 hR1 hF1 => ?_) 0 (Nat.zero_le _) w hR FrM.rf
  have hg := (jobs_g (S := S) (n := n) j).1
  have hf := (jobs_g (S := S) (n := n) j).2
  have hN := hf.1
  have hn1 : n < nN (jobs S n j) := by omega
  refine x_iload hG (pc := 9) dX6_endNight_9 rfl ?_
  refine x_aload_n hG (pc := 11) 1 dX6_endNight_11 rfl rfl ?_
  refine x_getf hG (pc := 12) fl_X6_196 (hR1.pos hn1) rfl dX6_endNight_12 ?_
  refine x_callV hG hO (pc := 15) [] c_Jx4a65c_size_8abf5 lk_X6_104 (hR1.lst (id := n + 3) (by omega)).1 rfl rfl ⟨by decide, by decide⟩ (Nat.le_of_ble_eq_true rfl) (by rw [hG.mc]; exact Nat.le_of_ble_eq_true rfl) (by rw [hG.ms]; exact Nat.le_of_ble_eq_true rfl) dX6_endNight_15 ?_
  refine ⟨_, _, _, _, _, rfl, (hR1.lst (id := n + 3) (by omega)).1, ?_⟩
  show X g w1 0 0 18 _ [.int (nI (nJ (gS (jobs S n j) n))), .int (nI j)]
  rw [hg]
  refine x_icmp_ge hG (pc := 18) 43 dX6_endNight_18 (by decide) (fun h18 => ?_) (fun h18 => ?_)
  · have hje : j = nJ (gS S n) := by
      rcases Nat.lt_or_ge j (nJ (gS S n)) with q | q
      · exact absurd h18 (nI_ge (b := nJ (gS S n)) q (by omega))
      · omega
    subst hje
    refine x_aload_n hG (pc := 43) 1 dX6_endNight_43 rfl rfl ?_
    refine x_iconst hG (pc := 44) 2 dX6_endNight_44 (by decide) ?_
    refine x_putf hG (pc := 45) fl_X6_191 fw_4 ft_4_6 (hR1.pos hn1) (Nat.le_of_ble_eq_true rfl) rfl rfl (by dsimp only [List.set]) dX6_endNight_45 ?_
    refine x_gen (fun w2 e2 => ?_)
    obtain ⟨hR2, hF2⟩ := hR1.uN hn1 (f := rset (gS (jobs S n (nJ (gS S n))) n) 0 2) e2 rfl (fun x hx => rset_n (by omega))
    have hp2 := hR2.pos (k := n) hn1
    rw [gS_setN] at hp2
    refine x_aload_n hG (pc := 48) 1 dX6_endNight_48 rfl rfl ?_
    refine x_iconst hG (pc := 49) 0 dX6_endNight_49 (by decide) ?_
    refine x_iload_n hG (pc := 50) 3 dX6_endNight_50 rfl rfl ?_
    refine x_aload_n hG (pc := 51) 1 dX6_endNight_51 rfl rfl ?_
    refine x_getf hG (pc := 52) fl_X6_211 hp2 rfl dX6_endNight_52 ?_
    refine x_isub hG (pc := 55) dX6_endNight_55 ?_
    refine x_mmax hG (pc := 56) lk_X6_372 dX6_endNight_56 (by decide) (Nat.le_of_ble_eq_true rfl) (by rw [hG.mc]; exact Nat.le_of_ble_eq_true rfl) (by rw [hG.ms]; exact Nat.le_of_ble_eq_true rfl) ?_
    refine x_iload_n hG (pc := 59) 2 dX6_endNight_59 rfl rfl ?_
    refine x_iadd hG (pc := 60) dX6_endNight_60 ?_
    refine x_putf hG (pc := 61) fl_X6_259 fw_4 ft_4_9 hp2 (Nat.le_of_ble_eq_true rfl) rfl rfl (by dsimp only [List.set]) dX6_endNight_61 ?_
    refine x_gen (fun w3 e3 => ?_)
    obtain ⟨hR3, hF3⟩ := hR2.uN (i := n) hn1 (f := rset (rset (gS (jobs S n (nJ (gS S n))) n) 0 2) 9 (mx 0 (tkI S n - gS (jobs S n (nJ (gS S n))) n 5) + late)) e3 (by rw [gS_setN]; rfl) (fun x hx => by rw [gS_setN]; exact rset_n (by omega))
    rw [setN2] at hR3
    have hp3 := hR3.pos (k := n) hn1
    rw [gS_setN] at hp3
    refine x_aload_n hG (pc := 64) 0 dX6_endNight_64 rfl rfl ?_
    refine x_dup hG (pc := 65) dX6_endNight_65 rfl ?_
    refine x_getf hG (pc := 66) fl_X6_61 hR3.main rfl dX6_endNight_66 ?_
    refine x_aload_n hG (pc := 69) 1 dX6_endNight_69 rfl rfl ?_
    refine x_getf hG (pc := 70) fl_X6_259 hp3 rfl dX6_endNight_70 ?_
    refine x_iadd hG (pc := 73) dX6_endNight_73 ?_
    refine x_putf hG (pc := 74) fl_X6_61 fw_8 ft_8_12 hR3.main (Nat.le_of_ble_eq_true rfl) rfl rfl (by dsimp only [List.set]) dX6_endNight_74 ?_
    refine x_gen (fun w4 e4 => ?_)
    obtain ⟨hR4, hF4⟩ := hR3.uG (f := (rset (gl (jobs S n (nJ (gS S n)))) 6 (gl (jobs S n (nJ (gS S n))) 6 + (mx 0 (tkI S n - gS (jobs S n (nJ (gS S n))) n 5) + late)))) e4
    have hp4 := hR4.pos (k := n) hn1
    rw [gS_setG, gS_setN] at hp4
    refine x_aload_n hG (pc := 77) 0 dX6_endNight_77 rfl rfl ?_
    refine x_dup hG (pc := 78) dX6_endNight_78 rfl ?_
    refine x_getf hG (pc := 79) fl_X6_49 hR4.main rfl dX6_endNight_79 ?_
    refine x_bipush hG (pc := 82) 20 dX6_endNight_82 (by decide) ?_
    refine x_aload_n hG (pc := 84) 1 dX6_endNight_84 rfl rfl ?_
    refine x_getf hG (pc := 85) fl_X6_211 hp4 rfl dX6_endNight_85 ?_
    refine x_imul hG (pc := 88) dX6_endNight_88 ?_
    refine x_iadd hG (pc := 89) dX6_endNight_89 ?_
    refine x_putf hG (pc := 90) fl_X6_49 fw_8 ft_8_8 hR4.main (Nat.le_of_ble_eq_true rfl) rfl rfl (by dsimp only [List.set]) dX6_endNight_90 ?_
    refine x_gen (fun w5 e5 => ?_)
    obtain ⟨hR5, hF5⟩ := hR4.uG (f := rset (rset (gl (jobs S n (nJ (gS S n)))) 6 (gl (jobs S n (nJ (gS S n))) 6 + (mx 0 (tkI S n - gS (jobs S n (nJ (gS S n))) n 5) + late))) 2 (gl (jobs S n (nJ (gS S n))) 2 + 20 * gS (jobs S n (nJ (gS S n))) n 5)) e5
    refine x_aload_n hG (pc := 93) 0 dX6_endNight_93 rfl rfl ?_
    refine x_dup hG (pc := 94) dX6_endNight_94 rfl ?_
    refine x_getf hG (pc := 95) fl_X6_49 hR5.main rfl dX6_endNight_95 ?_
    refine x_bipush hG (pc := 98) 30 dX6_endNight_98 (by decide) ?_
    refine x_iload_n hG (pc := 100) 3 dX6_endNight_100 rfl rfl ?_
    refine x_imul hG (pc := 101) dX6_endNight_101 ?_
    refine x_iadd hG (pc := 102) dX6_endNight_102 ?_
    refine x_putf hG (pc := 103) fl_X6_49 fw_8 ft_8_8 hR5.main (Nat.le_of_ble_eq_true rfl) rfl rfl (by dsimp only [List.set]) dX6_endNight_103 ?_
    refine x_gen (fun w6 e6 => ?_)
    obtain ⟨hR6, hF6⟩ := hR5.uG (f := rset (rset (gl (jobs S n (nJ (gS S n)))) 6 (gl (jobs S n (nJ (gS S n))) 6 + (mx 0 (tkI S n - gS (jobs S n (nJ (gS S n))) n 5) + late))) 2 ((gl (jobs S n (nJ (gS S n))) 2 + 20 * gS (jobs S n (nJ (gS S n))) n 5) + 30 * tkI S n)) e6
    have hp6 := hR6.pos (k := n) hn1
    rw [gS_setG, gS_setG, gS_setG, gS_setN] at hp6
    refine x_aload_n hG (pc := 106) 0 dX6_endNight_106 rfl rfl ?_
    refine x_dup hG (pc := 107) dX6_endNight_107 rfl ?_
    refine x_getf hG (pc := 108) fl_X6_49 hR6.main rfl dX6_endNight_108 ?_
    refine x_bipush hG (pc := 111) 100 dX6_endNight_111 (by decide) ?_
    refine x_aload_n hG (pc := 113) 1 dX6_endNight_113 rfl rfl ?_
    refine x_getf hG (pc := 114) fl_X6_259 hp6 rfl dX6_endNight_114 ?_
    refine x_imul hG (pc := 117) dX6_endNight_117 ?_
    refine x_iadd hG (pc := 118) dX6_endNight_118 ?_
    refine x_putf hG (pc := 119) fl_X6_49 fw_8 ft_8_8 hR6.main (Nat.le_of_ble_eq_true rfl) rfl rfl (by dsimp only [List.set]) dX6_endNight_119 ?_
    refine x_gen (fun w7 e7 => ?_)
    obtain ⟨hR7, hF7⟩ := hR6.uG (f := rset (rset (gl (jobs S n (nJ (gS S n)))) 6 (gl (jobs S n (nJ (gS S n))) 6 + (mx 0 (tkI S n - gS (jobs S n (nJ (gS S n))) n 5) + late))) 2 (((gl (jobs S n (nJ (gS S n))) 2 + 20 * gS (jobs S n (nJ (gS S n))) n 5) + 30 * tkI S n) + 100 * (mx 0 (tkI S n - gS (jobs S n (nJ (gS S n))) n 5) + late))) e7
    refine x_return hG (pc := 122) dX6_endNight_122 rfl (by rw [hG.mc]; exact Nat.le_of_ble_eq_true rfl) (by rw [hG.ms]; exact Nat.le_of_ble_eq_true rfl) ?_
    exact hk _ hR7 (((((((hF1.tr hF2).tr hF3).tr hF4).tr hF5).tr hF6)).tr hF7)
  · have hj : j < nJ (gS S n) := by
      rcases Nat.lt_or_ge j (nJ (gS S n)) with q | q
      · exact q
      · exact absurd (nI_le q (by omega)) h18
    have hj1 : j < nJ (gS (jobs S n j) n) := by rw [hg]; exact hj
    obtain ⟨tw, hw⟩ := hR1.wrk hn1 j hj1
    obtain ⟨hm, hq⟩ := hJ.fm hf j hj1
    refine x_aload_n hG (pc := 21) 0 dX6_endNight_21 rfl rfl ?_
    refine x_aload_n hG (pc := 22) 1 dX6_endNight_22 rfl rfl ?_
    refine x_getf hG (pc := 23) fl_X6_196 (hR1.pos hn1) rfl dX6_endNight_23 ?_
    refine x_iload hG (pc := 26) dX6_endNight_26 rfl ?_
    refine x_callV hG hO (pc := 28) [_] c_Jx4a65c_get_915e3 lk_X6_130 (hR1.lst (id := n + 3) (by omega)).1 rfl rfl ⟨by decide, by decide⟩ (Nat.le_of_ble_eq_true rfl) (by rw [hG.mc]; exact Nat.le_of_ble_eq_true rfl) (by rw [hG.ms]; exact Nat.le_of_ble_eq_true rfl) dX6_endNight_28 ?_
    refine ⟨_, _, _, _, _, _, _, _, j, rfl, hR1.lst (id := n + 3) (by omega), hj1, ?_⟩
    refine x_castC hG (pc := 31) ck_X6_222 hw dX6_endNight_31 ?_
    refine x_callV hG hO (pc := 34) [_] c_X6_carryOut lk_X6_448 hR1.main rfl rfl ⟨by decide, by decide⟩ (Nat.le_of_ble_eq_true rfl) (by rw [hG.mc]; exact Nat.le_of_ble_eq_true rfl) (by rw [hG.ms]; exact Nat.le_of_ble_eq_true rfl) dX6_endNight_34 ?_
    refine ⟨L, jobs S n j, n, j, rfl, hR1, hn1, hj1, hm, hq, fun w2 hR2 hF2 => ?_⟩
    refine x_iinc hG (pc := 37) (nI (j + 1)) dX6_endNight_37 rfl (Nat.le_of_ble_eq_true rfl) rfl (nI_1' j) (by dsimp only [List.set]) ?_
    refine x_goto hG (pc := 40) 9 dX6_endNight_40 (by decide) ?_
    exact ih (j + 1) (by omega) (by omega) w2 hR2 (hF1.tr hF2)
