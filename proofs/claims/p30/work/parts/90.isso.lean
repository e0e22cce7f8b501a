/-! p30's law: its last check, and the works that it puts in -/
theorem nI_inj {a b : Nat} (h : nI a = nI b) (ha : a < 2 ^ 31) (hb : b < 2 ^ 31) : a = b := by
  have := congrArg Int32.toInt h
  rw [nI_toInt ha, nI_toInt hb] at this
  omega
set_option maxHeartbeats 4000000 in
set_option maxRecDepth 100000 in
theorem c_L_isSo : CtrA yL_isSo cL_isSo 10 (some .boolean) (rmk 7 3 17 154) (fun Γ av w post _ => ∃ (L : LayC) (S : St), ∃ t, av = [.ref (thC L), .int (nI (nM S)), .int (nI (nN S))] ∧ RepC Γ L S w ∧ P3 S t ∧ ∀ w1, (∀ b x, w b = some x → w1 b = some x) → post (some (.int 1)) w1) := by
  refine ctr_of (by decide) ?_
  rintro g av w hG hO ⟨L, S, t, rfl, hR, hP, hk⟩
  refine ⟨Nat.le_of_ble_eq_true rfl, ?_⟩
  show X g w 0 0 0 [some (.ref (thC L)), some (.int (nI (nM S))), some (.int (nI (nN S))), none, none, none, none, none, none, none] []
  have hI := hP.1.1
  have hM4 := hI.2.1.1
  have hN16 := hI.2.1.2.1
  refine x_iconst hG (pc := 0) 0 dL_isSo_0 (by decide) ?_
  refine x_istore_n hG (pc := 1) 3 dL_isSo_1 rfl (Nat.le_of_ble_eq_true rfl) rfl (by dsimp only [List.set]) ?_
  refine x_iconst hG (pc := 2) 0 dL_isSo_2 (by decide) ?_
  refine x_istore hG (pc := 3) dL_isSo_3 (Nat.le_of_ble_eq_true rfl) rfl (by dsimp only [List.set]) ?_
  refine x_iconst hG (pc := 5) 0 dL_isSo_5 (by decide) ?_
  refine x_istore hG (pc := 6) dL_isSo_6 (Nat.le_of_ble_eq_true rfl) rfl (by dsimp only [List.set]) ?_
  refine nat_down (P := fun k => ∀ z6 : Option Value, X g w 0 0 8 [some (.ref (thC L)), some (.int (nI (nM S))), some (.int (nI (nN S))), some (.int (cnt (pF S) k)), some (.int (cnt (pG S) k)), some (.int (nI k)), z6, none, none, none] []) 20 (fun k hi ih z6 => ?_) 0 (Nat.zero_le _) none
  refine x_iload hG (pc := 8) dL_isSo_8 rfl ?_
  refine x_bipush hG (pc := 10) 20 dL_isSo_10 (by decide) ?_
  refine x_icmp_ge hG (pc := 12) 325 dL_isSo_12 (by decide) (fun h12 => ?_) (fun h12 => ?_)
  · have hke : k = 20 := by
      have := ge_d (n := 20) h12 (by decide) (by omega)
      omega
    subst hke
    refine x_iconst hG (pc := 325) 5 dL_isSo_325 (by decide) ?_
    refine x_newI hG (pc := 326) (83, 0, 0) (n := 5) (by decide) rfl (by decide) dL_isSo_326 (by rw [hG.mc]; exact Nat.le_of_ble_eq_true rfl) (by rw [hG.ms]; exact Nat.le_of_ble_eq_true rfl) (fun q hfq hnq => ?_)
    refine x_gen (fun w1 e1 => ?_)
    refine x_astore hG (pc := 328) dL_isSo_328 (Nat.le_of_ble_eq_true rfl) rfl (by dsimp only [List.set]) ?_
    refine x_iconst hG (pc := 330) 0 dL_isSo_330 (by decide) ?_
    refine x_istore hG (pc := 331) dL_isSo_331 (Nat.le_of_ble_eq_true rfl) rfl (by dsimp only [List.set]) ?_
    refine x_iconst hG (pc := 333) 0 dL_isSo_333 (by decide) ?_
    refine x_istore hG (pc := 334) dL_isSo_334 (Nat.le_of_ble_eq_true rfl) rfl (by dsimp only [List.set]) ?_
    refine nat_down (P := fun k => ∀ (w2 : Wd) (f : Nat → Int32) (z8 z9 : Option Value), w2 q = some ((83, 0, 0), aI (gK g) 5 f) → (∀ b x, w b = some x → w2 b = some x) → (∀ st, st < 5 → f st = cnt (pI S st) k) → X g w2 1 5 336 [some (.ref (thC L)), some (.int (nI (nM S))), some (.int (nI (nN S))), some (.int (cnt (pF S) 20)), some (.int (cnt (pG S) 20)), some (.ref q), some (.int (cnt (pO S) k)), some (.int (nI k)), z8, z9] []) (nN S) (fun k hi ih w2 f z8 z9 hq hF hf => ?_) 0 (Nat.zero_le _) w1 (fun _ => 0) none none (by rw [e1]; exact wup_s) (fun b x hb => by rw [e1]; exact wup_f hfq hb) (fun _ _ => rfl)
    have hR2 : RepC (gΓ g) L S w2 := hR.mono hF
    refine x_iload hG (pc := 336) dL_isSo_336 rfl ?_
    refine x_iload_n hG (pc := 338) 2 dL_isSo_338 rfl rfl ?_
    refine x_icmp_ge hG (pc := 339) 569 dL_isSo_339 (by decide) (fun h339 => ?_) (fun h339 => ?_)
    · have hke : k = nN S := by
        have := ge_d h339 (by omega) (by omega)
        omega
      subst hke
      refine x_iconst hG (pc := 569) 0 dL_isSo_569 (by decide) ?_
      refine x_istore hG (pc := 570) dL_isSo_570 (Nat.le_of_ble_eq_true rfl) rfl (by dsimp only [List.set]) ?_
      refine nat_down (P := fun m => X g w2 1 5 572 [some (.ref (thC L)), some (.int (nI (nM S))), some (.int (nI (nN S))), some (.int (cnt (pF S) 20)), some (.int (cnt (pG S) 20)), some (.ref q), some (.int (cnt (pO S) (nN S))), some (.int (nI m)), z8, z9] []) (nM S) (fun m hm ih3 => ?_) 0 (Nat.zero_le _)
      refine x_iload hG (pc := 572) dL_isSo_572 rfl ?_
      refine x_iload_n hG (pc := 574) 1 dL_isSo_574 rfl rfl ?_
      refine x_icmp_ge hG (pc := 575) 628 dL_isSo_575 (by decide) (fun h575 => ?_) (fun h575 => ?_)
      · refine x_iconst hG (pc := 628) 0 dL_isSo_628 (by decide) ?_
        refine x_istore hG (pc := 629) dL_isSo_629 (Nat.le_of_ble_eq_true rfl) rfl (by dsimp only [List.set]) ?_
        refine nat_down (P := fun v => X g w2 1 5 631 [some (.ref (thC L)), some (.int (nI (nM S))), some (.int (nI (nN S))), some (.int (cnt (pF S) 20)), some (.int (cnt (pG S) 20)), some (.ref q), some (.int (cnt (pO S) (nN S))), some (.int (nI v)), z8, z9] []) 5 (fun v hv ih4 => ?_) 0 (Nat.zero_le _)
        refine x_iload hG (pc := 631) dL_isSo_631 rfl ?_
        refine x_iconst hG (pc := 633) 5 dL_isSo_633 (by decide) ?_
        refine x_icmp_ge hG (pc := 634) 661 dL_isSo_634 (by decide) (fun h634 => ?_) (fun h634 => ?_)
        · have hke : v = 5 := by
            have := ge_d (n := 5) h634 (by decide) (by omega)
            omega
          subst hke
          obtain ⟨d1, d2, d3, d4⟩ := so_end hP
          obtain ⟨d5, d6⟩ := so_mean hI
          refine x_aload_n hG (pc := 661) 0 dL_isSo_661 rfl rfl ?_
          refine x_bipush hG (pc := 662) 13 dL_isSo_662 (by decide) ?_
          refine x_callV hG hO (pc := 664) [_] v_X6_many lk_L_28 hR2.main rfl rfl ⟨by decide, by decide⟩ (Nat.le_of_ble_eq_true rfl) (by rw [hG.mc]; exact Nat.le_of_ble_eq_true rfl) (by rw [hG.ms]; exact Nat.le_of_ble_eq_true rfl) dL_isSo_664 ?_
          refine ⟨L, S, 13, rfl, hR2, hI, by decide, ?_⟩
          refine x_iload_n hG (pc := 667) 3 dL_isSo_667 rfl rfl ?_
          refine x_icmp_ne hG (pc := 668) 727 dL_isSo_668 (by decide) (fun h668 => ?_) (fun h668 => ?_)
          · exact absurd d1 h668
          · refine x_aload_n hG (pc := 671) 0 dL_isSo_671 rfl rfl ?_
            refine x_bipush hG (pc := 672) 14 dL_isSo_672 (by decide) ?_
            refine x_callV hG hO (pc := 674) [_] v_X6_many lk_L_28 hR2.main rfl rfl ⟨by decide, by decide⟩ (Nat.le_of_ble_eq_true rfl) (by rw [hG.mc]; exact Nat.le_of_ble_eq_true rfl) (by rw [hG.ms]; exact Nat.le_of_ble_eq_true rfl) dL_isSo_674 ?_
            refine ⟨L, S, 14, rfl, hR2, hI, by decide, ?_⟩
            refine x_iload hG (pc := 677) dL_isSo_677 rfl ?_
            refine x_icmp_ne hG (pc := 679) 727 dL_isSo_679 (by decide) (fun h679 => ?_) (fun h679 => ?_)
            · exact absurd d2 h679
            · refine x_aload_n hG (pc := 682) 0 dL_isSo_682 rfl rfl ?_
              refine x_bipush hG (pc := 683) 16 dL_isSo_683 (by decide) ?_
              refine x_callV hG hO (pc := 685) [_] v_X6_many lk_L_28 hR2.main rfl rfl ⟨by decide, by decide⟩ (Nat.le_of_ble_eq_true rfl) (by rw [hG.mc]; exact Nat.le_of_ble_eq_true rfl) (by rw [hG.ms]; exact Nat.le_of_ble_eq_true rfl) dL_isSo_685 ?_
              refine ⟨L, S, 16, rfl, hR2, hI, by decide, ?_⟩
              refine x_iload hG (pc := 688) dL_isSo_688 rfl ?_
              refine x_icmp_ne hG (pc := 690) 727 dL_isSo_690 (by decide) (fun h690 => ?_) (fun h690 => ?_)
              · exact absurd d3 h690
              · refine x_aload_n hG (pc := 693) 0 dL_isSo_693 rfl rfl ?_
                refine x_iconst hG (pc := 694) 3 dL_isSo_694 (by decide) ?_
                refine x_callV hG hO (pc := 695) [_] v_X6_many lk_L_28 hR2.main rfl rfl ⟨by decide, by decide⟩ (Nat.le_of_ble_eq_true rfl) (by rw [hG.mc]; exact Nat.le_of_ble_eq_true rfl) (by rw [hG.ms]; exact Nat.le_of_ble_eq_true rfl) dL_isSo_695 ?_
                refine ⟨L, S, 3, rfl, hR2, hI, by decide, ?_⟩
                refine x_if_ne hG (pc := 698) 727 dL_isSo_698 (by decide) (fun h698 => ?_) (fun h698 => ?_)
                · exact absurd d4 h698
                · refine x_aload_n hG (pc := 701) 0 dL_isSo_701 rfl rfl ?_
                  refine x_iconst hG (pc := 702) 0 dL_isSo_702 (by decide) ?_
                  refine x_callV hG hO (pc := 703) [_] c_X6_meanWear lk_L_124 hR2.main rfl rfl ⟨by decide, by decide⟩ (Nat.le_of_ble_eq_true rfl) (by rw [hG.mc]; exact Nat.le_of_ble_eq_true rfl) (by rw [hG.ms]; exact Nat.le_of_ble_eq_true rfl) dL_isSo_703 ?_
                  refine ⟨L, S, 0, rfl, hR2, hI, fun k9 hk9 e9 => ?_, fun z => absurd z (by decide)⟩
                  have hk0 : k9 = 0 := by
                    have := congrArg Int32.toInt e9
                    rw [nI_toInt (by omega)] at this
                    have e0 : (0 : Int32).toInt = 0 := rfl
                    omega
                  subst hk0
                  refine x_dconst0 hG (pc := 706) dL_isSo_706 ?_
                  refine x_dcmp hG (pc := 707) dL_isSo_707 ?_
                  refine x_if_lt hG (pc := 708) 727 dL_isSo_708 (by decide) (fun h708 => ?_) (fun h708 => ?_)
                  · exact absurd h708 d5
                  · refine x_aload_n hG (pc := 711) 0 dL_isSo_711 rfl rfl ?_
                    refine x_iconst hG (pc := 712) 0 dL_isSo_712 (by decide) ?_
                    refine x_callV hG hO (pc := 713) [_] c_X6_meanWear lk_L_124 hR2.main rfl rfl ⟨by decide, by decide⟩ (Nat.le_of_ble_eq_true rfl) (by rw [hG.mc]; exact Nat.le_of_ble_eq_true rfl) (by rw [hG.ms]; exact Nat.le_of_ble_eq_true rfl) dL_isSo_713 ?_
                    refine ⟨L, S, 0, rfl, hR2, hI, fun k9 hk9 e9 => ?_, fun z => absurd z (by decide)⟩
                    have hk0 : k9 = 0 := by
                      have := congrArg Int32.toInt e9
                      rw [nI_toInt (by omega)] at this
                      have e0 : (0 : Int32).toInt = 0 := rfl
                      omega
                    subst hk0
                    refine x_ldc2d hG (pc := 716) _ dL_isSo_716 kc_L_128 ?_
                    refine x_dcmp hG (pc := 719) dL_isSo_719 ?_
                    refine x_if_gt hG (pc := 720) 727 dL_isSo_720 (by decide) (fun h720 => ?_) (fun h720 => ?_)
                    · exact absurd h720 d6
                    · refine x_iconst hG (pc := 723) 1 dL_isSo_723 (by decide) ?_
                      refine x_goto hG (pc := 724) 728 dL_isSo_724 (by decide) ?_
                      refine x_ireturn hG (pc := 728) dL_isSo_728 rfl rfl (by rw [hG.mc]; exact Nat.le_of_ble_eq_true rfl) (by rw [hG.ms]; exact Nat.le_of_ble_eq_true rfl) ?_
                      exact hk w2 hF
        · have hk5 : v < 5 := lt_d (n := 5) h634 (by decide) (by omega)
          refine x_aload_n hG (pc := 637) 0 dL_isSo_637 rfl rfl ?_
          refine x_iconst hG (pc := 638) 4 dL_isSo_638 (by decide) ?_
          refine x_iload hG (pc := 639) dL_isSo_639 rfl ?_
          refine x_iadd hG (pc := 641) dL_isSo_641 ?_
          rw [show (4 : Int32) + nI v = nI (4 + v) from nI_add 4 v]
          refine x_callV hG hO (pc := 642) [_] v_X6_many lk_L_28 hR2.main rfl rfl ⟨by decide, by decide⟩ (Nat.le_of_ble_eq_true rfl) (by rw [hG.mc]; exact Nat.le_of_ble_eq_true rfl) (by rw [hG.ms]; exact Nat.le_of_ble_eq_true rfl) dL_isSo_642 ?_
          refine ⟨L, S, 4 + v, rfl, hR2, hI, by omega, ?_⟩
          refine x_aload hG (pc := 645) dL_isSo_645 rfl ?_
          refine x_iload hG (pc := 647) dL_isSo_647 rfl ?_
          refine x_iald hG (pc := 649) hq (vp_in_nI hk5 (by decide)) dL_isSo_649 ?_
          rw [nI_clamp (by omega), hf v hk5]
          refine x_icmp_eq hG (pc := 650) 655 dL_isSo_650 (by decide) (fun h650 => ?_) (fun h650 => ?_)
          · refine x_iinc hG (pc := 655) (nI (v + 1)) dL_isSo_655 rfl (Nat.le_of_ble_eq_true rfl) rfl (nI_1' v) (by dsimp only [List.set]) ?_
            refine x_goto hG (pc := 658) 631 dL_isSo_658 (by decide) ?_
            exact ih4 (v + 1) (by omega) (by omega)
          · exact absurd (man4 hk5) h650
      · have hmn : m < nM S := lt_d h575 (by omega) (by omega)
        obtain ⟨m1, m2, m3, m4⟩ := so_mac hP hmn
        refine x_aload_n hG (pc := 578) 0 dL_isSo_578 rfl rfl ?_
        refine x_iload hG (pc := 579) dL_isSo_579 rfl ?_
        refine x_iconst hG (pc := 581) 1 dL_isSo_581 (by decide) ?_
        refine x_callV hG hO (pc := 582) [_, _] v_X6_ofMachine lk_L_121 hR2.main rfl rfl ⟨by decide, by decide⟩ (Nat.le_of_ble_eq_true rfl) (by rw [hG.mc]; exact Nat.le_of_ble_eq_true rfl) (by rw [hG.ms]; exact Nat.le_of_ble_eq_true rfl) dL_isSo_582 ?_
        refine ⟨L, S, m, 1, rfl, hR2, hI, hmn, by decide, ?_⟩
        refine x_if_lt hG (pc := 585) 620 dL_isSo_585 (by decide) (fun h585 => ?_) (fun h585 => ?_)
        · exact absurd h585 m1
        · refine x_aload_n hG (pc := 588) 0 dL_isSo_588 rfl rfl ?_
          refine x_iload hG (pc := 589) dL_isSo_589 rfl ?_
          refine x_iconst hG (pc := 591) 1 dL_isSo_591 (by decide) ?_
          refine x_callV hG hO (pc := 592) [_, _] v_X6_ofMachine lk_L_121 hR2.main rfl rfl ⟨by decide, by decide⟩ (Nat.le_of_ble_eq_true rfl) (by rw [hG.mc]; exact Nat.le_of_ble_eq_true rfl) (by rw [hG.ms]; exact Nat.le_of_ble_eq_true rfl) dL_isSo_592 ?_
          refine ⟨L, S, m, 1, rfl, hR2, hI, hmn, by decide, ?_⟩
          refine x_bipush hG (pc := 595) 99 dL_isSo_595 (by decide) ?_
          refine x_icmp_gt hG (pc := 597) 620 dL_isSo_597 (by decide) (fun h597 => ?_) (fun h597 => ?_)
          · exact absurd h597 m2
          · refine x_aload_n hG (pc := 600) 0 dL_isSo_600 rfl rfl ?_
            refine x_iload hG (pc := 601) dL_isSo_601 rfl ?_
            refine x_iconst hG (pc := 603) 2 dL_isSo_603 (by decide) ?_
            refine x_callV hG hO (pc := 604) [_, _] v_X6_ofMachine lk_L_121 hR2.main rfl rfl ⟨by decide, by decide⟩ (Nat.le_of_ble_eq_true rfl) (by rw [hG.mc]; exact Nat.le_of_ble_eq_true rfl) (by rw [hG.ms]; exact Nat.le_of_ble_eq_true rfl) dL_isSo_604 ?_
            refine ⟨L, S, m, 2, rfl, hR2, hI, hmn, by decide, ?_⟩
            refine x_if_lt hG (pc := 607) 620 dL_isSo_607 (by decide) (fun h607 => ?_) (fun h607 => ?_)
            · exact absurd h607 m3
            · refine x_aload_n hG (pc := 610) 0 dL_isSo_610 rfl rfl ?_
              refine x_iload hG (pc := 611) dL_isSo_611 rfl ?_
              refine x_iconst hG (pc := 613) 3 dL_isSo_613 (by decide) ?_
              refine x_callV hG hO (pc := 614) [_, _] v_X6_ofMachine lk_L_121 hR2.main rfl rfl ⟨by decide, by decide⟩ (Nat.le_of_ble_eq_true rfl) (by rw [hG.mc]; exact Nat.le_of_ble_eq_true rfl) (by rw [hG.ms]; exact Nat.le_of_ble_eq_true rfl) dL_isSo_614 ?_
              refine ⟨L, S, m, 3, rfl, hR2, hI, hmn, by decide, ?_⟩
              refine x_if_ge hG (pc := 617) 622 dL_isSo_617 (by decide) (fun h617 => ?_) (fun h617 => ?_)
              · refine x_iinc hG (pc := 622) (nI (m + 1)) dL_isSo_622 rfl (Nat.le_of_ble_eq_true rfl) rfl (nI_1' m) (by dsimp only [List.set]) ?_
                refine x_goto hG (pc := 625) 572 dL_isSo_625 (by decide) ?_
                exact ih3 (m + 1) (by omega) (by omega)
              · exact absurd (Int32.not_lt.mp m4) h617
    · have hkn : k < nN S := lt_d h339 (by omega) (by omega)
      obtain ⟨⟨st, hst, est⟩, n1, n2, n3, n4⟩ := so_ngt hP hkn
      refine x_aload hG (pc := 342) dL_isSo_342 rfl ?_
      refine x_aload_n hG (pc := 344) 0 dL_isSo_344 rfl rfl ?_
      refine x_iload hG (pc := 345) dL_isSo_345 rfl ?_
      refine x_iconst hG (pc := 347) 0 dL_isSo_347 (by decide) ?_
      refine x_callV hG hO (pc := 348) [_, _] v_X6_ofPossession lk_L_58 hR2.main rfl rfl ⟨by decide, by decide⟩ (Nat.le_of_ble_eq_true rfl) (by rw [hG.mc]; exact Nat.le_of_ble_eq_true rfl) (by rw [hG.ms]; exact Nat.le_of_ble_eq_true rfl) dL_isSo_348 ?_
      refine ⟨L, S, k, 0, rfl, hR2, hI, hkn, by decide, ?_⟩
      show X g w2 _ _ _ _ [.int (ofN S k 0), .ref q]
      rw [est]
      refine x_dup2 hG (pc := 351) dL_isSo_351 rfl rfl ?_
      refine x_iald hG (pc := 352) hq (vp_in_nI hst (by decide)) dL_isSo_352 ?_
      rw [nI_clamp (by omega), hf st hst]
      refine x_iconst hG (pc := 353) 1 dL_isSo_353 (by decide) ?_
      refine x_iadd hG (pc := 354) dL_isSo_354 ?_
      refine x_iast hG (pc := 355) hq (vp_in_nI hst (by decide)) dL_isSo_355 ?_
      rw [nI_clamp (by omega)]
      refine x_gen (fun w3 e3 => ?_)
      have hq3 := (congrFun e3 q).trans wup_s
      have hF3 : ∀ b x, w b = some x → w3 b = some x := fun b x hb => (congrFun e3 b).trans ((wup_n (fun z => by subst z; rw [hfq] at hb; cases hb)).trans (hF b x hb))
      have hR3 : RepC (gΓ g) L S w3 := hR.mono hF3
      have hf3 : ∀ s2, s2 < 5 → upd f st (cnt (pI S st) k + 1) s2 = cnt (pI S s2) (k + 1) := by
        intro s2 hs2
        unfold upd
        show _ = cnt (pI S s2) k + pI S s2 k
        by_cases c : s2 = st
        · subst c
          rw [if_pos rfl, show pI S s2 k = 1 from if_pos est]
        · rw [if_neg c, hf s2 hs2, show pI S s2 k = 0 from if_neg (fun z => c (nI_inj (est.symm.trans z) (by omega) (by omega)).symm), Int32.add_zero]
      refine x_iload hG (pc := 356) dL_isSo_356 rfl ?_
      refine x_aload_n hG (pc := 358) 0 dL_isSo_358 rfl rfl ?_
      refine x_iload hG (pc := 359) dL_isSo_359 rfl ?_
      refine x_bipush hG (pc := 361) 9 dL_isSo_361 (by decide) ?_
      refine x_callV hG hO (pc := 363) [_, _] v_X6_ofPossession lk_L_58 hR3.main rfl rfl ⟨by decide, by decide⟩ (Nat.le_of_ble_eq_true rfl) (by rw [hG.mc]; exact Nat.le_of_ble_eq_true rfl) (by rw [hG.ms]; exact Nat.le_of_ble_eq_true rfl) dL_isSo_363 ?_
      refine ⟨L, S, k, 9, rfl, hR3, hI, hkn, by decide, ?_⟩
      refine x_iadd hG (pc := 366) dL_isSo_366 ?_
      refine x_istore hG (pc := 367) dL_isSo_367 (Nat.le_of_ble_eq_true rfl) rfl (by dsimp only [List.set]) ?_
      have K443 : X g w3 1 5 443 [some (.ref (thC L)), some (.int (nI (nM S))), some (.int (nI (nN S))), some (.int (cnt (pF S) 20)), some (.int (cnt (pG S) 20)), some (.ref q), some (.int (cnt (pO S) (k + 1))), some (.int (nI k)), z8, z9] [] := by
        refine x_iconst hG (pc := 443) 0 dL_isSo_443 (by decide) ?_
        refine x_istore hG (pc := 444) dL_isSo_444 (Nat.le_of_ble_eq_true rfl) rfl (by dsimp only [List.set]) ?_
        refine nat_down (P := fun j => ∀ z9 : Option Value, X g w3 1 5 446 [some (.ref (thC L)), some (.int (nI (nM S))), some (.int (nI (nN S))), some (.int (cnt (pF S) 20)), some (.int (cnt (pG S) 20)), some (.ref q), some (.int (cnt (pO S) (k + 1))), some (.int (nI k)), some (.int (nI j)), z9] []) k (fun j hj ih2 z9 => ?_) 0 (Nat.zero_le _) z9
        refine x_iload hG (pc := 446) dL_isSo_446 rfl ?_
        refine x_iload hG (pc := 448) dL_isSo_448 rfl ?_
        refine x_icmp_ge hG (pc := 450) 563 dL_isSo_450 (by decide) (fun h450 => ?_) (fun h450 => ?_)
        · refine x_iinc hG (pc := 563) (nI (k + 1)) dL_isSo_563 rfl (Nat.le_of_ble_eq_true rfl) rfl (nI_1' k) (by dsimp only [List.set]) ?_
          refine x_goto hG (pc := 566) 336 dL_isSo_566 (by decide) ?_
          exact ih (k + 1) (by omega) (by omega) w3 _ _ _ hq3 hF3 hf3
        · have hjk : j < k := lt_d h450 (by omega) (by omega)
          have K557 : ∀ z9 : Option Value, X g w3 1 5 557 [some (.ref (thC L)), some (.int (nI (nM S))), some (.int (nI (nN S))), some (.int (cnt (pF S) 20)), some (.int (cnt (pG S) 20)), some (.ref q), some (.int (cnt (pO S) (k + 1))), some (.int (nI k)), some (.int (nI j)), z9] [] := by
            intro z9
            refine x_iinc hG (pc := 557) (nI (j + 1)) dL_isSo_557 rfl (Nat.le_of_ble_eq_true rfl) rfl (nI_1' j) (by dsimp only [List.set]) ?_
            refine x_goto hG (pc := 560) 446 dL_isSo_560 (by decide) ?_
            exact ih2 (j + 1) (by omega) (by omega) z9
          refine x_aload_n hG (pc := 453) 0 dL_isSo_453 rfl rfl ?_
          refine x_iload hG (pc := 454) dL_isSo_454 rfl ?_
          refine x_iconst hG (pc := 456) 1 dL_isSo_456 (by decide) ?_
          refine x_callV hG hO (pc := 457) [_, _] v_X6_ofPossession lk_L_58 hR3.main rfl rfl ⟨by decide, by decide⟩ (Nat.le_of_ble_eq_true rfl) (by rw [hG.mc]; exact Nat.le_of_ble_eq_true rfl) (by rw [hG.ms]; exact Nat.le_of_ble_eq_true rfl) dL_isSo_457 ?_
          refine ⟨L, S, k, 1, rfl, hR3, hI, hkn, by decide, ?_⟩
          refine x_aload_n hG (pc := 460) 0 dL_isSo_460 rfl rfl ?_
          refine x_iload hG (pc := 461) dL_isSo_461 rfl ?_
          refine x_iconst hG (pc := 463) 1 dL_isSo_463 (by decide) ?_
          refine x_callV hG hO (pc := 464) [_, _] v_X6_ofPossession lk_L_58 hR3.main rfl rfl ⟨by decide, by decide⟩ (Nat.le_of_ble_eq_true rfl) (by rw [hG.mc]; exact Nat.le_of_ble_eq_true rfl) (by rw [hG.ms]; exact Nat.le_of_ble_eq_true rfl) dL_isSo_464 ?_
          refine ⟨L, S, j, 1, rfl, hR3, hI, (Nat.lt_trans hjk hkn), by decide, ?_⟩
          refine x_icmp_ne hG (pc := 467) 508 dL_isSo_467 (by decide) (fun h467 => ?_) (fun h467 => ?_)
          · refine x_iconst hG (pc := 508) 0 dL_isSo_508 (by decide) ?_
            refine x_istore hG (pc := 509) dL_isSo_509 (Nat.le_of_ble_eq_true rfl) rfl (by dsimp only [List.set]) ?_
            refine x_iload hG (pc := 511) dL_isSo_511 rfl ?_
            refine x_if_eq hG (pc := 513) 557 dL_isSo_513 (by decide) (fun h513 => ?_) (fun h513 => ?_)
            · exact K557 _
            · exact absurd rfl h513
          · refine x_aload_n hG (pc := 470) 0 dL_isSo_470 rfl rfl ?_
            refine x_iload hG (pc := 471) dL_isSo_471 rfl ?_
            refine x_iconst hG (pc := 473) 2 dL_isSo_473 (by decide) ?_
            refine x_callV hG hO (pc := 474) [_, _] v_X6_ofPossession lk_L_58 hR3.main rfl rfl ⟨by decide, by decide⟩ (Nat.le_of_ble_eq_true rfl) (by rw [hG.mc]; exact Nat.le_of_ble_eq_true rfl) (by rw [hG.ms]; exact Nat.le_of_ble_eq_true rfl) dL_isSo_474 ?_
            refine ⟨L, S, k, 2, rfl, hR3, hI, hkn, by decide, ?_⟩
            refine x_aload_n hG (pc := 477) 0 dL_isSo_477 rfl rfl ?_
            refine x_iload hG (pc := 478) dL_isSo_478 rfl ?_
            refine x_iconst hG (pc := 480) 3 dL_isSo_480 (by decide) ?_
            refine x_callV hG hO (pc := 481) [_, _] v_X6_ofPossession lk_L_58 hR3.main rfl rfl ⟨by decide, by decide⟩ (Nat.le_of_ble_eq_true rfl) (by rw [hG.mc]; exact Nat.le_of_ble_eq_true rfl) (by rw [hG.ms]; exact Nat.le_of_ble_eq_true rfl) dL_isSo_481 ?_
            refine ⟨L, S, j, 3, rfl, hR3, hI, (Nat.lt_trans hjk hkn), by decide, ?_⟩
            refine x_icmp_gt hG (pc := 484) 508 dL_isSo_484 (by decide) (fun h484 => ?_) (fun h484 => ?_)
            · refine x_iconst hG (pc := 508) 0 dL_isSo_508 (by decide) ?_
              refine x_istore hG (pc := 509) dL_isSo_509 (Nat.le_of_ble_eq_true rfl) rfl (by dsimp only [List.set]) ?_
              refine x_iload hG (pc := 511) dL_isSo_511 rfl ?_
              refine x_if_eq hG (pc := 513) 557 dL_isSo_513 (by decide) (fun h513 => ?_) (fun h513 => ?_)
              · exact K557 _
              · exact absurd rfl h513
            · refine x_aload_n hG (pc := 487) 0 dL_isSo_487 rfl rfl ?_
              refine x_iload hG (pc := 488) dL_isSo_488 rfl ?_
              refine x_iconst hG (pc := 490) 2 dL_isSo_490 (by decide) ?_
              refine x_callV hG hO (pc := 491) [_, _] v_X6_ofPossession lk_L_58 hR3.main rfl rfl ⟨by decide, by decide⟩ (Nat.le_of_ble_eq_true rfl) (by rw [hG.mc]; exact Nat.le_of_ble_eq_true rfl) (by rw [hG.ms]; exact Nat.le_of_ble_eq_true rfl) dL_isSo_491 ?_
              refine ⟨L, S, j, 2, rfl, hR3, hI, (Nat.lt_trans hjk hkn), by decide, ?_⟩
              refine x_aload_n hG (pc := 494) 0 dL_isSo_494 rfl rfl ?_
              refine x_iload hG (pc := 495) dL_isSo_495 rfl ?_
              refine x_iconst hG (pc := 497) 3 dL_isSo_497 (by decide) ?_
              refine x_callV hG hO (pc := 498) [_, _] v_X6_ofPossession lk_L_58 hR3.main rfl rfl ⟨by decide, by decide⟩ (Nat.le_of_ble_eq_true rfl) (by rw [hG.mc]; exact Nat.le_of_ble_eq_true rfl) (by rw [hG.ms]; exact Nat.le_of_ble_eq_true rfl) dL_isSo_498 ?_
              refine ⟨L, S, k, 3, rfl, hR3, hI, hkn, by decide, ?_⟩
              refine x_icmp_gt hG (pc := 501) 508 dL_isSo_501 (by decide) (fun h501 => ?_) (fun h501 => ?_)
              · refine x_iconst hG (pc := 508) 0 dL_isSo_508 (by decide) ?_
                refine x_istore hG (pc := 509) dL_isSo_509 (Nat.le_of_ble_eq_true rfl) rfl (by dsimp only [List.set]) ?_
                refine x_iload hG (pc := 511) dL_isSo_511 rfl ?_
                refine x_if_eq hG (pc := 513) 557 dL_isSo_513 (by decide) (fun h513 => ?_) (fun h513 => ?_)
                · exact K557 _
                · exact absurd rfl h513
              · refine x_iconst hG (pc := 504) 1 dL_isSo_504 (by decide) ?_
                refine x_goto hG (pc := 505) 509 dL_isSo_505 (by decide) ?_
                refine x_istore hG (pc := 509) dL_isSo_509 (Nat.le_of_ble_eq_true rfl) rfl (by dsimp only [List.set]) ?_
                refine x_iload hG (pc := 511) dL_isSo_511 rfl ?_
                refine x_if_eq hG (pc := 513) 557 dL_isSo_513 (by decide) (fun h513 => ?_) (fun h513 => ?_)
                · exact absurd h513 (by decide)
                · refine x_aload_n hG (pc := 516) 0 dL_isSo_516 rfl rfl ?_
                  refine x_iload hG (pc := 517) dL_isSo_517 rfl ?_
                  refine x_iconst hG (pc := 519) 4 dL_isSo_519 (by decide) ?_
                  refine x_callV hG hO (pc := 520) [_, _] v_X6_ofPossession lk_L_58 hR3.main rfl rfl ⟨by decide, by decide⟩ (Nat.le_of_ble_eq_true rfl) (by rw [hG.mc]; exact Nat.le_of_ble_eq_true rfl) (by rw [hG.ms]; exact Nat.le_of_ble_eq_true rfl) dL_isSo_520 ?_
                  refine ⟨L, S, k, 4, rfl, hR3, hI, hkn, by decide, ?_⟩
                  refine x_aload_n hG (pc := 523) 0 dL_isSo_523 rfl rfl ?_
                  refine x_iload hG (pc := 524) dL_isSo_524 rfl ?_
                  refine x_iconst hG (pc := 526) 4 dL_isSo_526 (by decide) ?_
                  refine x_callV hG hO (pc := 527) [_, _] v_X6_ofPossession lk_L_58 hR3.main rfl rfl ⟨by decide, by decide⟩ (Nat.le_of_ble_eq_true rfl) (by rw [hG.mc]; exact Nat.le_of_ble_eq_true rfl) (by rw [hG.ms]; exact Nat.le_of_ble_eq_true rfl) dL_isSo_527 ?_
                  refine ⟨L, S, j, 4, rfl, hR3, hI, (Nat.lt_trans hjk hkn), by decide, ?_⟩
                  refine x_icmp_ne hG (pc := 530) 557 dL_isSo_530 (by decide) (fun h530 => ?_) (fun h530 => ?_)
                  · exact K557 _
                  · refine x_aload_n hG (pc := 533) 0 dL_isSo_533 rfl rfl ?_
                    refine x_iload hG (pc := 534) dL_isSo_534 rfl ?_
                    refine x_iconst hG (pc := 536) 0 dL_isSo_536 (by decide) ?_
                    refine x_callV hG hO (pc := 537) [_, _] v_X6_ofPossession lk_L_58 hR3.main rfl rfl ⟨by decide, by decide⟩ (Nat.le_of_ble_eq_true rfl) (by rw [hG.mc]; exact Nat.le_of_ble_eq_true rfl) (by rw [hG.ms]; exact Nat.le_of_ble_eq_true rfl) dL_isSo_537 ?_
                    refine ⟨L, S, k, 0, rfl, hR3, hI, hkn, by decide, ?_⟩
                    refine x_iconst hG (pc := 540) 4 dL_isSo_540 (by decide) ?_
                    refine x_icmp_eq hG (pc := 541) 557 dL_isSo_541 (by decide) (fun h541 => ?_) (fun h541 => ?_)
                    · exact K557 _
                    · refine x_aload_n hG (pc := 544) 0 dL_isSo_544 rfl rfl ?_
                      refine x_iload hG (pc := 545) dL_isSo_545 rfl ?_
                      refine x_iconst hG (pc := 547) 0 dL_isSo_547 (by decide) ?_
                      refine x_callV hG hO (pc := 548) [_, _] v_X6_ofPossession lk_L_58 hR3.main rfl rfl ⟨by decide, by decide⟩ (Nat.le_of_ble_eq_true rfl) (by rw [hG.mc]; exact Nat.le_of_ble_eq_true rfl) (by rw [hG.ms]; exact Nat.le_of_ble_eq_true rfl) dL_isSo_548 ?_
                      refine ⟨L, S, j, 0, rfl, hR3, hI, (Nat.lt_trans hjk hkn), by decide, ?_⟩
                      refine x_iconst hG (pc := 551) 4 dL_isSo_551 (by decide) ?_
                      refine x_icmp_eq hG (pc := 552) 557 dL_isSo_552 (by decide) (fun h552 => ?_) (fun h552 => ?_)
                      · exact K557 _
                      · exact absurd ⟨h467, h484, h501, h530, h541, h552⟩ (so_mt hP hjk hkn)
      refine x_aload_n hG (pc := 369) 0 dL_isSo_369 rfl rfl ?_
      refine x_iload hG (pc := 370) dL_isSo_370 rfl ?_
      refine x_bipush hG (pc := 372) 7 dL_isSo_372 (by decide) ?_
      refine x_callV hG hO (pc := 374) [_, _] v_X6_ofPossession lk_L_58 hR3.main rfl rfl ⟨by decide, by decide⟩ (Nat.le_of_ble_eq_true rfl) (by rw [hG.mc]; exact Nat.le_of_ble_eq_true rfl) (by rw [hG.ms]; exact Nat.le_of_ble_eq_true rfl) dL_isSo_374 ?_
      refine ⟨L, S, k, 7, rfl, hR3, hI, hkn, by decide, ?_⟩
      refine x_aload_n hG (pc := 377) 0 dL_isSo_377 rfl rfl ?_
      refine x_iload hG (pc := 378) dL_isSo_378 rfl ?_
      refine x_iconst hG (pc := 380) 5 dL_isSo_380 (by decide) ?_
      refine x_callV hG hO (pc := 381) [_, _] v_X6_ofPossession lk_L_58 hR3.main rfl rfl ⟨by decide, by decide⟩ (Nat.le_of_ble_eq_true rfl) (by rw [hG.mc]; exact Nat.le_of_ble_eq_true rfl) (by rw [hG.ms]; exact Nat.le_of_ble_eq_true rfl) dL_isSo_381 ?_
      refine ⟨L, S, k, 5, rfl, hR3, hI, hkn, by decide, ?_⟩
      refine x_icmp_gt hG (pc := 384) 441 dL_isSo_384 (by decide) (fun h384 => ?_) (fun h384 => ?_)
      · exact absurd h384 n1
      · refine x_aload_n hG (pc := 387) 0 dL_isSo_387 rfl rfl ?_
        refine x_iload hG (pc := 388) dL_isSo_388 rfl ?_
        refine x_bipush hG (pc := 390) 6 dL_isSo_390 (by decide) ?_
        refine x_callV hG hO (pc := 392) [_, _] v_X6_ofPossession lk_L_58 hR3.main rfl rfl ⟨by decide, by decide⟩ (Nat.le_of_ble_eq_true rfl) (by rw [hG.mc]; exact Nat.le_of_ble_eq_true rfl) (by rw [hG.ms]; exact Nat.le_of_ble_eq_true rfl) dL_isSo_392 ?_
        refine ⟨L, S, k, 6, rfl, hR3, hI, hkn, by decide, ?_⟩
        refine x_bipush hG (pc := 395) 6 dL_isSo_395 (by decide) ?_
        refine x_icmp_gt hG (pc := 397) 441 dL_isSo_397 (by decide) (fun h397 => ?_) (fun h397 => ?_)
        · exact absurd h397 n2
        · refine x_aload_n hG (pc := 400) 0 dL_isSo_400 rfl rfl ?_
          refine x_iload hG (pc := 401) dL_isSo_401 rfl ?_
          refine x_bipush hG (pc := 403) 7 dL_isSo_403 (by decide) ?_
          refine x_callV hG hO (pc := 405) [_, _] v_X6_ofPossession lk_L_58 hR3.main rfl rfl ⟨by decide, by decide⟩ (Nat.le_of_ble_eq_true rfl) (by rw [hG.mc]; exact Nat.le_of_ble_eq_true rfl) (by rw [hG.ms]; exact Nat.le_of_ble_eq_true rfl) dL_isSo_405 ?_
          refine ⟨L, S, k, 7, rfl, hR3, hI, hkn, by decide, ?_⟩
          refine x_aload_n hG (pc := 408) 0 dL_isSo_408 rfl rfl ?_
          refine x_iload hG (pc := 409) dL_isSo_409 rfl ?_
          refine x_bipush hG (pc := 411) 6 dL_isSo_411 (by decide) ?_
          refine x_callV hG hO (pc := 413) [_, _] v_X6_ofPossession lk_L_58 hR3.main rfl rfl ⟨by decide, by decide⟩ (Nat.le_of_ble_eq_true rfl) (by rw [hG.mc]; exact Nat.le_of_ble_eq_true rfl) (by rw [hG.ms]; exact Nat.le_of_ble_eq_true rfl) dL_isSo_413 ?_
          refine ⟨L, S, k, 6, rfl, hR3, hI, hkn, by decide, ?_⟩
          refine x_icmp_lt hG (pc := 416) 441 dL_isSo_416 (by decide) (fun h416 => ?_) (fun h416 => ?_)
          · exact absurd h416 n3
          · refine x_aload_n hG (pc := 419) 0 dL_isSo_419 rfl rfl ?_
            refine x_iload hG (pc := 420) dL_isSo_420 rfl ?_
            refine x_iconst hG (pc := 422) 0 dL_isSo_422 (by decide) ?_
            refine x_callV hG hO (pc := 423) [_, _] v_X6_ofPossession lk_L_58 hR3.main rfl rfl ⟨by decide, by decide⟩ (Nat.le_of_ble_eq_true rfl) (by rw [hG.mc]; exact Nat.le_of_ble_eq_true rfl) (by rw [hG.ms]; exact Nat.le_of_ble_eq_true rfl) dL_isSo_423 ?_
            refine ⟨L, S, k, 0, rfl, hR3, hI, hkn, by decide, ?_⟩
            refine x_iconst hG (pc := 426) 2 dL_isSo_426 (by decide) ?_
            refine x_icmp_eq hG (pc := 427) 443 dL_isSo_427 (by decide) (fun h427 => ?_) (fun h427 => ?_)
            · exact K443
            · refine x_aload_n hG (pc := 430) 0 dL_isSo_430 rfl rfl ?_
              refine x_iload hG (pc := 431) dL_isSo_431 rfl ?_
              refine x_bipush hG (pc := 433) 9 dL_isSo_433 (by decide) ?_
              refine x_callV hG hO (pc := 435) [_, _] v_X6_ofPossession lk_L_58 hR3.main rfl rfl ⟨by decide, by decide⟩ (Nat.le_of_ble_eq_true rfl) (by rw [hG.mc]; exact Nat.le_of_ble_eq_true rfl) (by rw [hG.ms]; exact Nat.le_of_ble_eq_true rfl) dL_isSo_435 ?_
              refine ⟨L, S, k, 9, rfl, hR3, hI, hkn, by decide, ?_⟩
              refine x_if_eq hG (pc := 438) 443 dL_isSo_438 (by decide) (fun h438 => ?_) (fun h438 => ?_)
              · exact K443
              · exact absurd (n4 h427) h438
  · have hk20 : k < 20 := lt_d (n := 20) h12 (by decide) (by omega)
    obtain ⟨⟨a0, a1⟩, ⟨a2, a3⟩, ⟨a4, a5⟩, ⟨a6, a7⟩, a8, a9⟩ := so_sec hP hk20
    obtain ⟨b1, b2⟩ := so_why (S := S) (k := k)
    obtain ⟨c1, c2, c3⟩ := so_kn (k := k) hP
    refine x_aload_n hG (pc := 15) 0 dL_isSo_15 rfl rfl ?_
    refine x_iload hG (pc := 16) dL_isSo_16 rfl ?_
    refine x_bipush hG (pc := 18) 7 dL_isSo_18 (by decide) ?_
    refine x_callV hG hO (pc := 20) [_, _] v_X6_ofSection lk_L_36 hR.main rfl rfl ⟨by decide, by decide⟩ (Nat.le_of_ble_eq_true rfl) (by rw [hG.mc]; exact Nat.le_of_ble_eq_true rfl) (by rw [hG.ms]; exact Nat.le_of_ble_eq_true rfl) dL_isSo_20 ?_
    refine ⟨L, S, k, 7, rfl, hR, hI, hk20, by decide, ?_⟩
    refine x_istore hG (pc := 23) dL_isSo_23 (Nat.le_of_ble_eq_true rfl) rfl (by dsimp only [List.set]) ?_
    refine x_iload_n hG (pc := 25) 3 dL_isSo_25 rfl rfl ?_
    refine x_aload_n hG (pc := 26) 0 dL_isSo_26 rfl rfl ?_
    refine x_iload hG (pc := 27) dL_isSo_27 rfl ?_
    refine x_bipush hG (pc := 29) 6 dL_isSo_29 (by decide) ?_
    refine x_callV hG hO (pc := 31) [_, _] v_X6_ofSection lk_L_36 hR.main rfl rfl ⟨by decide, by decide⟩ (Nat.le_of_ble_eq_true rfl) (by rw [hG.mc]; exact Nat.le_of_ble_eq_true rfl) (by rw [hG.ms]; exact Nat.le_of_ble_eq_true rfl) dL_isSo_31 ?_
    refine ⟨L, S, k, 6, rfl, hR, hI, hk20, by decide, ?_⟩
    refine x_iload hG (pc := 34) dL_isSo_34 rfl ?_
    refine dia_le hG (pc := 36) 43 44 dL_isSo_36 (by decide) dL_isSo_39 dL_isSo_40 (by decide) dL_isSo_43 (by decide) ?_
    refine x_iadd hG (pc := 44) dL_isSo_44 ?_
    refine x_istore_n hG (pc := 45) 3 dL_isSo_45 rfl (Nat.le_of_ble_eq_true rfl) rfl (by dsimp only [List.set]) ?_
    refine x_iload hG (pc := 46) dL_isSo_46 rfl ?_
    refine x_aload_n hG (pc := 48) 0 dL_isSo_48 rfl rfl ?_
    refine x_iload hG (pc := 49) dL_isSo_49 rfl ?_
    refine x_bipush hG (pc := 51) 6 dL_isSo_51 (by decide) ?_
    refine x_callV hG hO (pc := 53) [_, _] v_X6_ofSection lk_L_36 hR.main rfl rfl ⟨by decide, by decide⟩ (Nat.le_of_ble_eq_true rfl) (by rw [hG.mc]; exact Nat.le_of_ble_eq_true rfl) (by rw [hG.ms]; exact Nat.le_of_ble_eq_true rfl) dL_isSo_53 ?_
    refine ⟨L, S, k, 6, rfl, hR, hI, hk20, by decide, ?_⟩
    refine x_aload_n hG (pc := 56) 0 dL_isSo_56 rfl rfl ?_
    refine x_iload hG (pc := 57) dL_isSo_57 rfl ?_
    refine x_iconst hG (pc := 59) 3 dL_isSo_59 (by decide) ?_
    refine x_callV hG hO (pc := 60) [_, _] v_X6_known lk_L_111 hR.main rfl rfl ⟨by decide, by decide⟩ (Nat.le_of_ble_eq_true rfl) (by rw [hG.mc]; exact Nat.le_of_ble_eq_true rfl) (by rw [hG.ms]; exact Nat.le_of_ble_eq_true rfl) dL_isSo_60 ?_
    refine ⟨L, S, k, 3, rfl, hR, hI, hk20, by decide, ?_⟩
    refine dia_le hG (pc := 63) 70 71 dL_isSo_63 (by decide) dL_isSo_66 dL_isSo_67 (by decide) dL_isSo_70 (by decide) ?_
    refine x_iadd hG (pc := 71) dL_isSo_71 ?_
    refine x_istore hG (pc := 72) dL_isSo_72 (Nat.le_of_ble_eq_true rfl) rfl (by dsimp only [List.set]) ?_
    refine x_aload_n hG (pc := 74) 0 dL_isSo_74 rfl rfl ?_
    refine x_iload hG (pc := 75) dL_isSo_75 rfl ?_
    refine x_iconst hG (pc := 77) 0 dL_isSo_77 (by decide) ?_
    refine x_callV hG hO (pc := 78) [_, _] v_X6_ofSection lk_L_36 hR.main rfl rfl ⟨by decide, by decide⟩ (Nat.le_of_ble_eq_true rfl) (by rw [hG.mc]; exact Nat.le_of_ble_eq_true rfl) (by rw [hG.ms]; exact Nat.le_of_ble_eq_true rfl) dL_isSo_78 ?_
    refine ⟨L, S, k, 0, rfl, hR, hI, hk20, by decide, ?_⟩
    refine x_if_lt hG (pc := 81) 177 dL_isSo_81 (by decide) (fun h81 => ?_) (fun h81 => ?_)
    · exact absurd h81 a0
    · refine x_aload_n hG (pc := 84) 0 dL_isSo_84 rfl rfl ?_
      refine x_iload hG (pc := 85) dL_isSo_85 rfl ?_
      refine x_iconst hG (pc := 87) 0 dL_isSo_87 (by decide) ?_
      refine x_callV hG hO (pc := 88) [_, _] v_X6_ofSection lk_L_36 hR.main rfl rfl ⟨by decide, by decide⟩ (Nat.le_of_ble_eq_true rfl) (by rw [hG.mc]; exact Nat.le_of_ble_eq_true rfl) (by rw [hG.ms]; exact Nat.le_of_ble_eq_true rfl) dL_isSo_88 ?_
      refine ⟨L, S, k, 0, rfl, hR, hI, hk20, by decide, ?_⟩
      refine x_bipush hG (pc := 91) 100 dL_isSo_91 (by decide) ?_
      refine x_icmp_gt hG (pc := 93) 177 dL_isSo_93 (by decide) (fun h93 => ?_) (fun h93 => ?_)
      · exact absurd h93 a1
      · refine x_aload_n hG (pc := 96) 0 dL_isSo_96 rfl rfl ?_
        refine x_iload hG (pc := 97) dL_isSo_97 rfl ?_
        refine x_iconst hG (pc := 99) 1 dL_isSo_99 (by decide) ?_
        refine x_callV hG hO (pc := 100) [_, _] v_X6_ofSection lk_L_36 hR.main rfl rfl ⟨by decide, by decide⟩ (Nat.le_of_ble_eq_true rfl) (by rw [hG.mc]; exact Nat.le_of_ble_eq_true rfl) (by rw [hG.ms]; exact Nat.le_of_ble_eq_true rfl) dL_isSo_100 ?_
        refine ⟨L, S, k, 1, rfl, hR, hI, hk20, by decide, ?_⟩
        refine x_if_lt hG (pc := 103) 177 dL_isSo_103 (by decide) (fun h103 => ?_) (fun h103 => ?_)
        · exact absurd h103 a2
        · refine x_aload_n hG (pc := 106) 0 dL_isSo_106 rfl rfl ?_
          refine x_iload hG (pc := 107) dL_isSo_107 rfl ?_
          refine x_iconst hG (pc := 109) 1 dL_isSo_109 (by decide) ?_
          refine x_callV hG hO (pc := 110) [_, _] v_X6_ofSection lk_L_36 hR.main rfl rfl ⟨by decide, by decide⟩ (Nat.le_of_ble_eq_true rfl) (by rw [hG.mc]; exact Nat.le_of_ble_eq_true rfl) (by rw [hG.ms]; exact Nat.le_of_ble_eq_true rfl) dL_isSo_110 ?_
          refine ⟨L, S, k, 1, rfl, hR, hI, hk20, by decide, ?_⟩
          refine x_bipush hG (pc := 113) 60 dL_isSo_113 (by decide) ?_
          refine x_icmp_gt hG (pc := 115) 177 dL_isSo_115 (by decide) (fun h115 => ?_) (fun h115 => ?_)
          · exact absurd h115 a3
          · refine x_aload_n hG (pc := 118) 0 dL_isSo_118 rfl rfl ?_
            refine x_iload hG (pc := 119) dL_isSo_119 rfl ?_
            refine x_iconst hG (pc := 121) 2 dL_isSo_121 (by decide) ?_
            refine x_callV hG hO (pc := 122) [_, _] v_X6_ofSection lk_L_36 hR.main rfl rfl ⟨by decide, by decide⟩ (Nat.le_of_ble_eq_true rfl) (by rw [hG.mc]; exact Nat.le_of_ble_eq_true rfl) (by rw [hG.ms]; exact Nat.le_of_ble_eq_true rfl) dL_isSo_122 ?_
            refine ⟨L, S, k, 2, rfl, hR, hI, hk20, by decide, ?_⟩
            refine x_if_lt hG (pc := 125) 177 dL_isSo_125 (by decide) (fun h125 => ?_) (fun h125 => ?_)
            · exact absurd h125 a4
            · refine x_aload_n hG (pc := 128) 0 dL_isSo_128 rfl rfl ?_
              refine x_iload hG (pc := 129) dL_isSo_129 rfl ?_
              refine x_iconst hG (pc := 131) 2 dL_isSo_131 (by decide) ?_
              refine x_callV hG hO (pc := 132) [_, _] v_X6_ofSection lk_L_36 hR.main rfl rfl ⟨by decide, by decide⟩ (Nat.le_of_ble_eq_true rfl) (by rw [hG.mc]; exact Nat.le_of_ble_eq_true rfl) (by rw [hG.ms]; exact Nat.le_of_ble_eq_true rfl) dL_isSo_132 ?_
              refine ⟨L, S, k, 2, rfl, hR, hI, hk20, by decide, ?_⟩
              refine x_bipush hG (pc := 135) 60 dL_isSo_135 (by decide) ?_
              refine x_icmp_gt hG (pc := 137) 177 dL_isSo_137 (by decide) (fun h137 => ?_) (fun h137 => ?_)
              · exact absurd h137 a5
              · refine x_aload_n hG (pc := 140) 0 dL_isSo_140 rfl rfl ?_
                refine x_iload hG (pc := 141) dL_isSo_141 rfl ?_
                refine x_iconst hG (pc := 143) 4 dL_isSo_143 (by decide) ?_
                refine x_callV hG hO (pc := 144) [_, _] v_X6_ofSection lk_L_36 hR.main rfl rfl ⟨by decide, by decide⟩ (Nat.le_of_ble_eq_true rfl) (by rw [hG.mc]; exact Nat.le_of_ble_eq_true rfl) (by rw [hG.ms]; exact Nat.le_of_ble_eq_true rfl) dL_isSo_144 ?_
                refine ⟨L, S, k, 4, rfl, hR, hI, hk20, by decide, ?_⟩
                refine x_bipush hG (pc := 147) 10 dL_isSo_147 (by decide) ?_
                refine x_icmp_lt hG (pc := 149) 177 dL_isSo_149 (by decide) (fun h149 => ?_) (fun h149 => ?_)
                · exact absurd h149 a6
                · refine x_aload_n hG (pc := 152) 0 dL_isSo_152 rfl rfl ?_
                  refine x_iload hG (pc := 153) dL_isSo_153 rfl ?_
                  refine x_iconst hG (pc := 155) 4 dL_isSo_155 (by decide) ?_
                  refine x_callV hG hO (pc := 156) [_, _] v_X6_ofSection lk_L_36 hR.main rfl rfl ⟨by decide, by decide⟩ (Nat.le_of_ble_eq_true rfl) (by rw [hG.mc]; exact Nat.le_of_ble_eq_true rfl) (by rw [hG.ms]; exact Nat.le_of_ble_eq_true rfl) dL_isSo_156 ?_
                  refine ⟨L, S, k, 4, rfl, hR, hI, hk20, by decide, ?_⟩
                  refine x_bipush hG (pc := 159) 40 dL_isSo_159 (by decide) ?_
                  refine x_icmp_gt hG (pc := 161) 177 dL_isSo_161 (by decide) (fun h161 => ?_) (fun h161 => ?_)
                  · exact absurd h161 a7
                  · refine x_iload hG (pc := 164) dL_isSo_164 rfl ?_
                    refine x_if_lt hG (pc := 166) 177 dL_isSo_166 (by decide) (fun h166 => ?_) (fun h166 => ?_)
                    · exact absurd h166 a8
                    · refine x_iload hG (pc := 169) dL_isSo_169 rfl ?_
                      refine x_sipush hG (pc := 171) 160 dL_isSo_171 (by decide) ?_
                      refine x_icmp_le hG (pc := 174) 179 dL_isSo_174 (by decide) (fun h174 => ?_) (fun h174 => ?_)
                      · refine x_aload_n hG (pc := 179) 0 dL_isSo_179 rfl rfl ?_
                        refine x_iload hG (pc := 180) dL_isSo_180 rfl ?_
                        refine x_iconst hG (pc := 182) 0 dL_isSo_182 (by decide) ?_
                        refine x_callV hG hO (pc := 183) [_, _] v_X6_why lk_L_114 hR.main rfl rfl ⟨by decide, by decide⟩ (Nat.le_of_ble_eq_true rfl) (by rw [hG.mc]; exact Nat.le_of_ble_eq_true rfl) (by rw [hG.ms]; exact Nat.le_of_ble_eq_true rfl) dL_isSo_183 ?_
                        refine ⟨L, S, k, 0, rfl, hR, hI, hk20, ?_⟩
                        refine dia_ne hG (pc := 186) 193 194 dL_isSo_186 (by decide) dL_isSo_189 dL_isSo_190 (by decide) dL_isSo_193 (by decide) ?_
                        refine x_iload hG (pc := 194) dL_isSo_194 rfl ?_
                        refine x_sipush hG (pc := 196) 160 dL_isSo_196 (by decide) ?_
                        refine dia_icne hG (pc := 199) 206 207 dL_isSo_199 (by decide) dL_isSo_202 dL_isSo_203 (by decide) dL_isSo_206 (by decide) ?_
                        refine x_icmp_ne hG (pc := 207) 317 dL_isSo_207 (by decide) (fun h207 => ?_) (fun h207 => ?_)
                        · exact absurd b1 h207
                        · refine x_aload_n hG (pc := 210) 0 dL_isSo_210 rfl rfl ?_
                          refine x_iload hG (pc := 211) dL_isSo_211 rfl ?_
                          refine x_iconst hG (pc := 213) 1 dL_isSo_213 (by decide) ?_
                          refine x_callV hG hO (pc := 214) [_, _] v_X6_why lk_L_114 hR.main rfl rfl ⟨by decide, by decide⟩ (Nat.le_of_ble_eq_true rfl) (by rw [hG.mc]; exact Nat.le_of_ble_eq_true rfl) (by rw [hG.ms]; exact Nat.le_of_ble_eq_true rfl) dL_isSo_214 ?_
                          refine ⟨L, S, k, 1, rfl, hR, hI, hk20, ?_⟩
                          refine dia_ne hG (pc := 217) 224 225 dL_isSo_217 (by decide) dL_isSo_220 dL_isSo_221 (by decide) dL_isSo_224 (by decide) ?_
                          refine x_aload_n hG (pc := 225) 0 dL_isSo_225 rfl rfl ?_
                          refine x_iload hG (pc := 226) dL_isSo_226 rfl ?_
                          refine x_iconst hG (pc := 228) 3 dL_isSo_228 (by decide) ?_
                          refine x_callV hG hO (pc := 229) [_, _] v_X6_known lk_L_111 hR.main rfl rfl ⟨by decide, by decide⟩ (Nat.le_of_ble_eq_true rfl) (by rw [hG.mc]; exact Nat.le_of_ble_eq_true rfl) (by rw [hG.ms]; exact Nat.le_of_ble_eq_true rfl) dL_isSo_229 ?_
                          refine ⟨L, S, k, 3, rfl, hR, hI, hk20, by decide, ?_⟩
                          refine x_sipush hG (pc := 232) 160 dL_isSo_232 (by decide) ?_
                          refine dia_icne hG (pc := 235) 242 243 dL_isSo_235 (by decide) dL_isSo_238 dL_isSo_239 (by decide) dL_isSo_242 (by decide) ?_
                          refine x_icmp_ne hG (pc := 243) 317 dL_isSo_243 (by decide) (fun h243 => ?_) (fun h243 => ?_)
                          · exact absurd b2 h243
                          · have K303 : X g w 0 0 303 [some (.ref (thC L)), some (.int (nI (nM S))), some (.int (nI (nN S))), some (.int (cnt (pF S) (k + 1))), some (.int (cnt (pG S) (k + 1))), some (.int (nI k)), some (.int (ofS S k 7)), none, none, none] [] := by
                              refine x_aload_n hG (pc := 303) 0 dL_isSo_303 rfl rfl ?_
                              refine x_iload hG (pc := 304) dL_isSo_304 rfl ?_
                              refine x_callV hG hO (pc := 306) [_] v_X6_couldSee lk_L_118 hR.main rfl rfl ⟨by decide, by decide⟩ (Nat.le_of_ble_eq_true rfl) (by rw [hG.mc]; exact Nat.le_of_ble_eq_true rfl) (by rw [hG.ms]; exact Nat.le_of_ble_eq_true rfl) dL_isSo_306 ?_
                              refine ⟨L, S, k, rfl, hR, hI, hk20, ?_⟩
                              refine x_aload_n hG (pc := 309) 0 dL_isSo_309 rfl rfl ?_
                              refine x_iconst hG (pc := 310) 2 dL_isSo_310 (by decide) ?_
                              refine x_callV hG hO (pc := 311) [_] v_X6_many lk_L_28 hR.main rfl rfl ⟨by decide, by decide⟩ (Nat.le_of_ble_eq_true rfl) (by rw [hG.mc]; exact Nat.le_of_ble_eq_true rfl) (by rw [hG.ms]; exact Nat.le_of_ble_eq_true rfl) dL_isSo_311 ?_
                              refine ⟨L, S, 2, rfl, hR, hI, by decide, ?_⟩
                              refine x_icmp_lt hG (pc := 314) 319 dL_isSo_314 (by decide) (fun h314 => ?_) (fun h314 => ?_)
                              · refine x_iinc hG (pc := 319) (nI (k + 1)) dL_isSo_319 rfl (Nat.le_of_ble_eq_true rfl) rfl (nI_1' k) (by dsimp only [List.set]) ?_
                                refine x_goto hG (pc := 322) 8 dL_isSo_322 (by decide) ?_
                                exact ih (k + 1) (by omega) (by omega) _
                              · exact absurd c3 h314
                            have K267 : X g w 0 0 267 [some (.ref (thC L)), some (.int (nI (nM S))), some (.int (nI (nN S))), some (.int (cnt (pF S) (k + 1))), some (.int (cnt (pG S) (k + 1))), some (.int (nI k)), some (.int (ofS S k 7)), none, none, none] [] := by
                              refine x_aload_n hG (pc := 267) 0 dL_isSo_267 rfl rfl ?_
                              refine x_iload hG (pc := 268) dL_isSo_268 rfl ?_
                              refine x_iconst hG (pc := 270) 4 dL_isSo_270 (by decide) ?_
                              refine x_callV hG hO (pc := 271) [_, _] v_X6_known lk_L_111 hR.main rfl rfl ⟨by decide, by decide⟩ (Nat.le_of_ble_eq_true rfl) (by rw [hG.mc]; exact Nat.le_of_ble_eq_true rfl) (by rw [hG.ms]; exact Nat.le_of_ble_eq_true rfl) dL_isSo_271 ?_
                              refine ⟨L, S, k, 4, rfl, hR, hI, hk20, by decide, ?_⟩
                              refine x_if_ge hG (pc := 274) 303 dL_isSo_274 (by decide) (fun h274 => ?_) (fun h274 => ?_)
                              · exact K303
                              · refine x_aload_n hG (pc := 277) 0 dL_isSo_277 rfl rfl ?_
                                refine x_iload hG (pc := 278) dL_isSo_278 rfl ?_
                                refine x_iconst hG (pc := 280) 0 dL_isSo_280 (by decide) ?_
                                refine x_callV hG hO (pc := 281) [_, _] v_X6_known lk_L_111 hR.main rfl rfl ⟨by decide, by decide⟩ (Nat.le_of_ble_eq_true rfl) (by rw [hG.mc]; exact Nat.le_of_ble_eq_true rfl) (by rw [hG.ms]; exact Nat.le_of_ble_eq_true rfl) dL_isSo_281 ?_
                                refine ⟨L, S, k, 0, rfl, hR, hI, hk20, by decide, ?_⟩
                                refine x_aload_n hG (pc := 284) 0 dL_isSo_284 rfl rfl ?_
                                refine x_iload hG (pc := 285) dL_isSo_285 rfl ?_
                                refine x_iconst hG (pc := 287) 1 dL_isSo_287 (by decide) ?_
                                refine x_callV hG hO (pc := 288) [_, _] v_X6_known lk_L_111 hR.main rfl rfl ⟨by decide, by decide⟩ (Nat.le_of_ble_eq_true rfl) (by rw [hG.mc]; exact Nat.le_of_ble_eq_true rfl) (by rw [hG.ms]; exact Nat.le_of_ble_eq_true rfl) dL_isSo_288 ?_
                                refine ⟨L, S, k, 1, rfl, hR, hI, hk20, by decide, ?_⟩
                                refine x_iadd hG (pc := 291) dL_isSo_291 ?_
                                refine x_aload_n hG (pc := 292) 0 dL_isSo_292 rfl rfl ?_
                                refine x_iload hG (pc := 293) dL_isSo_293 rfl ?_
                                refine x_iconst hG (pc := 295) 2 dL_isSo_295 (by decide) ?_
                                refine x_callV hG hO (pc := 296) [_, _] v_X6_known lk_L_111 hR.main rfl rfl ⟨by decide, by decide⟩ (Nat.le_of_ble_eq_true rfl) (by rw [hG.mc]; exact Nat.le_of_ble_eq_true rfl) (by rw [hG.ms]; exact Nat.le_of_ble_eq_true rfl) dL_isSo_296 ?_
                                refine ⟨L, S, k, 2, rfl, hR, hI, hk20, by decide, ?_⟩
                                refine x_iadd hG (pc := 299) dL_isSo_299 ?_
                                refine x_if_gt hG (pc := 300) 317 dL_isSo_300 (by decide) (fun h300 => ?_) (fun h300 => ?_)
                                · exact absurd h300 (c2 h274)
                                · exact K303
                            refine x_aload_n hG (pc := 246) 0 dL_isSo_246 rfl rfl ?_
                            refine x_iload hG (pc := 247) dL_isSo_247 rfl ?_
                            refine x_iconst hG (pc := 249) 1 dL_isSo_249 (by decide) ?_
                            refine x_callV hG hO (pc := 250) [_, _] v_X6_known lk_L_111 hR.main rfl rfl ⟨by decide, by decide⟩ (Nat.le_of_ble_eq_true rfl) (by rw [hG.mc]; exact Nat.le_of_ble_eq_true rfl) (by rw [hG.ms]; exact Nat.le_of_ble_eq_true rfl) dL_isSo_250 ?_
                            refine ⟨L, S, k, 1, rfl, hR, hI, hk20, by decide, ?_⟩
                            refine x_if_le hG (pc := 253) 267 dL_isSo_253 (by decide) (fun h253 => ?_) (fun h253 => ?_)
                            · exact K267
                            · refine x_aload_n hG (pc := 256) 0 dL_isSo_256 rfl rfl ?_
                              refine x_iload hG (pc := 257) dL_isSo_257 rfl ?_
                              refine x_iconst hG (pc := 259) 1 dL_isSo_259 (by decide) ?_
                              refine x_callV hG hO (pc := 260) [_, _] v_X6_known lk_L_111 hR.main rfl rfl ⟨by decide, by decide⟩ (Nat.le_of_ble_eq_true rfl) (by rw [hG.mc]; exact Nat.le_of_ble_eq_true rfl) (by rw [hG.ms]; exact Nat.le_of_ble_eq_true rfl) dL_isSo_260 ?_
                              refine ⟨L, S, k, 1, rfl, hR, hI, hk20, by decide, ?_⟩
                              refine x_iconst hG (pc := 263) 5 dL_isSo_263 (by decide) ?_
                              refine x_icmp_lt hG (pc := 264) 317 dL_isSo_264 (by decide) (fun h264 => ?_) (fun h264 => ?_)
                              · exact absurd h264 (c1 h253)
                              · exact K267
                      · exact absurd a9 h174
abbrev hL_work : List (Nat × Nat × Nat × Nat) := [(0, 7, 8, 109)]
set_option maxHeartbeats 400000 in
set_option maxRecDepth 100000 in
theorem c_L_work : CtrHA yL_work cL_work 5 (some .int) hL_work (rmk 9 6 60 351) (fun Γ av w post xpost => ∃ (L : LayC) (S : St), ∃ p i m, av = [.ref (thC L), .int p, .int i, .int m] ∧ RepC Γ L S w ∧ Inv S ∧ ((oWor S p i m).1 = 0 ∨ (oWor S p i m).1 = 3) ∧ ((oWor S p i m).1 = 0 → ∀ (L1 : LayC) (w1 : Wd), thC L1 = thC L → RepC Γ L1 (oWor S p i m).2.2 w1 → FrM w w1 → post (some (.int (oWor S p i m).2.1)) w1) ∧ ((oWor S p i m).1 = 3 → post (some (.int (-1))) w)) := by
  refine ctr_ofH (by decide) ?_
  rintro g av w hG hH ⟨L, S, p, i, m, rfl, hR, hI, h03, k0, k3⟩
  refine ⟨Nat.le_of_ble_eq_true rfl, ?_⟩
  show X g w 0 0 0 [some (.ref (thC L)), some (.int p), some (.int i), some (.int m), none] []
  refine x_aload_n hG (pc := 0) 0 dL_work_0 rfl rfl ?_
  refine x_iload_n hG (pc := 1) 1 dL_work_1 rfl rfl ?_
  refine x_iload_n hG (pc := 2) 2 dL_work_2 rfl rfl ?_
  refine x_iload_n hG (pc := 3) 3 dL_work_3 rfl rfl ?_
  refine x_callVH hG hH (pc := 4) [_, _, _] c_X6_work lk_L_107 hR.main rfl rfl ⟨Nat.le_of_ble_eq_true rfl, Nat.le_of_ble_eq_true rfl⟩ (Nat.le_of_ble_eq_true rfl) (by rw [hG.mc]; exact Nat.le_of_ble_eq_true rfl) (by rw [hG.ms]; exact Nat.le_of_ble_eq_true rfl) dL_work_4 ?_
  refine ⟨L, S, p, i, m, rfl, hR, hI, ⟨fun h0 L1 w1 hth hR1 hF1 => ?_, fun k E hk1 hE => ?_⟩⟩
  · show X g w1 _ _ 7 _ [.int (oWor S p i m).2.1]
    refine x_ireturn hG (pc := 7) dL_work_7 rfl rfl (by rw [hG.mc]; exact Nat.le_of_ble_eq_true rfl) (by rw [hG.ms]; exact Nat.le_of_ble_eq_true rfl) ?_
    exact k0 h0 L1 w1 hth hR1 hF1
  · have h3 : k = 2 := by omega
    subst h3
    obtain rfl : xS = E := Option.some.inj hE
    refine ⟨[], (0, 7, 8, 109), [], rfl, ⟨⟨by decide, by decide, by decide, ckl_L_109⟩, fun z hz => absurd hz List.not_mem_nil⟩, fun q9 => ?_⟩
    refine x_astore hG (pc := 8) dL_work_8 (Nat.le_of_ble_eq_true rfl) rfl (by dsimp only [List.set]) ?_
    refine x_iconst hG (pc := 10) (-1) dL_work_10 (by decide) ?_
    refine x_ireturn hG (pc := 11) dL_work_11 rfl rfl (by rw [hG.mc]; exact Nat.le_of_ble_eq_true rfl) (by rw [hG.ms]; exact Nat.le_of_ble_eq_true rfl) ?_
    exact k3 hk1
set_option maxRecDepth 100000 in
theorem lk_L_61 : LkSH RL 61 yL_work cL_work 5 (some .int) hL_work 4 := ⟨(TB_4 50 rfl rfl), (TB_4 51 rfl rfl), (TB_1 0 rfl rfl), (TB_4 52 rfl rfl), ⟨⟨by decide, by decide⟩, by decide +kernel⟩⟩
